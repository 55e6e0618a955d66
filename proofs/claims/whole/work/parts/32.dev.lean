/-! cases with devices -/
theorem q_has {A : Ad} {σ : St} {j : Nat} (W : WF A σ) (P : PI σ) (hj : j < gL σ 2) : (gR σ 2 3 j = 0 ∧ gV σ 103 j 0 = -1) ∨ ∃ b, b < gL σ 1 ∧ gR σ 2 3 j = b + 1 ∧ gV σ 103 j 0 = nI b := by
  have h1 := (P.2.2.1.1 j hj).2.2.2.1
  cases hR : gR σ 2 3 j with
  | zero => exact Or.inl ⟨rfl, by rw [h1, hR]; rfl⟩
  | succ b =>
    refine Or.inr ⟨b, ?_, rfl, by rw [h1, hR, nI_pred]⟩
    have := W.2.2 2 3 j hj
    rw [hR] at this
    have h2 : b + 1 ≤ gL σ 1 + 0 := this
    omega
theorem nI_nm1 {b : Nat} (h : b ≤ 40) : (nI b = -1) = False := by
  refine eq_false (fun z => ?_)
  have := congrArg Int32.toInt z
  rw [nI_toInt (by omega)] at this
  have e : (-1 : Int32).toInt = -1 := by decide
  omega
theorem band1 (x y : Int32) (s : Int32) : (((x &&& y) >>> s) &&& 1 = 1) = ((x >>> s) &&& 1 = 1 ∧ (y >>> s) &&& 1 = 1) := by
  have e : (x &&& y) >>> s = (x >>> s) &&& (y >>> s) := Int32.toBitVec_inj.mp (by simp [BitVec.sshiftRight_and_distrib])
  rw [e]
  generalize x >>> s = a
  generalize y >>> s = b
  have k : ∀ c : Int32, c &&& 1 = nI (c.toBitVec.toNat % 2) := fun c => pk_and c 1 (by decide)
  have k1 : ∀ c : Int32, (c &&& 1 = 1) = (c.toBitVec.toNat % 2 = 1) := fun c => by
    rw [k c]
    have h2 : c.toBitVec.toNat % 2 < 2 := Nat.mod_lt _ (by decide)
    exact propext (nI_eq (b := 1) (by omega) (by omega))
  rw [k1, k1, k1]
  have e2 : (a &&& b).toBitVec.toNat = a.toBitVec.toNat &&& b.toBitVec.toNat := by simp
  rw [e2]
  exact propext Nat.and_mod_two_eq_one
section CD
variable {X : Cx} {xs : Nat → Int32} {Ls b i : Nat} {v1 v2 v3 v4 : Option Nat} {g : GM}
theorem p_20 (hin : ∀ j : Nat, j < 7 → vp_in (Int32.ofNat (7 * i) + Int32.ofNat j) Ls) (h : LIv X v1 v2 v3 v4 g) : w_law_20 X xs Ls b (LIv X v1 v2 v3 v4) v1 v2 v3 v4 (Int32.ofNat (7 * i)) g := by
  obtain ⟨A, σ, W, hx, P, rfl, rfl, rfl, rfl, rfl⟩ := h
  have Q := P.1
  have u1 : vp_in (Int32.ofNat (7 * i) + 1) Ls := hin 1 (by decide)
  have u2 : vp_in (Int32.ofNat (7 * i) + 2) Ls := hin 2 (by decide)
  have u3 : vp_in (Int32.ofNat (7 * i) + 3) Ls := hin 3 (by decide)
  have hL := P.2.2.2.2.2.2.2.1
  have h21 : gV σ 8 6 0 = nI (gL σ 2) := P.2.1.1.1
  have h10 : gL σ 2 ≤ 12 := P.2.1.2.2.2.2.2.2.2.1
  unfold w_law_20
  generalize xs (Int32.ofNat (7 * i) + 1).toNatClampNeg = v
  have hd := q_ix v (show gL σ 2 ≤ 40 by omega)
  rcases hd with hc | ⟨j, hj, rfl⟩
  · simp (config := { decide := true, maxSteps := 1000000 }) only [w_law_20, w_L_law_b1562, w_L_buildOf, w_X7_buildOf, w_X8_buildOf_b46, w_X8_buildOf_b26, w_X8_buildOf, w_X8_thrown, w_X8_noDevice_b29, w_X8_noDevice_b14, w_X8_noDevice, w_X8_isDevice, w_X7_buildHadBy, u1, u2, u3, q_kd, q_in, q_out, true_and, and_true, if_true, if_false, reduceIte, and_self, false_and, and_false, or_false, false_or, true_or, or_true, not_true_eq_false, not_false_eq_true, ne_eq, e_Is, e_GetI, e_GetF, e_PutI, e_PutF, e_PutR, e_Ald, e_Ast, e_Aldq, e_AldJ, e_AstJ, e_AldD, e_AstD, gL_sV, gV_sV, gR_sV, gN_sV, gJ_sV, gD_sV, gL_sR, gV_sR, gR_sR, gN_sR, gJ_sR, gD_sR, gL_sJ, gV_sJ, gR_sJ, gN_sJ, gJ_sJ, gL_sD, gV_sD, gR_sD, gN_sD, gD_sD, hr_0, hr_s, WF_sV, WF_sJ, WF_sD, gL_sF, gV_sF, gR_sF, gN_sF, gL_sG, gV_sG, gR_sG, gN_sG, WF_sF, eR_1_2, eR_1_5, eR_1_6, eR_2_3, eR_3_2, eR_4_1, eR_6_0, eR_9_0, eR_20_0, eR_22_0, sL_7, sL_8, sL_60, sL_61, sN_60, sN_61, s7_0, s7_1, s7_2, s7_3, s7_4, s7_5, s7_6, sL_100, s8_0, sN_100, sL_101, s8_1, sN_101, sL_102, s8_2, sN_102, sL_103, s8_3, sN_103, sL_104, s8_4, sN_104, sL_105, s8_5, sN_105, sL_107, s8_7, sN_107, sL_108, s8_8, sN_108, sL_109, s8_9, sN_109, sL_110, s8_10, sN_110, sL_111, s8_11, sN_111, sL_112, s8_12, sN_112, sL_113, s8_13, sN_113, sL_114, s8_14, sN_114, sL_115, s8_15, sN_115, sL_116, s8_16, sN_116, sL_117, s8_17, sN_117, sL_118, s8_18, sN_118, sL_119, s8_19, sN_119, sL_120, s8_20, sN_120, sL_127, s8_27, sN_127, sL_128, s8_28, sN_128, sL_129, s8_29, sN_129, sL_130, s8_30, sN_130, sL_132, s8_32, sN_132, P0_sV, P0_sJ, P0_sD, W, Q, cmpS, hL, h21, h10, nb0, nb1, nc_32, reduceCtorEq, if_pos hc]
    refine LIv_of ?_ hx ?_
    · exact W
    · exact P
  · have hc := q_nb hj (show gL σ 2 ≤ 40 by omega)
    have hcl : (nI j).toNatClampNeg = j := nI_clamp (by omega)
    have hv : vp_in (nI j) 12 := vp_in_nI (by omega) (by omega)
    have hb1 : gL σ 1 ≤ 10 := P.2.1.2.2.2.2.2.2.2.2.1
    rcases q_has W P hj with ⟨hR, hm⟩ | ⟨q, hq, hR, hm⟩
    · simp (config := { decide := true, maxSteps := 1000000 }) only [w_law_20, w_L_law_b1562, w_L_buildOf, w_X7_buildOf, w_X8_buildOf_b46, w_X8_buildOf_b26, w_X8_buildOf, w_X8_thrown, w_X8_noDevice_b29, w_X8_noDevice_b14, w_X8_noDevice, w_X8_isDevice, w_X7_buildHadBy, u1, u2, u3, q_kd, q_in, q_out, true_and, and_true, if_true, if_false, reduceIte, and_self, false_and, and_false, or_false, false_or, true_or, or_true, not_true_eq_false, not_false_eq_true, ne_eq, e_Is, e_GetI, e_GetF, e_PutI, e_PutF, e_PutR, e_Ald, e_Ast, e_Aldq, e_AldJ, e_AstJ, e_AldD, e_AstD, gL_sV, gV_sV, gR_sV, gN_sV, gJ_sV, gD_sV, gL_sR, gV_sR, gR_sR, gN_sR, gJ_sR, gD_sR, gL_sJ, gV_sJ, gR_sJ, gN_sJ, gJ_sJ, gL_sD, gV_sD, gR_sD, gN_sD, gD_sD, hr_0, hr_s, WF_sV, WF_sJ, WF_sD, gL_sF, gV_sF, gR_sF, gN_sF, gL_sG, gV_sG, gR_sG, gN_sG, WF_sF, eR_1_2, eR_1_5, eR_1_6, eR_2_3, eR_3_2, eR_4_1, eR_6_0, eR_9_0, eR_20_0, eR_22_0, sL_7, sL_8, sL_60, sL_61, sN_60, sN_61, s7_0, s7_1, s7_2, s7_3, s7_4, s7_5, s7_6, sL_100, s8_0, sN_100, sL_101, s8_1, sN_101, sL_102, s8_2, sN_102, sL_103, s8_3, sN_103, sL_104, s8_4, sN_104, sL_105, s8_5, sN_105, sL_107, s8_7, sN_107, sL_108, s8_8, sN_108, sL_109, s8_9, sN_109, sL_110, s8_10, sN_110, sL_111, s8_11, sN_111, sL_112, s8_12, sN_112, sL_113, s8_13, sN_113, sL_114, s8_14, sN_114, sL_115, s8_15, sN_115, sL_116, s8_16, sN_116, sL_117, s8_17, sN_117, sL_118, s8_18, sN_118, sL_119, s8_19, sN_119, sL_120, s8_20, sN_120, sL_127, s8_27, sN_127, sL_128, s8_28, sN_128, sL_129, s8_29, sN_129, sL_130, s8_30, sN_130, sL_132, s8_32, sN_132, P0_sV, P0_sJ, P0_sD, W, Q, cmpS, hL, h21, h10, nb0, nb1, nc_32, reduceCtorEq, if_neg hc, hcl, hv, hj, hR, hm]
      refine LIv_of ?_ hx ?_
      · exact W
      · exact P
    · have hn := (P.2.2.2.1.1 q hq).1
      have hx1 := nI_nm1 (show q ≤ 40 by omega)
      simp (config := { decide := true, maxSteps := 1000000 }) only [w_law_20, w_L_law_b1562, w_L_buildOf, w_X7_buildOf, w_X8_buildOf_b46, w_X8_buildOf_b26, w_X8_buildOf, w_X8_thrown, w_X8_noDevice_b29, w_X8_noDevice_b14, w_X8_noDevice, w_X8_isDevice, w_X7_buildHadBy, u1, u2, u3, q_kd, q_in, q_out, true_and, and_true, if_true, if_false, reduceIte, and_self, false_and, and_false, or_false, false_or, true_or, or_true, not_true_eq_false, not_false_eq_true, ne_eq, e_Is, e_GetI, e_GetF, e_PutI, e_PutF, e_PutR, e_Ald, e_Ast, e_Aldq, e_AldJ, e_AstJ, e_AldD, e_AstD, gL_sV, gV_sV, gR_sV, gN_sV, gJ_sV, gD_sV, gL_sR, gV_sR, gR_sR, gN_sR, gJ_sR, gD_sR, gL_sJ, gV_sJ, gR_sJ, gN_sJ, gJ_sJ, gL_sD, gV_sD, gR_sD, gN_sD, gD_sD, hr_0, hr_s, WF_sV, WF_sJ, WF_sD, gL_sF, gV_sF, gR_sF, gN_sF, gL_sG, gV_sG, gR_sG, gN_sG, WF_sF, eR_1_2, eR_1_5, eR_1_6, eR_2_3, eR_3_2, eR_4_1, eR_6_0, eR_9_0, eR_20_0, eR_22_0, sL_7, sL_8, sL_60, sL_61, sN_60, sN_61, s7_0, s7_1, s7_2, s7_3, s7_4, s7_5, s7_6, sL_100, s8_0, sN_100, sL_101, s8_1, sN_101, sL_102, s8_2, sN_102, sL_103, s8_3, sN_103, sL_104, s8_4, sN_104, sL_105, s8_5, sN_105, sL_107, s8_7, sN_107, sL_108, s8_8, sN_108, sL_109, s8_9, sN_109, sL_110, s8_10, sN_110, sL_111, s8_11, sN_111, sL_112, s8_12, sN_112, sL_113, s8_13, sN_113, sL_114, s8_14, sN_114, sL_115, s8_15, sN_115, sL_116, s8_16, sN_116, sL_117, s8_17, sN_117, sL_118, s8_18, sN_118, sL_119, s8_19, sN_119, sL_120, s8_20, sN_120, sL_127, s8_27, sN_127, sL_128, s8_28, sN_128, sL_129, s8_29, sN_129, sL_130, s8_30, sN_130, sL_132, s8_32, sN_132, P0_sV, P0_sJ, P0_sD, W, Q, cmpS, hL, h21, h10, nb0, nb1, nc_32, reduceCtorEq, if_neg hc, hcl, hv, hj, hR, hm, hx1, hn, hq]
      refine LIv_of ?_ hx ?_
      · exact W
      · exact P
theorem p_38 (hin : ∀ j : Nat, j < 7 → vp_in (Int32.ofNat (7 * i) + Int32.ofNat j) Ls) (h : LIv X v1 v2 v3 v4 g) : w_law_38 X xs Ls b (LIv X v1 v2 v3 v4) v1 v2 v3 v4 (Int32.ofNat (7 * i)) g := by
  obtain ⟨A, σ, W, hx, P, rfl, rfl, rfl, rfl, rfl⟩ := h
  have Q := P.1
  have u1 : vp_in (Int32.ofNat (7 * i) + 1) Ls := hin 1 (by decide)
  have u2 : vp_in (Int32.ofNat (7 * i) + 2) Ls := hin 2 (by decide)
  have u3 : vp_in (Int32.ofNat (7 * i) + 3) Ls := hin 3 (by decide)
  have hL := P.2.2.2.2.2.2.2.1
  have h21 : gV σ 8 6 0 = nI (gL σ 2) := P.2.1.1.1
  have h10 : gL σ 2 ≤ 12 := P.2.1.2.2.2.2.2.2.2.1
  unfold w_law_38
  generalize xs (Int32.ofNat (7 * i) + 1).toNatClampNeg = v
  generalize xs (Int32.ofNat (7 * i) + 2).toNatClampNeg = w
  have hd := q_ix v (show gL σ 2 ≤ 40 by omega)
  rcases hd with hc | ⟨j, hj, rfl⟩
  · simp (config := { decide := true, maxSteps := 1000000 }) only [w_law_38, w_L_law_b2648, w_L_law_b2642, w_L_owns_b16, w_L_owns, w_X7_owns, w_X8_owns_b27, w_X8_owns_b26, w_X8_owns, w_X8_thrown, w_X8_noItem_b43, w_X8_noItem_b28, w_X8_noItem, w_X8_isDevice, w_X7_refuseUnknownItem, w_X7_isIn_b14, w_X7_isIn, w_X8_has_b14, w_X8_has, u1, u2, u3, q_kd, q_in, q_out, true_and, and_true, if_true, if_false, reduceIte, and_self, false_and, and_false, or_false, false_or, true_or, or_true, not_true_eq_false, not_false_eq_true, ne_eq, e_Is, e_GetI, e_GetF, e_PutI, e_PutF, e_PutR, e_Ald, e_Ast, e_Aldq, e_AldJ, e_AstJ, e_AldD, e_AstD, gL_sV, gV_sV, gR_sV, gN_sV, gJ_sV, gD_sV, gL_sR, gV_sR, gR_sR, gN_sR, gJ_sR, gD_sR, gL_sJ, gV_sJ, gR_sJ, gN_sJ, gJ_sJ, gL_sD, gV_sD, gR_sD, gN_sD, gD_sD, hr_0, hr_s, WF_sV, WF_sJ, WF_sD, gL_sF, gV_sF, gR_sF, gN_sF, gL_sG, gV_sG, gR_sG, gN_sG, WF_sF, eR_1_2, eR_1_5, eR_1_6, eR_2_3, eR_3_2, eR_4_1, eR_6_0, eR_9_0, eR_20_0, eR_22_0, sL_7, sL_8, sL_60, sL_61, sN_60, sN_61, s7_0, s7_1, s7_2, s7_3, s7_4, s7_5, s7_6, sL_100, s8_0, sN_100, sL_101, s8_1, sN_101, sL_102, s8_2, sN_102, sL_103, s8_3, sN_103, sL_104, s8_4, sN_104, sL_105, s8_5, sN_105, sL_107, s8_7, sN_107, sL_108, s8_8, sN_108, sL_109, s8_9, sN_109, sL_110, s8_10, sN_110, sL_111, s8_11, sN_111, sL_112, s8_12, sN_112, sL_113, s8_13, sN_113, sL_114, s8_14, sN_114, sL_115, s8_15, sN_115, sL_116, s8_16, sN_116, sL_117, s8_17, sN_117, sL_118, s8_18, sN_118, sL_119, s8_19, sN_119, sL_120, s8_20, sN_120, sL_127, s8_27, sN_127, sL_128, s8_28, sN_128, sL_129, s8_29, sN_129, sL_130, s8_30, sN_130, sL_132, s8_32, sN_132, P0_sV, P0_sJ, P0_sD, W, Q, cmpS, hL, h21, h10, nb0, nb1, nc_32, reduceCtorEq, if_pos hc]
    refine LIv_of ?_ hx ?_
    · exact W
    · exact P
  · have hc := q_nb hj (show gL σ 2 ≤ 40 by omega)
    have hcl : (nI j).toNatClampNeg = j := nI_clamp (by omega)
    have hv : vp_in (nI j) 12 := vp_in_nI (by omega) (by omega)
    have hb1 : gL σ 1 ≤ 10 := P.2.1.2.2.2.2.2.2.2.2.1
    have hf := (P.2.2.1.1 j hj).2.2.2.2.1
    by_cases hw : w < 0 ∨ 7 < w
    · simp (config := { decide := true, maxSteps := 1000000 }) only [w_law_38, w_L_law_b2648, w_L_law_b2642, w_L_owns_b16, w_L_owns, w_X7_owns, w_X8_owns_b27, w_X8_owns_b26, w_X8_owns, w_X8_thrown, w_X8_noItem_b43, w_X8_noItem_b28, w_X8_noItem, w_X8_isDevice, w_X7_refuseUnknownItem, w_X7_isIn_b14, w_X7_isIn, w_X8_has_b14, w_X8_has, u1, u2, u3, q_kd, q_in, q_out, true_and, and_true, if_true, if_false, reduceIte, and_self, false_and, and_false, or_false, false_or, true_or, or_true, not_true_eq_false, not_false_eq_true, ne_eq, e_Is, e_GetI, e_GetF, e_PutI, e_PutF, e_PutR, e_Ald, e_Ast, e_Aldq, e_AldJ, e_AstJ, e_AldD, e_AstD, gL_sV, gV_sV, gR_sV, gN_sV, gJ_sV, gD_sV, gL_sR, gV_sR, gR_sR, gN_sR, gJ_sR, gD_sR, gL_sJ, gV_sJ, gR_sJ, gN_sJ, gJ_sJ, gL_sD, gV_sD, gR_sD, gN_sD, gD_sD, hr_0, hr_s, WF_sV, WF_sJ, WF_sD, gL_sF, gV_sF, gR_sF, gN_sF, gL_sG, gV_sG, gR_sG, gN_sG, WF_sF, eR_1_2, eR_1_5, eR_1_6, eR_2_3, eR_3_2, eR_4_1, eR_6_0, eR_9_0, eR_20_0, eR_22_0, sL_7, sL_8, sL_60, sL_61, sN_60, sN_61, s7_0, s7_1, s7_2, s7_3, s7_4, s7_5, s7_6, sL_100, s8_0, sN_100, sL_101, s8_1, sN_101, sL_102, s8_2, sN_102, sL_103, s8_3, sN_103, sL_104, s8_4, sN_104, sL_105, s8_5, sN_105, sL_107, s8_7, sN_107, sL_108, s8_8, sN_108, sL_109, s8_9, sN_109, sL_110, s8_10, sN_110, sL_111, s8_11, sN_111, sL_112, s8_12, sN_112, sL_113, s8_13, sN_113, sL_114, s8_14, sN_114, sL_115, s8_15, sN_115, sL_116, s8_16, sN_116, sL_117, s8_17, sN_117, sL_118, s8_18, sN_118, sL_119, s8_19, sN_119, sL_120, s8_20, sN_120, sL_127, s8_27, sN_127, sL_128, s8_28, sN_128, sL_129, s8_29, sN_129, sL_130, s8_30, sN_130, sL_132, s8_32, sN_132, P0_sV, P0_sJ, P0_sD, W, Q, cmpS, hL, h21, h10, nb0, nb1, nc_32, reduceCtorEq, if_neg hc, hcl, hv, hj, if_pos hw]
      refine LIv_of ?_ hx ?_
      · exact W
      · exact P
    · by_cases hbit : (gV σ 104 j 0 >>> (w &&& 31)) &&& 1 = 1
      · simp (config := { decide := true, maxSteps := 1000000 }) only [w_law_38, w_L_law_b2648, w_L_law_b2642, w_L_owns_b16, w_L_owns, w_X7_owns, w_X8_owns_b27, w_X8_owns_b26, w_X8_owns, w_X8_thrown, w_X8_noItem_b43, w_X8_noItem_b28, w_X8_noItem, w_X8_isDevice, w_X7_refuseUnknownItem, w_X7_isIn_b14, w_X7_isIn, w_X8_has_b14, w_X8_has, u1, u2, u3, q_kd, q_in, q_out, true_and, and_true, if_true, if_false, reduceIte, and_self, false_and, and_false, or_false, false_or, true_or, or_true, not_true_eq_false, not_false_eq_true, ne_eq, e_Is, e_GetI, e_GetF, e_PutI, e_PutF, e_PutR, e_Ald, e_Ast, e_Aldq, e_AldJ, e_AstJ, e_AldD, e_AstD, gL_sV, gV_sV, gR_sV, gN_sV, gJ_sV, gD_sV, gL_sR, gV_sR, gR_sR, gN_sR, gJ_sR, gD_sR, gL_sJ, gV_sJ, gR_sJ, gN_sJ, gJ_sJ, gL_sD, gV_sD, gR_sD, gN_sD, gD_sD, hr_0, hr_s, WF_sV, WF_sJ, WF_sD, gL_sF, gV_sF, gR_sF, gN_sF, gL_sG, gV_sG, gR_sG, gN_sG, WF_sF, eR_1_2, eR_1_5, eR_1_6, eR_2_3, eR_3_2, eR_4_1, eR_6_0, eR_9_0, eR_20_0, eR_22_0, sL_7, sL_8, sL_60, sL_61, sN_60, sN_61, s7_0, s7_1, s7_2, s7_3, s7_4, s7_5, s7_6, sL_100, s8_0, sN_100, sL_101, s8_1, sN_101, sL_102, s8_2, sN_102, sL_103, s8_3, sN_103, sL_104, s8_4, sN_104, sL_105, s8_5, sN_105, sL_107, s8_7, sN_107, sL_108, s8_8, sN_108, sL_109, s8_9, sN_109, sL_110, s8_10, sN_110, sL_111, s8_11, sN_111, sL_112, s8_12, sN_112, sL_113, s8_13, sN_113, sL_114, s8_14, sN_114, sL_115, s8_15, sN_115, sL_116, s8_16, sN_116, sL_117, s8_17, sN_117, sL_118, s8_18, sN_118, sL_119, s8_19, sN_119, sL_120, s8_20, sN_120, sL_127, s8_27, sN_127, sL_128, s8_28, sN_128, sL_129, s8_29, sN_129, sL_130, s8_30, sN_130, sL_132, s8_32, sN_132, P0_sV, P0_sJ, P0_sD, W, Q, cmpS, hL, h21, h10, nb0, nb1, nc_32, reduceCtorEq, if_neg hc, hcl, hv, hj, if_neg hw, hf, if_pos hbit]
        refine LIv_of ?_ hx ?_
        · exact W
        · exact P
      · simp (config := { decide := true, maxSteps := 1000000 }) only [w_law_38, w_L_law_b2648, w_L_law_b2642, w_L_owns_b16, w_L_owns, w_X7_owns, w_X8_owns_b27, w_X8_owns_b26, w_X8_owns, w_X8_thrown, w_X8_noItem_b43, w_X8_noItem_b28, w_X8_noItem, w_X8_isDevice, w_X7_refuseUnknownItem, w_X7_isIn_b14, w_X7_isIn, w_X8_has_b14, w_X8_has, u1, u2, u3, q_kd, q_in, q_out, true_and, and_true, if_true, if_false, reduceIte, and_self, false_and, and_false, or_false, false_or, true_or, or_true, not_true_eq_false, not_false_eq_true, ne_eq, e_Is, e_GetI, e_GetF, e_PutI, e_PutF, e_PutR, e_Ald, e_Ast, e_Aldq, e_AldJ, e_AstJ, e_AldD, e_AstD, gL_sV, gV_sV, gR_sV, gN_sV, gJ_sV, gD_sV, gL_sR, gV_sR, gR_sR, gN_sR, gJ_sR, gD_sR, gL_sJ, gV_sJ, gR_sJ, gN_sJ, gJ_sJ, gL_sD, gV_sD, gR_sD, gN_sD, gD_sD, hr_0, hr_s, WF_sV, WF_sJ, WF_sD, gL_sF, gV_sF, gR_sF, gN_sF, gL_sG, gV_sG, gR_sG, gN_sG, WF_sF, eR_1_2, eR_1_5, eR_1_6, eR_2_3, eR_3_2, eR_4_1, eR_6_0, eR_9_0, eR_20_0, eR_22_0, sL_7, sL_8, sL_60, sL_61, sN_60, sN_61, s7_0, s7_1, s7_2, s7_3, s7_4, s7_5, s7_6, sL_100, s8_0, sN_100, sL_101, s8_1, sN_101, sL_102, s8_2, sN_102, sL_103, s8_3, sN_103, sL_104, s8_4, sN_104, sL_105, s8_5, sN_105, sL_107, s8_7, sN_107, sL_108, s8_8, sN_108, sL_109, s8_9, sN_109, sL_110, s8_10, sN_110, sL_111, s8_11, sN_111, sL_112, s8_12, sN_112, sL_113, s8_13, sN_113, sL_114, s8_14, sN_114, sL_115, s8_15, sN_115, sL_116, s8_16, sN_116, sL_117, s8_17, sN_117, sL_118, s8_18, sN_118, sL_119, s8_19, sN_119, sL_120, s8_20, sN_120, sL_127, s8_27, sN_127, sL_128, s8_28, sN_128, sL_129, s8_29, sN_129, sL_130, s8_30, sN_130, sL_132, s8_32, sN_132, P0_sV, P0_sJ, P0_sD, W, Q, cmpS, hL, h21, h10, nb0, nb1, nc_32, reduceCtorEq, if_neg hc, hcl, hv, hj, if_neg hw, hf, if_neg hbit]
        refine LIv_of ?_ hx ?_
        · exact W
        · exact P
theorem p_39 (hin : ∀ j : Nat, j < 7 → vp_in (Int32.ofNat (7 * i) + Int32.ofNat j) Ls) (h : LIv X v1 v2 v3 v4 g) : w_law_39 X xs Ls b (LIv X v1 v2 v3 v4) v1 v2 v3 v4 (Int32.ofNat (7 * i)) g := by
  obtain ⟨A, σ, W, hx, P, rfl, rfl, rfl, rfl, rfl⟩ := h
  have Q := P.1
  have u1 : vp_in (Int32.ofNat (7 * i) + 1) Ls := hin 1 (by decide)
  have u2 : vp_in (Int32.ofNat (7 * i) + 2) Ls := hin 2 (by decide)
  have u3 : vp_in (Int32.ofNat (7 * i) + 3) Ls := hin 3 (by decide)
  have hL := P.2.2.2.2.2.2.2.1
  have h21 : gV σ 8 6 0 = nI (gL σ 2) := P.2.1.1.1
  have h10 : gL σ 2 ≤ 12 := P.2.1.2.2.2.2.2.2.2.1
  unfold w_law_39
  generalize xs (Int32.ofNat (7 * i) + 1).toNatClampNeg = v
  generalize xs (Int32.ofNat (7 * i) + 2).toNatClampNeg = w
  have hd := q_ix v (show gL σ 2 ≤ 40 by omega)
  rcases hd with hc | ⟨j, hj, rfl⟩
  · simp (config := { decide := true, maxSteps := 1000000 }) only [w_law_39, w_L_law_b2723, w_L_law_b2717, w_L_canUse_b16, w_L_canUse, w_X7_canUse, w_X8_canUse_b36, w_X8_canUse_b35, w_X8_canUse, w_X8_thrown, w_X8_noItem_b43, w_X8_noItem_b28, w_X8_noItem, w_X8_isDevice, w_X7_refuseUnknownItem, w_X7_isIn_b14, w_X7_isIn, w_X8_has_b14, w_X8_has, w_X2_usableItems_b26, w_X2_usableItems, w_X8_sells_b33, w_X8_sells_b32, w_X8_sells, u1, u2, u3, q_kd, q_in, q_out, true_and, and_true, if_true, if_false, reduceIte, and_self, false_and, and_false, or_false, false_or, true_or, or_true, not_true_eq_false, not_false_eq_true, ne_eq, e_Is, e_GetI, e_GetF, e_PutI, e_PutF, e_PutR, e_Ald, e_Ast, e_Aldq, e_AldJ, e_AstJ, e_AldD, e_AstD, gL_sV, gV_sV, gR_sV, gN_sV, gJ_sV, gD_sV, gL_sR, gV_sR, gR_sR, gN_sR, gJ_sR, gD_sR, gL_sJ, gV_sJ, gR_sJ, gN_sJ, gJ_sJ, gL_sD, gV_sD, gR_sD, gN_sD, gD_sD, hr_0, hr_s, WF_sV, WF_sJ, WF_sD, gL_sF, gV_sF, gR_sF, gN_sF, gL_sG, gV_sG, gR_sG, gN_sG, WF_sF, eR_1_2, eR_1_5, eR_1_6, eR_2_3, eR_3_2, eR_4_1, eR_6_0, eR_9_0, eR_20_0, eR_22_0, sL_7, sL_8, sL_60, sL_61, sN_60, sN_61, s7_0, s7_1, s7_2, s7_3, s7_4, s7_5, s7_6, sL_100, s8_0, sN_100, sL_101, s8_1, sN_101, sL_102, s8_2, sN_102, sL_103, s8_3, sN_103, sL_104, s8_4, sN_104, sL_105, s8_5, sN_105, sL_107, s8_7, sN_107, sL_108, s8_8, sN_108, sL_109, s8_9, sN_109, sL_110, s8_10, sN_110, sL_111, s8_11, sN_111, sL_112, s8_12, sN_112, sL_113, s8_13, sN_113, sL_114, s8_14, sN_114, sL_115, s8_15, sN_115, sL_116, s8_16, sN_116, sL_117, s8_17, sN_117, sL_118, s8_18, sN_118, sL_119, s8_19, sN_119, sL_120, s8_20, sN_120, sL_127, s8_27, sN_127, sL_128, s8_28, sN_128, sL_129, s8_29, sN_129, sL_130, s8_30, sN_130, sL_132, s8_32, sN_132, P0_sV, P0_sJ, P0_sD, W, Q, cmpS, hL, h21, h10, nb0, nb1, nc_32, reduceCtorEq, if_pos hc]
    refine LIv_of ?_ hx ?_
    · exact W
    · exact P
  · have hc := q_nb hj (show gL σ 2 ≤ 40 by omega)
    have hcl : (nI j).toNatClampNeg = j := nI_clamp (by omega)
    have hv : vp_in (nI j) 12 := vp_in_nI (by omega) (by omega)
    have hb1 : gL σ 1 ≤ 10 := P.2.1.2.2.2.2.2.2.2.2.1
    have hf := (P.2.2.1.1 j hj).2.2.2.2.1
    by_cases hw : w < 0 ∨ 7 < w
    · simp (config := { decide := true, maxSteps := 1000000 }) only [w_law_39, w_L_law_b2723, w_L_law_b2717, w_L_canUse_b16, w_L_canUse, w_X7_canUse, w_X8_canUse_b36, w_X8_canUse_b35, w_X8_canUse, w_X8_thrown, w_X8_noItem_b43, w_X8_noItem_b28, w_X8_noItem, w_X8_isDevice, w_X7_refuseUnknownItem, w_X7_isIn_b14, w_X7_isIn, w_X8_has_b14, w_X8_has, w_X2_usableItems_b26, w_X2_usableItems, w_X8_sells_b33, w_X8_sells_b32, w_X8_sells, u1, u2, u3, q_kd, q_in, q_out, true_and, and_true, if_true, if_false, reduceIte, and_self, false_and, and_false, or_false, false_or, true_or, or_true, not_true_eq_false, not_false_eq_true, ne_eq, e_Is, e_GetI, e_GetF, e_PutI, e_PutF, e_PutR, e_Ald, e_Ast, e_Aldq, e_AldJ, e_AstJ, e_AldD, e_AstD, gL_sV, gV_sV, gR_sV, gN_sV, gJ_sV, gD_sV, gL_sR, gV_sR, gR_sR, gN_sR, gJ_sR, gD_sR, gL_sJ, gV_sJ, gR_sJ, gN_sJ, gJ_sJ, gL_sD, gV_sD, gR_sD, gN_sD, gD_sD, hr_0, hr_s, WF_sV, WF_sJ, WF_sD, gL_sF, gV_sF, gR_sF, gN_sF, gL_sG, gV_sG, gR_sG, gN_sG, WF_sF, eR_1_2, eR_1_5, eR_1_6, eR_2_3, eR_3_2, eR_4_1, eR_6_0, eR_9_0, eR_20_0, eR_22_0, sL_7, sL_8, sL_60, sL_61, sN_60, sN_61, s7_0, s7_1, s7_2, s7_3, s7_4, s7_5, s7_6, sL_100, s8_0, sN_100, sL_101, s8_1, sN_101, sL_102, s8_2, sN_102, sL_103, s8_3, sN_103, sL_104, s8_4, sN_104, sL_105, s8_5, sN_105, sL_107, s8_7, sN_107, sL_108, s8_8, sN_108, sL_109, s8_9, sN_109, sL_110, s8_10, sN_110, sL_111, s8_11, sN_111, sL_112, s8_12, sN_112, sL_113, s8_13, sN_113, sL_114, s8_14, sN_114, sL_115, s8_15, sN_115, sL_116, s8_16, sN_116, sL_117, s8_17, sN_117, sL_118, s8_18, sN_118, sL_119, s8_19, sN_119, sL_120, s8_20, sN_120, sL_127, s8_27, sN_127, sL_128, s8_28, sN_128, sL_129, s8_29, sN_129, sL_130, s8_30, sN_130, sL_132, s8_32, sN_132, P0_sV, P0_sJ, P0_sD, W, Q, cmpS, hL, h21, h10, nb0, nb1, nc_32, reduceCtorEq, if_neg hc, hcl, hv, hj, if_pos hw]
      refine LIv_of ?_ hx ?_
      · exact W
      · exact P
    · rcases q_has W P hj with ⟨hR, hm⟩ | ⟨q, hq, hR, hm⟩
      · have h0 : ¬ ((0 : Int32) >>> (w &&& 31)) &&& 1 = 1 := by
          have : ((0 : Int32) >>> (w &&& 31)) = 0 := Int32.toBitVec_inj.mp (by simp)
          rw [this]; decide
        by_cases hbit : (gV σ 104 j 0 >>> (w &&& 31)) &&& 1 = 1
        · simp (config := { decide := true, maxSteps := 1000000 }) only [w_law_39, w_L_law_b2723, w_L_law_b2717, w_L_canUse_b16, w_L_canUse, w_X7_canUse, w_X8_canUse_b36, w_X8_canUse_b35, w_X8_canUse, w_X8_thrown, w_X8_noItem_b43, w_X8_noItem_b28, w_X8_noItem, w_X8_isDevice, w_X7_refuseUnknownItem, w_X7_isIn_b14, w_X7_isIn, w_X8_has_b14, w_X8_has, w_X2_usableItems_b26, w_X2_usableItems, w_X8_sells_b33, w_X8_sells_b32, w_X8_sells, u1, u2, u3, q_kd, q_in, q_out, true_and, and_true, if_true, if_false, reduceIte, and_self, false_and, and_false, or_false, false_or, true_or, or_true, not_true_eq_false, not_false_eq_true, ne_eq, e_Is, e_GetI, e_GetF, e_PutI, e_PutF, e_PutR, e_Ald, e_Ast, e_Aldq, e_AldJ, e_AstJ, e_AldD, e_AstD, gL_sV, gV_sV, gR_sV, gN_sV, gJ_sV, gD_sV, gL_sR, gV_sR, gR_sR, gN_sR, gJ_sR, gD_sR, gL_sJ, gV_sJ, gR_sJ, gN_sJ, gJ_sJ, gL_sD, gV_sD, gR_sD, gN_sD, gD_sD, hr_0, hr_s, WF_sV, WF_sJ, WF_sD, gL_sF, gV_sF, gR_sF, gN_sF, gL_sG, gV_sG, gR_sG, gN_sG, WF_sF, eR_1_2, eR_1_5, eR_1_6, eR_2_3, eR_3_2, eR_4_1, eR_6_0, eR_9_0, eR_20_0, eR_22_0, sL_7, sL_8, sL_60, sL_61, sN_60, sN_61, s7_0, s7_1, s7_2, s7_3, s7_4, s7_5, s7_6, sL_100, s8_0, sN_100, sL_101, s8_1, sN_101, sL_102, s8_2, sN_102, sL_103, s8_3, sN_103, sL_104, s8_4, sN_104, sL_105, s8_5, sN_105, sL_107, s8_7, sN_107, sL_108, s8_8, sN_108, sL_109, s8_9, sN_109, sL_110, s8_10, sN_110, sL_111, s8_11, sN_111, sL_112, s8_12, sN_112, sL_113, s8_13, sN_113, sL_114, s8_14, sN_114, sL_115, s8_15, sN_115, sL_116, s8_16, sN_116, sL_117, s8_17, sN_117, sL_118, s8_18, sN_118, sL_119, s8_19, sN_119, sL_120, s8_20, sN_120, sL_127, s8_27, sN_127, sL_128, s8_28, sN_128, sL_129, s8_29, sN_129, sL_130, s8_30, sN_130, sL_132, s8_32, sN_132, P0_sV, P0_sJ, P0_sD, W, Q, cmpS, hL, h21, h10, nb0, nb1, nc_32, reduceCtorEq, if_neg hc, hcl, hv, hj, if_neg hw, hf, if_pos hbit, hR, hm, if_neg h0]
          refine LIv_of ?_ hx ?_
          · exact W
          · exact P
        · simp (config := { decide := true, maxSteps := 1000000 }) only [w_law_39, w_L_law_b2723, w_L_law_b2717, w_L_canUse_b16, w_L_canUse, w_X7_canUse, w_X8_canUse_b36, w_X8_canUse_b35, w_X8_canUse, w_X8_thrown, w_X8_noItem_b43, w_X8_noItem_b28, w_X8_noItem, w_X8_isDevice, w_X7_refuseUnknownItem, w_X7_isIn_b14, w_X7_isIn, w_X8_has_b14, w_X8_has, w_X2_usableItems_b26, w_X2_usableItems, w_X8_sells_b33, w_X8_sells_b32, w_X8_sells, u1, u2, u3, q_kd, q_in, q_out, true_and, and_true, if_true, if_false, reduceIte, and_self, false_and, and_false, or_false, false_or, true_or, or_true, not_true_eq_false, not_false_eq_true, ne_eq, e_Is, e_GetI, e_GetF, e_PutI, e_PutF, e_PutR, e_Ald, e_Ast, e_Aldq, e_AldJ, e_AstJ, e_AldD, e_AstD, gL_sV, gV_sV, gR_sV, gN_sV, gJ_sV, gD_sV, gL_sR, gV_sR, gR_sR, gN_sR, gJ_sR, gD_sR, gL_sJ, gV_sJ, gR_sJ, gN_sJ, gJ_sJ, gL_sD, gV_sD, gR_sD, gN_sD, gD_sD, hr_0, hr_s, WF_sV, WF_sJ, WF_sD, gL_sF, gV_sF, gR_sF, gN_sF, gL_sG, gV_sG, gR_sG, gN_sG, WF_sF, eR_1_2, eR_1_5, eR_1_6, eR_2_3, eR_3_2, eR_4_1, eR_6_0, eR_9_0, eR_20_0, eR_22_0, sL_7, sL_8, sL_60, sL_61, sN_60, sN_61, s7_0, s7_1, s7_2, s7_3, s7_4, s7_5, s7_6, sL_100, s8_0, sN_100, sL_101, s8_1, sN_101, sL_102, s8_2, sN_102, sL_103, s8_3, sN_103, sL_104, s8_4, sN_104, sL_105, s8_5, sN_105, sL_107, s8_7, sN_107, sL_108, s8_8, sN_108, sL_109, s8_9, sN_109, sL_110, s8_10, sN_110, sL_111, s8_11, sN_111, sL_112, s8_12, sN_112, sL_113, s8_13, sN_113, sL_114, s8_14, sN_114, sL_115, s8_15, sN_115, sL_116, s8_16, sN_116, sL_117, s8_17, sN_117, sL_118, s8_18, sN_118, sL_119, s8_19, sN_119, sL_120, s8_20, sN_120, sL_127, s8_27, sN_127, sL_128, s8_28, sN_128, sL_129, s8_29, sN_129, sL_130, s8_30, sN_130, sL_132, s8_32, sN_132, P0_sV, P0_sJ, P0_sD, W, Q, cmpS, hL, h21, h10, nb0, nb1, nc_32, reduceCtorEq, if_neg hc, hcl, hv, hj, if_neg hw, hf, if_neg hbit, hR, hm, if_neg h0]
          refine LIv_of ?_ hx ?_
          · exact W
          · exact P
      · obtain ⟨ho, ho1, ho2, ho3⟩ := P.2.2.2.1.2.1 q hq
        have hx1 := nI_nm1 (show q ≤ 40 by omega)
        have hqc : (nI q).toNatClampNeg = q := nI_clamp (by omega)
        have hqv : vp_in (nI q) 10 := vp_in_nI (by omega) (by omega)
        obtain ⟨oo, hoo⟩ : ∃ oo, gR σ 1 2 q = oo + 1 := ⟨gR σ 1 2 q - 1, by omega⟩
        have hol : oo < gL σ 5 := by
          have := W.2.2 1 2 q hq
          rw [hoo] at this
          have h2 : oo + 1 ≤ gL σ 5 + 0 := this
          omega
        rw [hoo, Nat.add_sub_cancel] at ho3
        by_cases hbit : (gV σ 104 j 0 >>> (w &&& 31)) &&& 1 = 1
        · by_cases hbit2 : (gV σ 112 q 0 >>> (w &&& 31)) &&& 1 = 1
          · simp (config := { decide := true, maxSteps := 1000000 }) only [w_law_39, w_L_law_b2723, w_L_law_b2717, w_L_canUse_b16, w_L_canUse, w_X7_canUse, w_X8_canUse_b36, w_X8_canUse_b35, w_X8_canUse, w_X8_thrown, w_X8_noItem_b43, w_X8_noItem_b28, w_X8_noItem, w_X8_isDevice, w_X7_refuseUnknownItem, w_X7_isIn_b14, w_X7_isIn, w_X8_has_b14, w_X8_has, w_X2_usableItems_b26, w_X2_usableItems, w_X8_sells_b33, w_X8_sells_b32, w_X8_sells, u1, u2, u3, q_kd, q_in, q_out, true_and, and_true, if_true, if_false, reduceIte, and_self, false_and, and_false, or_false, false_or, true_or, or_true, not_true_eq_false, not_false_eq_true, ne_eq, e_Is, e_GetI, e_GetF, e_PutI, e_PutF, e_PutR, e_Ald, e_Ast, e_Aldq, e_AldJ, e_AstJ, e_AldD, e_AstD, gL_sV, gV_sV, gR_sV, gN_sV, gJ_sV, gD_sV, gL_sR, gV_sR, gR_sR, gN_sR, gJ_sR, gD_sR, gL_sJ, gV_sJ, gR_sJ, gN_sJ, gJ_sJ, gL_sD, gV_sD, gR_sD, gN_sD, gD_sD, hr_0, hr_s, WF_sV, WF_sJ, WF_sD, gL_sF, gV_sF, gR_sF, gN_sF, gL_sG, gV_sG, gR_sG, gN_sG, WF_sF, eR_1_2, eR_1_5, eR_1_6, eR_2_3, eR_3_2, eR_4_1, eR_6_0, eR_9_0, eR_20_0, eR_22_0, sL_7, sL_8, sL_60, sL_61, sN_60, sN_61, s7_0, s7_1, s7_2, s7_3, s7_4, s7_5, s7_6, sL_100, s8_0, sN_100, sL_101, s8_1, sN_101, sL_102, s8_2, sN_102, sL_103, s8_3, sN_103, sL_104, s8_4, sN_104, sL_105, s8_5, sN_105, sL_107, s8_7, sN_107, sL_108, s8_8, sN_108, sL_109, s8_9, sN_109, sL_110, s8_10, sN_110, sL_111, s8_11, sN_111, sL_112, s8_12, sN_112, sL_113, s8_13, sN_113, sL_114, s8_14, sN_114, sL_115, s8_15, sN_115, sL_116, s8_16, sN_116, sL_117, s8_17, sN_117, sL_118, s8_18, sN_118, sL_119, s8_19, sN_119, sL_120, s8_20, sN_120, sL_127, s8_27, sN_127, sL_128, s8_28, sN_128, sL_129, s8_29, sN_129, sL_130, s8_30, sN_130, sL_132, s8_32, sN_132, P0_sV, P0_sJ, P0_sD, W, Q, cmpS, hL, h21, h10, nb0, nb1, nc_32, reduceCtorEq, if_neg hc, hcl, hv, hj, if_neg hw, hf, if_pos hbit, hR, hm, hx1, hq, hoo, hol, ho3, band1, if_pos hbit2, hqc, hqv, hbit, hbit2]
            refine LIv_of ?_ hx ?_
            · exact W
            · exact P
          · simp (config := { decide := true, maxSteps := 1000000 }) only [w_law_39, w_L_law_b2723, w_L_law_b2717, w_L_canUse_b16, w_L_canUse, w_X7_canUse, w_X8_canUse_b36, w_X8_canUse_b35, w_X8_canUse, w_X8_thrown, w_X8_noItem_b43, w_X8_noItem_b28, w_X8_noItem, w_X8_isDevice, w_X7_refuseUnknownItem, w_X7_isIn_b14, w_X7_isIn, w_X8_has_b14, w_X8_has, w_X2_usableItems_b26, w_X2_usableItems, w_X8_sells_b33, w_X8_sells_b32, w_X8_sells, u1, u2, u3, q_kd, q_in, q_out, true_and, and_true, if_true, if_false, reduceIte, and_self, false_and, and_false, or_false, false_or, true_or, or_true, not_true_eq_false, not_false_eq_true, ne_eq, e_Is, e_GetI, e_GetF, e_PutI, e_PutF, e_PutR, e_Ald, e_Ast, e_Aldq, e_AldJ, e_AstJ, e_AldD, e_AstD, gL_sV, gV_sV, gR_sV, gN_sV, gJ_sV, gD_sV, gL_sR, gV_sR, gR_sR, gN_sR, gJ_sR, gD_sR, gL_sJ, gV_sJ, gR_sJ, gN_sJ, gJ_sJ, gL_sD, gV_sD, gR_sD, gN_sD, gD_sD, hr_0, hr_s, WF_sV, WF_sJ, WF_sD, gL_sF, gV_sF, gR_sF, gN_sF, gL_sG, gV_sG, gR_sG, gN_sG, WF_sF, eR_1_2, eR_1_5, eR_1_6, eR_2_3, eR_3_2, eR_4_1, eR_6_0, eR_9_0, eR_20_0, eR_22_0, sL_7, sL_8, sL_60, sL_61, sN_60, sN_61, s7_0, s7_1, s7_2, s7_3, s7_4, s7_5, s7_6, sL_100, s8_0, sN_100, sL_101, s8_1, sN_101, sL_102, s8_2, sN_102, sL_103, s8_3, sN_103, sL_104, s8_4, sN_104, sL_105, s8_5, sN_105, sL_107, s8_7, sN_107, sL_108, s8_8, sN_108, sL_109, s8_9, sN_109, sL_110, s8_10, sN_110, sL_111, s8_11, sN_111, sL_112, s8_12, sN_112, sL_113, s8_13, sN_113, sL_114, s8_14, sN_114, sL_115, s8_15, sN_115, sL_116, s8_16, sN_116, sL_117, s8_17, sN_117, sL_118, s8_18, sN_118, sL_119, s8_19, sN_119, sL_120, s8_20, sN_120, sL_127, s8_27, sN_127, sL_128, s8_28, sN_128, sL_129, s8_29, sN_129, sL_130, s8_30, sN_130, sL_132, s8_32, sN_132, P0_sV, P0_sJ, P0_sD, W, Q, cmpS, hL, h21, h10, nb0, nb1, nc_32, reduceCtorEq, if_neg hc, hcl, hv, hj, if_neg hw, hf, if_pos hbit, hR, hm, hx1, hq, hoo, hol, ho3, band1, if_neg hbit2, hqc, hqv, hbit, hbit2]
            refine LIv_of ?_ hx ?_
            · exact W
            · exact P
        · simp (config := { decide := true, maxSteps := 1000000 }) only [w_law_39, w_L_law_b2723, w_L_law_b2717, w_L_canUse_b16, w_L_canUse, w_X7_canUse, w_X8_canUse_b36, w_X8_canUse_b35, w_X8_canUse, w_X8_thrown, w_X8_noItem_b43, w_X8_noItem_b28, w_X8_noItem, w_X8_isDevice, w_X7_refuseUnknownItem, w_X7_isIn_b14, w_X7_isIn, w_X8_has_b14, w_X8_has, w_X2_usableItems_b26, w_X2_usableItems, w_X8_sells_b33, w_X8_sells_b32, w_X8_sells, u1, u2, u3, q_kd, q_in, q_out, true_and, and_true, if_true, if_false, reduceIte, and_self, false_and, and_false, or_false, false_or, true_or, or_true, not_true_eq_false, not_false_eq_true, ne_eq, e_Is, e_GetI, e_GetF, e_PutI, e_PutF, e_PutR, e_Ald, e_Ast, e_Aldq, e_AldJ, e_AstJ, e_AldD, e_AstD, gL_sV, gV_sV, gR_sV, gN_sV, gJ_sV, gD_sV, gL_sR, gV_sR, gR_sR, gN_sR, gJ_sR, gD_sR, gL_sJ, gV_sJ, gR_sJ, gN_sJ, gJ_sJ, gL_sD, gV_sD, gR_sD, gN_sD, gD_sD, hr_0, hr_s, WF_sV, WF_sJ, WF_sD, gL_sF, gV_sF, gR_sF, gN_sF, gL_sG, gV_sG, gR_sG, gN_sG, WF_sF, eR_1_2, eR_1_5, eR_1_6, eR_2_3, eR_3_2, eR_4_1, eR_6_0, eR_9_0, eR_20_0, eR_22_0, sL_7, sL_8, sL_60, sL_61, sN_60, sN_61, s7_0, s7_1, s7_2, s7_3, s7_4, s7_5, s7_6, sL_100, s8_0, sN_100, sL_101, s8_1, sN_101, sL_102, s8_2, sN_102, sL_103, s8_3, sN_103, sL_104, s8_4, sN_104, sL_105, s8_5, sN_105, sL_107, s8_7, sN_107, sL_108, s8_8, sN_108, sL_109, s8_9, sN_109, sL_110, s8_10, sN_110, sL_111, s8_11, sN_111, sL_112, s8_12, sN_112, sL_113, s8_13, sN_113, sL_114, s8_14, sN_114, sL_115, s8_15, sN_115, sL_116, s8_16, sN_116, sL_117, s8_17, sN_117, sL_118, s8_18, sN_118, sL_119, s8_19, sN_119, sL_120, s8_20, sN_120, sL_127, s8_27, sN_127, sL_128, s8_28, sN_128, sL_129, s8_29, sN_129, sL_130, s8_30, sN_130, sL_132, s8_32, sN_132, P0_sV, P0_sJ, P0_sD, W, Q, cmpS, hL, h21, h10, nb0, nb1, nc_32, reduceCtorEq, if_neg hc, hcl, hv, hj, if_neg hw, hf, if_neg hbit, hR, hm, hx1, hq, hoo, hol, ho3, band1, hqc, hqv, hbit]
          refine LIv_of ?_ hx ?_
          · exact W
          · exact P
end CD
