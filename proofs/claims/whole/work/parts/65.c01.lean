/-! addDraft refused -/
section AF
variable {A : Ad} {σ : St} {X : Cx} {px : String → GM → Prop} {post : Int32 → GM → Prop} {v z q : Int32} {l0 l2 l5 : Option Nat} {g : GM}
theorem q_adf (hb : (v < 1 ∨ 999 < v) ∨ (z < 1 ∨ 500 < z) ∨ (q < 0 ∨ 15 < q)) : w_X7_addDraft X post px l0 v l2 z q l5 g = px "java/lang/IllegalArgumentException" g := by
  unfold w_X7_addDraft w_X7_addDraft_b33
  rw [q_out]
  try dsimp only
  by_cases hv : v < 1 ∨ 999 < v
  · rw [if_pos hv, if_neg (by decide)]
  · rw [if_neg hv, if_pos rfl, q_out]
    try dsimp only
    by_cases hz : z < 1 ∨ 500 < z
    · rw [if_pos hz, if_neg (by decide)]
    · rw [if_neg hz, if_pos rfl, q_out]
      try dsimp only
      rw [if_pos ((hb.resolve_left hv).resolve_left hz), if_neg (by decide)]
theorem q_ads (W : WF A σ) (Q : P0 σ) (hL : Lst σ 32 (gL σ 1)) (h10 : gL σ 1 ≤ 10) (hv : ¬ (v < 1 ∨ 999 < v)) (hz : ¬ (z < 1 ∨ 500 < z)) (hq : ¬ (q < 0 ∨ 15 < q)) (h : (∃ j, j < gL σ 1 ∧ gV σ 1 1 j = v) ∨ (∀ j, j < gL σ 1 → ¬ gV σ 1 1 j = v) ∧ ¬ gL σ 1 < 10) : w_X7_addDraft X post px (some (A.1 7 0)) v l2 z q l5 (hp A σ) = px "java/lang/IllegalStateException" (hp A σ) := by
  unfold w_X7_addDraft w_X7_addDraft_b63
  rw [q_out, if_neg hv]
  try dsimp only
  rw [if_pos rfl, q_out, if_neg hz]
  try dsimp only
  rw [if_pos rfl, q_out, if_neg hq]
  try dsimp only
  rw [if_pos rfl, e_Is' W (sL_7 Q) hcl_7]
  rcases h with h | ⟨h1, h2⟩
  · rw [q_hv1 W Q hL h10 h]
    try dsimp only
    rw [if_neg (by decide)]
  · rw [q_hv0 W Q hL h10 h1]
    try dsimp only
    rw [if_pos rfl, s7_2 W Q, e_Is' W hL.1 hcl_32, l_size W (Or.inr (Or.inr (Or.inl rfl))) hL, if_neg (show ¬ nI (gL σ 1) < 10 from nI_nlt (a := gL σ 1) (b := 10) (by omega) (by omega))]
theorem q_off {m l t : Int32} {K : Nat → GM → Prop} (hx : hX X A) (W : WF A σ) (P : PI σ) (kk : ∀ (A' : Ad) (σ1 : St) (p : Nat), WF A' σ1 → hX X A' → Nf A A' → PI σ1 → p < gL σ1 5 → gV σ1 5 0 p = m → gV σ1 5 1 p = l → gV σ1 5 2 p = t → K (A'.1 5 p) (hp A' σ1)) : wNew X (hp A σ) (.inr (5, [.int 0, .int 0, .int 0])) (fun q7 g8 => w_X5_init X (fun g9 => K q7 g9) px (some q7) m l t g8) := by
  refine e_New 5 hx W rfl rfl (fun A1 W1 hx1 hN1 => ?_)
  refine q_x5i W1 (fun W2 => ?_)
  exact kk A1 (ofS σ m l t) (gL σ 5) W2 hx1 (Nf.of hN1 P.1) (pi_of W P) (Nat.lt_succ_self (gL σ 5)) of_0 of_1 of_2
end AF
section CS
variable {X : Cx} {xs : Nat → Int32} {Ls b i : Nat} {v1 v2 v3 v4 : Option Nat} {g : GM}
set_option maxHeartbeats 8000000 in
theorem p_01d (hin : ∀ j : Nat, j < 7 → vp_in (Int32.ofNat (7 * i) + Int32.ofNat j) Ls) (h : LIv X v1 v2 v3 v4 g) (hm : ¬ (xs (Int32.ofNat (7 * i) + 2).toNatClampNeg < 1 ∨ 63 < xs (Int32.ofNat (7 * i) + 2).toNatClampNeg)) (hl : ¬ (xs (Int32.ofNat (7 * i) + 3).toNatClampNeg < 1 ∨ 7 < xs (Int32.ofNat (7 * i) + 3).toNatClampNeg)) (ht : ¬ (xs (Int32.ofNat (7 * i) + 6).toNatClampNeg < 0 ∨ 255 < xs (Int32.ofNat (7 * i) + 6).toNatClampNeg)) (hv : (xs (Int32.ofNat (7 * i) + 1).toNatClampNeg < 1 ∨ 999 < xs (Int32.ofNat (7 * i) + 1).toNatClampNeg)) : w_law_1 X xs Ls b (LIv X v1 v2 v3 v4) v1 v2 v3 v4 (Int32.ofNat (7 * i)) g := by
  obtain ⟨A, σ, W, hx, P, rfl, rfl, rfl, rfl, rfl⟩ := h
  have Q := P.1
  have u1 : vp_in (Int32.ofNat (7 * i) + 1) Ls := hin 1 (by decide)
  have u2 : vp_in (Int32.ofNat (7 * i) + 2) Ls := hin 2 (by decide)
  have u3 : vp_in (Int32.ofNat (7 * i) + 3) Ls := hin 3 (by decide)
  have u4 : vp_in (Int32.ofNat (7 * i) + 4) Ls := hin 4 (by decide)
  have u5 : vp_in (Int32.ofNat (7 * i) + 5) Ls := hin 5 (by decide)
  have u6 : vp_in (Int32.ofNat (7 * i) + 6) Ls := hin 6 (by decide)
  have hL := P.2.2.2.2.2.2.2.2.2.1
  have h21 : gV σ 8 21 0 = nI (gL σ 1) := P.2.1.1.2.1
  have h10 : gL σ 1 ≤ 10 := P.2.1.2.2.2.2.2.2.2.2.1
  unfold w_law_1
  generalize xs (Int32.ofNat (7 * i) + 1).toNatClampNeg = v at hm hl ht hv ⊢
  generalize xs (Int32.ofNat (7 * i) + 2).toNatClampNeg = m at hm hl ht hv ⊢
  generalize xs (Int32.ofNat (7 * i) + 3).toNatClampNeg = l at hm hl ht hv ⊢
  generalize xs (Int32.ofNat (7 * i) + 4).toNatClampNeg = z at hm hl ht hv ⊢
  generalize xs (Int32.ofNat (7 * i) + 5).toNatClampNeg = q at hm hl ht hv ⊢
  generalize xs (Int32.ofNat (7 * i) + 6).toNatClampNeg = t at hm hl ht hv ⊢
  rw [p_and u1, p_and u2, p_and u3, p_and u4, p_and u5, p_and u6]
  unfold w_L_addBuild w_X7_addBuild
  rw [e_Is' W (sL_7 Q) hcl_7, q_out, if_neg hm]
  try dsimp only
  rw [if_pos rfl, q_out, if_neg hl]
  try dsimp only
  rw [if_pos rfl, q_out, if_neg ht]
  try dsimp only
  rw [if_pos rfl]
  refine q_off hx W P (fun A1 σ1 p W2 hx1 hN P2 h0 o1 o2 o3 => ?_)
  rw [← hN.1, ← hN.2.1, ← hN.2.2.1, ← hN.2.2.2]
  clear hL h21 h10
  have W := W2
  have P := P2
  have Q := P.1
  have hx := hx1
  have hL := P.2.2.2.2.2.2.2.2.2.1
  have h21 : gV σ1 8 21 0 = nI (gL σ1 1) := P.2.1.1.2.1
  have h10 : gL σ1 1 ≤ 10 := P.2.1.2.2.2.2.2.2.2.2.1
  rw [e_Is' W (sL_7 Q) hcl_7, q_adf (Or.inl hv)]
  try dsimp only
  rw [if_pos rfl]
  simp (config := { maxSteps := 1000000 }) only [↓w_law_1.eq_1, ↓w_L_law_b431.eq_1, ↓w_X8_addBuild_b96.eq_1, ↓w_X8_addBuild_b71.eq_1, ↓w_X8_addBuild_b70.eq_1, ↓w_X8_addBuild.eq_1, ↓w_X8_adds.eq_1, ↓w_X8_thrown.eq_1, u1, u2, u3, u4, u5, u6, ↓q_in, ↓q_out, ↓if_neg hm, ↓if_neg hl, ↓if_neg ht, true_and, and_true, if_true, if_false, reduceIte, and_self, false_and, and_false, or_false, false_or, true_or, or_true, not_true_eq_false, not_false_eq_true, ne_eq, reduceCtorEq, Nat.reduceLT, Nat.reduceEqDiff, Nat.reduceLeDiff, Nat.reduceAdd, eq_self, ii_0_1, ii_0_2, ii_0_3, ii_0_4, ii_1_0, ii_1_2, ii_1_3, ii_1_4, il_1, ii_2_0, ii_2_1, ii_2_3, ii_2_4, il_2, ii_3_0, ii_3_1, ii_3_2, ii_3_4, il_3, ii_4_0, ii_4_1, ii_4_2, ii_4_3, il_4, il_0, ie_0_1, ie_0_2, ie_0_3, ie_0_4, ie_0_5, ie_1_0, ie_1_2, ie_1_3, ie_1_4, ie_1_5, ie_2_0, ie_2_1, ie_2_3, ie_2_4, ie_2_5, ie_3_0, ie_3_1, ie_3_2, ie_3_4, ie_3_5, ie_4_0, ie_4_1, ie_4_2, ie_4_3, ie_4_5, ie_5_0, ie_5_1, ie_5_2, ie_5_3, ie_5_4, ↓e_Is', ↓e_GetI, ↓e_GetF, ↓e_PutI, ↓e_PutF, ↓e_PutR, ↓e_Ald, ↓e_Ast, ↓e_Aldq, ↓e_AldJ, ↓e_AstJ, ↓e_AldD, ↓e_AstD, gL_sV, gV_sV, gR_sV, gN_sV, gJ_sV, gD_sV, gL_sR, gV_sR, gR_sR, gN_sR, gJ_sR, gD_sR, gL_sJ, gV_sJ, gR_sJ, gN_sJ, gJ_sJ, gL_sD, gV_sD, gR_sD, gN_sD, gD_sD, hr_0, hr_s, WF_sV, WF_sJ, WF_sD, gL_sF, gV_sF, gR_sF, gN_sF, gL_sG, gV_sG, gR_sG, gN_sG, WF_sF, ↓eR_1_2, ↓eR_1_5, ↓eR_1_6, ↓eR_2_3, ↓eR_3_2, ↓eR_4_1, ↓eR_6_0, ↓eR_8_34, ↓eR_9_0, ↓eR_20_0, ↓eR_22_0, sL_7, sL_8, sL_60, sL_61, sN_60, sN_61, ↓s7_0, ↓s7_1, ↓s7_2, ↓s7_3, ↓s7_4, ↓s7_5, ↓s7_6, sL_100, ↓s8_0, sN_100, sL_101, ↓s8_1, sN_101, sL_102, ↓s8_2, sN_102, sL_103, ↓s8_3, sN_103, sL_104, ↓s8_4, sN_104, sL_105, ↓s8_5, sN_105, sL_107, ↓s8_7, sN_107, sL_108, ↓s8_8, sN_108, sL_109, ↓s8_9, sN_109, sL_110, ↓s8_10, sN_110, sL_111, ↓s8_11, sN_111, sL_112, ↓s8_12, sN_112, sL_113, ↓s8_13, sN_113, sL_114, ↓s8_14, sN_114, sL_115, ↓s8_15, sN_115, sL_116, ↓s8_16, sN_116, sL_117, ↓s8_17, sN_117, sL_118, ↓s8_18, sN_118, sL_119, ↓s8_19, sN_119, sL_120, ↓s8_20, sN_120, sL_127, ↓s8_27, sN_127, sL_128, ↓s8_28, sN_128, sL_129, ↓s8_29, sN_129, sL_130, ↓s8_30, sN_130, sL_132, ↓s8_32, sN_132, P0_sV, P0_sJ, P0_sD, hcl_1, hok_1_0, hok_1_1, hok_1_2, hok_1_3, hok_1_4, hok_1_5, hok_1_6, hok_1_7, hok_1_8, hok_1_9, hok_1_10, hok_1_11, hok_1_12, hok_1_13, hok_1_14, hok_1_15, hcl_2, hok_2_0, hok_2_1, hok_2_2, hok_2_3, hok_2_4, hok_2_5, hcl_3, hok_3_0, hok_3_1, hok_3_2, hcl_4, hok_4_0, hok_4_1, hok_4_2, hok_4_3, hcl_5, hok_5_0, hok_5_1, hok_5_2, hcl_6, hok_6_0, hok_6_1, hcl_7, hok_7_0, hok_7_1, hok_7_2, hok_7_3, hok_7_4, hok_7_5, hok_7_6, hok_7_7, hok_7_8, hok_7_9, hok_7_10, hok_7_11, hok_7_12, hcl_8, hok_8_0, hok_8_1, hok_8_2, hok_8_3, hok_8_4, hok_8_5, hok_8_6, hok_8_7, hok_8_8, hok_8_9, hok_8_10, hok_8_11, hok_8_12, hok_8_13, hok_8_14, hok_8_15, hok_8_16, hok_8_17, hok_8_18, hok_8_19, hok_8_20, hok_8_21, hok_8_22, hok_8_23, hok_8_24, hok_8_25, hok_8_26, hok_8_27, hok_8_28, hok_8_29, hok_8_30, hok_8_31, hok_8_32, hok_8_33, hok_8_34, hok_8_35, hok_8_36, hcl_9, hok_9_0, hok_9_1, hok_9_2, hok_9_3, hcl_20, hok_20_0, hok_20_1, hcl_22, hok_22_0, hok_22_1, hcl_30, hok_30_0, hok_30_1, hok_30_2, hcl_31, hok_31_0, hok_31_1, hok_31_2, hcl_32, hok_32_0, hok_32_1, hok_32_2, hcl_33, hok_33_0, hok_33_1, hok_33_2, hak_16, hak_21, hak_23, hak_40, hak_41, hak_42, hak_43, hak_50, hak_60, hak_61, hak_205, hak_227, hak_100, hak_101, hak_102, hak_103, hak_104, hak_105, hak_107, hak_108, hak_109, hak_110, hak_111, hak_112, hak_113, hak_114, hak_115, hak_116, hak_117, hak_118, hak_119, hak_120, hak_127, hak_128, hak_129, hak_130, hak_132, ↓eL_16, ↓eL_21, ↓eL_23, ↓eL_50, W, Q, cmpS, hL, h21, h10, nb0, nb1, ↓if_pos hv]
  refine LIv_of ?_ hx ?_
  · exact W
  · exact P
set_option maxHeartbeats 8000000 in
theorem p_01e (hin : ∀ j : Nat, j < 7 → vp_in (Int32.ofNat (7 * i) + Int32.ofNat j) Ls) (h : LIv X v1 v2 v3 v4 g) (hm : ¬ (xs (Int32.ofNat (7 * i) + 2).toNatClampNeg < 1 ∨ 63 < xs (Int32.ofNat (7 * i) + 2).toNatClampNeg)) (hl : ¬ (xs (Int32.ofNat (7 * i) + 3).toNatClampNeg < 1 ∨ 7 < xs (Int32.ofNat (7 * i) + 3).toNatClampNeg)) (ht : ¬ (xs (Int32.ofNat (7 * i) + 6).toNatClampNeg < 0 ∨ 255 < xs (Int32.ofNat (7 * i) + 6).toNatClampNeg)) (hv : ¬ (xs (Int32.ofNat (7 * i) + 1).toNatClampNeg < 1 ∨ 999 < xs (Int32.ofNat (7 * i) + 1).toNatClampNeg)) (hz : (xs (Int32.ofNat (7 * i) + 4).toNatClampNeg < 1 ∨ 500 < xs (Int32.ofNat (7 * i) + 4).toNatClampNeg)) : w_law_1 X xs Ls b (LIv X v1 v2 v3 v4) v1 v2 v3 v4 (Int32.ofNat (7 * i)) g := by
  obtain ⟨A, σ, W, hx, P, rfl, rfl, rfl, rfl, rfl⟩ := h
  have Q := P.1
  have u1 : vp_in (Int32.ofNat (7 * i) + 1) Ls := hin 1 (by decide)
  have u2 : vp_in (Int32.ofNat (7 * i) + 2) Ls := hin 2 (by decide)
  have u3 : vp_in (Int32.ofNat (7 * i) + 3) Ls := hin 3 (by decide)
  have u4 : vp_in (Int32.ofNat (7 * i) + 4) Ls := hin 4 (by decide)
  have u5 : vp_in (Int32.ofNat (7 * i) + 5) Ls := hin 5 (by decide)
  have u6 : vp_in (Int32.ofNat (7 * i) + 6) Ls := hin 6 (by decide)
  have hL := P.2.2.2.2.2.2.2.2.2.1
  have h21 : gV σ 8 21 0 = nI (gL σ 1) := P.2.1.1.2.1
  have h10 : gL σ 1 ≤ 10 := P.2.1.2.2.2.2.2.2.2.2.1
  unfold w_law_1
  generalize xs (Int32.ofNat (7 * i) + 1).toNatClampNeg = v at hm hl ht hv hz ⊢
  generalize xs (Int32.ofNat (7 * i) + 2).toNatClampNeg = m at hm hl ht hv hz ⊢
  generalize xs (Int32.ofNat (7 * i) + 3).toNatClampNeg = l at hm hl ht hv hz ⊢
  generalize xs (Int32.ofNat (7 * i) + 4).toNatClampNeg = z at hm hl ht hv hz ⊢
  generalize xs (Int32.ofNat (7 * i) + 5).toNatClampNeg = q at hm hl ht hv hz ⊢
  generalize xs (Int32.ofNat (7 * i) + 6).toNatClampNeg = t at hm hl ht hv hz ⊢
  rw [p_and u1, p_and u2, p_and u3, p_and u4, p_and u5, p_and u6]
  unfold w_L_addBuild w_X7_addBuild
  rw [e_Is' W (sL_7 Q) hcl_7, q_out, if_neg hm]
  try dsimp only
  rw [if_pos rfl, q_out, if_neg hl]
  try dsimp only
  rw [if_pos rfl, q_out, if_neg ht]
  try dsimp only
  rw [if_pos rfl]
  refine q_off hx W P (fun A1 σ1 p W2 hx1 hN P2 h0 o1 o2 o3 => ?_)
  rw [← hN.1, ← hN.2.1, ← hN.2.2.1, ← hN.2.2.2]
  clear hL h21 h10
  have W := W2
  have P := P2
  have Q := P.1
  have hx := hx1
  have hL := P.2.2.2.2.2.2.2.2.2.1
  have h21 : gV σ1 8 21 0 = nI (gL σ1 1) := P.2.1.1.2.1
  have h10 : gL σ1 1 ≤ 10 := P.2.1.2.2.2.2.2.2.2.2.1
  rw [e_Is' W (sL_7 Q) hcl_7, q_adf (Or.inr (Or.inl hz))]
  try dsimp only
  rw [if_pos rfl]
  simp (config := { maxSteps := 1000000 }) only [↓w_law_1.eq_1, ↓w_L_law_b431.eq_1, ↓w_X8_addBuild_b96.eq_1, ↓w_X8_addBuild_b71.eq_1, ↓w_X8_addBuild_b70.eq_1, ↓w_X8_addBuild.eq_1, ↓w_X8_adds.eq_1, ↓w_X8_thrown.eq_1, u1, u2, u3, u4, u5, u6, ↓q_in, ↓q_out, ↓if_neg hm, ↓if_neg hl, ↓if_neg ht, true_and, and_true, if_true, if_false, reduceIte, and_self, false_and, and_false, or_false, false_or, true_or, or_true, not_true_eq_false, not_false_eq_true, ne_eq, reduceCtorEq, Nat.reduceLT, Nat.reduceEqDiff, Nat.reduceLeDiff, Nat.reduceAdd, eq_self, ii_0_1, ii_0_2, ii_0_3, ii_0_4, ii_1_0, ii_1_2, ii_1_3, ii_1_4, il_1, ii_2_0, ii_2_1, ii_2_3, ii_2_4, il_2, ii_3_0, ii_3_1, ii_3_2, ii_3_4, il_3, ii_4_0, ii_4_1, ii_4_2, ii_4_3, il_4, il_0, ie_0_1, ie_0_2, ie_0_3, ie_0_4, ie_0_5, ie_1_0, ie_1_2, ie_1_3, ie_1_4, ie_1_5, ie_2_0, ie_2_1, ie_2_3, ie_2_4, ie_2_5, ie_3_0, ie_3_1, ie_3_2, ie_3_4, ie_3_5, ie_4_0, ie_4_1, ie_4_2, ie_4_3, ie_4_5, ie_5_0, ie_5_1, ie_5_2, ie_5_3, ie_5_4, ↓e_Is', ↓e_GetI, ↓e_GetF, ↓e_PutI, ↓e_PutF, ↓e_PutR, ↓e_Ald, ↓e_Ast, ↓e_Aldq, ↓e_AldJ, ↓e_AstJ, ↓e_AldD, ↓e_AstD, gL_sV, gV_sV, gR_sV, gN_sV, gJ_sV, gD_sV, gL_sR, gV_sR, gR_sR, gN_sR, gJ_sR, gD_sR, gL_sJ, gV_sJ, gR_sJ, gN_sJ, gJ_sJ, gL_sD, gV_sD, gR_sD, gN_sD, gD_sD, hr_0, hr_s, WF_sV, WF_sJ, WF_sD, gL_sF, gV_sF, gR_sF, gN_sF, gL_sG, gV_sG, gR_sG, gN_sG, WF_sF, ↓eR_1_2, ↓eR_1_5, ↓eR_1_6, ↓eR_2_3, ↓eR_3_2, ↓eR_4_1, ↓eR_6_0, ↓eR_8_34, ↓eR_9_0, ↓eR_20_0, ↓eR_22_0, sL_7, sL_8, sL_60, sL_61, sN_60, sN_61, ↓s7_0, ↓s7_1, ↓s7_2, ↓s7_3, ↓s7_4, ↓s7_5, ↓s7_6, sL_100, ↓s8_0, sN_100, sL_101, ↓s8_1, sN_101, sL_102, ↓s8_2, sN_102, sL_103, ↓s8_3, sN_103, sL_104, ↓s8_4, sN_104, sL_105, ↓s8_5, sN_105, sL_107, ↓s8_7, sN_107, sL_108, ↓s8_8, sN_108, sL_109, ↓s8_9, sN_109, sL_110, ↓s8_10, sN_110, sL_111, ↓s8_11, sN_111, sL_112, ↓s8_12, sN_112, sL_113, ↓s8_13, sN_113, sL_114, ↓s8_14, sN_114, sL_115, ↓s8_15, sN_115, sL_116, ↓s8_16, sN_116, sL_117, ↓s8_17, sN_117, sL_118, ↓s8_18, sN_118, sL_119, ↓s8_19, sN_119, sL_120, ↓s8_20, sN_120, sL_127, ↓s8_27, sN_127, sL_128, ↓s8_28, sN_128, sL_129, ↓s8_29, sN_129, sL_130, ↓s8_30, sN_130, sL_132, ↓s8_32, sN_132, P0_sV, P0_sJ, P0_sD, hcl_1, hok_1_0, hok_1_1, hok_1_2, hok_1_3, hok_1_4, hok_1_5, hok_1_6, hok_1_7, hok_1_8, hok_1_9, hok_1_10, hok_1_11, hok_1_12, hok_1_13, hok_1_14, hok_1_15, hcl_2, hok_2_0, hok_2_1, hok_2_2, hok_2_3, hok_2_4, hok_2_5, hcl_3, hok_3_0, hok_3_1, hok_3_2, hcl_4, hok_4_0, hok_4_1, hok_4_2, hok_4_3, hcl_5, hok_5_0, hok_5_1, hok_5_2, hcl_6, hok_6_0, hok_6_1, hcl_7, hok_7_0, hok_7_1, hok_7_2, hok_7_3, hok_7_4, hok_7_5, hok_7_6, hok_7_7, hok_7_8, hok_7_9, hok_7_10, hok_7_11, hok_7_12, hcl_8, hok_8_0, hok_8_1, hok_8_2, hok_8_3, hok_8_4, hok_8_5, hok_8_6, hok_8_7, hok_8_8, hok_8_9, hok_8_10, hok_8_11, hok_8_12, hok_8_13, hok_8_14, hok_8_15, hok_8_16, hok_8_17, hok_8_18, hok_8_19, hok_8_20, hok_8_21, hok_8_22, hok_8_23, hok_8_24, hok_8_25, hok_8_26, hok_8_27, hok_8_28, hok_8_29, hok_8_30, hok_8_31, hok_8_32, hok_8_33, hok_8_34, hok_8_35, hok_8_36, hcl_9, hok_9_0, hok_9_1, hok_9_2, hok_9_3, hcl_20, hok_20_0, hok_20_1, hcl_22, hok_22_0, hok_22_1, hcl_30, hok_30_0, hok_30_1, hok_30_2, hcl_31, hok_31_0, hok_31_1, hok_31_2, hcl_32, hok_32_0, hok_32_1, hok_32_2, hcl_33, hok_33_0, hok_33_1, hok_33_2, hak_16, hak_21, hak_23, hak_40, hak_41, hak_42, hak_43, hak_50, hak_60, hak_61, hak_205, hak_227, hak_100, hak_101, hak_102, hak_103, hak_104, hak_105, hak_107, hak_108, hak_109, hak_110, hak_111, hak_112, hak_113, hak_114, hak_115, hak_116, hak_117, hak_118, hak_119, hak_120, hak_127, hak_128, hak_129, hak_130, hak_132, ↓eL_16, ↓eL_21, ↓eL_23, ↓eL_50, W, Q, cmpS, hL, h21, h10, nb0, nb1, ↓if_neg hv, ↓if_pos hz]
  refine LIv_of ?_ hx ?_
  · exact W
  · exact P
set_option maxHeartbeats 8000000 in
theorem p_01f (hin : ∀ j : Nat, j < 7 → vp_in (Int32.ofNat (7 * i) + Int32.ofNat j) Ls) (h : LIv X v1 v2 v3 v4 g) (hm : ¬ (xs (Int32.ofNat (7 * i) + 2).toNatClampNeg < 1 ∨ 63 < xs (Int32.ofNat (7 * i) + 2).toNatClampNeg)) (hl : ¬ (xs (Int32.ofNat (7 * i) + 3).toNatClampNeg < 1 ∨ 7 < xs (Int32.ofNat (7 * i) + 3).toNatClampNeg)) (ht : ¬ (xs (Int32.ofNat (7 * i) + 6).toNatClampNeg < 0 ∨ 255 < xs (Int32.ofNat (7 * i) + 6).toNatClampNeg)) (hv : ¬ (xs (Int32.ofNat (7 * i) + 1).toNatClampNeg < 1 ∨ 999 < xs (Int32.ofNat (7 * i) + 1).toNatClampNeg)) (hz : ¬ (xs (Int32.ofNat (7 * i) + 4).toNatClampNeg < 1 ∨ 500 < xs (Int32.ofNat (7 * i) + 4).toNatClampNeg)) (hq : (xs (Int32.ofNat (7 * i) + 5).toNatClampNeg < 0 ∨ 15 < xs (Int32.ofNat (7 * i) + 5).toNatClampNeg)) : w_law_1 X xs Ls b (LIv X v1 v2 v3 v4) v1 v2 v3 v4 (Int32.ofNat (7 * i)) g := by
  obtain ⟨A, σ, W, hx, P, rfl, rfl, rfl, rfl, rfl⟩ := h
  have Q := P.1
  have u1 : vp_in (Int32.ofNat (7 * i) + 1) Ls := hin 1 (by decide)
  have u2 : vp_in (Int32.ofNat (7 * i) + 2) Ls := hin 2 (by decide)
  have u3 : vp_in (Int32.ofNat (7 * i) + 3) Ls := hin 3 (by decide)
  have u4 : vp_in (Int32.ofNat (7 * i) + 4) Ls := hin 4 (by decide)
  have u5 : vp_in (Int32.ofNat (7 * i) + 5) Ls := hin 5 (by decide)
  have u6 : vp_in (Int32.ofNat (7 * i) + 6) Ls := hin 6 (by decide)
  have hL := P.2.2.2.2.2.2.2.2.2.1
  have h21 : gV σ 8 21 0 = nI (gL σ 1) := P.2.1.1.2.1
  have h10 : gL σ 1 ≤ 10 := P.2.1.2.2.2.2.2.2.2.2.1
  unfold w_law_1
  generalize xs (Int32.ofNat (7 * i) + 1).toNatClampNeg = v at hm hl ht hv hz hq ⊢
  generalize xs (Int32.ofNat (7 * i) + 2).toNatClampNeg = m at hm hl ht hv hz hq ⊢
  generalize xs (Int32.ofNat (7 * i) + 3).toNatClampNeg = l at hm hl ht hv hz hq ⊢
  generalize xs (Int32.ofNat (7 * i) + 4).toNatClampNeg = z at hm hl ht hv hz hq ⊢
  generalize xs (Int32.ofNat (7 * i) + 5).toNatClampNeg = q at hm hl ht hv hz hq ⊢
  generalize xs (Int32.ofNat (7 * i) + 6).toNatClampNeg = t at hm hl ht hv hz hq ⊢
  rw [p_and u1, p_and u2, p_and u3, p_and u4, p_and u5, p_and u6]
  unfold w_L_addBuild w_X7_addBuild
  rw [e_Is' W (sL_7 Q) hcl_7, q_out, if_neg hm]
  try dsimp only
  rw [if_pos rfl, q_out, if_neg hl]
  try dsimp only
  rw [if_pos rfl, q_out, if_neg ht]
  try dsimp only
  rw [if_pos rfl]
  refine q_off hx W P (fun A1 σ1 p W2 hx1 hN P2 h0 o1 o2 o3 => ?_)
  rw [← hN.1, ← hN.2.1, ← hN.2.2.1, ← hN.2.2.2]
  clear hL h21 h10
  have W := W2
  have P := P2
  have Q := P.1
  have hx := hx1
  have hL := P.2.2.2.2.2.2.2.2.2.1
  have h21 : gV σ1 8 21 0 = nI (gL σ1 1) := P.2.1.1.2.1
  have h10 : gL σ1 1 ≤ 10 := P.2.1.2.2.2.2.2.2.2.2.1
  rw [e_Is' W (sL_7 Q) hcl_7, q_adf (Or.inr (Or.inr hq))]
  try dsimp only
  rw [if_pos rfl]
  simp (config := { maxSteps := 1000000 }) only [↓w_law_1.eq_1, ↓w_L_law_b431.eq_1, ↓w_X8_addBuild_b96.eq_1, ↓w_X8_addBuild_b71.eq_1, ↓w_X8_addBuild_b70.eq_1, ↓w_X8_addBuild.eq_1, ↓w_X8_adds.eq_1, ↓w_X8_thrown.eq_1, u1, u2, u3, u4, u5, u6, ↓q_in, ↓q_out, ↓if_neg hm, ↓if_neg hl, ↓if_neg ht, true_and, and_true, if_true, if_false, reduceIte, and_self, false_and, and_false, or_false, false_or, true_or, or_true, not_true_eq_false, not_false_eq_true, ne_eq, reduceCtorEq, Nat.reduceLT, Nat.reduceEqDiff, Nat.reduceLeDiff, Nat.reduceAdd, eq_self, ii_0_1, ii_0_2, ii_0_3, ii_0_4, ii_1_0, ii_1_2, ii_1_3, ii_1_4, il_1, ii_2_0, ii_2_1, ii_2_3, ii_2_4, il_2, ii_3_0, ii_3_1, ii_3_2, ii_3_4, il_3, ii_4_0, ii_4_1, ii_4_2, ii_4_3, il_4, il_0, ie_0_1, ie_0_2, ie_0_3, ie_0_4, ie_0_5, ie_1_0, ie_1_2, ie_1_3, ie_1_4, ie_1_5, ie_2_0, ie_2_1, ie_2_3, ie_2_4, ie_2_5, ie_3_0, ie_3_1, ie_3_2, ie_3_4, ie_3_5, ie_4_0, ie_4_1, ie_4_2, ie_4_3, ie_4_5, ie_5_0, ie_5_1, ie_5_2, ie_5_3, ie_5_4, ↓e_Is', ↓e_GetI, ↓e_GetF, ↓e_PutI, ↓e_PutF, ↓e_PutR, ↓e_Ald, ↓e_Ast, ↓e_Aldq, ↓e_AldJ, ↓e_AstJ, ↓e_AldD, ↓e_AstD, gL_sV, gV_sV, gR_sV, gN_sV, gJ_sV, gD_sV, gL_sR, gV_sR, gR_sR, gN_sR, gJ_sR, gD_sR, gL_sJ, gV_sJ, gR_sJ, gN_sJ, gJ_sJ, gL_sD, gV_sD, gR_sD, gN_sD, gD_sD, hr_0, hr_s, WF_sV, WF_sJ, WF_sD, gL_sF, gV_sF, gR_sF, gN_sF, gL_sG, gV_sG, gR_sG, gN_sG, WF_sF, ↓eR_1_2, ↓eR_1_5, ↓eR_1_6, ↓eR_2_3, ↓eR_3_2, ↓eR_4_1, ↓eR_6_0, ↓eR_8_34, ↓eR_9_0, ↓eR_20_0, ↓eR_22_0, sL_7, sL_8, sL_60, sL_61, sN_60, sN_61, ↓s7_0, ↓s7_1, ↓s7_2, ↓s7_3, ↓s7_4, ↓s7_5, ↓s7_6, sL_100, ↓s8_0, sN_100, sL_101, ↓s8_1, sN_101, sL_102, ↓s8_2, sN_102, sL_103, ↓s8_3, sN_103, sL_104, ↓s8_4, sN_104, sL_105, ↓s8_5, sN_105, sL_107, ↓s8_7, sN_107, sL_108, ↓s8_8, sN_108, sL_109, ↓s8_9, sN_109, sL_110, ↓s8_10, sN_110, sL_111, ↓s8_11, sN_111, sL_112, ↓s8_12, sN_112, sL_113, ↓s8_13, sN_113, sL_114, ↓s8_14, sN_114, sL_115, ↓s8_15, sN_115, sL_116, ↓s8_16, sN_116, sL_117, ↓s8_17, sN_117, sL_118, ↓s8_18, sN_118, sL_119, ↓s8_19, sN_119, sL_120, ↓s8_20, sN_120, sL_127, ↓s8_27, sN_127, sL_128, ↓s8_28, sN_128, sL_129, ↓s8_29, sN_129, sL_130, ↓s8_30, sN_130, sL_132, ↓s8_32, sN_132, P0_sV, P0_sJ, P0_sD, hcl_1, hok_1_0, hok_1_1, hok_1_2, hok_1_3, hok_1_4, hok_1_5, hok_1_6, hok_1_7, hok_1_8, hok_1_9, hok_1_10, hok_1_11, hok_1_12, hok_1_13, hok_1_14, hok_1_15, hcl_2, hok_2_0, hok_2_1, hok_2_2, hok_2_3, hok_2_4, hok_2_5, hcl_3, hok_3_0, hok_3_1, hok_3_2, hcl_4, hok_4_0, hok_4_1, hok_4_2, hok_4_3, hcl_5, hok_5_0, hok_5_1, hok_5_2, hcl_6, hok_6_0, hok_6_1, hcl_7, hok_7_0, hok_7_1, hok_7_2, hok_7_3, hok_7_4, hok_7_5, hok_7_6, hok_7_7, hok_7_8, hok_7_9, hok_7_10, hok_7_11, hok_7_12, hcl_8, hok_8_0, hok_8_1, hok_8_2, hok_8_3, hok_8_4, hok_8_5, hok_8_6, hok_8_7, hok_8_8, hok_8_9, hok_8_10, hok_8_11, hok_8_12, hok_8_13, hok_8_14, hok_8_15, hok_8_16, hok_8_17, hok_8_18, hok_8_19, hok_8_20, hok_8_21, hok_8_22, hok_8_23, hok_8_24, hok_8_25, hok_8_26, hok_8_27, hok_8_28, hok_8_29, hok_8_30, hok_8_31, hok_8_32, hok_8_33, hok_8_34, hok_8_35, hok_8_36, hcl_9, hok_9_0, hok_9_1, hok_9_2, hok_9_3, hcl_20, hok_20_0, hok_20_1, hcl_22, hok_22_0, hok_22_1, hcl_30, hok_30_0, hok_30_1, hok_30_2, hcl_31, hok_31_0, hok_31_1, hok_31_2, hcl_32, hok_32_0, hok_32_1, hok_32_2, hcl_33, hok_33_0, hok_33_1, hok_33_2, hak_16, hak_21, hak_23, hak_40, hak_41, hak_42, hak_43, hak_50, hak_60, hak_61, hak_205, hak_227, hak_100, hak_101, hak_102, hak_103, hak_104, hak_105, hak_107, hak_108, hak_109, hak_110, hak_111, hak_112, hak_113, hak_114, hak_115, hak_116, hak_117, hak_118, hak_119, hak_120, hak_127, hak_128, hak_129, hak_130, hak_132, ↓eL_16, ↓eL_21, ↓eL_23, ↓eL_50, W, Q, cmpS, hL, h21, h10, nb0, nb1, ↓if_neg hv, ↓if_neg hz, ↓if_pos hq]
  refine LIv_of ?_ hx ?_
  · exact W
  · exact P
set_option maxHeartbeats 8000000 in
theorem p_01g (hin : ∀ j : Nat, j < 7 → vp_in (Int32.ofNat (7 * i) + Int32.ofNat j) Ls) (h : LIv X v1 v2 v3 v4 g) (hm : ¬ (xs (Int32.ofNat (7 * i) + 2).toNatClampNeg < 1 ∨ 63 < xs (Int32.ofNat (7 * i) + 2).toNatClampNeg)) (hl : ¬ (xs (Int32.ofNat (7 * i) + 3).toNatClampNeg < 1 ∨ 7 < xs (Int32.ofNat (7 * i) + 3).toNatClampNeg)) (ht : ¬ (xs (Int32.ofNat (7 * i) + 6).toNatClampNeg < 0 ∨ 255 < xs (Int32.ofNat (7 * i) + 6).toNatClampNeg)) (hv : ¬ (xs (Int32.ofNat (7 * i) + 1).toNatClampNeg < 1 ∨ 999 < xs (Int32.ofNat (7 * i) + 1).toNatClampNeg)) (hz : ¬ (xs (Int32.ofNat (7 * i) + 4).toNatClampNeg < 1 ∨ 500 < xs (Int32.ofNat (7 * i) + 4).toNatClampNeg)) (hq : ¬ (xs (Int32.ofNat (7 * i) + 5).toNatClampNeg < 0 ∨ 15 < xs (Int32.ofNat (7 * i) + 5).toNatClampNeg)) : w_law_1 X xs Ls b (LIv X v1 v2 v3 v4) v1 v2 v3 v4 (Int32.ofNat (7 * i)) g := by
  obtain ⟨A, σ, W, hx, P, rfl, rfl, rfl, rfl, rfl⟩ := h
  have Q := P.1
  have u1 : vp_in (Int32.ofNat (7 * i) + 1) Ls := hin 1 (by decide)
  have u2 : vp_in (Int32.ofNat (7 * i) + 2) Ls := hin 2 (by decide)
  have u3 : vp_in (Int32.ofNat (7 * i) + 3) Ls := hin 3 (by decide)
  have u4 : vp_in (Int32.ofNat (7 * i) + 4) Ls := hin 4 (by decide)
  have u5 : vp_in (Int32.ofNat (7 * i) + 5) Ls := hin 5 (by decide)
  have u6 : vp_in (Int32.ofNat (7 * i) + 6) Ls := hin 6 (by decide)
  have hL := P.2.2.2.2.2.2.2.2.2.1
  have h21 : gV σ 8 21 0 = nI (gL σ 1) := P.2.1.1.2.1
  have h10 : gL σ 1 ≤ 10 := P.2.1.2.2.2.2.2.2.2.2.1
  unfold w_law_1
  generalize xs (Int32.ofNat (7 * i) + 1).toNatClampNeg = v at hm hl ht hv hz hq ⊢
  generalize xs (Int32.ofNat (7 * i) + 2).toNatClampNeg = m at hm hl ht hv hz hq ⊢
  generalize xs (Int32.ofNat (7 * i) + 3).toNatClampNeg = l at hm hl ht hv hz hq ⊢
  generalize xs (Int32.ofNat (7 * i) + 4).toNatClampNeg = z at hm hl ht hv hz hq ⊢
  generalize xs (Int32.ofNat (7 * i) + 5).toNatClampNeg = q at hm hl ht hv hz hq ⊢
  generalize xs (Int32.ofNat (7 * i) + 6).toNatClampNeg = t at hm hl ht hv hz hq ⊢
  rw [p_and u1, p_and u2, p_and u3, p_and u4, p_and u5, p_and u6]
  unfold w_L_addBuild w_X7_addBuild
  rw [e_Is' W (sL_7 Q) hcl_7, q_out, if_neg hm]
  try dsimp only
  rw [if_pos rfl, q_out, if_neg hl]
  try dsimp only
  rw [if_pos rfl, q_out, if_neg ht]
  try dsimp only
  rw [if_pos rfl]
  refine q_off hx W P (fun A1 σ1 p W2 hx1 hN P2 h0 o1 o2 o3 => ?_)
  rw [← hN.1, ← hN.2.1, ← hN.2.2.1, ← hN.2.2.2]
  clear hL h21 h10
  have W := W2
  have P := P2
  have Q := P.1
  have hx := hx1
  have hL := P.2.2.2.2.2.2.2.2.2.1
  have h21 : gV σ1 8 21 0 = nI (gL σ1 1) := P.2.1.1.2.1
  have h10 : gL σ1 1 ≤ 10 := P.2.1.2.2.2.2.2.2.2.2.1
  by_cases hex : ∃ j, j < gL σ1 1 ∧ gV σ1 1 1 j = v
  · have hh := fun (px : String → GM → Prop) (post : Int32 → GM → Prop) => q_hv1 (X := X) (px := px) (post := post) W Q hL h10 hex
    have hin := fun (px : String → GM → Prop) (post : Int32 → GM → Prop) => (q_isl (X := X) (px := px) (post := post) (σ := σ1) (σ' := σ1) P h21 (fun b => rfl) W Q (gL σ1 1) 3000 0 (by omega) (by omega) (fun j hj => absurd hj (Nat.not_lt_zero _))).1 hex
    rw [show nI 0 = 0 from rfl] at hin
    rw [e_Is' W (sL_7 Q) hcl_7, q_ads W Q hL h10 hv hz hq (Or.inl hex)]
    try dsimp only
    rw [if_neg (by decide), if_pos rfl]
    simp (config := { maxSteps := 1000000 }) only [↓w_law_1.eq_1, ↓w_L_law_b431.eq_1, ↓w_X8_addBuild_b96.eq_1, ↓w_X8_addBuild_b71.eq_1, ↓w_X8_addBuild_b70.eq_1, ↓w_X8_addBuild.eq_1, ↓w_X8_adds.eq_1, ↓w_X8_thrown.eq_1, ↓w_X8_isNew_b42.eq_1, ↓w_X8_isNew.eq_1, u1, u2, u3, u4, u5, u6, ↓q_in, ↓q_out, ↓if_neg hm, ↓if_neg hl, ↓if_neg ht, true_and, and_true, if_true, if_false, reduceIte, and_self, false_and, and_false, or_false, false_or, true_or, or_true, not_true_eq_false, not_false_eq_true, ne_eq, reduceCtorEq, Nat.reduceLT, Nat.reduceEqDiff, Nat.reduceLeDiff, Nat.reduceAdd, eq_self, ii_0_1, ii_0_2, ii_0_3, ii_0_4, ii_1_0, ii_1_2, ii_1_3, ii_1_4, il_1, ii_2_0, ii_2_1, ii_2_3, ii_2_4, il_2, ii_3_0, ii_3_1, ii_3_2, ii_3_4, il_3, ii_4_0, ii_4_1, ii_4_2, ii_4_3, il_4, il_0, ie_0_1, ie_0_2, ie_0_3, ie_0_4, ie_0_5, ie_1_0, ie_1_2, ie_1_3, ie_1_4, ie_1_5, ie_2_0, ie_2_1, ie_2_3, ie_2_4, ie_2_5, ie_3_0, ie_3_1, ie_3_2, ie_3_4, ie_3_5, ie_4_0, ie_4_1, ie_4_2, ie_4_3, ie_4_5, ie_5_0, ie_5_1, ie_5_2, ie_5_3, ie_5_4, ↓e_Is', ↓e_GetI, ↓e_GetF, ↓e_PutI, ↓e_PutF, ↓e_PutR, ↓e_Ald, ↓e_Ast, ↓e_Aldq, ↓e_AldJ, ↓e_AstJ, ↓e_AldD, ↓e_AstD, gL_sV, gV_sV, gR_sV, gN_sV, gJ_sV, gD_sV, gL_sR, gV_sR, gR_sR, gN_sR, gJ_sR, gD_sR, gL_sJ, gV_sJ, gR_sJ, gN_sJ, gJ_sJ, gL_sD, gV_sD, gR_sD, gN_sD, gD_sD, hr_0, hr_s, WF_sV, WF_sJ, WF_sD, gL_sF, gV_sF, gR_sF, gN_sF, gL_sG, gV_sG, gR_sG, gN_sG, WF_sF, ↓eR_1_2, ↓eR_1_5, ↓eR_1_6, ↓eR_2_3, ↓eR_3_2, ↓eR_4_1, ↓eR_6_0, ↓eR_8_34, ↓eR_9_0, ↓eR_20_0, ↓eR_22_0, sL_7, sL_8, sL_60, sL_61, sN_60, sN_61, ↓s7_0, ↓s7_1, ↓s7_2, ↓s7_3, ↓s7_4, ↓s7_5, ↓s7_6, sL_100, ↓s8_0, sN_100, sL_101, ↓s8_1, sN_101, sL_102, ↓s8_2, sN_102, sL_103, ↓s8_3, sN_103, sL_104, ↓s8_4, sN_104, sL_105, ↓s8_5, sN_105, sL_107, ↓s8_7, sN_107, sL_108, ↓s8_8, sN_108, sL_109, ↓s8_9, sN_109, sL_110, ↓s8_10, sN_110, sL_111, ↓s8_11, sN_111, sL_112, ↓s8_12, sN_112, sL_113, ↓s8_13, sN_113, sL_114, ↓s8_14, sN_114, sL_115, ↓s8_15, sN_115, sL_116, ↓s8_16, sN_116, sL_117, ↓s8_17, sN_117, sL_118, ↓s8_18, sN_118, sL_119, ↓s8_19, sN_119, sL_120, ↓s8_20, sN_120, sL_127, ↓s8_27, sN_127, sL_128, ↓s8_28, sN_128, sL_129, ↓s8_29, sN_129, sL_130, ↓s8_30, sN_130, sL_132, ↓s8_32, sN_132, P0_sV, P0_sJ, P0_sD, hcl_1, hok_1_0, hok_1_1, hok_1_2, hok_1_3, hok_1_4, hok_1_5, hok_1_6, hok_1_7, hok_1_8, hok_1_9, hok_1_10, hok_1_11, hok_1_12, hok_1_13, hok_1_14, hok_1_15, hcl_2, hok_2_0, hok_2_1, hok_2_2, hok_2_3, hok_2_4, hok_2_5, hcl_3, hok_3_0, hok_3_1, hok_3_2, hcl_4, hok_4_0, hok_4_1, hok_4_2, hok_4_3, hcl_5, hok_5_0, hok_5_1, hok_5_2, hcl_6, hok_6_0, hok_6_1, hcl_7, hok_7_0, hok_7_1, hok_7_2, hok_7_3, hok_7_4, hok_7_5, hok_7_6, hok_7_7, hok_7_8, hok_7_9, hok_7_10, hok_7_11, hok_7_12, hcl_8, hok_8_0, hok_8_1, hok_8_2, hok_8_3, hok_8_4, hok_8_5, hok_8_6, hok_8_7, hok_8_8, hok_8_9, hok_8_10, hok_8_11, hok_8_12, hok_8_13, hok_8_14, hok_8_15, hok_8_16, hok_8_17, hok_8_18, hok_8_19, hok_8_20, hok_8_21, hok_8_22, hok_8_23, hok_8_24, hok_8_25, hok_8_26, hok_8_27, hok_8_28, hok_8_29, hok_8_30, hok_8_31, hok_8_32, hok_8_33, hok_8_34, hok_8_35, hok_8_36, hcl_9, hok_9_0, hok_9_1, hok_9_2, hok_9_3, hcl_20, hok_20_0, hok_20_1, hcl_22, hok_22_0, hok_22_1, hcl_30, hok_30_0, hok_30_1, hok_30_2, hcl_31, hok_31_0, hok_31_1, hok_31_2, hcl_32, hok_32_0, hok_32_1, hok_32_2, hcl_33, hok_33_0, hok_33_1, hok_33_2, hak_16, hak_21, hak_23, hak_40, hak_41, hak_42, hak_43, hak_50, hak_60, hak_61, hak_205, hak_227, hak_100, hak_101, hak_102, hak_103, hak_104, hak_105, hak_107, hak_108, hak_109, hak_110, hak_111, hak_112, hak_113, hak_114, hak_115, hak_116, hak_117, hak_118, hak_119, hak_120, hak_127, hak_128, hak_129, hak_130, hak_132, ↓eL_16, ↓eL_21, ↓eL_23, ↓eL_50, W, Q, cmpS, hL, h21, h10, nb0, nb1, ↓if_neg hv, ↓if_neg hz, ↓if_neg hq, ↓hh, ↓hin]
    refine LIv_of ?_ hx ?_
    · exact W
    · exact P
  have hno : ∀ j, j < gL σ1 1 → ¬ gV σ1 1 1 j = v := fun j hj e => hex ⟨j, hj, e⟩
  by_cases hn : gL σ1 1 < 10
  · rw [e_Is' W (sL_7 Q) hcl_7]
    refine q_adr (r := 0) hx W Q hL hn hv hz hq h0 (Nat.zero_le _) hno (fun A' κ W' hx' hN QK H0 kk1 => ?_)
    have hnv : vp_in (nI (gL σ1 1)) 10 := vp_in_nI hn (by omega)
    have hnc : (nI (gL σ1 1)).toNatClampNeg = gL σ1 1 := nI_clamp (by omega)
    have nar100 : vp_nar .char 100 = 100 := nar_c (c := 100) (by decide)
    have k21 : gV κ 8 21 0 = nI (gL σ1 1) := (kk1 8 21 0 (by decide)).trans h21
    have k107 := fun b => kk1 107 b 0 (by decide)
    have hin := fun (x : Int64) (px : String → GM → Prop) (post : Int32 → GM → Prop) => (q_isl (X := X) (px := px) (post := post) (A := A') (σ := σ1) (σ' := sJ κ x) P k21 k107 W' QK (gL σ1 1) 3000 0 (by omega) (by omega) (fun j hj => absurd hj (Nat.not_lt_zero _))).2 hno
    rw [show nI 0 = 0 from rfl] at hin
    rw [← hN.1, ← hN.2.1, ← hN.2.2.1, ← hN.2.2.2]
    simp (config := { maxSteps := 1000000 }) only [↓w_law_1.eq_1, ↓w_L_law_b431.eq_1, ↓w_X8_addBuild_b96.eq_1, ↓w_X8_addBuild_b71.eq_1, ↓w_X8_addBuild_b70.eq_1, ↓w_X8_addBuild.eq_1, ↓w_X8_adds.eq_1, ↓w_X8_thrown.eq_1, ↓w_X8_isNew_b42.eq_1, ↓w_X8_isNew.eq_1, u1, u2, u3, u4, u5, u6, ↓q_in, ↓if_neg hv, ↓if_neg hz, ↓if_neg hq, ↓if_neg hm, ↓if_neg hl, ↓if_neg ht, true_and, and_true, if_true, if_false, reduceIte, and_self, false_and, and_false, or_false, false_or, true_or, or_true, not_true_eq_false, not_false_eq_true, ne_eq, reduceCtorEq, Nat.reduceLT, Nat.reduceEqDiff, Nat.reduceLeDiff, Nat.reduceAdd, eq_self, ii_0_1, ii_0_2, ii_0_3, ii_0_4, ii_1_0, ii_1_2, ii_1_3, ii_1_4, il_1, ii_2_0, ii_2_1, ii_2_3, ii_2_4, il_2, ii_3_0, ii_3_1, ii_3_2, ii_3_4, il_3, ii_4_0, ii_4_1, ii_4_2, ii_4_3, il_4, il_0, ie_0_1, ie_0_2, ie_0_3, ie_0_4, ie_0_5, ie_1_0, ie_1_2, ie_1_3, ie_1_4, ie_1_5, ie_2_0, ie_2_1, ie_2_3, ie_2_4, ie_2_5, ie_3_0, ie_3_1, ie_3_2, ie_3_4, ie_3_5, ie_4_0, ie_4_1, ie_4_2, ie_4_3, ie_4_5, ie_5_0, ie_5_1, ie_5_2, ie_5_3, ie_5_4, ↓e_Is', ↓e_GetI, ↓e_GetF, ↓e_PutI, ↓e_PutF, ↓e_PutR, ↓e_Ald, ↓e_Ast, ↓e_Aldq, ↓e_AldJ, ↓e_AstJ, ↓e_AldD, ↓e_AstD, gL_sV, gV_sV, gR_sV, gN_sV, gJ_sV, gD_sV, gL_sR, gV_sR, gR_sR, gN_sR, gJ_sR, gD_sR, gL_sJ, gV_sJ, gR_sJ, gN_sJ, gJ_sJ, gL_sD, gV_sD, gR_sD, gN_sD, gD_sD, hr_0, hr_s, WF_sV, WF_sJ, WF_sD, gL_sF, gV_sF, gR_sF, gN_sF, gL_sG, gV_sG, gR_sG, gN_sG, WF_sF, ↓eR_1_2, ↓eR_1_5, ↓eR_1_6, ↓eR_2_3, ↓eR_3_2, ↓eR_4_1, ↓eR_6_0, ↓eR_8_34, ↓eR_9_0, ↓eR_20_0, ↓eR_22_0, sL_7, sL_8, sL_60, sL_61, sN_60, sN_61, ↓s7_0, ↓s7_1, ↓s7_2, ↓s7_3, ↓s7_4, ↓s7_5, ↓s7_6, sL_100, ↓s8_0, sN_100, sL_101, ↓s8_1, sN_101, sL_102, ↓s8_2, sN_102, sL_103, ↓s8_3, sN_103, sL_104, ↓s8_4, sN_104, sL_105, ↓s8_5, sN_105, sL_107, ↓s8_7, sN_107, sL_108, ↓s8_8, sN_108, sL_109, ↓s8_9, sN_109, sL_110, ↓s8_10, sN_110, sL_111, ↓s8_11, sN_111, sL_112, ↓s8_12, sN_112, sL_113, ↓s8_13, sN_113, sL_114, ↓s8_14, sN_114, sL_115, ↓s8_15, sN_115, sL_116, ↓s8_16, sN_116, sL_117, ↓s8_17, sN_117, sL_118, ↓s8_18, sN_118, sL_119, ↓s8_19, sN_119, sL_120, ↓s8_20, sN_120, sL_127, ↓s8_27, sN_127, sL_128, ↓s8_28, sN_128, sL_129, ↓s8_29, sN_129, sL_130, ↓s8_30, sN_130, sL_132, ↓s8_32, sN_132, P0_sV, P0_sJ, P0_sD, hcl_1, hok_1_0, hok_1_1, hok_1_2, hok_1_3, hok_1_4, hok_1_5, hok_1_6, hok_1_7, hok_1_8, hok_1_9, hok_1_10, hok_1_11, hok_1_12, hok_1_13, hok_1_14, hok_1_15, hcl_2, hok_2_0, hok_2_1, hok_2_2, hok_2_3, hok_2_4, hok_2_5, hcl_3, hok_3_0, hok_3_1, hok_3_2, hcl_4, hok_4_0, hok_4_1, hok_4_2, hok_4_3, hcl_5, hok_5_0, hok_5_1, hok_5_2, hcl_6, hok_6_0, hok_6_1, hcl_7, hok_7_0, hok_7_1, hok_7_2, hok_7_3, hok_7_4, hok_7_5, hok_7_6, hok_7_7, hok_7_8, hok_7_9, hok_7_10, hok_7_11, hok_7_12, hcl_8, hok_8_0, hok_8_1, hok_8_2, hok_8_3, hok_8_4, hok_8_5, hok_8_6, hok_8_7, hok_8_8, hok_8_9, hok_8_10, hok_8_11, hok_8_12, hok_8_13, hok_8_14, hok_8_15, hok_8_16, hok_8_17, hok_8_18, hok_8_19, hok_8_20, hok_8_21, hok_8_22, hok_8_23, hok_8_24, hok_8_25, hok_8_26, hok_8_27, hok_8_28, hok_8_29, hok_8_30, hok_8_31, hok_8_32, hok_8_33, hok_8_34, hok_8_35, hok_8_36, hcl_9, hok_9_0, hok_9_1, hok_9_2, hok_9_3, hcl_20, hok_20_0, hok_20_1, hcl_22, hok_22_0, hok_22_1, hcl_30, hok_30_0, hok_30_1, hok_30_2, hcl_31, hok_31_0, hok_31_1, hok_31_2, hcl_32, hok_32_0, hok_32_1, hok_32_2, hcl_33, hok_33_0, hok_33_1, hok_33_2, hak_16, hak_21, hak_23, hak_40, hak_41, hak_42, hak_43, hak_50, hak_60, hak_61, hak_205, hak_227, hak_100, hak_101, hak_102, hak_103, hak_104, hak_105, hak_107, hak_108, hak_109, hak_110, hak_111, hak_112, hak_113, hak_114, hak_115, hak_116, hak_117, hak_118, hak_119, hak_120, hak_127, hak_128, hak_129, hak_130, hak_132, ↓eL_16, ↓eL_21, ↓eL_23, ↓eL_50, W', QK, cmpS, nb0, nb1, ↓hin, ↓if_pos hn, k21, hnv, hnc, nar100, nI_pred, nI_1]
    refine LIv_of ?_ hx' ?_
    · exact W'
    · exact pi_bd (y := (-1)) (m := m) (l := l) (t := t) W P (H0 _) hv h0 (Nat.zero_le _) hno o1 o2 o3 (by decide) (fun z => absurd rfl z)
  · have hn2 : (nI (gL σ1 1) < 10) = False := eq_false (by rw [show gL σ1 1 = 10 by omega]; decide)
    have hh := fun (px : String → GM → Prop) (post : Int32 → GM → Prop) => q_hv0 (X := X) (px := px) (post := post) W Q hL h10 hno
    have hin := fun (px : String → GM → Prop) (post : Int32 → GM → Prop) => (q_isl (X := X) (px := px) (post := post) (σ := σ1) (σ' := σ1) P h21 (fun b => rfl) W Q (gL σ1 1) 3000 0 (by omega) (by omega) (fun j hj => absurd hj (Nat.not_lt_zero _))).2 hno
    rw [show nI 0 = 0 from rfl] at hin
    rw [e_Is' W (sL_7 Q) hcl_7, q_ads W Q hL h10 hv hz hq (Or.inr ⟨hno, hn⟩)]
    try dsimp only
    rw [if_neg (by decide), if_pos rfl]
    simp (config := { maxSteps := 1000000 }) only [↓w_law_1.eq_1, ↓w_L_law_b431.eq_1, ↓w_X8_addBuild_b96.eq_1, ↓w_X8_addBuild_b71.eq_1, ↓w_X8_addBuild_b70.eq_1, ↓w_X8_addBuild.eq_1, ↓w_X8_adds.eq_1, ↓w_X8_thrown.eq_1, ↓w_X8_isNew_b42.eq_1, ↓w_X8_isNew.eq_1, u1, u2, u3, u4, u5, u6, ↓q_in, ↓q_out, ↓if_neg hm, ↓if_neg hl, ↓if_neg ht, true_and, and_true, if_true, if_false, reduceIte, and_self, false_and, and_false, or_false, false_or, true_or, or_true, not_true_eq_false, not_false_eq_true, ne_eq, reduceCtorEq, Nat.reduceLT, Nat.reduceEqDiff, Nat.reduceLeDiff, Nat.reduceAdd, eq_self, ii_0_1, ii_0_2, ii_0_3, ii_0_4, ii_1_0, ii_1_2, ii_1_3, ii_1_4, il_1, ii_2_0, ii_2_1, ii_2_3, ii_2_4, il_2, ii_3_0, ii_3_1, ii_3_2, ii_3_4, il_3, ii_4_0, ii_4_1, ii_4_2, ii_4_3, il_4, il_0, ie_0_1, ie_0_2, ie_0_3, ie_0_4, ie_0_5, ie_1_0, ie_1_2, ie_1_3, ie_1_4, ie_1_5, ie_2_0, ie_2_1, ie_2_3, ie_2_4, ie_2_5, ie_3_0, ie_3_1, ie_3_2, ie_3_4, ie_3_5, ie_4_0, ie_4_1, ie_4_2, ie_4_3, ie_4_5, ie_5_0, ie_5_1, ie_5_2, ie_5_3, ie_5_4, ↓e_Is', ↓e_GetI, ↓e_GetF, ↓e_PutI, ↓e_PutF, ↓e_PutR, ↓e_Ald, ↓e_Ast, ↓e_Aldq, ↓e_AldJ, ↓e_AstJ, ↓e_AldD, ↓e_AstD, gL_sV, gV_sV, gR_sV, gN_sV, gJ_sV, gD_sV, gL_sR, gV_sR, gR_sR, gN_sR, gJ_sR, gD_sR, gL_sJ, gV_sJ, gR_sJ, gN_sJ, gJ_sJ, gL_sD, gV_sD, gR_sD, gN_sD, gD_sD, hr_0, hr_s, WF_sV, WF_sJ, WF_sD, gL_sF, gV_sF, gR_sF, gN_sF, gL_sG, gV_sG, gR_sG, gN_sG, WF_sF, ↓eR_1_2, ↓eR_1_5, ↓eR_1_6, ↓eR_2_3, ↓eR_3_2, ↓eR_4_1, ↓eR_6_0, ↓eR_8_34, ↓eR_9_0, ↓eR_20_0, ↓eR_22_0, sL_7, sL_8, sL_60, sL_61, sN_60, sN_61, ↓s7_0, ↓s7_1, ↓s7_2, ↓s7_3, ↓s7_4, ↓s7_5, ↓s7_6, sL_100, ↓s8_0, sN_100, sL_101, ↓s8_1, sN_101, sL_102, ↓s8_2, sN_102, sL_103, ↓s8_3, sN_103, sL_104, ↓s8_4, sN_104, sL_105, ↓s8_5, sN_105, sL_107, ↓s8_7, sN_107, sL_108, ↓s8_8, sN_108, sL_109, ↓s8_9, sN_109, sL_110, ↓s8_10, sN_110, sL_111, ↓s8_11, sN_111, sL_112, ↓s8_12, sN_112, sL_113, ↓s8_13, sN_113, sL_114, ↓s8_14, sN_114, sL_115, ↓s8_15, sN_115, sL_116, ↓s8_16, sN_116, sL_117, ↓s8_17, sN_117, sL_118, ↓s8_18, sN_118, sL_119, ↓s8_19, sN_119, sL_120, ↓s8_20, sN_120, sL_127, ↓s8_27, sN_127, sL_128, ↓s8_28, sN_128, sL_129, ↓s8_29, sN_129, sL_130, ↓s8_30, sN_130, sL_132, ↓s8_32, sN_132, P0_sV, P0_sJ, P0_sD, hcl_1, hok_1_0, hok_1_1, hok_1_2, hok_1_3, hok_1_4, hok_1_5, hok_1_6, hok_1_7, hok_1_8, hok_1_9, hok_1_10, hok_1_11, hok_1_12, hok_1_13, hok_1_14, hok_1_15, hcl_2, hok_2_0, hok_2_1, hok_2_2, hok_2_3, hok_2_4, hok_2_5, hcl_3, hok_3_0, hok_3_1, hok_3_2, hcl_4, hok_4_0, hok_4_1, hok_4_2, hok_4_3, hcl_5, hok_5_0, hok_5_1, hok_5_2, hcl_6, hok_6_0, hok_6_1, hcl_7, hok_7_0, hok_7_1, hok_7_2, hok_7_3, hok_7_4, hok_7_5, hok_7_6, hok_7_7, hok_7_8, hok_7_9, hok_7_10, hok_7_11, hok_7_12, hcl_8, hok_8_0, hok_8_1, hok_8_2, hok_8_3, hok_8_4, hok_8_5, hok_8_6, hok_8_7, hok_8_8, hok_8_9, hok_8_10, hok_8_11, hok_8_12, hok_8_13, hok_8_14, hok_8_15, hok_8_16, hok_8_17, hok_8_18, hok_8_19, hok_8_20, hok_8_21, hok_8_22, hok_8_23, hok_8_24, hok_8_25, hok_8_26, hok_8_27, hok_8_28, hok_8_29, hok_8_30, hok_8_31, hok_8_32, hok_8_33, hok_8_34, hok_8_35, hok_8_36, hcl_9, hok_9_0, hok_9_1, hok_9_2, hok_9_3, hcl_20, hok_20_0, hok_20_1, hcl_22, hok_22_0, hok_22_1, hcl_30, hok_30_0, hok_30_1, hok_30_2, hcl_31, hok_31_0, hok_31_1, hok_31_2, hcl_32, hok_32_0, hok_32_1, hok_32_2, hcl_33, hok_33_0, hok_33_1, hok_33_2, hak_16, hak_21, hak_23, hak_40, hak_41, hak_42, hak_43, hak_50, hak_60, hak_61, hak_205, hak_227, hak_100, hak_101, hak_102, hak_103, hak_104, hak_105, hak_107, hak_108, hak_109, hak_110, hak_111, hak_112, hak_113, hak_114, hak_115, hak_116, hak_117, hak_118, hak_119, hak_120, hak_127, hak_128, hak_129, hak_130, hak_132, ↓eL_16, ↓eL_21, ↓eL_23, ↓eL_50, W, Q, cmpS, hL, h21, h10, nb0, nb1, ↓if_neg hv, ↓if_neg hz, ↓if_neg hq, ↓hh, ↓hin, ↓if_neg hn, hn2, l_size W (Or.inr (Or.inr (Or.inl rfl))) hL, hL.1]
    refine LIv_of ?_ hx ?_
    · exact W
    · exact P
set_option maxHeartbeats 8000000 in
theorem p_01 (hin : ∀ j : Nat, j < 7 → vp_in (Int32.ofNat (7 * i) + Int32.ofNat j) Ls) (h : LIv X v1 v2 v3 v4 g) : w_law_1 X xs Ls b (LIv X v1 v2 v3 v4) v1 v2 v3 v4 (Int32.ofNat (7 * i)) g := by
  by_cases hm : (xs (Int32.ofNat (7 * i) + 2).toNatClampNeg < 1 ∨ 63 < xs (Int32.ofNat (7 * i) + 2).toNatClampNeg)
  · exact p_01a hin h hm
  by_cases hl : (xs (Int32.ofNat (7 * i) + 3).toNatClampNeg < 1 ∨ 7 < xs (Int32.ofNat (7 * i) + 3).toNatClampNeg)
  · exact p_01b hin h hm hl
  by_cases ht : (xs (Int32.ofNat (7 * i) + 6).toNatClampNeg < 0 ∨ 255 < xs (Int32.ofNat (7 * i) + 6).toNatClampNeg)
  · exact p_01c hin h hm hl ht
  by_cases hv : (xs (Int32.ofNat (7 * i) + 1).toNatClampNeg < 1 ∨ 999 < xs (Int32.ofNat (7 * i) + 1).toNatClampNeg)
  · exact p_01d hin h hm hl ht hv
  by_cases hz : (xs (Int32.ofNat (7 * i) + 4).toNatClampNeg < 1 ∨ 500 < xs (Int32.ofNat (7 * i) + 4).toNatClampNeg)
  · exact p_01e hin h hm hl ht hv hz
  by_cases hq : (xs (Int32.ofNat (7 * i) + 5).toNatClampNeg < 0 ∨ 15 < xs (Int32.ofNat (7 * i) + 5).toNatClampNeg)
  · exact p_01f hin h hm hl ht hv hz hq
  exact p_01g hin h hm hl ht hv hz hq
end CS
