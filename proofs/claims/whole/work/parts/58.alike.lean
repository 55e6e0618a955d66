/-! how alike two stacks are -/
def al (a b : Nat → Int32) : Nat → Nat → Nat
  | 0, p => p
  | k + 1, p => if a p = b p then al a b k (p + 1) else p
def lkv (a b : Nat → Int32) (m n : Nat) : UInt32 := FP.fdiv (FP.i2f (nI (al a b (min m n) 0))) (FP.i2f (nI (max m n)))
theorem al_cong {a b a' b' : Nat → Int32} : ∀ (k p : Nat), (∀ q, q < p + k → a q = a' q) → (∀ q, q < p + k → b q = b' q) → al a b k p = al a' b' k p
  | 0, _, _, _ => rfl
  | k + 1, p, h1, h2 => by
    rw [al, al, h1 p (by omega), h2 p (by omega), al_cong k (p + 1) (fun q hq => h1 q (by omega)) (fun q hq => h2 q (by omega))]
theorem lkv_cong {a b a' b' : Nat → Int32} {m n : Nat} (h1 : ∀ q, q < m → a q = a' q) (h2 : ∀ q, q < n → b q = b' q) : lkv a b m n = lkv a' b' m n := by
  unfold lkv
  rw [al_cong (a' := a') (b' := b') (min m n) 0 (fun q hq => h1 q (by omega)) (fun q hq => h2 q (by omega))]
theorem nI_max {m n : Nat} (hm : m < 1000) (hn : n < 1000) : (if nI m < nI n then nI n else nI m) = nI (max m n) := by
  by_cases c : m < n
  · rw [if_pos (nI_lt c (by omega)), Nat.max_eq_right (by omega)]
  · rw [if_neg (nI_nlt (by omega) (by omega)), Nat.max_eq_left (by omega)]
theorem nI_min {m n : Nat} (hm : m < 1000) (hn : n < 1000) : (if nI n < nI m then nI n else nI m) = nI (min m n) := by
  by_cases c : n < m
  · rw [if_pos (nI_lt c (by omega)), Nat.min_eq_right (by omega)]
  · rw [if_neg (nI_nlt (by omega) (by omega)), Nat.min_eq_left (by omega)]
theorem nI_nz {m : Nat} (h1 : 1 ≤ m) (h2 : m < 1000) : ¬ nI m = 0 := nI_ne0 (by omega) (by omega)
section AL
variable {A : Ad} {σ : St} {X : Cx} {px : String → GM → Prop}
theorem q_ail {post : UInt32 → GM → Prop} {i1 i2 s : Nat} {w : Int32} (W : WF A σ) (h1 : i1 < gL σ 6) (h2 : i2 < gL σ 6) (a1 : i1 < gL σ 16) (a2 : i2 < gL σ 16) (r1 : gR σ 6 0 i1 = i1 + 1) (r2 : gR σ 6 0 i2 = i2 + 1) (n1 : gN σ 16 i1 = 6) (n2 : gN σ 16 i2 = 6) (hs : s ≤ 6) : ∀ (k F p : Nat), p + k = s → k < F → w_X6_likenessTo_l33 X post px F (some (A.1 6 i1)) (some (A.1 6 i2)) w (nI s) (nI p) (hp A σ) = w_X6_likenessTo_b62 X post px w (nI (al (fun j => gV σ 16 j i1) (fun j => gV σ 16 j i2) k p)) (hp A σ) := by
  intro k
  induction k with
  | zero =>
    intro F p hp0 hF
    obtain ⟨F, rfl⟩ : ∃ F', F = F' + 1 := ⟨F - 1, by omega⟩
    rw [w_X6_likenessTo_l33, if_pos (nI_le (by omega) (by omega)), al]
  | succ k ih =>
    intro F p hp0 hF
    obtain ⟨F, rfl⟩ : ∃ F', F = F' + 1 := ⟨F - 1, by omega⟩
    have hv : vp_in (nI p) 6 := vp_in_nI (by omega) (by omega)
    have hc : (nI p).toNatClampNeg = p := nI_clamp (by omega)
    rw [w_X6_likenessTo_l33, if_neg (nI_ge (by omega) (by omega)), eR_6_0 W h1, r1, hr_s, e_Ald W a1 hak_16 (by decide), n1, p_and hv, hc, eR_6_0 W h2, r2, hr_s, e_Ald W a2 hak_16 (by decide), n2, p_and hv, hc, al]
    by_cases c : gV σ 16 p i1 = gV σ 16 p i2
    · rw [if_pos c, if_pos c, nI_1]
      exact ih F (p + 1) (by omega) (by omega)
    · rw [if_neg c, if_neg c]
theorem q_ai {post : UInt32 → GM → Prop} {i1 i2 m n : Nat} (W : WF A σ) (h1 : i1 < gL σ 6) (h2 : i2 < gL σ 6) (a1 : i1 < gL σ 16) (a2 : i2 < gL σ 16) (r1 : gR σ 6 0 i1 = i1 + 1) (r2 : gR σ 6 0 i2 = i2 + 1) (n1 : gN σ 16 i1 = 6) (n2 : gN σ 16 i2 = 6) (e1 : gV σ 6 1 i1 = nI m) (e2 : gV σ 6 1 i2 = nI n) (hm : 1 ≤ m) (hm6 : m ≤ 6) (hn6 : n ≤ 6) : w_X6_likenessTo X post px (some (A.1 6 i1)) (some (A.1 6 i2)) (hp A σ) = post (lkv (fun j => gV σ 16 j i1) (fun j => gV σ 16 j i2) m n) (hp A σ) := by
  have hz : ¬ nI (max m n) = 0 := nI_nz (by omega) (by omega)
  unfold w_X6_likenessTo
  rw [e_GetI W h1 hok_6_1, e1, e_GetI W h2 hok_6_1, e2, nI_max (by omega) (by omega), if_neg hz, e_GetI W h1 hok_6_1, e1, e_GetI W h2 hok_6_1, e2, nI_min (by omega) (by omega), show (0 : Int32) = nI 0 from rfl, q_ail W h1 h2 a1 a2 r1 r2 n1 n2 (by omega) (min m n) 3000 0 (by omega) (by omega)]
  unfold w_X6_likenessTo_b62
  rw [p_and (fl_div hz)]
  rfl
theorem q_aml {post : UInt32 → GM → Prop} {k1 i1 k2 i2 m n : Nat} (W : WF A σ) (h1 : i1 < gL σ k1) (h2 : i2 < gL σ k2) (a1 : hak k1 1 = true) (a2 : hak k2 1 = true) (n1 : gN σ k1 i1 = 6) (n2 : gN σ k2 i2 = 6) (hm6 : m ≤ 6) (hn6 : n ≤ 6) : ∀ (k F p : Nat), p + k = min m n → k < F → w_X8_alike_l3 X post px F (some (A.1 k1 i1)) (nI m) (some (A.1 k2 i2)) (nI n) (nI p) (hp A σ) = w_X8_alike_b32 X post px (nI m) (nI n) (nI (al (fun j => gV σ k1 j i1) (fun j => gV σ k2 j i2) k p)) (hp A σ) := by
  intro k
  induction k with
  | zero =>
    intro F p hp0 hF
    obtain ⟨F, rfl⟩ : ∃ F', F = F' + 1 := ⟨F - 1, by omega⟩
    rw [w_X8_alike_l3, al]
    by_cases c : m ≤ p
    · rw [if_pos (nI_le c (by omega))]
    · rw [if_neg (nI_ge (by omega) (by omega)), if_pos (nI_le (by omega) (by omega))]
  | succ k ih =>
    intro F p hp0 hF
    obtain ⟨F, rfl⟩ : ∃ F', F = F' + 1 := ⟨F - 1, by omega⟩
    have hv : vp_in (nI p) 6 := vp_in_nI (by omega) (by omega)
    have hc : (nI p).toNatClampNeg = p := nI_clamp (by omega)
    rw [w_X8_alike_l3, if_neg (nI_ge (by omega) (by omega)), if_neg (nI_ge (by omega) (by omega)), e_Ald W h1 a1 (by decide), n1, p_and hv, hc, e_Ald W h2 a2 (by decide), n2, p_and hv, hc, al]
    by_cases c : gV σ k1 p i1 = gV σ k2 p i2
    · rw [if_pos c, if_pos c, nI_1]
      exact ih F (p + 1) (by omega) (by omega)
    · rw [if_neg c, if_neg c]
theorem q_am {post : UInt32 → GM → Prop} {k1 i1 k2 i2 m n : Nat} (W : WF A σ) (h1 : i1 < gL σ k1) (h2 : i2 < gL σ k2) (a1 : hak k1 1 = true) (a2 : hak k2 1 = true) (n1 : gN σ k1 i1 = 6) (n2 : gN σ k2 i2 = 6) (hm : 1 ≤ m) (hm6 : m ≤ 6) (hn6 : n ≤ 6) : w_X8_alike X post px (some (A.1 k1 i1)) (nI m) (some (A.1 k2 i2)) (nI n) (hp A σ) = post (lkv (fun j => gV σ k1 j i1) (fun j => gV σ k2 j i2) m n) (hp A σ) := by
  have hz : ¬ nI (max m n) = 0 := nI_nz (by omega) (by omega)
  unfold w_X8_alike
  rw [show (0 : Int32) = nI 0 from rfl, q_aml W h1 h2 a1 a2 n1 n2 hm6 hn6 (min m n) 3000 0 (by omega) (by omega)]
  unfold w_X8_alike_b32
  rw [nI_max (by omega) (by omega), p_and (fl_div hz)]
  rfl
end AL
section CS
variable {X : Cx} {xs : Nat → Int32} {Ls b i : Nat} {v1 v2 v3 v4 : Option Nat} {g : GM}
set_option maxHeartbeats 4000000 in
theorem p_28 (hin : ∀ j : Nat, j < 7 → vp_in (Int32.ofNat (7 * i) + Int32.ofNat j) Ls) (h : LIv X v1 v2 v3 v4 g) : w_law_28 X xs Ls b (LIv X v1 v2 v3 v4) v1 v2 v3 v4 (Int32.ofNat (7 * i)) g := by
  obtain ⟨A, σ, W, hx, P, rfl, rfl, rfl, rfl, rfl⟩ := h
  have Q := P.1
  have u1 : vp_in (Int32.ofNat (7 * i) + 1) Ls := hin 1 (by decide)
  have u2 : vp_in (Int32.ofNat (7 * i) + 2) Ls := hin 2 (by decide)
  have hL := P.2.2.2.2.2.2.2.2.2.2
  have h21 : gV σ 8 31 0 = nI (gL σ 4) := P.2.1.1.2.2
  have h10 : gL σ 4 ≤ 30 := P.2.1.2.2.2.2.2.2.2.2.2
  unfold w_law_28
  generalize xs (Int32.ofNat (7 * i) + 1).toNatClampNeg = v
  generalize xs (Int32.ofNat (7 * i) + 2).toNatClampNeg = w
  rcases q_ix v (show gL σ 4 ≤ 40 by omega) with hc | ⟨j, hj, rfl⟩
  · simp (config := { maxSteps := 1000000 }) only [↓w_law_28.eq_1, ↓w_L_law_b2015.eq_1, ↓w_L_law_b2013.eq_1, ↓w_L_likeness.eq_1, ↓w_X7_likeness.eq_1, ↓w_X8_likeness_b75.eq_1, ↓w_X8_likeness_b34.eq_1, ↓w_X8_likeness_b33.eq_1, ↓w_X8_likeness.eq_1, ↓w_X8_thrown.eq_1, u1, u2, ↓q_kg, ↓q_in, ↓if_pos hc, true_and, and_true, if_true, if_false, reduceIte, and_self, false_and, and_false, or_false, false_or, true_or, or_true, not_true_eq_false, not_false_eq_true, ne_eq, reduceCtorEq, Nat.reduceLT, Nat.reduceEqDiff, Nat.reduceLeDiff, Nat.reduceAdd, eq_self, ii_0_1, ii_0_2, ii_0_3, ii_0_4, ii_1_0, ii_1_2, ii_1_3, ii_1_4, il_1, ii_2_0, ii_2_1, ii_2_3, ii_2_4, il_2, ii_3_0, ii_3_1, ii_3_2, ii_3_4, il_3, ii_4_0, ii_4_1, ii_4_2, ii_4_3, il_4, il_0, ie_0_1, ie_0_2, ie_0_3, ie_0_4, ie_0_5, ie_1_0, ie_1_2, ie_1_3, ie_1_4, ie_1_5, ie_2_0, ie_2_1, ie_2_3, ie_2_4, ie_2_5, ie_3_0, ie_3_1, ie_3_2, ie_3_4, ie_3_5, ie_4_0, ie_4_1, ie_4_2, ie_4_3, ie_4_5, ie_5_0, ie_5_1, ie_5_2, ie_5_3, ie_5_4, ↓e_Is', ↓e_GetI, ↓e_GetF, ↓e_PutI, ↓e_PutF, ↓e_PutR, ↓e_Ald, ↓e_Ast, ↓e_Aldq, ↓e_AldJ, ↓e_AstJ, ↓e_AldD, ↓e_AstD, gL_sV, gV_sV, gR_sV, gN_sV, gJ_sV, gD_sV, gL_sR, gV_sR, gR_sR, gN_sR, gJ_sR, gD_sR, gL_sJ, gV_sJ, gR_sJ, gN_sJ, gJ_sJ, gL_sD, gV_sD, gR_sD, gN_sD, gD_sD, hr_0, hr_s, WF_sV, WF_sJ, WF_sD, gL_sF, gV_sF, gR_sF, gN_sF, gL_sG, gV_sG, gR_sG, gN_sG, WF_sF, ↓eR_1_2, ↓eR_1_5, ↓eR_1_6, ↓eR_2_3, ↓eR_3_2, ↓eR_4_1, ↓eR_6_0, ↓eR_8_34, ↓eR_9_0, ↓eR_20_0, ↓eR_22_0, sL_7, sL_8, sL_60, sL_61, sN_60, sN_61, ↓s7_0, ↓s7_1, ↓s7_2, ↓s7_3, ↓s7_4, ↓s7_5, ↓s7_6, sL_100, ↓s8_0, sN_100, sL_101, ↓s8_1, sN_101, sL_102, ↓s8_2, sN_102, sL_103, ↓s8_3, sN_103, sL_104, ↓s8_4, sN_104, sL_105, ↓s8_5, sN_105, sL_107, ↓s8_7, sN_107, sL_108, ↓s8_8, sN_108, sL_109, ↓s8_9, sN_109, sL_110, ↓s8_10, sN_110, sL_111, ↓s8_11, sN_111, sL_112, ↓s8_12, sN_112, sL_113, ↓s8_13, sN_113, sL_114, ↓s8_14, sN_114, sL_115, ↓s8_15, sN_115, sL_116, ↓s8_16, sN_116, sL_117, ↓s8_17, sN_117, sL_118, ↓s8_18, sN_118, sL_119, ↓s8_19, sN_119, sL_120, ↓s8_20, sN_120, sL_127, ↓s8_27, sN_127, sL_128, ↓s8_28, sN_128, sL_129, ↓s8_29, sN_129, sL_130, ↓s8_30, sN_130, sL_132, ↓s8_32, sN_132, P0_sV, P0_sJ, P0_sD, hcl_1, hok_1_0, hok_1_1, hok_1_2, hok_1_3, hok_1_4, hok_1_5, hok_1_6, hok_1_7, hok_1_8, hok_1_9, hok_1_10, hok_1_11, hok_1_12, hok_1_13, hok_1_14, hok_1_15, hcl_2, hok_2_0, hok_2_1, hok_2_2, hok_2_3, hok_2_4, hok_2_5, hcl_3, hok_3_0, hok_3_1, hok_3_2, hcl_4, hok_4_0, hok_4_1, hok_4_2, hok_4_3, hcl_5, hok_5_0, hok_5_1, hok_5_2, hcl_6, hok_6_0, hok_6_1, hcl_7, hok_7_0, hok_7_1, hok_7_2, hok_7_3, hok_7_4, hok_7_5, hok_7_6, hok_7_7, hok_7_8, hok_7_9, hok_7_10, hok_7_11, hok_7_12, hcl_8, hok_8_0, hok_8_1, hok_8_2, hok_8_3, hok_8_4, hok_8_5, hok_8_6, hok_8_7, hok_8_8, hok_8_9, hok_8_10, hok_8_11, hok_8_12, hok_8_13, hok_8_14, hok_8_15, hok_8_16, hok_8_17, hok_8_18, hok_8_19, hok_8_20, hok_8_21, hok_8_22, hok_8_23, hok_8_24, hok_8_25, hok_8_26, hok_8_27, hok_8_28, hok_8_29, hok_8_30, hok_8_31, hok_8_32, hok_8_33, hok_8_34, hok_8_35, hok_8_36, hcl_9, hok_9_0, hok_9_1, hok_9_2, hok_9_3, hcl_20, hok_20_0, hok_20_1, hcl_22, hok_22_0, hok_22_1, hcl_30, hok_30_0, hok_30_1, hok_30_2, hcl_31, hok_31_0, hok_31_1, hok_31_2, hcl_32, hok_32_0, hok_32_1, hok_32_2, hcl_33, hok_33_0, hok_33_1, hok_33_2, hak_16, hak_21, hak_23, hak_40, hak_41, hak_42, hak_43, hak_50, hak_60, hak_61, hak_205, hak_227, hak_100, hak_101, hak_102, hak_103, hak_104, hak_105, hak_107, hak_108, hak_109, hak_110, hak_111, hak_112, hak_113, hak_114, hak_115, hak_116, hak_117, hak_118, hak_119, hak_120, hak_127, hak_128, hak_129, hak_130, hak_132, ↓eL_16, ↓eL_21, ↓eL_23, ↓eL_50, W, Q, cmpS, hL, h21, h10, nb0, nb1]
    refine LIv_of ?_ hx ?_
    · exact W
    · exact P
  · have hc := q_nb hj (show gL σ 4 ≤ 40 by omega)
    have hcl : (nI j).toNatClampNeg = j := nI_clamp (by omega)
    have hjv : vp_in (nI j) 30 := vp_in_nI (by omega) (by omega)
    have hg : gR σ 4 1 j = (j + 2) + 1 := (P.2.2.2.2.1.2.1 j hj).2.1
    rcases q_ix w (show gL σ 4 ≤ 40 by omega) with hw | ⟨q, hq, rfl⟩
    · have hcw : gL σ 4 ≤ 40 := by omega
      simp (config := { maxSteps := 1000000 }) only [↓w_law_28.eq_1, ↓w_L_law_b2015.eq_1, ↓w_L_law_b2013.eq_1, ↓w_L_likeness.eq_1, ↓w_X7_likeness.eq_1, ↓w_X8_likeness_b75.eq_1, ↓w_X8_likeness_b34.eq_1, ↓w_X8_likeness_b33.eq_1, ↓w_X8_likeness.eq_1, ↓w_X8_thrown.eq_1, u1, u2, ↓q_kg, ↓q_in, ↓if_neg hc, ↓if_pos hw, true_and, and_true, if_true, if_false, reduceIte, and_self, false_and, and_false, or_false, false_or, true_or, or_true, not_true_eq_false, not_false_eq_true, ne_eq, reduceCtorEq, Nat.reduceLT, Nat.reduceEqDiff, Nat.reduceLeDiff, Nat.reduceAdd, eq_self, ii_0_1, ii_0_2, ii_0_3, ii_0_4, ii_1_0, ii_1_2, ii_1_3, ii_1_4, il_1, ii_2_0, ii_2_1, ii_2_3, ii_2_4, il_2, ii_3_0, ii_3_1, ii_3_2, ii_3_4, il_3, ii_4_0, ii_4_1, ii_4_2, ii_4_3, il_4, il_0, ie_0_1, ie_0_2, ie_0_3, ie_0_4, ie_0_5, ie_1_0, ie_1_2, ie_1_3, ie_1_4, ie_1_5, ie_2_0, ie_2_1, ie_2_3, ie_2_4, ie_2_5, ie_3_0, ie_3_1, ie_3_2, ie_3_4, ie_3_5, ie_4_0, ie_4_1, ie_4_2, ie_4_3, ie_4_5, ie_5_0, ie_5_1, ie_5_2, ie_5_3, ie_5_4, ↓e_Is', ↓e_GetI, ↓e_GetF, ↓e_PutI, ↓e_PutF, ↓e_PutR, ↓e_Ald, ↓e_Ast, ↓e_Aldq, ↓e_AldJ, ↓e_AstJ, ↓e_AldD, ↓e_AstD, gL_sV, gV_sV, gR_sV, gN_sV, gJ_sV, gD_sV, gL_sR, gV_sR, gR_sR, gN_sR, gJ_sR, gD_sR, gL_sJ, gV_sJ, gR_sJ, gN_sJ, gJ_sJ, gL_sD, gV_sD, gR_sD, gN_sD, gD_sD, hr_0, hr_s, WF_sV, WF_sJ, WF_sD, gL_sF, gV_sF, gR_sF, gN_sF, gL_sG, gV_sG, gR_sG, gN_sG, WF_sF, ↓eR_1_2, ↓eR_1_5, ↓eR_1_6, ↓eR_2_3, ↓eR_3_2, ↓eR_4_1, ↓eR_6_0, ↓eR_8_34, ↓eR_9_0, ↓eR_20_0, ↓eR_22_0, sL_7, sL_8, sL_60, sL_61, sN_60, sN_61, ↓s7_0, ↓s7_1, ↓s7_2, ↓s7_3, ↓s7_4, ↓s7_5, ↓s7_6, sL_100, ↓s8_0, sN_100, sL_101, ↓s8_1, sN_101, sL_102, ↓s8_2, sN_102, sL_103, ↓s8_3, sN_103, sL_104, ↓s8_4, sN_104, sL_105, ↓s8_5, sN_105, sL_107, ↓s8_7, sN_107, sL_108, ↓s8_8, sN_108, sL_109, ↓s8_9, sN_109, sL_110, ↓s8_10, sN_110, sL_111, ↓s8_11, sN_111, sL_112, ↓s8_12, sN_112, sL_113, ↓s8_13, sN_113, sL_114, ↓s8_14, sN_114, sL_115, ↓s8_15, sN_115, sL_116, ↓s8_16, sN_116, sL_117, ↓s8_17, sN_117, sL_118, ↓s8_18, sN_118, sL_119, ↓s8_19, sN_119, sL_120, ↓s8_20, sN_120, sL_127, ↓s8_27, sN_127, sL_128, ↓s8_28, sN_128, sL_129, ↓s8_29, sN_129, sL_130, ↓s8_30, sN_130, sL_132, ↓s8_32, sN_132, P0_sV, P0_sJ, P0_sD, hcl_1, hok_1_0, hok_1_1, hok_1_2, hok_1_3, hok_1_4, hok_1_5, hok_1_6, hok_1_7, hok_1_8, hok_1_9, hok_1_10, hok_1_11, hok_1_12, hok_1_13, hok_1_14, hok_1_15, hcl_2, hok_2_0, hok_2_1, hok_2_2, hok_2_3, hok_2_4, hok_2_5, hcl_3, hok_3_0, hok_3_1, hok_3_2, hcl_4, hok_4_0, hok_4_1, hok_4_2, hok_4_3, hcl_5, hok_5_0, hok_5_1, hok_5_2, hcl_6, hok_6_0, hok_6_1, hcl_7, hok_7_0, hok_7_1, hok_7_2, hok_7_3, hok_7_4, hok_7_5, hok_7_6, hok_7_7, hok_7_8, hok_7_9, hok_7_10, hok_7_11, hok_7_12, hcl_8, hok_8_0, hok_8_1, hok_8_2, hok_8_3, hok_8_4, hok_8_5, hok_8_6, hok_8_7, hok_8_8, hok_8_9, hok_8_10, hok_8_11, hok_8_12, hok_8_13, hok_8_14, hok_8_15, hok_8_16, hok_8_17, hok_8_18, hok_8_19, hok_8_20, hok_8_21, hok_8_22, hok_8_23, hok_8_24, hok_8_25, hok_8_26, hok_8_27, hok_8_28, hok_8_29, hok_8_30, hok_8_31, hok_8_32, hok_8_33, hok_8_34, hok_8_35, hok_8_36, hcl_9, hok_9_0, hok_9_1, hok_9_2, hok_9_3, hcl_20, hok_20_0, hok_20_1, hcl_22, hok_22_0, hok_22_1, hcl_30, hok_30_0, hok_30_1, hok_30_2, hcl_31, hok_31_0, hok_31_1, hok_31_2, hcl_32, hok_32_0, hok_32_1, hok_32_2, hcl_33, hok_33_0, hok_33_1, hok_33_2, hak_16, hak_21, hak_23, hak_40, hak_41, hak_42, hak_43, hak_50, hak_60, hak_61, hak_205, hak_227, hak_100, hak_101, hak_102, hak_103, hak_104, hak_105, hak_107, hak_108, hak_109, hak_110, hak_111, hak_112, hak_113, hak_114, hak_115, hak_116, hak_117, hak_118, hak_119, hak_120, hak_127, hak_128, hak_129, hak_130, hak_132, ↓eL_16, ↓eL_21, ↓eL_23, ↓eL_50, W, Q, cmpS, hL, h21, h10, nb0, nb1, hcl, hj, hg]
      refine LIv_of ?_ hx ?_
      · exact W
      · exact P
    · have hw := q_nb hq (show gL σ 4 ≤ 40 by omega)
      have hcq : (nI q).toNatClampNeg = q := nI_clamp (by omega)
      have hqv : vp_in (nI q) 30 := vp_in_nI (by omega) (by omega)
      have hgq : gR σ 4 1 q = (q + 2) + 1 := (P.2.2.2.2.1.2.1 q hq).2.1
      obtain ⟨s1, s2, s3⟩ := P.2.2.2.2.1.1
      obtain ⟨s4, s5⟩ := s3 (j + 2) (by omega)
      obtain ⟨t4, t5⟩ := s3 (q + 2) (by omega)
      have s6 : j + 2 < gL σ 6 := by omega
      obtain ⟨m, m1, m2, m3, m4, m5⟩ := P.2.2.2.2.1.2.2.1 j hj
      obtain ⟨n, n1, n2, n3, n4, n5⟩ := P.2.2.2.2.1.2.2.1 q hq
      have r1 : j < gL σ 227 := by rw [P.1.2.2.2.2.1]; omega
      have r1q : q < gL σ 227 := by rw [P.1.2.2.2.2.1]; omega
      obtain ⟨r2, r3⟩ := P.1.2.2.2.2.2 j (by omega)
      obtain ⟨r2q, r3q⟩ := P.1.2.2.2.2.2 q (by omega)
      have hz : ¬ nI (max m n) = 0 := nI_nz (by omega) (by omega)
      have hlk : lkv (fun p => gV σ 16 p (j + 2)) (fun p => gV σ 16 p (q + 2)) m n = lkv (fun p => gV σ 227 p j) (fun p => gV σ 227 p q) m n := lkv_cong (fun p hp0 => (m5 p hp0).1) (fun p hp0 => (n5 p hp0).1)
      have ho := fun (px : String → GM → Prop) (post : UInt32 → GM → Prop) => q_ai (X := X) (px := px) (post := post) W s6 (show q + 2 < gL σ 6 by omega) (show j + 2 < gL σ 16 by omega) (show q + 2 < gL σ 16 by omega) s4 t4 s5 t5 m3 n3 m1 m2 n2
      have hm1 := fun (x : UInt64) (px : String → GM → Prop) (post : UInt32 → GM → Prop) => q_am (X := X) (px := px) (post := post) (A := A) (σ := sV (sD σ x) 8 36 0 0) (k1 := 227) (k2 := 227) (i1 := j) (i2 := q) (m := m) (n := n) W r1 r1q rfl rfl r2 r2q m1 m2 n2
      have e1 := fl_f2d (fl_fin (a := nI (al (fun p => gV σ 227 p j) (fun p => gV σ 227 p q) (min m n) 0)) hz)
      have e2 := fl_cmp (fl_fin (a := nI (al (fun p => gV σ 227 p j) (fun p => gV σ 227 p q) (min m n) 0)) hz)
      rw [show FP.fdiv (FP.i2f (nI (al (fun p => gV σ 227 p j) (fun p => gV σ 227 p q) (min m n) 0))) (FP.i2f (nI (max m n))) = lkv (fun p => gV σ 227 p j) (fun p => gV σ 227 p q) m n from rfl] at e1 e2
      rw [hlk] at ho
      have hm2 : ∀ (x : UInt64) (px : String → GM → Prop) (post : UInt32 → GM → Prop), w_X8_alike X post px (some (A.1 227 j)) (nI m) (some (A.1 227 q)) (nI n) (hp A (sV (sD σ x) 8 36 0 0)) = post (lkv (fun p => gV σ 227 p j) (fun p => gV σ 227 p q) m n) (hp A (sV (sD σ x) 8 36 0 0)) := hm1
      simp (config := { maxSteps := 1000000 }) only [↓w_law_28.eq_1, ↓w_L_law_b2015.eq_1, ↓w_L_law_b2013.eq_1, ↓w_L_likeness.eq_1, ↓w_X7_likeness.eq_1, ↓w_X8_likeness_b75.eq_1, ↓w_X8_likeness_b34.eq_1, ↓w_X8_likeness_b33.eq_1, ↓w_X8_likeness.eq_1, ↓w_X8_thrown.eq_1, u1, u2, ↓q_kg, ↓q_in, ↓if_neg hc, ↓if_neg hw, true_and, and_true, if_true, if_false, reduceIte, and_self, false_and, and_false, or_false, false_or, true_or, or_true, not_true_eq_false, not_false_eq_true, ne_eq, reduceCtorEq, Nat.reduceLT, Nat.reduceEqDiff, Nat.reduceLeDiff, Nat.reduceAdd, eq_self, ii_0_1, ii_0_2, ii_0_3, ii_0_4, ii_1_0, ii_1_2, ii_1_3, ii_1_4, il_1, ii_2_0, ii_2_1, ii_2_3, ii_2_4, il_2, ii_3_0, ii_3_1, ii_3_2, ii_3_4, il_3, ii_4_0, ii_4_1, ii_4_2, ii_4_3, il_4, il_0, ie_0_1, ie_0_2, ie_0_3, ie_0_4, ie_0_5, ie_1_0, ie_1_2, ie_1_3, ie_1_4, ie_1_5, ie_2_0, ie_2_1, ie_2_3, ie_2_4, ie_2_5, ie_3_0, ie_3_1, ie_3_2, ie_3_4, ie_3_5, ie_4_0, ie_4_1, ie_4_2, ie_4_3, ie_4_5, ie_5_0, ie_5_1, ie_5_2, ie_5_3, ie_5_4, ↓e_Is', ↓e_GetI, ↓e_GetF, ↓e_PutI, ↓e_PutF, ↓e_PutR, ↓e_Ald, ↓e_Ast, ↓e_Aldq, ↓e_AldJ, ↓e_AstJ, ↓e_AldD, ↓e_AstD, gL_sV, gV_sV, gR_sV, gN_sV, gJ_sV, gD_sV, gL_sR, gV_sR, gR_sR, gN_sR, gJ_sR, gD_sR, gL_sJ, gV_sJ, gR_sJ, gN_sJ, gJ_sJ, gL_sD, gV_sD, gR_sD, gN_sD, gD_sD, hr_0, hr_s, WF_sV, WF_sJ, WF_sD, gL_sF, gV_sF, gR_sF, gN_sF, gL_sG, gV_sG, gR_sG, gN_sG, WF_sF, ↓eR_1_2, ↓eR_1_5, ↓eR_1_6, ↓eR_2_3, ↓eR_3_2, ↓eR_4_1, ↓eR_6_0, ↓eR_8_34, ↓eR_9_0, ↓eR_20_0, ↓eR_22_0, sL_7, sL_8, sL_60, sL_61, sN_60, sN_61, ↓s7_0, ↓s7_1, ↓s7_2, ↓s7_3, ↓s7_4, ↓s7_5, ↓s7_6, sL_100, ↓s8_0, sN_100, sL_101, ↓s8_1, sN_101, sL_102, ↓s8_2, sN_102, sL_103, ↓s8_3, sN_103, sL_104, ↓s8_4, sN_104, sL_105, ↓s8_5, sN_105, sL_107, ↓s8_7, sN_107, sL_108, ↓s8_8, sN_108, sL_109, ↓s8_9, sN_109, sL_110, ↓s8_10, sN_110, sL_111, ↓s8_11, sN_111, sL_112, ↓s8_12, sN_112, sL_113, ↓s8_13, sN_113, sL_114, ↓s8_14, sN_114, sL_115, ↓s8_15, sN_115, sL_116, ↓s8_16, sN_116, sL_117, ↓s8_17, sN_117, sL_118, ↓s8_18, sN_118, sL_119, ↓s8_19, sN_119, sL_120, ↓s8_20, sN_120, sL_127, ↓s8_27, sN_127, sL_128, ↓s8_28, sN_128, sL_129, ↓s8_29, sN_129, sL_130, ↓s8_30, sN_130, sL_132, ↓s8_32, sN_132, P0_sV, P0_sJ, P0_sD, hcl_1, hok_1_0, hok_1_1, hok_1_2, hok_1_3, hok_1_4, hok_1_5, hok_1_6, hok_1_7, hok_1_8, hok_1_9, hok_1_10, hok_1_11, hok_1_12, hok_1_13, hok_1_14, hok_1_15, hcl_2, hok_2_0, hok_2_1, hok_2_2, hok_2_3, hok_2_4, hok_2_5, hcl_3, hok_3_0, hok_3_1, hok_3_2, hcl_4, hok_4_0, hok_4_1, hok_4_2, hok_4_3, hcl_5, hok_5_0, hok_5_1, hok_5_2, hcl_6, hok_6_0, hok_6_1, hcl_7, hok_7_0, hok_7_1, hok_7_2, hok_7_3, hok_7_4, hok_7_5, hok_7_6, hok_7_7, hok_7_8, hok_7_9, hok_7_10, hok_7_11, hok_7_12, hcl_8, hok_8_0, hok_8_1, hok_8_2, hok_8_3, hok_8_4, hok_8_5, hok_8_6, hok_8_7, hok_8_8, hok_8_9, hok_8_10, hok_8_11, hok_8_12, hok_8_13, hok_8_14, hok_8_15, hok_8_16, hok_8_17, hok_8_18, hok_8_19, hok_8_20, hok_8_21, hok_8_22, hok_8_23, hok_8_24, hok_8_25, hok_8_26, hok_8_27, hok_8_28, hok_8_29, hok_8_30, hok_8_31, hok_8_32, hok_8_33, hok_8_34, hok_8_35, hok_8_36, hcl_9, hok_9_0, hok_9_1, hok_9_2, hok_9_3, hcl_20, hok_20_0, hok_20_1, hcl_22, hok_22_0, hok_22_1, hcl_30, hok_30_0, hok_30_1, hok_30_2, hcl_31, hok_31_0, hok_31_1, hok_31_2, hcl_32, hok_32_0, hok_32_1, hok_32_2, hcl_33, hok_33_0, hok_33_1, hok_33_2, hak_16, hak_21, hak_23, hak_40, hak_41, hak_42, hak_43, hak_50, hak_60, hak_61, hak_205, hak_227, hak_100, hak_101, hak_102, hak_103, hak_104, hak_105, hak_107, hak_108, hak_109, hak_110, hak_111, hak_112, hak_113, hak_114, hak_115, hak_116, hak_117, hak_118, hak_119, hak_120, hak_127, hak_128, hak_129, hak_130, hak_132, ↓eL_16, ↓eL_21, ↓eL_23, ↓eL_50, W, Q, cmpS, hL, h21, h10, nb0, nb1, hcl, hj, hg, hcq, hq, hgq, s6, ↓ho, ↓hm2, e1, e2, hjv, hqv, hE_127, r1, r2, r3, r1q, r2q, r3q, m4, n4]
      refine LIv_of ?_ hx ?_
      · exact W
      · exact P
end CS
