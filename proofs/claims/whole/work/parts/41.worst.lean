/-! worstGroup -/
def wg (F : Nat → Int32) : Nat → Nat
  | 0 => 0
  | i + 1 => if i = 0 then 0 else if F i ≤ F (wg F i) then wg F i else i
theorem wg_le (F : Nat → Int32) : ∀ i, wg F (i + 1) ≤ i
  | 0 => Nat.le_refl _
  | i + 1 => by
    rw [wg, if_neg (Nat.succ_ne_zero i)]
    by_cases h : F (i + 1) ≤ F (wg F (i + 1))
    · rw [if_pos h]; exact Nat.le_succ_of_le (wg_le F i)
    · rw [if_neg h]; exact Nat.le_refl _
theorem wg_cong {F G : Nat → Int32} : ∀ n, (∀ x, x < n → F x = G x) → wg F n = wg G n
  | 0, _ => rfl
  | n + 1, h => by
    rw [wg, wg]
    by_cases e : n = 0
    · rw [if_pos e, if_pos e]
    · rw [if_neg e, if_neg e, wg_cong n (fun x hx => h x (Nat.lt_succ_of_lt hx)), h n (Nat.lt_succ_self n)]
      obtain ⟨m, rfl⟩ : ∃ m, n = m + 1 := ⟨n - 1, by omega⟩
      rw [h (wg G (m + 1)) (by have := wg_le G m; omega)]
section WG
variable {A : Ad} {σ : St} {X : Cx} {px : String → GM → Prop} {post : Int32 → GM → Prop}
theorem q_wgl (W : WF A σ) (Q : P0 σ) (hL : Lst σ 33 (gL σ 4)) (h30 : gL σ 4 ≤ 30) : ∀ (k f i : Nat), 1 ≤ i → i + k = gL σ 4 → k < f → w_X7_worstGroup_l35 X post px f (some (A.1 7 0)) (some (A.1 4 (wg (fun x => gV σ 4 2 x) i))) (nI i) (hp A σ) = post (gV σ 4 0 (wg (fun x => gV σ 4 2 x) (gL σ 4))) (hp A σ) := by
  intro k
  induction k with
  | zero =>
    intro f i h1 hi hf
    obtain ⟨f, rfl⟩ : ∃ f', f = f' + 1 := ⟨f - 1, by omega⟩
    have hw : wg (fun x => gV σ 4 2 x) i < gL σ 4 := by
      obtain ⟨m, rfl⟩ : ∃ m, i = m + 1 := ⟨i - 1, by omega⟩
      have := wg_le (fun x => gV σ 4 2 x) m
      omega
    rw [w_X7_worstGroup_l35, s7_3 W Q, e_Is' W hL.1 hcl_33, l_size W (Or.inr (Or.inr (Or.inr rfl))) hL, if_pos (nI_le (by omega) (by omega)), e_GetI W hw hok_4_0, show i = gL σ 4 by omega]
  | succ k ih =>
    intro f i h1 hi hf
    obtain ⟨f, rfl⟩ : ∃ f', f = f' + 1 := ⟨f - 1, by omega⟩
    have hil : i < gL σ 4 := by omega
    have hw : wg (fun x => gV σ 4 2 x) i < gL σ 4 := by
      obtain ⟨m, rfl⟩ : ∃ m, i = m + 1 := ⟨i - 1, by omega⟩
      have := wg_le (fun x => gV σ 4 2 x) m
      omega
    rw [w_X7_worstGroup_l35, s7_3 W Q, e_Is' W hL.1 hcl_33, l_size W (Or.inr (Or.inr (Or.inr rfl))) hL, if_neg (nI_ge (by omega) (by omega))]
    rw [s7_3 W Q, e_Is' W hL.1 hcl_33, l_get W (Or.inr (Or.inr (Or.inr rfl))) hL hil]
    rw [show hE (33 + 10) = 4 from rfl, e_Is' W hil hcl_4, e_GetI W hil hok_4_2, e_GetI W hw hok_4_2]
    unfold w_X7_worstGroup_b71
    have ih' := ih f (i + 1) (by omega) (by omega) (by omega)
    rw [show wg (fun x => gV σ 4 2 x) (i + 1) = if gV σ 4 2 i ≤ gV σ 4 2 (wg (fun x => gV σ 4 2 x) i) then wg (fun x => gV σ 4 2 x) i else i from if_neg (by omega)] at ih'
    rw [nI_1]
    by_cases e : gV σ 4 2 i ≤ gV σ 4 2 (wg (fun x => gV σ 4 2 x) i)
    · rw [if_pos e]
      rw [if_pos e] at ih'
      exact ih'
    · rw [if_neg e]
      rw [if_neg e] at ih'
      exact ih'
theorem q_wgm (W : WF A σ) (Q : P0 σ) (h21 : gV σ 8 31 0 = nI (gL σ 4)) (h30 : gL σ 4 ≤ 30) (h36 : gV σ 8 36 0 = 0) : ∀ (k f i : Nat), 1 ≤ i → i + k = gL σ 4 → k < f → w_X8_worstGroup_l20 X post px f (some (A.1 8 0)) (nI (wg (fun x => gV σ 129 x 0) i)) (nI i) (hp A σ) = post (nI (wg (fun x => gV σ 129 x 0) (gL σ 4))) (hp A σ) := by
  intro k
  induction k with
  | zero =>
    intro f i h1 hi hf
    obtain ⟨f, rfl⟩ : ∃ f', f = f' + 1 := ⟨f - 1, by omega⟩
    rw [w_X8_worstGroup_l20, e_GetI W (sL_8 Q) hok_8_31, h21, if_pos (nI_le (by omega) (by omega)), e_GetI W (sL_8 Q) hok_8_36, h36, if_pos (by decide), show i = gL σ 4 by omega]
    rfl
  | succ k ih =>
    intro f i h1 hi hf
    obtain ⟨f, rfl⟩ : ∃ f', f = f' + 1 := ⟨f - 1, by omega⟩
    have hw : wg (fun x => gV σ 129 x 0) i < gL σ 4 := by
      obtain ⟨m, rfl⟩ : ∃ m, i = m + 1 := ⟨i - 1, by omega⟩
      have := wg_le (fun x => gV σ 129 x 0) m
      omega
    rw [w_X8_worstGroup_l20, e_GetI W (sL_8 Q) hok_8_31, h21, if_neg (nI_ge (by omega) (by omega)), s8_29 W Q, e_Ald W (sL_129 Q) hak_129 (by decide), sN_129 Q, p_and (vp_in_nI (show i < 30 by omega) (by omega)), nI_clamp (show i < 2 ^ 31 by omega)]
    rw [s8_29 W Q, e_Ald W (sL_129 Q) hak_129 (by decide), sN_129 Q, p_and (vp_in_nI (show wg (fun x => gV σ 129 x 0) i < 30 by omega) (by omega)), nI_clamp (show wg (fun x => gV σ 129 x 0) i < 2 ^ 31 by omega)]
    unfold w_X8_worstGroup_b48
    have ih' := ih f (i + 1) (by omega) (by omega) (by omega)
    rw [show wg (fun x => gV σ 129 x 0) (i + 1) = if gV σ 129 i 0 ≤ gV σ 129 (wg (fun x => gV σ 129 x 0) i) 0 then wg (fun x => gV σ 129 x 0) i else i from if_neg (by omega)] at ih'
    rw [nI_1]
    by_cases e : gV σ 129 i 0 ≤ gV σ 129 (wg (fun x => gV σ 129 x 0) i) 0
    · rw [if_pos e]
      rw [if_pos e] at ih'
      exact ih'
    · rw [if_neg e]
      rw [if_neg e] at ih'
      exact ih'
theorem q_wgm1 (W : WF A σ) (Q : P0 σ) (h21 : gV σ 8 31 0 = nI (gL σ 4)) (h30 : gL σ 4 ≤ 30) (h36 : gV σ 8 36 0 = 0) (h1 : 1 ≤ gL σ 4) : w_X8_worstGroup_l20 X post px 3000 (some (A.1 8 0)) 0 1 (hp A σ) = post (nI (wg (fun x => gV σ 129 x 0) (gL σ 4))) (hp A σ) := q_wgm W Q h21 h30 h36 (gL σ 4 - 1) 3000 1 (by omega) (by omega) (by omega)
theorem q_wg1 (W : WF A σ) (Q : P0 σ) (hL : Lst σ 33 (gL σ 4)) (h30 : gL σ 4 ≤ 30) (h1 : 1 ≤ gL σ 4) : w_X7_worstGroup_l35 X post px 3000 (some (A.1 7 0)) (some (A.1 4 0)) 1 (hp A σ) = post (gV σ 4 0 (wg (fun x => gV σ 4 2 x) (gL σ 4))) (hp A σ) := q_wgl W Q hL h30 (gL σ 4 - 1) 3000 1 (by omega) (by omega) (by omega)
/-- without groups -/
theorem q_wgm0 (W : WF A σ) (Q : P0 σ) (h21 : gV σ 8 31 0 = 0) (h36 : gV σ 8 36 0 = 1) : w_X8_worstGroup_l20 X post px 3000 (some (A.1 8 0)) 0 1 (hp A σ) = post 0 (hp A σ) := by
  show w_X8_worstGroup_l20 X post px (2999 + 1) (some (A.1 8 0)) 0 1 (hp A σ) = _
  rw [w_X8_worstGroup_l20, e_GetI W (sL_8 Q) hok_8_31, h21, if_pos (by decide), e_GetI W (sL_8 Q) hok_8_36, h36, if_neg (by decide)]
  rfl
end WG
section CM
variable {X : Cx} {xs : Nat → Int32} {Ls b i : Nat} {v1 v2 v3 v4 : Option Nat} {g : GM}
set_option maxHeartbeats 4000000 in
theorem p_30 (h : LIv X v1 v2 v3 v4 g) : w_law_30 X xs Ls b (LIv X v1 v2 v3 v4) v1 v2 v3 v4 (Int32.ofNat (7 * i)) g := by
  obtain ⟨A, σ, W, hx, P, rfl, rfl, rfl, rfl, rfl⟩ := h
  have Q := P.1
  have hL := P.2.2.2.2.2.2.2.2.2.2
  have hl0 := hL.1
  have hz : gV σ 33 2 0 = nI (gL σ 4) := hL.2.1
  have h21 : gV σ 8 31 0 = nI (gL σ 4) := P.2.1.1.2.2
  have h30 : gL σ 4 ≤ 30 := P.2.1.2.2.2.2.2.2.2.2.2
  by_cases h0 : gL σ 4 = 0
  · have hz' : gV σ 33 2 0 = 0 := by rw [hz, h0]; rfl
    have h21' : gV σ 8 31 0 = 0 := by rw [h21, h0]; rfl
    simp (config := { maxSteps := 1000000 }) only [↓w_law_30.eq_1, ↓w_L_law_b2115.eq_1, ↓w_L_worstGroup.eq_1, ↓w_X7_worstGroup_b71.eq_1, ↓w_X7_worstGroup.eq_1, ↓w_X8_worstGroup_b67.eq_1, ↓w_X8_worstGroup_b48.eq_1, ↓w_X8_worstGroup_b13.eq_1, ↓w_X8_worstGroup.eq_1, ↓w_X8_thrown.eq_1, ↓w_Jx4a65c_isEmpty_aae02_b12.eq_1, ↓w_Jx4a65c_isEmpty_aae02.eq_1, true_and, and_true, if_true, if_false, reduceIte, and_self, false_and, and_false, or_false, false_or, true_or, or_true, not_true_eq_false, not_false_eq_true, ne_eq, reduceCtorEq, Nat.reduceLT, Nat.reduceEqDiff, Nat.reduceLeDiff, Nat.reduceAdd, eq_self, ii_0_1, ii_0_2, ii_0_3, ii_0_4, ii_1_0, ii_1_2, ii_1_3, ii_1_4, il_1, ii_2_0, ii_2_1, ii_2_3, ii_2_4, il_2, ii_3_0, ii_3_1, ii_3_2, ii_3_4, il_3, ii_4_0, ii_4_1, ii_4_2, ii_4_3, il_4, il_0, ie_0_1, ie_0_2, ie_0_3, ie_0_4, ie_0_5, ie_1_0, ie_1_2, ie_1_3, ie_1_4, ie_1_5, ie_2_0, ie_2_1, ie_2_3, ie_2_4, ie_2_5, ie_3_0, ie_3_1, ie_3_2, ie_3_4, ie_3_5, ie_4_0, ie_4_1, ie_4_2, ie_4_3, ie_4_5, ie_5_0, ie_5_1, ie_5_2, ie_5_3, ie_5_4, ↓e_Is', ↓e_GetI, ↓e_GetF, ↓e_PutI, ↓e_PutF, ↓e_PutR, ↓e_Ald, ↓e_Ast, ↓e_Aldq, ↓e_AldJ, ↓e_AstJ, ↓e_AldD, ↓e_AstD, gL_sV, gV_sV, gR_sV, gN_sV, gJ_sV, gD_sV, gL_sR, gV_sR, gR_sR, gN_sR, gJ_sR, gD_sR, gL_sJ, gV_sJ, gR_sJ, gN_sJ, gJ_sJ, gL_sD, gV_sD, gR_sD, gN_sD, gD_sD, hr_0, hr_s, WF_sV, WF_sJ, WF_sD, gL_sF, gV_sF, gR_sF, gN_sF, gL_sG, gV_sG, gR_sG, gN_sG, WF_sF, ↓eR_1_2, ↓eR_1_5, ↓eR_1_6, ↓eR_2_3, ↓eR_3_2, ↓eR_4_1, ↓eR_6_0, ↓eR_8_34, ↓eR_9_0, ↓eR_20_0, ↓eR_22_0, sL_7, sL_8, sL_60, sL_61, sN_60, sN_61, ↓s7_0, ↓s7_1, ↓s7_2, ↓s7_3, ↓s7_4, ↓s7_5, ↓s7_6, sL_100, ↓s8_0, sN_100, sL_101, ↓s8_1, sN_101, sL_102, ↓s8_2, sN_102, sL_103, ↓s8_3, sN_103, sL_104, ↓s8_4, sN_104, sL_105, ↓s8_5, sN_105, sL_107, ↓s8_7, sN_107, sL_108, ↓s8_8, sN_108, sL_109, ↓s8_9, sN_109, sL_110, ↓s8_10, sN_110, sL_111, ↓s8_11, sN_111, sL_112, ↓s8_12, sN_112, sL_113, ↓s8_13, sN_113, sL_114, ↓s8_14, sN_114, sL_115, ↓s8_15, sN_115, sL_116, ↓s8_16, sN_116, sL_117, ↓s8_17, sN_117, sL_118, ↓s8_18, sN_118, sL_119, ↓s8_19, sN_119, sL_120, ↓s8_20, sN_120, sL_127, ↓s8_27, sN_127, sL_128, ↓s8_28, sN_128, sL_129, ↓s8_29, sN_129, sL_130, ↓s8_30, sN_130, sL_132, ↓s8_32, sN_132, P0_sV, P0_sJ, P0_sD, hcl_1, hok_1_0, hok_1_1, hok_1_2, hok_1_3, hok_1_4, hok_1_5, hok_1_6, hok_1_7, hok_1_8, hok_1_9, hok_1_10, hok_1_11, hok_1_12, hok_1_13, hok_1_14, hok_1_15, hcl_2, hok_2_0, hok_2_1, hok_2_2, hok_2_3, hok_2_4, hok_2_5, hcl_3, hok_3_0, hok_3_1, hok_3_2, hcl_4, hok_4_0, hok_4_1, hok_4_2, hok_4_3, hcl_5, hok_5_0, hok_5_1, hok_5_2, hcl_6, hok_6_0, hok_6_1, hcl_7, hok_7_0, hok_7_1, hok_7_2, hok_7_3, hok_7_4, hok_7_5, hok_7_6, hok_7_7, hok_7_8, hok_7_9, hok_7_10, hok_7_11, hok_7_12, hcl_8, hok_8_0, hok_8_1, hok_8_2, hok_8_3, hok_8_4, hok_8_5, hok_8_6, hok_8_7, hok_8_8, hok_8_9, hok_8_10, hok_8_11, hok_8_12, hok_8_13, hok_8_14, hok_8_15, hok_8_16, hok_8_17, hok_8_18, hok_8_19, hok_8_20, hok_8_21, hok_8_22, hok_8_23, hok_8_24, hok_8_25, hok_8_26, hok_8_27, hok_8_28, hok_8_29, hok_8_30, hok_8_31, hok_8_32, hok_8_33, hok_8_34, hok_8_35, hok_8_36, hcl_9, hok_9_0, hok_9_1, hok_9_2, hok_9_3, hcl_20, hok_20_0, hok_20_1, hcl_22, hok_22_0, hok_22_1, hcl_30, hok_30_0, hok_30_1, hok_30_2, hcl_31, hok_31_0, hok_31_1, hok_31_2, hcl_32, hok_32_0, hok_32_1, hok_32_2, hcl_33, hok_33_0, hok_33_1, hok_33_2, hak_16, hak_21, hak_23, hak_40, hak_41, hak_42, hak_43, hak_50, hak_60, hak_61, hak_205, hak_227, hak_100, hak_101, hak_102, hak_103, hak_104, hak_105, hak_107, hak_108, hak_109, hak_110, hak_111, hak_112, hak_113, hak_114, hak_115, hak_116, hak_117, hak_118, hak_119, hak_120, hak_127, hak_128, hak_129, hak_130, hak_132, ↓eL_16, ↓eL_21, ↓eL_23, ↓eL_50, W, Q, cmpS, hl0, hz', h21', nb0, nb1, ↓q_wgm0]
    refine LIv_of ?_ hx ?_
    · exact W
    · exact P
  · have h1 : 1 ≤ gL σ 4 := by omega
    have hne : ¬ nI (gL σ 4) = 0 := nI_ne0 (by omega) (by omega)
    have hg0 : w_Jx4a65c_get_915e3 X = w_Jx4a65c_get_915e3 X := rfl
    have hget := fun (px : String → GM → Prop) (post : Option Nat → GM → Prop) => l_get (X := X) (px := px) (post := post) W (Or.inr (Or.inr (Or.inr rfl))) hL (show 0 < gL σ 4 by omega)
    have hget' : ∀ (px : String → GM → Prop) (post : Option Nat → GM → Prop), w_Jx4a65c_get_915e3 X post px (some (A.1 33 0)) 0 (hp A σ) = post (some (A.1 4 0)) (hp A σ) := hget
    have e4 : 0 < gL σ 4 := by omega
    have hw : wg (fun x => gV σ 4 2 x) (gL σ 4) < gL σ 4 := by
      obtain ⟨m, hm⟩ : ∃ m, gL σ 4 = m + 1 := ⟨gL σ 4 - 1, by omega⟩
      have := wg_le (fun x => gV σ 4 2 x) m
      rw [hm]
      omega
    have hnum := (P.2.2.2.2.1.2.1 _ hw).1
    have hcong : wg (fun x => gV σ 129 x 0) (gL σ 4) = wg (fun x => gV σ 4 2 x) (gL σ 4) := wg_cong _ (fun x hx => ((P.2.2.2.2.1.2.1 x hx).2.2.1).symm)
    simp (config := { maxSteps := 1000000 }) only [↓w_law_30.eq_1, ↓w_L_law_b2115.eq_1, ↓w_L_worstGroup.eq_1, ↓w_X7_worstGroup_b71.eq_1, ↓w_X7_worstGroup.eq_1, ↓w_X8_worstGroup_b67.eq_1, ↓w_X8_worstGroup_b48.eq_1, ↓w_X8_worstGroup_b13.eq_1, ↓w_X8_worstGroup.eq_1, ↓w_X8_thrown.eq_1, ↓w_Jx4a65c_isEmpty_aae02_b12.eq_1, ↓w_Jx4a65c_isEmpty_aae02.eq_1, true_and, and_true, if_true, if_false, reduceIte, and_self, false_and, and_false, or_false, false_or, true_or, or_true, not_true_eq_false, not_false_eq_true, ne_eq, reduceCtorEq, Nat.reduceLT, Nat.reduceEqDiff, Nat.reduceLeDiff, Nat.reduceAdd, eq_self, ii_0_1, ii_0_2, ii_0_3, ii_0_4, ii_1_0, ii_1_2, ii_1_3, ii_1_4, il_1, ii_2_0, ii_2_1, ii_2_3, ii_2_4, il_2, ii_3_0, ii_3_1, ii_3_2, ii_3_4, il_3, ii_4_0, ii_4_1, ii_4_2, ii_4_3, il_4, il_0, ie_0_1, ie_0_2, ie_0_3, ie_0_4, ie_0_5, ie_1_0, ie_1_2, ie_1_3, ie_1_4, ie_1_5, ie_2_0, ie_2_1, ie_2_3, ie_2_4, ie_2_5, ie_3_0, ie_3_1, ie_3_2, ie_3_4, ie_3_5, ie_4_0, ie_4_1, ie_4_2, ie_4_3, ie_4_5, ie_5_0, ie_5_1, ie_5_2, ie_5_3, ie_5_4, ↓e_Is', ↓e_GetI, ↓e_GetF, ↓e_PutI, ↓e_PutF, ↓e_PutR, ↓e_Ald, ↓e_Ast, ↓e_Aldq, ↓e_AldJ, ↓e_AstJ, ↓e_AldD, ↓e_AstD, gL_sV, gV_sV, gR_sV, gN_sV, gJ_sV, gD_sV, gL_sR, gV_sR, gR_sR, gN_sR, gJ_sR, gD_sR, gL_sJ, gV_sJ, gR_sJ, gN_sJ, gJ_sJ, gL_sD, gV_sD, gR_sD, gN_sD, gD_sD, hr_0, hr_s, WF_sV, WF_sJ, WF_sD, gL_sF, gV_sF, gR_sF, gN_sF, gL_sG, gV_sG, gR_sG, gN_sG, WF_sF, ↓eR_1_2, ↓eR_1_5, ↓eR_1_6, ↓eR_2_3, ↓eR_3_2, ↓eR_4_1, ↓eR_6_0, ↓eR_8_34, ↓eR_9_0, ↓eR_20_0, ↓eR_22_0, sL_7, sL_8, sL_60, sL_61, sN_60, sN_61, ↓s7_0, ↓s7_1, ↓s7_2, ↓s7_3, ↓s7_4, ↓s7_5, ↓s7_6, sL_100, ↓s8_0, sN_100, sL_101, ↓s8_1, sN_101, sL_102, ↓s8_2, sN_102, sL_103, ↓s8_3, sN_103, sL_104, ↓s8_4, sN_104, sL_105, ↓s8_5, sN_105, sL_107, ↓s8_7, sN_107, sL_108, ↓s8_8, sN_108, sL_109, ↓s8_9, sN_109, sL_110, ↓s8_10, sN_110, sL_111, ↓s8_11, sN_111, sL_112, ↓s8_12, sN_112, sL_113, ↓s8_13, sN_113, sL_114, ↓s8_14, sN_114, sL_115, ↓s8_15, sN_115, sL_116, ↓s8_16, sN_116, sL_117, ↓s8_17, sN_117, sL_118, ↓s8_18, sN_118, sL_119, ↓s8_19, sN_119, sL_120, ↓s8_20, sN_120, sL_127, ↓s8_27, sN_127, sL_128, ↓s8_28, sN_128, sL_129, ↓s8_29, sN_129, sL_130, ↓s8_30, sN_130, sL_132, ↓s8_32, sN_132, P0_sV, P0_sJ, P0_sD, hcl_1, hok_1_0, hok_1_1, hok_1_2, hok_1_3, hok_1_4, hok_1_5, hok_1_6, hok_1_7, hok_1_8, hok_1_9, hok_1_10, hok_1_11, hok_1_12, hok_1_13, hok_1_14, hok_1_15, hcl_2, hok_2_0, hok_2_1, hok_2_2, hok_2_3, hok_2_4, hok_2_5, hcl_3, hok_3_0, hok_3_1, hok_3_2, hcl_4, hok_4_0, hok_4_1, hok_4_2, hok_4_3, hcl_5, hok_5_0, hok_5_1, hok_5_2, hcl_6, hok_6_0, hok_6_1, hcl_7, hok_7_0, hok_7_1, hok_7_2, hok_7_3, hok_7_4, hok_7_5, hok_7_6, hok_7_7, hok_7_8, hok_7_9, hok_7_10, hok_7_11, hok_7_12, hcl_8, hok_8_0, hok_8_1, hok_8_2, hok_8_3, hok_8_4, hok_8_5, hok_8_6, hok_8_7, hok_8_8, hok_8_9, hok_8_10, hok_8_11, hok_8_12, hok_8_13, hok_8_14, hok_8_15, hok_8_16, hok_8_17, hok_8_18, hok_8_19, hok_8_20, hok_8_21, hok_8_22, hok_8_23, hok_8_24, hok_8_25, hok_8_26, hok_8_27, hok_8_28, hok_8_29, hok_8_30, hok_8_31, hok_8_32, hok_8_33, hok_8_34, hok_8_35, hok_8_36, hcl_9, hok_9_0, hok_9_1, hok_9_2, hok_9_3, hcl_20, hok_20_0, hok_20_1, hcl_22, hok_22_0, hok_22_1, hcl_30, hok_30_0, hok_30_1, hok_30_2, hcl_31, hok_31_0, hok_31_1, hok_31_2, hcl_32, hok_32_0, hok_32_1, hok_32_2, hcl_33, hok_33_0, hok_33_1, hok_33_2, hak_16, hak_21, hak_23, hak_40, hak_41, hak_42, hak_43, hak_50, hak_60, hak_61, hak_205, hak_227, hak_100, hak_101, hak_102, hak_103, hak_104, hak_105, hak_107, hak_108, hak_109, hak_110, hak_111, hak_112, hak_113, hak_114, hak_115, hak_116, hak_117, hak_118, hak_119, hak_120, hak_127, hak_128, hak_129, hak_130, hak_132, ↓eL_16, ↓eL_21, ↓eL_23, ↓eL_50, W, Q, cmpS, hL, hl0, hz, h21, h30, h1, e4, nb0, nb1, ↓if_neg hne, hget', ↓q_wg1, ↓q_wgm1, hnum, hcong]
    refine LIv_of ?_ hx ?_
    · exact W
    · exact P
end CM
