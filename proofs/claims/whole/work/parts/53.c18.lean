/-! the build that a device is given -/
def cf_nw (σ : St) (d b : Nat) : Int32 := if gR σ 2 3 d = 0 then 1 else if gV σ 1 1 b ≤ gV σ 1 1 (gR σ 2 3 d - 1) then 0 else 1
def cf_ok (σ : St) (d b : Nat) : Prop := cf_nw σ d b = 1 ∧ cu_op σ b d = 1
def cf_ga (σ : St) (b c : Nat) : Prop := if (gR σ 1 5 b = 0) = (gR σ 1 5 c = 0) then ¬ gV σ 1 1 b ≤ gV σ 1 1 c else ¬ gR σ 1 5 b = 0
noncomputable def cf_at (σ : St) (d : Nat) : Nat → Nat
  | 0 => 0
  | i + 1 => have := Classical.propDecidable (cf_ok σ d i ∧ (cf_at σ d i = 0 ∨ cf_ga σ i (cf_at σ d i - 1))); if cf_ok σ d i ∧ (cf_at σ d i = 0 ∨ cf_ga σ i (cf_at σ d i - 1)) then i + 1 else cf_at σ d i
theorem cf_t {σ : St} {d i : Nat} (h : cf_ok σ d i ∧ (cf_at σ d i = 0 ∨ cf_ga σ i (cf_at σ d i - 1))) : cf_at σ d (i + 1) = i + 1 := by
  rw [cf_at]; exact if_pos h
theorem cf_f {σ : St} {d i : Nat} (h : ¬ (cf_ok σ d i ∧ (cf_at σ d i = 0 ∨ cf_ga σ i (cf_at σ d i - 1)))) : cf_at σ d (i + 1) = cf_at σ d i := by
  rw [cf_at]; exact if_neg h
theorem cf_le (σ : St) (d : Nat) : ∀ i, cf_at σ d i ≤ i
  | 0 => Nat.le_refl _
  | i + 1 => by
    by_cases h : cf_ok σ d i ∧ (cf_at σ d i = 0 ∨ cf_ga σ i (cf_at σ d i - 1))
    · rw [cf_t h]; exact Nat.le_refl _
    · rw [cf_f h]; exact Nat.le_succ_of_le (cf_le σ d i)
theorem cf_is (σ : St) (d : Nat) : ∀ i, cf_at σ d i ≠ 0 → cf_ok σ d (cf_at σ d i - 1)
  | 0 => fun h => absurd rfl h
  | i + 1 => by
    by_cases h : cf_ok σ d i ∧ (cf_at σ d i = 0 ∨ cf_ga σ i (cf_at σ d i - 1))
    · rw [cf_t h]; exact fun _ => h.1
    · rw [cf_f h]; exact cf_is σ d i
theorem cf_n01 (σ : St) (d b : Nat) : cf_nw σ d b = 0 ∨ cf_nw σ d b = 1 := by
  unfold cf_nw
  by_cases h : gR σ 2 3 d = 0
  · rw [if_pos h]; exact Or.inr rfl
  · rw [if_neg h]
    by_cases h2 : gV σ 1 1 b ≤ gV σ 1 1 (gR σ 2 3 d - 1)
    · rw [if_pos h2]; exact Or.inl rfl
    · rw [if_neg h2]; exact Or.inr rfl
section CF
variable {A : Ad} {σ σ' : St} {X : Cx} {px : String → GM → Prop} {b c d : Nat}
theorem q_new {post : Int32 → GM → Prop} (W : WF A σ) (hb : b < gL σ 1) (hd : d < gL σ 2) : w_X1_isNewerThan X post px (some (A.1 1 b)) (hr A 1 (gR σ 2 3 d)) (hp A σ) = post (cf_nw σ d b) (hp A σ) := by
  have h2 : gR σ 2 3 d ≤ gL σ 1 := W.2.2 2 3 d hd
  unfold w_X1_isNewerThan w_X1_isNewerThan_b15 w_X1_isNewerThan_b20 cf_nw
  by_cases z : gR σ 2 3 d = 0
  · rw [if_pos z, if_pos (by rw [z]; rfl), p_and nb1]
  · obtain ⟨m, hm⟩ : ∃ m, gR σ 2 3 d = m + 1 := ⟨gR σ 2 3 d - 1, by omega⟩
    rw [if_neg z, if_neg (hr_nn z), hm, hr_s, Nat.add_sub_cancel, e_GetI W hb hok_1_1, e_GetI W (show m < gL σ 1 by omega) hok_1_1]
    by_cases y : gV σ 1 1 b ≤ gV σ 1 1 m
    · rw [if_pos y, if_pos y, p_and nb0]
    · rw [if_neg y, if_neg y, p_and nb1]
theorem q_ga {post : Int32 → GM → Prop} (W : WF A σ) (hb : b < gL σ 1) (hc : c < gL σ 1) : (cf_ga σ b c → w_X1_isGivenAheadOf X post px (some (A.1 1 b)) (some (A.1 1 c)) (hp A σ) = post 1 (hp A σ)) ∧ (¬ cf_ga σ b c → w_X1_isGivenAheadOf X post px (some (A.1 1 b)) (some (A.1 1 c)) (hp A σ) = post 0 (hp A σ)) := by
  unfold w_X1_isGivenAheadOf w_X1_isGivenAheadOf_b34 cf_ga
  rw [e_Is' W hb hcl_1, q_fix W hb, e_Is' W hc hcl_1, q_fix W hc]
  by_cases h1 : gR σ 1 5 b = 0
  · by_cases h2 : gR σ 1 5 c = 0
    · have e : (gR σ 1 5 b = 0) = (gR σ 1 5 c = 0) := propext ⟨fun _ => h2, fun _ => h1⟩
      rw [if_pos e, if_pos h1, if_pos h2, if_pos rfl, e_GetI W hb hok_1_1, e_GetI W hc hok_1_1, p_and nb0, p_and nb1]
      exact ⟨fun h => if_neg h, fun h => if_pos (Classical.byContradiction h)⟩
    · have e : ¬ (gR σ 1 5 b = 0) = (gR σ 1 5 c = 0) := fun z => h2 (z.mp h1)
      rw [if_neg e, if_pos h1, if_neg h2, if_neg (show ¬ (0 : Int32) = 1 by decide), e_Is' W hb hcl_1, q_fix W hb, if_pos h1, p_and nb0]
      exact ⟨fun h => absurd h1 h, fun _ => rfl⟩
  · by_cases h2 : gR σ 1 5 c = 0
    · have e : ¬ (gR σ 1 5 b = 0) = (gR σ 1 5 c = 0) := fun z => h1 (z.mpr h2)
      rw [if_neg e, if_neg h1, if_pos h2, if_neg (show ¬ (1 : Int32) = 0 by decide), e_Is' W hb hcl_1, q_fix W hb, if_neg h1, p_and nb1]
      exact ⟨fun h => rfl, fun h => absurd h1 h⟩
    · have e : (gR σ 1 5 b = 0) = (gR σ 1 5 c = 0) := propext ⟨fun z => absurd z h1, fun z => absurd z h2⟩
      rw [if_pos e, if_neg h1, if_neg h2, if_pos rfl, e_GetI W hb hok_1_1, e_GetI W hc hok_1_1, p_and nb0, p_and nb1]
      exact ⟨fun h => if_neg h, fun h => if_pos (Classical.byContradiction h)⟩
theorem q_cfl {post : Option Nat → GM → Prop} (W : WF A σ) (P : PI σ) (hd : d < gL σ 2) : ∀ (k f i : Nat), i + k = gL σ 1 → k < f → w_X7_choiceFor_l4 X post px f (some (A.1 7 0)) (some (A.1 2 d)) (hr A 1 (cf_at σ d i)) (nI i) (hp A σ) = if cf_at σ d (gL σ 1) = 0 then px "java/lang/IllegalStateException" (hp A σ) else post (some (A.1 1 (cf_at σ d (gL σ 1) - 1))) (hp A σ) := by
  have Q := P.1
  have h10 : gL σ 1 ≤ 10 := P.2.1.2.2.2.2.2.2.2.2.1
  have hL := P.2.2.2.2.2.2.2.2.2.1
  intro k
  induction k with
  | zero =>
    intro f i hi hf
    obtain ⟨f, rfl⟩ : ∃ f', f = f' + 1 := ⟨f - 1, by omega⟩
    rw [w_X7_choiceFor_l4, s7_2 W Q, e_Is' W hL.1 hcl_32, l_size W (Or.inr (Or.inr (Or.inl rfl))) hL, if_pos (nI_le (by omega) (by omega)), show gL σ 1 = i by omega]
    cases h : cf_at σ d i with
    | zero => rw [hr_0, if_pos rfl, if_pos rfl]
    | succ r => rw [hr_s, if_neg (by intro z; cases z), if_neg (Nat.succ_ne_zero r), Nat.add_sub_cancel]
  | succ k ih =>
    intro f i hi hf
    obtain ⟨f, rfl⟩ : ∃ f', f = f' + 1 := ⟨f - 1, by omega⟩
    have hil : i < gL σ 1 := by omega
    rw [w_X7_choiceFor_l4, s7_2 W Q, e_Is' W hL.1 hcl_32, l_size W (Or.inr (Or.inr (Or.inl rfl))) hL, if_neg (nI_ge (by omega) (by omega))]
    rw [s7_2 W Q, e_Is' W hL.1 hcl_32, l_get W (Or.inr (Or.inr (Or.inl rfl))) hL hil]
    rw [show hE (32 + 10) = 1 from rfl, e_Is' W hil hcl_1, eR_2_3 W hd, e_Is' W hil hcl_1, q_new W hil hd]
    unfold w_X7_choiceFor_b63
    unfold w_X7_choiceFor_b66
    have ih' := ih f (i + 1) (by omega) (by omega)
    rw [nI_1]
    rcases cf_n01 σ d i with n | n
    · rw [n, if_pos rfl]
      rw [cf_f (fun z => by have := z.1.1; rw [n] at this; exact absurd this (by decide))] at ih'
      exact ih'
    · rw [n, if_neg (by decide), e_Is' W (sL_7 Q) hcl_7, q_open W P hil hd]
      rcases cu_01 σ i d with o | o
      · rw [o, if_pos rfl]
        rw [cf_f (fun z => by have := z.1.2; rw [o] at this; exact absurd this (by decide))] at ih'
        exact ih'
      · rw [o, if_neg (by decide)]
        cases h : cf_at σ d i with
        | zero =>
          rw [hr_0, if_pos rfl]
          rw [cf_t ⟨⟨n, o⟩, Or.inl h⟩] at ih'
          exact ih'
        | succ r =>
          have hr1 : r < gL σ 1 := by
            have := cf_le σ d i
            omega
          rw [hr_s, if_neg (by intro z; cases z), e_Is' W hil hcl_1]
          by_cases hah : cf_ga σ i r
          · rw [(q_ga W hil hr1).1 hah]
            rw [cf_t ⟨⟨n, o⟩, Or.inr (by rw [h]; exact hah)⟩] at ih'
            exact ih'
          · rw [(q_ga W hil hr1).2 hah]
            rw [cf_f (fun z => z.2.elim (fun y => by rw [h] at y; cases y) (fun y => hah (by rw [h] at y; exact y))), h] at ih'
            exact ih'
theorem q_cf {post : Option Nat → GM → Prop} (W : WF A σ) (P : PI σ) (hd : d < gL σ 2) : w_X7_choiceFor X post px (some (A.1 7 0)) (some (A.1 2 d)) (hp A σ) = if cf_at σ d (gL σ 1) = 0 then px "java/lang/IllegalStateException" (hp A σ) else post (some (A.1 1 (cf_at σ d (gL σ 1) - 1))) (hp A σ) := by
  have h10 : gL σ 1 ≤ 10 := P.2.1.2.2.2.2.2.2.2.2.1
  unfold w_X7_choiceFor
  exact q_cfl W P hd (gL σ 1) 3000 0 (by omega) (by omega)
theorem q_g51 {post : Int32 → GM → Prop} {K : Option Nat → Int32 → Int32 → Int32 → GM → Prop} {i : Nat} {v : Int32} (P : PI σ) (M : MEq σ σ') (W : WF A σ') (Q : P0 σ') (hi : i < gL σ 1) (hc : c ≤ gL σ 1) : ((c = 0 ∨ cf_ga σ i (c - 1)) → w_X8_given_b51 X post px K (some (A.1 8 0)) v (nI c - 1) (nI i) (hp A σ') = K (some (A.1 8 0)) v (nI i) (nI (i + 1)) (hp A σ')) ∧ (¬ (c = 0 ∨ cf_ga σ i (c - 1)) → w_X8_given_b51 X post px K (some (A.1 8 0)) v (nI c - 1) (nI i) (hp A σ') = K (some (A.1 8 0)) v (nI c - 1) (nI (i + 1)) (hp A σ')) := by
  have h10 : gL σ 1 ≤ 10 := P.2.1.2.2.2.2.2.2.2.2.1
  have hm : ∀ b, b < gL σ 1 → (gR σ 1 5 b = 0 → gV σ 113 b 0 = -1) ∧ (¬ gR σ 1 5 b = 0 → ¬ gV σ 113 b 0 = -1) := by
    intro b hb
    have h1 := (P.2.2.2.1.1 b hb).2.2.2.2.1
    have h2 := (P.2.2.2.1.1 b hb).2.2.2.2.2.1
    rw [h1]
    cases h : gR σ 1 5 b with
    | zero => exact ⟨fun _ => by decide, fun z => absurd rfl z⟩
    | succ r => exact ⟨fun z => absurd z (Nat.succ_ne_zero r), fun _ z => by rw [nI_pred, nI_nm1 (by omega)] at z; exact z⟩
  have h113 : ∀ b, gV σ' 113 b 0 = gV σ 113 b 0 := fun b => M.2.1 113 b 0 (by decide)
  have h107 : ∀ b, gV σ' 107 b 0 = gV σ 107 b 0 := fun b => M.2.1 107 b 0 (by decide)
  have hiv : vp_in (nI i) 10 := vp_in_nI (by omega) (by omega)
  have hic : (nI i).toNatClampNeg = i := nI_clamp (by omega)
  have hvi := (P.2.2.2.1.1 i hi).2.1
  cases c with
  | zero =>
    have hb : nI 0 - 1 = -1 := by decide
    refine ⟨fun _ => ?_, fun z => absurd (Or.inl rfl) z⟩
    by_cases hf1 : gV σ 113 i 0 = -1
    · simp (config := { maxSteps := 1000000 }) only [↓if_pos hf1, hb, ↓w_X8_given_b51.eq_1, ↓w_X8_given_b66.eq_1, ↓w_X8_given_b123.eq_1, ↓w_X8_given_b128.eq_1, ↓w_X8_given_b140.eq_1, ↓w_X8_given_b141.eq_1, true_and, and_true, if_true, if_false, reduceIte, and_self, false_and, and_false, or_false, false_or, true_or, or_true, not_true_eq_false, not_false_eq_true, ne_eq, reduceCtorEq, Nat.reduceLT, Nat.reduceEqDiff, Nat.reduceLeDiff, Nat.reduceAdd, eq_self, ii_0_1, ii_0_2, ii_0_3, ii_0_4, ii_1_0, ii_1_2, ii_1_3, ii_1_4, il_1, ii_2_0, ii_2_1, ii_2_3, ii_2_4, il_2, ii_3_0, ii_3_1, ii_3_2, ii_3_4, il_3, ii_4_0, ii_4_1, ii_4_2, ii_4_3, il_4, il_0, ie_0_1, ie_0_2, ie_0_3, ie_0_4, ie_0_5, ie_1_0, ie_1_2, ie_1_3, ie_1_4, ie_1_5, ie_2_0, ie_2_1, ie_2_3, ie_2_4, ie_2_5, ie_3_0, ie_3_1, ie_3_2, ie_3_4, ie_3_5, ie_4_0, ie_4_1, ie_4_2, ie_4_3, ie_4_5, ie_5_0, ie_5_1, ie_5_2, ie_5_3, ie_5_4, ↓e_Is', ↓e_GetI, ↓e_GetF, ↓e_PutI, ↓e_PutF, ↓e_PutR, ↓e_Ald, ↓e_Ast, ↓e_Aldq, ↓e_AldJ, ↓e_AstJ, ↓e_AldD, ↓e_AstD, gL_sV, gV_sV, gR_sV, gN_sV, gJ_sV, gD_sV, gL_sR, gV_sR, gR_sR, gN_sR, gJ_sR, gD_sR, gL_sJ, gV_sJ, gR_sJ, gN_sJ, gJ_sJ, gL_sD, gV_sD, gR_sD, gN_sD, gD_sD, hr_0, hr_s, WF_sV, WF_sJ, WF_sD, gL_sF, gV_sF, gR_sF, gN_sF, gL_sG, gV_sG, gR_sG, gN_sG, WF_sF, ↓eR_1_2, ↓eR_1_5, ↓eR_1_6, ↓eR_2_3, ↓eR_3_2, ↓eR_4_1, ↓eR_6_0, ↓eR_8_34, ↓eR_9_0, ↓eR_20_0, ↓eR_22_0, sL_7, sL_8, sL_60, sL_61, sN_60, sN_61, ↓s7_0, ↓s7_1, ↓s7_2, ↓s7_3, ↓s7_4, ↓s7_5, ↓s7_6, sL_100, ↓s8_0, sN_100, sL_101, ↓s8_1, sN_101, sL_102, ↓s8_2, sN_102, sL_103, ↓s8_3, sN_103, sL_104, ↓s8_4, sN_104, sL_105, ↓s8_5, sN_105, sL_107, ↓s8_7, sN_107, sL_108, ↓s8_8, sN_108, sL_109, ↓s8_9, sN_109, sL_110, ↓s8_10, sN_110, sL_111, ↓s8_11, sN_111, sL_112, ↓s8_12, sN_112, sL_113, ↓s8_13, sN_113, sL_114, ↓s8_14, sN_114, sL_115, ↓s8_15, sN_115, sL_116, ↓s8_16, sN_116, sL_117, ↓s8_17, sN_117, sL_118, ↓s8_18, sN_118, sL_119, ↓s8_19, sN_119, sL_120, ↓s8_20, sN_120, sL_127, ↓s8_27, sN_127, sL_128, ↓s8_28, sN_128, sL_129, ↓s8_29, sN_129, sL_130, ↓s8_30, sN_130, sL_132, ↓s8_32, sN_132, P0_sV, P0_sJ, P0_sD, hcl_1, hok_1_0, hok_1_1, hok_1_2, hok_1_3, hok_1_4, hok_1_5, hok_1_6, hok_1_7, hok_1_8, hok_1_9, hok_1_10, hok_1_11, hok_1_12, hok_1_13, hok_1_14, hok_1_15, hcl_2, hok_2_0, hok_2_1, hok_2_2, hok_2_3, hok_2_4, hok_2_5, hcl_3, hok_3_0, hok_3_1, hok_3_2, hcl_4, hok_4_0, hok_4_1, hok_4_2, hok_4_3, hcl_5, hok_5_0, hok_5_1, hok_5_2, hcl_6, hok_6_0, hok_6_1, hcl_7, hok_7_0, hok_7_1, hok_7_2, hok_7_3, hok_7_4, hok_7_5, hok_7_6, hok_7_7, hok_7_8, hok_7_9, hok_7_10, hok_7_11, hok_7_12, hcl_8, hok_8_0, hok_8_1, hok_8_2, hok_8_3, hok_8_4, hok_8_5, hok_8_6, hok_8_7, hok_8_8, hok_8_9, hok_8_10, hok_8_11, hok_8_12, hok_8_13, hok_8_14, hok_8_15, hok_8_16, hok_8_17, hok_8_18, hok_8_19, hok_8_20, hok_8_21, hok_8_22, hok_8_23, hok_8_24, hok_8_25, hok_8_26, hok_8_27, hok_8_28, hok_8_29, hok_8_30, hok_8_31, hok_8_32, hok_8_33, hok_8_34, hok_8_35, hok_8_36, hcl_9, hok_9_0, hok_9_1, hok_9_2, hok_9_3, hcl_20, hok_20_0, hok_20_1, hcl_22, hok_22_0, hok_22_1, hcl_30, hok_30_0, hok_30_1, hok_30_2, hcl_31, hok_31_0, hok_31_1, hok_31_2, hcl_32, hok_32_0, hok_32_1, hok_32_2, hcl_33, hok_33_0, hok_33_1, hok_33_2, hak_16, hak_21, hak_23, hak_40, hak_41, hak_42, hak_43, hak_50, hak_60, hak_61, hak_205, hak_227, hak_100, hak_101, hak_102, hak_103, hak_104, hak_105, hak_107, hak_108, hak_109, hak_110, hak_111, hak_112, hak_113, hak_114, hak_115, hak_116, hak_117, hak_118, hak_119, hak_120, hak_127, hak_128, hak_129, hak_130, hak_132, ↓eL_16, ↓eL_21, ↓eL_23, ↓eL_50, W, Q, nI_1, hiv, hic, h113]
    · simp (config := { maxSteps := 1000000 }) only [↓if_neg hf1, hb, ↓w_X8_given_b51.eq_1, ↓w_X8_given_b66.eq_1, ↓w_X8_given_b123.eq_1, ↓w_X8_given_b128.eq_1, ↓w_X8_given_b140.eq_1, ↓w_X8_given_b141.eq_1, true_and, and_true, if_true, if_false, reduceIte, and_self, false_and, and_false, or_false, false_or, true_or, or_true, not_true_eq_false, not_false_eq_true, ne_eq, reduceCtorEq, Nat.reduceLT, Nat.reduceEqDiff, Nat.reduceLeDiff, Nat.reduceAdd, eq_self, ii_0_1, ii_0_2, ii_0_3, ii_0_4, ii_1_0, ii_1_2, ii_1_3, ii_1_4, il_1, ii_2_0, ii_2_1, ii_2_3, ii_2_4, il_2, ii_3_0, ii_3_1, ii_3_2, ii_3_4, il_3, ii_4_0, ii_4_1, ii_4_2, ii_4_3, il_4, il_0, ie_0_1, ie_0_2, ie_0_3, ie_0_4, ie_0_5, ie_1_0, ie_1_2, ie_1_3, ie_1_4, ie_1_5, ie_2_0, ie_2_1, ie_2_3, ie_2_4, ie_2_5, ie_3_0, ie_3_1, ie_3_2, ie_3_4, ie_3_5, ie_4_0, ie_4_1, ie_4_2, ie_4_3, ie_4_5, ie_5_0, ie_5_1, ie_5_2, ie_5_3, ie_5_4, ↓e_Is', ↓e_GetI, ↓e_GetF, ↓e_PutI, ↓e_PutF, ↓e_PutR, ↓e_Ald, ↓e_Ast, ↓e_Aldq, ↓e_AldJ, ↓e_AstJ, ↓e_AldD, ↓e_AstD, gL_sV, gV_sV, gR_sV, gN_sV, gJ_sV, gD_sV, gL_sR, gV_sR, gR_sR, gN_sR, gJ_sR, gD_sR, gL_sJ, gV_sJ, gR_sJ, gN_sJ, gJ_sJ, gL_sD, gV_sD, gR_sD, gN_sD, gD_sD, hr_0, hr_s, WF_sV, WF_sJ, WF_sD, gL_sF, gV_sF, gR_sF, gN_sF, gL_sG, gV_sG, gR_sG, gN_sG, WF_sF, ↓eR_1_2, ↓eR_1_5, ↓eR_1_6, ↓eR_2_3, ↓eR_3_2, ↓eR_4_1, ↓eR_6_0, ↓eR_8_34, ↓eR_9_0, ↓eR_20_0, ↓eR_22_0, sL_7, sL_8, sL_60, sL_61, sN_60, sN_61, ↓s7_0, ↓s7_1, ↓s7_2, ↓s7_3, ↓s7_4, ↓s7_5, ↓s7_6, sL_100, ↓s8_0, sN_100, sL_101, ↓s8_1, sN_101, sL_102, ↓s8_2, sN_102, sL_103, ↓s8_3, sN_103, sL_104, ↓s8_4, sN_104, sL_105, ↓s8_5, sN_105, sL_107, ↓s8_7, sN_107, sL_108, ↓s8_8, sN_108, sL_109, ↓s8_9, sN_109, sL_110, ↓s8_10, sN_110, sL_111, ↓s8_11, sN_111, sL_112, ↓s8_12, sN_112, sL_113, ↓s8_13, sN_113, sL_114, ↓s8_14, sN_114, sL_115, ↓s8_15, sN_115, sL_116, ↓s8_16, sN_116, sL_117, ↓s8_17, sN_117, sL_118, ↓s8_18, sN_118, sL_119, ↓s8_19, sN_119, sL_120, ↓s8_20, sN_120, sL_127, ↓s8_27, sN_127, sL_128, ↓s8_28, sN_128, sL_129, ↓s8_29, sN_129, sL_130, ↓s8_30, sN_130, sL_132, ↓s8_32, sN_132, P0_sV, P0_sJ, P0_sD, hcl_1, hok_1_0, hok_1_1, hok_1_2, hok_1_3, hok_1_4, hok_1_5, hok_1_6, hok_1_7, hok_1_8, hok_1_9, hok_1_10, hok_1_11, hok_1_12, hok_1_13, hok_1_14, hok_1_15, hcl_2, hok_2_0, hok_2_1, hok_2_2, hok_2_3, hok_2_4, hok_2_5, hcl_3, hok_3_0, hok_3_1, hok_3_2, hcl_4, hok_4_0, hok_4_1, hok_4_2, hok_4_3, hcl_5, hok_5_0, hok_5_1, hok_5_2, hcl_6, hok_6_0, hok_6_1, hcl_7, hok_7_0, hok_7_1, hok_7_2, hok_7_3, hok_7_4, hok_7_5, hok_7_6, hok_7_7, hok_7_8, hok_7_9, hok_7_10, hok_7_11, hok_7_12, hcl_8, hok_8_0, hok_8_1, hok_8_2, hok_8_3, hok_8_4, hok_8_5, hok_8_6, hok_8_7, hok_8_8, hok_8_9, hok_8_10, hok_8_11, hok_8_12, hok_8_13, hok_8_14, hok_8_15, hok_8_16, hok_8_17, hok_8_18, hok_8_19, hok_8_20, hok_8_21, hok_8_22, hok_8_23, hok_8_24, hok_8_25, hok_8_26, hok_8_27, hok_8_28, hok_8_29, hok_8_30, hok_8_31, hok_8_32, hok_8_33, hok_8_34, hok_8_35, hok_8_36, hcl_9, hok_9_0, hok_9_1, hok_9_2, hok_9_3, hcl_20, hok_20_0, hok_20_1, hcl_22, hok_22_0, hok_22_1, hcl_30, hok_30_0, hok_30_1, hok_30_2, hcl_31, hok_31_0, hok_31_1, hok_31_2, hcl_32, hok_32_0, hok_32_1, hok_32_2, hcl_33, hok_33_0, hok_33_1, hok_33_2, hak_16, hak_21, hak_23, hak_40, hak_41, hak_42, hak_43, hak_50, hak_60, hak_61, hak_205, hak_227, hak_100, hak_101, hak_102, hak_103, hak_104, hak_105, hak_107, hak_108, hak_109, hak_110, hak_111, hak_112, hak_113, hak_114, hak_115, hak_116, hak_117, hak_118, hak_119, hak_120, hak_127, hak_128, hak_129, hak_130, hak_132, ↓eL_16, ↓eL_21, ↓eL_23, ↓eL_50, W, Q, nI_1, hiv, hic, h113]
  | succ r =>
    have hr1 : r < gL σ 1 := by omega
    have hrv : vp_in (nI r) 10 := vp_in_nI (by omega) (by omega)
    have hrc : (nI r).toNatClampNeg = r := nI_clamp (by omega)
    have hrm := nI_nm1 (show r ≤ 40 by omega)
    have hvr := (P.2.2.2.1.1 r hr1).2.1
    have key : (r + 1 = 0 ∨ cf_ga σ i (r + 1 - 1)) ↔ (if (gV σ 113 i 0 = -1) = (gV σ 113 r 0 = -1) then ¬ gV σ 107 i 0 ≤ gV σ 107 r 0 else ¬ gV σ 113 i 0 = -1) := by
      have e1 : (gV σ 113 i 0 = -1) = (gR σ 1 5 i = 0) := propext ⟨fun z => Classical.byContradiction (fun y => (hm i hi).2 y z), (hm i hi).1⟩
      have e2 : (gV σ 113 r 0 = -1) = (gR σ 1 5 r = 0) := propext ⟨fun z => Classical.byContradiction (fun y => (hm r hr1).2 y z), (hm r hr1).1⟩
      rw [Nat.add_sub_cancel]
      unfold cf_ga
      rw [← hvi, ← hvr]
      by_cases g1 : gR σ 1 5 i = 0
      · by_cases g2 : gR σ 1 5 r = 0
        · simp [e1, e2, g1, g2]
        · simp [e1, e2, g1, g2]
      · by_cases g2 : gR σ 1 5 r = 0
        · simp [e1, e2, g1, g2]
        · simp [e1, e2, g1, g2]
    rw [key, nI_pred]
    by_cases f1 : gV σ 113 i 0 = -1
    · by_cases f2 : gV σ 113 r 0 = -1
      · rw [if_pos (by rw [f1, f2])]
        by_cases f3 : gV σ 107 i 0 ≤ gV σ 107 r 0
        · refine ⟨fun z => absurd f3 z, fun _ => ?_⟩
          simp (config := { maxSteps := 1000000 }) only [if_pos f1, if_pos f2, if_pos f3, hrm, ↓w_X8_given_b51.eq_1, ↓w_X8_given_b66.eq_1, ↓w_X8_given_b88.eq_1, ↓w_X8_given_b105.eq_1, ↓w_X8_given_b123.eq_1, ↓w_X8_given_b127.eq_1, ↓w_X8_given_b128.eq_1, ↓w_X8_given_b140.eq_1, ↓w_X8_given_b141.eq_1, true_and, and_true, if_true, if_false, reduceIte, and_self, false_and, and_false, or_false, false_or, true_or, or_true, not_true_eq_false, not_false_eq_true, ne_eq, reduceCtorEq, Nat.reduceLT, Nat.reduceEqDiff, Nat.reduceLeDiff, Nat.reduceAdd, eq_self, ii_0_1, ii_0_2, ii_0_3, ii_0_4, ii_1_0, ii_1_2, ii_1_3, ii_1_4, il_1, ii_2_0, ii_2_1, ii_2_3, ii_2_4, il_2, ii_3_0, ii_3_1, ii_3_2, ii_3_4, il_3, ii_4_0, ii_4_1, ii_4_2, ii_4_3, il_4, il_0, ie_0_1, ie_0_2, ie_0_3, ie_0_4, ie_0_5, ie_1_0, ie_1_2, ie_1_3, ie_1_4, ie_1_5, ie_2_0, ie_2_1, ie_2_3, ie_2_4, ie_2_5, ie_3_0, ie_3_1, ie_3_2, ie_3_4, ie_3_5, ie_4_0, ie_4_1, ie_4_2, ie_4_3, ie_4_5, ie_5_0, ie_5_1, ie_5_2, ie_5_3, ie_5_4, ↓e_Is', ↓e_GetI, ↓e_GetF, ↓e_PutI, ↓e_PutF, ↓e_PutR, ↓e_Ald, ↓e_Ast, ↓e_Aldq, ↓e_AldJ, ↓e_AstJ, ↓e_AldD, ↓e_AstD, gL_sV, gV_sV, gR_sV, gN_sV, gJ_sV, gD_sV, gL_sR, gV_sR, gR_sR, gN_sR, gJ_sR, gD_sR, gL_sJ, gV_sJ, gR_sJ, gN_sJ, gJ_sJ, gL_sD, gV_sD, gR_sD, gN_sD, gD_sD, hr_0, hr_s, WF_sV, WF_sJ, WF_sD, gL_sF, gV_sF, gR_sF, gN_sF, gL_sG, gV_sG, gR_sG, gN_sG, WF_sF, ↓eR_1_2, ↓eR_1_5, ↓eR_1_6, ↓eR_2_3, ↓eR_3_2, ↓eR_4_1, ↓eR_6_0, ↓eR_8_34, ↓eR_9_0, ↓eR_20_0, ↓eR_22_0, sL_7, sL_8, sL_60, sL_61, sN_60, sN_61, ↓s7_0, ↓s7_1, ↓s7_2, ↓s7_3, ↓s7_4, ↓s7_5, ↓s7_6, sL_100, ↓s8_0, sN_100, sL_101, ↓s8_1, sN_101, sL_102, ↓s8_2, sN_102, sL_103, ↓s8_3, sN_103, sL_104, ↓s8_4, sN_104, sL_105, ↓s8_5, sN_105, sL_107, ↓s8_7, sN_107, sL_108, ↓s8_8, sN_108, sL_109, ↓s8_9, sN_109, sL_110, ↓s8_10, sN_110, sL_111, ↓s8_11, sN_111, sL_112, ↓s8_12, sN_112, sL_113, ↓s8_13, sN_113, sL_114, ↓s8_14, sN_114, sL_115, ↓s8_15, sN_115, sL_116, ↓s8_16, sN_116, sL_117, ↓s8_17, sN_117, sL_118, ↓s8_18, sN_118, sL_119, ↓s8_19, sN_119, sL_120, ↓s8_20, sN_120, sL_127, ↓s8_27, sN_127, sL_128, ↓s8_28, sN_128, sL_129, ↓s8_29, sN_129, sL_130, ↓s8_30, sN_130, sL_132, ↓s8_32, sN_132, P0_sV, P0_sJ, P0_sD, hcl_1, hok_1_0, hok_1_1, hok_1_2, hok_1_3, hok_1_4, hok_1_5, hok_1_6, hok_1_7, hok_1_8, hok_1_9, hok_1_10, hok_1_11, hok_1_12, hok_1_13, hok_1_14, hok_1_15, hcl_2, hok_2_0, hok_2_1, hok_2_2, hok_2_3, hok_2_4, hok_2_5, hcl_3, hok_3_0, hok_3_1, hok_3_2, hcl_4, hok_4_0, hok_4_1, hok_4_2, hok_4_3, hcl_5, hok_5_0, hok_5_1, hok_5_2, hcl_6, hok_6_0, hok_6_1, hcl_7, hok_7_0, hok_7_1, hok_7_2, hok_7_3, hok_7_4, hok_7_5, hok_7_6, hok_7_7, hok_7_8, hok_7_9, hok_7_10, hok_7_11, hok_7_12, hcl_8, hok_8_0, hok_8_1, hok_8_2, hok_8_3, hok_8_4, hok_8_5, hok_8_6, hok_8_7, hok_8_8, hok_8_9, hok_8_10, hok_8_11, hok_8_12, hok_8_13, hok_8_14, hok_8_15, hok_8_16, hok_8_17, hok_8_18, hok_8_19, hok_8_20, hok_8_21, hok_8_22, hok_8_23, hok_8_24, hok_8_25, hok_8_26, hok_8_27, hok_8_28, hok_8_29, hok_8_30, hok_8_31, hok_8_32, hok_8_33, hok_8_34, hok_8_35, hok_8_36, hcl_9, hok_9_0, hok_9_1, hok_9_2, hok_9_3, hcl_20, hok_20_0, hok_20_1, hcl_22, hok_22_0, hok_22_1, hcl_30, hok_30_0, hok_30_1, hok_30_2, hcl_31, hok_31_0, hok_31_1, hok_31_2, hcl_32, hok_32_0, hok_32_1, hok_32_2, hcl_33, hok_33_0, hok_33_1, hok_33_2, hak_16, hak_21, hak_23, hak_40, hak_41, hak_42, hak_43, hak_50, hak_60, hak_61, hak_205, hak_227, hak_100, hak_101, hak_102, hak_103, hak_104, hak_105, hak_107, hak_108, hak_109, hak_110, hak_111, hak_112, hak_113, hak_114, hak_115, hak_116, hak_117, hak_118, hak_119, hak_120, hak_127, hak_128, hak_129, hak_130, hak_132, ↓eL_16, ↓eL_21, ↓eL_23, ↓eL_50, W, Q, nI_1, hiv, hic, hrv, hrc, h113, h107]
        · refine ⟨fun _ => ?_, fun z => absurd f3 z⟩
          simp (config := { maxSteps := 1000000 }) only [if_pos f1, if_pos f2, if_neg f3, hrm, ↓w_X8_given_b51.eq_1, ↓w_X8_given_b66.eq_1, ↓w_X8_given_b88.eq_1, ↓w_X8_given_b105.eq_1, ↓w_X8_given_b123.eq_1, ↓w_X8_given_b127.eq_1, ↓w_X8_given_b128.eq_1, ↓w_X8_given_b140.eq_1, ↓w_X8_given_b141.eq_1, true_and, and_true, if_true, if_false, reduceIte, and_self, false_and, and_false, or_false, false_or, true_or, or_true, not_true_eq_false, not_false_eq_true, ne_eq, reduceCtorEq, Nat.reduceLT, Nat.reduceEqDiff, Nat.reduceLeDiff, Nat.reduceAdd, eq_self, ii_0_1, ii_0_2, ii_0_3, ii_0_4, ii_1_0, ii_1_2, ii_1_3, ii_1_4, il_1, ii_2_0, ii_2_1, ii_2_3, ii_2_4, il_2, ii_3_0, ii_3_1, ii_3_2, ii_3_4, il_3, ii_4_0, ii_4_1, ii_4_2, ii_4_3, il_4, il_0, ie_0_1, ie_0_2, ie_0_3, ie_0_4, ie_0_5, ie_1_0, ie_1_2, ie_1_3, ie_1_4, ie_1_5, ie_2_0, ie_2_1, ie_2_3, ie_2_4, ie_2_5, ie_3_0, ie_3_1, ie_3_2, ie_3_4, ie_3_5, ie_4_0, ie_4_1, ie_4_2, ie_4_3, ie_4_5, ie_5_0, ie_5_1, ie_5_2, ie_5_3, ie_5_4, ↓e_Is', ↓e_GetI, ↓e_GetF, ↓e_PutI, ↓e_PutF, ↓e_PutR, ↓e_Ald, ↓e_Ast, ↓e_Aldq, ↓e_AldJ, ↓e_AstJ, ↓e_AldD, ↓e_AstD, gL_sV, gV_sV, gR_sV, gN_sV, gJ_sV, gD_sV, gL_sR, gV_sR, gR_sR, gN_sR, gJ_sR, gD_sR, gL_sJ, gV_sJ, gR_sJ, gN_sJ, gJ_sJ, gL_sD, gV_sD, gR_sD, gN_sD, gD_sD, hr_0, hr_s, WF_sV, WF_sJ, WF_sD, gL_sF, gV_sF, gR_sF, gN_sF, gL_sG, gV_sG, gR_sG, gN_sG, WF_sF, ↓eR_1_2, ↓eR_1_5, ↓eR_1_6, ↓eR_2_3, ↓eR_3_2, ↓eR_4_1, ↓eR_6_0, ↓eR_8_34, ↓eR_9_0, ↓eR_20_0, ↓eR_22_0, sL_7, sL_8, sL_60, sL_61, sN_60, sN_61, ↓s7_0, ↓s7_1, ↓s7_2, ↓s7_3, ↓s7_4, ↓s7_5, ↓s7_6, sL_100, ↓s8_0, sN_100, sL_101, ↓s8_1, sN_101, sL_102, ↓s8_2, sN_102, sL_103, ↓s8_3, sN_103, sL_104, ↓s8_4, sN_104, sL_105, ↓s8_5, sN_105, sL_107, ↓s8_7, sN_107, sL_108, ↓s8_8, sN_108, sL_109, ↓s8_9, sN_109, sL_110, ↓s8_10, sN_110, sL_111, ↓s8_11, sN_111, sL_112, ↓s8_12, sN_112, sL_113, ↓s8_13, sN_113, sL_114, ↓s8_14, sN_114, sL_115, ↓s8_15, sN_115, sL_116, ↓s8_16, sN_116, sL_117, ↓s8_17, sN_117, sL_118, ↓s8_18, sN_118, sL_119, ↓s8_19, sN_119, sL_120, ↓s8_20, sN_120, sL_127, ↓s8_27, sN_127, sL_128, ↓s8_28, sN_128, sL_129, ↓s8_29, sN_129, sL_130, ↓s8_30, sN_130, sL_132, ↓s8_32, sN_132, P0_sV, P0_sJ, P0_sD, hcl_1, hok_1_0, hok_1_1, hok_1_2, hok_1_3, hok_1_4, hok_1_5, hok_1_6, hok_1_7, hok_1_8, hok_1_9, hok_1_10, hok_1_11, hok_1_12, hok_1_13, hok_1_14, hok_1_15, hcl_2, hok_2_0, hok_2_1, hok_2_2, hok_2_3, hok_2_4, hok_2_5, hcl_3, hok_3_0, hok_3_1, hok_3_2, hcl_4, hok_4_0, hok_4_1, hok_4_2, hok_4_3, hcl_5, hok_5_0, hok_5_1, hok_5_2, hcl_6, hok_6_0, hok_6_1, hcl_7, hok_7_0, hok_7_1, hok_7_2, hok_7_3, hok_7_4, hok_7_5, hok_7_6, hok_7_7, hok_7_8, hok_7_9, hok_7_10, hok_7_11, hok_7_12, hcl_8, hok_8_0, hok_8_1, hok_8_2, hok_8_3, hok_8_4, hok_8_5, hok_8_6, hok_8_7, hok_8_8, hok_8_9, hok_8_10, hok_8_11, hok_8_12, hok_8_13, hok_8_14, hok_8_15, hok_8_16, hok_8_17, hok_8_18, hok_8_19, hok_8_20, hok_8_21, hok_8_22, hok_8_23, hok_8_24, hok_8_25, hok_8_26, hok_8_27, hok_8_28, hok_8_29, hok_8_30, hok_8_31, hok_8_32, hok_8_33, hok_8_34, hok_8_35, hok_8_36, hcl_9, hok_9_0, hok_9_1, hok_9_2, hok_9_3, hcl_20, hok_20_0, hok_20_1, hcl_22, hok_22_0, hok_22_1, hcl_30, hok_30_0, hok_30_1, hok_30_2, hcl_31, hok_31_0, hok_31_1, hok_31_2, hcl_32, hok_32_0, hok_32_1, hok_32_2, hcl_33, hok_33_0, hok_33_1, hok_33_2, hak_16, hak_21, hak_23, hak_40, hak_41, hak_42, hak_43, hak_50, hak_60, hak_61, hak_205, hak_227, hak_100, hak_101, hak_102, hak_103, hak_104, hak_105, hak_107, hak_108, hak_109, hak_110, hak_111, hak_112, hak_113, hak_114, hak_115, hak_116, hak_117, hak_118, hak_119, hak_120, hak_127, hak_128, hak_129, hak_130, hak_132, ↓eL_16, ↓eL_21, ↓eL_23, ↓eL_50, W, Q, nI_1, hiv, hic, hrv, hrc, h113, h107]
      · rw [if_neg (fun z => f2 (z.mp f1))]
        refine ⟨fun z => absurd f1 z, fun _ => ?_⟩
        simp (config := { maxSteps := 1000000 }) only [if_pos f1, if_neg f2, hrm, ↓w_X8_given_b51.eq_1, ↓w_X8_given_b66.eq_1, ↓w_X8_given_b88.eq_1, ↓w_X8_given_b105.eq_1, ↓w_X8_given_b123.eq_1, ↓w_X8_given_b127.eq_1, ↓w_X8_given_b128.eq_1, ↓w_X8_given_b140.eq_1, ↓w_X8_given_b141.eq_1, true_and, and_true, if_true, if_false, reduceIte, and_self, false_and, and_false, or_false, false_or, true_or, or_true, not_true_eq_false, not_false_eq_true, ne_eq, reduceCtorEq, Nat.reduceLT, Nat.reduceEqDiff, Nat.reduceLeDiff, Nat.reduceAdd, eq_self, ii_0_1, ii_0_2, ii_0_3, ii_0_4, ii_1_0, ii_1_2, ii_1_3, ii_1_4, il_1, ii_2_0, ii_2_1, ii_2_3, ii_2_4, il_2, ii_3_0, ii_3_1, ii_3_2, ii_3_4, il_3, ii_4_0, ii_4_1, ii_4_2, ii_4_3, il_4, il_0, ie_0_1, ie_0_2, ie_0_3, ie_0_4, ie_0_5, ie_1_0, ie_1_2, ie_1_3, ie_1_4, ie_1_5, ie_2_0, ie_2_1, ie_2_3, ie_2_4, ie_2_5, ie_3_0, ie_3_1, ie_3_2, ie_3_4, ie_3_5, ie_4_0, ie_4_1, ie_4_2, ie_4_3, ie_4_5, ie_5_0, ie_5_1, ie_5_2, ie_5_3, ie_5_4, ↓e_Is', ↓e_GetI, ↓e_GetF, ↓e_PutI, ↓e_PutF, ↓e_PutR, ↓e_Ald, ↓e_Ast, ↓e_Aldq, ↓e_AldJ, ↓e_AstJ, ↓e_AldD, ↓e_AstD, gL_sV, gV_sV, gR_sV, gN_sV, gJ_sV, gD_sV, gL_sR, gV_sR, gR_sR, gN_sR, gJ_sR, gD_sR, gL_sJ, gV_sJ, gR_sJ, gN_sJ, gJ_sJ, gL_sD, gV_sD, gR_sD, gN_sD, gD_sD, hr_0, hr_s, WF_sV, WF_sJ, WF_sD, gL_sF, gV_sF, gR_sF, gN_sF, gL_sG, gV_sG, gR_sG, gN_sG, WF_sF, ↓eR_1_2, ↓eR_1_5, ↓eR_1_6, ↓eR_2_3, ↓eR_3_2, ↓eR_4_1, ↓eR_6_0, ↓eR_8_34, ↓eR_9_0, ↓eR_20_0, ↓eR_22_0, sL_7, sL_8, sL_60, sL_61, sN_60, sN_61, ↓s7_0, ↓s7_1, ↓s7_2, ↓s7_3, ↓s7_4, ↓s7_5, ↓s7_6, sL_100, ↓s8_0, sN_100, sL_101, ↓s8_1, sN_101, sL_102, ↓s8_2, sN_102, sL_103, ↓s8_3, sN_103, sL_104, ↓s8_4, sN_104, sL_105, ↓s8_5, sN_105, sL_107, ↓s8_7, sN_107, sL_108, ↓s8_8, sN_108, sL_109, ↓s8_9, sN_109, sL_110, ↓s8_10, sN_110, sL_111, ↓s8_11, sN_111, sL_112, ↓s8_12, sN_112, sL_113, ↓s8_13, sN_113, sL_114, ↓s8_14, sN_114, sL_115, ↓s8_15, sN_115, sL_116, ↓s8_16, sN_116, sL_117, ↓s8_17, sN_117, sL_118, ↓s8_18, sN_118, sL_119, ↓s8_19, sN_119, sL_120, ↓s8_20, sN_120, sL_127, ↓s8_27, sN_127, sL_128, ↓s8_28, sN_128, sL_129, ↓s8_29, sN_129, sL_130, ↓s8_30, sN_130, sL_132, ↓s8_32, sN_132, P0_sV, P0_sJ, P0_sD, hcl_1, hok_1_0, hok_1_1, hok_1_2, hok_1_3, hok_1_4, hok_1_5, hok_1_6, hok_1_7, hok_1_8, hok_1_9, hok_1_10, hok_1_11, hok_1_12, hok_1_13, hok_1_14, hok_1_15, hcl_2, hok_2_0, hok_2_1, hok_2_2, hok_2_3, hok_2_4, hok_2_5, hcl_3, hok_3_0, hok_3_1, hok_3_2, hcl_4, hok_4_0, hok_4_1, hok_4_2, hok_4_3, hcl_5, hok_5_0, hok_5_1, hok_5_2, hcl_6, hok_6_0, hok_6_1, hcl_7, hok_7_0, hok_7_1, hok_7_2, hok_7_3, hok_7_4, hok_7_5, hok_7_6, hok_7_7, hok_7_8, hok_7_9, hok_7_10, hok_7_11, hok_7_12, hcl_8, hok_8_0, hok_8_1, hok_8_2, hok_8_3, hok_8_4, hok_8_5, hok_8_6, hok_8_7, hok_8_8, hok_8_9, hok_8_10, hok_8_11, hok_8_12, hok_8_13, hok_8_14, hok_8_15, hok_8_16, hok_8_17, hok_8_18, hok_8_19, hok_8_20, hok_8_21, hok_8_22, hok_8_23, hok_8_24, hok_8_25, hok_8_26, hok_8_27, hok_8_28, hok_8_29, hok_8_30, hok_8_31, hok_8_32, hok_8_33, hok_8_34, hok_8_35, hok_8_36, hcl_9, hok_9_0, hok_9_1, hok_9_2, hok_9_3, hcl_20, hok_20_0, hok_20_1, hcl_22, hok_22_0, hok_22_1, hcl_30, hok_30_0, hok_30_1, hok_30_2, hcl_31, hok_31_0, hok_31_1, hok_31_2, hcl_32, hok_32_0, hok_32_1, hok_32_2, hcl_33, hok_33_0, hok_33_1, hok_33_2, hak_16, hak_21, hak_23, hak_40, hak_41, hak_42, hak_43, hak_50, hak_60, hak_61, hak_205, hak_227, hak_100, hak_101, hak_102, hak_103, hak_104, hak_105, hak_107, hak_108, hak_109, hak_110, hak_111, hak_112, hak_113, hak_114, hak_115, hak_116, hak_117, hak_118, hak_119, hak_120, hak_127, hak_128, hak_129, hak_130, hak_132, ↓eL_16, ↓eL_21, ↓eL_23, ↓eL_50, W, Q, nI_1, hiv, hic, hrv, hrc, h113, h107]
    · by_cases f2 : gV σ 113 r 0 = -1
      · rw [if_neg (fun z => f1 (z.mpr f2))]
        refine ⟨fun _ => ?_, fun z => absurd f1 z⟩
        simp (config := { maxSteps := 1000000 }) only [if_neg f1, if_pos f2, hrm, ↓w_X8_given_b51.eq_1, ↓w_X8_given_b66.eq_1, ↓w_X8_given_b88.eq_1, ↓w_X8_given_b105.eq_1, ↓w_X8_given_b123.eq_1, ↓w_X8_given_b127.eq_1, ↓w_X8_given_b128.eq_1, ↓w_X8_given_b140.eq_1, ↓w_X8_given_b141.eq_1, true_and, and_true, if_true, if_false, reduceIte, and_self, false_and, and_false, or_false, false_or, true_or, or_true, not_true_eq_false, not_false_eq_true, ne_eq, reduceCtorEq, Nat.reduceLT, Nat.reduceEqDiff, Nat.reduceLeDiff, Nat.reduceAdd, eq_self, ii_0_1, ii_0_2, ii_0_3, ii_0_4, ii_1_0, ii_1_2, ii_1_3, ii_1_4, il_1, ii_2_0, ii_2_1, ii_2_3, ii_2_4, il_2, ii_3_0, ii_3_1, ii_3_2, ii_3_4, il_3, ii_4_0, ii_4_1, ii_4_2, ii_4_3, il_4, il_0, ie_0_1, ie_0_2, ie_0_3, ie_0_4, ie_0_5, ie_1_0, ie_1_2, ie_1_3, ie_1_4, ie_1_5, ie_2_0, ie_2_1, ie_2_3, ie_2_4, ie_2_5, ie_3_0, ie_3_1, ie_3_2, ie_3_4, ie_3_5, ie_4_0, ie_4_1, ie_4_2, ie_4_3, ie_4_5, ie_5_0, ie_5_1, ie_5_2, ie_5_3, ie_5_4, ↓e_Is', ↓e_GetI, ↓e_GetF, ↓e_PutI, ↓e_PutF, ↓e_PutR, ↓e_Ald, ↓e_Ast, ↓e_Aldq, ↓e_AldJ, ↓e_AstJ, ↓e_AldD, ↓e_AstD, gL_sV, gV_sV, gR_sV, gN_sV, gJ_sV, gD_sV, gL_sR, gV_sR, gR_sR, gN_sR, gJ_sR, gD_sR, gL_sJ, gV_sJ, gR_sJ, gN_sJ, gJ_sJ, gL_sD, gV_sD, gR_sD, gN_sD, gD_sD, hr_0, hr_s, WF_sV, WF_sJ, WF_sD, gL_sF, gV_sF, gR_sF, gN_sF, gL_sG, gV_sG, gR_sG, gN_sG, WF_sF, ↓eR_1_2, ↓eR_1_5, ↓eR_1_6, ↓eR_2_3, ↓eR_3_2, ↓eR_4_1, ↓eR_6_0, ↓eR_8_34, ↓eR_9_0, ↓eR_20_0, ↓eR_22_0, sL_7, sL_8, sL_60, sL_61, sN_60, sN_61, ↓s7_0, ↓s7_1, ↓s7_2, ↓s7_3, ↓s7_4, ↓s7_5, ↓s7_6, sL_100, ↓s8_0, sN_100, sL_101, ↓s8_1, sN_101, sL_102, ↓s8_2, sN_102, sL_103, ↓s8_3, sN_103, sL_104, ↓s8_4, sN_104, sL_105, ↓s8_5, sN_105, sL_107, ↓s8_7, sN_107, sL_108, ↓s8_8, sN_108, sL_109, ↓s8_9, sN_109, sL_110, ↓s8_10, sN_110, sL_111, ↓s8_11, sN_111, sL_112, ↓s8_12, sN_112, sL_113, ↓s8_13, sN_113, sL_114, ↓s8_14, sN_114, sL_115, ↓s8_15, sN_115, sL_116, ↓s8_16, sN_116, sL_117, ↓s8_17, sN_117, sL_118, ↓s8_18, sN_118, sL_119, ↓s8_19, sN_119, sL_120, ↓s8_20, sN_120, sL_127, ↓s8_27, sN_127, sL_128, ↓s8_28, sN_128, sL_129, ↓s8_29, sN_129, sL_130, ↓s8_30, sN_130, sL_132, ↓s8_32, sN_132, P0_sV, P0_sJ, P0_sD, hcl_1, hok_1_0, hok_1_1, hok_1_2, hok_1_3, hok_1_4, hok_1_5, hok_1_6, hok_1_7, hok_1_8, hok_1_9, hok_1_10, hok_1_11, hok_1_12, hok_1_13, hok_1_14, hok_1_15, hcl_2, hok_2_0, hok_2_1, hok_2_2, hok_2_3, hok_2_4, hok_2_5, hcl_3, hok_3_0, hok_3_1, hok_3_2, hcl_4, hok_4_0, hok_4_1, hok_4_2, hok_4_3, hcl_5, hok_5_0, hok_5_1, hok_5_2, hcl_6, hok_6_0, hok_6_1, hcl_7, hok_7_0, hok_7_1, hok_7_2, hok_7_3, hok_7_4, hok_7_5, hok_7_6, hok_7_7, hok_7_8, hok_7_9, hok_7_10, hok_7_11, hok_7_12, hcl_8, hok_8_0, hok_8_1, hok_8_2, hok_8_3, hok_8_4, hok_8_5, hok_8_6, hok_8_7, hok_8_8, hok_8_9, hok_8_10, hok_8_11, hok_8_12, hok_8_13, hok_8_14, hok_8_15, hok_8_16, hok_8_17, hok_8_18, hok_8_19, hok_8_20, hok_8_21, hok_8_22, hok_8_23, hok_8_24, hok_8_25, hok_8_26, hok_8_27, hok_8_28, hok_8_29, hok_8_30, hok_8_31, hok_8_32, hok_8_33, hok_8_34, hok_8_35, hok_8_36, hcl_9, hok_9_0, hok_9_1, hok_9_2, hok_9_3, hcl_20, hok_20_0, hok_20_1, hcl_22, hok_22_0, hok_22_1, hcl_30, hok_30_0, hok_30_1, hok_30_2, hcl_31, hok_31_0, hok_31_1, hok_31_2, hcl_32, hok_32_0, hok_32_1, hok_32_2, hcl_33, hok_33_0, hok_33_1, hok_33_2, hak_16, hak_21, hak_23, hak_40, hak_41, hak_42, hak_43, hak_50, hak_60, hak_61, hak_205, hak_227, hak_100, hak_101, hak_102, hak_103, hak_104, hak_105, hak_107, hak_108, hak_109, hak_110, hak_111, hak_112, hak_113, hak_114, hak_115, hak_116, hak_117, hak_118, hak_119, hak_120, hak_127, hak_128, hak_129, hak_130, hak_132, ↓eL_16, ↓eL_21, ↓eL_23, ↓eL_50, W, Q, nI_1, hiv, hic, hrv, hrc, h113, h107]
      · rw [if_pos (propext ⟨fun z => absurd z f1, fun z => absurd z f2⟩)]
        by_cases f3 : gV σ 107 i 0 ≤ gV σ 107 r 0
        · refine ⟨fun z => absurd f3 z, fun _ => ?_⟩
          simp (config := { maxSteps := 1000000 }) only [if_neg f1, if_neg f2, if_pos f3, hrm, ↓w_X8_given_b51.eq_1, ↓w_X8_given_b66.eq_1, ↓w_X8_given_b88.eq_1, ↓w_X8_given_b105.eq_1, ↓w_X8_given_b123.eq_1, ↓w_X8_given_b127.eq_1, ↓w_X8_given_b128.eq_1, ↓w_X8_given_b140.eq_1, ↓w_X8_given_b141.eq_1, true_and, and_true, if_true, if_false, reduceIte, and_self, false_and, and_false, or_false, false_or, true_or, or_true, not_true_eq_false, not_false_eq_true, ne_eq, reduceCtorEq, Nat.reduceLT, Nat.reduceEqDiff, Nat.reduceLeDiff, Nat.reduceAdd, eq_self, ii_0_1, ii_0_2, ii_0_3, ii_0_4, ii_1_0, ii_1_2, ii_1_3, ii_1_4, il_1, ii_2_0, ii_2_1, ii_2_3, ii_2_4, il_2, ii_3_0, ii_3_1, ii_3_2, ii_3_4, il_3, ii_4_0, ii_4_1, ii_4_2, ii_4_3, il_4, il_0, ie_0_1, ie_0_2, ie_0_3, ie_0_4, ie_0_5, ie_1_0, ie_1_2, ie_1_3, ie_1_4, ie_1_5, ie_2_0, ie_2_1, ie_2_3, ie_2_4, ie_2_5, ie_3_0, ie_3_1, ie_3_2, ie_3_4, ie_3_5, ie_4_0, ie_4_1, ie_4_2, ie_4_3, ie_4_5, ie_5_0, ie_5_1, ie_5_2, ie_5_3, ie_5_4, ↓e_Is', ↓e_GetI, ↓e_GetF, ↓e_PutI, ↓e_PutF, ↓e_PutR, ↓e_Ald, ↓e_Ast, ↓e_Aldq, ↓e_AldJ, ↓e_AstJ, ↓e_AldD, ↓e_AstD, gL_sV, gV_sV, gR_sV, gN_sV, gJ_sV, gD_sV, gL_sR, gV_sR, gR_sR, gN_sR, gJ_sR, gD_sR, gL_sJ, gV_sJ, gR_sJ, gN_sJ, gJ_sJ, gL_sD, gV_sD, gR_sD, gN_sD, gD_sD, hr_0, hr_s, WF_sV, WF_sJ, WF_sD, gL_sF, gV_sF, gR_sF, gN_sF, gL_sG, gV_sG, gR_sG, gN_sG, WF_sF, ↓eR_1_2, ↓eR_1_5, ↓eR_1_6, ↓eR_2_3, ↓eR_3_2, ↓eR_4_1, ↓eR_6_0, ↓eR_8_34, ↓eR_9_0, ↓eR_20_0, ↓eR_22_0, sL_7, sL_8, sL_60, sL_61, sN_60, sN_61, ↓s7_0, ↓s7_1, ↓s7_2, ↓s7_3, ↓s7_4, ↓s7_5, ↓s7_6, sL_100, ↓s8_0, sN_100, sL_101, ↓s8_1, sN_101, sL_102, ↓s8_2, sN_102, sL_103, ↓s8_3, sN_103, sL_104, ↓s8_4, sN_104, sL_105, ↓s8_5, sN_105, sL_107, ↓s8_7, sN_107, sL_108, ↓s8_8, sN_108, sL_109, ↓s8_9, sN_109, sL_110, ↓s8_10, sN_110, sL_111, ↓s8_11, sN_111, sL_112, ↓s8_12, sN_112, sL_113, ↓s8_13, sN_113, sL_114, ↓s8_14, sN_114, sL_115, ↓s8_15, sN_115, sL_116, ↓s8_16, sN_116, sL_117, ↓s8_17, sN_117, sL_118, ↓s8_18, sN_118, sL_119, ↓s8_19, sN_119, sL_120, ↓s8_20, sN_120, sL_127, ↓s8_27, sN_127, sL_128, ↓s8_28, sN_128, sL_129, ↓s8_29, sN_129, sL_130, ↓s8_30, sN_130, sL_132, ↓s8_32, sN_132, P0_sV, P0_sJ, P0_sD, hcl_1, hok_1_0, hok_1_1, hok_1_2, hok_1_3, hok_1_4, hok_1_5, hok_1_6, hok_1_7, hok_1_8, hok_1_9, hok_1_10, hok_1_11, hok_1_12, hok_1_13, hok_1_14, hok_1_15, hcl_2, hok_2_0, hok_2_1, hok_2_2, hok_2_3, hok_2_4, hok_2_5, hcl_3, hok_3_0, hok_3_1, hok_3_2, hcl_4, hok_4_0, hok_4_1, hok_4_2, hok_4_3, hcl_5, hok_5_0, hok_5_1, hok_5_2, hcl_6, hok_6_0, hok_6_1, hcl_7, hok_7_0, hok_7_1, hok_7_2, hok_7_3, hok_7_4, hok_7_5, hok_7_6, hok_7_7, hok_7_8, hok_7_9, hok_7_10, hok_7_11, hok_7_12, hcl_8, hok_8_0, hok_8_1, hok_8_2, hok_8_3, hok_8_4, hok_8_5, hok_8_6, hok_8_7, hok_8_8, hok_8_9, hok_8_10, hok_8_11, hok_8_12, hok_8_13, hok_8_14, hok_8_15, hok_8_16, hok_8_17, hok_8_18, hok_8_19, hok_8_20, hok_8_21, hok_8_22, hok_8_23, hok_8_24, hok_8_25, hok_8_26, hok_8_27, hok_8_28, hok_8_29, hok_8_30, hok_8_31, hok_8_32, hok_8_33, hok_8_34, hok_8_35, hok_8_36, hcl_9, hok_9_0, hok_9_1, hok_9_2, hok_9_3, hcl_20, hok_20_0, hok_20_1, hcl_22, hok_22_0, hok_22_1, hcl_30, hok_30_0, hok_30_1, hok_30_2, hcl_31, hok_31_0, hok_31_1, hok_31_2, hcl_32, hok_32_0, hok_32_1, hok_32_2, hcl_33, hok_33_0, hok_33_1, hok_33_2, hak_16, hak_21, hak_23, hak_40, hak_41, hak_42, hak_43, hak_50, hak_60, hak_61, hak_205, hak_227, hak_100, hak_101, hak_102, hak_103, hak_104, hak_105, hak_107, hak_108, hak_109, hak_110, hak_111, hak_112, hak_113, hak_114, hak_115, hak_116, hak_117, hak_118, hak_119, hak_120, hak_127, hak_128, hak_129, hak_130, hak_132, ↓eL_16, ↓eL_21, ↓eL_23, ↓eL_50, W, Q, nI_1, hiv, hic, hrv, hrc, h113, h107]
        · refine ⟨fun _ => ?_, fun z => absurd f3 z⟩
          simp (config := { maxSteps := 1000000 }) only [if_neg f1, if_neg f2, if_neg f3, hrm, ↓w_X8_given_b51.eq_1, ↓w_X8_given_b66.eq_1, ↓w_X8_given_b88.eq_1, ↓w_X8_given_b105.eq_1, ↓w_X8_given_b123.eq_1, ↓w_X8_given_b127.eq_1, ↓w_X8_given_b128.eq_1, ↓w_X8_given_b140.eq_1, ↓w_X8_given_b141.eq_1, true_and, and_true, if_true, if_false, reduceIte, and_self, false_and, and_false, or_false, false_or, true_or, or_true, not_true_eq_false, not_false_eq_true, ne_eq, reduceCtorEq, Nat.reduceLT, Nat.reduceEqDiff, Nat.reduceLeDiff, Nat.reduceAdd, eq_self, ii_0_1, ii_0_2, ii_0_3, ii_0_4, ii_1_0, ii_1_2, ii_1_3, ii_1_4, il_1, ii_2_0, ii_2_1, ii_2_3, ii_2_4, il_2, ii_3_0, ii_3_1, ii_3_2, ii_3_4, il_3, ii_4_0, ii_4_1, ii_4_2, ii_4_3, il_4, il_0, ie_0_1, ie_0_2, ie_0_3, ie_0_4, ie_0_5, ie_1_0, ie_1_2, ie_1_3, ie_1_4, ie_1_5, ie_2_0, ie_2_1, ie_2_3, ie_2_4, ie_2_5, ie_3_0, ie_3_1, ie_3_2, ie_3_4, ie_3_5, ie_4_0, ie_4_1, ie_4_2, ie_4_3, ie_4_5, ie_5_0, ie_5_1, ie_5_2, ie_5_3, ie_5_4, ↓e_Is', ↓e_GetI, ↓e_GetF, ↓e_PutI, ↓e_PutF, ↓e_PutR, ↓e_Ald, ↓e_Ast, ↓e_Aldq, ↓e_AldJ, ↓e_AstJ, ↓e_AldD, ↓e_AstD, gL_sV, gV_sV, gR_sV, gN_sV, gJ_sV, gD_sV, gL_sR, gV_sR, gR_sR, gN_sR, gJ_sR, gD_sR, gL_sJ, gV_sJ, gR_sJ, gN_sJ, gJ_sJ, gL_sD, gV_sD, gR_sD, gN_sD, gD_sD, hr_0, hr_s, WF_sV, WF_sJ, WF_sD, gL_sF, gV_sF, gR_sF, gN_sF, gL_sG, gV_sG, gR_sG, gN_sG, WF_sF, ↓eR_1_2, ↓eR_1_5, ↓eR_1_6, ↓eR_2_3, ↓eR_3_2, ↓eR_4_1, ↓eR_6_0, ↓eR_8_34, ↓eR_9_0, ↓eR_20_0, ↓eR_22_0, sL_7, sL_8, sL_60, sL_61, sN_60, sN_61, ↓s7_0, ↓s7_1, ↓s7_2, ↓s7_3, ↓s7_4, ↓s7_5, ↓s7_6, sL_100, ↓s8_0, sN_100, sL_101, ↓s8_1, sN_101, sL_102, ↓s8_2, sN_102, sL_103, ↓s8_3, sN_103, sL_104, ↓s8_4, sN_104, sL_105, ↓s8_5, sN_105, sL_107, ↓s8_7, sN_107, sL_108, ↓s8_8, sN_108, sL_109, ↓s8_9, sN_109, sL_110, ↓s8_10, sN_110, sL_111, ↓s8_11, sN_111, sL_112, ↓s8_12, sN_112, sL_113, ↓s8_13, sN_113, sL_114, ↓s8_14, sN_114, sL_115, ↓s8_15, sN_115, sL_116, ↓s8_16, sN_116, sL_117, ↓s8_17, sN_117, sL_118, ↓s8_18, sN_118, sL_119, ↓s8_19, sN_119, sL_120, ↓s8_20, sN_120, sL_127, ↓s8_27, sN_127, sL_128, ↓s8_28, sN_128, sL_129, ↓s8_29, sN_129, sL_130, ↓s8_30, sN_130, sL_132, ↓s8_32, sN_132, P0_sV, P0_sJ, P0_sD, hcl_1, hok_1_0, hok_1_1, hok_1_2, hok_1_3, hok_1_4, hok_1_5, hok_1_6, hok_1_7, hok_1_8, hok_1_9, hok_1_10, hok_1_11, hok_1_12, hok_1_13, hok_1_14, hok_1_15, hcl_2, hok_2_0, hok_2_1, hok_2_2, hok_2_3, hok_2_4, hok_2_5, hcl_3, hok_3_0, hok_3_1, hok_3_2, hcl_4, hok_4_0, hok_4_1, hok_4_2, hok_4_3, hcl_5, hok_5_0, hok_5_1, hok_5_2, hcl_6, hok_6_0, hok_6_1, hcl_7, hok_7_0, hok_7_1, hok_7_2, hok_7_3, hok_7_4, hok_7_5, hok_7_6, hok_7_7, hok_7_8, hok_7_9, hok_7_10, hok_7_11, hok_7_12, hcl_8, hok_8_0, hok_8_1, hok_8_2, hok_8_3, hok_8_4, hok_8_5, hok_8_6, hok_8_7, hok_8_8, hok_8_9, hok_8_10, hok_8_11, hok_8_12, hok_8_13, hok_8_14, hok_8_15, hok_8_16, hok_8_17, hok_8_18, hok_8_19, hok_8_20, hok_8_21, hok_8_22, hok_8_23, hok_8_24, hok_8_25, hok_8_26, hok_8_27, hok_8_28, hok_8_29, hok_8_30, hok_8_31, hok_8_32, hok_8_33, hok_8_34, hok_8_35, hok_8_36, hcl_9, hok_9_0, hok_9_1, hok_9_2, hok_9_3, hcl_20, hok_20_0, hok_20_1, hcl_22, hok_22_0, hok_22_1, hcl_30, hok_30_0, hok_30_1, hok_30_2, hcl_31, hok_31_0, hok_31_1, hok_31_2, hcl_32, hok_32_0, hok_32_1, hok_32_2, hcl_33, hok_33_0, hok_33_1, hok_33_2, hak_16, hak_21, hak_23, hak_40, hak_41, hak_42, hak_43, hak_50, hak_60, hak_61, hak_205, hak_227, hak_100, hak_101, hak_102, hak_103, hak_104, hak_105, hak_107, hak_108, hak_109, hak_110, hak_111, hak_112, hak_113, hak_114, hak_115, hak_116, hak_117, hak_118, hak_119, hak_120, hak_127, hak_128, hak_129, hak_130, hak_132, ↓eL_16, ↓eL_21, ↓eL_23, ↓eL_50, W, Q, nI_1, hiv, hic, hrv, hrc, h113, h107]
theorem q_gvl {post : Int32 → GM → Prop} (P : PI σ) (M : MEq σ σ') (W : WF A σ') (W0 : WF A σ) (Q : P0 σ') (hd : d < gL σ 2) : ∀ (k f i : Nat), i + k = gL σ 1 → k < f → w_X8_given_l4 X post px f (some (A.1 8 0)) (nI d) (nI (cf_at σ d i) - 1) (nI i) (hp A σ') = post (nI (cf_at σ d (gL σ 1)) - 1) (hp A σ') := by
  have h10 : gL σ 1 ≤ 10 := P.2.1.2.2.2.2.2.2.2.2.1
  have h12 : gL σ 2 ≤ 12 := P.2.1.2.2.2.2.2.2.2.1
  have h21 : gV σ' 8 21 0 = nI (gL σ 1) := by rw [M.2.2 21 (by decide)]; exact P.2.1.1.2.1
  have hdv : vp_in (nI d) 12 := vp_in_nI (by omega) (by omega)
  have hdc : (nI d).toNatClampNeg = d := nI_clamp (by omega)
  intro k
  induction k with
  | zero =>
    intro f i hi hf
    obtain ⟨f, rfl⟩ : ∃ f', f = f' + 1 := ⟨f - 1, by omega⟩
    rw [w_X8_given_l4, e_GetI W (sL_8 Q) hok_8_21, h21, if_pos (nI_le (by omega) (by omega)), show i = gL σ 1 by omega]
  | succ k ih =>
    intro f i hi hf
    obtain ⟨f, rfl⟩ : ∃ f', f = f' + 1 := ⟨f - 1, by omega⟩
    have hil : i < gL σ 1 := by omega
    have ih' := ih f (i + 1) (by omega) (by omega)
    have hiv : vp_in (nI i) 10 := vp_in_nI (by omega) (by omega)
    have hic : (nI i).toNatClampNeg = i := nI_clamp (by omega)
    have hvi := (P.2.2.2.1.1 i hil).2.1
    have hcl := Nat.le_trans (cf_le σ d i) (Nat.le_of_lt hil)
    have g51 := fun (K : Option Nat → Int32 → Int32 → Int32 → GM → Prop) => q_g51 (A := A) (X := X) (px := px) (post := post) (K := K) (v := nI d) P M W Q hil hcl
    rw [w_X8_given_l4, e_GetI W (sL_8 Q) hok_8_21, h21, if_neg (nI_ge (by omega) (by omega)), e_Is' W (sL_8 Q) hcl_8, q_could P M W W0 Q hil hd]
    try dsimp only
    rcases cu_01 σ i d with o | o
    · rw [o, if_pos rfl]
      unfold w_X8_given_b141
      rw [cf_f (fun z => by have := z.1.2; rw [o] at this; exact absurd this (by decide))] at ih'
      rw [nI_1]
      exact ih'
    · rw [o, if_neg (by decide), s8_3 W Q, e_Ald W (sL_103 Q) hak_103 (by decide), sN_103 Q, p_and hdv, hdc, M.2.1 103 _ _ (by decide)]
      have fin : cf_nw σ d i = 1 → w_X8_given_b51 X post px (w_X8_given_l4 X post px f) (some (A.1 8 0)) (nI d) (nI (cf_at σ d i) - 1) (nI i) (hp A σ') = post (nI (cf_at σ d (gL σ 1)) - 1) (hp A σ') := by
        intro n
        by_cases hah : cf_at σ d i = 0 ∨ cf_ga σ i (cf_at σ d i - 1)
        · rw [(g51 _).1 hah]
          rw [cf_t ⟨⟨n, o⟩, hah⟩, nI_pred] at ih'
          exact ih'
        · rw [(g51 _).2 hah]
          rw [cf_f (fun z => hah z.2)] at ih'
          exact ih'
      rcases q_has W0 P hd with ⟨hR, hm⟩ | ⟨q, hq, hR, hm⟩
      · rw [hm, if_pos rfl]
        exact fin (if_pos hR)
      · have hqv : vp_in (nI q) 10 := vp_in_nI (by omega) (by omega)
        have hqc : (nI q).toNatClampNeg = q := nI_clamp (by omega)
        have hvq := (P.2.2.2.1.1 q hq).2.1
        rw [hm, if_neg (fun z => (nI_nm1 (show q ≤ 40 by omega)).mp z), s8_7 W Q, e_Ald W (sL_107 Q) hak_107 (by decide), sN_107 Q, p_and hiv, hic, M.2.1 107 _ _ (by decide), s8_7 W Q, s8_3 W Q, e_Ald W (sL_103 Q) hak_103 (by decide), sN_103 Q, p_and hdv, hdc, M.2.1 103 _ _ (by decide), hm, e_Ald W (sL_107 Q) hak_107 (by decide), sN_107 Q, p_and hqv, hqc, M.2.1 107 _ _ (by decide), ← hvi, ← hvq]
        by_cases y : gV σ 1 1 i ≤ gV σ 1 1 q
        · rw [if_pos y]
          unfold w_X8_given_b141
          have n : cf_nw σ d i = 0 := by
            unfold cf_nw
            rw [hR, if_neg (Nat.succ_ne_zero q), Nat.add_sub_cancel, if_pos y]
          rw [cf_f (fun z => by have := z.1.1; rw [n] at this; exact absurd this (by decide))] at ih'
          rw [nI_1]
          exact ih'
        · rw [if_neg y]
          refine fin ?_
          unfold cf_nw
          rw [hR, if_neg (Nat.succ_ne_zero q), Nat.add_sub_cancel, if_neg y]
theorem q_gv {post : Int32 → GM → Prop} (P : PI σ) (M : MEq σ σ') (W : WF A σ') (W0 : WF A σ) (Q : P0 σ') (hd : d < gL σ 2) : w_X8_given X post px (some (A.1 8 0)) (nI d) (hp A σ') = post (nI (cf_at σ d (gL σ 1)) - 1) (hp A σ') := by
  have h10 : gL σ 1 ≤ 10 := P.2.1.2.2.2.2.2.2.2.2.1
  unfold w_X8_given
  exact q_gvl P M W W0 Q hd (gL σ 1) 3000 0 (by omega) (by omega)
end CF
section CS
variable {X : Cx} {xs : Nat → Int32} {Ls b i : Nat} {v1 v2 v3 v4 : Option Nat} {g : GM}
set_option maxHeartbeats 4000000 in
theorem p_18 (hin : ∀ j : Nat, j < 7 → vp_in (Int32.ofNat (7 * i) + Int32.ofNat j) Ls) (h : LIv X v1 v2 v3 v4 g) : w_law_18 X xs Ls b (LIv X v1 v2 v3 v4) v1 v2 v3 v4 (Int32.ofNat (7 * i)) g := by
  obtain ⟨A, σ, W, hx, P, rfl, rfl, rfl, rfl, rfl⟩ := h
  have Q := P.1
  have u1 : vp_in (Int32.ofNat (7 * i) + 1) Ls := hin 1 (by decide)
  have hL := P.2.2.2.2.2.2.2.1
  have h6 : gV σ 8 6 0 = nI (gL σ 2) := P.2.1.1.1
  have h10 : gL σ 1 ≤ 10 := P.2.1.2.2.2.2.2.2.2.2.1
  have h12 : gL σ 2 ≤ 12 := P.2.1.2.2.2.2.2.2.2.1
  unfold w_law_18
  generalize xs (Int32.ofNat (7 * i) + 1).toNatClampNeg = v
  rcases q_ix v (show gL σ 2 ≤ 40 by omega) with hc | ⟨d, hd, rfl⟩
  · simp (config := { maxSteps := 1000000 }) only [↓w_law_18.eq_1, ↓w_L_law_b1450.eq_1, ↓w_L_offered.eq_1, ↓w_X7_offered.eq_1, ↓w_X8_offered_b42.eq_1, ↓w_X8_offered_b27.eq_1, ↓w_X8_offered.eq_1, ↓w_X8_thrown.eq_1, ↓w_X8_noDevice_b29.eq_1, ↓w_X8_noDevice_b14.eq_1, ↓w_X8_noDevice.eq_1, ↓w_X8_isDevice.eq_1, u1, ↓q_kd, ↓q_in, ↓if_pos hc, true_and, and_true, if_true, if_false, reduceIte, and_self, false_and, and_false, or_false, false_or, true_or, or_true, not_true_eq_false, not_false_eq_true, ne_eq, reduceCtorEq, Nat.reduceLT, Nat.reduceEqDiff, Nat.reduceLeDiff, Nat.reduceAdd, eq_self, ii_0_1, ii_0_2, ii_0_3, ii_0_4, ii_1_0, ii_1_2, ii_1_3, ii_1_4, il_1, ii_2_0, ii_2_1, ii_2_3, ii_2_4, il_2, ii_3_0, ii_3_1, ii_3_2, ii_3_4, il_3, ii_4_0, ii_4_1, ii_4_2, ii_4_3, il_4, il_0, ie_0_1, ie_0_2, ie_0_3, ie_0_4, ie_0_5, ie_1_0, ie_1_2, ie_1_3, ie_1_4, ie_1_5, ie_2_0, ie_2_1, ie_2_3, ie_2_4, ie_2_5, ie_3_0, ie_3_1, ie_3_2, ie_3_4, ie_3_5, ie_4_0, ie_4_1, ie_4_2, ie_4_3, ie_4_5, ie_5_0, ie_5_1, ie_5_2, ie_5_3, ie_5_4, ↓e_Is', ↓e_GetI, ↓e_GetF, ↓e_PutI, ↓e_PutF, ↓e_PutR, ↓e_Ald, ↓e_Ast, ↓e_Aldq, ↓e_AldJ, ↓e_AstJ, ↓e_AldD, ↓e_AstD, gL_sV, gV_sV, gR_sV, gN_sV, gJ_sV, gD_sV, gL_sR, gV_sR, gR_sR, gN_sR, gJ_sR, gD_sR, gL_sJ, gV_sJ, gR_sJ, gN_sJ, gJ_sJ, gL_sD, gV_sD, gR_sD, gN_sD, gD_sD, hr_0, hr_s, WF_sV, WF_sJ, WF_sD, gL_sF, gV_sF, gR_sF, gN_sF, gL_sG, gV_sG, gR_sG, gN_sG, WF_sF, ↓eR_1_2, ↓eR_1_5, ↓eR_1_6, ↓eR_2_3, ↓eR_3_2, ↓eR_4_1, ↓eR_6_0, ↓eR_8_34, ↓eR_9_0, ↓eR_20_0, ↓eR_22_0, sL_7, sL_8, sL_60, sL_61, sN_60, sN_61, ↓s7_0, ↓s7_1, ↓s7_2, ↓s7_3, ↓s7_4, ↓s7_5, ↓s7_6, sL_100, ↓s8_0, sN_100, sL_101, ↓s8_1, sN_101, sL_102, ↓s8_2, sN_102, sL_103, ↓s8_3, sN_103, sL_104, ↓s8_4, sN_104, sL_105, ↓s8_5, sN_105, sL_107, ↓s8_7, sN_107, sL_108, ↓s8_8, sN_108, sL_109, ↓s8_9, sN_109, sL_110, ↓s8_10, sN_110, sL_111, ↓s8_11, sN_111, sL_112, ↓s8_12, sN_112, sL_113, ↓s8_13, sN_113, sL_114, ↓s8_14, sN_114, sL_115, ↓s8_15, sN_115, sL_116, ↓s8_16, sN_116, sL_117, ↓s8_17, sN_117, sL_118, ↓s8_18, sN_118, sL_119, ↓s8_19, sN_119, sL_120, ↓s8_20, sN_120, sL_127, ↓s8_27, sN_127, sL_128, ↓s8_28, sN_128, sL_129, ↓s8_29, sN_129, sL_130, ↓s8_30, sN_130, sL_132, ↓s8_32, sN_132, P0_sV, P0_sJ, P0_sD, hcl_1, hok_1_0, hok_1_1, hok_1_2, hok_1_3, hok_1_4, hok_1_5, hok_1_6, hok_1_7, hok_1_8, hok_1_9, hok_1_10, hok_1_11, hok_1_12, hok_1_13, hok_1_14, hok_1_15, hcl_2, hok_2_0, hok_2_1, hok_2_2, hok_2_3, hok_2_4, hok_2_5, hcl_3, hok_3_0, hok_3_1, hok_3_2, hcl_4, hok_4_0, hok_4_1, hok_4_2, hok_4_3, hcl_5, hok_5_0, hok_5_1, hok_5_2, hcl_6, hok_6_0, hok_6_1, hcl_7, hok_7_0, hok_7_1, hok_7_2, hok_7_3, hok_7_4, hok_7_5, hok_7_6, hok_7_7, hok_7_8, hok_7_9, hok_7_10, hok_7_11, hok_7_12, hcl_8, hok_8_0, hok_8_1, hok_8_2, hok_8_3, hok_8_4, hok_8_5, hok_8_6, hok_8_7, hok_8_8, hok_8_9, hok_8_10, hok_8_11, hok_8_12, hok_8_13, hok_8_14, hok_8_15, hok_8_16, hok_8_17, hok_8_18, hok_8_19, hok_8_20, hok_8_21, hok_8_22, hok_8_23, hok_8_24, hok_8_25, hok_8_26, hok_8_27, hok_8_28, hok_8_29, hok_8_30, hok_8_31, hok_8_32, hok_8_33, hok_8_34, hok_8_35, hok_8_36, hcl_9, hok_9_0, hok_9_1, hok_9_2, hok_9_3, hcl_20, hok_20_0, hok_20_1, hcl_22, hok_22_0, hok_22_1, hcl_30, hok_30_0, hok_30_1, hok_30_2, hcl_31, hok_31_0, hok_31_1, hok_31_2, hcl_32, hok_32_0, hok_32_1, hok_32_2, hcl_33, hok_33_0, hok_33_1, hok_33_2, hak_16, hak_21, hak_23, hak_40, hak_41, hak_42, hak_43, hak_50, hak_60, hak_61, hak_205, hak_227, hak_100, hak_101, hak_102, hak_103, hak_104, hak_105, hak_107, hak_108, hak_109, hak_110, hak_111, hak_112, hak_113, hak_114, hak_115, hak_116, hak_117, hak_118, hak_119, hak_120, hak_127, hak_128, hak_129, hak_130, hak_132, ↓eL_16, ↓eL_21, ↓eL_23, ↓eL_50, W, Q, cmpS, hL, h6, h12, nb0, nb1]
    refine LIv_of ?_ hx ?_
    · exact W
    · exact P
  · have hc := q_nb hd (show gL σ 2 ≤ 40 by omega)
    have hcl : (nI d).toNatClampNeg = d := nI_clamp (by omega)
    have hle := cf_le σ d (gL σ 1)
    have ho := fun (px : String → GM → Prop) (post : Option Nat → GM → Prop) => q_cf (X := X) (px := px) (post := post) W P hd
    have hm1 := fun (x : Int64) (px : String → GM → Prop) (post : Int32 → GM → Prop) => q_gv (X := X) (px := px) (post := post) (σ := σ) (σ' := sV (sJ σ x) 8 36 0 0) P MEq.rf.sJ.s36 W W Q hd
    have hm2 := fun (px : String → GM → Prop) (post : Int32 → GM → Prop) => q_gv (X := X) (px := px) (post := post) (σ := σ) (σ' := sV σ 8 36 0 0) P MEq.rf.s36 W W Q hd
    cases hcf : cf_at σ d (gL σ 1) with
    | zero =>
      have hb : nI 0 - 1 = -1 := by decide
      rw [hcf] at ho hm1 hm2
      simp (config := { maxSteps := 1000000 }) only [↓w_law_18.eq_1, ↓w_L_law_b1450.eq_1, ↓w_L_offered.eq_1, ↓w_X7_offered.eq_1, ↓w_X8_offered_b42.eq_1, ↓w_X8_offered_b27.eq_1, ↓w_X8_offered.eq_1, ↓w_X8_thrown.eq_1, ↓w_X8_noDevice_b29.eq_1, ↓w_X8_noDevice_b14.eq_1, ↓w_X8_noDevice.eq_1, ↓w_X8_isDevice.eq_1, u1, ↓q_kd, ↓q_in, ↓if_neg hc, true_and, and_true, if_true, if_false, reduceIte, and_self, false_and, and_false, or_false, false_or, true_or, or_true, not_true_eq_false, not_false_eq_true, ne_eq, reduceCtorEq, Nat.reduceLT, Nat.reduceEqDiff, Nat.reduceLeDiff, Nat.reduceAdd, eq_self, ii_0_1, ii_0_2, ii_0_3, ii_0_4, ii_1_0, ii_1_2, ii_1_3, ii_1_4, il_1, ii_2_0, ii_2_1, ii_2_3, ii_2_4, il_2, ii_3_0, ii_3_1, ii_3_2, ii_3_4, il_3, ii_4_0, ii_4_1, ii_4_2, ii_4_3, il_4, il_0, ie_0_1, ie_0_2, ie_0_3, ie_0_4, ie_0_5, ie_1_0, ie_1_2, ie_1_3, ie_1_4, ie_1_5, ie_2_0, ie_2_1, ie_2_3, ie_2_4, ie_2_5, ie_3_0, ie_3_1, ie_3_2, ie_3_4, ie_3_5, ie_4_0, ie_4_1, ie_4_2, ie_4_3, ie_4_5, ie_5_0, ie_5_1, ie_5_2, ie_5_3, ie_5_4, ↓e_Is', ↓e_GetI, ↓e_GetF, ↓e_PutI, ↓e_PutF, ↓e_PutR, ↓e_Ald, ↓e_Ast, ↓e_Aldq, ↓e_AldJ, ↓e_AstJ, ↓e_AldD, ↓e_AstD, gL_sV, gV_sV, gR_sV, gN_sV, gJ_sV, gD_sV, gL_sR, gV_sR, gR_sR, gN_sR, gJ_sR, gD_sR, gL_sJ, gV_sJ, gR_sJ, gN_sJ, gJ_sJ, gL_sD, gV_sD, gR_sD, gN_sD, gD_sD, hr_0, hr_s, WF_sV, WF_sJ, WF_sD, gL_sF, gV_sF, gR_sF, gN_sF, gL_sG, gV_sG, gR_sG, gN_sG, WF_sF, ↓eR_1_2, ↓eR_1_5, ↓eR_1_6, ↓eR_2_3, ↓eR_3_2, ↓eR_4_1, ↓eR_6_0, ↓eR_8_34, ↓eR_9_0, ↓eR_20_0, ↓eR_22_0, sL_7, sL_8, sL_60, sL_61, sN_60, sN_61, ↓s7_0, ↓s7_1, ↓s7_2, ↓s7_3, ↓s7_4, ↓s7_5, ↓s7_6, sL_100, ↓s8_0, sN_100, sL_101, ↓s8_1, sN_101, sL_102, ↓s8_2, sN_102, sL_103, ↓s8_3, sN_103, sL_104, ↓s8_4, sN_104, sL_105, ↓s8_5, sN_105, sL_107, ↓s8_7, sN_107, sL_108, ↓s8_8, sN_108, sL_109, ↓s8_9, sN_109, sL_110, ↓s8_10, sN_110, sL_111, ↓s8_11, sN_111, sL_112, ↓s8_12, sN_112, sL_113, ↓s8_13, sN_113, sL_114, ↓s8_14, sN_114, sL_115, ↓s8_15, sN_115, sL_116, ↓s8_16, sN_116, sL_117, ↓s8_17, sN_117, sL_118, ↓s8_18, sN_118, sL_119, ↓s8_19, sN_119, sL_120, ↓s8_20, sN_120, sL_127, ↓s8_27, sN_127, sL_128, ↓s8_28, sN_128, sL_129, ↓s8_29, sN_129, sL_130, ↓s8_30, sN_130, sL_132, ↓s8_32, sN_132, P0_sV, P0_sJ, P0_sD, hcl_1, hok_1_0, hok_1_1, hok_1_2, hok_1_3, hok_1_4, hok_1_5, hok_1_6, hok_1_7, hok_1_8, hok_1_9, hok_1_10, hok_1_11, hok_1_12, hok_1_13, hok_1_14, hok_1_15, hcl_2, hok_2_0, hok_2_1, hok_2_2, hok_2_3, hok_2_4, hok_2_5, hcl_3, hok_3_0, hok_3_1, hok_3_2, hcl_4, hok_4_0, hok_4_1, hok_4_2, hok_4_3, hcl_5, hok_5_0, hok_5_1, hok_5_2, hcl_6, hok_6_0, hok_6_1, hcl_7, hok_7_0, hok_7_1, hok_7_2, hok_7_3, hok_7_4, hok_7_5, hok_7_6, hok_7_7, hok_7_8, hok_7_9, hok_7_10, hok_7_11, hok_7_12, hcl_8, hok_8_0, hok_8_1, hok_8_2, hok_8_3, hok_8_4, hok_8_5, hok_8_6, hok_8_7, hok_8_8, hok_8_9, hok_8_10, hok_8_11, hok_8_12, hok_8_13, hok_8_14, hok_8_15, hok_8_16, hok_8_17, hok_8_18, hok_8_19, hok_8_20, hok_8_21, hok_8_22, hok_8_23, hok_8_24, hok_8_25, hok_8_26, hok_8_27, hok_8_28, hok_8_29, hok_8_30, hok_8_31, hok_8_32, hok_8_33, hok_8_34, hok_8_35, hok_8_36, hcl_9, hok_9_0, hok_9_1, hok_9_2, hok_9_3, hcl_20, hok_20_0, hok_20_1, hcl_22, hok_22_0, hok_22_1, hcl_30, hok_30_0, hok_30_1, hok_30_2, hcl_31, hok_31_0, hok_31_1, hok_31_2, hcl_32, hok_32_0, hok_32_1, hok_32_2, hcl_33, hok_33_0, hok_33_1, hok_33_2, hak_16, hak_21, hak_23, hak_40, hak_41, hak_42, hak_43, hak_50, hak_60, hak_61, hak_205, hak_227, hak_100, hak_101, hak_102, hak_103, hak_104, hak_105, hak_107, hak_108, hak_109, hak_110, hak_111, hak_112, hak_113, hak_114, hak_115, hak_116, hak_117, hak_118, hak_119, hak_120, hak_127, hak_128, hak_129, hak_130, hak_132, ↓eL_16, ↓eL_21, ↓eL_23, ↓eL_50, W, Q, cmpS, hL, h6, h12, nb0, nb1, hcl, hd, ↓ho, ↓hm1, ↓hm2, hb]
      refine LIv_of ?_ hx ?_
      · exact W
      · exact P
    | succ r =>
      have hr1 : r < gL σ 1 := by omega
      have hrm := nI_nm1 (show r ≤ 40 by omega)
      have hnum := (P.2.2.2.1.1 r hr1).1
      rw [hcf] at ho hm1 hm2
      simp (config := { maxSteps := 1000000 }) only [↓w_law_18.eq_1, ↓w_L_law_b1450.eq_1, ↓w_L_offered.eq_1, ↓w_X7_offered.eq_1, ↓w_X8_offered_b42.eq_1, ↓w_X8_offered_b27.eq_1, ↓w_X8_offered.eq_1, ↓w_X8_thrown.eq_1, ↓w_X8_noDevice_b29.eq_1, ↓w_X8_noDevice_b14.eq_1, ↓w_X8_noDevice.eq_1, ↓w_X8_isDevice.eq_1, u1, ↓q_kd, ↓q_in, ↓if_neg hc, true_and, and_true, if_true, if_false, reduceIte, and_self, false_and, and_false, or_false, false_or, true_or, or_true, not_true_eq_false, not_false_eq_true, ne_eq, reduceCtorEq, Nat.reduceLT, Nat.reduceEqDiff, Nat.reduceLeDiff, Nat.reduceAdd, eq_self, ii_0_1, ii_0_2, ii_0_3, ii_0_4, ii_1_0, ii_1_2, ii_1_3, ii_1_4, il_1, ii_2_0, ii_2_1, ii_2_3, ii_2_4, il_2, ii_3_0, ii_3_1, ii_3_2, ii_3_4, il_3, ii_4_0, ii_4_1, ii_4_2, ii_4_3, il_4, il_0, ie_0_1, ie_0_2, ie_0_3, ie_0_4, ie_0_5, ie_1_0, ie_1_2, ie_1_3, ie_1_4, ie_1_5, ie_2_0, ie_2_1, ie_2_3, ie_2_4, ie_2_5, ie_3_0, ie_3_1, ie_3_2, ie_3_4, ie_3_5, ie_4_0, ie_4_1, ie_4_2, ie_4_3, ie_4_5, ie_5_0, ie_5_1, ie_5_2, ie_5_3, ie_5_4, ↓e_Is', ↓e_GetI, ↓e_GetF, ↓e_PutI, ↓e_PutF, ↓e_PutR, ↓e_Ald, ↓e_Ast, ↓e_Aldq, ↓e_AldJ, ↓e_AstJ, ↓e_AldD, ↓e_AstD, gL_sV, gV_sV, gR_sV, gN_sV, gJ_sV, gD_sV, gL_sR, gV_sR, gR_sR, gN_sR, gJ_sR, gD_sR, gL_sJ, gV_sJ, gR_sJ, gN_sJ, gJ_sJ, gL_sD, gV_sD, gR_sD, gN_sD, gD_sD, hr_0, hr_s, WF_sV, WF_sJ, WF_sD, gL_sF, gV_sF, gR_sF, gN_sF, gL_sG, gV_sG, gR_sG, gN_sG, WF_sF, ↓eR_1_2, ↓eR_1_5, ↓eR_1_6, ↓eR_2_3, ↓eR_3_2, ↓eR_4_1, ↓eR_6_0, ↓eR_8_34, ↓eR_9_0, ↓eR_20_0, ↓eR_22_0, sL_7, sL_8, sL_60, sL_61, sN_60, sN_61, ↓s7_0, ↓s7_1, ↓s7_2, ↓s7_3, ↓s7_4, ↓s7_5, ↓s7_6, sL_100, ↓s8_0, sN_100, sL_101, ↓s8_1, sN_101, sL_102, ↓s8_2, sN_102, sL_103, ↓s8_3, sN_103, sL_104, ↓s8_4, sN_104, sL_105, ↓s8_5, sN_105, sL_107, ↓s8_7, sN_107, sL_108, ↓s8_8, sN_108, sL_109, ↓s8_9, sN_109, sL_110, ↓s8_10, sN_110, sL_111, ↓s8_11, sN_111, sL_112, ↓s8_12, sN_112, sL_113, ↓s8_13, sN_113, sL_114, ↓s8_14, sN_114, sL_115, ↓s8_15, sN_115, sL_116, ↓s8_16, sN_116, sL_117, ↓s8_17, sN_117, sL_118, ↓s8_18, sN_118, sL_119, ↓s8_19, sN_119, sL_120, ↓s8_20, sN_120, sL_127, ↓s8_27, sN_127, sL_128, ↓s8_28, sN_128, sL_129, ↓s8_29, sN_129, sL_130, ↓s8_30, sN_130, sL_132, ↓s8_32, sN_132, P0_sV, P0_sJ, P0_sD, hcl_1, hok_1_0, hok_1_1, hok_1_2, hok_1_3, hok_1_4, hok_1_5, hok_1_6, hok_1_7, hok_1_8, hok_1_9, hok_1_10, hok_1_11, hok_1_12, hok_1_13, hok_1_14, hok_1_15, hcl_2, hok_2_0, hok_2_1, hok_2_2, hok_2_3, hok_2_4, hok_2_5, hcl_3, hok_3_0, hok_3_1, hok_3_2, hcl_4, hok_4_0, hok_4_1, hok_4_2, hok_4_3, hcl_5, hok_5_0, hok_5_1, hok_5_2, hcl_6, hok_6_0, hok_6_1, hcl_7, hok_7_0, hok_7_1, hok_7_2, hok_7_3, hok_7_4, hok_7_5, hok_7_6, hok_7_7, hok_7_8, hok_7_9, hok_7_10, hok_7_11, hok_7_12, hcl_8, hok_8_0, hok_8_1, hok_8_2, hok_8_3, hok_8_4, hok_8_5, hok_8_6, hok_8_7, hok_8_8, hok_8_9, hok_8_10, hok_8_11, hok_8_12, hok_8_13, hok_8_14, hok_8_15, hok_8_16, hok_8_17, hok_8_18, hok_8_19, hok_8_20, hok_8_21, hok_8_22, hok_8_23, hok_8_24, hok_8_25, hok_8_26, hok_8_27, hok_8_28, hok_8_29, hok_8_30, hok_8_31, hok_8_32, hok_8_33, hok_8_34, hok_8_35, hok_8_36, hcl_9, hok_9_0, hok_9_1, hok_9_2, hok_9_3, hcl_20, hok_20_0, hok_20_1, hcl_22, hok_22_0, hok_22_1, hcl_30, hok_30_0, hok_30_1, hok_30_2, hcl_31, hok_31_0, hok_31_1, hok_31_2, hcl_32, hok_32_0, hok_32_1, hok_32_2, hcl_33, hok_33_0, hok_33_1, hok_33_2, hak_16, hak_21, hak_23, hak_40, hak_41, hak_42, hak_43, hak_50, hak_60, hak_61, hak_205, hak_227, hak_100, hak_101, hak_102, hak_103, hak_104, hak_105, hak_107, hak_108, hak_109, hak_110, hak_111, hak_112, hak_113, hak_114, hak_115, hak_116, hak_117, hak_118, hak_119, hak_120, hak_127, hak_128, hak_129, hak_130, hak_132, ↓eL_16, ↓eL_21, ↓eL_23, ↓eL_50, W, Q, cmpS, hL, h6, h12, nb0, nb1, hcl, hd, ↓ho, ↓hm1, ↓hm2, Nat.succ_ne_zero, Nat.add_sub_cancel, nI_pred, hrm, hr1, hnum]
      refine LIv_of ?_ hx ?_
      · exact W
      · exact P
end CS
