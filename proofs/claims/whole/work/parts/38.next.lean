/-! the first in review -/
def ah (σ : St) (b c : Nat) : Prop := if (gR σ 1 5 b = 0) = (gR σ 1 5 c = 0) then gV σ 1 9 b < gV σ 1 9 c else ¬ gR σ 1 5 b = 0
noncomputable def nx (σ : St) : Nat → Nat
  | 0 => 0
  | i + 1 => have := Classical.propDecidable (gV σ 1 7 i = 119 ∧ (nx σ i = 0 ∨ ah σ i (nx σ i - 1))); if gV σ 1 7 i = 119 ∧ (nx σ i = 0 ∨ ah σ i (nx σ i - 1)) then i + 1 else nx σ i
theorem nx_t {σ : St} {i : Nat} (h : gV σ 1 7 i = 119 ∧ (nx σ i = 0 ∨ ah σ i (nx σ i - 1))) : nx σ (i + 1) = i + 1 := by
  rw [nx]; exact if_pos h
theorem nx_f {σ : St} {i : Nat} (h : ¬ (gV σ 1 7 i = 119 ∧ (nx σ i = 0 ∨ ah σ i (nx σ i - 1)))) : nx σ (i + 1) = nx σ i := by
  rw [nx]; exact if_neg h
theorem nx_le (σ : St) : ∀ i, nx σ i ≤ i
  | 0 => Nat.le_refl _
  | i + 1 => by
    by_cases h : gV σ 1 7 i = 119 ∧ (nx σ i = 0 ∨ ah σ i (nx σ i - 1))
    · rw [nx_t h]; exact Nat.le_refl _
    · rw [nx_f h]; exact Nat.le_succ_of_le (nx_le σ i)
theorem nx_119 (σ : St) : ∀ i, nx σ i ≠ 0 → gV σ 1 7 (nx σ i - 1) = 119
  | 0 => fun h => absurd rfl h
  | i + 1 => by
    by_cases h : gV σ 1 7 i = 119 ∧ (nx σ i = 0 ∨ ah σ i (nx σ i - 1))
    · rw [nx_t h]; exact fun _ => h.1
    · rw [nx_f h]; exact nx_119 σ i
section NX
variable {A : Ad} {σ : St} {X : Cx} {px : String → GM → Prop}
theorem q_fix {post : Int32 → GM → Prop} {b : Nat} (W : WF A σ) (hb : b < gL σ 1) : w_X1_isFix X post px (some (A.1 1 b)) (hp A σ) = post (if gR σ 1 5 b = 0 then 0 else 1) (hp A σ) := by
  unfold w_X1_isFix w_X1_isFix_b12
  rw [eR_1_5 W hb, p_and nb0, p_and nb1]
  cases h : gR σ 1 5 b with
  | zero => rw [hr_0, if_pos rfl, if_pos rfl]
  | succ r => rw [hr_s, if_neg (by intro z; cases z), if_neg (Nat.succ_ne_zero r)]
theorem q_ah {post : Int32 → GM → Prop} {b c : Nat} (W : WF A σ) (hb : b < gL σ 1) (hc : c < gL σ 1) : (ah σ b c → w_X1_isReviewedAheadOf X post px (some (A.1 1 b)) (some (A.1 1 c)) (hp A σ) = post 1 (hp A σ)) ∧ (¬ ah σ b c → w_X1_isReviewedAheadOf X post px (some (A.1 1 b)) (some (A.1 1 c)) (hp A σ) = post 0 (hp A σ)) := by
  unfold w_X1_isReviewedAheadOf w_X1_isReviewedAheadOf_b34 ah
  rw [e_Is' W hb hcl_1, q_fix W hb, e_Is' W hc hcl_1, q_fix W hc]
  by_cases h1 : gR σ 1 5 b = 0
  · by_cases h2 : gR σ 1 5 c = 0
    · have e : (gR σ 1 5 b = 0) = (gR σ 1 5 c = 0) := propext ⟨fun _ => h2, fun _ => h1⟩
      rw [if_pos e, if_pos h1, if_pos h2, if_pos rfl, e_GetI W hb hok_1_9, e_GetI W hc hok_1_9, p_and nb0, p_and nb1]
      exact ⟨fun h => if_neg (fun z => le_lt.mp z h), fun h => if_pos (le_lt.mpr h)⟩
    · have e : ¬ (gR σ 1 5 b = 0) = (gR σ 1 5 c = 0) := fun z => h2 (z.mp h1)
      rw [if_neg e, if_pos h1, if_neg h2, if_neg (show ¬ (0 : Int32) = 1 by decide), e_Is' W hb hcl_1, q_fix W hb, if_pos h1, p_and nb0]
      exact ⟨fun h => absurd h1 h, fun _ => rfl⟩
  · by_cases h2 : gR σ 1 5 c = 0
    · have e : ¬ (gR σ 1 5 b = 0) = (gR σ 1 5 c = 0) := fun z => h1 (z.mpr h2)
      rw [if_neg e, if_neg h1, if_pos h2, if_neg (show ¬ (1 : Int32) = 0 by decide), e_Is' W hb hcl_1, q_fix W hb, if_neg h1, p_and nb1]
      exact ⟨fun h => rfl, fun h => absurd h1 h⟩
    · have e : (gR σ 1 5 b = 0) = (gR σ 1 5 c = 0) := propext ⟨fun z => absurd z h1, fun z => absurd z h2⟩
      rw [if_pos e, if_neg h1, if_neg h2, if_pos rfl, e_GetI W hb hok_1_9, e_GetI W hc hok_1_9, p_and nb0, p_and nb1]
      exact ⟨fun h => if_neg (fun z => le_lt.mp z h), fun h => if_pos (le_lt.mpr h)⟩
theorem q_fwl {post : Option Nat → GM → Prop} (W : WF A σ) (Q : P0 σ) (hL : Lst σ 32 (gL σ 1)) (h10 : gL σ 1 ≤ 10) : ∀ (k f i : Nat), i + k = gL σ 1 → k < f → w_X7_firstWaiting_l4 X post px f (some (A.1 7 0)) (hr A 1 (nx σ i)) (nI i) (hp A σ) = if nx σ (gL σ 1) = 0 then px "java/lang/IllegalStateException" (hp A σ) else post (some (A.1 1 (nx σ (gL σ 1) - 1))) (hp A σ) := by
  intro k
  induction k with
  | zero =>
    intro f i hi hf
    obtain ⟨f, rfl⟩ : ∃ f', f = f' + 1 := ⟨f - 1, by omega⟩
    rw [w_X7_firstWaiting_l4, s7_2 W Q, e_Is' W hL.1 hcl_32, l_size W (Or.inr (Or.inr (Or.inl rfl))) hL, if_pos (nI_le (by omega) (by omega)), show gL σ 1 = i by omega]
    cases h : nx σ i with
    | zero => rw [hr_0, if_pos rfl, if_pos rfl]
    | succ r => rw [hr_s, if_neg (by intro z; cases z), if_neg (Nat.succ_ne_zero r), Nat.add_sub_cancel]
  | succ k ih =>
    intro f i hi hf
    obtain ⟨f, rfl⟩ : ∃ f', f = f' + 1 := ⟨f - 1, by omega⟩
    have hil : i < gL σ 1 := by omega
    rw [w_X7_firstWaiting_l4, s7_2 W Q, e_Is' W hL.1 hcl_32, l_size W (Or.inr (Or.inr (Or.inl rfl))) hL, if_neg (nI_ge (by omega) (by omega))]
    rw [s7_2 W Q, e_Is' W hL.1 hcl_32, l_get W (Or.inr (Or.inr (Or.inl rfl))) hL hil]
    rw [show hE (32 + 10) = 1 from rfl, e_Is' W hil hcl_1, e_GetI W hil hok_1_7]
    unfold w_X7_firstWaiting_b48 w_X7_firstWaiting_b50
    have ih' := ih f (i + 1) (by omega) (by omega)
    rw [nI_1]
    by_cases e : gV σ 1 7 i = 119
    · rw [if_pos e]
      cases h : nx σ i with
      | zero =>
        rw [hr_0, if_pos rfl]
        rw [nx_t ⟨e, Or.inl h⟩] at ih'
        exact ih'
      | succ r =>
        have hr1 : r < gL σ 1 := by
          have := nx_le σ i
          omega
        rw [hr_s, if_neg (by intro z; cases z), e_Is' W hil hcl_1]
        by_cases hah : ah σ i r
        · rw [(q_ah W hil hr1).1 hah]
          rw [nx_t ⟨e, Or.inr (by rw [h]; exact hah)⟩] at ih'
          exact ih'
        · rw [(q_ah W hil hr1).2 hah]
          rw [nx_f (fun z => z.2.elim (fun y => by rw [h] at y; cases y) (fun y => hah (by rw [h] at y; exact y))), h] at ih'
          exact ih'
    · rw [if_neg e]
      rw [nx_f (fun z => e z.1)] at ih'
      exact ih'
theorem q_fw {post : Option Nat → GM → Prop} (W : WF A σ) (Q : P0 σ) (hL : Lst σ 32 (gL σ 1)) (h10 : gL σ 1 ≤ 10) : w_X7_firstWaiting X post px (some (A.1 7 0)) (hp A σ) = if nx σ (gL σ 1) = 0 then px "java/lang/IllegalStateException" (hp A σ) else post (some (A.1 1 (nx σ (gL σ 1) - 1))) (hp A σ) := by
  unfold w_X7_firstWaiting
  exact q_fwl W Q hL h10 (gL σ 1) 3000 0 (by omega) (by omega)
/-- the reference's choice -/
theorem q_nxl {σ' : St} {post : Int32 → GM → Prop} (W : WF A σ') (Q : P0 σ') (P : PI σ) (h21 : gV σ' 8 21 0 = nI (gL σ 1)) (h113 : ∀ b, gV σ' 113 b 0 = gV σ 113 b 0) (h114 : ∀ b, gV σ' 114 b 0 = gV σ 114 b 0) (h115 : ∀ b, gV σ' 115 b 0 = gV σ 115 b 0) : ∀ (k f i : Nat), i + k = gL σ 1 → k < f → w_X8_next_l4 X post px f (some (A.1 8 0)) (nI (nx σ i) - 1) (nI i) (hp A σ') = post (nI (nx σ (gL σ 1)) - 1) (hp A σ') := by
  have h10 : gL σ 1 ≤ 10 := P.2.1.2.2.2.2.2.2.2.2.1
  have hm : ∀ b, b < gL σ 1 → (gR σ 1 5 b = 0 → gV σ 113 b 0 = -1) ∧ (¬ gR σ 1 5 b = 0 → ¬ gV σ 113 b 0 = -1) := by
    intro b hb
    have h1 := (P.2.2.2.1.1 b hb).2.2.2.2.1
    have h2 := (P.2.2.2.1.1 b hb).2.2.2.2.2.1
    rw [h1]
    cases h : gR σ 1 5 b with
    | zero => exact ⟨fun _ => by decide, fun z => absurd rfl z⟩
    | succ r => exact ⟨fun z => absurd z (Nat.succ_ne_zero r), fun _ z => by rw [nI_pred, nI_nm1 (by omega)] at z; exact z⟩
  intro k
  induction k with
  | zero =>
    intro f i hi hf
    obtain ⟨f, rfl⟩ : ∃ f', f = f' + 1 := ⟨f - 1, by omega⟩
    rw [w_X8_next_l4, e_GetI W (sL_8 Q) hok_8_21, h21, if_pos (nI_le (by omega) (by omega)), show i = gL σ 1 by omega]
  | succ k ih =>
    intro f i hi hf
    obtain ⟨f, rfl⟩ : ∃ f', f = f' + 1 := ⟨f - 1, by omega⟩
    have hil : i < gL σ 1 := by omega
    have ih' := ih f (i + 1) (by omega) (by omega)
    have hiv : vp_in (nI i) 10 := vp_in_nI (by omega) (by omega)
    have hic : (nI i).toNatClampNeg = i := nI_clamp (by omega)
    have hst := (P.2.2.2.1.2.2.1 i hil).1
    have htu := (P.2.2.2.1.2.2.1 i hil).2.2.2.1
    rw [w_X8_next_l4, e_GetI W (sL_8 Q) hok_8_21, h21, if_neg (nI_ge (by omega) (by omega)), s8_14 W Q, e_Ald W (sL_114 Q) hak_114 (by decide), sN_114 Q, p_and hiv, hic, h114, ← hst]
    by_cases e : gV σ 1 7 i = 119
    · rw [if_pos e, s8_13 W Q, e_Ald W (sL_113 Q) hak_113 (by decide), sN_113 Q, p_and hiv, hic, h113]
      cases h : nx σ i with
      | zero =>
        rw [nx_t ⟨e, Or.inl h⟩, nI_pred] at ih'
        have hb : nI 0 - 1 = -1 := by decide
        by_cases hf1 : gV σ 113 i 0 = -1
        · simp (config := { maxSteps := 1000000 }) only [↓if_pos hf1, hb, ↓w_X8_next_b38.eq_1, ↓w_X8_next_b92.eq_1, ↓w_X8_next_b97.eq_1, ↓w_X8_next_b109.eq_1, ↓w_X8_next_b110.eq_1, true_and, and_true, if_true, if_false, reduceIte, and_self, false_and, and_false, or_false, false_or, true_or, or_true, not_true_eq_false, not_false_eq_true, ne_eq, reduceCtorEq, Nat.reduceLT, Nat.reduceEqDiff, Nat.reduceLeDiff, Nat.reduceAdd, eq_self, ii_0_1, ii_0_2, ii_0_3, ii_0_4, ii_1_0, ii_1_2, ii_1_3, ii_1_4, il_1, ii_2_0, ii_2_1, ii_2_3, ii_2_4, il_2, ii_3_0, ii_3_1, ii_3_2, ii_3_4, il_3, ii_4_0, ii_4_1, ii_4_2, ii_4_3, il_4, il_0, ie_0_1, ie_0_2, ie_0_3, ie_0_4, ie_0_5, ie_1_0, ie_1_2, ie_1_3, ie_1_4, ie_1_5, ie_2_0, ie_2_1, ie_2_3, ie_2_4, ie_2_5, ie_3_0, ie_3_1, ie_3_2, ie_3_4, ie_3_5, ie_4_0, ie_4_1, ie_4_2, ie_4_3, ie_4_5, ie_5_0, ie_5_1, ie_5_2, ie_5_3, ie_5_4, nI_1]
          exact ih'
        · simp (config := { maxSteps := 1000000 }) only [↓if_neg hf1, hb, ↓w_X8_next_b38.eq_1, ↓w_X8_next_b92.eq_1, ↓w_X8_next_b97.eq_1, ↓w_X8_next_b109.eq_1, ↓w_X8_next_b110.eq_1, true_and, and_true, if_true, if_false, reduceIte, and_self, false_and, and_false, or_false, false_or, true_or, or_true, not_true_eq_false, not_false_eq_true, ne_eq, reduceCtorEq, Nat.reduceLT, Nat.reduceEqDiff, Nat.reduceLeDiff, Nat.reduceAdd, eq_self, ii_0_1, ii_0_2, ii_0_3, ii_0_4, ii_1_0, ii_1_2, ii_1_3, ii_1_4, il_1, ii_2_0, ii_2_1, ii_2_3, ii_2_4, il_2, ii_3_0, ii_3_1, ii_3_2, ii_3_4, il_3, ii_4_0, ii_4_1, ii_4_2, ii_4_3, il_4, il_0, ie_0_1, ie_0_2, ie_0_3, ie_0_4, ie_0_5, ie_1_0, ie_1_2, ie_1_3, ie_1_4, ie_1_5, ie_2_0, ie_2_1, ie_2_3, ie_2_4, ie_2_5, ie_3_0, ie_3_1, ie_3_2, ie_3_4, ie_3_5, ie_4_0, ie_4_1, ie_4_2, ie_4_3, ie_4_5, ie_5_0, ie_5_1, ie_5_2, ie_5_3, ie_5_4, nI_1]
          exact ih'
      | succ r =>
        have hr1 : r < gL σ 1 := by
          have := nx_le σ i
          omega
        have hrv : vp_in (nI r) 10 := vp_in_nI (by omega) (by omega)
        have hrc : (nI r).toNatClampNeg = r := nI_clamp (by omega)
        have hrm := nI_nm1 (show r ≤ 40 by omega)
        have htr := (P.2.2.2.1.2.2.1 r hr1).2.2.2.1
        have key : ah σ i r ↔ (if (gV σ 113 i 0 = -1) = (gV σ 113 r 0 = -1) then gV σ 115 i 0 < gV σ 115 r 0 else ¬ gV σ 113 i 0 = -1) := by
          have e1 : (gV σ 113 i 0 = -1) = (gR σ 1 5 i = 0) := propext ⟨fun z => Classical.byContradiction (fun y => (hm i hil).2 y z), (hm i hil).1⟩
          have e2 : (gV σ 113 r 0 = -1) = (gR σ 1 5 r = 0) := propext ⟨fun z => Classical.byContradiction (fun y => (hm r hr1).2 y z), (hm r hr1).1⟩
          unfold ah
          rw [← htu, ← htr]
          by_cases g1 : gR σ 1 5 i = 0
          · by_cases g2 : gR σ 1 5 r = 0
            · simp [e1, e2, g1, g2]
            · simp [e1, e2, g1, g2]
          · by_cases g2 : gR σ 1 5 r = 0
            · simp [e1, e2, g1, g2]
            · simp [e1, e2, g1, g2]
        have taken : ah σ i r → w_X8_next_l4 X post px f (some (A.1 8 0)) (nI i) (nI (i + 1)) (hp A σ') = post (nI (nx σ (gL σ 1)) - 1) (hp A σ') := fun hah => by
          rw [nx_t ⟨e, Or.inr (by rw [h]; exact hah)⟩, nI_pred] at ih'
          exact ih'
        have left : ¬ ah σ i r → w_X8_next_l4 X post px f (some (A.1 8 0)) (nI r) (nI (i + 1)) (hp A σ') = post (nI (nx σ (gL σ 1)) - 1) (hp A σ') := fun hah => by
          rw [nx_f (fun z => z.2.elim (fun y => by rw [h] at y; cases y) (fun y => hah (by rw [h] at y; exact y))), h, nI_pred] at ih'
          exact ih'
        rw [nI_pred]
        by_cases f1 : gV σ 113 i 0 = -1
        · by_cases f2 : gV σ 113 r 0 = -1
          · by_cases f3 : gV σ 115 r 0 ≤ gV σ 115 i 0
            · simp (config := { maxSteps := 1000000 }) only [if_pos f1, if_pos f2, if_pos f3, hrm, ↓w_X8_next_b38.eq_1, ↓w_X8_next_b58.eq_1, ↓w_X8_next_b74.eq_1, ↓w_X8_next_b96.eq_1, ↓w_X8_next_b92.eq_1, ↓w_X8_next_b97.eq_1, ↓w_X8_next_b109.eq_1, ↓w_X8_next_b110.eq_1, true_and, and_true, if_true, if_false, reduceIte, and_self, false_and, and_false, or_false, false_or, true_or, or_true, not_true_eq_false, not_false_eq_true, ne_eq, reduceCtorEq, Nat.reduceLT, Nat.reduceEqDiff, Nat.reduceLeDiff, Nat.reduceAdd, eq_self, ii_0_1, ii_0_2, ii_0_3, ii_0_4, ii_1_0, ii_1_2, ii_1_3, ii_1_4, il_1, ii_2_0, ii_2_1, ii_2_3, ii_2_4, il_2, ii_3_0, ii_3_1, ii_3_2, ii_3_4, il_3, ii_4_0, ii_4_1, ii_4_2, ii_4_3, il_4, il_0, ie_0_1, ie_0_2, ie_0_3, ie_0_4, ie_0_5, ie_1_0, ie_1_2, ie_1_3, ie_1_4, ie_1_5, ie_2_0, ie_2_1, ie_2_3, ie_2_4, ie_2_5, ie_3_0, ie_3_1, ie_3_2, ie_3_4, ie_3_5, ie_4_0, ie_4_1, ie_4_2, ie_4_3, ie_4_5, ie_5_0, ie_5_1, ie_5_2, ie_5_3, ie_5_4, ↓e_Is', ↓e_GetI, ↓e_GetF, ↓e_PutI, ↓e_PutF, ↓e_PutR, ↓e_Ald, ↓e_Ast, ↓e_Aldq, ↓e_AldJ, ↓e_AstJ, ↓e_AldD, ↓e_AstD, gL_sV, gV_sV, gR_sV, gN_sV, gJ_sV, gD_sV, gL_sR, gV_sR, gR_sR, gN_sR, gJ_sR, gD_sR, gL_sJ, gV_sJ, gR_sJ, gN_sJ, gJ_sJ, gL_sD, gV_sD, gR_sD, gN_sD, gD_sD, hr_0, hr_s, WF_sV, WF_sJ, WF_sD, gL_sF, gV_sF, gR_sF, gN_sF, gL_sG, gV_sG, gR_sG, gN_sG, WF_sF, ↓eR_1_2, ↓eR_1_5, ↓eR_1_6, ↓eR_2_3, ↓eR_3_2, ↓eR_4_1, ↓eR_6_0, ↓eR_8_34, ↓eR_9_0, ↓eR_20_0, ↓eR_22_0, sL_7, sL_8, sL_60, sL_61, sN_60, sN_61, ↓s7_0, ↓s7_1, ↓s7_2, ↓s7_3, ↓s7_4, ↓s7_5, ↓s7_6, sL_100, ↓s8_0, sN_100, sL_101, ↓s8_1, sN_101, sL_102, ↓s8_2, sN_102, sL_103, ↓s8_3, sN_103, sL_104, ↓s8_4, sN_104, sL_105, ↓s8_5, sN_105, sL_107, ↓s8_7, sN_107, sL_108, ↓s8_8, sN_108, sL_109, ↓s8_9, sN_109, sL_110, ↓s8_10, sN_110, sL_111, ↓s8_11, sN_111, sL_112, ↓s8_12, sN_112, sL_113, ↓s8_13, sN_113, sL_114, ↓s8_14, sN_114, sL_115, ↓s8_15, sN_115, sL_116, ↓s8_16, sN_116, sL_117, ↓s8_17, sN_117, sL_118, ↓s8_18, sN_118, sL_119, ↓s8_19, sN_119, sL_120, ↓s8_20, sN_120, sL_127, ↓s8_27, sN_127, sL_128, ↓s8_28, sN_128, sL_129, ↓s8_29, sN_129, sL_130, ↓s8_30, sN_130, sL_132, ↓s8_32, sN_132, P0_sV, P0_sJ, P0_sD, hcl_1, hok_1_0, hok_1_1, hok_1_2, hok_1_3, hok_1_4, hok_1_5, hok_1_6, hok_1_7, hok_1_8, hok_1_9, hok_1_10, hok_1_11, hok_1_12, hok_1_13, hok_1_14, hok_1_15, hcl_2, hok_2_0, hok_2_1, hok_2_2, hok_2_3, hok_2_4, hok_2_5, hcl_3, hok_3_0, hok_3_1, hok_3_2, hcl_4, hok_4_0, hok_4_1, hok_4_2, hok_4_3, hcl_5, hok_5_0, hok_5_1, hok_5_2, hcl_6, hok_6_0, hok_6_1, hcl_7, hok_7_0, hok_7_1, hok_7_2, hok_7_3, hok_7_4, hok_7_5, hok_7_6, hok_7_7, hok_7_8, hok_7_9, hok_7_10, hok_7_11, hok_7_12, hcl_8, hok_8_0, hok_8_1, hok_8_2, hok_8_3, hok_8_4, hok_8_5, hok_8_6, hok_8_7, hok_8_8, hok_8_9, hok_8_10, hok_8_11, hok_8_12, hok_8_13, hok_8_14, hok_8_15, hok_8_16, hok_8_17, hok_8_18, hok_8_19, hok_8_20, hok_8_21, hok_8_22, hok_8_23, hok_8_24, hok_8_25, hok_8_26, hok_8_27, hok_8_28, hok_8_29, hok_8_30, hok_8_31, hok_8_32, hok_8_33, hok_8_34, hok_8_35, hok_8_36, hcl_9, hok_9_0, hok_9_1, hok_9_2, hok_9_3, hcl_20, hok_20_0, hok_20_1, hcl_22, hok_22_0, hok_22_1, hcl_30, hok_30_0, hok_30_1, hok_30_2, hcl_31, hok_31_0, hok_31_1, hok_31_2, hcl_32, hok_32_0, hok_32_1, hok_32_2, hcl_33, hok_33_0, hok_33_1, hok_33_2, hak_16, hak_21, hak_23, hak_40, hak_41, hak_42, hak_43, hak_50, hak_60, hak_61, hak_205, hak_227, hak_100, hak_101, hak_102, hak_103, hak_104, hak_105, hak_107, hak_108, hak_109, hak_110, hak_111, hak_112, hak_113, hak_114, hak_115, hak_116, hak_117, hak_118, hak_119, hak_120, hak_127, hak_128, hak_129, hak_130, hak_132, ↓eL_16, ↓eL_21, ↓eL_23, ↓eL_50, W, Q, nI_1, hiv, hic, hrv, hrc, h113, h115]
              exact left (fun z => by rw [key] at z; simp only [f1, f2, if_true] at z; exact le_lt.mp f3 z)
            · simp (config := { maxSteps := 1000000 }) only [if_pos f1, if_pos f2, if_neg f3, hrm, ↓w_X8_next_b38.eq_1, ↓w_X8_next_b58.eq_1, ↓w_X8_next_b74.eq_1, ↓w_X8_next_b96.eq_1, ↓w_X8_next_b92.eq_1, ↓w_X8_next_b97.eq_1, ↓w_X8_next_b109.eq_1, ↓w_X8_next_b110.eq_1, true_and, and_true, if_true, if_false, reduceIte, and_self, false_and, and_false, or_false, false_or, true_or, or_true, not_true_eq_false, not_false_eq_true, ne_eq, reduceCtorEq, Nat.reduceLT, Nat.reduceEqDiff, Nat.reduceLeDiff, Nat.reduceAdd, eq_self, ii_0_1, ii_0_2, ii_0_3, ii_0_4, ii_1_0, ii_1_2, ii_1_3, ii_1_4, il_1, ii_2_0, ii_2_1, ii_2_3, ii_2_4, il_2, ii_3_0, ii_3_1, ii_3_2, ii_3_4, il_3, ii_4_0, ii_4_1, ii_4_2, ii_4_3, il_4, il_0, ie_0_1, ie_0_2, ie_0_3, ie_0_4, ie_0_5, ie_1_0, ie_1_2, ie_1_3, ie_1_4, ie_1_5, ie_2_0, ie_2_1, ie_2_3, ie_2_4, ie_2_5, ie_3_0, ie_3_1, ie_3_2, ie_3_4, ie_3_5, ie_4_0, ie_4_1, ie_4_2, ie_4_3, ie_4_5, ie_5_0, ie_5_1, ie_5_2, ie_5_3, ie_5_4, ↓e_Is', ↓e_GetI, ↓e_GetF, ↓e_PutI, ↓e_PutF, ↓e_PutR, ↓e_Ald, ↓e_Ast, ↓e_Aldq, ↓e_AldJ, ↓e_AstJ, ↓e_AldD, ↓e_AstD, gL_sV, gV_sV, gR_sV, gN_sV, gJ_sV, gD_sV, gL_sR, gV_sR, gR_sR, gN_sR, gJ_sR, gD_sR, gL_sJ, gV_sJ, gR_sJ, gN_sJ, gJ_sJ, gL_sD, gV_sD, gR_sD, gN_sD, gD_sD, hr_0, hr_s, WF_sV, WF_sJ, WF_sD, gL_sF, gV_sF, gR_sF, gN_sF, gL_sG, gV_sG, gR_sG, gN_sG, WF_sF, ↓eR_1_2, ↓eR_1_5, ↓eR_1_6, ↓eR_2_3, ↓eR_3_2, ↓eR_4_1, ↓eR_6_0, ↓eR_8_34, ↓eR_9_0, ↓eR_20_0, ↓eR_22_0, sL_7, sL_8, sL_60, sL_61, sN_60, sN_61, ↓s7_0, ↓s7_1, ↓s7_2, ↓s7_3, ↓s7_4, ↓s7_5, ↓s7_6, sL_100, ↓s8_0, sN_100, sL_101, ↓s8_1, sN_101, sL_102, ↓s8_2, sN_102, sL_103, ↓s8_3, sN_103, sL_104, ↓s8_4, sN_104, sL_105, ↓s8_5, sN_105, sL_107, ↓s8_7, sN_107, sL_108, ↓s8_8, sN_108, sL_109, ↓s8_9, sN_109, sL_110, ↓s8_10, sN_110, sL_111, ↓s8_11, sN_111, sL_112, ↓s8_12, sN_112, sL_113, ↓s8_13, sN_113, sL_114, ↓s8_14, sN_114, sL_115, ↓s8_15, sN_115, sL_116, ↓s8_16, sN_116, sL_117, ↓s8_17, sN_117, sL_118, ↓s8_18, sN_118, sL_119, ↓s8_19, sN_119, sL_120, ↓s8_20, sN_120, sL_127, ↓s8_27, sN_127, sL_128, ↓s8_28, sN_128, sL_129, ↓s8_29, sN_129, sL_130, ↓s8_30, sN_130, sL_132, ↓s8_32, sN_132, P0_sV, P0_sJ, P0_sD, hcl_1, hok_1_0, hok_1_1, hok_1_2, hok_1_3, hok_1_4, hok_1_5, hok_1_6, hok_1_7, hok_1_8, hok_1_9, hok_1_10, hok_1_11, hok_1_12, hok_1_13, hok_1_14, hok_1_15, hcl_2, hok_2_0, hok_2_1, hok_2_2, hok_2_3, hok_2_4, hok_2_5, hcl_3, hok_3_0, hok_3_1, hok_3_2, hcl_4, hok_4_0, hok_4_1, hok_4_2, hok_4_3, hcl_5, hok_5_0, hok_5_1, hok_5_2, hcl_6, hok_6_0, hok_6_1, hcl_7, hok_7_0, hok_7_1, hok_7_2, hok_7_3, hok_7_4, hok_7_5, hok_7_6, hok_7_7, hok_7_8, hok_7_9, hok_7_10, hok_7_11, hok_7_12, hcl_8, hok_8_0, hok_8_1, hok_8_2, hok_8_3, hok_8_4, hok_8_5, hok_8_6, hok_8_7, hok_8_8, hok_8_9, hok_8_10, hok_8_11, hok_8_12, hok_8_13, hok_8_14, hok_8_15, hok_8_16, hok_8_17, hok_8_18, hok_8_19, hok_8_20, hok_8_21, hok_8_22, hok_8_23, hok_8_24, hok_8_25, hok_8_26, hok_8_27, hok_8_28, hok_8_29, hok_8_30, hok_8_31, hok_8_32, hok_8_33, hok_8_34, hok_8_35, hok_8_36, hcl_9, hok_9_0, hok_9_1, hok_9_2, hok_9_3, hcl_20, hok_20_0, hok_20_1, hcl_22, hok_22_0, hok_22_1, hcl_30, hok_30_0, hok_30_1, hok_30_2, hcl_31, hok_31_0, hok_31_1, hok_31_2, hcl_32, hok_32_0, hok_32_1, hok_32_2, hcl_33, hok_33_0, hok_33_1, hok_33_2, hak_16, hak_21, hak_23, hak_40, hak_41, hak_42, hak_43, hak_50, hak_60, hak_61, hak_205, hak_227, hak_100, hak_101, hak_102, hak_103, hak_104, hak_105, hak_107, hak_108, hak_109, hak_110, hak_111, hak_112, hak_113, hak_114, hak_115, hak_116, hak_117, hak_118, hak_119, hak_120, hak_127, hak_128, hak_129, hak_130, hak_132, ↓eL_16, ↓eL_21, ↓eL_23, ↓eL_50, W, Q, nI_1, hiv, hic, hrv, hrc, h113, h115]
              exact taken (by rw [key]; simp only [f1, f2, if_true]; exact Classical.byContradiction (fun z => f3 (le_lt.mpr z)))
          · simp (config := { maxSteps := 1000000 }) only [if_pos f1, if_neg f2, hrm, ↓w_X8_next_b38.eq_1, ↓w_X8_next_b58.eq_1, ↓w_X8_next_b74.eq_1, ↓w_X8_next_b96.eq_1, ↓w_X8_next_b92.eq_1, ↓w_X8_next_b97.eq_1, ↓w_X8_next_b109.eq_1, ↓w_X8_next_b110.eq_1, true_and, and_true, if_true, if_false, reduceIte, and_self, false_and, and_false, or_false, false_or, true_or, or_true, not_true_eq_false, not_false_eq_true, ne_eq, reduceCtorEq, Nat.reduceLT, Nat.reduceEqDiff, Nat.reduceLeDiff, Nat.reduceAdd, eq_self, ii_0_1, ii_0_2, ii_0_3, ii_0_4, ii_1_0, ii_1_2, ii_1_3, ii_1_4, il_1, ii_2_0, ii_2_1, ii_2_3, ii_2_4, il_2, ii_3_0, ii_3_1, ii_3_2, ii_3_4, il_3, ii_4_0, ii_4_1, ii_4_2, ii_4_3, il_4, il_0, ie_0_1, ie_0_2, ie_0_3, ie_0_4, ie_0_5, ie_1_0, ie_1_2, ie_1_3, ie_1_4, ie_1_5, ie_2_0, ie_2_1, ie_2_3, ie_2_4, ie_2_5, ie_3_0, ie_3_1, ie_3_2, ie_3_4, ie_3_5, ie_4_0, ie_4_1, ie_4_2, ie_4_3, ie_4_5, ie_5_0, ie_5_1, ie_5_2, ie_5_3, ie_5_4, ↓e_Is', ↓e_GetI, ↓e_GetF, ↓e_PutI, ↓e_PutF, ↓e_PutR, ↓e_Ald, ↓e_Ast, ↓e_Aldq, ↓e_AldJ, ↓e_AstJ, ↓e_AldD, ↓e_AstD, gL_sV, gV_sV, gR_sV, gN_sV, gJ_sV, gD_sV, gL_sR, gV_sR, gR_sR, gN_sR, gJ_sR, gD_sR, gL_sJ, gV_sJ, gR_sJ, gN_sJ, gJ_sJ, gL_sD, gV_sD, gR_sD, gN_sD, gD_sD, hr_0, hr_s, WF_sV, WF_sJ, WF_sD, gL_sF, gV_sF, gR_sF, gN_sF, gL_sG, gV_sG, gR_sG, gN_sG, WF_sF, ↓eR_1_2, ↓eR_1_5, ↓eR_1_6, ↓eR_2_3, ↓eR_3_2, ↓eR_4_1, ↓eR_6_0, ↓eR_8_34, ↓eR_9_0, ↓eR_20_0, ↓eR_22_0, sL_7, sL_8, sL_60, sL_61, sN_60, sN_61, ↓s7_0, ↓s7_1, ↓s7_2, ↓s7_3, ↓s7_4, ↓s7_5, ↓s7_6, sL_100, ↓s8_0, sN_100, sL_101, ↓s8_1, sN_101, sL_102, ↓s8_2, sN_102, sL_103, ↓s8_3, sN_103, sL_104, ↓s8_4, sN_104, sL_105, ↓s8_5, sN_105, sL_107, ↓s8_7, sN_107, sL_108, ↓s8_8, sN_108, sL_109, ↓s8_9, sN_109, sL_110, ↓s8_10, sN_110, sL_111, ↓s8_11, sN_111, sL_112, ↓s8_12, sN_112, sL_113, ↓s8_13, sN_113, sL_114, ↓s8_14, sN_114, sL_115, ↓s8_15, sN_115, sL_116, ↓s8_16, sN_116, sL_117, ↓s8_17, sN_117, sL_118, ↓s8_18, sN_118, sL_119, ↓s8_19, sN_119, sL_120, ↓s8_20, sN_120, sL_127, ↓s8_27, sN_127, sL_128, ↓s8_28, sN_128, sL_129, ↓s8_29, sN_129, sL_130, ↓s8_30, sN_130, sL_132, ↓s8_32, sN_132, P0_sV, P0_sJ, P0_sD, hcl_1, hok_1_0, hok_1_1, hok_1_2, hok_1_3, hok_1_4, hok_1_5, hok_1_6, hok_1_7, hok_1_8, hok_1_9, hok_1_10, hok_1_11, hok_1_12, hok_1_13, hok_1_14, hok_1_15, hcl_2, hok_2_0, hok_2_1, hok_2_2, hok_2_3, hok_2_4, hok_2_5, hcl_3, hok_3_0, hok_3_1, hok_3_2, hcl_4, hok_4_0, hok_4_1, hok_4_2, hok_4_3, hcl_5, hok_5_0, hok_5_1, hok_5_2, hcl_6, hok_6_0, hok_6_1, hcl_7, hok_7_0, hok_7_1, hok_7_2, hok_7_3, hok_7_4, hok_7_5, hok_7_6, hok_7_7, hok_7_8, hok_7_9, hok_7_10, hok_7_11, hok_7_12, hcl_8, hok_8_0, hok_8_1, hok_8_2, hok_8_3, hok_8_4, hok_8_5, hok_8_6, hok_8_7, hok_8_8, hok_8_9, hok_8_10, hok_8_11, hok_8_12, hok_8_13, hok_8_14, hok_8_15, hok_8_16, hok_8_17, hok_8_18, hok_8_19, hok_8_20, hok_8_21, hok_8_22, hok_8_23, hok_8_24, hok_8_25, hok_8_26, hok_8_27, hok_8_28, hok_8_29, hok_8_30, hok_8_31, hok_8_32, hok_8_33, hok_8_34, hok_8_35, hok_8_36, hcl_9, hok_9_0, hok_9_1, hok_9_2, hok_9_3, hcl_20, hok_20_0, hok_20_1, hcl_22, hok_22_0, hok_22_1, hcl_30, hok_30_0, hok_30_1, hok_30_2, hcl_31, hok_31_0, hok_31_1, hok_31_2, hcl_32, hok_32_0, hok_32_1, hok_32_2, hcl_33, hok_33_0, hok_33_1, hok_33_2, hak_16, hak_21, hak_23, hak_40, hak_41, hak_42, hak_43, hak_50, hak_60, hak_61, hak_205, hak_227, hak_100, hak_101, hak_102, hak_103, hak_104, hak_105, hak_107, hak_108, hak_109, hak_110, hak_111, hak_112, hak_113, hak_114, hak_115, hak_116, hak_117, hak_118, hak_119, hak_120, hak_127, hak_128, hak_129, hak_130, hak_132, ↓eL_16, ↓eL_21, ↓eL_23, ↓eL_50, W, Q, nI_1, hiv, hic, hrv, hrc, h113, h115]
            exact left (fun z => by rw [key] at z; simp [f1, f2] at z)
        · by_cases f2 : gV σ 113 r 0 = -1
          · simp (config := { maxSteps := 1000000 }) only [if_neg f1, if_pos f2, hrm, ↓w_X8_next_b38.eq_1, ↓w_X8_next_b58.eq_1, ↓w_X8_next_b74.eq_1, ↓w_X8_next_b96.eq_1, ↓w_X8_next_b92.eq_1, ↓w_X8_next_b97.eq_1, ↓w_X8_next_b109.eq_1, ↓w_X8_next_b110.eq_1, true_and, and_true, if_true, if_false, reduceIte, and_self, false_and, and_false, or_false, false_or, true_or, or_true, not_true_eq_false, not_false_eq_true, ne_eq, reduceCtorEq, Nat.reduceLT, Nat.reduceEqDiff, Nat.reduceLeDiff, Nat.reduceAdd, eq_self, ii_0_1, ii_0_2, ii_0_3, ii_0_4, ii_1_0, ii_1_2, ii_1_3, ii_1_4, il_1, ii_2_0, ii_2_1, ii_2_3, ii_2_4, il_2, ii_3_0, ii_3_1, ii_3_2, ii_3_4, il_3, ii_4_0, ii_4_1, ii_4_2, ii_4_3, il_4, il_0, ie_0_1, ie_0_2, ie_0_3, ie_0_4, ie_0_5, ie_1_0, ie_1_2, ie_1_3, ie_1_4, ie_1_5, ie_2_0, ie_2_1, ie_2_3, ie_2_4, ie_2_5, ie_3_0, ie_3_1, ie_3_2, ie_3_4, ie_3_5, ie_4_0, ie_4_1, ie_4_2, ie_4_3, ie_4_5, ie_5_0, ie_5_1, ie_5_2, ie_5_3, ie_5_4, ↓e_Is', ↓e_GetI, ↓e_GetF, ↓e_PutI, ↓e_PutF, ↓e_PutR, ↓e_Ald, ↓e_Ast, ↓e_Aldq, ↓e_AldJ, ↓e_AstJ, ↓e_AldD, ↓e_AstD, gL_sV, gV_sV, gR_sV, gN_sV, gJ_sV, gD_sV, gL_sR, gV_sR, gR_sR, gN_sR, gJ_sR, gD_sR, gL_sJ, gV_sJ, gR_sJ, gN_sJ, gJ_sJ, gL_sD, gV_sD, gR_sD, gN_sD, gD_sD, hr_0, hr_s, WF_sV, WF_sJ, WF_sD, gL_sF, gV_sF, gR_sF, gN_sF, gL_sG, gV_sG, gR_sG, gN_sG, WF_sF, ↓eR_1_2, ↓eR_1_5, ↓eR_1_6, ↓eR_2_3, ↓eR_3_2, ↓eR_4_1, ↓eR_6_0, ↓eR_8_34, ↓eR_9_0, ↓eR_20_0, ↓eR_22_0, sL_7, sL_8, sL_60, sL_61, sN_60, sN_61, ↓s7_0, ↓s7_1, ↓s7_2, ↓s7_3, ↓s7_4, ↓s7_5, ↓s7_6, sL_100, ↓s8_0, sN_100, sL_101, ↓s8_1, sN_101, sL_102, ↓s8_2, sN_102, sL_103, ↓s8_3, sN_103, sL_104, ↓s8_4, sN_104, sL_105, ↓s8_5, sN_105, sL_107, ↓s8_7, sN_107, sL_108, ↓s8_8, sN_108, sL_109, ↓s8_9, sN_109, sL_110, ↓s8_10, sN_110, sL_111, ↓s8_11, sN_111, sL_112, ↓s8_12, sN_112, sL_113, ↓s8_13, sN_113, sL_114, ↓s8_14, sN_114, sL_115, ↓s8_15, sN_115, sL_116, ↓s8_16, sN_116, sL_117, ↓s8_17, sN_117, sL_118, ↓s8_18, sN_118, sL_119, ↓s8_19, sN_119, sL_120, ↓s8_20, sN_120, sL_127, ↓s8_27, sN_127, sL_128, ↓s8_28, sN_128, sL_129, ↓s8_29, sN_129, sL_130, ↓s8_30, sN_130, sL_132, ↓s8_32, sN_132, P0_sV, P0_sJ, P0_sD, hcl_1, hok_1_0, hok_1_1, hok_1_2, hok_1_3, hok_1_4, hok_1_5, hok_1_6, hok_1_7, hok_1_8, hok_1_9, hok_1_10, hok_1_11, hok_1_12, hok_1_13, hok_1_14, hok_1_15, hcl_2, hok_2_0, hok_2_1, hok_2_2, hok_2_3, hok_2_4, hok_2_5, hcl_3, hok_3_0, hok_3_1, hok_3_2, hcl_4, hok_4_0, hok_4_1, hok_4_2, hok_4_3, hcl_5, hok_5_0, hok_5_1, hok_5_2, hcl_6, hok_6_0, hok_6_1, hcl_7, hok_7_0, hok_7_1, hok_7_2, hok_7_3, hok_7_4, hok_7_5, hok_7_6, hok_7_7, hok_7_8, hok_7_9, hok_7_10, hok_7_11, hok_7_12, hcl_8, hok_8_0, hok_8_1, hok_8_2, hok_8_3, hok_8_4, hok_8_5, hok_8_6, hok_8_7, hok_8_8, hok_8_9, hok_8_10, hok_8_11, hok_8_12, hok_8_13, hok_8_14, hok_8_15, hok_8_16, hok_8_17, hok_8_18, hok_8_19, hok_8_20, hok_8_21, hok_8_22, hok_8_23, hok_8_24, hok_8_25, hok_8_26, hok_8_27, hok_8_28, hok_8_29, hok_8_30, hok_8_31, hok_8_32, hok_8_33, hok_8_34, hok_8_35, hok_8_36, hcl_9, hok_9_0, hok_9_1, hok_9_2, hok_9_3, hcl_20, hok_20_0, hok_20_1, hcl_22, hok_22_0, hok_22_1, hcl_30, hok_30_0, hok_30_1, hok_30_2, hcl_31, hok_31_0, hok_31_1, hok_31_2, hcl_32, hok_32_0, hok_32_1, hok_32_2, hcl_33, hok_33_0, hok_33_1, hok_33_2, hak_16, hak_21, hak_23, hak_40, hak_41, hak_42, hak_43, hak_50, hak_60, hak_61, hak_205, hak_227, hak_100, hak_101, hak_102, hak_103, hak_104, hak_105, hak_107, hak_108, hak_109, hak_110, hak_111, hak_112, hak_113, hak_114, hak_115, hak_116, hak_117, hak_118, hak_119, hak_120, hak_127, hak_128, hak_129, hak_130, hak_132, ↓eL_16, ↓eL_21, ↓eL_23, ↓eL_50, W, Q, nI_1, hiv, hic, hrv, hrc, h113, h115]
            exact taken (by rw [key]; simp [f1, f2])
          · by_cases f3 : gV σ 115 r 0 ≤ gV σ 115 i 0
            · simp (config := { maxSteps := 1000000 }) only [if_neg f1, if_neg f2, if_pos f3, hrm, ↓w_X8_next_b38.eq_1, ↓w_X8_next_b58.eq_1, ↓w_X8_next_b74.eq_1, ↓w_X8_next_b96.eq_1, ↓w_X8_next_b92.eq_1, ↓w_X8_next_b97.eq_1, ↓w_X8_next_b109.eq_1, ↓w_X8_next_b110.eq_1, true_and, and_true, if_true, if_false, reduceIte, and_self, false_and, and_false, or_false, false_or, true_or, or_true, not_true_eq_false, not_false_eq_true, ne_eq, reduceCtorEq, Nat.reduceLT, Nat.reduceEqDiff, Nat.reduceLeDiff, Nat.reduceAdd, eq_self, ii_0_1, ii_0_2, ii_0_3, ii_0_4, ii_1_0, ii_1_2, ii_1_3, ii_1_4, il_1, ii_2_0, ii_2_1, ii_2_3, ii_2_4, il_2, ii_3_0, ii_3_1, ii_3_2, ii_3_4, il_3, ii_4_0, ii_4_1, ii_4_2, ii_4_3, il_4, il_0, ie_0_1, ie_0_2, ie_0_3, ie_0_4, ie_0_5, ie_1_0, ie_1_2, ie_1_3, ie_1_4, ie_1_5, ie_2_0, ie_2_1, ie_2_3, ie_2_4, ie_2_5, ie_3_0, ie_3_1, ie_3_2, ie_3_4, ie_3_5, ie_4_0, ie_4_1, ie_4_2, ie_4_3, ie_4_5, ie_5_0, ie_5_1, ie_5_2, ie_5_3, ie_5_4, ↓e_Is', ↓e_GetI, ↓e_GetF, ↓e_PutI, ↓e_PutF, ↓e_PutR, ↓e_Ald, ↓e_Ast, ↓e_Aldq, ↓e_AldJ, ↓e_AstJ, ↓e_AldD, ↓e_AstD, gL_sV, gV_sV, gR_sV, gN_sV, gJ_sV, gD_sV, gL_sR, gV_sR, gR_sR, gN_sR, gJ_sR, gD_sR, gL_sJ, gV_sJ, gR_sJ, gN_sJ, gJ_sJ, gL_sD, gV_sD, gR_sD, gN_sD, gD_sD, hr_0, hr_s, WF_sV, WF_sJ, WF_sD, gL_sF, gV_sF, gR_sF, gN_sF, gL_sG, gV_sG, gR_sG, gN_sG, WF_sF, ↓eR_1_2, ↓eR_1_5, ↓eR_1_6, ↓eR_2_3, ↓eR_3_2, ↓eR_4_1, ↓eR_6_0, ↓eR_8_34, ↓eR_9_0, ↓eR_20_0, ↓eR_22_0, sL_7, sL_8, sL_60, sL_61, sN_60, sN_61, ↓s7_0, ↓s7_1, ↓s7_2, ↓s7_3, ↓s7_4, ↓s7_5, ↓s7_6, sL_100, ↓s8_0, sN_100, sL_101, ↓s8_1, sN_101, sL_102, ↓s8_2, sN_102, sL_103, ↓s8_3, sN_103, sL_104, ↓s8_4, sN_104, sL_105, ↓s8_5, sN_105, sL_107, ↓s8_7, sN_107, sL_108, ↓s8_8, sN_108, sL_109, ↓s8_9, sN_109, sL_110, ↓s8_10, sN_110, sL_111, ↓s8_11, sN_111, sL_112, ↓s8_12, sN_112, sL_113, ↓s8_13, sN_113, sL_114, ↓s8_14, sN_114, sL_115, ↓s8_15, sN_115, sL_116, ↓s8_16, sN_116, sL_117, ↓s8_17, sN_117, sL_118, ↓s8_18, sN_118, sL_119, ↓s8_19, sN_119, sL_120, ↓s8_20, sN_120, sL_127, ↓s8_27, sN_127, sL_128, ↓s8_28, sN_128, sL_129, ↓s8_29, sN_129, sL_130, ↓s8_30, sN_130, sL_132, ↓s8_32, sN_132, P0_sV, P0_sJ, P0_sD, hcl_1, hok_1_0, hok_1_1, hok_1_2, hok_1_3, hok_1_4, hok_1_5, hok_1_6, hok_1_7, hok_1_8, hok_1_9, hok_1_10, hok_1_11, hok_1_12, hok_1_13, hok_1_14, hok_1_15, hcl_2, hok_2_0, hok_2_1, hok_2_2, hok_2_3, hok_2_4, hok_2_5, hcl_3, hok_3_0, hok_3_1, hok_3_2, hcl_4, hok_4_0, hok_4_1, hok_4_2, hok_4_3, hcl_5, hok_5_0, hok_5_1, hok_5_2, hcl_6, hok_6_0, hok_6_1, hcl_7, hok_7_0, hok_7_1, hok_7_2, hok_7_3, hok_7_4, hok_7_5, hok_7_6, hok_7_7, hok_7_8, hok_7_9, hok_7_10, hok_7_11, hok_7_12, hcl_8, hok_8_0, hok_8_1, hok_8_2, hok_8_3, hok_8_4, hok_8_5, hok_8_6, hok_8_7, hok_8_8, hok_8_9, hok_8_10, hok_8_11, hok_8_12, hok_8_13, hok_8_14, hok_8_15, hok_8_16, hok_8_17, hok_8_18, hok_8_19, hok_8_20, hok_8_21, hok_8_22, hok_8_23, hok_8_24, hok_8_25, hok_8_26, hok_8_27, hok_8_28, hok_8_29, hok_8_30, hok_8_31, hok_8_32, hok_8_33, hok_8_34, hok_8_35, hok_8_36, hcl_9, hok_9_0, hok_9_1, hok_9_2, hok_9_3, hcl_20, hok_20_0, hok_20_1, hcl_22, hok_22_0, hok_22_1, hcl_30, hok_30_0, hok_30_1, hok_30_2, hcl_31, hok_31_0, hok_31_1, hok_31_2, hcl_32, hok_32_0, hok_32_1, hok_32_2, hcl_33, hok_33_0, hok_33_1, hok_33_2, hak_16, hak_21, hak_23, hak_40, hak_41, hak_42, hak_43, hak_50, hak_60, hak_61, hak_205, hak_227, hak_100, hak_101, hak_102, hak_103, hak_104, hak_105, hak_107, hak_108, hak_109, hak_110, hak_111, hak_112, hak_113, hak_114, hak_115, hak_116, hak_117, hak_118, hak_119, hak_120, hak_127, hak_128, hak_129, hak_130, hak_132, ↓eL_16, ↓eL_21, ↓eL_23, ↓eL_50, W, Q, nI_1, hiv, hic, hrv, hrc, h113, h115]
              exact left (fun z => by rw [key] at z; simp only [f1, f2, if_true] at z; exact le_lt.mp f3 z)
            · simp (config := { maxSteps := 1000000 }) only [if_neg f1, if_neg f2, if_neg f3, hrm, ↓w_X8_next_b38.eq_1, ↓w_X8_next_b58.eq_1, ↓w_X8_next_b74.eq_1, ↓w_X8_next_b96.eq_1, ↓w_X8_next_b92.eq_1, ↓w_X8_next_b97.eq_1, ↓w_X8_next_b109.eq_1, ↓w_X8_next_b110.eq_1, true_and, and_true, if_true, if_false, reduceIte, and_self, false_and, and_false, or_false, false_or, true_or, or_true, not_true_eq_false, not_false_eq_true, ne_eq, reduceCtorEq, Nat.reduceLT, Nat.reduceEqDiff, Nat.reduceLeDiff, Nat.reduceAdd, eq_self, ii_0_1, ii_0_2, ii_0_3, ii_0_4, ii_1_0, ii_1_2, ii_1_3, ii_1_4, il_1, ii_2_0, ii_2_1, ii_2_3, ii_2_4, il_2, ii_3_0, ii_3_1, ii_3_2, ii_3_4, il_3, ii_4_0, ii_4_1, ii_4_2, ii_4_3, il_4, il_0, ie_0_1, ie_0_2, ie_0_3, ie_0_4, ie_0_5, ie_1_0, ie_1_2, ie_1_3, ie_1_4, ie_1_5, ie_2_0, ie_2_1, ie_2_3, ie_2_4, ie_2_5, ie_3_0, ie_3_1, ie_3_2, ie_3_4, ie_3_5, ie_4_0, ie_4_1, ie_4_2, ie_4_3, ie_4_5, ie_5_0, ie_5_1, ie_5_2, ie_5_3, ie_5_4, ↓e_Is', ↓e_GetI, ↓e_GetF, ↓e_PutI, ↓e_PutF, ↓e_PutR, ↓e_Ald, ↓e_Ast, ↓e_Aldq, ↓e_AldJ, ↓e_AstJ, ↓e_AldD, ↓e_AstD, gL_sV, gV_sV, gR_sV, gN_sV, gJ_sV, gD_sV, gL_sR, gV_sR, gR_sR, gN_sR, gJ_sR, gD_sR, gL_sJ, gV_sJ, gR_sJ, gN_sJ, gJ_sJ, gL_sD, gV_sD, gR_sD, gN_sD, gD_sD, hr_0, hr_s, WF_sV, WF_sJ, WF_sD, gL_sF, gV_sF, gR_sF, gN_sF, gL_sG, gV_sG, gR_sG, gN_sG, WF_sF, ↓eR_1_2, ↓eR_1_5, ↓eR_1_6, ↓eR_2_3, ↓eR_3_2, ↓eR_4_1, ↓eR_6_0, ↓eR_8_34, ↓eR_9_0, ↓eR_20_0, ↓eR_22_0, sL_7, sL_8, sL_60, sL_61, sN_60, sN_61, ↓s7_0, ↓s7_1, ↓s7_2, ↓s7_3, ↓s7_4, ↓s7_5, ↓s7_6, sL_100, ↓s8_0, sN_100, sL_101, ↓s8_1, sN_101, sL_102, ↓s8_2, sN_102, sL_103, ↓s8_3, sN_103, sL_104, ↓s8_4, sN_104, sL_105, ↓s8_5, sN_105, sL_107, ↓s8_7, sN_107, sL_108, ↓s8_8, sN_108, sL_109, ↓s8_9, sN_109, sL_110, ↓s8_10, sN_110, sL_111, ↓s8_11, sN_111, sL_112, ↓s8_12, sN_112, sL_113, ↓s8_13, sN_113, sL_114, ↓s8_14, sN_114, sL_115, ↓s8_15, sN_115, sL_116, ↓s8_16, sN_116, sL_117, ↓s8_17, sN_117, sL_118, ↓s8_18, sN_118, sL_119, ↓s8_19, sN_119, sL_120, ↓s8_20, sN_120, sL_127, ↓s8_27, sN_127, sL_128, ↓s8_28, sN_128, sL_129, ↓s8_29, sN_129, sL_130, ↓s8_30, sN_130, sL_132, ↓s8_32, sN_132, P0_sV, P0_sJ, P0_sD, hcl_1, hok_1_0, hok_1_1, hok_1_2, hok_1_3, hok_1_4, hok_1_5, hok_1_6, hok_1_7, hok_1_8, hok_1_9, hok_1_10, hok_1_11, hok_1_12, hok_1_13, hok_1_14, hok_1_15, hcl_2, hok_2_0, hok_2_1, hok_2_2, hok_2_3, hok_2_4, hok_2_5, hcl_3, hok_3_0, hok_3_1, hok_3_2, hcl_4, hok_4_0, hok_4_1, hok_4_2, hok_4_3, hcl_5, hok_5_0, hok_5_1, hok_5_2, hcl_6, hok_6_0, hok_6_1, hcl_7, hok_7_0, hok_7_1, hok_7_2, hok_7_3, hok_7_4, hok_7_5, hok_7_6, hok_7_7, hok_7_8, hok_7_9, hok_7_10, hok_7_11, hok_7_12, hcl_8, hok_8_0, hok_8_1, hok_8_2, hok_8_3, hok_8_4, hok_8_5, hok_8_6, hok_8_7, hok_8_8, hok_8_9, hok_8_10, hok_8_11, hok_8_12, hok_8_13, hok_8_14, hok_8_15, hok_8_16, hok_8_17, hok_8_18, hok_8_19, hok_8_20, hok_8_21, hok_8_22, hok_8_23, hok_8_24, hok_8_25, hok_8_26, hok_8_27, hok_8_28, hok_8_29, hok_8_30, hok_8_31, hok_8_32, hok_8_33, hok_8_34, hok_8_35, hok_8_36, hcl_9, hok_9_0, hok_9_1, hok_9_2, hok_9_3, hcl_20, hok_20_0, hok_20_1, hcl_22, hok_22_0, hok_22_1, hcl_30, hok_30_0, hok_30_1, hok_30_2, hcl_31, hok_31_0, hok_31_1, hok_31_2, hcl_32, hok_32_0, hok_32_1, hok_32_2, hcl_33, hok_33_0, hok_33_1, hok_33_2, hak_16, hak_21, hak_23, hak_40, hak_41, hak_42, hak_43, hak_50, hak_60, hak_61, hak_205, hak_227, hak_100, hak_101, hak_102, hak_103, hak_104, hak_105, hak_107, hak_108, hak_109, hak_110, hak_111, hak_112, hak_113, hak_114, hak_115, hak_116, hak_117, hak_118, hak_119, hak_120, hak_127, hak_128, hak_129, hak_130, hak_132, ↓eL_16, ↓eL_21, ↓eL_23, ↓eL_50, W, Q, nI_1, hiv, hic, hrv, hrc, h113, h115]
              exact taken (by rw [key]; simp only [f1, f2, if_true]; exact Classical.byContradiction (fun z => f3 (le_lt.mpr z)))
    · rw [if_neg e]
      unfold w_X8_next_b110
      rw [nx_f (fun z => e z.1)] at ih'
      rw [nI_1]
      exact ih'
theorem q_nx {σ' : St} {post : Int32 → GM → Prop} (W : WF A σ') (Q : P0 σ') (P : PI σ) (h21 : gV σ' 8 21 0 = nI (gL σ 1)) (h113 : ∀ b, gV σ' 113 b 0 = gV σ 113 b 0) (h114 : ∀ b, gV σ' 114 b 0 = gV σ 114 b 0) (h115 : ∀ b, gV σ' 115 b 0 = gV σ 115 b 0) : w_X8_next X post px (some (A.1 8 0)) (hp A σ') = post (nI (nx σ (gL σ 1)) - 1) (hp A σ') := by
  unfold w_X8_next
  have h10 : gL σ 1 ≤ 10 := P.2.1.2.2.2.2.2.2.2.2.1
  exact q_nxl W Q P h21 h113 h114 h115 (gL σ 1) 3000 0 (by omega) (by omega)
end NX
