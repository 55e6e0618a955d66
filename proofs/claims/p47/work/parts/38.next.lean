/-! the first in review -/
def ah (σ : St) (b c : Nat) : Prop := if (gR σ 1 5 b = 0) = (gR σ 1 5 c = 0) then gV σ 1 9 b < gV σ 1 9 c else ¬ gR σ 1 5 b = 0
noncomputable def nx (σ : St) : Nat → Nat
  | 0 => 0
  | i + 1 => have := Classical.propDecidable (gV σ 1 7 i = 119 ∧ (nx σ i = 0 ∨ ah σ i (nx σ i - 1))); if gV σ 1 7 i = 119 ∧ (nx σ i = 0 ∨ ah σ i (nx σ i - 1)) then i + 1 else nx σ i
theorem nx_t {σ : St} {i : Nat} (h : gV σ 1 7 i = 119 ∧ (nx σ i = 0 ∨ ah σ i (nx σ i - 1))) : nx σ (i + 1) = i + 1 := by
  rw [nx]; exact if_pos h
theorem nx_f {σ : St} {i : Nat} (h : ¬ (gV σ 1 7 i = 119 ∧ (nx σ i = 0 ∨ ah σ i (nx σ i - 1)))) : nx σ (i + 1) = nx σ i := by
  rw [nx]; exact if_neg h
theorem nx_le (σ : St) : ∀ i, nx σ i ≤ i
  | 0 => Nat.le_refl _
  | i + 1 => by
    by_cases h : gV σ 1 7 i = 119 ∧ (nx σ i = 0 ∨ ah σ i (nx σ i - 1))
    · rw [nx_t h]; exact Nat.le_refl _
    · rw [nx_f h]; exact Nat.le_succ_of_le (nx_le σ i)
theorem nx_119 (σ : St) : ∀ i, nx σ i ≠ 0 → gV σ 1 7 (nx σ i - 1) = 119
  | 0 => fun h => absurd rfl h
  | i + 1 => by
    by_cases h : gV σ 1 7 i = 119 ∧ (nx σ i = 0 ∨ ah σ i (nx σ i - 1))
    · rw [nx_t h]; exact fun _ => h.1
    · rw [nx_f h]; exact nx_119 σ i
section NX
variable {A : Ad} {σ : St} {X : Cx} {px : String → GM → Prop}
theorem q_fix {post : Int32 → GM → Prop} {b : Nat} (W : WF A σ) (hb : b < gL σ 1) : w_X1_isFix X post px (some (A.1 1 b)) (hp A σ) = post (if gR σ 1 5 b = 0 then 0 else 1) (hp A σ) := by
  unfold w_X1_isFix w_X1_isFix_b12
  rw [eR_1_5 W hb, p_and nb0, p_and nb1]
  cases h : gR σ 1 5 b with
  | zero => rw [hr_0, if_pos rfl, if_pos rfl]
  | succ r => rw [hr_s, if_neg (by intro z; cases z), if_neg (Nat.succ_ne_zero r)]
theorem q_ah {post : Int32 → GM → Prop} {b c : Nat} (W : WF A σ) (hb : b < gL σ 1) (hc : c < gL σ 1) : (ah σ b c → w_X1_isReviewedAheadOf X post px (some (A.1 1 b)) (some (A.1 1 c)) (hp A σ) = post 1 (hp A σ)) ∧ (¬ ah σ b c → w_X1_isReviewedAheadOf X post px (some (A.1 1 b)) (some (A.1 1 c)) (hp A σ) = post 0 (hp A σ)) := by
  unfold w_X1_isReviewedAheadOf w_X1_isReviewedAheadOf_b34 ah
  rw [e_Is' W hb hcl_1, q_fix W hb, e_Is' W hc hcl_1, q_fix W hc]
  by_cases h1 : gR σ 1 5 b = 0
  · by_cases h2 : gR σ 1 5 c = 0
    · have e : (gR σ 1 5 b = 0) = (gR σ 1 5 c = 0) := propext ⟨fun _ => h2, fun _ => h1⟩
      rw [if_pos e, if_pos h1, if_pos h2, if_pos rfl, e_GetI W hb hok_1_9, e_GetI W hc hok_1_9, p_and nb0, p_and nb1]
      exact ⟨fun h => if_neg (fun z => le_lt.mp z h), fun h => if_pos (le_lt.mpr h)⟩
    · have e : ¬ (gR σ 1 5 b = 0) = (gR σ 1 5 c = 0) := fun z => h2 (z.mp h1)
      rw [if_neg e, if_pos h1, if_neg h2, if_neg (show ¬ (0 : Int32) = 1 by decide), e_Is' W hb hcl_1, q_fix W hb, if_pos h1, p_and nb0]
      exact ⟨fun h => absurd h1 h, fun _ => rfl⟩
  · by_cases h2 : gR σ 1 5 c = 0
    · have e : ¬ (gR σ 1 5 b = 0) = (gR σ 1 5 c = 0) := fun z => h1 (z.mpr h2)
      rw [if_neg e, if_neg h1, if_pos h2, if_neg (show ¬ (1 : Int32) = 0 by decide), e_Is' W hb hcl_1, q_fix W hb, if_neg h1, p_and nb1]
      exact ⟨fun h => rfl, fun h => absurd h1 h⟩
    · have e : (gR σ 1 5 b = 0) = (gR σ 1 5 c = 0) := propext ⟨fun z => absurd z h1, fun z => absurd z h2⟩
      rw [if_pos e, if_neg h1, if_neg h2, if_pos rfl, e_GetI W hb hok_1_9, e_GetI W hc hok_1_9, p_and nb0, p_and nb1]
      exact ⟨fun h => if_neg (fun z => le_lt.mp z h), fun h => if_pos (le_lt.mpr h)⟩
theorem q_fwl {post : Option Nat → GM → Prop} (W : WF A σ) (Q : P0 σ) (hL : Lst σ 32 (gL σ 1)) (h10 : gL σ 1 ≤ 10) : ∀ (k f i : Nat), i + k = gL σ 1 → k < f → w_X7_firstWaiting_l4 X post px f (some (A.1 7 0)) (hr A 1 (nx σ i)) (nI i) (hp A σ) = if nx σ (gL σ 1) = 0 then px "java/lang/IllegalStateException" (hp A σ) else post (some (A.1 1 (nx σ (gL σ 1) - 1))) (hp A σ) := by
  intro k
  induction k with
  | zero =>
    intro f i hi hf
    obtain ⟨f, rfl⟩ : ∃ f', f = f' + 1 := ⟨f - 1, by omega⟩
    rw [w_X7_firstWaiting_l4, s7_2 W Q, e_Is' W hL.1 hcl_32, l_size W (Or.inr (Or.inr (Or.inl rfl))) hL, if_pos (nI_le (by omega) (by omega)), show gL σ 1 = i by omega]
    cases h : nx σ i with
    | zero => rw [hr_0, if_pos rfl, if_pos rfl]
    | succ r => rw [hr_s, if_neg (by intro z; cases z), if_neg (Nat.succ_ne_zero r), Nat.add_sub_cancel]
  | succ k ih =>
    intro f i hi hf
    obtain ⟨f, rfl⟩ : ∃ f', f = f' + 1 := ⟨f - 1, by omega⟩
    have hil : i < gL σ 1 := by omega
    rw [w_X7_firstWaiting_l4, s7_2 W Q, e_Is' W hL.1 hcl_32, l_size W (Or.inr (Or.inr (Or.inl rfl))) hL, if_neg (nI_ge (by omega) (by omega))]
    rw [s7_2 W Q, e_Is' W hL.1 hcl_32, l_get W (Or.inr (Or.inr (Or.inl rfl))) hL hil]
    rw [show hE (32 + 10) = 1 from rfl, e_Is' W hil hcl_1, e_GetI W hil hok_1_7]
    unfold w_X7_firstWaiting_b48 w_X7_firstWaiting_b50
    have ih' := ih f (i + 1) (by omega) (by omega)
    rw [nI_1]
    by_cases e : gV σ 1 7 i = 119
    · rw [if_pos e]
      cases h : nx σ i with
      | zero =>
        rw [hr_0, if_pos rfl]
        rw [nx_t ⟨e, Or.inl h⟩] at ih'
        exact ih'
      | succ r =>
        have hr1 : r < gL σ 1 := by
          have := nx_le σ i
          omega
        rw [hr_s, if_neg (by intro z; cases z), e_Is' W hil hcl_1]
        by_cases hah : ah σ i r
        · rw [(q_ah W hil hr1).1 hah]
          rw [nx_t ⟨e, Or.inr (by rw [h]; exact hah)⟩] at ih'
          exact ih'
        · rw [(q_ah W hil hr1).2 hah]
          rw [nx_f (fun z => z.2.elim (fun y => by rw [h] at y; cases y) (fun y => hah (by rw [h] at y; exact y))), h] at ih'
          exact ih'
    · rw [if_neg e]
      rw [nx_f (fun z => e z.1)] at ih'
      exact ih'
theorem q_fw {post : Option Nat → GM → Prop} (W : WF A σ) (Q : P0 σ) (hL : Lst σ 32 (gL σ 1)) (h10 : gL σ 1 ≤ 10) : w_X7_firstWaiting X post px (some (A.1 7 0)) (hp A σ) = if nx σ (gL σ 1) = 0 then px "java/lang/IllegalStateException" (hp A σ) else post (some (A.1 1 (nx σ (gL σ 1) - 1))) (hp A σ) := by
  unfold w_X7_firstWaiting
  exact q_fwl W Q hL h10 (gL σ 1) 3000 0 (by omega) (by omega)
end NX
