/-! the build that a device is given -/
def cf_nw (σ : St) (d b : Nat) : Int32 := if gR σ 2 3 d = 0 then 1 else if gV σ 1 1 b ≤ gV σ 1 1 (gR σ 2 3 d - 1) then 0 else 1
def cf_ok (σ : St) (d b : Nat) : Prop := cf_nw σ d b = 1 ∧ cu_op σ b d = 1
def cf_ga (σ : St) (b c : Nat) : Prop := if (gR σ 1 5 b = 0) = (gR σ 1 5 c = 0) then ¬ gV σ 1 1 b ≤ gV σ 1 1 c else ¬ gR σ 1 5 b = 0
noncomputable def cf_at (σ : St) (d : Nat) : Nat → Nat
  | 0 => 0
  | i + 1 => have := Classical.propDecidable (cf_ok σ d i ∧ (cf_at σ d i = 0 ∨ cf_ga σ i (cf_at σ d i - 1))); if cf_ok σ d i ∧ (cf_at σ d i = 0 ∨ cf_ga σ i (cf_at σ d i - 1)) then i + 1 else cf_at σ d i
theorem cf_t {σ : St} {d i : Nat} (h : cf_ok σ d i ∧ (cf_at σ d i = 0 ∨ cf_ga σ i (cf_at σ d i - 1))) : cf_at σ d (i + 1) = i + 1 := by
  rw [cf_at]; exact if_pos h
theorem cf_f {σ : St} {d i : Nat} (h : ¬ (cf_ok σ d i ∧ (cf_at σ d i = 0 ∨ cf_ga σ i (cf_at σ d i - 1)))) : cf_at σ d (i + 1) = cf_at σ d i := by
  rw [cf_at]; exact if_neg h
theorem cf_le (σ : St) (d : Nat) : ∀ i, cf_at σ d i ≤ i
  | 0 => Nat.le_refl _
  | i + 1 => by
    by_cases h : cf_ok σ d i ∧ (cf_at σ d i = 0 ∨ cf_ga σ i (cf_at σ d i - 1))
    · rw [cf_t h]; exact Nat.le_refl _
    · rw [cf_f h]; exact Nat.le_succ_of_le (cf_le σ d i)
theorem cf_is (σ : St) (d : Nat) : ∀ i, cf_at σ d i ≠ 0 → cf_ok σ d (cf_at σ d i - 1)
  | 0 => fun h => absurd rfl h
  | i + 1 => by
    by_cases h : cf_ok σ d i ∧ (cf_at σ d i = 0 ∨ cf_ga σ i (cf_at σ d i - 1))
    · rw [cf_t h]; exact fun _ => h.1
    · rw [cf_f h]; exact cf_is σ d i
theorem cf_n01 (σ : St) (d b : Nat) : cf_nw σ d b = 0 ∨ cf_nw σ d b = 1 := by
  unfold cf_nw
  by_cases h : gR σ 2 3 d = 0
  · rw [if_pos h]; exact Or.inr rfl
  · rw [if_neg h]
    by_cases h2 : gV σ 1 1 b ≤ gV σ 1 1 (gR σ 2 3 d - 1)
    · rw [if_pos h2]; exact Or.inl rfl
    · rw [if_neg h2]; exact Or.inr rfl
section CF
variable {A : Ad} {σ σ' : St} {X : Cx} {px : String → GM → Prop} {b c d : Nat}
theorem q_new {post : Int32 → GM → Prop} (W : WF A σ) (hb : b < gL σ 1) (hd : d < gL σ 2) : w_X1_isNewerThan X post px (some (A.1 1 b)) (hr A 1 (gR σ 2 3 d)) (hp A σ) = post (cf_nw σ d b) (hp A σ) := by
  have h2 : gR σ 2 3 d ≤ gL σ 1 := W.2.2 2 3 d hd
  unfold w_X1_isNewerThan w_X1_isNewerThan_b15 w_X1_isNewerThan_b20 cf_nw
  by_cases z : gR σ 2 3 d = 0
  · rw [if_pos z, if_pos (by rw [z]; rfl), p_and nb1]
  · obtain ⟨m, hm⟩ : ∃ m, gR σ 2 3 d = m + 1 := ⟨gR σ 2 3 d - 1, by omega⟩
    rw [if_neg z, if_neg (hr_nn z), hm, hr_s, Nat.add_sub_cancel, e_GetI W hb hok_1_1, e_GetI W (show m < gL σ 1 by omega) hok_1_1]
    by_cases y : gV σ 1 1 b ≤ gV σ 1 1 m
    · rw [if_pos y, if_pos y, p_and nb0]
    · rw [if_neg y, if_neg y, p_and nb1]
theorem q_ga {post : Int32 → GM → Prop} (W : WF A σ) (hb : b < gL σ 1) (hc : c < gL σ 1) : (cf_ga σ b c → w_X1_isGivenAheadOf X post px (some (A.1 1 b)) (some (A.1 1 c)) (hp A σ) = post 1 (hp A σ)) ∧ (¬ cf_ga σ b c → w_X1_isGivenAheadOf X post px (some (A.1 1 b)) (some (A.1 1 c)) (hp A σ) = post 0 (hp A σ)) := by
  unfold w_X1_isGivenAheadOf w_X1_isGivenAheadOf_b34 cf_ga
  rw [e_Is' W hb hcl_1, q_fix W hb, e_Is' W hc hcl_1, q_fix W hc]
  by_cases h1 : gR σ 1 5 b = 0
  · by_cases h2 : gR σ 1 5 c = 0
    · have e : (gR σ 1 5 b = 0) = (gR σ 1 5 c = 0) := propext ⟨fun _ => h2, fun _ => h1⟩
      rw [if_pos e, if_pos h1, if_pos h2, if_pos rfl, e_GetI W hb hok_1_1, e_GetI W hc hok_1_1, p_and nb0, p_and nb1]
      exact ⟨fun h => if_neg h, fun h => if_pos (Classical.byContradiction h)⟩
    · have e : ¬ (gR σ 1 5 b = 0) = (gR σ 1 5 c = 0) := fun z => h2 (z.mp h1)
      rw [if_neg e, if_pos h1, if_neg h2, if_neg (show ¬ (0 : Int32) = 1 by decide), e_Is' W hb hcl_1, q_fix W hb, if_pos h1, p_and nb0]
      exact ⟨fun h => absurd h1 h, fun _ => rfl⟩
  · by_cases h2 : gR σ 1 5 c = 0
    · have e : ¬ (gR σ 1 5 b = 0) = (gR σ 1 5 c = 0) := fun z => h1 (z.mpr h2)
      rw [if_neg e, if_neg h1, if_pos h2, if_neg (show ¬ (1 : Int32) = 0 by decide), e_Is' W hb hcl_1, q_fix W hb, if_neg h1, p_and nb1]
      exact ⟨fun h => rfl, fun h => absurd h1 h⟩
    · have e : (gR σ 1 5 b = 0) = (gR σ 1 5 c = 0) := propext ⟨fun z => absurd z h1, fun z => absurd z h2⟩
      rw [if_pos e, if_neg h1, if_neg h2, if_pos rfl, e_GetI W hb hok_1_1, e_GetI W hc hok_1_1, p_and nb0, p_and nb1]
      exact ⟨fun h => if_neg h, fun h => if_pos (Classical.byContradiction h)⟩
theorem q_cfl {post : Option Nat → GM → Prop} (W : WF A σ) (P : PI σ) (hd : d < gL σ 2) : ∀ (k f i : Nat), i + k = gL σ 1 → k < f → w_X7_choiceFor_l4 X post px f (some (A.1 7 0)) (some (A.1 2 d)) (hr A 1 (cf_at σ d i)) (nI i) (hp A σ) = if cf_at σ d (gL σ 1) = 0 then px "java/lang/IllegalStateException" (hp A σ) else post (some (A.1 1 (cf_at σ d (gL σ 1) - 1))) (hp A σ) := by
  have Q := P.1
  have h10 : gL σ 1 ≤ 10 := P.2.1.2.2.2.2.2.2.2.2.1
  have hL := P.2.2.2.2.2.2.2.2.2.1
  intro k
  induction k with
  | zero =>
    intro f i hi hf
    obtain ⟨f, rfl⟩ : ∃ f', f = f' + 1 := ⟨f - 1, by omega⟩
    rw [w_X7_choiceFor_l4, s7_2 W Q, e_Is' W hL.1 hcl_32, l_size W (Or.inr (Or.inr (Or.inl rfl))) hL, if_pos (nI_le (by omega) (by omega)), show gL σ 1 = i by omega]
    cases h : cf_at σ d i with
    | zero => rw [hr_0, if_pos rfl, if_pos rfl]
    | succ r => rw [hr_s, if_neg (by intro z; cases z), if_neg (Nat.succ_ne_zero r), Nat.add_sub_cancel]
  | succ k ih =>
    intro f i hi hf
    obtain ⟨f, rfl⟩ : ∃ f', f = f' + 1 := ⟨f - 1, by omega⟩
    have hil : i < gL σ 1 := by omega
    rw [w_X7_choiceFor_l4, s7_2 W Q, e_Is' W hL.1 hcl_32, l_size W (Or.inr (Or.inr (Or.inl rfl))) hL, if_neg (nI_ge (by omega) (by omega))]
    rw [s7_2 W Q, e_Is' W hL.1 hcl_32, l_get W (Or.inr (Or.inr (Or.inl rfl))) hL hil]
    rw [show hE (32 + 10) = 1 from rfl, e_Is' W hil hcl_1, eR_2_3 W hd, e_Is' W hil hcl_1, q_new W hil hd]
    unfold w_X7_choiceFor_b63
    unfold w_X7_choiceFor_b66
    have ih' := ih f (i + 1) (by omega) (by omega)
    rw [nI_1]
    rcases cf_n01 σ d i with n | n
    · rw [n, if_pos rfl]
      rw [cf_f (fun z => by have := z.1.1; rw [n] at this; exact absurd this (by decide))] at ih'
      exact ih'
    · rw [n, if_neg (by decide), e_Is' W (sL_7 Q) hcl_7, q_open W P hil hd]
      rcases cu_01 σ i d with o | o
      · rw [o, if_pos rfl]
        rw [cf_f (fun z => by have := z.1.2; rw [o] at this; exact absurd this (by decide))] at ih'
        exact ih'
      · rw [o, if_neg (by decide)]
        cases h : cf_at σ d i with
        | zero =>
          rw [hr_0, if_pos rfl]
          rw [cf_t ⟨⟨n, o⟩, Or.inl h⟩] at ih'
          exact ih'
        | succ r =>
          have hr1 : r < gL σ 1 := by
            have := cf_le σ d i
            omega
          rw [hr_s, if_neg (by intro z; cases z), e_Is' W hil hcl_1]
          by_cases hah : cf_ga σ i r
          · rw [(q_ga W hil hr1).1 hah]
            rw [cf_t ⟨⟨n, o⟩, Or.inr (by rw [h]; exact hah)⟩] at ih'
            exact ih'
          · rw [(q_ga W hil hr1).2 hah]
            rw [cf_f (fun z => z.2.elim (fun y => by rw [h] at y; cases y) (fun y => hah (by rw [h] at y; exact y))), h] at ih'
            exact ih'
theorem q_cf {post : Option Nat → GM → Prop} (W : WF A σ) (P : PI σ) (hd : d < gL σ 2) : w_X7_choiceFor X post px (some (A.1 7 0)) (some (A.1 2 d)) (hp A σ) = if cf_at σ d (gL σ 1) = 0 then px "java/lang/IllegalStateException" (hp A σ) else post (some (A.1 1 (cf_at σ d (gL σ 1) - 1))) (hp A σ) := by
  have h10 : gL σ 1 ≤ 10 := P.2.1.2.2.2.2.2.2.2.2.1
  unfold w_X7_choiceFor
  exact q_cfl W P hd (gL σ 1) 3000 0 (by omega) (by omega)
end CF
section CS
variable {X : Cx} {xs : Nat → Int32} {Ls b i : Nat} {v1 v2 v3 v4 : Option Nat} {g : GM}
end CS
