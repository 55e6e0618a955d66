/-! waiting builds are counted -/
section WC
variable {A : Ad} {σ : St} {X : Cx} {px : String → GM → Prop} {post : Int32 → GM → Prop}
theorem q_cwl (W : WF A σ) (Q : P0 σ) (hL : Lst σ 32 (gL σ 1)) (h10 : gL σ 1 ≤ 10) : ∀ (k f i : Nat), i + k = gL σ 1 → k < f → w_X7_countWaiting_l4 X post px f (some (A.1 7 0)) (sm (fun b => if gV σ 1 7 b = 119 then 1 else 0) i) (nI i) (hp A σ) = post (sm (fun b => if gV σ 1 7 b = 119 then 1 else 0) (gL σ 1)) (hp A σ) := by
  intro k
  induction k with
  | zero =>
    intro f i hi hf
    obtain ⟨f, rfl⟩ : ∃ f', f = f' + 1 := ⟨f - 1, by omega⟩
    rw [w_X7_countWaiting_l4, s7_2 W Q, e_Is' W hL.1 hcl_32, l_size W (Or.inr (Or.inr (Or.inl rfl))) hL, if_pos (nI_le (by omega) (by omega)), show i = gL σ 1 by omega]
  | succ k ih =>
    intro f i hi hf
    obtain ⟨f, rfl⟩ : ∃ f', f = f' + 1 := ⟨f - 1, by omega⟩
    rw [w_X7_countWaiting_l4, s7_2 W Q, e_Is' W hL.1 hcl_32, l_size W (Or.inr (Or.inr (Or.inl rfl))) hL, if_neg (nI_ge (by omega) (by omega))]
    rw [s7_2 W Q, e_Is' W hL.1 hcl_32, l_get W (Or.inr (Or.inr (Or.inl rfl))) hL (show i < gL σ 1 by omega)]
    rw [show hE (32 + 10) = 1 from rfl, e_Is' W (show i < gL σ 1 by omega) hcl_1, e_GetI W (show i < gL σ 1 by omega) hok_1_7]
    unfold w_X7_countWaiting_b37
    have := ih f (i + 1) (by omega) (by omega)
    rw [sm] at this
    rw [nI_1]
    by_cases e : gV σ 1 7 i = 119
    · rw [if_pos e]
      rw [if_pos e] at this
      exact this
    · rw [if_neg e]
      rw [if_neg e, Int32.add_zero] at this
      exact this
theorem q_cw (W : WF A σ) (Q : P0 σ) (hL : Lst σ 32 (gL σ 1)) (h10 : gL σ 1 ≤ 10) : w_X7_countWaiting X post px (some (A.1 7 0)) (hp A σ) = post (sm (fun b => if gV σ 1 7 b = 119 then 1 else 0) (gL σ 1)) (hp A σ) := by
  unfold w_X7_countWaiting
  exact q_cwl W Q hL h10 (gL σ 1) 3000 0 (by omega) (by omega)
end WC
theorem nar_119 : vp_nar .char 119 = 119 := nar_c (c := 119) (by omega)
theorem nar_97 : vp_nar .char 97 = 97 := nar_c (c := 97) (by omega)
theorem nar_114 : vp_nar .char 114 = 114 := nar_c (c := 114) (by omega)
