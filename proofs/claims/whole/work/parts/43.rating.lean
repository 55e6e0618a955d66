/-! ratings, summed by the reference -/
section RA
variable {A : Ad} {σ : St} {X : Cx} {px : String → GM → Prop}
theorem q_ratl {post : Int32 → GM → Prop} {q : Nat} (hq : q < 10) (W : WF A σ) (Q : P0 σ) (h6 : gV σ 8 6 0 = nI (gL σ 2)) (h12 : gL σ 2 ≤ 12) : ∀ (k f i : Nat), i + k = gL σ 2 → k < f → w_X8_ratings_l4 X post px f (some (A.1 8 0)) (nI q) (sm (fun d => if 0 < gV σ 205 q d then 1 else 0) i) (nI i) (hp A σ) = post (sm (fun d => if 0 < gV σ 205 q d then 1 else 0) (gL σ 2)) (hp A σ) := by
  intro k
  induction k with
  | zero =>
    intro f i hi hf
    obtain ⟨f, rfl⟩ : ∃ f', f = f' + 1 := ⟨f - 1, by omega⟩
    rw [w_X8_ratings_l4, e_GetI W (sL_8 Q) hok_8_6, h6, if_pos (nI_le (by omega) (by omega)), show i = gL σ 2 by omega]
  | succ k ih =>
    intro f i hi hf
    obtain ⟨f, rfl⟩ : ∃ f', f = f' + 1 := ⟨f - 1, by omega⟩
    have hl : i < gL σ 205 := by rw [Q.2.2.2.1.1]; omega
    obtain ⟨hn, hr'⟩ := Q.2.2.2.1.2 i (by omega)
    rw [w_X8_ratings_l4, e_GetI W (sL_8 Q) hok_8_6, h6, if_neg (nI_ge (by omega) (by omega)), s8_5 W Q, e_Aldq W (sL_105 Q) hak_105 (by decide) (by decide), sN_105 Q, p_and (vp_in_nI (show i < 12 by omega) (by omega)), nI_clamp (show i < 2 ^ 31 by omega), hE_105, hr', hr_s, e_Ald W hl hak_205 (by decide), hn, p_and (vp_in_nI hq (by omega)), nI_clamp (show q < 2 ^ 31 by omega)]
    unfold w_X8_ratings_b29
    have := ih f (i + 1) (by omega) (by omega)
    rw [sm] at this
    rw [nI_1]
    by_cases e : 0 < gV σ 205 q i
    · rw [if_neg (fun z => le_lt.mp z e)]
      rw [if_pos e] at this
      exact this
    · rw [if_pos (le_lt.mpr e)]
      rw [if_neg e] at this
      exact this
theorem q_rat {post : Int32 → GM → Prop} {q : Nat} (hq : q < 10) (W : WF A σ) (Q : P0 σ) (h6 : gV σ 8 6 0 = nI (gL σ 2)) (h12 : gL σ 2 ≤ 12) : w_X8_ratings X post px (some (A.1 8 0)) (nI q) (hp A σ) = post (sm (fun d => if 0 < gV σ 205 q d then 1 else 0) (gL σ 2)) (hp A σ) := by
  unfold w_X8_ratings
  exact q_ratl hq W Q h6 h12 (gL σ 2) 3000 0 (by omega) (by omega)
theorem q_rofl {post : UInt64 → GM → Prop} {q : Nat} (hq : q < 10) (W : WF A σ) (Q : P0 σ) (h6 : gV σ 8 6 0 = nI (gL σ 2)) (h12 : gL σ 2 ≤ 12) : ∀ (k f i : Nat), i + k = gL σ 2 → k < f → w_X8_ratingOf_l4 X post px f (some (A.1 8 0)) (nI q) (sm (fun d => gV σ 205 q d) i) (nI i) (hp A σ) = (vf_n64 (FP.ddiv (FP.i2d (sm (fun d => gV σ 205 q d) (gL σ 2))) (FP.i2d (sm (fun d => if 0 < gV σ 205 q d then 1 else 0) (gL σ 2)))) ∧ post (FP.ddiv (FP.i2d (sm (fun d => gV σ 205 q d) (gL σ 2))) (FP.i2d (sm (fun d => if 0 < gV σ 205 q d then 1 else 0) (gL σ 2)))) (hp A σ)) := by
  intro k
  induction k with
  | zero =>
    intro f i hi hf
    obtain ⟨f, rfl⟩ : ∃ f', f = f' + 1 := ⟨f - 1, by omega⟩
    rw [w_X8_ratingOf_l4, e_GetI W (sL_8 Q) hok_8_6, h6, if_pos (nI_le (by omega) (by omega)), e_Is' W (sL_8 Q) hcl_8, q_rat hq W Q h6 h12, show i = gL σ 2 by omega]
  | succ k ih =>
    intro f i hi hf
    obtain ⟨f, rfl⟩ : ∃ f', f = f' + 1 := ⟨f - 1, by omega⟩
    have hl : i < gL σ 205 := by rw [Q.2.2.2.1.1]; omega
    obtain ⟨hn, hr'⟩ := Q.2.2.2.1.2 i (by omega)
    rw [w_X8_ratingOf_l4, e_GetI W (sL_8 Q) hok_8_6, h6, if_neg (nI_ge (by omega) (by omega)), s8_5 W Q, e_Aldq W (sL_105 Q) hak_105 (by decide) (by decide), sN_105 Q, p_and (vp_in_nI (show i < 12 by omega) (by omega)), nI_clamp (show i < 2 ^ 31 by omega), hE_105, hr', hr_s, e_Ald W hl hak_205 (by decide), hn, p_and (vp_in_nI hq (by omega)), nI_clamp (show q < 2 ^ 31 by omega)]
    have := ih f (i + 1) (by omega) (by omega)
    rw [sm] at this
    rw [nI_1]
    exact this
theorem q_rof {post : UInt64 → GM → Prop} {q : Nat} (hq : q < 10) (W : WF A σ) (Q : P0 σ) (h6 : gV σ 8 6 0 = nI (gL σ 2)) (h12 : gL σ 2 ≤ 12) : w_X8_ratingOf X post px (some (A.1 8 0)) (nI q) (hp A σ) = (vf_n64 (FP.ddiv (FP.i2d (sm (fun d => gV σ 205 q d) (gL σ 2))) (FP.i2d (sm (fun d => if 0 < gV σ 205 q d then 1 else 0) (gL σ 2)))) ∧ post (FP.ddiv (FP.i2d (sm (fun d => gV σ 205 q d) (gL σ 2))) (FP.i2d (sm (fun d => if 0 < gV σ 205 q d then 1 else 0) (gL σ 2)))) (hp A σ)) := by
  unfold w_X8_ratingOf
  exact q_rofl hq W Q h6 h12 (gL σ 2) 3000 0 (by omega) (by omega)
end RA
