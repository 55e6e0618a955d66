/-! addDraft refused -/
section AF
variable {A : Ad} {σ : St} {X : Cx} {px : String → GM → Prop} {post : Int32 → GM → Prop} {v z q : Int32} {l0 l2 l5 : Option Nat} {g : GM}
theorem q_adf (hb : (v < 1 ∨ 999 < v) ∨ (z < 1 ∨ 500 < z) ∨ (q < 0 ∨ 15 < q)) : w_X7_addDraft X post px l0 v l2 z q l5 g = px "java/lang/IllegalArgumentException" g := by
  unfold w_X7_addDraft w_X7_addDraft_b33
  rw [q_out]
  try dsimp only
  by_cases hv : v < 1 ∨ 999 < v
  · rw [if_pos hv, if_neg (by decide)]
  · rw [if_neg hv, if_pos rfl, q_out]
    try dsimp only
    by_cases hz : z < 1 ∨ 500 < z
    · rw [if_pos hz, if_neg (by decide)]
    · rw [if_neg hz, if_pos rfl, q_out]
      try dsimp only
      rw [if_pos ((hb.resolve_left hv).resolve_left hz), if_neg (by decide)]
theorem q_ads (W : WF A σ) (Q : P0 σ) (hL : Lst σ 32 (gL σ 1)) (h10 : gL σ 1 ≤ 10) (hv : ¬ (v < 1 ∨ 999 < v)) (hz : ¬ (z < 1 ∨ 500 < z)) (hq : ¬ (q < 0 ∨ 15 < q)) (h : (∃ j, j < gL σ 1 ∧ gV σ 1 1 j = v) ∨ (∀ j, j < gL σ 1 → ¬ gV σ 1 1 j = v) ∧ ¬ gL σ 1 < 10) : w_X7_addDraft X post px (some (A.1 7 0)) v l2 z q l5 (hp A σ) = px "java/lang/IllegalStateException" (hp A σ) := by
  unfold w_X7_addDraft w_X7_addDraft_b63
  rw [q_out, if_neg hv]
  try dsimp only
  rw [if_pos rfl, q_out, if_neg hz]
  try dsimp only
  rw [if_pos rfl, q_out, if_neg hq]
  try dsimp only
  rw [if_pos rfl, e_Is' W (sL_7 Q) hcl_7]
  rcases h with h | ⟨h1, h2⟩
  · rw [q_hv1 W Q hL h10 h]
    try dsimp only
    rw [if_neg (by decide)]
  · rw [q_hv0 W Q hL h10 h1]
    try dsimp only
    rw [if_pos rfl, s7_2 W Q, e_Is' W hL.1 hcl_32, l_size W (Or.inr (Or.inr (Or.inl rfl))) hL, if_neg (show ¬ nI (gL σ 1) < 10 from nI_nlt (a := gL σ 1) (b := 10) (by omega) (by omega))]
theorem q_off {m l t : Int32} {K : Nat → GM → Prop} (hx : hX X A) (W : WF A σ) (P : PI σ) (kk : ∀ (A' : Ad) (σ1 : St) (p : Nat), WF A' σ1 → hX X A' → Nf A A' → PI σ1 → p < gL σ1 5 → gV σ1 5 0 p = m → gV σ1 5 1 p = l → gV σ1 5 2 p = t → σ1 = ofS σ m l t → K (A'.1 5 p) (hp A' σ1)) : wNew X (hp A σ) (.inr (5, [.int 0, .int 0, .int 0])) (fun q7 g8 => w_X5_init X (fun g9 => K q7 g9) px (some q7) m l t g8) := by
  refine e_New 5 hx W rfl rfl (fun A1 W1 hx1 hN1 => ?_)
  refine q_x5i W1 (fun W2 => ?_)
  exact kk A1 (ofS σ m l t) (gL σ 5) W2 hx1 (Nf.of hN1 P.1) (pi_of W P) (Nat.lt_succ_self (gL σ 5)) of_0 of_1 of_2 rfl
end AF
section CS
variable {X : Cx} {xs : Nat → Int32} {Ls b i : Nat} {v1 v2 v3 v4 : Option Nat} {g : GM}
end CS
