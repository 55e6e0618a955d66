/-! rolled out -/
def rl (σ : St) (b : Nat) : Int32 := if gV σ 1 7 b = 97 then (if gV σ 1 10 b ≤ 0 then 0 else if hld σ b = 45 then 1 else 0) else 0
section RO
variable {A : Ad} {σ σ' : St} {X : Cx} {px : String → GM → Prop} {post : Int32 → GM → Prop} {b : Nat}
theorem q_roll (W : WF A σ) (Q : P0 σ) (hb : b < gL σ 1) : w_X7_isRolledOut X post px (some (A.1 7 0)) (some (A.1 1 b)) (hp A σ) = post (rl σ b) (hp A σ) := by
  unfold w_X7_isRolledOut w_X7_isRolledOut_b30 w_X7_isRolledOut_b31 rl
  rw [e_GetI W hb hok_1_7]
  by_cases c1 : gV σ 1 7 b = 97
  · rw [if_pos c1, if_pos c1, e_GetI W hb hok_1_10]
    by_cases c2 : gV σ 1 10 b ≤ 0
    · rw [if_pos c2, if_pos c2, p_and nb0]
    · rw [if_neg c2, if_neg c2, e_Is' W (sL_7 Q) hcl_7, q_hold W Q hb]
      try dsimp only
      by_cases c3 : hld σ b = 45
      · rw [if_pos c3, if_pos c3, p_and nb1]
      · rw [if_neg c3, if_neg c3, p_and nb0]
  · rw [if_neg c1, if_neg c1, p_and nb0]
end RO
