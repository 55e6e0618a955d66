/-! rolled out -/
def rl (σ : St) (b : Nat) : Int32 := if gV σ 1 7 b = 97 then (if gV σ 1 10 b ≤ 0 then 0 else if hld σ b = 45 then 1 else 0) else 0
section RO
variable {A : Ad} {σ σ' : St} {X : Cx} {px : String → GM → Prop} {post : Int32 → GM → Prop} {b : Nat}
theorem q_roll (W : WF A σ) (Q : P0 σ) (hb : b < gL σ 1) : w_X7_isRolledOut X post px (some (A.1 7 0)) (some (A.1 1 b)) (hp A σ) = post (rl σ b) (hp A σ) := by
  unfold w_X7_isRolledOut w_X7_isRolledOut_b30 w_X7_isRolledOut_b31 rl
  rw [e_GetI W hb hok_1_7]
  by_cases c1 : gV σ 1 7 b = 97
  · rw [if_pos c1, if_pos c1, e_GetI W hb hok_1_10]
    by_cases c2 : gV σ 1 10 b ≤ 0
    · rw [if_pos c2, if_pos c2, p_and nb0]
    · rw [if_neg c2, if_neg c2, e_Is' W (sL_7 Q) hcl_7, q_hold W Q hb]
      try dsimp only
      by_cases c3 : hld σ b = 45
      · rw [if_pos c3, if_pos c3, p_and nb1]
      · rw [if_neg c3, if_neg c3, p_and nb0]
  · rw [if_neg c1, if_neg c1, p_and nb0]
theorem q_mroll (hb : b < 10) (W : WF A σ') (Q : P0 σ') (h6 : gV σ' 8 6 0 = nI (gL σ' 2)) (h12 : gL σ' 2 ≤ 12) (e1 : gV σ' 110 b 0 = gV σ 1 3 b) (e2 : gV σ' 8 23 0 = gV σ 7 7 0) (e3 : gV σ' 111 b 0 = gV σ 1 4 b) (e4 : gV σ' 8 24 0 = gV σ 7 8 0) (e5 : gV σ' 119 b 0 = gV σ 1 12 b) (e6 : gV σ' 120 b 0 = gV σ 1 13 b) (e7 : gV σ' 8 26 0 = gV σ 7 11 0) (e8 : sm (fun d => if 0 < gV σ' 205 b d then 1 else 0) (gL σ' 2) = gV σ 1 14 b) (e9 : sm (fun d => gV σ' 205 b d) (gL σ' 2) = gV σ 1 15 b) (e10 : gV σ' 114 b 0 = gV σ 1 7 b) (e11 : gV σ' 117 b 0 = gV σ 1 10 b) : w_X8_rolls X post px (some (A.1 8 0)) (nI b) (hp A σ') = post (rl σ b) (hp A σ') := by
  have hv : vp_in (nI b) 10 := vp_in_nI hb (by omega)
  have hc : (nI b).toNatClampNeg = b := nI_clamp (by omega)
  unfold w_X8_rolls w_X8_rolls_b34 w_X8_rolls_b35 rl
  rw [s8_14 W Q, e_Ald W (sL_114 Q) hak_114 (by decide), sN_114 Q, p_and hv, hc, e10]
  by_cases c1 : gV σ 1 7 b = 97
  · rw [if_pos c1, if_pos c1, s8_17 W Q, e_Ald W (sL_117 Q) hak_117 (by decide), sN_117 Q, p_and hv, hc, e11]
    by_cases c2 : gV σ 1 10 b ≤ 0
    · rw [if_pos c2, if_pos c2, p_and nb0]
    · rw [if_neg c2, if_neg c2, e_Is' W (sL_8 Q) hcl_8, q_mhold (σ := σ) hb W Q h6 h12 e1 e2 e3 e4 e5 e6 e7 e8 e9]
      try dsimp only
      by_cases c3 : hld σ b = 45
      · rw [if_pos c3, if_pos c3, p_and nb1]
      · rw [if_neg c3, if_neg c3, p_and nb0]
  · rw [if_neg c1, if_neg c1, p_and nb0]
end RO
