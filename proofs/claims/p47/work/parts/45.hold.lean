/-! what holds a build -/
def hld3 (c s : Int32) : Int32 := if c < 3 then 45 else if 0 ≤ Op.cmpValue (FP.dcmp (FP.ddiv (FP.i2d s) (FP.i2d c)) (4612811918334230528 : UInt64)) .g then 45 else 116
def hld2 (n c : Int32) (r : UInt32) (x : Int32) : Int32 := if n < 3 then x else if Op.cmpValue (FP.fcmp (FP.fdiv (FP.i2f c) (FP.i2f n)) r) .l ≤ 0 then x else 99
def hld (σ : St) (b : Nat) : Int32 := if gV σ 1 3 b ≤ gV σ 7 7 0 then (if gV σ 1 4 b &&& gV σ 7 8 0 = 0 then hld2 (gV σ 1 12 b) (gV σ 1 13 b) (gV σ 7 11 0).toUInt32 (hld3 (gV σ 1 14 b) (gV σ 1 15 b)) else 118) else 118
theorem n3 {c : Int32} (h : ¬ c < 3) : ¬ c = 0 := fun z => h (by rw [z]; decide)
section HD
variable {A : Ad} {σ : St} {X : Cx} {px : String → GM → Prop} {post : Int32 → GM → Prop} {b : Nat}
theorem q_hold36 (W : WF A σ) (hb : b < gL σ 1) : w_X7_holdReason_b36 X post px (some (A.1 1 b)) (hp A σ) = post (hld3 (gV σ 1 14 b) (gV σ 1 15 b)) (hp A σ) := by
  unfold w_X7_holdReason_b36 w_X7_holdReason_b58 hld3
  rw [e_GetI W hb hok_1_14]
  by_cases c6 : gV σ 1 14 b < 3
  · rw [if_pos c6, if_pos c6]
  · rw [if_neg c6, if_neg c6, e_Is' W hb hcl_1]
    unfold w_X1_meanStars w_X1_meanStars_b22
    rw [e_GetI W hb hok_1_14, if_neg (n3 c6), e_GetI W hb hok_1_15, e_GetI W hb hok_1_14, p_and (fl_ddiv (n3 c6))]
    dsimp only
    by_cases c7 : 0 ≤ Op.cmpValue (FP.dcmp (FP.ddiv (FP.i2d (gV σ 1 15 b)) (FP.i2d (gV σ 1 14 b))) (4612811918334230528 : UInt64)) .g
    · rw [if_pos c7, if_pos c7]
    · rw [if_neg c7, if_neg c7]
theorem q_hold (W : WF A σ) (Q : P0 σ) (hb : b < gL σ 1) : w_X7_holdReason X post px (some (A.1 7 0)) (some (A.1 1 b)) (hp A σ) = post (hld σ b) (hp A σ) := by
  unfold w_X7_holdReason w_X7_barringRule w_X7_barringRule_b33 hld hld2
  rw [e_Is' W (sL_7 Q) hcl_7, e_GetI W hb hok_1_3, e_GetI W (sL_7 Q) hok_7_7]
  by_cases c1 : gV σ 1 3 b ≤ gV σ 7 7 0
  · rw [if_pos c1, if_pos c1, e_GetI W hb hok_1_4, e_GetI W (sL_7 Q) hok_7_8]
    by_cases c2 : gV σ 1 4 b &&& gV σ 7 8 0 = 0
    · rw [if_pos c2, if_pos c2, p_and nc_45]
      dsimp only
      rw [if_pos rfl, e_GetI W hb hok_1_12, q_hold36 W hb]
      by_cases c3 : gV σ 1 12 b < 3
      · rw [if_pos c3, if_pos c3]
      · rw [if_neg c3, if_neg c3, e_Is' W hb hcl_1]
        unfold w_X1_crashesPerInstall w_X1_crashesPerInstall_b22
        rw [e_GetI W hb hok_1_12, if_neg (n3 c3), e_GetI W hb hok_1_13, e_GetI W hb hok_1_12, p_and (fl_div (n3 c3))]
        dsimp only
        rw [e_GetF W (sL_7 Q) hok_7_11]
        by_cases c5 : Op.cmpValue (FP.fcmp (FP.fdiv (FP.i2f (gV σ 1 13 b)) (FP.i2f (gV σ 1 12 b))) (gV σ 7 11 0).toUInt32) .l ≤ 0
        · rw [if_pos c5, if_pos c5, q_hold36 W hb]
        · rw [if_neg c5, if_neg c5]
    · rw [if_neg c2, if_neg c2, p_and nc_112]
      dsimp only
      rw [if_neg (by decide)]
  · rw [if_neg c1, if_neg c1]
    dsimp only
    rw [if_neg (by decide)]
end HD
