/-! what holds a build: the reference's side -/
theorem nc_116 : narrow .char (.int 116) = .int 116 := rfl
section MH
variable {A : Ad} {σ σ' : St} {X : Cx} {px : String → GM → Prop} {post : Int32 → GM → Prop} {b : Nat}
theorem q_mh39 (hb : b < 10) (W : WF A σ') (Q : P0 σ') (h6 : gV σ' 8 6 0 = nI (gL σ' 2)) (h12 : gL σ' 2 ≤ 12) (e8 : sm (fun d => if 0 < gV σ' 205 b d then 1 else 0) (gL σ' 2) = gV σ 1 14 b) (e9 : sm (fun d => gV σ' 205 b d) (gL σ' 2) = gV σ 1 15 b) : w_X8_hold_b39 X post px (some (A.1 8 0)) (nI b) (hp A σ') = post (hld3 (gV σ 1 14 b) (gV σ 1 15 b)) (hp A σ') := by
  unfold w_X8_hold_b39 w_X8_hold_b65 w_X8_hold_b67 hld3
  rw [e_Is' W (sL_8 Q) hcl_8, q_rat hb W Q h6 h12, e8]
  try dsimp only
  by_cases c6 : gV σ 1 14 b < 3
  · rw [if_pos c6, if_pos c6, p_and nc_45]
  · rw [if_neg c6, if_neg c6, e_Is' W (sL_8 Q) hcl_8, q_rof hb W Q h6 h12, e8, e9, p_and (fl_ddiv (n3 c6))]
    try dsimp only
    by_cases c7 : 0 ≤ Op.cmpValue (FP.dcmp (FP.ddiv (FP.i2d (gV σ 1 15 b)) (FP.i2d (gV σ 1 14 b))) (4612811918334230528 : UInt64)) .g
    · rw [if_pos c7, if_pos c7, p_and nc_45]
    · rw [if_neg c7, if_neg c7, p_and nc_116]
theorem q_mhold (hb : b < 10) (W : WF A σ') (Q : P0 σ') (h6 : gV σ' 8 6 0 = nI (gL σ' 2)) (h12 : gL σ' 2 ≤ 12) (e1 : gV σ' 110 b 0 = gV σ 1 3 b) (e2 : gV σ' 8 23 0 = gV σ 7 7 0) (e3 : gV σ' 111 b 0 = gV σ 1 4 b) (e4 : gV σ' 8 24 0 = gV σ 7 8 0) (e5 : gV σ' 119 b 0 = gV σ 1 12 b) (e6 : gV σ' 120 b 0 = gV σ 1 13 b) (e7 : gV σ' 8 26 0 = gV σ 7 11 0) (e8 : sm (fun d => if 0 < gV σ' 205 b d then 1 else 0) (gL σ' 2) = gV σ 1 14 b) (e9 : sm (fun d => gV σ' 205 b d) (gL σ' 2) = gV σ 1 15 b) : w_X8_hold X post px (some (A.1 8 0)) (nI b) (hp A σ') = post (hld σ b) (hp A σ') := by
  have hv : vp_in (nI b) 10 := vp_in_nI hb (by omega)
  have hc : (nI b).toNatClampNeg = b := nI_clamp (by omega)
  unfold w_X8_hold w_X8_barredBy w_X8_barredBy_b39 hld hld2
  rw [e_Is' W (sL_8 Q) hcl_8, s8_10 W Q, e_Ald W (sL_110 Q) hak_110 (by decide), sN_110 Q, p_and hv, hc, e1, e_GetI W (sL_8 Q) hok_8_23, e2]
  by_cases c1 : gV σ 1 3 b ≤ gV σ 7 7 0
  · rw [if_pos c1, if_pos c1, s8_11 W Q, e_Ald W (sL_111 Q) hak_111 (by decide), sN_111 Q, p_and hv, hc, e3, e_GetI W (sL_8 Q) hok_8_24, e4]
    by_cases c2 : gV σ 1 4 b &&& gV σ 7 8 0 = 0
    · rw [if_pos c2, if_pos c2, p_and nc_45]
      try dsimp only
      rw [if_pos rfl, s8_19 W Q, e_Ald W (sL_119 Q) hak_119 (by decide), sN_119 Q, p_and hv, hc, e5]
      by_cases c3 : gV σ 1 12 b < 3
      · rw [if_pos c3, if_pos c3, q_mh39 (σ := σ) hb W Q h6 h12 e8 e9]
      · rw [if_neg c3, if_neg c3, e_Is' W (sL_8 Q) hcl_8]
        unfold w_X8_rateOf w_X8_rateOf_b28
        rw [s8_19 W Q, e_Ald W (sL_119 Q) hak_119 (by decide), sN_119 Q, p_and hv, hc, e5, if_neg (n3 c3), s8_20 W Q, e_Ald W (sL_120 Q) hak_120 (by decide), sN_120 Q, p_and hv, hc, e6, s8_19 W Q, e_Ald W (sL_119 Q) hak_119 (by decide), sN_119 Q, p_and hv, hc, e5, p_and (fl_div (n3 c3))]
        try dsimp only
        rw [e_GetF W (sL_8 Q) hok_8_26, e7]
        by_cases c5 : Op.cmpValue (FP.fcmp (FP.fdiv (FP.i2f (gV σ 1 13 b)) (FP.i2f (gV σ 1 12 b))) (gV σ 7 11 0).toUInt32) .l ≤ 0
        · rw [if_pos c5, if_pos c5, q_mh39 (σ := σ) hb W Q h6 h12 e8 e9]
        · rw [if_neg c5, if_neg c5]
    · rw [if_neg c2, if_neg c2, p_and nc_112]
      try dsimp only
      rw [if_neg (by decide)]
  · rw [if_neg c1, if_neg c1, p_and nc_115]
    try dsimp only
    rw [if_neg (by decide)]
end MH
