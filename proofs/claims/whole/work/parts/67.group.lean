/-! a crash: the group -/
def RfH (σ σ' : St) : Prop := (∀ k f i, 100 ≤ k → gV σ' k f i = gV σ k f i) ∧ (∀ f, f ≠ 36 → gV σ' 8 f 0 = gV σ 8 f 0)
def nw_ (σ : St) (n : Nat) : Prop := (ng_ σ n (gL σ 4)).1 = 0 ∨ Op.cmpValue (FP.fcmp (ng_ σ n (gL σ 4)).2 (gV σ 7 10 0).toUInt32) .l < 0
section GF
variable {A : Ad} {σ κ σ' : St} {X : Cx} {px : String → GM → Prop} {n : Nat}
theorem q_gfl {post : Int32 → GM → Prop} (P : PI σ) (M : RfH σ σ') (W : WF A σ') (Q : P0 σ') (h33 : gV σ 8 33 0 = nI n) (hn6 : n ≤ 6) : ∀ (k F i : Nat), i + k = gL σ 4 → k < F → (nw_ σ n → w_X8_groupFor_l6 X post px F (some (A.1 8 0)) (nI (ng_ σ n i).1 - 1) (ng_ σ n i).2 (nI i) (hp A σ') = post (nI (gL σ 4)) (hp A σ')) ∧ (¬ nw_ σ n → w_X8_groupFor_l6 X post px F (some (A.1 8 0)) (nI (ng_ σ n i).1 - 1) (ng_ σ n i).2 (nI i) (hp A σ') = post (nI ((ng_ σ n (gL σ 4)).1 - 1)) (hp A σ')) := by
  have h30 : gL σ 4 ≤ 30 := P.2.1.2.2.2.2.2.2.2.2.2
  have h31 : gV σ' 8 31 0 = nI (gL σ 4) := by rw [M.2 31 (by decide)]; exact P.2.1.1.2.2
  have h25 : gV σ' 8 25 0 = gV σ 7 10 0 := by rw [M.2 25 (by decide)]; exact P.2.1.2.2.2.2.1.1
  have h33' : gV σ' 8 33 0 = nI n := by rw [M.2 33 (by decide)]; exact h33
  have hb : nI 0 - 1 = -1 := by decide
  intro k
  induction k with
  | zero =>
    intro F i hi hF
    obtain ⟨F, rfl⟩ : ∃ F', F = F' + 1 := ⟨F - 1, by omega⟩
    have hle := ng_le σ n i
    rw [w_X8_groupFor_l6, e_GetI W (sL_8 Q) hok_8_31, h31, if_pos (nI_le (by omega) (by omega))]
    unfold w_X8_groupFor_b80 w_X8_groupFor_b84 nw_
    have hie : gL σ 4 = i := by omega
    rw [hie] at h31 h30 ⊢
    cases hr1 : (ng_ σ n i).1 with
    | zero =>
      refine ⟨fun _ => ?_, fun h => absurd (Or.inl rfl) h⟩
      rw [hb, if_pos rfl, e_GetI W (sL_8 Q) hok_8_31, h31]
    | succ r =>
      have hx1 : ¬ nI (r + 1) - 1 = -1 := by
        rw [nI_pred]
        exact fun z => (nI_nm1 (show r ≤ 40 by omega)).mp z
      rw [if_neg hx1, e_GetF W (sL_8 Q) hok_8_25, h25]
      by_cases c : Op.cmpValue (FP.fcmp (ng_ σ n i).2 (gV σ 7 10 0).toUInt32) .l < 0
      · refine ⟨fun _ => ?_, fun h => absurd (Or.inr c) h⟩
        rw [if_pos c, e_GetI W (sL_8 Q) hok_8_31, h31]
      · refine ⟨fun h => absurd h (fun z => z.elim (fun y => absurd y (Nat.succ_ne_zero r)) c), fun _ => ?_⟩
        rw [if_neg c, nI_pred, Nat.add_sub_cancel]
  | succ k ih =>
    intro F i hi hF
    obtain ⟨F, rfl⟩ : ∃ F', F = F' + 1 := ⟨F - 1, by omega⟩
    have hil : i < gL σ 4 := by omega
    have hle := ng_le σ n i
    have ih' := ih F (i + 1) (by omega) (by omega)
    obtain ⟨m, m1, m2, m3, m4, m5⟩ := P.2.2.2.2.1.2.2.1 i hil
    have e1 : gl_ σ i = m := by unfold gl_; rw [m4, nI_clamp (by omega)]
    have hiv : vp_in (nI i) 30 := vp_in_nI (by omega) (by omega)
    have hic : (nI i).toNatClampNeg = i := nI_clamp (by omega)
    have r1 : i < gL σ' 227 := by rw [Q.2.2.2.2.1]; omega
    obtain ⟨r2, r3⟩ := Q.2.2.2.2.2 i (by omega)
    have e2 : lkv (fun j => gV σ' 227 j i) (fun j => gV σ' 132 j 0) m n = lv_ σ n i := by
      unfold lv_
      rw [e1]
      exact lkv_cong (fun q _ => M.1 227 q i (by decide)) (fun q _ => M.1 132 q 0 (by decide))
    rw [w_X8_groupFor_l6, e_GetI W (sL_8 Q) hok_8_31, h31, if_neg (nI_ge (by omega) (by omega)), s8_27 W Q, e_Aldq W (sL_127 Q) hak_127 (by decide) (by decide), sN_127 Q, p_and hiv, hic, hE_127, r3, hr_s, s8_28 W Q, e_Ald W (sL_128 Q) hak_128 (by decide), sN_128 Q, p_and hiv, hic, M.1 128 _ _ (by decide), m4, s8_32 W Q, e_GetI W (sL_8 Q) hok_8_33, h33', q_am (m := m) (n := n) W r1 (sL_132 Q) rfl rfl r2 (sN_132 Q) m1 m2 hn6, e2]
    unfold w_X8_groupFor_b51 w_X8_groupFor_b56
    rw [nI_1]
    rw [ng_] at ih'
    cases hr1 : (ng_ σ n i).1 with
    | zero =>
      rw [hr1, if_pos rfl, nI_pred] at ih'
      rw [hb, if_pos rfl]
      exact ih'
    | succ r =>
      have hx1 : ¬ nI (r + 1) - 1 = -1 := by
        rw [nI_pred]
        exact fun z => (nI_nm1 (show r ≤ 40 by omega)).mp z
      rw [hr1, if_neg (Nat.succ_ne_zero r)] at ih'
      rw [if_neg hx1]
      by_cases c2 : Op.cmpValue (FP.fcmp (lv_ σ n i) (ng_ σ n i).2) .l ≤ 0
      · rw [if_pos c2] at ih' ⊢
        rw [hr1] at ih'
        exact ih'
      · rw [if_neg c2, nI_pred] at ih'
        rw [if_neg c2]
        exact ih'
theorem q_gf {post : Int32 → GM → Prop} (P : PI σ) (M : RfH σ σ') (W : WF A σ') (Q : P0 σ') (h33 : gV σ 8 33 0 = nI n) (hn6 : n ≤ 6) : (nw_ σ n → w_X8_groupFor X post px (some (A.1 8 0)) (hp A σ') = post (nI (gL σ 4)) (hp A σ')) ∧ (¬ nw_ σ n → w_X8_groupFor X post px (some (A.1 8 0)) (hp A σ') = post (nI ((ng_ σ n (gL σ 4)).1 - 1)) (hp A σ')) := by
  have h30 : gL σ 4 ≤ 30 := P.2.1.2.2.2.2.2.2.2.2.2
  unfold w_X8_groupFor
  exact q_gfl P M W Q h33 hn6 (gL σ 4) 3000 0 (by omega) (by omega)
theorem q_gc {post : Option Nat → GM → Prop} (W : WF A κ) (Q : P0 κ) (P : PI σ) (H : CrH σ κ n) (hL4 : Lst κ 33 (gL σ 4)) (hn6 : n ≤ 6) (hty : ∀ j, j < n → gV σ 16 j 0 = gV σ 132 j 0) : (nw_ σ n → w_X7_groupOfCrash X post px (some (A.1 7 0)) (hp A κ) = w_X7_groupOfCrash_b30 X post px (some (A.1 7 0)) (hp A κ)) ∧ (¬ nw_ σ n → w_X7_groupOfCrash X post px (some (A.1 7 0)) (hp A κ) = post (some (A.1 4 ((ng_ σ n (gL σ 4)).1 - 1))) (hp A κ)) := by
  have h30 : gL σ 4 ≤ 30 := P.2.1.2.2.2.2.2.2.2.2.2
  have hle := ng_le σ n (gL σ 4)
  have hlv := ng_lv σ n (gL σ 4)
  have h10 : gV κ 7 10 0 = gV σ 7 10 0 := H.2.2.2.1 7 10 0 (by decide)
  unfold w_X7_groupOfCrash w_X7_nearestGroup
  rw [e_Is' W (sL_7 Q) hcl_7, show w_X7_nearestGroup_l6 X (fun (r2 : Option Nat) (g1 : GM) => (if r2 = none then w_X7_groupOfCrash_b30 X post px (some (A.1 7 0)) g1 else wGetR g1 r2 4 1 (fun (r16 : Option Nat) => wGetR g1 (some (A.1 7 0)) 7 5 (fun (r17 : Option Nat) => wIs g1 r16 6 (w_X6_likenessTo X (fun (x19 : UInt32) (g18 : GM) => wGetF g18 (some (A.1 7 0)) 7 10 (fun (x20 : UInt32) => (if (Op.cmpValue (FP.fcmp x19 x20) .l) < 0 then w_X7_groupOfCrash_b30 X post px (some (A.1 7 0)) g18 else post r2 g18))) px r16 r17 g1))))) px 3000 (some (A.1 7 0)) none FP.fconst0 0 (hp A κ) = _ from q_ngl W Q P H hL4 hn6 hty (gL σ 4) 3000 0 (by omega) (by omega)]
  unfold nw_
  cases hr1 : (ng_ σ n (gL σ 4)).1 with
  | zero =>
    refine ⟨fun _ => ?_, fun h => absurd (Or.inl rfl) h⟩
    rw [hr_0, if_pos rfl]
  | succ r =>
    have hrl : r < gL σ 4 := by omega
    have hrl' : r < gL κ 4 := by rw [H.1]; exact hrl
    have hg : gR κ 4 1 r = (r + 2) + 1 := by rw [H.2.1]; exact (P.2.2.2.2.1.2.1 r hrl).2.1
    have h6 : r + 2 < gL κ 6 := by
      have := P.2.2.2.2.1.1.1
      rw [H.1]; omega
    have e2 : lv_ σ n r = (ng_ σ n (gL σ 4)).2 := by
      rw [hr1] at hlv
      exact (hlv (Nat.succ_ne_zero r)).symm
    rw [hr_s, if_neg (by intro z; cases z), eR_4_1 W hrl', hg, hr_s, s7_5 W Q, e_Is' W h6 hcl_6, q_lk W P H hn6 hty hrl]
    try dsimp only
    rw [e_GetF W (sL_7 Q) hok_7_10, h10, e2]
    by_cases c : Op.cmpValue (FP.fcmp (ng_ σ n (gL σ 4)).2 (gV σ 7 10 0).toUInt32) .l < 0
    · refine ⟨fun _ => ?_, fun h => absurd (Or.inr c) h⟩
      rw [if_pos c]
    · refine ⟨fun h => absurd h (fun z => z.elim (fun y => absurd y (Nat.succ_ne_zero r)) c), fun _ => ?_⟩
      rw [if_neg c, Nat.add_sub_cancel]
end GF
