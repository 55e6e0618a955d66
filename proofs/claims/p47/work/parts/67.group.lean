/-! a crash: the group -/
def RfH (σ σ' : St) : Prop := (∀ k f i, 100 ≤ k → gV σ' k f i = gV σ k f i) ∧ (∀ f, f ≠ 36 → gV σ' 8 f 0 = gV σ 8 f 0)
def nw_ (σ : St) (n : Nat) : Prop := (ng_ σ n (gL σ 4)).1 = 0 ∨ Op.cmpValue (FP.fcmp (ng_ σ n (gL σ 4)).2 (gV σ 7 10 0).toUInt32) .l < 0
section GF
variable {A : Ad} {σ κ σ' : St} {X : Cx} {px : String → GM → Prop} {n : Nat}
theorem q_gc {post : Option Nat → GM → Prop} (W : WF A κ) (Q : P0 κ) (P : PI σ) (H : CrH σ κ n) (hL4 : Lst κ 33 (gL σ 4)) (hn6 : n ≤ 6) (hty : ∀ j, j < n → gV σ 16 j 0 = gV σ 132 j 0) : (nw_ σ n → w_X7_groupOfCrash X post px (some (A.1 7 0)) (hp A κ) = w_X7_groupOfCrash_b30 X post px (some (A.1 7 0)) (hp A κ)) ∧ (¬ nw_ σ n → w_X7_groupOfCrash X post px (some (A.1 7 0)) (hp A κ) = post (some (A.1 4 ((ng_ σ n (gL σ 4)).1 - 1))) (hp A κ)) := by
  have h30 : gL σ 4 ≤ 30 := P.2.1.2.2.2.2.2.2.2.2.2
  have hle := ng_le σ n (gL σ 4)
  have hlv := ng_lv σ n (gL σ 4)
  have h10 : gV κ 7 10 0 = gV σ 7 10 0 := H.2.2.2.1 7 10 0 (by decide)
  unfold w_X7_groupOfCrash w_X7_nearestGroup
  rw [e_Is' W (sL_7 Q) hcl_7, show w_X7_nearestGroup_l6 X (fun (r2 : Option Nat) (g1 : GM) => (if r2 = none then w_X7_groupOfCrash_b30 X post px (some (A.1 7 0)) g1 else wGetR g1 r2 4 1 (fun (r16 : Option Nat) => wGetR g1 (some (A.1 7 0)) 7 5 (fun (r17 : Option Nat) => wIs g1 r16 6 (w_X6_likenessTo X (fun (x19 : UInt32) (g18 : GM) => wGetF g18 (some (A.1 7 0)) 7 10 (fun (x20 : UInt32) => (if (Op.cmpValue (FP.fcmp x19 x20) .l) < 0 then w_X7_groupOfCrash_b30 X post px (some (A.1 7 0)) g18 else post r2 g18))) px r16 r17 g1))))) px 3000 (some (A.1 7 0)) none FP.fconst0 0 (hp A κ) = _ from q_ngl W Q P H hL4 hn6 hty (gL σ 4) 3000 0 (by omega) (by omega)]
  unfold nw_
  cases hr1 : (ng_ σ n (gL σ 4)).1 with
  | zero =>
    refine ⟨fun _ => ?_, fun h => absurd (Or.inl rfl) h⟩
    rw [hr_0, if_pos rfl]
  | succ r =>
    have hrl : r < gL σ 4 := by omega
    have hrl' : r < gL κ 4 := by rw [H.1]; exact hrl
    have hg : gR κ 4 1 r = (r + 2) + 1 := by rw [H.2.1]; exact (P.2.2.2.2.1.2.1 r hrl).2.1
    have h6 : r + 2 < gL κ 6 := by
      have := P.2.2.2.2.1.1.1
      rw [H.1]; omega
    have e2 : lv_ σ n r = (ng_ σ n (gL σ 4)).2 := by
      rw [hr1] at hlv
      exact (hlv (Nat.succ_ne_zero r)).symm
    rw [hr_s, if_neg (by intro z; cases z), eR_4_1 W hrl', hg, hr_s, s7_5 W Q, e_Is' W h6 hcl_6, q_lk W P H hn6 hty hrl]
    try dsimp only
    rw [e_GetF W (sL_7 Q) hok_7_10, h10, e2]
    by_cases c : Op.cmpValue (FP.fcmp (ng_ σ n (gL σ 4)).2 (gV σ 7 10 0).toUInt32) .l < 0
    · refine ⟨fun _ => ?_, fun h => absurd (Or.inr c) h⟩
      rw [if_pos c]
    · refine ⟨fun h => absurd h (fun z => z.elim (fun y => absurd y (Nat.succ_ne_zero r)) c), fun _ => ?_⟩
      rw [if_neg c, Nat.add_sub_cancel]
end GF
