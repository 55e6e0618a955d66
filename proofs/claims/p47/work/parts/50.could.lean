/-! could have: class and reference -/
def cu_mn (σ : St) (b d : Nat) : Int32 := if gR σ 2 3 d = 0 then 0 else if gR σ 1 5 b = gR σ 2 3 d then 1 else 0
def cu_fr (σ : St) (b d : Nat) : Int32 := if (gV σ 108 b 0 >>> (gV σ 100 d 0 &&& 31)) &&& 1 = 1 then (if (gV σ 109 b 0 >>> (gV σ 101 d 0 &&& 31)) &&& 1 = 1 then 1 else 0) else 0
def cu_op (σ : St) (b d : Nat) : Int32 := if rl σ b = 0 then 0 else if cu_fr σ b d = 0 then 0 else if gV σ 2 2 d < gV σ 1 10 b then 1 else if cu_mn σ b d = 0 then 0 else 1
/-- the reference's columns are the same -/
def MEq (σ σ' : St) : Prop := (∀ k, gL σ' k = gL σ k) ∧ (∀ k f i, 100 ≤ k → gV σ' k f i = gV σ k f i) ∧ ∀ f, f ≠ 36 → gV σ' 8 f 0 = gV σ 8 f 0
theorem MEq.rf {σ : St} : MEq σ σ := ⟨fun _ => rfl, fun _ _ _ _ => rfl, fun _ _ => rfl⟩
theorem MEq.sJ {σ σ' : St} {x : Int64} (M : MEq σ σ') : MEq σ (sJ σ' x) := ⟨M.1, M.2.1, M.2.2⟩
theorem MEq.sD {σ σ' : St} {x : UInt64} (M : MEq σ σ') : MEq σ (sD σ' x) := ⟨M.1, M.2.1, M.2.2⟩
theorem MEq.s36 {σ σ' : St} {x : Int32} (M : MEq σ σ') : MEq σ (sV σ' 8 36 0 x) := ⟨M.1, fun k f i hk => by rw [gV_sV, if_neg (by omega)]; exact M.2.1 k f i hk, fun f hf => by rw [gV_sV, if_neg (fun z => hf z.2.1)]; exact M.2.2 f hf⟩
theorem MEq.sC {σ σ' : St} {k f i : Nat} {x : Int32} (M : MEq σ σ') (hk : k < 100) (h8 : k ≠ 8) : MEq σ (sV σ' k f i x) := ⟨M.1, fun k' f' i' hk' => by rw [gV_sV, if_neg (by omega)]; exact M.2.1 k' f' i' hk', fun f' hf => by rw [gV_sV, if_neg (by omega)]; exact M.2.2 f' hf⟩
theorem MEq.sR {σ σ' : St} {k f i x : Nat} (M : MEq σ σ') : MEq σ (sR σ' k f i x) := ⟨M.1, M.2.1, M.2.2⟩
theorem nI_m1 {a q : Nat} (ha : a ≤ 40) (hq : q ≤ 40) : (nI a - 1 = nI q) ↔ a = q + 1 := by
  cases a with
  | zero => exact ⟨fun z => absurd z.symm (by rw [show nI 0 - 1 = -1 by decide]; exact fun y => (nI_nm1 hq).mp y), fun z => absurd z (by omega)⟩
  | succ r => rw [nI_pred, nI_eq (by omega) (by omega)]; omega
section CU
variable {A : Ad} {σ σ' : St} {X : Cx} {px : String → GM → Prop} {b d : Nat}
theorem hr_inj (W : WF A σ) {k r s : Nat} (hk : rk k = true) (h1 : r ≤ gL σ k) (h2 : s ≤ gL σ k) : (hr A k r = hr A k s) ↔ r = s := by
  refine ⟨fun h => ?_, fun h => by rw [h]⟩
  cases r with
  | zero =>
    cases s with
    | zero => rfl
    | succ s => rw [hr_0, hr_s] at h; cases h
  | succ r =>
    cases s with
    | zero => rw [hr_0, hr_s] at h; cases h
    | succ s =>
      rw [hr_s, hr_s] at h
      have h' := Option.some.inj h
      have e1 := (W.1 k r hk (by omega)).1
      rw [h', (W.1 k s hk (by omega)).1] at e1
      have := congrArg Prod.snd (Option.some.inj e1)
      have e2 : s = r := this
      omega
theorem hr_nn {k r : Nat} (h : r ≠ 0) : ¬ hr A k r = none := by
  cases r with
  | zero => exact absurd rfl h
  | succ r => rw [hr_s]; exact fun z => nomatch z
theorem q_for {post : Int32 → GM → Prop} {o : Nat} {m l : Int32} (W : WF A σ) (ho : o < gL σ 5) : w_X5_isFor X post px (some (A.1 5 o)) m l (hp A σ) = post (if (gV σ 5 0 o >>> (m &&& 31)) &&& 1 = 1 then (if (gV σ 5 1 o >>> (l &&& 31)) &&& 1 = 1 then 1 else 0) else 0) (hp A σ) := by
  unfold w_X5_isFor w_X5_isFor_b26 w_X5_isFor_b27 w_X7_isIn w_X7_isIn_b14
  rw [e_GetI W ho hok_5_0]
  by_cases c1 : (gV σ 5 0 o >>> (m &&& 31)) &&& 1 = 1
  · rw [if_pos c1, if_pos c1, p_and nb1]
    try dsimp only
    rw [if_neg (by decide), e_GetI W ho hok_5_1]
    by_cases c2 : (gV σ 5 1 o >>> (l &&& 31)) &&& 1 = 1
    · rw [if_pos c2, if_pos c2, p_and nb1]
      try dsimp only
      rw [if_neg (by decide), p_and nb1]
    · rw [if_neg c2, if_neg c2, p_and nb0]
      try dsimp only
      rw [if_pos rfl, p_and nb0]
  · rw [if_neg c1, if_neg c1, p_and nb0]
    try dsimp only
    rw [if_pos rfl, p_and nb0]
theorem q_fixOf {post : Int32 → GM → Prop} (W : WF A σ) (hb : b < gL σ 1) (hd : d < gL σ 2) : w_X1_isFixOf X post px (some (A.1 1 b)) (hr A 1 (gR σ 2 3 d)) (hp A σ) = post (cu_mn σ b d) (hp A σ) := by
  have h1 : gR σ 1 5 b ≤ gL σ 1 := W.2.2 1 5 b hb
  have h2 : gR σ 2 3 d ≤ gL σ 1 := W.2.2 2 3 d hd
  unfold w_X1_isFixOf w_X1_isFixOf_b19 w_X1_isFixOf_b20 cu_mn
  rw [eR_1_5 W hb]
  by_cases z : gR σ 1 5 b = 0
  · rw [if_pos (by rw [z]; rfl), p_and nb0]
    by_cases y : gR σ 2 3 d = 0
    · rw [if_pos y]
    · rw [if_neg y, if_neg (fun h => y (by omega))]
  · rw [if_neg (hr_nn z), eR_1_5 W hb]
    by_cases y : gR σ 1 5 b = gR σ 2 3 d
    · rw [if_pos ((hr_inj W rfl h1 h2).mpr y), p_and nb1, if_neg (fun h => z (by omega)), if_pos y]
    · rw [if_neg (fun h => y ((hr_inj W rfl h1 h2).mp h)), p_and nb0]
      by_cases x : gR σ 2 3 d = 0
      · rw [if_pos x]
      · rw [if_neg x, if_neg y]
theorem q_offer (W : WF A σ) (P : PI σ) (hb : b < gL σ 1) : ∃ o, gR σ 1 2 b = o + 1 ∧ o < gL σ 5 ∧ gV σ 5 0 o = gV σ 108 b 0 ∧ gV σ 5 1 o = gV σ 109 b 0 ∧ gV σ 5 2 o = gV σ 112 b 0 := by
  obtain ⟨ho, ho1, ho2, ho3⟩ := P.2.2.2.1.2.1 b hb
  obtain ⟨oo, hoo⟩ : ∃ oo, gR σ 1 2 b = oo + 1 := ⟨gR σ 1 2 b - 1, by omega⟩
  have h2 : gR σ 1 2 b ≤ gL σ 5 := W.2.2 1 2 b hb
  rw [hoo, Nat.add_sub_cancel] at ho1 ho2 ho3
  exact ⟨oo, hoo, by omega, ho1, ho2, ho3⟩
theorem q_open {post : Int32 → GM → Prop} (W : WF A σ) (P : PI σ) (hb : b < gL σ 1) (hd : d < gL σ 2) : w_X7_isOpenTo X post px (some (A.1 7 0)) (some (A.1 1 b)) (some (A.1 2 d)) (hp A σ) = post (cu_op σ b d) (hp A σ) := by
  have Q := P.1
  obtain ⟨o, hoo, hol, o1, o2, -⟩ := q_offer W P hb
  have dv := P.2.2.1.1 d hd
  have hfr : (if (gV σ 5 0 o >>> (gV σ 2 0 d &&& 31)) &&& 1 = 1 then (if (gV σ 5 1 o >>> (gV σ 2 1 d &&& 31)) &&& 1 = 1 then 1 else 0) else 0) = cu_fr σ b d := by
    unfold cu_fr
    rw [o1, o2, dv.1, dv.2.1]
  unfold w_X7_isOpenTo w_X7_isOpenTo_b52 w_X7_isOpenTo_b48 w_X7_isOpenTo_b53 cu_op
  rw [e_Is' W (sL_7 Q) hcl_7, q_roll W Q hb]
  try dsimp only
  by_cases c1 : rl σ b = 0
  · rw [if_pos c1, if_pos c1, p_and nb0]
  · rw [if_neg c1, if_neg c1, eR_1_2 W hb, hoo, hr_s, e_GetI W hd hok_2_0, e_GetI W hd hok_2_1, e_Is' W hol hcl_5, q_for W hol, hfr]
    try dsimp only
    by_cases c2 : cu_fr σ b d = 0
    · rw [if_pos c2, if_pos c2, p_and nb0]
    · rw [if_neg c2, if_neg c2, e_GetI W hd hok_2_2, e_GetI W hb hok_1_10]
      by_cases c3 : gV σ 2 2 d < gV σ 1 10 b
      · rw [if_pos c3, if_pos c3, p_and nb1]
      · rw [if_neg c3, if_neg c3, eR_2_3 W hd, e_Is' W hb hcl_1, q_fixOf W hb hd]
        try dsimp only
        by_cases c4 : cu_mn σ b d = 0
        · rw [if_pos c4, if_pos c4, p_and nb0]
        · rw [if_neg c4, if_neg c4, p_and nb1]
theorem cu_01 (σ : St) (b d : Nat) : cu_op σ b d = 0 ∨ cu_op σ b d = 1 := by
  unfold cu_op
  by_cases c1 : rl σ b = 0
  · rw [if_pos c1]; exact Or.inl rfl
  · rw [if_neg c1]
    by_cases c2 : cu_fr σ b d = 0
    · rw [if_pos c2]; exact Or.inl rfl
    · rw [if_neg c2]
      by_cases c3 : gV σ 2 2 d < gV σ 1 10 b
      · rw [if_pos c3]; exact Or.inr rfl
      · rw [if_neg c3]
        by_cases c4 : cu_mn σ b d = 0
        · rw [if_pos c4]; exact Or.inl rfl
        · rw [if_neg c4]; exact Or.inr rfl
end CU
