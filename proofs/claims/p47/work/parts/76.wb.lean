/-! writeBuild: the class's text, the reference's text -/
section WB
variable {A A' A'' : Ad} {σ σ' τ κ κ' : St} {X : Cx} {px : String → GM → Prop} {i v m n j f b : Nat} {x y : Int32} {c d : List Int32}
def stn (σ : St) (b : Nat) : Nat := if gV σ 1 7 b = 100 then 2 else if gV σ 1 7 b = 119 then 3 else if gV σ 1 7 b = 114 then 4 else if hld σ b = 118 then 6 else if hld σ b = 99 then 7 else if hld σ b = 116 then 8 else 5
def tk (σ : St) (b : Nat) : Nat := if gR σ 1 5 b = 0 then 1 else 0
def txt (σ : St) (b m : Nat) : List Int32 := ((([] ++ [118]) ++ dgs m) ++ gByt.getD (tk σ b) []) ++ gByt.getD (stn σ b) []
theorem dsz3 : dsz m ≤ 3 := by
  unfold dsz
  by_cases h : m < 10
  · rw [if_pos h]; decide
  · rw [if_neg h]
    by_cases h2 : m < 100
    · rw [if_pos h2]; decide
    · rw [if_neg h2]; exact Nat.le_refl _
theorem stn9 : stn σ b < gLen.length := by
  unfold stn
  repeat' (first | (show (_ : Nat) < 9; decide) | split)
theorem tk2 : tk σ b < 2 := by
  unfold tk
  split <;> decide
theorem gl5 : ∀ s : Fin 2, gLen.getD s.val 0 = 5 := by decide
theorem gb5 : ∀ s : Fin 2, (gByt.getD s.val []).length = 5 := by decide
theorem stl : gLen.getD (stn σ b) 0 ≤ 15 := (gl15 ⟨stn σ b, stn9⟩).1
theorem hld4 : hld σ b = 45 ∨ hld σ b = 118 ∨ hld σ b = 99 ∨ hld σ b = 116 := by
  unfold hld
  split
  · split
    · unfold hld2
      have h3 : ∀ p q, hld3 p q = 45 ∨ hld3 p q = 118 ∨ hld3 p q = 99 ∨ hld3 p q = 116 := fun p q => by
        unfold hld3
        split
        · exact Or.inl rfl
        · split
          · exact Or.inl rfl
          · exact Or.inr (Or.inr (Or.inr rfl))
      split
      · exact h3 _ _
      · split
        · exact h3 _ _
        · exact Or.inr (Or.inr (Or.inl rfl))
    · exact Or.inr (Or.inl rfl)
  · exact Or.inr (Or.inl rfl)
/-! the standing -/
theorem q_st7 {post : Option Nat → GM → Prop} (W : WF A σ) (Q : P0 σ) (hb : b < gL σ 1) : w_X7_standingOf X post px (some (A.1 7 0)) (some (A.1 1 b)) (hp A σ) = post (some (X.2.2.2 (stn σ b))) (hp A σ) := by
  unfold w_X7_standingOf w_X7_standingOf_b46 stn
  rw [e_GetI W hb hok_1_7]
  by_cases c1 : gV σ 1 7 b = 100
  · rw [if_pos c1, if_pos c1]
  · rw [if_neg c1, if_neg c1, e_GetI W hb hok_1_7]
    by_cases c2 : gV σ 1 7 b = 119
    · rw [if_pos c2, if_pos c2]
    · rw [if_neg c2, if_neg c2, e_GetI W hb hok_1_7]
      by_cases c3 : gV σ 1 7 b = 114
      · rw [if_pos c3, if_pos c3]
      · rw [if_neg c3, if_neg c3, e_Is' W (sL_7 Q) hcl_7]
        unfold w_X7_standingOfApproved w_X7_standingOfApproved_b41
        rw [e_Is' W (sL_7 Q) hcl_7, q_hold W Q hb]
        try dsimp only
        by_cases c4 : hld σ b = 118
        · rw [if_pos c4, if_pos c4]
        · rw [if_neg c4, if_neg c4]
          by_cases c5 : hld σ b = 99
          · rw [if_pos c5, if_pos c5]
          · rw [if_neg c5, if_neg c5]
            by_cases c6 : hld σ b = 116
            · rw [if_pos c6, if_pos c6]
            · rw [if_neg c6, if_neg c6]
/-! what a builder's work leaves -/
theorem Bq.Q (B : Bq σ σ' i) (Q : P0 σ) : P0 σ' := P0_c (l := [50]) (m := [9, 50]) (n := [50]) (fun k hk => B.1 k (fun z => hk (by rw [z]; decide))) (fun k hk => B.2.2.2.1 k (fun z => hk (by rw [z]; decide)) (fun z => hk (by rw [z]; decide))) (fun k hk => B.2.2.2.2.1 k (fun z => hk (by rw [z]; decide))) (by decide) (by decide) (by decide) Q
theorem Bq.gv (B : Bq σ σ' i) {k : Nat} (h : k ≠ 9) (h2 : k ≠ 50) : gV σ' k f j = gV σ k f j := B.2.2.1 k h h2 f j
theorem Bq.stn (B : Bq σ σ' i) : stn σ' b = stn σ b := by
  unfold Jvm.Pilot.CReleasetrainLaw_law_r4465_111027.stn hld
  simp only [B.gv (k := 1) (by decide) (by decide), B.gv (k := 7) (by decide) (by decide)]
theorem r7A (T : Ts X A σ A' σ' 0) (Q : P0 σ) : A.1 7 0 = A'.1 7 0 := (T.2.2.1.1 7 0 (sL_7 Q)).symm
theorem r7Is {P : Prop} (T : Ts X A σ A' σ' 0) (Q : P0 σ) : wIs (hp A' σ') (some (A.1 7 0)) 7 P = P := by
  rw [r7A T Q]; exact e_Is' T.1 (sL_7 (T.2.2.2.Q Q)) hcl_7
theorem r76 {K : Option Nat → Prop} (T : Ts X A σ A' σ' 0) (Q : P0 σ) (h9 : 0 < gL σ 9) : wGetR (hp A' σ') (some (A.1 7 0)) 7 6 K = K (some (A.1 9 0)) := by
  rw [r7A T Q, s7_6 T.1 (T.2.2.2.Q Q), tA T h9]
theorem r1A (T : Ts X A σ A' σ' 0) (hb : b < gL σ 1) : A.1 1 b = A'.1 1 b := (T.2.2.1.1 1 b hb).symm
theorem r1L (T : Ts X A σ A' σ' 0) (hb : b < gL σ 1) : b < gL σ' 1 := by rw [T.2.2.2.1 1 (by decide)]; exact hb
theorem r1Is {P : Prop} (T : Ts X A σ A' σ' 0) (hb : b < gL σ 1) : wIs (hp A' σ') (some (A.1 1 b)) 1 P = P := by
  rw [r1A T hb]; exact e_Is' T.1 (r1L T hb) hcl_1
theorem r11 {K : Int32 → Prop} (T : Ts X A σ A' σ' 0) (hb : b < gL σ 1) : wGetI (hp A' σ') (some (A.1 1 b)) 1 1 K = K (gV σ 1 1 b) := by
  rw [r1A T hb, e_GetI T.1 (r1L T hb) hok_1_1, T.2.2.2.gv (by decide) (by decide)]
theorem rFix {post : Int32 → GM → Prop} (T : Ts X A σ A' σ' 0) (hb : b < gL σ 1) : w_X1_isFix X post px (some (A.1 1 b)) (hp A' σ') = post (if gR σ 1 5 b = 0 then 0 else 1) (hp A' σ') := by
  unfold w_X1_isFix w_X1_isFix_b12
  rw [r1A T hb, eR_1_5 T.1 (r1L T hb), T.2.2.2.2.2.2.1 1 (by decide) (by decide)]
  by_cases h : gR σ 1 5 b = 0
  · rw [if_pos h, h, hr_0, if_pos rfl, p_and nb0]
  · obtain ⟨q, hq⟩ : ∃ q, gR σ 1 5 b = q + 1 := ⟨gR σ 1 5 b - 1, by omega⟩
    rw [if_neg h, hq, hr_s, if_neg (fun z => by cases z), p_and nb1]
theorem rSt7 {post : Option Nat → GM → Prop} (T : Ts X A σ A' σ' 0) (Q : P0 σ) (hb : b < gL σ 1) : w_X7_standingOf X post px (some (A.1 7 0)) (some (A.1 1 b)) (hp A' σ') = post (some (X.2.2.2 (stn σ b))) (hp A' σ') := by
  rw [r7A T Q, r1A T hb, q_st7 T.1 (T.2.2.2.Q Q) (r1L T hb), T.2.2.2.stn]
theorem Ts.rf (W : WF A σ) (hx : hX X A) (h : bF σ) : Ts X A σ A σ i := ⟨W, hx, ⟨fun _ _ _ => rfl, rfl⟩, Bq.rf h⟩
theorem tk_len (hm : m < 1000) : ([] ++ [118] ++ dgs m : List Int32).length ≤ 4 := by
  rw [List.length_append, dg_len]
  have := dsz3 (m := m)
  show 1 + dsz m ≤ 4
  omega
theorem tk_len2 (hm : m < 1000) : (([] ++ [118] ++ dgs m) ++ gByt.getD (tk σ b) [] : List Int32).length ≤ 9 := by
  rw [List.length_append, gb5 ⟨tk σ b, tk2⟩]
  have := tk_len hm
  omega
theorem q_wb7 {post : Int32 → GM → Prop} (W : WF A σ) (hx : hX X A) (Q : P0 σ) (hL : Lst σ 32 (gL σ 1)) (h10 : gL σ 1 ≤ 10) (hF : bF σ) (S : Sb σ 0 v c) (hb : b < gL σ 1) (hm : gV σ 1 1 b = nI m) (hm1 : m < 1000) (kk : ∀ (A' : Ad) (σ' : St) (v' : Nat), Ts X A σ A' σ' 0 → Sb σ' 0 v' (txt σ b m) → post (nI (txt σ b m).length) (hp A' σ')) : w_X7_writeBuild X post px (some (A.1 7 0)) (nI b) (hp A σ) := by
  have h9 : 0 < gL σ 9 := S.1
  unfold w_X7_writeBuild
  rw [e_Is' W (sL_7 Q) hcl_7, q_kb W Q hL h10, if_neg (q_nb hb (by omega)), nI_clamp (by omega)]
  try dsimp only
  have T0 : Ts X A σ A σ 0 := Ts.rf W hx hF
  rw [r76 T0 Q h9, tIs T0 h9]
  refine b_set0 T0 S h9 (fun A1 σ1 w1 T1 S1 => ?_)
  rw [r76 T1 Q h9, tIs T1 h9]
  refine b_chr T1 S1 h9 (by decide) (fun A2 σ2 w2 T2 S2 => ?_)
  rw [r76 T2 Q h9, r11 T2 hb, tIs T2 h9, hm]
  refine b_int T2 S2 h9 hm1 (by have := dsz3 (m := m); show 1 + dsz m ≤ 30; omega) (fun A3 σ3 w3 T3 S3 => ?_)
  rw [r76 T3 Q h9, r1Is T3 hb, rFix T3 hb]
  try dsimp only
  have l4 := tk_len hm1
  have l9 := tk_len2 (σ := σ) (b := b) hm1
  have ls := stl (σ := σ) (b := b)
  have go : w_X7_writeBuild_b56 X post px (some (A.1 7 0)) (some (A.1 1 b)) (some (X.2.2.2 (tk σ b))) (some (A.1 9 0)) (hp A3 σ3) := by
    unfold w_X7_writeBuild_b56
    rw [tIs T3 h9]
    refine b_str T3 S3 h9 (Nat.lt_trans tk2 (by decide)) (by rw [gl5 ⟨tk σ b, tk2⟩]; omega) (fun A4 σ4 w4 T4 S4 => ?_)
    rw [r76 T4 Q h9, r7Is T4 Q, rSt7 T4 Q hb]
    try dsimp only
    rw [tIs T4 h9]
    refine b_str T4 S4 h9 stn9 (by omega) (fun A5 σ5 w5 T5 S5 => ?_)
    rw [r76 T5 Q h9, tIs T5 h9, b_len T5 S5 h9]
    exact kk A5 σ5 w5 T5 S5
  by_cases h : gR σ 1 5 b = 0
  · rw [if_pos h, if_pos rfl]
    have e : tk σ b = 1 := if_pos h
    rw [e] at go
    exact go
  · rw [if_neg h, if_neg i10]
    have e : tk σ b = 0 := if_neg h
    rw [e] at go
    exact go
end WB
