/-! writeBuild: the reference's side -/
section W8
variable {A A' A'' : Ad} {σ σ' τ κ κ' : St} {X : Cx} {px : String → GM → Prop} {i v m n j f b : Nat} {x y : Int32} {c d : List Int32}
def Wq (σ κ : St) : Prop := (∀ k, k ≠ 9 → k ≠ 50 → gL κ k = gL σ k) ∧ (∀ k, k ≠ 8 → k ≠ 9 → k ≠ 50 → ∀ f j, gV κ k f j = gV σ k f j) ∧ (∀ f, f ≠ 36 → gV κ 8 f 0 = gV σ 8 f 0) ∧ (∀ k, k ≠ 8 → k ≠ 9 → k ≠ 50 → ∀ f j, gR κ k f j = gR σ k f j) ∧ (∀ k, k ≠ 9 → k ≠ 50 → ∀ j, gN κ k j = gN σ k j)
theorem Wq.tr (h : Wq σ τ) (h' : Wq τ κ) : Wq σ κ := ⟨fun k a b => (h'.1 k a b).trans (h.1 k a b), fun k a b c f j => (h'.2.1 k a b c f j).trans (h.2.1 k a b c f j), fun f a => (h'.2.2.1 f a).trans (h.2.2.1 f a), fun k a b c f j => (h'.2.2.2.1 k a b c f j).trans (h.2.2.2.1 k a b c f j), fun k a b j => (h'.2.2.2.2 k a b j).trans (h.2.2.2.2 k a b j)⟩
theorem Wq.bq (B : Bq σ κ i) : Wq σ κ := ⟨fun k _ b => B.1 k b, fun k _ b c f j => B.2.2.1 k b c f j, fun f _ => B.2.2.1 8 (by decide) (by decide) f 0, fun k _ b c f j => B.2.2.2.1 k b c f j, fun k _ b j => B.2.2.2.2.1 k b j⟩
theorem Wq.s36 : Wq σ (sV σ 8 36 0 x) := ⟨fun _ _ _ => rfl, fun k a _ _ f j => by rw [gV_sV, if_neg (fun z => a z.1)], fun f a => by rw [gV_sV, if_neg (fun z => a z.2.1)], fun _ _ _ _ _ _ => rfl, fun _ _ _ _ => rfl⟩
theorem Wq.s9 : Wq σ (sW σ 9 n) := ⟨fun k a _ => by rw [gL_sW, if_neg a], fun k _ a _ f j => by rw [gV_sW, if_neg (fun z => a z.1)], fun f _ => by rw [gV_sW, if_neg (fun z => absurd z.1 (by decide))], fun k _ a _ f j => by rw [gR_sW, if_neg (fun z => a z.1)], fun k a _ j => by rw [gN_sW, if_neg (fun z => a z.1)]⟩
theorem Wq.s34 : Wq σ (sR σ 8 34 0 n) := ⟨fun _ _ _ => rfl, fun _ _ _ _ _ _ => rfl, fun _ _ => rfl, fun k a _ _ f j => by rw [gR_sR, if_neg (fun z => a z.1)], fun _ _ _ _ => rfl⟩
theorem Wq.sJ {x : Int64} : Wq σ (sJ σ x) := ⟨fun _ _ _ => rfl, fun _ _ _ _ _ _ => rfl, fun _ _ => rfl, fun _ _ _ _ _ _ => rfl, fun _ _ _ _ => rfl⟩
theorem P0_34 (Q : P0 σ) : P0 (sR σ 8 34 0 n) := by
  obtain ⟨q1, q2, q3, q4, q5⟩ := Q
  refine ⟨q1, ?_, fun f hf => ⟨(q3 f hf).1, ?_, (q3 f hf).2.2⟩, ⟨q4.1, fun d hd => ⟨(q4.2 d hd).1, ?_⟩⟩, ⟨q5.1, fun d hd => ⟨(q5.2 d hd).1, ?_⟩⟩⟩
  · simp only [gR_sR]
    exact q2
  · rw [gR_sR, if_neg (fun z => by rw [z.2.1] at hf; exact absurd hf (by decide))]
    exact (q3 f hf).2.1
  · rw [gR_sR, if_neg (fun z => absurd z.1 (by decide))]; exact (q4.2 d hd).2
  · rw [gR_sR, if_neg (fun z => absurd z.1 (by decide))]; exact (q5.2 d hd).2
theorem P0_s9 (Q : P0 σ) : P0 (sW σ 9 0) := P0_c (l := [9]) (m := [9]) (n := [9]) (EqL.rf.sW (by decide)) (EqR.rf.sW (by decide)) (EqN.rf.sW (by decide)) (by decide) (by decide) (by decide) Q
theorem r8A (T : Ts X A κ A' κ' i) (Q : P0 κ) : A.1 8 0 = A'.1 8 0 := (T.2.2.1.1 8 0 (sL_8 Q)).symm
theorem r8Is {P : Prop} (T : Ts X A κ A' κ' i) (Q : P0 κ) : wIs (hp A' κ') (some (A.1 8 0)) 8 P = P := by
  rw [r8A T Q]; exact e_Is' T.1 (sL_8 (T.2.2.2.Q Q)) hcl_8
theorem r834 {K : Option Nat → Prop} (T : Ts X A κ A' κ' i) (Q : P0 κ) (h34 : gR κ 8 34 0 = i + 1) (hi : i < gL κ 9) : wGetR (hp A' κ') (some (A.1 8 0)) 8 34 K = K (some (A.1 9 i)) := by
  rw [r8A T Q, eR_8_34 T.1 (sL_8 (T.2.2.2.Q Q)), T.2.2.2.2.2.2.1 8 (by decide) (by decide), h34, hr_s, tA T hi]
theorem r87 {K : Int32 → Prop} (T : Ts X A κ A' κ' i) (Q : P0 κ) (hb : b < 10) : wGetR (hp A' κ') (some (A.1 8 0)) 8 7 (fun r10 => wAld (hp A' κ') r10 (nI b) 0 K) = K (gV κ 107 b 0) := by
  have Q' := T.2.2.2.Q Q
  rw [r8A T Q, s8_7 T.1 Q', e_Ald T.1 (sL_107 Q') hak_107 (by decide), sN_107 Q', p_and (vp_in_nI hb (by omega)), nI_clamp (by omega), T.2.2.2.gv (by decide) (by decide)]
theorem r813 {K : Int32 → Prop} (T : Ts X A κ A' κ' i) (Q : P0 κ) (hb : b < 10) : wGetR (hp A' κ') (some (A.1 8 0)) 8 13 (fun r10 => wAld (hp A' κ') r10 (nI b) 0 K) = K (gV κ 113 b 0) := by
  have Q' := T.2.2.2.Q Q
  rw [r8A T Q, s8_13 T.1 Q', e_Ald T.1 (sL_113 Q') hak_113 (by decide), sN_113 Q', p_and (vp_in_nI hb (by omega)), nI_clamp (by omega), T.2.2.2.gv (by decide) (by decide)]
theorem q_nob8 {post : Int32 → GM → Prop} (W : WF A σ) (Q : P0 σ) (h21 : gV σ 8 21 0 = nI n) (hn : n ≤ 10) (hb : b < n) : w_X8_noBuild X post px (some (A.1 8 0)) (nI b) (hp A σ) = post 0 (hp A (sV σ 8 36 0 0)) := by
  unfold w_X8_noBuild w_X8_isBuild
  rw [e_Is' W (sL_8 Q) hcl_8, e_GetI W (sL_8 Q) hok_8_21, q_in, h21, if_neg (q_nb hb (by omega))]
  try dsimp only
  rw [p_and nb1, if_neg i10]
  unfold w_X8_noBuild_b14 w_X8_noBuild_b29
  have W1 : WF A (sV σ 8 36 0 0) := by rw [WF_sV]; exact W
  have e36 : gV (sV σ 8 36 0 0) 8 36 0 = 0 := by rw [gV_sV, if_pos ⟨rfl, rfl, rfl⟩]
  rw [e_PutI W (sL_8 Q) hok_8_36, e_GetI W1 (show 0 < gL (sV σ 8 36 0 0) 8 from sL_8 Q) hok_8_36, e36, if_pos (by decide), p_and nb0]
theorem Bq.le (B : Bq σ σ' i) (k : Nat) : gL σ k ≤ gL σ' k := by
  by_cases e : k = 50
  · rw [e]; exact B.2.1
  · rw [B.1 k e]; exact Nat.le_refl _
theorem hr_834 : hok 8 8 34 11 = true := by decide
theorem q_wb8 {post : Int32 → GM → Prop} (W : WF A σ') (hx : hX X A) (Q : P0 σ') (hF : bF σ') (h21 : gV σ' 8 21 0 = nI n) (hn : n ≤ 10) (hb : b < n) (hm : gV σ' 107 b 0 = nI m) (hm1 : m < 1000) (h13 : gV σ' 113 b 0 = -1 ↔ gR σ 1 5 b = 0) (hst : ∀ (A' : Ad) (κ : St), WF A' κ → P0 κ → Wq σ' κ → ∀ (post : Option Nat → GM → Prop), w_X8_status X post px (some (A'.1 8 0)) (nI b) (hp A' κ) = post (some (X.2.2.2 (stn σ b))) (hp A' κ)) (kk : ∀ (A' : Ad) (τ κ : St) (w v : Nat), WF A' κ → hX X A' → Nx A A' σ' → Bq (sW (sV σ' 8 36 0 0) 9 0) τ (gL σ' 9) → Sb τ (gL σ' 9) w [] → Bq (sR τ 8 34 0 (gL σ' 9 + 1)) κ (gL σ' 9) → Sb κ (gL σ' 9) v (txt σ b m) → post (nI (txt σ b m).length) (hp A' κ)) : w_X8_writeBuild X post px (some (A.1 8 0)) (nI b) (hp A σ') := by
  have hb10 : b < 10 := by omega
  unfold w_X8_writeBuild
  rw [e_Is' W (sL_8 Q) hcl_8, q_nob8 W Q h21 hn hb]
  try dsimp only
  rw [if_pos rfl]
  have W1 : WF A (sV σ' 8 36 0 0) := by rw [WF_sV]; exact W
  refine e_New 9 hx W1 rfl rfl (fun A1 W2 hx1 hN1 => ?_)
  rw [show gL (sV σ' 8 36 0 0) 9 = gL σ' 9 from rfl]
  have hi0 : gL σ' 9 < gL (sW (sV σ' 8 36 0 0) 9 0) 9 := by rw [gL_sW, if_pos rfl]; exact Nat.lt_succ_self _
  have F1 : bF (sW (sV σ' 8 36 0 0) 9 0) := fun j w => by
    rw [gV_sW, if_neg (fun z => absurd z.1 (by decide)), gV_sV, if_neg (fun z => absurd z.1 (by decide))]; exact hF j w
  have Z : gV (sW (sV σ' 8 36 0 0) 9 0) 9 3 (gL σ' 9) = 0 := by rw [gV_sW, if_pos ⟨rfl, rfl⟩]
  have Q1 : P0 (sW (sV σ' 8 36 0 0) 9 0) := P0_s9 (show P0 (sV σ' 8 36 0 0) from Q)
  have n8 : A.1 8 0 = A1.1 8 0 := (hN1.1 8 0 (sL_8 Q)).symm
  have wq1 : Wq σ' (sW (sV σ' 8 36 0 0) 9 0) := Wq.s36.tr Wq.s9
  have le1 : ∀ k, gL σ' k ≤ gL (sW (sV σ' 8 36 0 0) 9 0) k := fun k => sW_le (σ := sV σ' 8 36 0 0) k
  refine b_init (Ts.rf W2 hx1 F1) hi0 Z (fun A2 τ2 w2 T2 S2 => ?_)
  have Q2 : P0 τ2 := T2.2.2.2.Q Q1
  have m8 : A.1 8 0 = A2.1 8 0 := n8.trans ((T2.2.2.1.1 8 0 (sL_8 Q1)).symm)
  have m9 : A1.1 9 (gL σ' 9) = A2.1 9 (gL σ' 9) := tA T2 hi0
  try dsimp only
  rw [m8, m9, e_PutR T2.1 (sL_8 Q2) hr_834 (by decide)]
  have Wk : WF A2 (sR τ2 8 34 0 (gL σ' 9 + 1)) := WF_sR T2.1 (show gL σ' 9 + 1 ≤ gL τ2 9 + 0 from S2.1)
  have Fk : bF (sR τ2 8 34 0 (gL σ' 9 + 1)) := T2.2.2.2.2.2.2.2.2.2.2.2.1
  have Qk : P0 (sR τ2 8 34 0 (gL σ' 9 + 1)) := P0_34 Q2
  have hik : gL σ' 9 < gL (sR τ2 8 34 0 (gL σ' 9 + 1)) 9 := S2.1
  have Sk : Sb (sR τ2 8 34 0 (gL σ' 9 + 1)) (gL σ' 9) w2 [] := by
    obtain ⟨s1, s2, s3⟩ := S2
    refine ⟨s1, ?_, s3⟩
    rw [gR_sR, if_neg (fun z => absurd z.1 (by decide))]; exact s2
  have h34 : gR (sR τ2 8 34 0 (gL σ' 9 + 1)) 8 34 0 = gL σ' 9 + 1 := by rw [gR_sR, if_pos ⟨rfl, rfl, rfl⟩]
  have wqk : Wq σ' (sR τ2 8 34 0 (gL σ' 9 + 1)) := (wq1.tr (Wq.bq T2.2.2.2)).tr Wq.s34
  have T0 : Ts X A2 (sR τ2 8 34 0 (gL σ' 9 + 1)) A2 (sR τ2 8 34 0 (gL σ' 9 + 1)) (gL σ' 9) := Ts.rf Wk T2.2.1 Fk
  have NX : ∀ (A' : Ad), Nx A2 A' (sR τ2 8 34 0 (gL σ' 9 + 1)) → Nx A A' σ' := fun A' h => ((show Nx A A1 σ' from hN1).tr T2.2.2.1 le1).tr (σ' := sR τ2 8 34 0 (gL σ' 9 + 1)) h (fun k => Nat.le_trans (le1 k) (T2.2.2.2.le k))
  have kk2 : ∀ (A' : Ad) (κ : St) (v : Nat), Ts X A2 (sR τ2 8 34 0 (gL σ' 9 + 1)) A' κ (gL σ' 9) → Sb κ (gL σ' 9) v (txt σ b m) → post (nI (txt σ b m).length) (hp A' κ) := fun A' κ v T S => kk A' τ2 κ w2 v T.1 T.2.1 (NX A' T.2.2.1) T2.2.2.2 S2 T.2.2.2 S
  generalize sR τ2 8 34 0 (gL σ' 9 + 1) = κ at *
  generalize gL σ' 9 = i at *
  try dsimp only
  rw [r834 T0 Qk h34 hik, tIs T0 hik]
  refine b_chr T0 Sk hik (by decide) (fun A3 κ3 w3 T3 S3 => ?_)
  try dsimp only
  rw [r87 T3 Qk hb10, wqk.2.1 107 (by decide) (by decide) (by decide), hm, tIs T3 hik]
  refine b_int T3 S3 hik hm1 (by have := dsz3 (m := m); show 1 + dsz m ≤ 30; omega) (fun A4 κ4 w4 T4 S4 => ?_)
  try dsimp only
  rw [r813 T4 Qk hb10, wqk.2.1 113 (by decide) (by decide) (by decide)]
  have l4 := tk_len hm1
  have l9 := tk_len2 (σ := σ) (b := b) hm1
  have ls := stl (σ := σ) (b := b)
  have go : w_X8_writeBuild_b58 X post px (some (A2.1 8 0)) (nI b) (some (X.2.2.2 (tk σ b))) (some (A2.1 9 i)) (hp A4 κ4) := by
    unfold w_X8_writeBuild_b58
    rw [tIs T4 hik]
    refine b_str T4 S4 hik (Nat.lt_trans tk2 (by decide)) (by rw [gl5 ⟨tk σ b, tk2⟩]; omega) (fun A5 κ5 w5 T5 S5 => ?_)
    rw [r8Is T5 Qk, r8A T5 Qk, hst A5 κ5 T5.1 (T5.2.2.2.Q Qk) (wqk.tr (Wq.bq T5.2.2.2)), ← r8A T5 Qk]
    try dsimp only
    rw [tIs T5 hik]
    refine b_str T5 S5 hik stn9 (by omega) (fun A6 κ6 w6 T6 S6 => ?_)
    rw [r834 T6 Qk h34 hik, tIs T6 hik, b_len T6 S6 hik]
    exact kk2 A6 κ6 w6 T6 S6
  by_cases h : gR σ 1 5 b = 0
  · rw [if_pos (h13.mpr h)]
    have e : tk σ b = 1 := if_pos h
    rw [e] at go
    exact go
  · rw [if_neg (fun z => h (h13.mp z))]
    have e : tk σ b = 0 := if_neg h
    rw [e] at go
    exact go
end W8
