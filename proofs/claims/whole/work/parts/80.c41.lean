/-! writeBuild -/
section CS
variable {X : Cx} {xs : Nat → Int32} {Ls b i : Nat} {v1 v2 v3 v4 : Option Nat} {g : GM}
section PW
variable {σ τ : St} {A : Ad} {k w n : Nat} {t : List Int32} {x : Int32}
theorem pw_1 (P : PI σ) (H : Wq σ τ) : P1 τ := by
  obtain ⟨EL, EV, v8, ER, EN⟩ := H
  obtain ⟨q1, q2, q3, q4, q5, q6, q7, q8, q9, q10⟩ := P.2.1
  have v7 : ∀ f i, gV τ 7 f i = gV σ 7 f i := EV 7 (by decide) (by decide) (by decide)
  unfold P1
  rw [EL 2 (by decide) (by decide), EL 1 (by decide) (by decide), EL 4 (by decide) (by decide), v8 6 (by decide), v8 21 (by decide), v8 31 (by decide), v8 22 (by decide), v8 23 (by decide), v8 24 (by decide), v8 25 (by decide), v8 26 (by decide), v8 35 (by decide), v7, v7, v7, v7, v7, v7]
  exact ⟨q1, q2, q3, q4, q5, q6, q7, q8, q9, q10⟩
theorem pw_2 (P : PI σ) (H : Wq σ τ) : P2 τ := by
  obtain ⟨EL, EV, v8, ER, EN⟩ := H
  exact P2_x (EL 1 (by decide) (by decide)) (EL 2 (by decide) (by decide)) (funext fun f => funext fun i => EV 2 (by decide) (by decide) (by decide) f i) (funext fun f => funext fun i => EV 100 (by decide) (by decide) (by decide) f i) (funext fun f => funext fun i => EV 101 (by decide) (by decide) (by decide) f i) (funext fun f => funext fun i => EV 102 (by decide) (by decide) (by decide) f i) (funext fun f => funext fun i => EV 103 (by decide) (by decide) (by decide) f i) (funext fun f => funext fun i => EV 104 (by decide) (by decide) (by decide) f i) (funext fun f => funext fun i => EV 205 (by decide) (by decide) (by decide) f i) (funext fun f => funext fun i => EV 107 (by decide) (by decide) (by decide) f i) (funext fun f => funext fun i => EV 108 (by decide) (by decide) (by decide) f i) (funext fun f => funext fun i => EV 109 (by decide) (by decide) (by decide) f i) (funext fun f => funext fun i => ER 2 (by decide) (by decide) (by decide) f i) P.2.2.1
theorem pw_3 (P : PI σ) (H : Wq σ τ) : P3 τ := by
  obtain ⟨EL, EV, v8, ER, EN⟩ := H
  refine P3_c (EL 1 (by decide) (by decide)) (fun k hk => EV k (by omega) (by omega) (by omega)) (ER 1 (by decide) (by decide) (by decide)) ?_ P.2.2.2.1
  rw [EL 1 (by decide) (by decide), EL 2 (by decide) (by decide), show gV τ 1 = gV σ 1 from funext fun f => funext fun i => EV 1 (by decide) (by decide) (by decide) f i, show gV τ 205 = gV σ 205 from funext fun f => funext fun i => EV 205 (by decide) (by decide) (by decide) f i]
  exact P.2.2.2.1.2.2.2.1
theorem pw_4 (P : PI σ) (H : Wq σ τ) : P4 τ := by
  obtain ⟨EL, EV, v8, ER, EN⟩ := H
  exact P4_c (fun k hk => EL k (by omega) (by omega)) (fun k hk => EV k (by omega) (by omega) (by omega)) (fun k hk => ER k (by omega) (by omega) (by omega)) (EN 16 (by decide) (by decide)) (v8 33 (by decide)) P.2.2.2.2.1
theorem pw_5 (P : PI σ) (H : Wq σ τ) : P5 τ := by
  obtain ⟨EL, EV, v8, ER, EN⟩ := H
  exact P5_x (EL 20 (by decide) (by decide)) (EL 21 (by decide) (by decide)) (EL 22 (by decide) (by decide)) (EL 23 (by decide) (by decide)) (EL 1 (by decide) (by decide)) (EL 2 (by decide) (by decide)) (EL 3 (by decide) (by decide)) (funext fun f => funext fun i => EV 20 (by decide) (by decide) (by decide) f i) (funext fun f => funext fun i => EV 21 (by decide) (by decide) (by decide) f i) (funext fun f => funext fun i => EV 23 (by decide) (by decide) (by decide) f i) (funext fun f => funext fun i => EV 2 (by decide) (by decide) (by decide) f i) (funext fun f => funext fun i => EV 3 (by decide) (by decide) (by decide) f i) (funext fun f => funext fun i => ER 20 (by decide) (by decide) (by decide) f i) (funext fun f => funext fun i => ER 22 (by decide) (by decide) (by decide) f i) (funext fun f => funext fun i => ER 2 (by decide) (by decide) (by decide) f i) (funext fun f => funext fun i => ER 3 (by decide) (by decide) (by decide) f i) (funext fun i => EN 21 (by decide) (by decide) i) (funext fun i => EN 23 (by decide) (by decide) i) P.2.2.2.2.2.1
theorem pw_7 (P : PI σ) (H : Wq σ τ) : P7 τ := by
  obtain ⟨EL, EV, v8, ER, EN⟩ := H
  unfold P7
  rw [EL 2 (by decide) (by decide), EL 3 (by decide) (by decide), EL 1 (by decide) (by decide), EL 4 (by decide) (by decide)]
  exact ⟨Lst_c (EL 30 (by decide) (by decide)) (EL 40 (by decide) (by decide)) (EV 30 (by decide) (by decide) (by decide)) (ER 30 (by decide) (by decide) (by decide)) (ER 40 (by decide) (by decide) (by decide)) (EN 40 (by decide) (by decide)) P.2.2.2.2.2.2.2.1, Lst_c (EL 31 (by decide) (by decide)) (EL 41 (by decide) (by decide)) (EV 31 (by decide) (by decide) (by decide)) (ER 31 (by decide) (by decide) (by decide)) (ER 41 (by decide) (by decide) (by decide)) (EN 41 (by decide) (by decide)) P.2.2.2.2.2.2.2.2.1, Lst_c (EL 32 (by decide) (by decide)) (EL 42 (by decide) (by decide)) (EV 32 (by decide) (by decide) (by decide)) (ER 32 (by decide) (by decide) (by decide)) (ER 42 (by decide) (by decide) (by decide)) (EN 42 (by decide) (by decide)) P.2.2.2.2.2.2.2.2.2.1, Lst_c (EL 33 (by decide) (by decide)) (EL 43 (by decide) (by decide)) (EV 33 (by decide) (by decide) (by decide)) (ER 33 (by decide) (by decide) (by decide)) (ER 43 (by decide) (by decide) (by decide)) (EN 43 (by decide) (by decide)) P.2.2.2.2.2.2.2.2.2.2⟩
theorem pi_wq (P : PI σ) (H : Wq σ τ) (q0 : P0 τ) (q6 : P6 τ) : PI τ := ⟨q0, pw_1 P H, pw_2 P H, pw_3 P H, pw_4 P H, pw_5 P H, q6, pw_7 P H⟩
theorem Sb.keep (B : Bq σ τ i) (S : Sb σ k w t) (h : k ≠ i) (hw : w + 1 ≠ gR σ 9 0 i) : Sb τ k w t := by
  obtain ⟨s1, s2, s3, s4, s5, s6, s7, s8, s9, s10⟩ := S
  have nw := B.2.2.2.2.2.2.1 w s3 hw
  refine ⟨by rw [B.1 9 (by decide)]; exact s1, by rw [(B.2.2.2.2.2.1 0 k h).2]; exact s2, Nat.lt_of_lt_of_le s3 B.2.1, by rw [(B.2.2.2.2.2.1 1 k h).1]; exact s4, by rw [(B.2.2.2.2.2.1 3 k h).1]; exact s5, by rw [nw.1]; exact s6, by rw [nw.1]; exact s7, by rw [nw.1]; exact s8, s9, fun j hj => by rw [nw.2]; exact s10 j hj⟩
theorem Sb.s36 (S : Sb σ k w t) : Sb (sV σ 8 36 0 x) k w t := by
  obtain ⟨s1, s2, s3, s4, s5, s6, s7, s8, s9, s10⟩ := S
  refine ⟨s1, s2, s3, ?_, ?_, s6, s7, s8, s9, fun j hj => ?_⟩
  · rw [gV_sV, if_neg (fun z => absurd z.1 (by decide))]; exact s4
  · rw [gV_sV, if_neg (fun z => absurd z.1 (by decide))]; exact s5
  · rw [gV_sV, if_neg (fun z => absurd z.1 (by decide))]; exact s10 j hj
theorem Sb.s9 (S : Sb σ k w t) : Sb (sW σ 9 0) k w t := by
  obtain ⟨s1, s2, s3, s4, s5, s6, s7, s8, s9, s10⟩ := S
  have ne : ¬ (9 = 9 ∧ k = gL σ 9) := fun z => by omega
  have n5 : ∀ w, ¬ (50 = 9 ∧ w = gL σ 9) := fun w z => absurd z.1 (by decide)
  refine ⟨?_, ?_, ?_, ?_, ?_, ?_, ?_, ?_, s9, fun j hj => ?_⟩
  · rw [gL_sW, if_pos rfl]; omega
  · rw [gR_sW, if_neg ne]; exact s2
  · rw [gL_sW, if_neg (by decide)]; exact s3
  · rw [gV_sW, if_neg ne]; exact s4
  · rw [gV_sW, if_neg ne]; exact s5
  · rw [gN_sW, if_neg (n5 _)]; exact s6
  · rw [gN_sW, if_neg (n5 _)]; exact s7
  · rw [gN_sW, if_neg (n5 _)]; exact s8
  · rw [gV_sW, if_neg (n5 _)]; exact s10 j hj
theorem Sb.s34 (S : Sb σ k w t) : Sb (sR σ 8 34 0 n) k w t := by
  obtain ⟨s1, s2, s3⟩ := S
  refine ⟨s1, ?_, s3⟩
  rw [gR_sR, if_neg (fun z => absurd z.1 (by decide))]; exact s2
/-- the two texts at the end -/
theorem pw_6 {m v : Nat} {ρ κ : St} (S1 : Sb ρ 0 w t) (hi : 0 < i) (ei : i = gL ρ 9) (B2 : Bq (sW (sV ρ 8 36 0 0) 9 0) τ i) (S2 : Sb τ i m []) (B3 : Bq (sR τ 8 34 0 (i + 1)) κ i) (S3 : Sb κ i v t) : P6 κ := by
  have Sa : Sb (sW (sV ρ 8 36 0 0) 9 0) 0 w t := S1.s36.s9
  have z2 : gR (sW (sV ρ 8 36 0 0) 9 0) 9 0 i = 0 := by rw [gR_sW, if_pos ⟨rfl, ei⟩]
  have Sc : Sb τ 0 w t := Sa.keep B2 (by omega) (by rw [z2]; omega)
  have ne1 : w ≠ m := B2.ow S2.2.1 w Sa.2.2.1 (by rw [z2]; omega)
  have Sd : Sb (sR τ 8 34 0 (i + 1)) 0 w t := Sc.s34
  have z3 : gR (sR τ 8 34 0 (i + 1)) 9 0 i = m + 1 := S2.s34.2.1
  have ne2 : w + 1 ≠ gR (sR τ 8 34 0 (i + 1)) 9 0 i := by rw [z3]; omega
  have Se : Sb κ 0 w t := Sd.keep B3 (by omega) ne2
  have ne3 : w ≠ v := B3.ow S3.2.1 w Sd.2.2.1 ne2
  have z34 : gR κ 8 34 0 = i + 1 := by rw [B3.2.2.2.1 8 (by decide) (by decide), gR_sR, if_pos ⟨rfl, rfl, rfl⟩]
  refine ⟨i, w, v, t.length, by omega, Se.1, S3.1, z34, Se.2.1, S3.2.1, ne3, Se.2.2.1, S3.2.2.1, Se.2.2.2.1, S3.2.2.2.1, Se.2.2.2.2.1, S3.2.2.2.2.1, Se.2.2.2.2.2.1, S3.2.2.2.2.2.1, Se.2.2.2.2.2.2.2.1, S3.2.2.2.2.2.2.2.1, Se.2.2.2.2.2.2.1, Se.2.2.2.2.2.2.2.2.1, fun j hj => (Se.2.2.2.2.2.2.2.2.2 j hj).trans (S3.2.2.2.2.2.2.2.2.2 j hj).symm, B3.2.2.2.2.2.2.2.2.1⟩
theorem nm1_0 : ∀ q : Fin 41, nI q.val - 1 = -1 ↔ q.val = 0 := by decide +kernel
theorem pw_st {px : String → GM → Prop} {κ : St} {j : Nat} (P : PI σ) (hj : j < gL σ 1) (W : WF A κ) (Q : P0 κ) (H : Wq σ κ) (post : Option Nat → GM → Prop) : w_X8_status X post px (some (A.1 8 0)) (nI j) (hp A κ) = post (some (X.2.2.2 (stn σ j))) (hp A κ) := by
  obtain ⟨EL, EV, v8, ER, EN⟩ := H
  have h10 : gL σ 1 ≤ 10 := P.2.1.2.2.2.2.2.2.2.2.1
  have h12 : gL σ 2 ≤ 12 := P.2.1.2.2.2.2.2.2.2.1
  have a1 := P.2.2.2.1.1 j hj
  have a3 := P.2.2.2.1.2.2.1 j hj
  have a4 := P.2.2.2.1.2.2.2.1 j hj
  have e205 : gV κ 205 = gV σ 205 := funext fun f => funext fun i => EV 205 (by decide) (by decide) (by decide) f i
  have l2 := EL 2 (by decide) (by decide)
  refine q_st8 (by omega) W Q ((EV 114 (by decide) (by decide) (by decide) j 0).trans a3.1.symm) (by rw [a3.1]; exact a3.2.1) (fun post => ?_)
  refine q_mhold (by omega) W Q (by rw [v8 6 (by decide), l2]; exact P.2.1.1.1) (by rw [l2]; exact h12) ((EV 110 (by decide) (by decide) (by decide) j 0).trans a1.2.2.1.symm) ((v8 23 (by decide)).trans P.2.1.2.2.1) ((EV 111 (by decide) (by decide) (by decide) j 0).trans a1.2.2.2.1.symm) ((v8 24 (by decide)).trans P.2.1.2.2.2.1) ((EV 119 (by decide) (by decide) (by decide) j 0).trans a3.2.2.2.2.2.2.1.symm) ((EV 120 (by decide) (by decide) (by decide) j 0).trans a3.2.2.2.2.2.2.2.symm) ((v8 26 (by decide)).trans P.2.1.2.2.2.2.2.1.1) (by rw [e205, l2]; exact a4.1.symm) (by rw [e205, l2]; exact a4.2.symm)
end PW
set_option maxHeartbeats 8000000 in
theorem p_41 (hin : ∀ j : Nat, j < 7 → vp_in (Int32.ofNat (7 * i) + Int32.ofNat j) Ls) (h : LIv X v1 v2 v3 v4 g) : w_law_41 X xs Ls b (LIv X v1 v2 v3 v4) v1 v2 v3 v4 (Int32.ofNat (7 * i)) g := by
  obtain ⟨A, σ, W, hx, P, rfl, rfl, rfl, rfl, rfl⟩ := h
  have Q := P.1
  have u1 : vp_in (Int32.ofNat (7 * i) + 1) Ls := hin 1 (by decide)
  have hL := P.2.2.2.2.2.2.2.2.2.1
  have h21 : gV σ 8 21 0 = nI (gL σ 1) := P.2.1.1.2.1
  have h10 : gL σ 1 ≤ 10 := P.2.1.2.2.2.2.2.2.2.2.1
  unfold w_law_41
  generalize xs (Int32.ofNat (7 * i) + 1).toNatClampNeg = v
  rcases q_ix v (show gL σ 1 ≤ 40 by omega) with hc | ⟨j, hj, rfl⟩
  · simp (config := { maxSteps := 1000000 }) only [↓w_law_41.eq_1, ↓w_L_law_b2792.eq_1, ↓w_L_writeBuild.eq_1, ↓w_X7_writeBuild_b56.eq_1, ↓w_X7_writeBuild.eq_1, ↓w_X8_writeBuild_b58.eq_1, ↓w_X8_writeBuild.eq_1, ↓w_X8_thrown.eq_1, ↓w_X8_noBuild_b29.eq_1, ↓w_X8_noBuild_b14.eq_1, ↓w_X8_noBuild.eq_1, ↓w_X8_isBuild.eq_1, u1, ↓q_kb, ↓q_in, ↓q_out, ↓if_pos hc, true_and, and_true, if_true, if_false, reduceIte, and_self, false_and, and_false, or_false, false_or, true_or, or_true, not_true_eq_false, not_false_eq_true, ne_eq, reduceCtorEq, Nat.reduceLT, Nat.reduceEqDiff, Nat.reduceLeDiff, Nat.reduceAdd, eq_self, ii_0_1, ii_0_2, ii_0_3, ii_0_4, ii_1_0, ii_1_2, ii_1_3, ii_1_4, il_1, ii_2_0, ii_2_1, ii_2_3, ii_2_4, il_2, ii_3_0, ii_3_1, ii_3_2, ii_3_4, il_3, ii_4_0, ii_4_1, ii_4_2, ii_4_3, il_4, il_0, ie_0_1, ie_0_2, ie_0_3, ie_0_4, ie_0_5, ie_1_0, ie_1_2, ie_1_3, ie_1_4, ie_1_5, ie_2_0, ie_2_1, ie_2_3, ie_2_4, ie_2_5, ie_3_0, ie_3_1, ie_3_2, ie_3_4, ie_3_5, ie_4_0, ie_4_1, ie_4_2, ie_4_3, ie_4_5, ie_5_0, ie_5_1, ie_5_2, ie_5_3, ie_5_4, ↓e_Is', ↓e_GetI, ↓e_GetF, ↓e_PutI, ↓e_PutF, ↓e_PutR, ↓e_Ald, ↓e_Ast, ↓e_Aldq, ↓e_AldJ, ↓e_AstJ, ↓e_AldD, ↓e_AstD, gL_sV, gV_sV, gR_sV, gN_sV, gJ_sV, gD_sV, gL_sR, gV_sR, gR_sR, gN_sR, gJ_sR, gD_sR, gL_sJ, gV_sJ, gR_sJ, gN_sJ, gJ_sJ, gL_sD, gV_sD, gR_sD, gN_sD, gD_sD, hr_0, hr_s, WF_sV, WF_sJ, WF_sD, gL_sF, gV_sF, gR_sF, gN_sF, gL_sG, gV_sG, gR_sG, gN_sG, WF_sF, ↓eR_1_2, ↓eR_1_5, ↓eR_1_6, ↓eR_2_3, ↓eR_3_2, ↓eR_4_1, ↓eR_6_0, ↓eR_8_34, ↓eR_9_0, ↓eR_20_0, ↓eR_22_0, sL_7, sL_8, sL_60, sL_61, sN_60, sN_61, ↓s7_0, ↓s7_1, ↓s7_2, ↓s7_3, ↓s7_4, ↓s7_5, ↓s7_6, sL_100, ↓s8_0, sN_100, sL_101, ↓s8_1, sN_101, sL_102, ↓s8_2, sN_102, sL_103, ↓s8_3, sN_103, sL_104, ↓s8_4, sN_104, sL_105, ↓s8_5, sN_105, sL_107, ↓s8_7, sN_107, sL_108, ↓s8_8, sN_108, sL_109, ↓s8_9, sN_109, sL_110, ↓s8_10, sN_110, sL_111, ↓s8_11, sN_111, sL_112, ↓s8_12, sN_112, sL_113, ↓s8_13, sN_113, sL_114, ↓s8_14, sN_114, sL_115, ↓s8_15, sN_115, sL_116, ↓s8_16, sN_116, sL_117, ↓s8_17, sN_117, sL_118, ↓s8_18, sN_118, sL_119, ↓s8_19, sN_119, sL_120, ↓s8_20, sN_120, sL_127, ↓s8_27, sN_127, sL_128, ↓s8_28, sN_128, sL_129, ↓s8_29, sN_129, sL_130, ↓s8_30, sN_130, sL_132, ↓s8_32, sN_132, P0_sV, P0_sJ, P0_sD, hcl_1, hok_1_0, hok_1_1, hok_1_2, hok_1_3, hok_1_4, hok_1_5, hok_1_6, hok_1_7, hok_1_8, hok_1_9, hok_1_10, hok_1_11, hok_1_12, hok_1_13, hok_1_14, hok_1_15, hcl_2, hok_2_0, hok_2_1, hok_2_2, hok_2_3, hok_2_4, hok_2_5, hcl_3, hok_3_0, hok_3_1, hok_3_2, hcl_4, hok_4_0, hok_4_1, hok_4_2, hok_4_3, hcl_5, hok_5_0, hok_5_1, hok_5_2, hcl_6, hok_6_0, hok_6_1, hcl_7, hok_7_0, hok_7_1, hok_7_2, hok_7_3, hok_7_4, hok_7_5, hok_7_6, hok_7_7, hok_7_8, hok_7_9, hok_7_10, hok_7_11, hok_7_12, hcl_8, hok_8_0, hok_8_1, hok_8_2, hok_8_3, hok_8_4, hok_8_5, hok_8_6, hok_8_7, hok_8_8, hok_8_9, hok_8_10, hok_8_11, hok_8_12, hok_8_13, hok_8_14, hok_8_15, hok_8_16, hok_8_17, hok_8_18, hok_8_19, hok_8_20, hok_8_21, hok_8_22, hok_8_23, hok_8_24, hok_8_25, hok_8_26, hok_8_27, hok_8_28, hok_8_29, hok_8_30, hok_8_31, hok_8_32, hok_8_33, hok_8_34, hok_8_35, hok_8_36, hcl_9, hok_9_0, hok_9_1, hok_9_2, hok_9_3, hcl_20, hok_20_0, hok_20_1, hcl_22, hok_22_0, hok_22_1, hcl_30, hok_30_0, hok_30_1, hok_30_2, hcl_31, hok_31_0, hok_31_1, hok_31_2, hcl_32, hok_32_0, hok_32_1, hok_32_2, hcl_33, hok_33_0, hok_33_1, hok_33_2, hak_16, hak_21, hak_23, hak_40, hak_41, hak_42, hak_43, hak_50, hak_60, hak_61, hak_205, hak_227, hak_100, hak_101, hak_102, hak_103, hak_104, hak_105, hak_107, hak_108, hak_109, hak_110, hak_111, hak_112, hak_113, hak_114, hak_115, hak_116, hak_117, hak_118, hak_119, hak_120, hak_127, hak_128, hak_129, hak_130, hak_132, ↓eL_16, ↓eL_21, ↓eL_23, ↓eL_50, W, Q, cmpS, hL, h21, h10, nb0, nb1]
    refine LIv_of ?_ hx ?_
    · exact W
    · exact P
  · obtain ⟨c, v0, vc, n, t1, t2, t3, t4, t5, t6, t7, t8, t9, t10, t11, t12, t13, t14, t15, t16, t17, t18, t19, t20, tF⟩ := P.2.2.2.2.2.2.1
    obtain ⟨m, m1, m2, em⟩ := P.2.2.2.1.2.2.2.2.2.2.1.2 j hj
    have a1 := P.2.2.2.1.1 j hj
    have e1 : gV σ 1 1 j = nI m := a1.2.1.trans em
    have gd : ∀ q, q < n → ((List.range n).map (fun f => gV σ 50 f v0)).getD q 0 = gV σ 50 q v0 := fun q hq => by
      rw [List.getD_eq_getElem?_getD, List.getElem?_map, List.getElem?_range hq]; rfl
    have ln : ((List.range n).map (fun f => gV σ 50 f v0)).length = n := by rw [List.length_map, List.length_range]
    have S0 : Sb σ 0 v0 ((List.range n).map (fun f => gV σ 50 f v0)) := ⟨t2, t5, t8, t10, by rw [ln]; exact t12, by rw [ln]; exact t14, t18, t16, by rw [ln]; exact t19, fun q hq => (gd q (by rw [ln] at hq; exact hq)).symm⟩
    rw [p_and u1]
    unfold w_L_writeBuild
    rw [e_Is' W (sL_7 Q) hcl_7]
    refine q_wb7 W hx Q hL h10 tF S0 hj e1 (by omega) (fun A1 σ1 w1 T1 S1 => ?_)
    have N1 := Nf.of T1.2.2.1 Q
    have Q1 := T1.2.2.2.Q Q
    have wq0 : Wq σ σ1 := Wq.bq T1.2.2.2
    have F1 : bF σ1 := T1.2.2.2.2.2.2.2.2.2.2.2.1
    have l9 : gL σ1 9 = gL σ 9 := T1.2.2.2.1 9 (by decide)
    obtain ⟨W1, hx1, -, -⟩ := T1
    try dsimp only
    rw [← N1.1, ← N1.2.1, ← N1.2.2.1, ← N1.2.2.2, e_AstJ W1 (sL_60 Q1), sN_60 Q1, p_and (show 0 < 1 by decide)]
    try dsimp only
    have WJ : WF A1 (sJ σ1 (nI (txt σ j m).length).toInt64) := by rw [WF_sJ]; exact W1
    have QJ : P0 (sJ σ1 (nI (txt σ j m).length).toInt64) := Q1
    have FJ : bF (sJ σ1 (nI (txt σ j m).length).toInt64) := F1
    have SJ : Sb (sJ σ1 (nI (txt σ j m).length).toInt64) 0 w1 (txt σ j m) := S1
    have wq1 : Wq σ (sJ σ1 (nI (txt σ j m).length).toInt64) := wq0.tr Wq.sJ
    have lJ : gL (sJ σ1 (nI (txt σ j m).length).toInt64) 9 = gL σ 9 := l9
    have gj : gJ (sJ σ1 (nI (txt σ j m).length).toInt64) 0 = (nI (txt σ j m).length).toInt64 := gJ_sJ
    generalize sJ σ1 (nI (txt σ j m).length).toInt64 = ρ at *
    rw [p_and u1, e_Is' WJ (sL_8 QJ) hcl_8]
    refine q_wb8 (σ := σ) WJ hx1 QJ FJ ((wq1.2.2.1 21 (by decide)).trans h21) h10 hj ((wq1.2.1 107 (by decide) (by decide) (by decide) j 0).trans em) (by omega) ?_ (fun A' κ Wκ Qκ wκ post => pw_st P hj Wκ Qκ (wq1.tr wκ) post) (fun A2 τ2 κ w2 v2 W2 hx2 N2 B2 S2 B3 S3 => ?_)
    · rw [wq1.2.1 113 (by decide) (by decide) (by decide), a1.2.2.2.2.1]
      exact nm1_0 ⟨gR σ 1 5 j, by have := a1.2.2.2.2.2.1; omega⟩
    · have N3 := Nf.of N2 QJ
      have Q2 : P0 κ := B3.Q (P0_34 (B2.Q (P0_s9 (show P0 (sV ρ 8 36 0 0) from QJ))))
      have wq2 : Wq σ κ := wq1.tr (((((Wq.s36 (x := 0)).tr Wq.s9).tr (Wq.bq B2)).tr Wq.s34).tr (Wq.bq B3))
      have e36 : gV κ 8 36 0 = 0 := by
        rw [B3.gv (by decide) (by decide), gV_sR, B2.gv (by decide) (by decide), gV_sW, if_neg (fun z => absurd z.1 (by decide)), gV_sV, if_pos ⟨rfl, rfl, rfl⟩]
      have ej : gJ κ 0 = (nI (txt σ j m).length).toInt64 := by
        rw [B3.2.2.2.2.2.2.2.2.2.1, gJ_sR, B2.2.2.2.2.2.2.2.2.2.1, gJ_sW, gJ_sV]; exact gj
      have p6 : P6 κ := pw_6 (i := gL ρ 9) SJ (by rw [lJ]; exact t2) rfl B2 S2 B3 S3
      try dsimp only
      rw [← N3.1, ← N3.2.1, ← N3.2.2.1, ← N3.2.2.2, e_Is' W2 (sL_8 Q2) hcl_8]
      unfold w_X8_thrown
      rw [e_GetI W2 (sL_8 Q2) hok_8_36, e36]
      try dsimp only
      rw [if_pos rfl, if_pos rfl, e_AldJ W2 (sL_60 Q2), sN_60 Q2, p_and (show 0 < 1 by decide), ej, cmpS, if_pos rfl]
      unfold w_L_law_b2792
      exact LIv_of W2 hx2 (pi_wq P wq2 Q2 p6)
end CS
