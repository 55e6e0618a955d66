/-! a crash: the class's call -/
def crU (X : Cx) (post : Int32 → GM → Prop) (r9 r13 : Option Nat) (g : GM) : Prop := wGetI g r13 4 2 (fun (i14 : Int32) => wPut g r13 4 2 (.int (i14 + (1 : Int32))) (fun g15 => wGetI g15 r13 4 3 (fun (i16 : Int32) => wGetI g15 r9 1 0 (fun (i17 : Int32) => wPut g15 r13 4 3 (.int (i16 ||| ((1 : Int32) <<< (i17 &&& 31)))) (fun g18 => wGetI g18 r9 1 13 (fun (i19 : Int32) => wPut g18 r9 1 13 (.int (i19 + (1 : Int32))) (fun g20 => wGetI g20 r13 4 0 (fun (i21 : Int32) => post i21 g20))))))))
def crT (X : Cx) (post : Int32 → GM → Prop) (px : String → GM → Prop) (v0 : Option Nat) (v1 : Int32) (g : GM) : Prop := wIs g v0 7 (w_X7_knownDevice X (fun (r7 : Option Nat) (g6 : GM) => w_X7_buildHadBy X (fun (r9 : Option Nat) (g8 : GM) => wGetR g8 v0 7 5 (fun (r10 : Option Nat) => wGetI g8 r10 6 1 (fun (i11 : Int32) => (if i11 = 0 then px "java/lang/IllegalStateException" g8 else wIs g8 v0 7 (w_X7_groupOfCrash X (fun (r13 : Option Nat) (g12 : GM) => wGetI g12 r13 4 2 (fun (i14 : Int32) => wPut g12 r13 4 2 (.int (i14 + (1 : Int32))) (fun g15 => wGetI g15 r13 4 3 (fun (i16 : Int32) => wGetI g15 r9 1 0 (fun (i17 : Int32) => wPut g15 r13 4 3 (.int (i16 ||| ((1 : Int32) <<< (i17 &&& 31)))) (fun g18 => wGetI g18 r9 1 13 (fun (i19 : Int32) => wPut g18 r9 1 13 (.int (i19 + (1 : Int32))) (fun g20 => wGetI g20 r13 4 0 (fun (i21 : Int32) => post i21 g20))))))))) px v0 g8))))) px r7 g6) px v0 v1 g)
def crS (σ : St) (n : Nat) : St := sV (cpS σ 1 0 n) 6 1 0 0
def oldS (κ : St) (t b : Nat) : St := sV (sV (sV κ 4 2 t (gV κ 4 2 t + 1)) 4 3 t (gV κ 4 3 t ||| (1 : Int32) <<< (nI b &&& 31))) 1 13 b (gV κ 1 13 b + 1)
section CC
variable {A : Ad} {σ κ : St} {X : Cx} {px : String → GM → Prop} {post : Int32 → GM → Prop} {n b d t : Nat} {v : Int32}
theorem crS_W : WF A (crS σ n) = WF A σ := Eq.trans rfl rfl
theorem crS_0 : P0 (crS σ n) = P0 σ := Eq.trans rfl rfl
theorem crS_H : CrH σ (crS σ n) n := cr_H
theorem q_crh (hx : hX X A) (W : WF A σ) (P : PI σ) (e61 : gV σ 6 1 0 = nI n) (hn6 : n ≤ 6) (hch : ∀ j, j < n → ∃ c, c < 65536 ∧ gV σ 16 j 0 = nI c) : w_X7_crash X post px (some (A.1 7 0)) v (hp A σ) = crT X post px (some (A.1 7 0)) v (hp A (crS σ n)) := by
  have Q := P.1
  obtain ⟨s1, s2, s3⟩ := P.2.2.2.2.1.1
  obtain ⟨s4, s5⟩ := s3 0 (by omega)
  obtain ⟨t4, t5⟩ := s3 1 (by omega)
  have W1 : WF A (cpS σ 1 0 n) := by rw [cp_W]; exact W
  have Q1 : P0 (cpS σ 1 0 n) := Q
  have h6 : 0 < gL (cpS σ 1 0 n) 6 := by rw [cp_L]; omega
  unfold w_X7_crash
  rw [s7_5 W Q, s7_4 W Q, e_Is' W (show 1 < gL σ 6 by omega) hcl_6, q_cp hx W (by decide) (show 1 < gL σ 6 by omega) (show 0 < gL σ 6 by omega) (by omega) (by omega) t4 s4 t5 s5 e61 hn6 hch]
  try dsimp only
  rw [s7_4 W1 Q1, e_Is' W1 h6 hcl_6]
  unfold w_X6_clear
  rw [e_PutI W1 h6 hok_6_1]
  rfl
theorem crL (P : PI σ) : Lst (crS σ n) 30 (gL σ 2) ∧ Lst (crS σ n) 33 (gL σ 4) := by
  obtain ⟨hL, hR, hN, hV, -⟩ := crS_H (σ := σ) (n := n)
  exact ⟨Lst_c (hL _) (hL _) (fun f i => hV _ _ _ (by decide)) (hR _) (hR _) (hN _) P.2.2.2.2.2.2.2.1, Lst_c (hL _) (hL _) (fun f i => hV _ _ _ (by decide)) (hR _) (hR _) (hN _) P.2.2.2.2.2.2.2.2.2.2⟩
theorem crT_1 (W : WF A σ) (P : PI σ) (hv : v < 0 ∨ nI (gL σ 2) - 1 < v) : crT X post px (some (A.1 7 0)) v (hp A (crS σ n)) = px "java/util/NoSuchElementException" (hp A (crS σ n)) := by
  have W1 : WF A (crS σ n) := by rw [crS_W]; exact W
  have Q1 : P0 (crS σ n) := by rw [crS_0]; exact P.1
  have hL2 : gL (crS σ n) 2 = gL σ 2 := crS_H.1 2
  have hL := (crL (n := n) P).1
  rw [← hL2] at hL hv
  unfold crT
  rw [e_Is' W1 (sL_7 Q1) hcl_7, q_kd W1 Q1 hL (by rw [hL2]; exact P.2.1.2.2.2.2.2.2.2.1), if_pos hv]
theorem crT_d (W : WF A σ) (P : PI σ) (hd : d < gL σ 2) : crT X post px (some (A.1 7 0)) (nI d) (hp A (crS σ n)) = w_X7_buildHadBy X (fun (r9 : Option Nat) (g8 : GM) => wGetR g8 (some (A.1 7 0)) 7 5 (fun (r10 : Option Nat) => wGetI g8 r10 6 1 (fun (i11 : Int32) => (if i11 = 0 then px "java/lang/IllegalStateException" g8 else wIs g8 (some (A.1 7 0)) 7 (w_X7_groupOfCrash X (fun (r13 : Option Nat) (g12 : GM) => crU X post r9 r13 g12) px (some (A.1 7 0)) g8))))) px (some (A.1 2 d)) (hp A (crS σ n)) := by
  have W1 : WF A (crS σ n) := by rw [crS_W]; exact W
  have Q1 : P0 (crS σ n) := by rw [crS_0]; exact P.1
  have h12 : gL σ 2 ≤ 12 := P.2.1.2.2.2.2.2.2.2.1
  have hL2 : gL (crS σ n) 2 = gL σ 2 := crS_H.1 2
  have hL := (crL (n := n) P).1
  have hc := q_nb hd (show gL σ 2 ≤ 40 by omega)
  rw [← hL2] at hL hc
  unfold crT
  rw [e_Is' W1 (sL_7 Q1) hcl_7, q_kd W1 Q1 hL (by rw [hL2]; exact h12), if_neg hc, nI_clamp (by omega)]
  rfl
theorem crT_2 (W : WF A σ) (P : PI σ) (hd : d < gL σ 2) (hR : gR σ 2 3 d = 0) : crT X post px (some (A.1 7 0)) (nI d) (hp A (crS σ n)) = px "java/lang/IllegalStateException" (hp A (crS σ n)) := by
  have W1 : WF A (crS σ n) := by rw [crS_W]; exact W
  have hd1 : d < gL (crS σ n) 2 := by rw [crS_H.1]; exact hd
  rw [crT_d W P hd]
  unfold w_X7_buildHadBy
  rw [eR_2_3 W1 hd1, crS_H.2.1, hR, hr_0, if_pos rfl]
theorem crT_3 (W : WF A σ) (P : PI σ) (hd : d < gL σ 2) (hR : gR σ 2 3 d = b + 1) : crT X post px (some (A.1 7 0)) (nI d) (hp A (crS σ n)) = if nI n = 0 then px "java/lang/IllegalStateException" (hp A (crS σ n)) else w_X7_groupOfCrash X (fun (r13 : Option Nat) (g12 : GM) => crU X post (some (A.1 1 b)) r13 g12) px (some (A.1 7 0)) (hp A (crS σ n)) := by
  have W1 : WF A (crS σ n) := by rw [crS_W]; exact W
  have Q1 : P0 (crS σ n) := by rw [crS_0]; exact P.1
  have hd1 : d < gL (crS σ n) 2 := by rw [crS_H.1]; exact hd
  have h6 : 1 < gL (crS σ n) 6 := by
    have := P.2.2.2.2.1.1.1
    rw [crS_H.1]; omega
  have v1 : gV (crS σ n) 6 1 1 = nI n := crS_H.2.2.2.2.2.1
  rw [crT_d W P hd]
  unfold w_X7_buildHadBy
  rw [eR_2_3 W1 hd1, crS_H.2.1, hR, hr_s, if_neg (by intro z; cases z)]
  try dsimp only
  rw [s7_5 W1 Q1, e_GetI W1 h6 hok_6_1, v1, e_Is' W1 (sL_7 Q1) hcl_7]
theorem crU_o (W : WF A κ) (ht : t < gL κ 4) (hb : b < gL κ 1) (e0 : gV κ 4 0 t = nI t) (e1 : gV κ 1 0 b = nI b) : crU X post (some (A.1 1 b)) (some (A.1 4 t)) (hp A κ) = post (nI t) (hp A (oldS κ t b)) := by
  have W1 : WF A (sV κ 4 2 t (gV κ 4 2 t + 1)) := by rw [WF_sV]; exact W
  have W2 : WF A (sV (sV κ 4 2 t (gV κ 4 2 t + 1)) 4 3 t (gV κ 4 3 t ||| (1 : Int32) <<< (nI b &&& 31))) := by rw [WF_sV]; exact W1
  have W3 : WF A (oldS κ t b) := by unfold oldS; rw [WF_sV]; exact W2
  unfold crU
  rw [e_GetI W ht hok_4_2, e_PutI W ht hok_4_2, e_GetI W1 (by rw [gL_sV]; exact ht) hok_4_3, gV_sV, if_neg (by omega), e_GetI W1 (by rw [gL_sV]; exact hb) hok_1_0, gV_sV, if_neg (by omega), e1, e_PutI W1 (by rw [gL_sV]; exact ht) hok_4_3, e_GetI W2 (by rw [gL_sV, gL_sV]; exact hb) hok_1_13, gV_sV, if_neg (by omega), gV_sV, if_neg (by omega), e_PutI W2 (by rw [gL_sV, gL_sV]; exact hb) hok_1_13]
  have hg : gV (oldS κ t b) 4 0 t = nI t := by unfold oldS; rw [gV_sV, if_neg (by omega), gV_sV, if_neg (by omega), gV_sV, if_neg (by omega)]; exact e0
  have := e_GetI (K := fun i21 => post i21 (hp A (oldS κ t b))) W3 (show t < gL (oldS κ t b) 4 by unfold oldS; rw [gL_sV, gL_sV, gL_sV]; exact ht) hok_4_0
  rw [hg] at this
  exact this
end CC
