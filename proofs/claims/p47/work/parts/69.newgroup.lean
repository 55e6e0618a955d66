/-! a crash: a new group -/
def ng0 (κ : St) : St := sW (sW (sW κ 4 0) 6 0) 16 6
def ngS (κ : St) : St := sV (sV (sV (sR (sV (sR (ng0 κ) 6 0 (gL κ 4 + 2) (gL κ 4 + 2 + 1)) 6 1 (gL κ 4 + 2) 0) 4 1 (gL κ 4) (gL κ 4 + 2 + 1)) 4 2 (gL κ 4) 0) 4 3 (gL κ 4) 0) 4 0 (gL κ 4) (nI (gL κ 4))
section NA
variable {κ : St} {k f g i j : Nat}
theorem ng_L4 : gL (ngS κ) 4 = gL κ 4 + 1 := rfl
theorem ng_L6 : gL (ngS κ) 6 = gL κ 6 + 1 := rfl
theorem ng_L16 : gL (ngS κ) 16 = gL κ 16 + 1 := rfl
theorem ng_eL (h : k ≠ 4 ∧ k ≠ 6 ∧ k ≠ 16) : gL (ngS κ) k = gL κ k := by
  unfold ngS ng0
  simp [gL_sV, gL_sR, gL_sW, h.1, h.2.1, h.2.2]
theorem ng_eV (h : k ≠ 4 ∧ k ≠ 6 ∧ k ≠ 16) : gV (ngS κ) k f i = gV κ k f i := by
  unfold ngS ng0
  simp [gV_sV, gV_sR, gV_sW, h.1, h.2.1, h.2.2]
theorem ng_eR (h : k ≠ 4 ∧ k ≠ 6 ∧ k ≠ 16) : gR (ngS κ) k f i = gR κ k f i := by
  unfold ngS ng0
  simp [gR_sV, gR_sR, gR_sW, h.1, h.2.1, h.2.2]
theorem ng_eN (h : k ≠ 4 ∧ k ≠ 6 ∧ k ≠ 16) : gN (ngS κ) k i = gN κ k i := by
  unfold ngS ng0
  simp [gN_sV, gN_sR, gN_sW, h.1, h.2.1, h.2.2]
theorem ng_40 : gV (ngS κ) 4 0 g = if g = gL κ 4 then nI (gL κ 4) else gV κ 4 0 g := by
  unfold ngS ng0
  by_cases e : g = gL κ 4
  · simp [gV_sV, gV_sR, gV_sW, e]
  · simp [gV_sV, gV_sR, gV_sW, e]
theorem ng_42 : gV (ngS κ) 4 2 g = if g = gL κ 4 then 0 else gV κ 4 2 g := by
  unfold ngS ng0
  by_cases e : g = gL κ 4
  · simp [gV_sV, gV_sR, gV_sW, e]
  · simp [gV_sV, gV_sR, gV_sW, e]
theorem ng_43 : gV (ngS κ) 4 3 g = if g = gL κ 4 then 0 else gV κ 4 3 g := by
  unfold ngS ng0
  by_cases e : g = gL κ 4
  · simp [gV_sV, gV_sR, gV_sW, e]
  · simp [gV_sV, gV_sR, gV_sW, e]
theorem ng_R41 : gR (ngS κ) 4 1 g = if g = gL κ 4 then gL κ 4 + 3 else gR κ 4 1 g := by
  unfold ngS ng0
  by_cases e : g = gL κ 4
  · simp [gR_sV, gR_sR, gR_sW, e]
  · simp [gR_sV, gR_sR, gR_sW, e]
theorem ng_R60 (h6 : gL κ 6 = gL κ 4 + 2) : gR (ngS κ) 6 0 i = if i = gL κ 4 + 2 then gL κ 4 + 3 else gR κ 6 0 i := by
  unfold ngS ng0
  by_cases e : i = gL κ 4 + 2
  · simp [gR_sV, gR_sR, gR_sW, gL_sW, e, h6]
  · simp [gR_sV, gR_sR, gR_sW, gL_sW, e, h6]
theorem ng_N16 (h6 : gL κ 16 = gL κ 4 + 2) : gN (ngS κ) 16 i = if i = gL κ 4 + 2 then 6 else gN κ 16 i := by
  unfold ngS ng0
  by_cases e : i = gL κ 4 + 2
  · simp [gN_sV, gN_sR, gN_sW, gL_sW, e, h6]
  · simp [gN_sV, gN_sR, gN_sW, gL_sW, e, h6]
theorem ng_61 (h6 : gL κ 6 = gL κ 4 + 2) : gV (ngS κ) 6 1 i = if i = gL κ 4 + 2 then 0 else gV κ 6 1 i := by
  unfold ngS ng0
  by_cases e : i = gL κ 4 + 2
  · simp [gV_sV, gV_sR, gV_sW, gL_sW, e, h6]
  · simp [gV_sV, gV_sR, gV_sW, gL_sW, e, h6]
theorem ng_16 (h6 : gL κ 16 = gL κ 4 + 2) : gV (ngS κ) 16 j i = if i = gL κ 4 + 2 then 0 else gV κ 16 j i := by
  unfold ngS ng0
  by_cases e : i = gL κ 4 + 2
  · simp [gV_sV, gV_sR, gV_sW, gL_sW, e, h6]
  · simp [gV_sV, gV_sR, gV_sW, gL_sW, e, h6]
end NA
/-- the state with a new group -/
def NgH (κ κ' : St) (m n : Nat) : Prop := EqL [4, 6, 16, 43] κ κ' ∧ EqV [4, 6, 16, 33, 43] κ κ' ∧ EqR [4, 6, 16, 33, 43] κ κ' ∧ EqN [4, 6, 16, 43] κ κ' ∧ (gL κ' 4 = m + 1 ∧ gL κ' 6 = m + 3 ∧ gL κ' 16 = m + 3) ∧ (∀ g, gV κ' 4 0 g = if g = m then nI m else gV κ 4 0 g) ∧ (∀ g, gV κ' 4 2 g = if g = m then 0 else gV κ 4 2 g) ∧ (∀ g, gV κ' 4 3 g = if g = m then 0 else gV κ 4 3 g) ∧ (∀ g, gR κ' 4 1 g = if g = m then m + 3 else gR κ 4 1 g) ∧ (∀ i, gR κ' 6 0 i = if i = m + 2 then m + 3 else gR κ 6 0 i) ∧ (∀ i, gN κ' 16 i = if i = m + 2 then 6 else gN κ 16 i) ∧ (∀ i, gV κ' 6 1 i = if i = m + 2 then nI n else gV κ 6 1 i) ∧ (∀ j, j < n → gV κ' 16 j (m + 2) = gV κ 16 j 1) ∧ (∀ j i, i ≠ m + 2 → gV κ' 16 j i = gV κ 16 j i) ∧ Lst κ' 33 (m + 1)
section NB
variable {A : Ad} {κ τ : St} {X : Cx} {px : String → GM → Prop} {m n : Nat}
theorem ng_H (h6 : gL κ 6 = gL κ 4 + 2) (h16 : gL κ 16 = gL κ 4 + 2) (hL : Lst (mx 33 (cpS (ngS κ) (gL κ 4 + 2) 1 n) τ) 33 (gL κ 4 + 1)) : NgH κ (mx 33 (cpS (ngS κ) (gL κ 4 + 2) 1 n) τ) (gL κ 4) n := by
  refine ⟨fun k hk => ?_, fun k hk f i => ?_, fun k hk f i => ?_, fun k hk i => ?_, ⟨?_, ?_, ?_⟩, fun g => ?_, fun g => ?_, fun g => ?_, fun g => ?_, fun i => ?_, fun i => ?_, fun i => ?_, fun j hj => ?_, fun j i hi => ?_, hL⟩
  · simp only [List.mem_cons, List.not_mem_nil, or_false, not_or] at hk
    rw [gL_mx, if_neg (by omega), cp_L, ng_eL (by omega)]
  · simp only [List.mem_cons, List.not_mem_nil, or_false, not_or] at hk
    rw [gV_mx, if_neg (by omega), cp_o (by omega), ng_eV (by omega)]
  · simp only [List.mem_cons, List.not_mem_nil, or_false, not_or] at hk
    rw [gR_mx, if_neg (by omega), cp_R, ng_eR (by omega)]
  · simp only [List.mem_cons, List.not_mem_nil, or_false, not_or] at hk
    rw [gN_mx, if_neg (by omega), cp_N, ng_eN (by omega)]
  · rw [gL_mx, if_neg (by decide), cp_L, ng_L4]
  · rw [gL_mx, if_neg (by decide), cp_L, ng_L6, h6]
  · rw [gL_mx, if_neg (by decide), cp_L, ng_L16, h16]
  · rw [gV_mx, if_neg (by decide), cp_o (by decide), ng_40]
  · rw [gV_mx, if_neg (by decide), cp_o (by decide), ng_42]
  · rw [gV_mx, if_neg (by decide), cp_o (by decide), ng_43]
  · rw [gR_mx, if_neg (by decide), cp_R, ng_R41]
  · rw [gR_mx, if_neg (by decide), cp_R, ng_R60 h6]
  · rw [gN_mx, if_neg (by decide), cp_N, ng_N16 h16]
  · rw [gV_mx, if_neg (by decide), cp_61, ng_61 h6]
    by_cases e : i = gL κ 4 + 2
    · rw [if_pos e, if_pos e]
    · rw [if_neg e, if_neg e, if_neg e]
  · rw [gV_mx, if_neg (by decide), cp_16, if_pos ⟨rfl, hj⟩, ng_16 h16, if_neg (by omega)]
  · rw [gV_mx, if_neg (by decide), cp_16, if_neg (fun z => hi z.1), ng_16 h16, if_neg hi]
set_option maxHeartbeats 2000000 in
theorem q_b30 {post : Option Nat → GM → Prop} (hx : hX X A) (W : WF A κ) (Q : P0 κ) (hL4 : Lst κ 33 (gL κ 4)) (h6 : gL κ 6 = gL κ 4 + 2) (h16 : gL κ 16 = gL κ 4 + 2) (hm30 : gL κ 4 < 30) (r1 : gR κ 6 0 1 = 2) (n1 : gN κ 16 1 = 6) (e1 : gV κ 6 1 1 = nI n) (hn6 : n ≤ 6) (hch : ∀ j, j < n → ∃ c, c < 65536 ∧ gV κ 16 j 1 = nI c)
    (kk : ∀ (A' : Ad) (κ' : St), WF A' κ' → hX X A' → Nf A A' → (∀ b, b < gL κ 1 → A'.1 1 b = A.1 1 b) → NgH κ κ' (gL κ 4) n → post (some (A'.1 4 (gL κ 4))) (hp A' κ')) : w_X7_groupOfCrash_b30 X post px (some (A.1 7 0)) (hp A κ) := by
  have h7 : 0 < gL κ 7 := sL_7 Q
  have h8 : 0 < gL κ 8 := by rw [Q.1.2.1]; decide
  have h60 : 0 < gL κ 60 := by rw [Q.1.2.2.1]; decide
  have h61 : 0 < gL κ 61 := by rw [Q.1.2.2.2.1]; decide
  have h61' : 1 < gL κ 6 := by omega
  unfold w_X7_groupOfCrash_b30
  rw [s7_3 W Q, e_Is' W hL4.1 hcl_33, l_size W (Or.inr (Or.inr (Or.inr rfl))) hL4, if_pos (show nI (gL κ 4) < 30 from nI_lt (a := gL κ 4) (b := 30) hm30 (by omega))]
  refine e_New 4 hx W rfl rfl (fun A1 W1 hx1 hN1 => ?_)
  have a7 : A.1 7 0 = A1.1 7 0 := (hN1.1 7 0 h7).symm
  have Q1 : gR (sW κ 4 0) 7 3 0 = 1 := Q.2.1.2.2.2.1
  have Q1' : gR (sW κ 4 0) 7 5 0 = 2 := Q.2.1.2.2.2.2.2.1
  have hL1 : Lst (sW κ 4 0) 33 (gL κ 4) := hL4
  have h7a : 0 < gL (sW κ 4 0) 7 := h7
  rw [a7, e_GetR 33 W1 h7a hok_7_3 (by decide), Q1, hr_s, e_Is' W1 hL1.1 hcl_33, l_size W1 (Or.inr (Or.inr (Or.inr rfl))) hL1, e_GetR 6 W1 h7a hok_7_5 (by decide), Q1', hr_s]
  unfold w_X4_init
  refine ⟨_, rfl, ?_⟩
  refine e_New 6 hx1 W1 rfl rfl (fun A2 W2 hx2 hN2 => ?_)
  unfold w_X6_init
  refine ⟨_, rfl, by decide, by decide, ?_⟩
  rw [show ((6 : Int32)).toNatClampNeg = 6 from rfl]
  refine e_NewA 16 hx2 W2 rfl (by decide) (fun A3 W3 hx3 hN3 => ?_)
  have g4a : gL κ 4 < gL (sW κ 4 0) 4 := Nat.lt_succ_self (gL κ 4)
  have g4b : gL κ 4 < gL (sW (sW κ 4 0) 6 0) 4 := g4a
  have g6b : gL (sW κ 4 0) 6 < gL (sW (sW κ 4 0) 6 0) 6 := Nat.lt_succ_self (gL κ 6)
  have g61a : 1 < gL (sW κ 4 0) 6 := h61'
  have g61b : 1 < gL (sW (sW κ 4 0) 6 0) 6 := Nat.lt_succ_of_lt h61'
  have b4 : A1.1 4 (gL κ 4) = A3.1 4 (gL κ 4) := ((hN3.1 4 _ g4b).trans (hN2.1 4 _ g4a)).symm
  have b6 : A2.1 6 (gL (sW κ 4 0) 6) = A3.1 6 (gL κ 4 + 2) := by
    rw [← hN3.1 6 _ g6b, show gL (sW κ 4 0) 6 = gL κ 6 from rfl, h6]
  have b61 : A1.1 6 1 = A3.1 6 1 := ((hN3.1 6 1 g61b).trans (hN2.1 6 1 g61a)).symm
  have b7 : A1.1 7 0 = A3.1 7 0 := ((hN3.1 7 0 h7).trans (hN2.1 7 0 h7)).symm
  have c16 : gL (sW (sW κ 4 0) 6 0) 16 = gL κ 4 + 2 := h16
  have W0 : WF A3 (ng0 κ) := W3
  have hN13 : Nf A A3 := ⟨(hN3.1 7 0 h7).trans ((hN2.1 7 0 h7).trans (hN1.1 7 0 h7)), (hN3.1 8 0 h8).trans ((hN2.1 8 0 h8).trans (hN1.1 8 0 h8)), (hN3.1 60 0 h60).trans ((hN2.1 60 0 h60).trans (hN1.1 60 0 h60)), (hN3.1 61 0 h61).trans ((hN2.1 61 0 h61).trans (hN1.1 61 0 h61))⟩
  have hB13 : ∀ b, b < gL κ 1 → A3.1 1 b = A.1 1 b := fun b hb => (hN3.1 1 b hb).trans ((hN2.1 1 b hb).trans (hN1.1 1 b hb))
  have L6 : gL κ 4 + 2 < gL (ng0 κ) 6 := show gL κ 4 + 2 < gL κ 6 + 1 by omega
  have L4 : gL κ 4 < gL (ng0 κ) 4 := Nat.lt_succ_self (gL κ 4)
  have L16 : gL κ 4 + 2 < gL (ng0 κ) 16 := show gL κ 4 + 2 < gL κ 16 + 1 by omega
  rw [b4, b6, b61, b7, c16, show sW (sW (sW κ 4 0) 6 0) 16 6 = ng0 κ from rfl]
  have e60 : hG 6 0 = 16 := rfl
  have f60 : hS 6 0 = 0 := rfl
  have e41 : hG 4 1 = 6 := rfl
  have f41 : hS 4 1 = 0 := rfl
  have V1 : WF A3 (sR (ng0 κ) 6 0 (gL κ 4 + 2) (gL κ 4 + 2 + 1)) := WF_sR W0 (by rw [e60, f60]; omega)
  have V2 : WF A3 (sV (sR (ng0 κ) 6 0 (gL κ 4 + 2) (gL κ 4 + 2 + 1)) 6 1 (gL κ 4 + 2) 0) := by rw [WF_sV]; exact V1
  have V3 : WF A3 (sR (sV (sR (ng0 κ) 6 0 (gL κ 4 + 2) (gL κ 4 + 2 + 1)) 6 1 (gL κ 4 + 2) 0) 4 1 (gL κ 4) (gL κ 4 + 2 + 1)) := WF_sR V2 (by rw [e41, f41, gL_sV, gL_sR]; omega)
  have V4 : WF A3 (sV (sR (sV (sR (ng0 κ) 6 0 (gL κ 4 + 2) (gL κ 4 + 2 + 1)) 6 1 (gL κ 4 + 2) 0) 4 1 (gL κ 4) (gL κ 4 + 2 + 1)) 4 2 (gL κ 4) 0) := by rw [WF_sV]; exact V3
  have V5 : WF A3 (sV (sV (sR (sV (sR (ng0 κ) 6 0 (gL κ 4 + 2) (gL κ 4 + 2 + 1)) 6 1 (gL κ 4 + 2) 0) 4 1 (gL κ 4) (gL κ 4 + 2 + 1)) 4 2 (gL κ 4) 0) 4 3 (gL κ 4) 0) := by rw [WF_sV]; exact V4
  have V6 : WF A3 (ngS κ) := by unfold ngS; rw [WF_sV]; exact V5
  rw [e_PutR W0 L6 hok_6_0 (by decide), e_PutI V1 (by rw [gL_sR]; exact L6) hok_6_1]
  try dsimp only
  rw [e_PutR V2 (by rw [gL_sV, gL_sR]; exact L4) hok_4_1 (by decide), e_PutI V3 (by rw [gL_sR, gL_sV, gL_sR]; exact L4) hok_4_2, e_PutI V4 (by rw [gL_sV, gL_sR, gL_sV, gL_sR]; exact L4) hok_4_3, e_PutI V5 (by rw [gL_sV, gL_sV, gL_sR, gL_sV, gL_sR]; exact L4) hok_4_0]
  rw [show sV (sV (sV (sR (sV (sR (ng0 κ) 6 0 (gL κ 4 + 2) (gL κ 4 + 2 + 1)) 6 1 (gL κ 4 + 2) 0) 4 1 (gL κ 4) (gL κ 4 + 2 + 1)) 4 2 (gL κ 4) 0) 4 3 (gL κ 4) 0) 4 0 (gL κ 4) (nI (gL κ 4)) = ngS κ from rfl]
  have M4 : gL κ 4 < gL (ngS κ) 4 := by rw [ng_L4]; omega
  have M6 : gL κ 4 + 2 < gL (ngS κ) 6 := by rw [ng_L6]; omega
  have M16 : gL κ 4 + 2 < gL (ngS κ) 16 := by rw [ng_L16]; omega
  rw [eR_4_1 V6 M4, ng_R41, if_pos rfl, hr_s, e_Is' V6 M6 hcl_6, q_cp (n := n) hx3 V6 (by omega) M6 (by omega) M16 (by omega) (by rw [ng_R60 h6, if_pos rfl]) (by rw [ng_R60 h6, if_neg (by omega)]; exact r1) (by rw [ng_N16 h16, if_pos rfl]) (by rw [ng_N16 h16, if_neg (by omega)]; exact n1) (by rw [ng_61 h6, if_neg (by omega)]; exact e1) hn6 (fun j hj => by rw [ng_16 h16, if_neg (by omega)]; exact hch j hj)]
  try dsimp only
  have V7 : WF A3 (cpS (ngS κ) (gL κ 4 + 2) 1 n) := by rw [cp_W]; exact V6
  have m7 : 0 < gL (cpS (ngS κ) (gL κ 4 + 2) 1 n) 7 := by rw [cp_L, ng_eL (by decide)]; exact h7
  have m8 : 0 < gL (cpS (ngS κ) (gL κ 4 + 2) 1 n) 8 := by rw [cp_L, ng_eL (by decide)]; exact h8
  have m60 : 0 < gL (cpS (ngS κ) (gL κ 4 + 2) 1 n) 60 := by rw [cp_L, ng_eL (by decide)]; exact h60
  have m61 : 0 < gL (cpS (ngS κ) (gL κ 4 + 2) 1 n) 61 := by rw [cp_L, ng_eL (by decide)]; exact h61
  have m4 : gL κ 4 < gL (cpS (ngS κ) (gL κ 4 + 2) 1 n) 4 := by rw [cp_L]; exact M4
  have Q7 : gR (cpS (ngS κ) (gL κ 4 + 2) 1 n) 7 3 0 = 1 := by rw [cp_R, ng_eR (by decide)]; exact Q.2.1.2.2.2.1
  have hL7 : Lst (cpS (ngS κ) (gL κ 4 + 2) 1 n) 33 (gL κ 4) := Lst_c (by rw [cp_L, ng_eL (by decide)]) (by rw [cp_L, ng_eL (by decide)]) (fun f i => by rw [cp_o (by decide), ng_eV (by decide)]) (fun f i => by rw [cp_R, ng_eR (by decide)]) (fun f i => by rw [cp_R, ng_eR (by decide)]) (fun i => by rw [cp_N, ng_eN (by decide)]) hL4
  rw [e_GetR 33 V7 m7 hok_7_3 (by decide), Q7, hr_s, e_Is' V7 hL7.1 hcl_33]
  refine l_add_33 (n := gL κ 4) hx3 V7 hL7 m4 hm30 (fun A4 τ W8 hx8 hN8 hL8 => ?_)
  rw [← hN8.1 4 _ m4]
  refine kk A4 _ W8 hx8 (hN13.tr ⟨hN8.1 7 0 m7, hN8.1 8 0 m8, hN8.1 60 0 m60, hN8.1 61 0 m61⟩) (fun b hb => ?_) (ng_H h6 h16 hL8)
  refine (hN8.1 1 b ?_).trans (hB13 b hb)
  rw [cp_L, ng_eL (by decide)]; exact hb
end NB
