/-! reach -/
theorem sm_add {f f' : Nat → Int32} : ∀ {n : Nat}, sm (fun i => f i + f' i) n = sm f n + sm f' n
  | 0 => by rw [sm, sm, sm]; rfl
  | n + 1 => by
    rw [sm, sm, sm, sm_add]
    rw [Int32.add_assoc, Int32.add_assoc, ← Int32.add_assoc (sm f' n), Int32.add_comm (sm f' n) (f n), Int32.add_assoc (f n)]
theorem sm_z : ∀ {n : Nat}, sm (fun _ => 0) n = 0
  | 0 => rfl
  | n + 1 => by rw [sm, sm_z]; rfl
theorem sm_swap {f : Nat → Nat → Int32} {n : Nat} : ∀ {m : Nat}, sm (fun i => sm (fun d => f i d) n) m = sm (fun d => sm (fun i => f i d) m) n
  | 0 => by
    rw [sm]
    exact (sm_z (n := n)).symm
  | m + 1 => by
    rw [sm, sm_swap, ← sm_add]
    rfl
theorem sm_one {f : Nat → Int32} {m j : Nat} (h : j < m) (h2 : ∀ i, i < m → i ≠ j → f i = 0) : sm f m = f j := by
  rw [sm_ch (f := fun _ => 0) h h2, sm_z, Int32.sub_zero, Int32.zero_add]
def cu_kf (σ : St) (b i : Nat) : Int32 := if (gV σ 108 b 0 >>> (gV σ 3 0 i &&& 31)) &&& 1 = 1 then (if (gV σ 109 b 0 >>> (gV σ 3 1 i &&& 31)) &&& 1 = 1 then 1 else 0) else 0
def cu_S (σ : St) (b p : Nat) (n : Nat) : Int32 := sm (fun i => if cu_kf σ b i = 0 then 0 else gV σ 23 p i) n
def cu_T (σ : St) (b p : Nat) : Int32 := if gR σ 1 5 b = 0 then cu_S σ b p (gL σ 3) else cu_S σ b p (gL σ 3) + (gV σ 20 1 (gR σ 1 5 b - 1) - gV σ 21 p (gR σ 1 5 b - 1))
theorem cu_S1 {σ : St} {b p : Nat} (P : PI σ) (hp0 : p ≤ 100) : cu_S σ b p (gL σ 3) = sm (fun d => if cu_fr σ b d = 0 then 0 else if gV σ 2 2 d < nI p then 1 else 0) (gL σ 2) := by
  have k3 := P.2.2.2.2.2.1.2.2.1
  have e1 : cu_S σ b p (gL σ 3) = sm (fun i => sm (fun d => if cu_kf σ b i = 0 then 0 else if (gV σ 2 0 d = gV σ 3 0 i ∧ gV σ 2 1 d = gV σ 3 1 i) ∧ gV σ 2 2 d < nI p then 1 else 0) (gL σ 2)) (gL σ 3) := by
    unfold cu_S
    refine sm_cong (fun i hi => ?_)
    by_cases c : cu_kf σ b i = 0
    · rw [if_pos c]
      refine (sm_z (n := gL σ 2)).symm.trans (sm_cong (fun x _ => ?_))
      rw [if_pos c]
    · rw [if_neg c, (k3 i hi).2.2.2 p hp0]
      refine sm_cong (fun x _ => ?_)
      rw [if_neg c]
  rw [e1, sm_swap]
  refine sm_cong (fun d hd => ?_)
  obtain ⟨j, hj, m1, m2⟩ := P.2.2.2.2.2.1.2.2.2.2 d hd
  have dv := P.2.2.1.1 d hd
  have ekf : cu_kf σ b j = cu_fr σ b d := by
    unfold cu_kf cu_fr
    rw [← m1, ← m2, dv.1, dv.2.1]
  rw [sm_one hj (fun i hi hne => ?_)]
  · rw [ekf]
    by_cases c : cu_fr σ b d = 0
    · rw [if_pos c, if_pos c]
    · rw [if_neg c, if_neg c]
      by_cases c2 : gV σ 2 2 d < nI p
      · rw [if_pos c2, if_pos ⟨⟨m1, m2⟩, c2⟩]
      · rw [if_neg c2, if_neg (fun z => c2 z.2)]
  · by_cases c : cu_kf σ b i = 0
    · exact if_pos c
    · refine (if_neg c).trans (if_neg (fun z => hne ?_))
      exact P.2.2.2.2.2.1.2.2.2.1 i j hi hj (z.1.1.symm.trans m1) (z.1.2.symm.trans m2)
theorem cu_sum {σ : St} {b p : Nat} (A : Ad) (W : WF A σ) (P : PI σ) (hb : b < gL σ 1) (hp0 : p ≤ 100) (hpc : gV σ 1 10 b = nI p) (hr1 : ¬ rl σ b = 0) : cu_T σ b p = sm (fun d => cu_op σ b d) (gL σ 2) := by
  unfold cu_T
  rw [cu_S1 P hp0]
  by_cases z : gR σ 1 5 b = 0
  · rw [if_pos z]
    refine sm_cong (fun d hd => ?_)
    unfold cu_op
    rw [if_neg hr1, hpc]
    by_cases c : cu_fr σ b d = 0
    · rw [if_pos c, if_pos c]
    · rw [if_neg c, if_neg c]
      by_cases c2 : gV σ 2 2 d < nI p
      · rw [if_pos c2, if_pos c2]
      · rw [if_neg c2, if_neg c2]
        have : cu_mn σ b d = 0 := by
          unfold cu_mn
          by_cases y : gR σ 2 3 d = 0
          · exact if_pos y
          · rw [if_neg y, if_neg (fun x => y (by omega))]
        rw [if_pos this]
  · rw [if_neg z]
    obtain ⟨m, hm⟩ : ∃ m, gR σ 1 5 b = m + 1 := ⟨gR σ 1 5 b - 1, by omega⟩
    have hml : m < gL σ 1 := by
      have h1 : gR σ 1 5 b ≤ gL σ 1 := W.2.2 1 5 b hb
      omega
    rw [hm, Nat.add_sub_cancel]
    obtain ⟨-, -, t1, t2⟩ := P.2.2.2.2.2.1.2.1 m hml
    obtain ⟨x1, x2⟩ := P.2.2.2.1.2.2.2.2.1 b hb z
    rw [hm, Nat.add_sub_cancel] at x1 x2
    have eT : sm (fun d => if gR σ 2 3 d = m + 1 then (1 : Int32) else 0) (gL σ 2) = sm (fun d => if gR σ 2 3 d = m + 1 ∧ ¬ gV σ 2 2 d < nI p then (1 : Int32) else 0) (gL σ 2) + sm (fun d => if gR σ 2 3 d = m + 1 ∧ gV σ 2 2 d < nI p then (1 : Int32) else 0) (gL σ 2) := by
      rw [← sm_add]
      refine sm_cong (fun d _ => ?_)
      by_cases c : gR σ 2 3 d = m + 1
      · by_cases c2 : gV σ 2 2 d < nI p
        · rw [if_pos c, if_neg (fun z => z.2 c2), if_pos ⟨c, c2⟩]; rfl
        · rw [if_pos c, if_pos ⟨c, c2⟩, if_neg (fun z => c2 z.2)]; rfl
      · rw [if_neg c, if_neg (fun z => c z.1), if_neg (fun z => c z.1)]; rfl
    rw [t1, t2 p hp0, eT, Int32.add_sub_cancel, ← sm_add]
    refine sm_cong (fun d hd => ?_)
    unfold cu_op
    rw [if_neg hr1, hpc]
    by_cases c : gR σ 2 3 d = m + 1
    · have hmn : cu_mn σ b d = 1 := by
        unfold cu_mn
        rw [if_neg (by omega), if_pos (by omega)]
      obtain ⟨y1, y2⟩ := P.2.2.1.2.1 d hd (by omega)
      rw [c, Nat.add_sub_cancel, ← x1] at y1
      rw [c, Nat.add_sub_cancel, ← x2] at y2
      have hfr : cu_fr σ b d = 1 := by
        have y1' : (gV σ 108 b 0 >>> (gV σ 100 d 0 &&& 31)) &&& 1 = 1 := y1
        have y2' : (gV σ 109 b 0 >>> (gV σ 101 d 0 &&& 31)) &&& 1 = 1 := y2
        unfold cu_fr
        rw [if_pos y1', if_pos y2']
      rw [hfr, hmn, if_neg (show ¬ (1 : Int32) = 0 by decide), if_neg (show ¬ (1 : Int32) = 0 by decide)]
      by_cases c2 : gV σ 2 2 d < nI p
      · rw [if_pos c2, if_neg (fun z => z.2 c2), if_pos c2]; rfl
      · rw [if_neg c2, if_pos ⟨c, c2⟩, if_neg c2, if_neg (show ¬ (1 : Int32) = 0 by decide)]; rfl
    · have hmn : cu_mn σ b d = 0 := by
        unfold cu_mn
        by_cases y : gR σ 2 3 d = 0
        · exact if_pos y
        · rw [if_neg y, if_neg (by omega)]
      rw [hmn, if_neg (c := gR σ 2 3 d = m + 1 ∧ ¬ gV σ 2 2 d < nI p) (fun z => c z.1), Int32.add_zero, if_pos (show (0 : Int32) = 0 from rfl)]
section RE
variable {A : Ad} {σ σ' : St} {X : Cx} {px : String → GM → Prop} {b p : Nat}
theorem q_rg {p : Nat} (h : p ≤ 100) : ¬ (nI p < 0 ∨ nI 101 - 1 < nI p) := by
  rintro (z | z)
  · exact nI_pos (by omega) z
  · rw [nI_pred] at z
    exact nI_nlt (by omega) (by omega) z
theorem q_cb20 {post : Int32 → GM → Prop} (hx : hX X A) (W : WF A σ) (P : PI σ) (hb : b < gL σ 1) (hp0 : p ≤ 100) : w_X0_countBelow X post px (some (A.1 20 b)) (nI p) (hp A σ) = post (gV σ 21 p b) (hp A σ) := by
  obtain ⟨g1, g2, -⟩ := P.2.2.2.2.2.1.1
  obtain ⟨k1, k2, -⟩ := P.2.2.2.2.2.1.2.1 b hb
  unfold w_X0_countBelow w_X0_countBelow_b25
  rw [eR_20_0 W (by omega), k1, hr_s, eL_21 hx W (by omega), k2, q_out, if_neg (q_rg hp0)]
  try dsimp only
  rw [if_pos rfl, eR_20_0 W (by omega), k1, hr_s, e_Ald W (by omega) hak_21 (by decide), k2, p_and (vp_in_nI (show p < 101 by omega) (by omega)), nI_clamp (by omega)]
theorem q_cb22 {post : Int32 → GM → Prop} {i : Nat} (hx : hX X A) (W : WF A σ) (P : PI σ) (hb : i < gL σ 3) (hp0 : p ≤ 100) : w_X0_countBelow X post px (some (A.1 22 i)) (nI p) (hp A σ) = post (gV σ 23 p i) (hp A σ) := by
  obtain ⟨-, -, g1, g2, -⟩ := P.2.2.2.2.2.1.1
  obtain ⟨-, k1, k2, -⟩ := P.2.2.2.2.2.1.2.2.1 i hb
  unfold w_X0_countBelow w_X0_countBelow_b25
  rw [eR_22_0 W (by omega), k1, hr_s, eL_23 hx W (by omega), k2, q_out, if_neg (q_rg hp0)]
  try dsimp only
  rw [if_pos rfl, eR_22_0 W (by omega), k1, hr_s, e_Ald W (by omega) hak_23 (by decide), k2, p_and (vp_in_nI (show p < 101 by omega) (by omega)), nI_clamp (by omega)]
theorem q_rcl {post : Int32 → GM → Prop} (hx : hX X A) (W : WF A σ) (P : PI σ) (hb : b < gL σ 1) (hp0 : p ≤ 100) (hpc : gV σ 1 10 b = nI p) : ∀ (k f i : Nat), i + k = gL σ 3 → k < f → w_X7_reach_l21 X post px f (some (A.1 7 0)) (some (A.1 1 b)) (cu_S σ b p i) (nI i) (hp A σ) = post (cu_T σ b p) (hp A σ) := by
  have Q := P.1
  have h12 : gL σ 2 ≤ 12 := P.2.1.2.2.2.2.2.2.2.1
  obtain ⟨g1, g2, g3, g4, g5⟩ := P.2.2.2.2.2.1.1
  have hL : Lst σ 31 (gL σ 3) := P.2.2.2.2.2.2.2.2.1
  obtain ⟨o, hoo, hol, o1, o2, -⟩ := q_offer W P hb
  intro k
  induction k with
  | zero =>
    intro f i hi hf
    obtain ⟨f, rfl⟩ : ∃ f', f = f' + 1 := ⟨f - 1, by omega⟩
    rw [w_X7_reach_l21, s7_1 W Q, e_Is' W hL.1 hcl_31, l_size W (Or.inr (Or.inl rfl)) hL, if_pos (nI_le (by omega) (by omega)), show i = gL σ 3 by omega, eR_1_5 W hb]
    unfold w_X7_reach_b122 cu_T
    by_cases z : gR σ 1 5 b = 0
    · rw [if_pos (by rw [z]; rfl), if_pos z]
    · obtain ⟨m, hm⟩ : ∃ m, gR σ 1 5 b = m + 1 := ⟨gR σ 1 5 b - 1, by omega⟩
      have hml : m < gL σ 1 := by
        have h1 : gR σ 1 5 b ≤ gL σ 1 := W.2.2 1 5 b hb
        omega
      have h6 : gR σ 1 6 m = m + 1 := (P.2.2.2.1.1 m hml).2.2.2.2.2.2
      rw [if_neg (hr_nn z), if_neg z, eR_1_5 W hb, hm, hr_s, Nat.add_sub_cancel, eR_1_6 W hml, h6, hr_s, e_GetI W (show m < gL σ 20 by omega) hok_20_1, e_GetI W hb hok_1_10, hpc, e_Is' W (show m < gL σ 20 by omega) hcl_20, q_cb20 hx W P hml hp0]
  | succ k ih =>
    intro f i hi hf
    obtain ⟨f, rfl⟩ : ∃ f', f = f' + 1 := ⟨f - 1, by omega⟩
    have hil : i < gL σ 3 := by omega
    have ih' := ih f (i + 1) (by omega) (by omega)
    have hkf : (if (gV σ 5 0 o >>> (gV σ 3 0 i &&& 31)) &&& 1 = 1 then (if (gV σ 5 1 o >>> (gV σ 3 1 i &&& 31)) &&& 1 = 1 then 1 else 0) else 0) = cu_kf σ b i := by
      unfold cu_kf
      rw [o1, o2]
    rw [cu_S, sm] at ih'
    rw [w_X7_reach_l21, s7_1 W Q, e_Is' W hL.1 hcl_31, l_size W (Or.inr (Or.inl rfl)) hL, if_neg (nI_ge (by omega) (by omega))]
    rw [s7_1 W Q, e_Is' W hL.1 hcl_31, l_get W (Or.inr (Or.inl rfl)) hL hil]
    rw [show hE (31 + 10) = 3 from rfl, e_Is' W hil hcl_3, eR_1_2 W hb, hoo, hr_s, e_GetI W hil hok_3_0, e_GetI W hil hok_3_1, e_Is' W hol hcl_5, q_for W hol, hkf]
    unfold w_X7_reach_b82
    rw [nI_1]
    by_cases c : cu_kf σ b i = 0
    · rw [if_pos c, Int32.add_zero] at ih'
      rw [if_pos c]
      exact ih'
    · rw [if_neg c] at ih'
      rw [if_neg c, eR_3_2 W hil, (P.2.2.2.2.2.1.2.2.1 i hil).1, hr_s, e_GetI W hb hok_1_10, hpc, e_Is' W (show i < gL σ 22 by omega) hcl_22, q_cb22 hx W P hil hp0]
      exact ih'
end RE
section CS
variable {X : Cx} {xs : Nat → Int32} {Ls b i : Nat} {v1 v2 v3 v4 : Option Nat} {g : GM}
end CS
