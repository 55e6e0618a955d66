/-! SUM: what the law adds up of a store -/
def it (F : Nat → Int64 → Int64) : Nat → Int64 → Int64
  | 0, s => s
  | n + 1, s => F n (it F n s)
def sumB (σ : St) (j : Nat) (s : Int64) : Int64 :=
  ((((31 : Int64) * (((31 : Int64) * (((31 : Int64) * (((31 : Int64) * (((31 : Int64) * (((31 : Int64) * (((31 : Int64) * (((31 : Int64) * s) + (gV σ 1 7 j).toInt64)) + (gV σ 1 10 j).toInt64)) + (v_hold σ j).toInt64)) + (v_reach σ j).toInt64)) + (v_reach σ j).toInt64)) + (gV σ 20 1 j).toInt64)) + (gV σ 1 12 j).toInt64)) + v_rb σ j) + ((v_cr σ j).toInt32).toInt64)
def sumO (σ : St) (d : Nat) (s : Int64) : Int64 :=
  (((31 : Int64) * (((31 : Int64) * (((31 : Int64) * (((31 : Int64) * (((31 : Int64) * (((31 : Int64) * (((31 : Int64) * (((31 : Int64) * s) + (v_own σ 0 d).toInt64)) + (v_own σ 1 d).toInt64)) + (v_own σ 2 d).toInt64)) + (v_own σ 3 d).toInt64)) + (v_own σ 4 d).toInt64)) + (v_own σ 5 d).toInt64)) + (v_own σ 6 d).toInt64)) + (v_own σ 7 d).toInt64)
noncomputable def sumD (σ : St) (d : Nat) (s : Int64) : Int64 := sumO σ d ((((31 : Int64) * s) + (v_off σ d).toInt64) + ((3 : Int64) * (v_has σ d).toInt64))
def sumG (σ : St) (g : Nat) (s : Int64) : Int64 := ((((31 : Int64) * s) + (gV σ 4 2 g).toInt64) + ((3 : Int64) * (gV σ 4 3 g).toInt64))
noncomputable def SUM (σ : St) : Int64 := it (sumG σ) (gL σ 4) (it (sumD σ) (gL σ 2) (it (sumB σ) (gL σ 1) ((((gV σ 7 12 0).toInt64 + ((31 : Int64) * (nI (gL σ 4)).toInt64)) + ((961 : Int64) * (v_next σ).toInt64)) + ((7 : Int64) * (v_worst σ).toInt64))))
theorem i_2 : (2 : Int32) + 1 = 3 := rfl
theorem i_3 : (3 : Int32) + 1 = 4 := rfl
theorem i_4 : (4 : Int32) + 1 = 5 := rfl
theorem i_5 : (5 : Int32) + 1 = 6 := rfl
theorem i_6 : (6 : Int32) + 1 = 7 := rfl
theorem i_7 : (7 : Int32) + 1 = 8 := rfl
theorem i_8 : (8 : Int32) + 1 = 9 := rfl
theorem i_0 : (0 : Int32) + 1 = 1 := rfl
theorem i_1 : (1 : Int32) + 1 = 2 := rfl
section SU
variable {A : Ad} {σ : St} {X : Cx} {px : String → GM → Prop}
theorem q_gr {post : Int32 → GM → Prop} (W : WF A σ) (P : PI σ) : wIs (hp A σ) (some (A.1 7 0)) 7 (w_X7_groups X post px (some (A.1 7 0)) (hp A σ)) = post (nI (gL σ 4)) (hp A σ) := by
  have Q := P.1
  have hL3 := P.2.2.2.2.2.2.2.2.2.2
  unfold w_X7_groups
  rw [e_Is' W (sL_7 Q) hcl_7, s7_3 W Q, e_Is' W hL3.1 hcl_33, l_size W (Or.inr (Or.inr (Or.inr rfl))) hL3]
theorem q_day {post : Int32 → GM → Prop} (W : WF A σ) (P : PI σ) : wIs (hp A σ) (some (A.1 7 0)) 7 (w_X7_day X post px (some (A.1 7 0)) (hp A σ)) = post (gV σ 7 12 0) (hp A σ) := by
  have Q := P.1
  unfold w_X7_day
  rw [e_Is' W (sL_7 Q) hcl_7, e_GetI W (sL_7 Q) hok_7_12]
theorem v_cr_n (σ : St) (b : Nat) : Jvm.FP.Core.FFin (v_cr σ b) := by
  unfold v_cr
  by_cases h : gV σ 1 12 b = 0
  · rw [if_pos h]; exact fl_0
  · rw [if_neg h]; exact fl_fin h
theorem q_fib {post : Int32 → GM → Prop} {x : UInt32} {g : GM} (h : Jvm.FP.Core.FFin x) : w_Jxf58ca_floatToIntBits_5c35a X post px x g = post x.toInt32 g := by
  have hc := fl_fcmp h
  simp (config := { maxSteps := 1000000 }) only [↓w_Jxf58ca_floatToIntBits_5c35a.eq_1, ↓w_Jxf58ca_isNaN_12338_b11.eq_1, ↓w_Jxf58ca_isNaN_12338.eq_1, hc, true_and, and_true, if_true, if_false, reduceIte, and_self, false_and, and_false, or_false, false_or, true_or, or_true, not_true_eq_false, not_false_eq_true, ne_eq, reduceCtorEq, Nat.reduceLT, Nat.reduceEqDiff, Nat.reduceLeDiff, Nat.reduceAdd, eq_self, ii_0_1, ii_0_2, ii_0_3, ii_0_4, ii_1_0, ii_1_2, ii_1_3, ii_1_4, il_1, ii_2_0, ii_2_1, ii_2_3, ii_2_4, il_2, ii_3_0, ii_3_1, ii_3_2, ii_3_4, il_3, ii_4_0, ii_4_1, ii_4_2, ii_4_3, il_4, il_0, ie_0_1, ie_0_2, ie_0_3, ie_0_4, ie_0_5, ie_1_0, ie_1_2, ie_1_3, ie_1_4, ie_1_5, ie_2_0, ie_2_1, ie_2_3, ie_2_4, ie_2_5, ie_3_0, ie_3_1, ie_3_2, ie_3_4, ie_3_5, ie_4_0, ie_4_1, ie_4_2, ie_4_3, ie_4_5, ie_5_0, ie_5_1, ie_5_2, ie_5_3, ie_5_4, nb0, nb1]
theorem pc_nn (P : PI σ) {j : Nat} (hj : j < gL σ 1) : ¬ gV σ 1 10 j < 0 := by
  obtain ⟨⟨p, hp0, hpc⟩, -⟩ := P.2.2.2.1.2.2.2.2.2.1 j hj
  rw [(P.2.2.2.1.2.2.1 j hj).2.2.2.2.1.trans hpc]
  exact nI_pos (by omega)
theorem q_bl {post : Int32 → GM → Prop} (hx : hX X A) (W : WF A σ) (P : PI σ) : ∀ (k f i : Nat), i + k = gL σ 1 → k < f → w_L_builds_l2 X post px f (some (A.1 7 0)) (nI i) (hp A σ) = post (nI (gL σ 1)) (hp A σ) := by
  have h10 : gL σ 1 ≤ 10 := P.2.1.2.2.2.2.2.2.2.2.1
  intro k
  induction k with
  | zero =>
    intro f i hi hf
    obtain ⟨f, rfl⟩ : ∃ f', f = f' + 1 := ⟨f - 1, by omega⟩
    have he : i = gL σ 1 := by omega
    rw [w_L_builds_l2]
    by_cases c : (10 : Int32) ≤ nI i
    · rw [if_pos c, he]; rfl
    · rw [if_neg c, r_of3 hx W P, he, oi_out (Or.inr (by
        cases hz : gL σ 1 with
        | zero => decide
        | succ m => rw [nI_pred]; exact nI_lt (by omega) (by omega))), if_pos (by decide)]
      rfl
  | succ k ih =>
    intro f i hi hf
    obtain ⟨f, rfl⟩ : ∃ f', f = f' + 1 := ⟨f - 1, by omega⟩
    rw [w_L_builds_l2, if_neg (show ¬ (10 : Int32) ≤ nI i from nI_ge (a := i) (b := 10) (by omega) (by omega)), r_of3 hx W P, oi_in (show i < gL σ 1 by omega) (by omega), if_neg (pc_nn P (by omega)), nI_1]
    exact ih f (i + 1) (by omega) (by omega)
theorem q_bs {post : Int32 → GM → Prop} (hx : hX X A) (W : WF A σ) (P : PI σ) : w_L_builds X post px (some (A.1 7 0)) (hp A σ) = post (nI (gL σ 1)) (hp A σ) := by
  have h10 : gL σ 1 ≤ 10 := P.2.1.2.2.2.2.2.2.2.2.1
  unfold w_L_builds
  rw [show (0 : Int32) = nI 0 from rfl]
  exact q_bl hx W P (gL σ 1) 11 0 (by omega) (by omega)
theorem own_nn {k : Int32} (hk : ¬ (k < 0 ∨ 7 < k)) (d : Nat) : ¬ v_own σ k d < 0 := by
  unfold v_own
  rw [if_neg hk]
  by_cases h : (gV σ 2 5 d >>> (k &&& 31)) &&& 1 = 1
  · rw [if_pos h]; decide
  · rw [if_neg h]; decide
theorem q_dl {post : Int32 → GM → Prop} (hx : hX X A) (W : WF A σ) (P : PI σ) : ∀ (k f i : Nat), i + k = gL σ 2 → k < f → w_L_devices_l2 X post px f (some (A.1 7 0)) (nI i) (hp A σ) = post (nI (gL σ 2)) (hp A σ) := by
  have h12 : gL σ 2 ≤ 12 := P.2.1.2.2.2.2.2.2.2.1
  intro k
  induction k with
  | zero =>
    intro f i hi hf
    obtain ⟨f, rfl⟩ : ∃ f', f = f' + 1 := ⟨f - 1, by omega⟩
    have he : i = gL σ 2 := by omega
    rw [w_L_devices_l2]
    by_cases c : (12 : Int32) ≤ nI i
    · rw [if_pos c, he]; rfl
    · rw [if_neg c, r_o hx W P, he, oi_out (Or.inr (by
        cases hz : gL σ 2 with
        | zero => decide
        | succ m => rw [nI_pred]; exact nI_lt (by omega) (by omega))), if_pos (by decide)]
      rfl
  | succ k ih =>
    intro f i hi hf
    obtain ⟨f, rfl⟩ : ∃ f', f = f' + 1 := ⟨f - 1, by omega⟩
    rw [w_L_devices_l2, if_neg (show ¬ (12 : Int32) ≤ nI i from nI_ge (a := i) (b := 12) (by omega) (by omega)), r_o hx W P, oi_in (show i < gL σ 2 by omega) (by omega), if_neg (own_nn (by decide) _), nI_1]
    exact ih f (i + 1) (by omega) (by omega)
theorem q_ds {post : Int32 → GM → Prop} (hx : hX X A) (W : WF A σ) (P : PI σ) : w_L_devices X post px (some (A.1 7 0)) (hp A σ) = post (nI (gL σ 2)) (hp A σ) := by
  have h12 : gL σ 2 ≤ 12 := P.2.1.2.2.2.2.2.2.2.1
  unfold w_L_devices
  rw [show (0 : Int32) = nI 0 from rfl]
  exact q_dl hx W P (gL σ 2) 13 0 (by omega) (by omega)
theorem q_s60 {post : Int64 → GM → Prop} {K : Option Nat → Int32 → Int32 → Int64 → Int32 → GM → Prop} {l1 l2 : Int32} {s : Int64} {j : Nat} (hx : hX X A) (W : WF A σ) (P : PI σ) (hj : j < gL σ 1) : w_L_sum_l60 X post px K 8 (some (A.1 7 0)) l1 l2 s (nI j) 2 (hp A σ) = K (some (A.1 7 0)) l1 l2 (sumB σ j s) (nI (j + 1)) (hp A σ) := by
  have h40 : gL σ 1 ≤ 40 := by have : gL σ 1 ≤ 10 := P.2.1.2.2.2.2.2.2.2.2.1; omega
  have hc := q_nb hj h40
  rw [w_L_sum_l60, if_neg (by decide), r_of2 hx W P, oi_in hj h40]
  try dsimp only
  rw [w_L_sum_l60, i_2, if_neg (by decide), r_of3 hx W P, oi_in hj h40]
  try dsimp only
  rw [w_L_sum_l60, i_3, if_neg (by decide), r_of4 hx W P, oi_in hj h40]
  try dsimp only
  rw [w_L_sum_l60, i_4, if_neg (by decide), r_of5 hx W P, oi_in hj h40]
  try dsimp only
  rw [w_L_sum_l60, i_5, if_neg (by decide), r_of6 hx W P, oi_in hj h40]
  try dsimp only
  rw [w_L_sum_l60, i_6, if_neg (by decide), r_of7 hx W P, oi_in hj h40]
  try dsimp only
  rw [w_L_sum_l60, i_7, if_neg (by decide), r_of8 hx W P, oi_in hj h40]
  try dsimp only
  rw [w_L_sum_l60, i_8, if_pos (by decide), r_rb hx W P, if_neg hc, nI_clamp (by omega)]
  try dsimp only
  rw [r_cr hx W P, oF_in hj h40]
  try dsimp only
  rw [q_fib (v_cr_n σ j), nI_1]
  rfl
theorem q_s51 {post : Int64 → GM → Prop} {l2 : Int32} {s : Int64} (hx : hX X A) (W : WF A σ) (P : PI σ) : ∀ (k f i : Nat), i + k = gL σ 1 → k < f → w_L_sum_l51 X post px f (some (A.1 7 0)) (nI (gL σ 1)) l2 (it (sumB σ) i s) (nI i) (hp A σ) = w_L_sum_l124 X post px 13 (some (A.1 7 0)) l2 (it (sumB σ) (gL σ 1) s) 0 (hp A σ) := by
  have h10 : gL σ 1 ≤ 10 := P.2.1.2.2.2.2.2.2.2.2.1
  intro k
  induction k with
  | zero =>
    intro f i hi hf
    obtain ⟨f, rfl⟩ : ∃ f', f = f' + 1 := ⟨f - 1, by omega⟩
    have he : i = gL σ 1 := by omega
    rw [w_L_sum_l51, if_pos (nI_le (by omega) (by omega)), he]
  | succ k ih =>
    intro f i hi hf
    obtain ⟨f, rfl⟩ : ∃ f', f = f' + 1 := ⟨f - 1, by omega⟩
    rw [w_L_sum_l51, if_neg (nI_ge (by omega) (by omega)), q_s60 hx W P (show i < gL σ 1 by omega)]
    exact ih f (i + 1) (by omega) (by omega)
theorem q_s161 {post : Int64 → GM → Prop} {K : Option Nat → Int32 → Int64 → Int32 → GM → Prop} {l2 : Int32} {s : Int64} {d : Nat} (hx : hX X A) (W : WF A σ) (P : PI σ) (hd : d < gL σ 2) : w_L_sum_l161 X post px K 9 (some (A.1 7 0)) l2 s (nI d) 0 (hp A σ) = K (some (A.1 7 0)) l2 (sumO σ d s) (nI (d + 1)) (hp A σ) := by
  have h40 : gL σ 2 ≤ 40 := by have : gL σ 2 ≤ 12 := P.2.1.2.2.2.2.2.2.2.1; omega
  rw [w_L_sum_l161, if_neg (by decide), r_o hx W P, oi_in hd h40]
  try dsimp only
  rw [w_L_sum_l161, i_0, if_neg (by decide), r_o hx W P, oi_in hd h40]
  try dsimp only
  rw [w_L_sum_l161, i_1, if_neg (by decide), r_o hx W P, oi_in hd h40]
  try dsimp only
  rw [w_L_sum_l161, i_2, if_neg (by decide), r_o hx W P, oi_in hd h40]
  try dsimp only
  rw [w_L_sum_l161, i_3, if_neg (by decide), r_o hx W P, oi_in hd h40]
  try dsimp only
  rw [w_L_sum_l161, i_4, if_neg (by decide), r_o hx W P, oi_in hd h40]
  try dsimp only
  rw [w_L_sum_l161, i_5, if_neg (by decide), r_o hx W P, oi_in hd h40]
  try dsimp only
  rw [w_L_sum_l161, i_6, if_neg (by decide), r_o hx W P, oi_in hd h40]
  try dsimp only
  rw [w_L_sum_l161, i_7, if_pos (by decide), nI_1]
  rfl
theorem q_s124 {post : Int64 → GM → Prop} {s : Int64} (hx : hX X A) (W : WF A σ) (P : PI σ) : ∀ (k f i : Nat), i + k = gL σ 2 → k < f → w_L_sum_l124 X post px f (some (A.1 7 0)) (nI (gL σ 2)) (it (sumD σ) i s) (nI i) (hp A σ) = w_L_sum_l201 X post px 31 (some (A.1 7 0)) (it (sumD σ) (gL σ 2) s) 0 (hp A σ) := by
  have h12 : gL σ 2 ≤ 12 := P.2.1.2.2.2.2.2.2.2.1
  intro k
  induction k with
  | zero =>
    intro f i hi hf
    obtain ⟨f, rfl⟩ : ∃ f', f = f' + 1 := ⟨f - 1, by omega⟩
    have he : i = gL σ 2 := by omega
    rw [w_L_sum_l124, if_pos (nI_le (by omega) (by omega)), he]
  | succ k ih =>
    intro f i hi hf
    obtain ⟨f, rfl⟩ : ∃ f', f = f' + 1 := ⟨f - 1, by omega⟩
    have hd : i < gL σ 2 := by omega
    rw [w_L_sum_l124, if_neg (nI_ge (by omega) (by omega)), r_d0 hx W P, oi_in hd (by omega)]
    try dsimp only
    rw [r_d2 hx W P, oi_in hd (by omega)]
    try dsimp only
    rw [q_s161 hx W P hd]
    exact ih f (i + 1) (by omega) (by omega)
theorem q_s201 {post : Int64 → GM → Prop} {s : Int64} (hx : hX X A) (W : WF A σ) (P : PI σ) : ∀ (k f i : Nat), i + k = gL σ 4 → k < f → w_L_sum_l201 X post px f (some (A.1 7 0)) (it (sumG σ) i s) (nI i) (hp A σ) = post (it (sumG σ) (gL σ 4) s) (hp A σ) := by
  have h30 : gL σ 4 ≤ 30 := P.2.1.2.2.2.2.2.2.2.2.2
  intro k
  induction k with
  | zero =>
    intro f i hi hf
    obtain ⟨f, rfl⟩ : ∃ f', f = f' + 1 := ⟨f - 1, by omega⟩
    have he : i = gL σ 4 := by omega
    rw [w_L_sum_l201, q_gr W P, if_pos (nI_le (by omega) (by omega)), he]
  | succ k ih =>
    intro f i hi hf
    obtain ⟨f, rfl⟩ : ∃ f', f = f' + 1 := ⟨f - 1, by omega⟩
    have hd : i < gL σ 4 := by omega
    rw [w_L_sum_l201, q_gr W P, if_neg (nI_ge (by omega) (by omega)), r_g1 hx W P _ (nI_m9 (by omega)), oi_in hd (by omega)]
    try dsimp only
    rw [r_g2 hx W P _ (nI_m9 (by omega)), oi_in hd (by omega), nI_1]
    exact ih f (i + 1) (by omega) (by omega)
theorem q_C1 {post : Int64 → GM → Prop} (hx : hX X A) (W : WF A σ) (P : PI σ) {s : Int64} : w_L_sum_l51 X post px 11 (some (A.1 7 0)) (nI (gL σ 1)) (nI (gL σ 2)) s 0 (hp A σ) = w_L_sum_l124 X post px 13 (some (A.1 7 0)) (nI (gL σ 2)) (it (sumB σ) (gL σ 1) s) 0 (hp A σ) := by
  have h10 : gL σ 1 ≤ 10 := P.2.1.2.2.2.2.2.2.2.2.1
  have e1 := q_s51 (px := px) (post := post) (l2 := nI (gL σ 2)) (s := s) hx W P (gL σ 1) 11 0 (by omega) (by omega)
  exact e1
theorem q_C2 {post : Int64 → GM → Prop} (hx : hX X A) (W : WF A σ) (P : PI σ) {s : Int64} : w_L_sum_l124 X post px 13 (some (A.1 7 0)) (nI (gL σ 2)) s 0 (hp A σ) = w_L_sum_l201 X post px 31 (some (A.1 7 0)) (it (sumD σ) (gL σ 2) s) 0 (hp A σ) := by
  have h10 : gL σ 2 ≤ 12 := P.2.1.2.2.2.2.2.2.2.1
  have e1 := q_s124 (px := px) (post := post) (s := s) hx W P (gL σ 2) 13 0 (by omega) (by omega)
  exact e1
theorem q_C3 {post : Int64 → GM → Prop} (hx : hX X A) (W : WF A σ) (P : PI σ) {s : Int64} : w_L_sum_l201 X post px 31 (some (A.1 7 0)) s 0 (hp A σ) = post (it (sumG σ) (gL σ 4) s) (hp A σ) := by
  have h30 : gL σ 4 ≤ 30 := P.2.1.2.2.2.2.2.2.2.2.2
  have e1 := q_s201 (px := px) (post := post) (s := s) hx W P (gL σ 4) 31 0 (by omega) (by omega)
  exact e1
theorem q_C4 {post : Int64 → GM → Prop} (hx : hX X A) (W : WF A σ) (P : PI σ) {s : Int64} : w_L_sum_l51 X post px 11 (some (A.1 7 0)) (nI (gL σ 1)) (nI (gL σ 2)) s 0 (hp A σ) = post (it (sumG σ) (gL σ 4) (it (sumD σ) (gL σ 2) (it (sumB σ) (gL σ 1) s))) (hp A σ) := by
  rw [q_C1 hx W P, q_C2 hx W P, q_C3 hx W P]
theorem q_sum {post : Int64 → GM → Prop} (hx : hX X A) (W : WF A σ) (P : PI σ) : w_L_sum X post px (some (A.1 7 0)) (hp A σ) = post (SUM σ) (hp A σ) := by
  have h10 : gL σ 1 ≤ 10 := P.2.1.2.2.2.2.2.2.2.2.1
  have h12 : gL σ 2 ≤ 12 := P.2.1.2.2.2.2.2.2.2.1
  have h30 : gL σ 4 ≤ 30 := P.2.1.2.2.2.2.2.2.2.2.2
  unfold w_L_sum
  rw [q_bs hx W P]
  try dsimp only
  rw [q_ds hx W P]
  try dsimp only
  rw [q_day W P]
  try dsimp only
  rw [q_gr W P]
  try dsimp only
  rw [r_a0 hx W P]
  try dsimp only
  rw [r_a2 hx W P]
  try dsimp only
  unfold SUM
  exact q_C4 hx W P
end SU
