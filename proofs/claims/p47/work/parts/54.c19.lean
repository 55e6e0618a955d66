/-! counts by bucket, changed -/
def sA (σ : St) (F : Nat → Nat → Nat → Int32) : St := (σ.1, F, σ.2.2)
theorem gV_sA {σ : St} {F : Nat → Nat → Nat → Int32} {k f i : Nat} : gV (sA σ F) k f i = F k f i := Eq.trans rfl rfl
theorem gL_sA {σ : St} {F : Nat → Nat → Nat → Int32} {k : Nat} : gL (sA σ F) k = gL σ k := Eq.trans rfl rfl
theorem gR_sA {σ : St} {F : Nat → Nat → Nat → Int32} {k f i : Nat} : gR (sA σ F) k f i = gR σ k f i := Eq.trans rfl rfl
theorem gN_sA {σ : St} {F : Nat → Nat → Nat → Int32} {k i : Nat} : gN (sA σ F) k i = gN σ k i := Eq.trans rfl rfl
theorem WF_sA {A : Ad} {σ : St} {F : Nat → Nat → Nat → Int32} : WF A (sA σ F) = WF A σ := Eq.trans rfl rfl
def chF (σ : St) (k r : Nat) (v y : Int32) (n : Nat) : Nat → Nat → Nat → Int32 := fun k' f' i' => if k' = k + 1 ∧ i' + 1 = r ∧ f' < n ∧ ¬ nI f' ≤ v then gV σ k' f' i' + y else if k' = k ∧ f' = 1 ∧ i' + 1 = r then gV σ k' f' i' + y else gV σ k' f' i'
def chS (σ : St) (k r : Nat) (v y : Int32) : St := sA σ (chF σ k r v y 101)
theorem ch_0 {σ : St} {k i : Nat} {v y : Int32} : sV σ k 1 i (gV σ k 1 i + y) = sA σ (chF σ k (i + 1) v y 0) := by
  refine congrArg (fun F => ((σ.1, F, σ.2.2) : St)) (funext fun k' => funext fun f' => funext fun i' => ?_)
  show (if k' = k ∧ f' = 1 ∧ i' = i then gV σ k 1 i + y else gV σ k' f' i') = chF σ k (i + 1) v y 0 k' f' i'
  unfold chF
  rw [if_neg (c := k' = k + 1 ∧ i' + 1 = i + 1 ∧ f' < 0 ∧ ¬ nI f' ≤ v) (fun z => absurd z.2.2.1 (Nat.not_lt_zero _))]
  by_cases e : k' = k ∧ f' = 1 ∧ i' = i
  · rw [if_pos e, if_pos ⟨e.1, e.2.1, by omega⟩, e.1, e.2.1, e.2.2]
  · rw [if_neg e, if_neg (fun z => e ⟨z.1, z.2.1, by omega⟩)]
theorem ch_s {σ : St} {k i n : Nat} {v y : Int32} (c : ¬ nI n ≤ v) : sV (sA σ (chF σ k (i + 1) v y n)) (k + 1) n i (gV σ (k + 1) n i + y) = sA σ (chF σ k (i + 1) v y (n + 1)) := by
  refine congrArg (fun F => ((σ.1, F, σ.2.2) : St)) (funext fun k' => funext fun f' => funext fun i' => ?_)
  show (if k' = k + 1 ∧ f' = n ∧ i' = i then gV σ (k + 1) n i + y else chF σ k (i + 1) v y n k' f' i') = chF σ k (i + 1) v y (n + 1) k' f' i'
  unfold chF
  by_cases e : k' = k + 1 ∧ f' = n ∧ i' = i
  · rw [if_pos e, if_pos ⟨e.1, by omega, by omega, by rw [e.2.1]; exact c⟩, e.1, e.2.1, e.2.2]
  · rw [if_neg e]
    by_cases e1 : k' = k + 1 ∧ i' + 1 = i + 1 ∧ f' < n ∧ ¬ nI f' ≤ v
    · rw [if_pos e1, if_pos ⟨e1.1, e1.2.1, by omega, e1.2.2.2⟩]
    · rw [if_neg e1, if_neg (c := k' = k + 1 ∧ i' + 1 = i + 1 ∧ f' < n + 1 ∧ ¬ nI f' ≤ v)]
      intro z
      rcases Nat.lt_or_ge f' n with q | q
      · exact e1 ⟨z.1, z.2.1, q, z.2.2.2⟩
      · exact e ⟨z.1, by omega, by omega⟩
theorem ch_k {σ : St} {k r n : Nat} {v y : Int32} (c : nI n ≤ v) : sA σ (chF σ k r v y n) = sA σ (chF σ k r v y (n + 1)) := by
  refine congrArg (fun F => ((σ.1, F, σ.2.2) : St)) (funext fun k' => funext fun f' => funext fun i' => ?_)
  unfold chF
  by_cases e1 : k' = k + 1 ∧ i' + 1 = r ∧ f' < n ∧ ¬ nI f' ≤ v
  · rw [if_pos e1, if_pos ⟨e1.1, e1.2.1, by omega, e1.2.2.2⟩]
  · rw [if_neg e1, if_neg (c := k' = k + 1 ∧ i' + 1 = r ∧ f' < n + 1 ∧ ¬ nI f' ≤ v)]
    intro z
    rcases Nat.lt_or_ge f' n with q | q
    · exact e1 ⟨z.1, z.2.1, q, z.2.2.2⟩
    · have h : f' = n := by omega
      exact z.2.2.2 (by rw [h]; exact c)
theorem ch_n {σ : St} {k : Nat} {v y : Int32} : chS σ k 0 v y = σ := by
  refine (congrArg (fun F => ((σ.1, F, σ.2.2) : St)) (funext fun k' => funext fun f' => funext fun i' => ?_)).trans (show ((σ.1, σ.2.1, σ.2.2) : St) = σ from rfl)
  unfold chF
  rw [if_neg (fun z => absurd z.2.1 (Nat.succ_ne_zero _)), if_neg (fun z => absurd z.2.2 (Nat.succ_ne_zero _))]
  rfl
theorem ch_ne {σ : St} {k r : Nat} {v y : Int32} {k' f' i' : Nat} (h1 : k' ≠ k + 1) (h2 : k' ≠ k) : gV (chS σ k r v y) k' f' i' = gV σ k' f' i' := by
  show chF σ k r v y 101 k' f' i' = _
  unfold chF
  rw [if_neg (fun z => h1 z.1), if_neg (fun z => h2 z.1)]
theorem ch_t {σ : St} {k r b : Nat} {v y : Int32} : gV (chS σ k r v y) k 1 b = gV σ k 1 b + (if b + 1 = r then y else 0) := by
  show chF σ k r v y 101 k 1 b = _
  unfold chF
  rw [if_neg (fun z => by omega)]
  by_cases e : b + 1 = r
  · rw [if_pos ⟨rfl, rfl, e⟩, if_pos e]
  · rw [if_neg (fun z => e z.2.2), if_neg e, Int32.add_zero]
theorem ch_a {σ : St} {k r b j : Nat} {v y : Int32} (hj : j ≤ 100) : gV (chS σ k r v y) (k + 1) j b = gV σ (k + 1) j b + (if b + 1 = r ∧ v < nI j then y else 0) := by
  show chF σ k r v y 101 (k + 1) j b = _
  unfold chF
  by_cases e : b + 1 = r ∧ v < nI j
  · rw [if_pos ⟨rfl, e.1, by omega, fun z => le_lt.mp z e.2⟩, if_pos e]
  · rw [if_neg (fun z => e ⟨z.2.1, Classical.byContradiction (fun w => z.2.2.2 (le_lt.mpr w))⟩), if_neg (fun z => by omega), if_neg e, Int32.add_zero]
section CX
variable {A : Ad} {σ σ' : St} {X : Cx} {px : String → GM → Prop} {b d r i : Nat} {v y : Int32}
theorem q_chl20 {post : GM → Prop} (hx : hX X A) (W : WF A σ) (h1 : i < gL σ 20) (h2 : i < gL σ 21) (h3 : gR σ 20 0 i = i + 1) (h4 : gN σ 21 i = 101) : ∀ (m f n : Nat), n + m = 101 → m < f → w_X0_change_l12 X post px f (some (A.1 20 i)) v y (nI n) (hp A (sA σ (chF σ 20 (i + 1) v y n))) = post (hp A (chS σ 20 (i + 1) v y)) := by
  intro m
  induction m with
  | zero =>
    intro f n hi hf
    obtain ⟨f, rfl⟩ : ∃ f', f = f' + 1 := ⟨f - 1, by omega⟩
    have W' : WF A (sA σ (chF σ 20 (i + 1) v y n)) := W
    rw [w_X0_change_l12, eR_20_0 W' h1, show gR (sA σ (chF σ 20 (i + 1) v y n)) 20 0 i = i + 1 from h3, hr_s, eL_21 hx W' h2, show gN (sA σ (chF σ 20 (i + 1) v y n)) 21 i = 101 from h4, if_pos (nI_le (by omega) (by omega)), show n = 101 by omega]
    rfl
  | succ m ih =>
    intro f n hi hf
    obtain ⟨f, rfl⟩ : ∃ f', f = f' + 1 := ⟨f - 1, by omega⟩
    have W' : WF A (sA σ (chF σ 20 (i + 1) v y n)) := W
    have ih' := ih f (n + 1) (by omega) (by omega)
    rw [w_X0_change_l12, eR_20_0 W' h1, show gR (sA σ (chF σ 20 (i + 1) v y n)) 20 0 i = i + 1 from h3, hr_s, eL_21 hx W' h2, show gN (sA σ (chF σ 20 (i + 1) v y n)) 21 i = 101 from h4, if_neg (nI_ge (by omega) (by omega))]
    unfold w_X0_change_b36
    rw [nI_1]
    by_cases c : nI n ≤ v
    · rw [if_pos c, ch_k c]
      exact ih'
    · have e : gV (sA σ (chF σ 20 (i + 1) v y n)) 21 n i = gV σ 21 n i := by
        rw [gV_sA]
        unfold chF
        rw [if_neg (fun z => absurd z.2.2.1 (Nat.lt_irrefl _)), if_neg (fun z => absurd z.1 (by decide))]
      rw [if_neg c, eR_20_0 W' h1, show gR (sA σ (chF σ 20 (i + 1) v y n)) 20 0 i = i + 1 from h3, hr_s, e_Ald W' h2 hak_21 (by decide), show gN (sA σ (chF σ 20 (i + 1) v y n)) 21 i = 101 from h4, p_and (vp_in_nI (show n < 101 by omega) (by omega)), nI_clamp (by omega), e_Ast W' h2 hak_21 (by decide), show gN (sA σ (chF σ 20 (i + 1) v y n)) 21 i = 101 from h4, p_and (vp_in_nI (show n < 101 by omega) (by omega)), nI_clamp (by omega), e, show 21 = 20 + 1 from rfl, ch_s c]
      exact ih'
theorem q_ch20 {post : GM → Prop} (hx : hX X A) (W : WF A σ) (h1 : i < gL σ 20) (h2 : i < gL σ 21) (h3 : gR σ 20 0 i = i + 1) (h4 : gN σ 21 i = 101) : w_X0_change X post px (some (A.1 20 i)) v y (hp A σ) = post (hp A (chS σ 20 (i + 1) v y)) := by
  unfold w_X0_change
  rw [e_GetI W h1 hok_20_1, e_PutI W h1 hok_20_1, ch_0 (v := v)]
  exact q_chl20 hx W h1 h2 h3 h4 101 3000 0 (by omega) (by omega)
theorem q_chl22 {post : GM → Prop} (hx : hX X A) (W : WF A σ) (h1 : i < gL σ 22) (h2 : i < gL σ 23) (h3 : gR σ 22 0 i = i + 1) (h4 : gN σ 23 i = 101) : ∀ (m f n : Nat), n + m = 101 → m < f → w_X0_change_l12 X post px f (some (A.1 22 i)) v y (nI n) (hp A (sA σ (chF σ 22 (i + 1) v y n))) = post (hp A (chS σ 22 (i + 1) v y)) := by
  intro m
  induction m with
  | zero =>
    intro f n hi hf
    obtain ⟨f, rfl⟩ : ∃ f', f = f' + 1 := ⟨f - 1, by omega⟩
    have W' : WF A (sA σ (chF σ 22 (i + 1) v y n)) := W
    rw [w_X0_change_l12, eR_22_0 W' h1, show gR (sA σ (chF σ 22 (i + 1) v y n)) 22 0 i = i + 1 from h3, hr_s, eL_23 hx W' h2, show gN (sA σ (chF σ 22 (i + 1) v y n)) 23 i = 101 from h4, if_pos (nI_le (by omega) (by omega)), show n = 101 by omega]
    rfl
  | succ m ih =>
    intro f n hi hf
    obtain ⟨f, rfl⟩ : ∃ f', f = f' + 1 := ⟨f - 1, by omega⟩
    have W' : WF A (sA σ (chF σ 22 (i + 1) v y n)) := W
    have ih' := ih f (n + 1) (by omega) (by omega)
    rw [w_X0_change_l12, eR_22_0 W' h1, show gR (sA σ (chF σ 22 (i + 1) v y n)) 22 0 i = i + 1 from h3, hr_s, eL_23 hx W' h2, show gN (sA σ (chF σ 22 (i + 1) v y n)) 23 i = 101 from h4, if_neg (nI_ge (by omega) (by omega))]
    unfold w_X0_change_b36
    rw [nI_1]
    by_cases c : nI n ≤ v
    · rw [if_pos c, ch_k c]
      exact ih'
    · have e : gV (sA σ (chF σ 22 (i + 1) v y n)) 23 n i = gV σ 23 n i := by
        rw [gV_sA]
        unfold chF
        rw [if_neg (fun z => absurd z.2.2.1 (Nat.lt_irrefl _)), if_neg (fun z => absurd z.1 (by decide))]
      rw [if_neg c, eR_22_0 W' h1, show gR (sA σ (chF σ 22 (i + 1) v y n)) 22 0 i = i + 1 from h3, hr_s, e_Ald W' h2 hak_23 (by decide), show gN (sA σ (chF σ 22 (i + 1) v y n)) 23 i = 101 from h4, p_and (vp_in_nI (show n < 101 by omega) (by omega)), nI_clamp (by omega), e_Ast W' h2 hak_23 (by decide), show gN (sA σ (chF σ 22 (i + 1) v y n)) 23 i = 101 from h4, p_and (vp_in_nI (show n < 101 by omega) (by omega)), nI_clamp (by omega), e, show 23 = 22 + 1 from rfl, ch_s c]
      exact ih'
theorem q_ch22 {post : GM → Prop} (hx : hX X A) (W : WF A σ) (h1 : i < gL σ 22) (h2 : i < gL σ 23) (h3 : gR σ 22 0 i = i + 1) (h4 : gN σ 23 i = 101) : w_X0_change X post px (some (A.1 22 i)) v y (hp A σ) = post (hp A (chS σ 22 (i + 1) v y)) := by
  unfold w_X0_change
  rw [e_GetI W h1 hok_22_1, e_PutI W h1 hok_22_1, ch_0 (v := v)]
  exact q_chl22 hx W h1 h2 h3 h4 101 3000 0 (by omega) (by omega)
/-- the state after an update -/
def us (σ : St) (d r : Nat) : St := sV (sR (sV (chS (chS σ 20 (gR σ 2 3 d) (gV σ 2 2 d) (-1)) 20 (r + 1) (gV σ 2 2 d) 1) 1 12 r (gV σ 1 12 r + 1)) 2 3 d (r + 1)) 2 4 d 0
theorem q_u34 {post : Int32 → GM → Prop} (hx : hX X A) (W : WF A σ) (P : PI σ) (hd : d < gL σ 2) (hr1 : r < gL σ 1) : w_X7_update_b34 X post px (some (A.1 2 d)) (some (A.1 1 r)) (hp A (chS σ 20 (gR σ 2 3 d) (gV σ 2 2 d) (-1))) = post (nI r) (hp A (us σ d r)) := by
  obtain ⟨g1, g2, -⟩ := P.2.2.2.2.2.1.1
  obtain ⟨k1, k2, -⟩ := P.2.2.2.2.2.1.2.1 r hr1
  have h6 : gR σ 1 6 r = r + 1 := (P.2.2.2.1.1 r hr1).2.2.2.2.2.2
  have hn : gV σ 1 0 r = nI r := (P.2.2.2.1.1 r hr1).1
  have W1 : WF A (chS σ 20 (gR σ 2 3 d) (gV σ 2 2 d) (-1)) := W
  have W2 : WF A (chS (chS σ 20 (gR σ 2 3 d) (gV σ 2 2 d) (-1)) 20 (r + 1) (gV σ 2 2 d) 1) := W
  have W3 : WF A (sV (chS (chS σ 20 (gR σ 2 3 d) (gV σ 2 2 d) (-1)) 20 (r + 1) (gV σ 2 2 d) 1) 1 12 r (gV σ 1 12 r + 1)) := W
  have W4 : WF A (sR (sV (chS (chS σ 20 (gR σ 2 3 d) (gV σ 2 2 d) (-1)) 20 (r + 1) (gV σ 2 2 d) 1) 1 12 r (gV σ 1 12 r + 1)) 2 3 d (r + 1)) := WF_sR W3 (show r + 1 ≤ gL σ 1 + 0 by omega)
  have W5 : WF A (us σ d r) := W4
  unfold w_X7_update_b34
  rw [eR_1_6 W1 hr1, show gR (chS σ 20 (gR σ 2 3 d) (gV σ 2 2 d) (-1)) 1 6 r = r + 1 from h6, hr_s, e_GetI W1 hd hok_2_2, show gV (chS σ 20 (gR σ 2 3 d) (gV σ 2 2 d) (-1)) 2 2 d = gV σ 2 2 d from rfl, e_Is' W1 (show r < gL σ 20 by omega) hcl_20, q_ch20 hx W1 (show r < gL σ 20 by omega) (show r < gL σ 21 by omega) k1 k2]
  rw [e_GetI W2 hr1 hok_1_12, show gV (chS (chS σ 20 (gR σ 2 3 d) (gV σ 2 2 d) (-1)) 20 (r + 1) (gV σ 2 2 d) 1) 1 12 r = gV σ 1 12 r from rfl, e_PutI W2 hr1 hok_1_12, e_PutR W3 hd hok_2_3 (by decide), e_PutI W4 hd hok_2_4]
  rw [show sV (sR (sV (chS (chS σ 20 (gR σ 2 3 d) (gV σ 2 2 d) (-1)) 20 (r + 1) (gV σ 2 2 d) 1) 1 12 r (gV σ 1 12 r + 1)) 2 3 d (r + 1)) 2 4 d 0 = us σ d r from rfl, e_GetI W5 hr1 hok_1_0, show gV (us σ d r) 1 0 r = nI r from hn]
theorem q_upd {post : Int32 → GM → Prop} (hx : hX X A) (W : WF A σ) (P : PI σ) (hd : d < gL σ 2) (hcf : cf_at σ d (gL σ 1) = r + 1) (hr1 : r < gL σ 1) : w_X7_update X post px (some (A.1 7 0)) (nI d) (hp A σ) = post (nI r) (hp A (us σ d r)) := by
  have Q := P.1
  have h10 : gL σ 1 ≤ 10 := P.2.1.2.2.2.2.2.2.2.2.1
  have h12 : gL σ 2 ≤ 12 := P.2.1.2.2.2.2.2.2.2.1
  have hL := P.2.2.2.2.2.2.2.1
  have hc := q_nb hd (show gL σ 2 ≤ 40 by omega)
  obtain ⟨g1, g2, -⟩ := P.2.2.2.2.2.1.1
  unfold w_X7_update
  rw [e_Is' W (sL_7 Q) hcl_7, q_kd W Q hL h12, if_neg hc, nI_clamp (by omega)]
  try dsimp only
  rw [e_Is' W (sL_7 Q) hcl_7, q_cf W P hd, hcf, if_neg (Nat.succ_ne_zero r), Nat.add_sub_cancel]
  try dsimp only
  rw [eR_2_3 W hd]
  refine Eq.trans ?_ (q_u34 (px := px) hx W P hd hr1)
  by_cases z : gR σ 2 3 d = 0
  · rw [if_pos (by rw [z]; rfl), z, ch_n]
  · obtain ⟨m, hm⟩ : ∃ m, gR σ 2 3 d = m + 1 := ⟨gR σ 2 3 d - 1, by omega⟩
    have hml : m < gL σ 1 := by
      have h1 : gR σ 2 3 d ≤ gL σ 1 := W.2.2 2 3 d hd
      omega
    obtain ⟨k1, k2, -⟩ := P.2.2.2.2.2.1.2.1 m hml
    have h6 : gR σ 1 6 m = m + 1 := (P.2.2.2.1.1 m hml).2.2.2.2.2.2
    rw [if_neg (hr_nn z), eR_2_3 W hd, hm, hr_s, eR_1_6 W hml, h6, hr_s, e_GetI W hd hok_2_2, e_Is' W (show m < gL σ 20 by omega) hcl_20, q_ch20 hx W (show m < gL σ 20 by omega) (show m < gL σ 21 by omega) k1 k2]
theorem gR_us {k f : Nat} : gR (us σ d r) k f i = if k = 2 ∧ f = 3 ∧ i = d then r + 1 else gR σ k f i := Eq.trans rfl rfl
theorem gL_us {k : Nat} : gL (us σ d r) k = gL σ k := Eq.trans rfl rfl
theorem us_24 : gV (us σ d r) 2 4 i = if i = d then 0 else gV σ 2 4 i := by
  by_cases e : i = d
  · rw [if_pos e]; exact if_pos ⟨rfl, rfl, e⟩
  · rw [if_neg e]; exact if_neg (fun z => e z.2.2)
theorem us_112 : gV (us σ d r) 1 12 b = if b = r then gV σ 1 12 b + 1 else gV σ 1 12 b := by
  by_cases e : b = r
  · rw [if_pos e, e]; exact if_pos ⟨rfl, rfl, rfl⟩
  · rw [if_neg e]; exact if_neg (fun z => e z.2.2)
theorem us_20 : gV (us σ d r) 20 1 b = gV σ 20 1 b + (if b + 1 = gR σ 2 3 d then -1 else 0) + (if b = r then 1 else 0) := by
  refine Eq.trans (show gV (us σ d r) 20 1 b = gV (chS (chS σ 20 (gR σ 2 3 d) (gV σ 2 2 d) (-1)) 20 (r + 1) (gV σ 2 2 d) 1) 20 1 b from rfl) ?_
  rw [ch_t, ch_t]
  simp only [Nat.add_right_cancel_iff]
theorem us_21 {j : Nat} (hj : j ≤ 100) : gV (us σ d r) 21 j b = gV σ 21 j b + (if b + 1 = gR σ 2 3 d ∧ gV σ 2 2 d < nI j then -1 else 0) + (if b = r ∧ gV σ 2 2 d < nI j then 1 else 0) := by
  refine Eq.trans (show gV (us σ d r) 21 j b = gV (chS (chS σ 20 (gR σ 2 3 d) (gV σ 2 2 d) (-1)) 20 (r + 1) (gV σ 2 2 d) 1) (20 + 1) j b from rfl) ?_
  rw [ch_a hj, ch_a hj]
  simp only [Nat.add_right_cancel_iff]
theorem us_22 : gV (us σ d r) 2 2 i = gV σ 2 2 i := Eq.trans rfl rfl
/-- one device's share of a count moves -/
theorem us_sm {n : Nat} {t : Int32} (hd : d < n) (hne : ¬ r + 1 = gR σ 2 3 d) : sm (fun x => if (if x = d then r + 1 else gR σ 2 3 x) = b + 1 ∧ gV σ 2 2 x < t then (1 : Int32) else 0) n = sm (fun x => if gR σ 2 3 x = b + 1 ∧ gV σ 2 2 x < t then (1 : Int32) else 0) n + (if b + 1 = gR σ 2 3 d ∧ gV σ 2 2 d < t then -1 else 0) + (if b = r ∧ gV σ 2 2 d < t then 1 else 0) := by
  rw [sm_ch (f := fun x => if gR σ 2 3 x = b + 1 ∧ gV σ 2 2 x < t then (1 : Int32) else 0) hd (fun x _ hx => by simp only [if_neg hx])]
  simp only [if_true]
  rw [Int32.add_assoc]
  congr 1
  by_cases hp1 : gV σ 2 2 d < t
  · by_cases e1 : b + 1 = gR σ 2 3 d
    · rw [if_neg (fun z => hne (by omega)), if_pos ⟨e1.symm, hp1⟩, if_pos ⟨e1, hp1⟩, if_neg (fun z => hne (by omega))]; rfl
    · by_cases e2 : b = r
      · rw [if_pos ⟨by omega, hp1⟩, if_neg (fun z => e1 z.1.symm), if_neg (fun z => e1 z.1), if_pos ⟨by omega, hp1⟩]; rfl
      · rw [if_neg (fun z => e2 (by omega)), if_neg (fun z => e1 z.1.symm), if_neg (fun z => e1 z.1), if_neg (fun z => e2 (by omega))]; rfl
  · rw [if_neg (fun z => hp1 z.2), if_neg (fun z => hp1 z.2), if_neg (fun z => hp1 z.2), if_neg (fun z => hp1 z.2)]; rfl
theorem us_sm0 {n : Nat} (hd : d < n) (hne : ¬ r + 1 = gR σ 2 3 d) : sm (fun x => if (if x = d then r + 1 else gR σ 2 3 x) = b + 1 then (1 : Int32) else 0) n = sm (fun x => if gR σ 2 3 x = b + 1 then (1 : Int32) else 0) n + (if b + 1 = gR σ 2 3 d then -1 else 0) + (if b = r then 1 else 0) := by
  rw [sm_ch (f := fun x => if gR σ 2 3 x = b + 1 then (1 : Int32) else 0) hd (fun x _ hx => by simp only [if_neg hx])]
  simp only [if_true]
  rw [Int32.add_assoc]
  congr 1
  by_cases e1 : b + 1 = gR σ 2 3 d
  · rw [if_neg (fun z => hne (by omega)), if_pos e1.symm, if_pos e1, if_neg (fun z => hne (by omega))]; rfl
  · by_cases e2 : b = r
    · rw [if_pos (by omega), if_neg (fun z => e1 z.symm), if_neg e1, if_pos (by omega)]; rfl
    · rw [if_neg (fun z => e2 (by omega)), if_neg (fun z => e1 z.symm), if_neg e1, if_neg (fun z => e2 (by omega))]; rfl
set_option maxHeartbeats 2000000 in
theorem pi_upd {x : Int64} (W : WF A σ) (P : PI σ) (hd : d < gL σ 2) (hr1 : r < gL σ 1) (ok : cf_ok σ d r) : PI (sV (sV (sV (sV (sJ (us σ d r) x) 8 36 0 0) 8 36 0 0) 103 d 0 (nI r)) 119 r 0 (gV σ 119 r 0 + 1)) := by
  have hne : ¬ r + 1 = gR σ 2 3 d := fun z => by
    have h := ok.1
    unfold cf_nw at h
    rw [if_neg (by omega), ← z, Nat.add_sub_cancel, if_pos (Int32.le_refl _)] at h
    exact absurd h (by decide)
  have hvv : gR σ 2 3 d ≠ 0 → ¬ gV σ 107 r 0 ≤ gV σ 107 (gR σ 2 3 d - 1) 0 ∨ gL σ 1 ≤ gR σ 2 3 d - 1 := fun z => by
    have h := ok.1
    unfold cf_nw at h
    rw [if_neg z] at h
    rcases Nat.lt_or_ge (gR σ 2 3 d - 1) (gL σ 1) with q | q
    · refine Or.inl (fun w => ?_)
      rw [← (P.2.2.2.1.1 r hr1).2.1, ← (P.2.2.2.1.1 _ q).2.1] at w
      rw [if_pos w] at h
      exact absurd h (by decide)
    · exact Or.inr q
  have hfr : cu_fr σ r d = 0 → False := fun z => by
    have h := ok.2
    unfold cu_op at h
    by_cases c : rl σ r = 0
    · rw [if_pos c] at h; exact absurd h (by decide)
    · rw [if_neg c, if_pos z] at h; exact absurd h (by decide)
  have h205 : gR σ 2 3 d ≤ gL σ 1 → gV σ 205 r d = 0 := fun hle => Classical.byContradiction (fun z => by
    obtain ⟨y1, y2⟩ := P.2.2.1.2.2.2.2.1 d r hd hr1 z
    rcases hvv y1 with q | q
    · exact q y2
    · omega)
  have hle : gR σ 2 3 d ≤ gL σ 1 := W.2.2 2 3 d hd
  refine ⟨P.1, P.2.1, ⟨?_, ?_, P.2.2.1.2.2.1, P.2.2.1.2.2.2.1, ?_, P.2.2.1.2.2.2.2.2⟩, ⟨P.2.2.2.1.1, P.2.2.2.1.2.1, ?_, P.2.2.2.1.2.2.2.1, P.2.2.2.1.2.2.2.2.1, P.2.2.2.1.2.2.2.2.2.1, P.2.2.2.1.2.2.2.2.2.2.1, ?_⟩, P.2.2.2.2.1, ⟨P.2.2.2.2.2.1.1, ?_, P.2.2.2.2.2.1.2.2.1, P.2.2.2.2.2.1.2.2.2.1, P.2.2.2.2.2.1.2.2.2.2⟩, P.2.2.2.2.2.2.1, P.2.2.2.2.2.2.2⟩
  · intro d' hd'
    obtain ⟨a1, a2, a3, a4, a5, a6⟩ := P.2.2.1.1 d' hd'
    refine ⟨a1, a2, a3, ?_, a5, ?_⟩
    · by_cases e : d' = d
      · subst e
        simp (config := { maxSteps := 1000000 }) only [gV_sV, gV_sJ, gR_sV, gR_sJ, gR_us, true_and, and_true, if_true, if_false, reduceIte, and_self, false_and, and_false, or_false, false_or, true_or, or_true, not_true_eq_false, not_false_eq_true, ne_eq, reduceCtorEq, Nat.reduceLT, Nat.reduceEqDiff, Nat.reduceLeDiff, Nat.reduceAdd, eq_self, ii_0_1, ii_0_2, ii_0_3, ii_0_4, ii_1_0, ii_1_2, ii_1_3, ii_1_4, il_1, ii_2_0, ii_2_1, ii_2_3, ii_2_4, il_2, ii_3_0, ii_3_1, ii_3_2, ii_3_4, il_3, ii_4_0, ii_4_1, ii_4_2, ii_4_3, il_4, il_0, ie_0_1, ie_0_2, ie_0_3, ie_0_4, ie_0_5, ie_1_0, ie_1_2, ie_1_3, ie_1_4, ie_1_5, ie_2_0, ie_2_1, ie_2_3, ie_2_4, ie_2_5, ie_3_0, ie_3_1, ie_3_2, ie_3_4, ie_3_5, ie_4_0, ie_4_1, ie_4_2, ie_4_3, ie_4_5, ie_5_0, ie_5_1, ie_5_2, ie_5_3, ie_5_4, nI_pred]
      · simp (config := { maxSteps := 1000000 }) only [gV_sV, gV_sJ, gR_sV, gR_sJ, gR_us, true_and, and_true, if_true, if_false, reduceIte, and_self, false_and, and_false, or_false, false_or, true_or, or_true, not_true_eq_false, not_false_eq_true, ne_eq, reduceCtorEq, Nat.reduceLT, Nat.reduceEqDiff, Nat.reduceLeDiff, Nat.reduceAdd, eq_self, ii_0_1, ii_0_2, ii_0_3, ii_0_4, ii_1_0, ii_1_2, ii_1_3, ii_1_4, il_1, ii_2_0, ii_2_1, ii_2_3, ii_2_4, il_2, ii_3_0, ii_3_1, ii_3_2, ii_3_4, il_3, ii_4_0, ii_4_1, ii_4_2, ii_4_3, il_4, il_0, ie_0_1, ie_0_2, ie_0_3, ie_0_4, ie_0_5, ie_1_0, ie_1_2, ie_1_3, ie_1_4, ie_1_5, ie_2_0, ie_2_1, ie_2_3, ie_2_4, ie_2_5, ie_3_0, ie_3_1, ie_3_2, ie_3_4, ie_3_5, ie_4_0, ie_4_1, ie_4_2, ie_4_3, ie_4_5, ie_5_0, ie_5_1, ie_5_2, ie_5_3, ie_5_4, if_neg e, e]
        exact a4
    · by_cases e : d' = d
      · subst e
        simp (config := { maxSteps := 1000000 }) only [gV_sV, gV_sJ, gR_sV, gR_sJ, gR_us, us_24, true_and, and_true, if_true, if_false, reduceIte, and_self, false_and, and_false, or_false, false_or, true_or, or_true, not_true_eq_false, not_false_eq_true, ne_eq, reduceCtorEq, Nat.reduceLT, Nat.reduceEqDiff, Nat.reduceLeDiff, Nat.reduceAdd, eq_self, ii_0_1, ii_0_2, ii_0_3, ii_0_4, ii_1_0, ii_1_2, ii_1_3, ii_1_4, il_1, ii_2_0, ii_2_1, ii_2_3, ii_2_4, il_2, ii_3_0, ii_3_1, ii_3_2, ii_3_4, il_3, ii_4_0, ii_4_1, ii_4_2, ii_4_3, il_4, il_0, ie_0_1, ie_0_2, ie_0_3, ie_0_4, ie_0_5, ie_1_0, ie_1_2, ie_1_3, ie_1_4, ie_1_5, ie_2_0, ie_2_1, ie_2_3, ie_2_4, ie_2_5, ie_3_0, ie_3_1, ie_3_2, ie_3_4, ie_3_5, ie_4_0, ie_4_1, ie_4_2, ie_4_3, ie_4_5, ie_5_0, ie_5_1, ie_5_2, ie_5_3, ie_5_4, Nat.add_sub_cancel, Nat.succ_ne_zero]
        exact (h205 hle).symm
      · simp (config := { maxSteps := 1000000 }) only [gV_sV, gV_sJ, gR_sV, gR_sJ, gR_us, us_24, true_and, and_true, if_true, if_false, reduceIte, and_self, false_and, and_false, or_false, false_or, true_or, or_true, not_true_eq_false, not_false_eq_true, ne_eq, reduceCtorEq, Nat.reduceLT, Nat.reduceEqDiff, Nat.reduceLeDiff, Nat.reduceAdd, eq_self, ii_0_1, ii_0_2, ii_0_3, ii_0_4, ii_1_0, ii_1_2, ii_1_3, ii_1_4, il_1, ii_2_0, ii_2_1, ii_2_3, ii_2_4, il_2, ii_3_0, ii_3_1, ii_3_2, ii_3_4, il_3, ii_4_0, ii_4_1, ii_4_2, ii_4_3, il_4, il_0, ie_0_1, ie_0_2, ie_0_3, ie_0_4, ie_0_5, ie_1_0, ie_1_2, ie_1_3, ie_1_4, ie_1_5, ie_2_0, ie_2_1, ie_2_3, ie_2_4, ie_2_5, ie_3_0, ie_3_1, ie_3_2, ie_3_4, ie_3_5, ie_4_0, ie_4_1, ie_4_2, ie_4_3, ie_4_5, ie_5_0, ie_5_1, ie_5_2, ie_5_3, ie_5_4, if_neg e, e]
        exact a6
  · intro d' hd'
    by_cases e : d' = d
    · subst e
      simp (config := { maxSteps := 1000000 }) only [gV_sV, gV_sJ, gR_sV, gR_sJ, gR_us, true_and, and_true, if_true, if_false, reduceIte, and_self, false_and, and_false, or_false, false_or, true_or, or_true, not_true_eq_false, not_false_eq_true, ne_eq, reduceCtorEq, Nat.reduceLT, Nat.reduceEqDiff, Nat.reduceLeDiff, Nat.reduceAdd, eq_self, ii_0_1, ii_0_2, ii_0_3, ii_0_4, ii_1_0, ii_1_2, ii_1_3, ii_1_4, il_1, ii_2_0, ii_2_1, ii_2_3, ii_2_4, il_2, ii_3_0, ii_3_1, ii_3_2, ii_3_4, il_3, ii_4_0, ii_4_1, ii_4_2, ii_4_3, il_4, il_0, ie_0_1, ie_0_2, ie_0_3, ie_0_4, ie_0_5, ie_1_0, ie_1_2, ie_1_3, ie_1_4, ie_1_5, ie_2_0, ie_2_1, ie_2_3, ie_2_4, ie_2_5, ie_3_0, ie_3_1, ie_3_2, ie_3_4, ie_3_5, ie_4_0, ie_4_1, ie_4_2, ie_4_3, ie_4_5, ie_5_0, ie_5_1, ie_5_2, ie_5_3, ie_5_4, Nat.add_sub_cancel, Nat.succ_ne_zero]
      intro _
      have h := hfr
      unfold cu_fr at h
      by_cases c1 : (gV σ 108 r 0 >>> (gV σ 100 d' 0 &&& 31)) &&& 1 = 1
      · by_cases c2 : (gV σ 109 r 0 >>> (gV σ 101 d' 0 &&& 31)) &&& 1 = 1
        · exact ⟨c1, c2⟩
        · rw [if_pos c1, if_neg c2] at h; exact (h rfl).elim
      · rw [if_neg c1] at h; exact (h rfl).elim
    · simp (config := { maxSteps := 1000000 }) only [gV_sV, gV_sJ, gR_sV, gR_sJ, gR_us, true_and, and_true, if_true, if_false, reduceIte, and_self, false_and, and_false, or_false, false_or, true_or, or_true, not_true_eq_false, not_false_eq_true, ne_eq, reduceCtorEq, Nat.reduceLT, Nat.reduceEqDiff, Nat.reduceLeDiff, Nat.reduceAdd, eq_self, ii_0_1, ii_0_2, ii_0_3, ii_0_4, ii_1_0, ii_1_2, ii_1_3, ii_1_4, il_1, ii_2_0, ii_2_1, ii_2_3, ii_2_4, il_2, ii_3_0, ii_3_1, ii_3_2, ii_3_4, il_3, ii_4_0, ii_4_1, ii_4_2, ii_4_3, il_4, il_0, ie_0_1, ie_0_2, ie_0_3, ie_0_4, ie_0_5, ie_1_0, ie_1_2, ie_1_3, ie_1_4, ie_1_5, ie_2_0, ie_2_1, ie_2_3, ie_2_4, ie_2_5, ie_3_0, ie_3_1, ie_3_2, ie_3_4, ie_3_5, ie_4_0, ie_4_1, ie_4_2, ie_4_3, ie_4_5, ie_5_0, ie_5_1, ie_5_2, ie_5_3, ie_5_4, if_neg e, e]
      exact P.2.2.1.2.1 d' hd'
  · intro d' b' hd' hb' h0
    have h0' : gV σ 205 b' d' ≠ 0 := h0
    by_cases e : d' = d
    · subst e
      simp (config := { maxSteps := 1000000 }) only [gV_sV, gV_sJ, gR_sV, gR_sJ, gR_us, true_and, and_true, if_true, if_false, reduceIte, and_self, false_and, and_false, or_false, false_or, true_or, or_true, not_true_eq_false, not_false_eq_true, ne_eq, reduceCtorEq, Nat.reduceLT, Nat.reduceEqDiff, Nat.reduceLeDiff, Nat.reduceAdd, eq_self, ii_0_1, ii_0_2, ii_0_3, ii_0_4, ii_1_0, ii_1_2, ii_1_3, ii_1_4, il_1, ii_2_0, ii_2_1, ii_2_3, ii_2_4, il_2, ii_3_0, ii_3_1, ii_3_2, ii_3_4, il_3, ii_4_0, ii_4_1, ii_4_2, ii_4_3, il_4, il_0, ie_0_1, ie_0_2, ie_0_3, ie_0_4, ie_0_5, ie_1_0, ie_1_2, ie_1_3, ie_1_4, ie_1_5, ie_2_0, ie_2_1, ie_2_3, ie_2_4, ie_2_5, ie_3_0, ie_3_1, ie_3_2, ie_3_4, ie_3_5, ie_4_0, ie_4_1, ie_4_2, ie_4_3, ie_4_5, ie_5_0, ie_5_1, ie_5_2, ie_5_3, ie_5_4, Nat.add_sub_cancel, Nat.succ_ne_zero]
      obtain ⟨y1, y2⟩ := P.2.2.1.2.2.2.2.1 d' b' hd' hb' h0'
      rcases hvv y1 with q | q
      · have y3 := Int32.le_iff_toInt_le.mp y2
        have q2 : ¬ (gV σ 107 r 0).toInt ≤ (gV σ 107 (gR σ 2 3 d' - 1) 0).toInt := fun w => q (Int32.le_iff_toInt_le.mpr w)
        exact Int32.le_iff_toInt_le.mpr (show (gV σ 107 b' 0).toInt ≤ (gV σ 107 r 0).toInt by omega)
      · omega
    · simp (config := { maxSteps := 1000000 }) only [gV_sV, gV_sJ, gR_sV, gR_sJ, gR_us, true_and, and_true, if_true, if_false, reduceIte, and_self, false_and, and_false, or_false, false_or, true_or, or_true, not_true_eq_false, not_false_eq_true, ne_eq, reduceCtorEq, Nat.reduceLT, Nat.reduceEqDiff, Nat.reduceLeDiff, Nat.reduceAdd, eq_self, ii_0_1, ii_0_2, ii_0_3, ii_0_4, ii_1_0, ii_1_2, ii_1_3, ii_1_4, il_1, ii_2_0, ii_2_1, ii_2_3, ii_2_4, il_2, ii_3_0, ii_3_1, ii_3_2, ii_3_4, il_3, ii_4_0, ii_4_1, ii_4_2, ii_4_3, il_4, il_0, ie_0_1, ie_0_2, ie_0_3, ie_0_4, ie_0_5, ie_1_0, ie_1_2, ie_1_3, ie_1_4, ie_1_5, ie_2_0, ie_2_1, ie_2_3, ie_2_4, ie_2_5, ie_3_0, ie_3_1, ie_3_2, ie_3_4, ie_3_5, ie_4_0, ie_4_1, ie_4_2, ie_4_3, ie_4_5, ie_5_0, ie_5_1, ie_5_2, ie_5_3, ie_5_4, if_neg e, e]
      exact P.2.2.1.2.2.2.2.1 d' b' hd' hb' h0'
  · intro b' hb'
    obtain ⟨a1, a2, a3, a4, a5, a6, a7, a8⟩ := P.2.2.2.1.2.2.1 b' hb'
    refine ⟨a1, a2, a3, a4, a5, a6, ?_, a8⟩
    by_cases e : b' = r
    · subst e
      simp (config := { maxSteps := 1000000 }) only [gV_sV, gV_sJ, us_112, true_and, and_true, if_true, if_false, reduceIte, and_self, false_and, and_false, or_false, false_or, true_or, or_true, not_true_eq_false, not_false_eq_true, ne_eq, reduceCtorEq, Nat.reduceLT, Nat.reduceEqDiff, Nat.reduceLeDiff, Nat.reduceAdd, eq_self, ii_0_1, ii_0_2, ii_0_3, ii_0_4, ii_1_0, ii_1_2, ii_1_3, ii_1_4, il_1, ii_2_0, ii_2_1, ii_2_3, ii_2_4, il_2, ii_3_0, ii_3_1, ii_3_2, ii_3_4, il_3, ii_4_0, ii_4_1, ii_4_2, ii_4_3, il_4, il_0, ie_0_1, ie_0_2, ie_0_3, ie_0_4, ie_0_5, ie_1_0, ie_1_2, ie_1_3, ie_1_4, ie_1_5, ie_2_0, ie_2_1, ie_2_3, ie_2_4, ie_2_5, ie_3_0, ie_3_1, ie_3_2, ie_3_4, ie_3_5, ie_4_0, ie_4_1, ie_4_2, ie_4_3, ie_4_5, ie_5_0, ie_5_1, ie_5_2, ie_5_3, ie_5_4, a7]
    · simp (config := { maxSteps := 1000000 }) only [gV_sV, gV_sJ, us_112, true_and, and_true, if_true, if_false, reduceIte, and_self, false_and, and_false, or_false, false_or, true_or, or_true, not_true_eq_false, not_false_eq_true, ne_eq, reduceCtorEq, Nat.reduceLT, Nat.reduceEqDiff, Nat.reduceLeDiff, Nat.reduceAdd, eq_self, ii_0_1, ii_0_2, ii_0_3, ii_0_4, ii_1_0, ii_1_2, ii_1_3, ii_1_4, il_1, ii_2_0, ii_2_1, ii_2_3, ii_2_4, il_2, ii_3_0, ii_3_1, ii_3_2, ii_3_4, il_3, ii_4_0, ii_4_1, ii_4_2, ii_4_3, il_4, il_0, ie_0_1, ie_0_2, ie_0_3, ie_0_4, ie_0_5, ie_1_0, ie_1_2, ie_1_3, ie_1_4, ie_1_5, ie_2_0, ie_2_1, ie_2_3, ie_2_4, ie_2_5, ie_3_0, ie_3_1, ie_3_2, ie_3_4, ie_3_5, ie_4_0, ie_4_1, ie_4_2, ie_4_3, ie_4_5, ie_5_0, ie_5_1, ie_5_2, ie_5_3, ie_5_4, if_neg e, e]
      exact a7
  · intro b' hb'
    obtain ⟨a1, a2, a3, a4, a5, a6⟩ := P.2.2.2.1.2.2.2.2.2.2.2 b' hb'
    have hb2 : gL σ 1 ≤ b' := hb'
    refine ⟨a1, a2, a3, a4, ?_, a6⟩
    simp (config := { maxSteps := 1000000 }) only [gV_sV, gV_sJ, true_and, and_true, if_true, if_false, reduceIte, and_self, false_and, and_false, or_false, false_or, true_or, or_true, not_true_eq_false, not_false_eq_true, ne_eq, reduceCtorEq, Nat.reduceLT, Nat.reduceEqDiff, Nat.reduceLeDiff, Nat.reduceAdd, eq_self, ii_0_1, ii_0_2, ii_0_3, ii_0_4, ii_1_0, ii_1_2, ii_1_3, ii_1_4, il_1, ii_2_0, ii_2_1, ii_2_3, ii_2_4, il_2, ii_3_0, ii_3_1, ii_3_2, ii_3_4, il_3, ii_4_0, ii_4_1, ii_4_2, ii_4_3, il_4, il_0, ie_0_1, ie_0_2, ie_0_3, ie_0_4, ie_0_5, ie_1_0, ie_1_2, ie_1_3, ie_1_4, ie_1_5, ie_2_0, ie_2_1, ie_2_3, ie_2_4, ie_2_5, ie_3_0, ie_3_1, ie_3_2, ie_3_4, ie_3_5, ie_4_0, ie_4_1, ie_4_2, ie_4_3, ie_4_5, ie_5_0, ie_5_1, ie_5_2, ie_5_3, ie_5_4, if_neg (show ¬ b' = r by omega), show ¬ b' = r by omega]
    exact a5
  · intro b' hb'
    obtain ⟨k1, k2, k3, k4⟩ := P.2.2.2.2.2.1.2.1 b' hb'
    refine ⟨k1, k2, ?_, fun j hj => ?_⟩
    · simp (config := { maxSteps := 1000000 }) only [gV_sV, gV_sJ, gR_sV, gR_sJ, gR_us, gL_sV, gL_sJ, gL_us, us_20, us_22, true_and, and_true, if_true, if_false, reduceIte, and_self, false_and, and_false, or_false, false_or, true_or, or_true, not_true_eq_false, not_false_eq_true, ne_eq, reduceCtorEq, Nat.reduceLT, Nat.reduceEqDiff, Nat.reduceLeDiff, Nat.reduceAdd, eq_self, ii_0_1, ii_0_2, ii_0_3, ii_0_4, ii_1_0, ii_1_2, ii_1_3, ii_1_4, il_1, ii_2_0, ii_2_1, ii_2_3, ii_2_4, il_2, ii_3_0, ii_3_1, ii_3_2, ii_3_4, il_3, ii_4_0, ii_4_1, ii_4_2, ii_4_3, il_4, il_0, ie_0_1, ie_0_2, ie_0_3, ie_0_4, ie_0_5, ie_1_0, ie_1_2, ie_1_3, ie_1_4, ie_1_5, ie_2_0, ie_2_1, ie_2_3, ie_2_4, ie_2_5, ie_3_0, ie_3_1, ie_3_2, ie_3_4, ie_3_5, ie_4_0, ie_4_1, ie_4_2, ie_4_3, ie_4_5, ie_5_0, ie_5_1, ie_5_2, ie_5_3, ie_5_4]
      rw [us_sm0 hd hne, k3]
    · simp (config := { maxSteps := 1000000 }) only [gV_sV, gV_sJ, gR_sV, gR_sJ, gR_us, gL_sV, gL_sJ, gL_us, us_21 hj, us_22, true_and, and_true, if_true, if_false, reduceIte, and_self, false_and, and_false, or_false, false_or, true_or, or_true, not_true_eq_false, not_false_eq_true, ne_eq, reduceCtorEq, Nat.reduceLT, Nat.reduceEqDiff, Nat.reduceLeDiff, Nat.reduceAdd, eq_self, ii_0_1, ii_0_2, ii_0_3, ii_0_4, ii_1_0, ii_1_2, ii_1_3, ii_1_4, il_1, ii_2_0, ii_2_1, ii_2_3, ii_2_4, il_2, ii_3_0, ii_3_1, ii_3_2, ii_3_4, il_3, ii_4_0, ii_4_1, ii_4_2, ii_4_3, il_4, il_0, ie_0_1, ie_0_2, ie_0_3, ie_0_4, ie_0_5, ie_1_0, ie_1_2, ie_1_3, ie_1_4, ie_1_5, ie_2_0, ie_2_1, ie_2_3, ie_2_4, ie_2_5, ie_3_0, ie_3_1, ie_3_2, ie_3_4, ie_3_5, ie_4_0, ie_4_1, ie_4_2, ie_4_3, ie_4_5, ie_5_0, ie_5_1, ie_5_2, ie_5_3, ie_5_4]
      have h := us_sm (σ := σ) (b := b') (t := nI j) hd hne
      rw [k4 j hj, ← h]
end CX
section CS
variable {X : Cx} {xs : Nat → Int32} {Ls b i : Nat} {v1 v2 v3 v4 : Option Nat} {g : GM}
end CS
