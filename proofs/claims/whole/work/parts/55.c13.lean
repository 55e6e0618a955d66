/-! days pass -/
def pg (σ : St) (w : Int32) (b : Nat) : Int32 := if rl σ b = 0 then gV σ 1 10 b else if gV σ 1 10 b + gV σ 1 11 b * w < 100 then gV σ 1 10 b + gV σ 1 11 b * w else 100
def ps (σ : St) (w : Int32) (n : Nat) : St := sA σ (fun k f b => if k = 1 ∧ f = 10 ∧ b < n then pg σ w b else gV σ k f b)
def pm (σ' σ : St) (w : Int32) (n : Nat) : St := sA σ' (fun k f b => if k = 117 ∧ b = 0 ∧ f < n then pg σ w f else gV σ' k f b)
theorem ps_0 {σ : St} {w : Int32} : ps σ w 0 = σ := by
  refine (congrArg (fun F => ((σ.1, F, σ.2.2) : St)) (funext fun k' => funext fun f' => funext fun i' => ?_)).trans (show ((σ.1, σ.2.1, σ.2.2) : St) = σ from rfl)
  exact if_neg (fun z => absurd z.2.2 (Nat.not_lt_zero _))
theorem pm_0 {σ' σ : St} {w : Int32} : pm σ' σ w 0 = σ' := by
  refine (congrArg (fun F => ((σ'.1, F, σ'.2.2) : St)) (funext fun k' => funext fun f' => funext fun i' => ?_)).trans (show ((σ'.1, σ'.2.1, σ'.2.2) : St) = σ' from rfl)
  exact if_neg (fun z => absurd z.2.2 (Nat.not_lt_zero _))
theorem ps_s {σ : St} {w : Int32} {n : Nat} : sV (ps σ w n) 1 10 n (pg σ w n) = ps σ w (n + 1) := by
  refine congrArg (fun F => ((σ.1, F, σ.2.2) : St)) (funext fun k' => funext fun f' => funext fun i' => ?_)
  show (if k' = 1 ∧ f' = 10 ∧ i' = n then pg σ w n else (if k' = 1 ∧ f' = 10 ∧ i' < n then pg σ w i' else gV σ k' f' i')) = if k' = 1 ∧ f' = 10 ∧ i' < n + 1 then pg σ w i' else gV σ k' f' i'
  by_cases e : k' = 1 ∧ f' = 10 ∧ i' = n
  · rw [if_pos e, if_pos ⟨e.1, e.2.1, by omega⟩, e.2.2]
  · rw [if_neg e]
    by_cases e1 : k' = 1 ∧ f' = 10 ∧ i' < n
    · rw [if_pos e1, if_pos ⟨e1.1, e1.2.1, by omega⟩]
    · rw [if_neg e1, if_neg (c := k' = 1 ∧ f' = 10 ∧ i' < n + 1)]
      intro z
      rcases Nat.lt_or_ge i' n with q | q
      · exact e1 ⟨z.1, z.2.1, q⟩
      · exact e ⟨z.1, z.2.1, by omega⟩
theorem pm_s {σ' σ : St} {w : Int32} {n : Nat} : sV (pm σ' σ w n) 117 n 0 (pg σ w n) = pm σ' σ w (n + 1) := by
  refine congrArg (fun F => ((σ'.1, F, σ'.2.2) : St)) (funext fun k' => funext fun f' => funext fun i' => ?_)
  show (if k' = 117 ∧ f' = n ∧ i' = 0 then pg σ w n else (if k' = 117 ∧ i' = 0 ∧ f' < n then pg σ w f' else gV σ' k' f' i')) = if k' = 117 ∧ i' = 0 ∧ f' < n + 1 then pg σ w f' else gV σ' k' f' i'
  by_cases e : k' = 117 ∧ f' = n ∧ i' = 0
  · rw [if_pos e, if_pos ⟨e.1, e.2.2, by omega⟩, e.2.1]
  · rw [if_neg e]
    by_cases e1 : k' = 117 ∧ i' = 0 ∧ f' < n
    · rw [if_pos e1, if_pos ⟨e1.1, e1.2.1, by omega⟩]
    · rw [if_neg e1, if_neg (c := k' = 117 ∧ i' = 0 ∧ f' < n + 1)]
      intro z
      rcases Nat.lt_or_ge f' n with q | q
      · exact e1 ⟨z.1, z.2.1, q⟩
      · exact e ⟨z.1, by omega, z.2.1⟩
theorem WF_pm {A : Ad} {σ' σ : St} {w : Int32} {n : Nat} : WF A (pm σ' σ w n) = WF A σ' := Eq.trans rfl rfl
theorem P0_pm {σ' σ : St} {w : Int32} {n : Nat} : P0 (pm σ' σ w n) = P0 σ' := Eq.trans rfl rfl
theorem pm_8 {σ' σ : St} {w : Int32} {n f i : Nat} : gV (pm σ' σ w n) 8 f i = gV σ' 8 f i := Eq.trans rfl rfl
theorem pm_L {σ' σ : St} {w : Int32} {n k : Nat} : gL (pm σ' σ w n) k = gL σ' k := Eq.trans rfl rfl
theorem pm_J {σ' σ : St} {w : Int32} {n : Nat} : gJ (pm σ' σ w n) = gJ σ' := Eq.trans rfl rfl
section PS
variable {A : Ad} {σ σ' : St} {X : Cx} {px : String → GM → Prop} {b d i : Nat} {w : Int32}
theorem q_gp {post : Int32 → GM → Prop} (W : WF A σ) (Q : P0 σ) (hb : b < gL σ 1) : w_X7_grownPercentage X post px (some (A.1 7 0)) (some (A.1 1 b)) w (hp A σ) = post (pg σ w b) (hp A σ) := by
  unfold w_X7_grownPercentage pg
  rw [e_Is' W (sL_7 Q) hcl_7, q_roll W Q hb]
  try dsimp only
  by_cases c : rl σ b = 0
  · rw [if_pos c, if_pos c, e_GetI W hb hok_1_10]
  · rw [if_neg c, if_neg c, e_GetI W hb hok_1_10, e_GetI W hb hok_1_11]
theorem ps_10 : gV (ps σ w i) 1 10 i = gV σ 1 10 i := if_neg (fun z => absurd z.2.2 (Nat.lt_irrefl _))
theorem ps_rl : rl (ps σ w i) i = rl σ i := by
  refine Eq.trans (show rl (ps σ w i) i = (if gV σ 1 7 i = 97 then (if gV (ps σ w i) 1 10 i ≤ 0 then 0 else if hld σ i = 45 then 1 else 0) else 0) from rfl) ?_
  rw [ps_10]
  rfl
theorem ps_pg : pg (ps σ w i) w i = pg σ w i := by
  refine Eq.trans (show pg (ps σ w i) w i = (if rl (ps σ w i) i = 0 then gV (ps σ w i) 1 10 i else if gV (ps σ w i) 1 10 i + gV σ 1 11 i * w < 100 then gV (ps σ w i) 1 10 i + gV σ 1 11 i * w else 100) from rfl) ?_
  rw [ps_10, ps_rl]
  rfl
theorem q_psl {post : Int32 → GM → Prop} (W : WF A σ) (P : PI σ) : ∀ (k f i : Nat), i + k = gL σ 1 → k < f → w_X7_pass_l44 X post px f (some (A.1 7 0)) w (nI i) (hp A (ps σ w i)) = post (gV σ 7 12 0 + w) (hp A (sV (ps σ w (gL σ 1)) 7 12 0 (gV σ 7 12 0 + w))) := by
  have Q := P.1
  have h10 : gL σ 1 ≤ 10 := P.2.1.2.2.2.2.2.2.2.2.1
  have hL := P.2.2.2.2.2.2.2.2.2.1
  intro k
  induction k with
  | zero =>
    intro f i hi hf
    obtain ⟨f, rfl⟩ : ∃ f', f = f' + 1 := ⟨f - 1, by omega⟩
    have W' : WF A (ps σ w i) := W
    have Q' : P0 (ps σ w i) := Q
    have hL' : Lst (ps σ w i) 32 (gL σ 1) := hL
    have W2 : WF A (sV (ps σ w i) 7 12 0 (gV σ 7 12 0 + w)) := W
    rw [w_X7_pass_l44, s7_2 W' Q', e_Is' W' hL'.1 hcl_32, l_size W' (Or.inr (Or.inr (Or.inl rfl))) hL', if_pos (nI_le (by omega) (by omega)), e_GetI W' (sL_7 Q') hok_7_12, show gV (ps σ w i) 7 12 0 = gV σ 7 12 0 from rfl, e_PutI W' (sL_7 Q') hok_7_12, e_GetI W2 (sL_7 Q') hok_7_12, gV_sV, if_pos ⟨rfl, rfl, rfl⟩, show i = gL σ 1 by omega]
  | succ k ih =>
    intro f i hi hf
    obtain ⟨f, rfl⟩ : ∃ f', f = f' + 1 := ⟨f - 1, by omega⟩
    have hil : i < gL σ 1 := by omega
    have W' : WF A (ps σ w i) := W
    have Q' : P0 (ps σ w i) := Q
    have hL' : Lst (ps σ w i) 32 (gL σ 1) := hL
    have hil' : i < gL (ps σ w i) 1 := hil
    have ih' := ih f (i + 1) (by omega) (by omega)
    rw [w_X7_pass_l44, s7_2 W' Q', e_Is' W' hL'.1 hcl_32, l_size W' (Or.inr (Or.inr (Or.inl rfl))) hL', if_neg (nI_ge (by omega) (by omega))]
    rw [s7_2 W' Q', e_Is' W' hL'.1 hcl_32, l_get W' (Or.inr (Or.inr (Or.inl rfl))) hL' hil]
    rw [show hE (32 + 10) = 1 from rfl, e_Is' W' hil' hcl_1, e_Is' W' (sL_7 Q') hcl_7, q_gp W' Q' hil', ps_pg, e_PutI W' hil' hok_1_10, ps_s, nI_1]
    exact ih'
theorem q_af {post : Int32 → GM → Prop} (P : PI σ) (M : (∀ k, gL σ' k = gL σ k) ∧ (∀ k f i, 100 ≤ k → k ≠ 117 → gV σ' k f i = gV σ k f i) ∧ ∀ f, f ≠ 35 → f ≠ 36 → gV σ' 8 f 0 = gV σ 8 f 0) (h117 : gV σ' 117 b 0 = gV σ 117 b 0) (W : WF A σ') (Q : P0 σ') (hb : b < gL σ 1) : w_X8_after X post px (some (A.1 8 0)) (nI b) w (hp A σ') = post (pg σ w b) (hp A σ') := by
  have h10 : gL σ 1 ≤ 10 := P.2.1.2.2.2.2.2.2.2.2.1
  have a := P.2.2.2.1.1 b hb
  have a2 := P.2.2.2.1.2.2.1 b hb
  have r := P.2.2.2.1.2.2.2.1 b hb
  have m : ∀ k f i, 100 ≤ k → k ≠ 117 → gV σ' k f i = gV σ k f i := M.2.1
  have hro := fun (px : String → GM → Prop) (post : Int32 → GM → Prop) => q_mroll (A := A) (X := X) (px := px) (post := post) (b := b) (σ := σ) (σ' := σ') (show b < 10 by omega) W Q (by rw [M.2.2 6 (by decide) (by decide), M.1]; exact P.2.1.1.1) (by rw [M.1]; exact P.2.1.2.2.2.2.2.2.2.1) (by rw [m _ _ _ (by decide) (by decide)]; exact a.2.2.1.symm) (by rw [M.2.2 23 (by decide) (by decide)]; exact P.2.1.2.2.1) (by rw [m _ _ _ (by decide) (by decide)]; exact a.2.2.2.1.symm) (by rw [M.2.2 24 (by decide) (by decide)]; exact P.2.1.2.2.2.1) (by rw [m _ _ _ (by decide) (by decide)]; exact a2.2.2.2.2.2.2.1.symm) (by rw [m _ _ _ (by decide) (by decide)]; exact a2.2.2.2.2.2.2.2.symm) (by rw [M.2.2 26 (by decide) (by decide)]; exact P.2.1.2.2.2.2.2.1.1) (by rw [M.1, r.1]; exact sm_cong (fun x _ => by rw [m _ _ _ (by decide) (by decide)])) (by rw [M.1, r.2]; exact sm_cong (fun x _ => by rw [m _ _ _ (by decide) (by decide)])) (by rw [m _ _ _ (by decide) (by decide)]; exact a2.1.symm) (by rw [h117]; exact a2.2.2.2.2.1.symm)
  have hv : vp_in (nI b) 10 := vp_in_nI (by omega) (by omega)
  have hc : (nI b).toNatClampNeg = b := nI_clamp (by omega)
  unfold w_X8_after w_X8_after_b37 pg
  rw [e_Is' W (sL_8 Q) hcl_8, hro]
  try dsimp only
  by_cases c : rl σ b = 0
  · rw [if_pos c, if_pos c, s8_17 W Q, e_Ald W (sL_117 Q) hak_117 (by decide), sN_117 Q, p_and hv, hc, h117, ← a2.2.2.2.2.1]
  · rw [if_neg c, if_neg c, s8_17 W Q, e_Ald W (sL_117 Q) hak_117 (by decide), sN_117 Q, p_and hv, hc, h117, ← a2.2.2.2.2.1, s8_18 W Q, e_Ald W (sL_118 Q) hak_118 (by decide), sN_118 Q, p_and hv, hc, m _ _ _ (by decide) (by decide), ← a2.2.2.2.2.2.1, Int32.mul_comm w]
theorem q_pml {post : Int32 → GM → Prop} (P : PI σ) (M : (∀ k, gL σ' k = gL σ k) ∧ (∀ k f i, 100 ≤ k → gV σ' k f i = gV σ k f i) ∧ ∀ f, f ≠ 36 → gV σ' 8 f 0 = gV σ 8 f 0) (W : WF A σ') (Q : P0 σ') : ∀ (k f i : Nat), i + k = gL σ 1 → k < f → w_X8_pass_l46 X post px f (some (A.1 8 0)) w (nI i) (hp A (pm σ' σ w i)) = post (gV σ 8 35 0 + w) (hp A (sV (pm σ' σ w (gL σ 1)) 8 35 0 (gV σ 8 35 0 + w))) := by
  have h10 : gL σ 1 ≤ 10 := P.2.1.2.2.2.2.2.2.2.2.1
  have h21 : gV σ' 8 21 0 = nI (gL σ 1) := by rw [M.2.2 21 (by decide)]; exact P.2.1.1.2.1
  intro k
  induction k with
  | zero =>
    intro f i hi hf
    obtain ⟨f, rfl⟩ : ∃ f', f = f' + 1 := ⟨f - 1, by omega⟩
    have W' : WF A (pm σ' σ w i) := W
    have Q' : P0 (pm σ' σ w i) := Q
    have W2 : WF A (sV (pm σ' σ w i) 8 35 0 (gV σ 8 35 0 + w)) := W
    rw [w_X8_pass_l46, e_GetI W' (sL_8 Q') hok_8_21, show gV (pm σ' σ w i) 8 21 0 = nI (gL σ 1) from h21, if_pos (nI_le (by omega) (by omega)), e_GetI W' (sL_8 Q') hok_8_35, show gV (pm σ' σ w i) 8 35 0 = gV σ 8 35 0 from M.2.2 35 (by decide), e_PutI W' (sL_8 Q') hok_8_35, e_GetI W2 (sL_8 Q') hok_8_35, gV_sV, if_pos ⟨rfl, rfl, rfl⟩, show i = gL σ 1 by omega]
  | succ k ih =>
    intro f i hi hf
    obtain ⟨f, rfl⟩ : ∃ f', f = f' + 1 := ⟨f - 1, by omega⟩
    have hil : i < gL σ 1 := by omega
    have W' : WF A (pm σ' σ w i) := W
    have Q' : P0 (pm σ' σ w i) := Q
    have ih' := ih f (i + 1) (by omega) (by omega)
    have haf := fun (px : String → GM → Prop) (post : Int32 → GM → Prop) => q_af (A := A) (X := X) (px := px) (post := post) (w := w) (b := i) (σ := σ) (σ' := pm σ' σ w i) P ⟨M.1, fun k f b hk hk2 => (if_neg (fun z => hk2 z.1)).trans (M.2.1 k f b hk), fun f h1 h2 => M.2.2 f h2⟩ ((if_neg (fun z => absurd z.2.2 (Nat.lt_irrefl _))).trans (M.2.1 117 i 0 (by decide))) W' Q' hil
    rw [w_X8_pass_l46, e_GetI W' (sL_8 Q') hok_8_21, show gV (pm σ' σ w i) 8 21 0 = nI (gL σ 1) from h21, if_neg (nI_ge (by omega) (by omega)), s8_17 W' Q', e_Is' W' (sL_8 Q') hcl_8, haf]
    try dsimp only
    rw [e_Ast W' (sL_117 Q') hak_117 (by decide), sN_117 Q', p_and (vp_in_nI (show i < 10 by omega) (by omega)), nI_clamp (by omega), pm_s, nI_1]
    exact ih'
theorem pg_rng (P : PI σ) (hb : b < gL σ 1) (hw : ¬ (w < 1 ∨ 99 < w)) : ∃ p, p ≤ 100 ∧ pg σ w b = nI p := by
  obtain ⟨⟨p, hp0, e1⟩, q, hq, e2⟩ := P.2.2.2.1.2.2.2.2.2.1 b hb
  have a2 := P.2.2.2.1.2.2.1 b hb
  have e1' := a2.2.2.2.2.1.trans e1
  have e2' := a2.2.2.2.2.2.1.trans e2
  obtain ⟨m, hm, rfl⟩ := q_rng (n := 99) hw (by decide) (by decide)
  unfold pg
  by_cases c : rl σ b = 0
  · rw [if_pos c]; exact ⟨p, hp0, e1'⟩
  · rw [if_neg c, e1', e2']
    have e3 : nI p + nI q * nI m = nI (p + q * m) := by
      rw [show nI q * nI m = nI (q * m) from (Int32.ofNat_mul q m).symm, nI_add]
    have h1 : q * m ≤ 100 * 99 := Nat.mul_le_mul hq hm
    rw [e3]
    by_cases c2 : nI (p + q * m) < 100
    · rw [if_pos c2]
      refine ⟨p + q * m, ?_, rfl⟩
      rcases Nat.lt_or_ge 100 (p + q * m) with z | z
      · exact absurd c2 (nI_nlt (a := p + q * m) (b := 100) (by omega) (by omega))
      · exact z
    · rw [if_neg c2]; exact ⟨100, Nat.le_refl _, rfl⟩
set_option maxHeartbeats 2000000 in
theorem pi_ps {x : Int64} (P : PI σ) (hw : ¬ (w < 1 ∨ 99 < w)) : PI (sV (pm (sV (sJ (sV (ps σ w (gL σ 1)) 7 12 0 (gV σ 7 12 0 + w)) x) 8 36 0 0) σ w (gL σ 1)) 8 35 0 (gV σ 8 35 0 + w)) := by
  obtain ⟨p11, p12, p13, p14, p15, p16, p17, p18⟩ := P.2.1
  refine ⟨P.1, ⟨p11, p12, p13, p14, p15, p16, ?_, p18⟩, P.2.2.1, ⟨P.2.2.2.1.1, P.2.2.2.1.2.1, ?_, P.2.2.2.1.2.2.2.1, P.2.2.2.1.2.2.2.2.1, ?_, P.2.2.2.1.2.2.2.2.2.2.1, ?_⟩, P.2.2.2.2⟩
  · show gV σ 8 35 0 + w = gV σ 7 12 0 + w
    rw [p17]
  · intro b' hb'
    obtain ⟨a1, a2, a3, a4, a5, a6, a7, a8⟩ := P.2.2.2.1.2.2.1 b' hb'
    refine ⟨a1, a2, a3, a4, ?_, a6, a7, a8⟩
    exact (if_pos ⟨rfl, rfl, hb'⟩ : (if 1 = 1 ∧ 10 = 10 ∧ b' < gL σ 1 then pg σ w b' else gV σ 1 10 b') = _).trans (if_pos ⟨rfl, rfl, hb'⟩ : (if 117 = 117 ∧ 0 = 0 ∧ b' < gL σ 1 then pg σ w b' else gV σ 117 b' 0) = _).symm
  · intro b' hb'
    refine ⟨?_, (P.2.2.2.1.2.2.2.2.2.1 b' hb').2⟩
    obtain ⟨p, h1, h2⟩ := pg_rng P hb' hw
    exact ⟨p, h1, (if_pos ⟨rfl, rfl, hb'⟩ : (if 117 = 117 ∧ 0 = 0 ∧ b' < gL σ 1 then pg σ w b' else gV σ 117 b' 0) = _).trans h2⟩
  · intro b' hb'
    obtain ⟨a1, a2, a3, a4, a5, a6⟩ := P.2.2.2.1.2.2.2.2.2.2.2 b' hb'
    have hb2 : gL σ 1 ≤ b' := hb'
    refine ⟨a1, a2, ?_, a4, a5, a6⟩
    exact (if_neg (fun z => by omega) : (if 117 = 117 ∧ 0 = 0 ∧ b' < gL σ 1 then pg σ w b' else gV σ 117 b' 0) = _).trans a3
end PS
section CS
variable {X : Cx} {xs : Nat → Int32} {Ls b i : Nat} {v1 v2 v3 v4 : Option Nat} {g : GM}
set_option maxHeartbeats 4000000 in
theorem p_13 (hin : ∀ j : Nat, j < 7 → vp_in (Int32.ofNat (7 * i) + Int32.ofNat j) Ls) (h : LIv X v1 v2 v3 v4 g) : w_law_13 X xs Ls b (LIv X v1 v2 v3 v4) v1 v2 v3 v4 (Int32.ofNat (7 * i)) g := by
  obtain ⟨A, σ, W, hx, P, rfl, rfl, rfl, rfl, rfl⟩ := h
  have Q := P.1
  have u1 : vp_in (Int32.ofNat (7 * i) + 1) Ls := hin 1 (by decide)
  have h10 : gL σ 1 ≤ 10 := P.2.1.2.2.2.2.2.2.2.2.1
  have h35 : gV σ 8 35 0 = gV σ 7 12 0 := P.2.1.2.2.2.2.2.2.1
  unfold w_law_13
  generalize xs (Int32.ofNat (7 * i) + 1).toNatClampNeg = w
  by_cases hw : w < 1 ∨ 99 < w
  · simp (config := { maxSteps := 1000000 }) only [↓w_law_13.eq_1, ↓w_L_law_b1151.eq_1, ↓w_L_pass.eq_1, ↓w_X7_pass.eq_1, ↓w_X8_pass_b32.eq_1, ↓w_X8_pass.eq_1, ↓w_X8_thrown.eq_1, u1, ↓q_in, ↓q_out, ↓if_pos hw, true_and, and_true, if_true, if_false, reduceIte, and_self, false_and, and_false, or_false, false_or, true_or, or_true, not_true_eq_false, not_false_eq_true, ne_eq, reduceCtorEq, Nat.reduceLT, Nat.reduceEqDiff, Nat.reduceLeDiff, Nat.reduceAdd, eq_self, ii_0_1, ii_0_2, ii_0_3, ii_0_4, ii_1_0, ii_1_2, ii_1_3, ii_1_4, il_1, ii_2_0, ii_2_1, ii_2_3, ii_2_4, il_2, ii_3_0, ii_3_1, ii_3_2, ii_3_4, il_3, ii_4_0, ii_4_1, ii_4_2, ii_4_3, il_4, il_0, ie_0_1, ie_0_2, ie_0_3, ie_0_4, ie_0_5, ie_1_0, ie_1_2, ie_1_3, ie_1_4, ie_1_5, ie_2_0, ie_2_1, ie_2_3, ie_2_4, ie_2_5, ie_3_0, ie_3_1, ie_3_2, ie_3_4, ie_3_5, ie_4_0, ie_4_1, ie_4_2, ie_4_3, ie_4_5, ie_5_0, ie_5_1, ie_5_2, ie_5_3, ie_5_4, ↓e_Is', ↓e_GetI, ↓e_GetF, ↓e_PutI, ↓e_PutF, ↓e_PutR, ↓e_Ald, ↓e_Ast, ↓e_Aldq, ↓e_AldJ, ↓e_AstJ, ↓e_AldD, ↓e_AstD, gL_sV, gV_sV, gR_sV, gN_sV, gJ_sV, gD_sV, gL_sR, gV_sR, gR_sR, gN_sR, gJ_sR, gD_sR, gL_sJ, gV_sJ, gR_sJ, gN_sJ, gJ_sJ, gL_sD, gV_sD, gR_sD, gN_sD, gD_sD, hr_0, hr_s, WF_sV, WF_sJ, WF_sD, gL_sF, gV_sF, gR_sF, gN_sF, gL_sG, gV_sG, gR_sG, gN_sG, WF_sF, ↓eR_1_2, ↓eR_1_5, ↓eR_1_6, ↓eR_2_3, ↓eR_3_2, ↓eR_4_1, ↓eR_6_0, ↓eR_8_34, ↓eR_9_0, ↓eR_20_0, ↓eR_22_0, sL_7, sL_8, sL_60, sL_61, sN_60, sN_61, ↓s7_0, ↓s7_1, ↓s7_2, ↓s7_3, ↓s7_4, ↓s7_5, ↓s7_6, sL_100, ↓s8_0, sN_100, sL_101, ↓s8_1, sN_101, sL_102, ↓s8_2, sN_102, sL_103, ↓s8_3, sN_103, sL_104, ↓s8_4, sN_104, sL_105, ↓s8_5, sN_105, sL_107, ↓s8_7, sN_107, sL_108, ↓s8_8, sN_108, sL_109, ↓s8_9, sN_109, sL_110, ↓s8_10, sN_110, sL_111, ↓s8_11, sN_111, sL_112, ↓s8_12, sN_112, sL_113, ↓s8_13, sN_113, sL_114, ↓s8_14, sN_114, sL_115, ↓s8_15, sN_115, sL_116, ↓s8_16, sN_116, sL_117, ↓s8_17, sN_117, sL_118, ↓s8_18, sN_118, sL_119, ↓s8_19, sN_119, sL_120, ↓s8_20, sN_120, sL_127, ↓s8_27, sN_127, sL_128, ↓s8_28, sN_128, sL_129, ↓s8_29, sN_129, sL_130, ↓s8_30, sN_130, sL_132, ↓s8_32, sN_132, P0_sV, P0_sJ, P0_sD, hcl_1, hok_1_0, hok_1_1, hok_1_2, hok_1_3, hok_1_4, hok_1_5, hok_1_6, hok_1_7, hok_1_8, hok_1_9, hok_1_10, hok_1_11, hok_1_12, hok_1_13, hok_1_14, hok_1_15, hcl_2, hok_2_0, hok_2_1, hok_2_2, hok_2_3, hok_2_4, hok_2_5, hcl_3, hok_3_0, hok_3_1, hok_3_2, hcl_4, hok_4_0, hok_4_1, hok_4_2, hok_4_3, hcl_5, hok_5_0, hok_5_1, hok_5_2, hcl_6, hok_6_0, hok_6_1, hcl_7, hok_7_0, hok_7_1, hok_7_2, hok_7_3, hok_7_4, hok_7_5, hok_7_6, hok_7_7, hok_7_8, hok_7_9, hok_7_10, hok_7_11, hok_7_12, hcl_8, hok_8_0, hok_8_1, hok_8_2, hok_8_3, hok_8_4, hok_8_5, hok_8_6, hok_8_7, hok_8_8, hok_8_9, hok_8_10, hok_8_11, hok_8_12, hok_8_13, hok_8_14, hok_8_15, hok_8_16, hok_8_17, hok_8_18, hok_8_19, hok_8_20, hok_8_21, hok_8_22, hok_8_23, hok_8_24, hok_8_25, hok_8_26, hok_8_27, hok_8_28, hok_8_29, hok_8_30, hok_8_31, hok_8_32, hok_8_33, hok_8_34, hok_8_35, hok_8_36, hcl_9, hok_9_0, hok_9_1, hok_9_2, hok_9_3, hcl_20, hok_20_0, hok_20_1, hcl_22, hok_22_0, hok_22_1, hcl_30, hok_30_0, hok_30_1, hok_30_2, hcl_31, hok_31_0, hok_31_1, hok_31_2, hcl_32, hok_32_0, hok_32_1, hok_32_2, hcl_33, hok_33_0, hok_33_1, hok_33_2, hak_16, hak_21, hak_23, hak_40, hak_41, hak_42, hak_43, hak_50, hak_60, hak_61, hak_205, hak_227, hak_100, hak_101, hak_102, hak_103, hak_104, hak_105, hak_107, hak_108, hak_109, hak_110, hak_111, hak_112, hak_113, hak_114, hak_115, hak_116, hak_117, hak_118, hak_119, hak_120, hak_127, hak_128, hak_129, hak_130, hak_132, ↓eL_16, ↓eL_21, ↓eL_23, ↓eL_50, W, Q, cmpS, nb0, nb1]
    refine LIv_of ?_ hx ?_
    · exact W
    · exact P
  · by_cases hd : gV σ 7 12 0 + w ≤ 999
    · have ho := fun (px : String → GM → Prop) (post : Int32 → GM → Prop) => q_psl (X := X) (px := px) (post := post) (w := w) W P (gL σ 1) 3000 0 (by omega) (by omega)
      have hm1 := fun (x : Int64) (px : String → GM → Prop) (post : Int32 → GM → Prop) => q_pml (X := X) (px := px) (post := post) (w := w) (σ := σ) (σ' := sV (sJ (sV (ps σ w (gL σ 1)) 7 12 0 (gV σ 7 12 0 + w)) x) 8 36 0 0) P ⟨fun _ => rfl, fun k f b hk => by
        rw [gV_sV, if_neg (by omega), show gV (sJ (sV (ps σ w (gL σ 1)) 7 12 0 (gV σ 7 12 0 + w)) x) k f b = gV (sV (ps σ w (gL σ 1)) 7 12 0 (gV σ 7 12 0 + w)) k f b from rfl, gV_sV, if_neg (by omega)]
        exact if_neg (fun z => by omega), fun f hf => by
        rw [gV_sV, if_neg (fun z => hf z.2.1)]
        rfl⟩ W Q (gL σ 1) 3000 0 (by omega) (by omega)
      simp only [ps_0, pm_0, show nI 0 = 0 from rfl] at ho hm1
      have hps : gV (ps σ w (gL σ 1)) 8 35 0 = gV σ 7 12 0 := h35
      have Wp : WF A (ps σ w (gL σ 1)) := W
      have Qp : P0 (ps σ w (gL σ 1)) := Q
      simp (config := { maxSteps := 1000000 }) only [↓w_law_13.eq_1, ↓w_L_law_b1151.eq_1, ↓w_L_pass.eq_1, ↓w_X7_pass.eq_1, ↓w_X8_pass_b32.eq_1, ↓w_X8_pass.eq_1, ↓w_X8_thrown.eq_1, u1, ↓q_in, ↓q_out, ↓if_neg hw, ↓if_pos hd, true_and, and_true, if_true, if_false, reduceIte, and_self, false_and, and_false, or_false, false_or, true_or, or_true, not_true_eq_false, not_false_eq_true, ne_eq, reduceCtorEq, Nat.reduceLT, Nat.reduceEqDiff, Nat.reduceLeDiff, Nat.reduceAdd, eq_self, ii_0_1, ii_0_2, ii_0_3, ii_0_4, ii_1_0, ii_1_2, ii_1_3, ii_1_4, il_1, ii_2_0, ii_2_1, ii_2_3, ii_2_4, il_2, ii_3_0, ii_3_1, ii_3_2, ii_3_4, il_3, ii_4_0, ii_4_1, ii_4_2, ii_4_3, il_4, il_0, ie_0_1, ie_0_2, ie_0_3, ie_0_4, ie_0_5, ie_1_0, ie_1_2, ie_1_3, ie_1_4, ie_1_5, ie_2_0, ie_2_1, ie_2_3, ie_2_4, ie_2_5, ie_3_0, ie_3_1, ie_3_2, ie_3_4, ie_3_5, ie_4_0, ie_4_1, ie_4_2, ie_4_3, ie_4_5, ie_5_0, ie_5_1, ie_5_2, ie_5_3, ie_5_4, ↓e_Is', ↓e_GetI, ↓e_GetF, ↓e_PutI, ↓e_PutF, ↓e_PutR, ↓e_Ald, ↓e_Ast, ↓e_Aldq, ↓e_AldJ, ↓e_AstJ, ↓e_AldD, ↓e_AstD, gL_sV, gV_sV, gR_sV, gN_sV, gJ_sV, gD_sV, gL_sR, gV_sR, gR_sR, gN_sR, gJ_sR, gD_sR, gL_sJ, gV_sJ, gR_sJ, gN_sJ, gJ_sJ, gL_sD, gV_sD, gR_sD, gN_sD, gD_sD, hr_0, hr_s, WF_sV, WF_sJ, WF_sD, gL_sF, gV_sF, gR_sF, gN_sF, gL_sG, gV_sG, gR_sG, gN_sG, WF_sF, ↓eR_1_2, ↓eR_1_5, ↓eR_1_6, ↓eR_2_3, ↓eR_3_2, ↓eR_4_1, ↓eR_6_0, ↓eR_8_34, ↓eR_9_0, ↓eR_20_0, ↓eR_22_0, sL_7, sL_8, sL_60, sL_61, sN_60, sN_61, ↓s7_0, ↓s7_1, ↓s7_2, ↓s7_3, ↓s7_4, ↓s7_5, ↓s7_6, sL_100, ↓s8_0, sN_100, sL_101, ↓s8_1, sN_101, sL_102, ↓s8_2, sN_102, sL_103, ↓s8_3, sN_103, sL_104, ↓s8_4, sN_104, sL_105, ↓s8_5, sN_105, sL_107, ↓s8_7, sN_107, sL_108, ↓s8_8, sN_108, sL_109, ↓s8_9, sN_109, sL_110, ↓s8_10, sN_110, sL_111, ↓s8_11, sN_111, sL_112, ↓s8_12, sN_112, sL_113, ↓s8_13, sN_113, sL_114, ↓s8_14, sN_114, sL_115, ↓s8_15, sN_115, sL_116, ↓s8_16, sN_116, sL_117, ↓s8_17, sN_117, sL_118, ↓s8_18, sN_118, sL_119, ↓s8_19, sN_119, sL_120, ↓s8_20, sN_120, sL_127, ↓s8_27, sN_127, sL_128, ↓s8_28, sN_128, sL_129, ↓s8_29, sN_129, sL_130, ↓s8_30, sN_130, sL_132, ↓s8_32, sN_132, P0_sV, P0_sJ, P0_sD, hcl_1, hok_1_0, hok_1_1, hok_1_2, hok_1_3, hok_1_4, hok_1_5, hok_1_6, hok_1_7, hok_1_8, hok_1_9, hok_1_10, hok_1_11, hok_1_12, hok_1_13, hok_1_14, hok_1_15, hcl_2, hok_2_0, hok_2_1, hok_2_2, hok_2_3, hok_2_4, hok_2_5, hcl_3, hok_3_0, hok_3_1, hok_3_2, hcl_4, hok_4_0, hok_4_1, hok_4_2, hok_4_3, hcl_5, hok_5_0, hok_5_1, hok_5_2, hcl_6, hok_6_0, hok_6_1, hcl_7, hok_7_0, hok_7_1, hok_7_2, hok_7_3, hok_7_4, hok_7_5, hok_7_6, hok_7_7, hok_7_8, hok_7_9, hok_7_10, hok_7_11, hok_7_12, hcl_8, hok_8_0, hok_8_1, hok_8_2, hok_8_3, hok_8_4, hok_8_5, hok_8_6, hok_8_7, hok_8_8, hok_8_9, hok_8_10, hok_8_11, hok_8_12, hok_8_13, hok_8_14, hok_8_15, hok_8_16, hok_8_17, hok_8_18, hok_8_19, hok_8_20, hok_8_21, hok_8_22, hok_8_23, hok_8_24, hok_8_25, hok_8_26, hok_8_27, hok_8_28, hok_8_29, hok_8_30, hok_8_31, hok_8_32, hok_8_33, hok_8_34, hok_8_35, hok_8_36, hcl_9, hok_9_0, hok_9_1, hok_9_2, hok_9_3, hcl_20, hok_20_0, hok_20_1, hcl_22, hok_22_0, hok_22_1, hcl_30, hok_30_0, hok_30_1, hok_30_2, hcl_31, hok_31_0, hok_31_1, hok_31_2, hcl_32, hok_32_0, hok_32_1, hok_32_2, hcl_33, hok_33_0, hok_33_1, hok_33_2, hak_16, hak_21, hak_23, hak_40, hak_41, hak_42, hak_43, hak_50, hak_60, hak_61, hak_205, hak_227, hak_100, hak_101, hak_102, hak_103, hak_104, hak_105, hak_107, hak_108, hak_109, hak_110, hak_111, hak_112, hak_113, hak_114, hak_115, hak_116, hak_117, hak_118, hak_119, hak_120, hak_127, hak_128, hak_129, hak_130, hak_132, ↓eL_16, ↓eL_21, ↓eL_23, ↓eL_50, W, Q, Wp, Qp, cmpS, nb0, nb1, ↓ho, ↓hm1, hps, h35, WF_pm, P0_pm, pm_8, pm_L, pm_J, i00]
      refine LIv_of ?_ hx ?_
      · exact W
      · have hpi := pi_ps (x := (gV σ 7 12 0 + w).toInt64) P hw
        rw [h35] at hpi
        exact hpi
    · simp (config := { maxSteps := 1000000 }) only [↓w_law_13.eq_1, ↓w_L_law_b1151.eq_1, ↓w_L_pass.eq_1, ↓w_X7_pass.eq_1, ↓w_X8_pass_b32.eq_1, ↓w_X8_pass.eq_1, ↓w_X8_thrown.eq_1, u1, ↓q_in, ↓q_out, ↓if_neg hw, ↓if_neg hd, true_and, and_true, if_true, if_false, reduceIte, and_self, false_and, and_false, or_false, false_or, true_or, or_true, not_true_eq_false, not_false_eq_true, ne_eq, reduceCtorEq, Nat.reduceLT, Nat.reduceEqDiff, Nat.reduceLeDiff, Nat.reduceAdd, eq_self, ii_0_1, ii_0_2, ii_0_3, ii_0_4, ii_1_0, ii_1_2, ii_1_3, ii_1_4, il_1, ii_2_0, ii_2_1, ii_2_3, ii_2_4, il_2, ii_3_0, ii_3_1, ii_3_2, ii_3_4, il_3, ii_4_0, ii_4_1, ii_4_2, ii_4_3, il_4, il_0, ie_0_1, ie_0_2, ie_0_3, ie_0_4, ie_0_5, ie_1_0, ie_1_2, ie_1_3, ie_1_4, ie_1_5, ie_2_0, ie_2_1, ie_2_3, ie_2_4, ie_2_5, ie_3_0, ie_3_1, ie_3_2, ie_3_4, ie_3_5, ie_4_0, ie_4_1, ie_4_2, ie_4_3, ie_4_5, ie_5_0, ie_5_1, ie_5_2, ie_5_3, ie_5_4, ↓e_Is', ↓e_GetI, ↓e_GetF, ↓e_PutI, ↓e_PutF, ↓e_PutR, ↓e_Ald, ↓e_Ast, ↓e_Aldq, ↓e_AldJ, ↓e_AstJ, ↓e_AldD, ↓e_AstD, gL_sV, gV_sV, gR_sV, gN_sV, gJ_sV, gD_sV, gL_sR, gV_sR, gR_sR, gN_sR, gJ_sR, gD_sR, gL_sJ, gV_sJ, gR_sJ, gN_sJ, gJ_sJ, gL_sD, gV_sD, gR_sD, gN_sD, gD_sD, hr_0, hr_s, WF_sV, WF_sJ, WF_sD, gL_sF, gV_sF, gR_sF, gN_sF, gL_sG, gV_sG, gR_sG, gN_sG, WF_sF, ↓eR_1_2, ↓eR_1_5, ↓eR_1_6, ↓eR_2_3, ↓eR_3_2, ↓eR_4_1, ↓eR_6_0, ↓eR_8_34, ↓eR_9_0, ↓eR_20_0, ↓eR_22_0, sL_7, sL_8, sL_60, sL_61, sN_60, sN_61, ↓s7_0, ↓s7_1, ↓s7_2, ↓s7_3, ↓s7_4, ↓s7_5, ↓s7_6, sL_100, ↓s8_0, sN_100, sL_101, ↓s8_1, sN_101, sL_102, ↓s8_2, sN_102, sL_103, ↓s8_3, sN_103, sL_104, ↓s8_4, sN_104, sL_105, ↓s8_5, sN_105, sL_107, ↓s8_7, sN_107, sL_108, ↓s8_8, sN_108, sL_109, ↓s8_9, sN_109, sL_110, ↓s8_10, sN_110, sL_111, ↓s8_11, sN_111, sL_112, ↓s8_12, sN_112, sL_113, ↓s8_13, sN_113, sL_114, ↓s8_14, sN_114, sL_115, ↓s8_15, sN_115, sL_116, ↓s8_16, sN_116, sL_117, ↓s8_17, sN_117, sL_118, ↓s8_18, sN_118, sL_119, ↓s8_19, sN_119, sL_120, ↓s8_20, sN_120, sL_127, ↓s8_27, sN_127, sL_128, ↓s8_28, sN_128, sL_129, ↓s8_29, sN_129, sL_130, ↓s8_30, sN_130, sL_132, ↓s8_32, sN_132, P0_sV, P0_sJ, P0_sD, hcl_1, hok_1_0, hok_1_1, hok_1_2, hok_1_3, hok_1_4, hok_1_5, hok_1_6, hok_1_7, hok_1_8, hok_1_9, hok_1_10, hok_1_11, hok_1_12, hok_1_13, hok_1_14, hok_1_15, hcl_2, hok_2_0, hok_2_1, hok_2_2, hok_2_3, hok_2_4, hok_2_5, hcl_3, hok_3_0, hok_3_1, hok_3_2, hcl_4, hok_4_0, hok_4_1, hok_4_2, hok_4_3, hcl_5, hok_5_0, hok_5_1, hok_5_2, hcl_6, hok_6_0, hok_6_1, hcl_7, hok_7_0, hok_7_1, hok_7_2, hok_7_3, hok_7_4, hok_7_5, hok_7_6, hok_7_7, hok_7_8, hok_7_9, hok_7_10, hok_7_11, hok_7_12, hcl_8, hok_8_0, hok_8_1, hok_8_2, hok_8_3, hok_8_4, hok_8_5, hok_8_6, hok_8_7, hok_8_8, hok_8_9, hok_8_10, hok_8_11, hok_8_12, hok_8_13, hok_8_14, hok_8_15, hok_8_16, hok_8_17, hok_8_18, hok_8_19, hok_8_20, hok_8_21, hok_8_22, hok_8_23, hok_8_24, hok_8_25, hok_8_26, hok_8_27, hok_8_28, hok_8_29, hok_8_30, hok_8_31, hok_8_32, hok_8_33, hok_8_34, hok_8_35, hok_8_36, hcl_9, hok_9_0, hok_9_1, hok_9_2, hok_9_3, hcl_20, hok_20_0, hok_20_1, hcl_22, hok_22_0, hok_22_1, hcl_30, hok_30_0, hok_30_1, hok_30_2, hcl_31, hok_31_0, hok_31_1, hok_31_2, hcl_32, hok_32_0, hok_32_1, hok_32_2, hcl_33, hok_33_0, hok_33_1, hok_33_2, hak_16, hak_21, hak_23, hak_40, hak_41, hak_42, hak_43, hak_50, hak_60, hak_61, hak_205, hak_227, hak_100, hak_101, hak_102, hak_103, hak_104, hak_105, hak_107, hak_108, hak_109, hak_110, hak_111, hak_112, hak_113, hak_114, hak_115, hak_116, hak_117, hak_118, hak_119, hak_120, hak_127, hak_128, hak_129, hak_130, hak_132, ↓eL_16, ↓eL_21, ↓eL_23, ↓eL_50, W, Q, cmpS, nb0, nb1, h35]
      refine LIv_of ?_ hx ?_
      · exact W
      · exact P
end CS
