/-! days pass -/
def pg (σ : St) (w : Int32) (b : Nat) : Int32 := if rl σ b = 0 then gV σ 1 10 b else if gV σ 1 10 b + gV σ 1 11 b * w < 100 then gV σ 1 10 b + gV σ 1 11 b * w else 100
def ps (σ : St) (w : Int32) (n : Nat) : St := sA σ (fun k f b => if k = 1 ∧ f = 10 ∧ b < n then pg σ w b else gV σ k f b)
def pm (σ' σ : St) (w : Int32) (n : Nat) : St := sA σ' (fun k f b => if k = 117 ∧ b = 0 ∧ f < n then pg σ w f else gV σ' k f b)
theorem ps_0 {σ : St} {w : Int32} : ps σ w 0 = σ := by
  refine (congrArg (fun F => ((σ.1, F, σ.2.2) : St)) (funext fun k' => funext fun f' => funext fun i' => ?_)).trans (show ((σ.1, σ.2.1, σ.2.2) : St) = σ from rfl)
  exact if_neg (fun z => absurd z.2.2 (Nat.not_lt_zero _))
theorem pm_0 {σ' σ : St} {w : Int32} : pm σ' σ w 0 = σ' := by
  refine (congrArg (fun F => ((σ'.1, F, σ'.2.2) : St)) (funext fun k' => funext fun f' => funext fun i' => ?_)).trans (show ((σ'.1, σ'.2.1, σ'.2.2) : St) = σ' from rfl)
  exact if_neg (fun z => absurd z.2.2 (Nat.not_lt_zero _))
theorem ps_s {σ : St} {w : Int32} {n : Nat} : sV (ps σ w n) 1 10 n (pg σ w n) = ps σ w (n + 1) := by
  refine congrArg (fun F => ((σ.1, F, σ.2.2) : St)) (funext fun k' => funext fun f' => funext fun i' => ?_)
  show (if k' = 1 ∧ f' = 10 ∧ i' = n then pg σ w n else (if k' = 1 ∧ f' = 10 ∧ i' < n then pg σ w i' else gV σ k' f' i')) = if k' = 1 ∧ f' = 10 ∧ i' < n + 1 then pg σ w i' else gV σ k' f' i'
  by_cases e : k' = 1 ∧ f' = 10 ∧ i' = n
  · rw [if_pos e, if_pos ⟨e.1, e.2.1, by omega⟩, e.2.2]
  · rw [if_neg e]
    by_cases e1 : k' = 1 ∧ f' = 10 ∧ i' < n
    · rw [if_pos e1, if_pos ⟨e1.1, e1.2.1, by omega⟩]
    · rw [if_neg e1, if_neg (c := k' = 1 ∧ f' = 10 ∧ i' < n + 1)]
      intro z
      rcases Nat.lt_or_ge i' n with q | q
      · exact e1 ⟨z.1, z.2.1, q⟩
      · exact e ⟨z.1, z.2.1, by omega⟩
theorem pm_s {σ' σ : St} {w : Int32} {n : Nat} : sV (pm σ' σ w n) 117 n 0 (pg σ w n) = pm σ' σ w (n + 1) := by
  refine congrArg (fun F => ((σ'.1, F, σ'.2.2) : St)) (funext fun k' => funext fun f' => funext fun i' => ?_)
  show (if k' = 117 ∧ f' = n ∧ i' = 0 then pg σ w n else (if k' = 117 ∧ i' = 0 ∧ f' < n then pg σ w f' else gV σ' k' f' i')) = if k' = 117 ∧ i' = 0 ∧ f' < n + 1 then pg σ w f' else gV σ' k' f' i'
  by_cases e : k' = 117 ∧ f' = n ∧ i' = 0
  · rw [if_pos e, if_pos ⟨e.1, e.2.2, by omega⟩, e.2.1]
  · rw [if_neg e]
    by_cases e1 : k' = 117 ∧ i' = 0 ∧ f' < n
    · rw [if_pos e1, if_pos ⟨e1.1, e1.2.1, by omega⟩]
    · rw [if_neg e1, if_neg (c := k' = 117 ∧ i' = 0 ∧ f' < n + 1)]
      intro z
      rcases Nat.lt_or_ge f' n with q | q
      · exact e1 ⟨z.1, z.2.1, q⟩
      · exact e ⟨z.1, by omega, z.2.1⟩
theorem WF_pm {A : Ad} {σ' σ : St} {w : Int32} {n : Nat} : WF A (pm σ' σ w n) = WF A σ' := Eq.trans rfl rfl
theorem P0_pm {σ' σ : St} {w : Int32} {n : Nat} : P0 (pm σ' σ w n) = P0 σ' := Eq.trans rfl rfl
theorem pm_8 {σ' σ : St} {w : Int32} {n f i : Nat} : gV (pm σ' σ w n) 8 f i = gV σ' 8 f i := Eq.trans rfl rfl
theorem pm_L {σ' σ : St} {w : Int32} {n k : Nat} : gL (pm σ' σ w n) k = gL σ' k := Eq.trans rfl rfl
theorem pm_J {σ' σ : St} {w : Int32} {n : Nat} : gJ (pm σ' σ w n) = gJ σ' := Eq.trans rfl rfl
section PS
variable {A : Ad} {σ σ' : St} {X : Cx} {px : String → GM → Prop} {b d i : Nat} {w : Int32}
theorem q_gp {post : Int32 → GM → Prop} (W : WF A σ) (Q : P0 σ) (hb : b < gL σ 1) : w_X7_grownPercentage X post px (some (A.1 7 0)) (some (A.1 1 b)) w (hp A σ) = post (pg σ w b) (hp A σ) := by
  unfold w_X7_grownPercentage pg
  rw [e_Is' W (sL_7 Q) hcl_7, q_roll W Q hb]
  try dsimp only
  by_cases c : rl σ b = 0
  · rw [if_pos c, if_pos c, e_GetI W hb hok_1_10]
  · rw [if_neg c, if_neg c, e_GetI W hb hok_1_10, e_GetI W hb hok_1_11]
theorem ps_10 : gV (ps σ w i) 1 10 i = gV σ 1 10 i := if_neg (fun z => absurd z.2.2 (Nat.lt_irrefl _))
theorem ps_rl : rl (ps σ w i) i = rl σ i := by
  refine Eq.trans (show rl (ps σ w i) i = (if gV σ 1 7 i = 97 then (if gV (ps σ w i) 1 10 i ≤ 0 then 0 else if hld σ i = 45 then 1 else 0) else 0) from rfl) ?_
  rw [ps_10]
  rfl
theorem ps_pg : pg (ps σ w i) w i = pg σ w i := by
  refine Eq.trans (show pg (ps σ w i) w i = (if rl (ps σ w i) i = 0 then gV (ps σ w i) 1 10 i else if gV (ps σ w i) 1 10 i + gV σ 1 11 i * w < 100 then gV (ps σ w i) 1 10 i + gV σ 1 11 i * w else 100) from rfl) ?_
  rw [ps_10, ps_rl]
  rfl
theorem q_psl {post : Int32 → GM → Prop} (W : WF A σ) (P : PI σ) : ∀ (k f i : Nat), i + k = gL σ 1 → k < f → w_X7_pass_l44 X post px f (some (A.1 7 0)) w (nI i) (hp A (ps σ w i)) = post (gV σ 7 12 0 + w) (hp A (sV (ps σ w (gL σ 1)) 7 12 0 (gV σ 7 12 0 + w))) := by
  have Q := P.1
  have h10 : gL σ 1 ≤ 10 := P.2.1.2.2.2.2.2.2.2.2.1
  have hL := P.2.2.2.2.2.2.2.2.2.1
  intro k
  induction k with
  | zero =>
    intro f i hi hf
    obtain ⟨f, rfl⟩ : ∃ f', f = f' + 1 := ⟨f - 1, by omega⟩
    have W' : WF A (ps σ w i) := W
    have Q' : P0 (ps σ w i) := Q
    have hL' : Lst (ps σ w i) 32 (gL σ 1) := hL
    have W2 : WF A (sV (ps σ w i) 7 12 0 (gV σ 7 12 0 + w)) := W
    rw [w_X7_pass_l44, s7_2 W' Q', e_Is' W' hL'.1 hcl_32, l_size W' (Or.inr (Or.inr (Or.inl rfl))) hL', if_pos (nI_le (by omega) (by omega)), e_GetI W' (sL_7 Q') hok_7_12, show gV (ps σ w i) 7 12 0 = gV σ 7 12 0 from rfl, e_PutI W' (sL_7 Q') hok_7_12, e_GetI W2 (sL_7 Q') hok_7_12, gV_sV, if_pos ⟨rfl, rfl, rfl⟩, show i = gL σ 1 by omega]
  | succ k ih =>
    intro f i hi hf
    obtain ⟨f, rfl⟩ : ∃ f', f = f' + 1 := ⟨f - 1, by omega⟩
    have hil : i < gL σ 1 := by omega
    have W' : WF A (ps σ w i) := W
    have Q' : P0 (ps σ w i) := Q
    have hL' : Lst (ps σ w i) 32 (gL σ 1) := hL
    have hil' : i < gL (ps σ w i) 1 := hil
    have ih' := ih f (i + 1) (by omega) (by omega)
    rw [w_X7_pass_l44, s7_2 W' Q', e_Is' W' hL'.1 hcl_32, l_size W' (Or.inr (Or.inr (Or.inl rfl))) hL', if_neg (nI_ge (by omega) (by omega))]
    rw [s7_2 W' Q', e_Is' W' hL'.1 hcl_32, l_get W' (Or.inr (Or.inr (Or.inl rfl))) hL' hil]
    rw [show hE (32 + 10) = 1 from rfl, e_Is' W' hil' hcl_1, e_Is' W' (sL_7 Q') hcl_7, q_gp W' Q' hil', ps_pg, e_PutI W' hil' hok_1_10, ps_s, nI_1]
    exact ih'
theorem pg_rng (P : PI σ) (hb : b < gL σ 1) (hw : ¬ (w < 1 ∨ 99 < w)) : ∃ p, p ≤ 100 ∧ pg σ w b = nI p := by
  obtain ⟨⟨p, hp0, e1⟩, q, hq, e2⟩ := P.2.2.2.1.2.2.2.2.2.1 b hb
  have a2 := P.2.2.2.1.2.2.1 b hb
  have e1' := a2.2.2.2.2.1.trans e1
  have e2' := a2.2.2.2.2.2.1.trans e2
  obtain ⟨m, hm, rfl⟩ := q_rng (n := 99) hw (by decide) (by decide)
  unfold pg
  by_cases c : rl σ b = 0
  · rw [if_pos c]; exact ⟨p, hp0, e1'⟩
  · rw [if_neg c, e1', e2']
    have e3 : nI p + nI q * nI m = nI (p + q * m) := by
      rw [show nI q * nI m = nI (q * m) from (Int32.ofNat_mul q m).symm, nI_add]
    have h1 : q * m ≤ 100 * 99 := Nat.mul_le_mul hq hm
    rw [e3]
    by_cases c2 : nI (p + q * m) < 100
    · rw [if_pos c2]
      refine ⟨p + q * m, ?_, rfl⟩
      rcases Nat.lt_or_ge 100 (p + q * m) with z | z
      · exact absurd c2 (nI_nlt (a := p + q * m) (b := 100) (by omega) (by omega))
      · exact z
    · rw [if_neg c2]; exact ⟨100, Nat.le_refl _, rfl⟩
set_option maxHeartbeats 2000000 in
theorem pi_ps {x : Int64} (P : PI σ) (hw : ¬ (w < 1 ∨ 99 < w)) : PI (sV (pm (sV (sJ (sV (ps σ w (gL σ 1)) 7 12 0 (gV σ 7 12 0 + w)) x) 8 36 0 0) σ w (gL σ 1)) 8 35 0 (gV σ 8 35 0 + w)) := by
  obtain ⟨p11, p12, p13, p14, p15, p16, p17, p18⟩ := P.2.1
  refine ⟨P.1, ⟨p11, p12, p13, p14, p15, p16, ?_, p18⟩, P.2.2.1, ⟨P.2.2.2.1.1, P.2.2.2.1.2.1, ?_, P.2.2.2.1.2.2.2.1, P.2.2.2.1.2.2.2.2.1, ?_, P.2.2.2.1.2.2.2.2.2.2.1, ?_⟩, P.2.2.2.2⟩
  · show gV σ 8 35 0 + w = gV σ 7 12 0 + w
    rw [p17]
  · intro b' hb'
    obtain ⟨a1, a2, a3, a4, a5, a6, a7, a8⟩ := P.2.2.2.1.2.2.1 b' hb'
    refine ⟨a1, a2, a3, a4, ?_, a6, a7, a8⟩
    exact (if_pos ⟨rfl, rfl, hb'⟩ : (if 1 = 1 ∧ 10 = 10 ∧ b' < gL σ 1 then pg σ w b' else gV σ 1 10 b') = _).trans (if_pos ⟨rfl, rfl, hb'⟩ : (if 117 = 117 ∧ 0 = 0 ∧ b' < gL σ 1 then pg σ w b' else gV σ 117 b' 0) = _).symm
  · intro b' hb'
    refine ⟨?_, (P.2.2.2.1.2.2.2.2.2.1 b' hb').2⟩
    obtain ⟨p, h1, h2⟩ := pg_rng P hb' hw
    exact ⟨p, h1, (if_pos ⟨rfl, rfl, hb'⟩ : (if 117 = 117 ∧ 0 = 0 ∧ b' < gL σ 1 then pg σ w b' else gV σ 117 b' 0) = _).trans h2⟩
  · intro b' hb'
    obtain ⟨a1, a2, a3, a4, a5, a6⟩ := P.2.2.2.1.2.2.2.2.2.2.2 b' hb'
    have hb2 : gL σ 1 ≤ b' := hb'
    refine ⟨a1, a2, ?_, a4, a5, a6⟩
    exact (if_neg (fun z => by omega) : (if 117 = 117 ∧ 0 = 0 ∧ b' < gL σ 1 then pg σ w b' else gV σ 117 b' 0) = _).trans a3
end PS
section CS
variable {X : Cx} {xs : Nat → Int32} {Ls b i : Nat} {v1 v2 v3 v4 : Option Nat} {g : GM}
end CS
