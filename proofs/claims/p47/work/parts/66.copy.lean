/-! a crash: letters copied -/
theorem P0_sA {σ : St} {F : Nat → Nat → Nat → Int32} : P0 (sA σ F) = P0 σ := Eq.trans rfl rfl
def cpS (σ : St) (a c n : Nat) : St := sA σ (fun k f i => if k = 16 ∧ i = a ∧ f < n then gV σ 16 f c else if k = 6 ∧ f = 1 ∧ i = a then nI n else gV σ k f i)
theorem cp_0 {σ : St} {a c : Nat} : sV σ 6 1 a 0 = cpS σ a c 0 := by
  refine congrArg (fun F => ((σ.1, F, σ.2.2) : St)) (funext fun k' => funext fun f' => funext fun i' => ?_)
  show (if k' = 6 ∧ f' = 1 ∧ i' = a then (0 : Int32) else gV σ k' f' i') = if k' = 16 ∧ i' = a ∧ f' < 0 then gV σ 16 f' c else if k' = 6 ∧ f' = 1 ∧ i' = a then nI 0 else gV σ k' f' i'
  rw [if_neg (c := k' = 16 ∧ i' = a ∧ f' < 0) (fun z => absurd z.2.2 (Nat.not_lt_zero _))]
  rfl
theorem cp_s {σ : St} {a c n : Nat} : sV (sV (cpS σ a c n) 16 n a (gV σ 16 n c)) 6 1 a (nI n + 1) = cpS σ a c (n + 1) := by
  refine congrArg (fun F => ((σ.1, F, σ.2.2) : St)) (funext fun k' => funext fun f' => funext fun i' => ?_)
  show (if k' = 6 ∧ f' = 1 ∧ i' = a then nI n + 1 else (if k' = 16 ∧ f' = n ∧ i' = a then gV σ 16 n c else (if k' = 16 ∧ i' = a ∧ f' < n then gV σ 16 f' c else if k' = 6 ∧ f' = 1 ∧ i' = a then nI n else gV σ k' f' i'))) = if k' = 16 ∧ i' = a ∧ f' < n + 1 then gV σ 16 f' c else if k' = 6 ∧ f' = 1 ∧ i' = a then nI (n + 1) else gV σ k' f' i'
  rw [nI_1]
  by_cases e1 : k' = 6 ∧ f' = 1 ∧ i' = a
  · rw [if_pos e1, if_neg (fun z => by omega), if_pos e1]
  · rw [if_neg e1, if_neg e1, if_neg e1]
    by_cases e2 : k' = 16 ∧ f' = n ∧ i' = a
    · rw [if_pos e2, if_pos ⟨e2.1, e2.2.2, by omega⟩, e2.2.1]
    · rw [if_neg e2]
      by_cases e3 : k' = 16 ∧ i' = a ∧ f' < n
      · rw [if_pos e3, if_pos ⟨e3.1, e3.2.1, by omega⟩]
      · rw [if_neg e3, if_neg (fun z => by
          rcases Nat.lt_or_ge f' n with y | y
          · exact e3 ⟨z.1, z.2.1, y⟩
          · exact e2 ⟨z.1, by omega, z.2.1⟩)]
section CP
variable {A : Ad} {σ : St} {X : Cx} {px : String → GM → Prop} {a c n : Nat}
theorem cp_61 {σ : St} {a c n i : Nat} : gV (cpS σ a c n) 6 1 i = if i = a then nI n else gV σ 6 1 i := by
  show (if 6 = 16 ∧ i = a ∧ 1 < n then gV σ 16 1 c else if 6 = 6 ∧ 1 = 1 ∧ i = a then nI n else gV σ 6 1 i) = _
  rw [if_neg (by omega)]
  by_cases e : i = a
  · rw [if_pos ⟨rfl, rfl, e⟩, if_pos e]
  · rw [if_neg (fun z => e z.2.2), if_neg e]
theorem cp_16 {σ : St} {a c n j i : Nat} : gV (cpS σ a c n) 16 j i = if i = a ∧ j < n then gV σ 16 j c else gV σ 16 j i := by
  show (if 16 = 16 ∧ i = a ∧ j < n then gV σ 16 j c else if 16 = 6 ∧ j = 1 ∧ i = a then nI n else gV σ 16 j i) = _
  by_cases e : i = a ∧ j < n
  · rw [if_pos ⟨rfl, e⟩, if_pos e]
  · rw [if_neg (fun z => e z.2), if_neg e, if_neg (by omega)]
theorem cp_o {σ : St} {a c n k f i : Nat} (h : k ≠ 6 ∧ k ≠ 16) : gV (cpS σ a c n) k f i = gV σ k f i := by
  show (if k = 16 ∧ i = a ∧ f < n then gV σ 16 f c else if k = 6 ∧ f = 1 ∧ i = a then nI n else gV σ k f i) = _
  rw [if_neg (fun z => h.2 z.1), if_neg (fun z => h.1 z.1)]
theorem cp_L {σ : St} {a c n k : Nat} : gL (cpS σ a c n) k = gL σ k := Eq.trans rfl rfl
theorem cp_R {σ : St} {a c n k f i : Nat} : gR (cpS σ a c n) k f i = gR σ k f i := Eq.trans rfl rfl
theorem cp_N {σ : St} {a c n k i : Nat} : gN (cpS σ a c n) k i = gN σ k i := Eq.trans rfl rfl
theorem cp_W {σ : St} {a c n : Nat} : WF A (cpS σ a c n) = WF A σ := Eq.trans rfl rfl
theorem q_cpl {post : GM → Prop} (hx : hX X A) (W : WF A σ) (hac : a ≠ c) (h1 : a < gL σ 6) (h2 : c < gL σ 6) (a1 : a < gL σ 16) (a2 : c < gL σ 16) (r1 : gR σ 6 0 a = a + 1) (r2 : gR σ 6 0 c = c + 1) (n1 : gN σ 16 a = 6) (n2 : gN σ 16 c = 6) (e2 : gV σ 6 1 c = nI n) (hn : n ≤ 6) (hch : ∀ j, j < n → ∃ ch, ch < 65536 ∧ gV σ 16 j c = nI ch) : ∀ (k F i : Nat), i + k = n → k < F → w_X6_copyFrom_l6 X post px F (some (A.1 6 a)) (some (A.1 6 c)) (nI i) (hp A (cpS σ a c i)) = post (hp A (cpS σ a c n)) := by
  intro k
  induction k with
  | zero =>
    intro F i hi hF
    obtain ⟨F, rfl⟩ : ∃ F', F = F' + 1 := ⟨F - 1, by omega⟩
    have W' : WF A (cpS σ a c i) := by rw [cp_W]; exact W
    have h2' : c < gL (cpS σ a c i) 6 := by rw [cp_L]; exact h2
    have ec : gV (cpS σ a c i) 6 1 c = nI n := by rw [cp_61, if_neg (show ¬ c = a from fun z => hac z.symm)]; exact e2
    rw [w_X6_copyFrom_l6, e_GetI W' h2' hok_6_1, ec, if_pos (nI_le (by omega) (by omega)), show i = n by omega]
  | succ k ih =>
    intro F i hi hF
    obtain ⟨F, rfl⟩ : ∃ F', F = F' + 1 := ⟨F - 1, by omega⟩
    have ih' := ih F (i + 1) (by omega) (by omega)
    obtain ⟨ch, hc1, hc2⟩ := hch i (by omega)
    have W' : WF A (cpS σ a c i) := by rw [cp_W]; exact W
    have h1' : a < gL (cpS σ a c i) 6 := by rw [cp_L]; exact h1
    have h2' : c < gL (cpS σ a c i) 6 := by rw [cp_L]; exact h2
    have a1' : a < gL (cpS σ a c i) 16 := by rw [cp_L]; exact a1
    have a2' : c < gL (cpS σ a c i) 16 := by rw [cp_L]; exact a2
    have W2 : WF A (sV (cpS σ a c i) 16 i a (gV σ 16 i c)) := by rw [WF_sV]; exact W'
    have h1'' : a < gL (sV (cpS σ a c i) 16 i a (gV σ 16 i c)) 6 := by rw [gL_sV]; exact h1'
    have hv : vp_in (nI i) 6 := vp_in_nI (by omega) (by omega)
    have hi2 : (nI i).toNatClampNeg = i := nI_clamp (by omega)
    have hnar : vp_nar .char (gV σ 16 i c) = gV σ 16 i c := by rw [hc2]; exact nar_c hc1
    have ec : gV (cpS σ a c i) 6 1 c = nI n := by rw [cp_61, if_neg (show ¬ c = a from fun z => hac z.symm)]; exact e2
    have ea : gV (cpS σ a c i) 6 1 a = nI i := by rw [cp_61, if_pos rfl]
    have e16 : gV (cpS σ a c i) 16 i c = gV σ 16 i c := by rw [cp_16, if_neg (show ¬ (c = a ∧ i < i) from fun z => hac z.1.symm)]
    rw [w_X6_copyFrom_l6, e_GetI W' h2' hok_6_1, ec, if_neg (nI_ge (by omega) (by omega)), eR_6_0 W' h2', cp_R, r2, hr_s, e_Ald W' a2' hak_16 (by decide), cp_N, n2, p_and hv, hi2, e16, e_Is' W' h1' hcl_6]
    unfold w_X6_append w_X6_append_b32
    rw [e_GetI W' h1' hok_6_1, ea, eR_6_0 W' h1', cp_R, r1, hr_s, eL_16 hx W' a1', cp_N, n1, if_neg (nI_ge (a := i) (b := 6) (by omega) (by omega)), eR_6_0 W' h1', cp_R, r1, hr_s, e_GetI W' h1' hok_6_1, ea, e_Ast W' a1' hak_16 (by decide), cp_N, n1, p_and hv, hi2, hnar, e_GetI W2 h1'' hok_6_1, gV_sV, if_neg (show ¬ (6 = 16 ∧ 1 = i ∧ a = a) from fun z => absurd z.1 (by decide)), ea, e_PutI W2 h1'' hok_6_1, cp_s, nI_1]
    exact ih'
theorem q_cp {post : GM → Prop} (hx : hX X A) (W : WF A σ) (hac : a ≠ c) (h1 : a < gL σ 6) (h2 : c < gL σ 6) (a1 : a < gL σ 16) (a2 : c < gL σ 16) (r1 : gR σ 6 0 a = a + 1) (r2 : gR σ 6 0 c = c + 1) (n1 : gN σ 16 a = 6) (n2 : gN σ 16 c = 6) (e2 : gV σ 6 1 c = nI n) (hn : n ≤ 6) (hch : ∀ j, j < n → ∃ ch, ch < 65536 ∧ gV σ 16 j c = nI ch) : w_X6_copyFrom X post px (some (A.1 6 a)) (some (A.1 6 c)) (hp A σ) = post (hp A (cpS σ a c n)) := by
  unfold w_X6_copyFrom w_X6_clear
  rw [e_Is' W h1 hcl_6, e_PutI W h1 hok_6_1, cp_0 (c := c)]
  exact q_cpl hx W hac h1 h2 a1 a2 r1 r2 n1 n2 e2 hn hch n 3000 0 (by omega) (by omega)
end CP
/-! the nearest group -/
def gl_ (σ : St) (g : Nat) : Nat := (gV σ 128 g 0).toNatClampNeg
def lv_ (σ : St) (n g : Nat) : UInt32 := lkv (fun j => gV σ 227 j g) (fun j => gV σ 132 j 0) (gl_ σ g) n
def ng_ (σ : St) (n : Nat) : Nat → Nat × UInt32
  | 0 => (0, FP.fconst0)
  | i + 1 => if (ng_ σ n i).1 = 0 then (i + 1, lv_ σ n i) else if Op.cmpValue (FP.fcmp (lv_ σ n i) (ng_ σ n i).2) .l ≤ 0 then ng_ σ n i else (i + 1, lv_ σ n i)
theorem ng_le (σ : St) (n : Nat) : ∀ i, (ng_ σ n i).1 ≤ i
  | 0 => Nat.le_refl _
  | i + 1 => by
    rw [ng_]
    by_cases h1 : (ng_ σ n i).1 = 0
    · rw [if_pos h1]; exact Nat.le_refl _
    · rw [if_neg h1]
      by_cases h2 : Op.cmpValue (FP.fcmp (lv_ σ n i) (ng_ σ n i).2) .l ≤ 0
      · rw [if_pos h2]; exact Nat.le_succ_of_le (ng_le σ n i)
      · rw [if_neg h2]; exact Nat.le_refl _
theorem ng_lv (σ : St) (n : Nat) : ∀ i, (ng_ σ n i).1 ≠ 0 → (ng_ σ n i).2 = lv_ σ n ((ng_ σ n i).1 - 1)
  | 0, h => absurd rfl h
  | i + 1, h => by
    rw [ng_] at h ⊢
    by_cases h1 : (ng_ σ n i).1 = 0
    · rw [if_pos h1]; rfl
    · rw [if_neg h1] at h ⊢
      by_cases h2 : Op.cmpValue (FP.fcmp (lv_ σ n i) (ng_ σ n i).2) .l ≤ 0
      · rw [if_pos h2]; exact ng_lv σ n i h1
      · rw [if_neg h2]; rfl
/-- the class's state behind the copy; n letters crash -/
def CrH (σ κ : St) (n : Nat) : Prop := (∀ k, gL κ k = gL σ k) ∧ (∀ k f i, gR κ k f i = gR σ k f i) ∧ (∀ k i, gN κ k i = gN σ k i) ∧ (∀ k f i, k ≠ 6 ∧ k ≠ 16 → gV κ k f i = gV σ k f i) ∧ gV κ 6 1 0 = 0 ∧ gV κ 6 1 1 = nI n ∧ (∀ i, 2 ≤ i → gV κ 6 1 i = gV σ 6 1 i) ∧ (∀ j, j < n → gV κ 16 j 1 = gV σ 16 j 0) ∧ (∀ j i, 2 ≤ i → gV κ 16 j i = gV σ 16 j i)
section NG
variable {A : Ad} {σ κ σ' : St} {X : Cx} {px : String → GM → Prop} {n : Nat}
theorem cr_H : CrH σ (sV (cpS σ 1 0 n) 6 1 0 0) n := by
  refine ⟨fun k => rfl, fun k f i => rfl, fun k i => rfl, fun k f i hk => ?_, ?_, ?_, fun i hi => ?_, fun j hj => ?_, fun j i hi => ?_⟩
  · rw [gV_sV, if_neg (fun z => hk.1 z.1), cp_o hk]
  · rw [gV_sV, if_pos ⟨rfl, rfl, rfl⟩]
  · rw [gV_sV, if_neg (by decide), cp_61, if_pos rfl]
  · rw [gV_sV, if_neg (by omega), cp_61, if_neg (by omega)]
  · rw [gV_sV, if_neg (by omega), cp_16, if_pos ⟨rfl, hj⟩]
  · rw [gV_sV, if_neg (by omega), cp_16, if_neg (by omega)]
/-- a group's stack against the crash's, by the class -/
theorem q_lk {post : UInt32 → GM → Prop} {g : Nat} (W : WF A κ) (P : PI σ) (H : CrH σ κ n) (hn6 : n ≤ 6) (hty : ∀ j, j < n → gV σ 16 j 0 = gV σ 132 j 0) (hg : g < gL σ 4) : w_X6_likenessTo X post px (some (A.1 6 (g + 2))) (some (A.1 6 1)) (hp A κ) = post (lv_ σ n g) (hp A κ) := by
  obtain ⟨hL, hR, hN, hV, v0, v1, v2, v3, v4⟩ := H
  obtain ⟨s1, s2, s3⟩ := P.2.2.2.2.1.1
  obtain ⟨s4, s5⟩ := s3 (g + 2) (by omega)
  obtain ⟨t4, t5⟩ := s3 1 (by omega)
  obtain ⟨m, m1, m2, m3, m4, m5⟩ := P.2.2.2.2.1.2.2.1 g hg
  rw [q_ai (m := m) (n := n) W (by rw [hL]; omega) (by rw [hL]; omega) (by rw [hL]; omega) (by rw [hL]; omega) (by rw [hR]; exact s4) (by rw [hR]; exact t4) (by rw [hN]; exact s5) (by rw [hN]; exact t5) (by rw [v2 _ (by omega)]; exact m3) v1 m1 m2 hn6]
  have e1 : gl_ σ g = m := by unfold gl_; rw [m4, nI_clamp (by omega)]
  have e2 : lkv (fun j => gV κ 16 j (g + 2)) (fun j => gV κ 16 j 1) m n = lv_ σ n g := by
    unfold lv_
    rw [e1]
    exact lkv_cong (fun q hq => by rw [v4 q _ (by omega)]; exact (m5 q hq).1) (fun q hq => by rw [v3 q hq]; exact hty q hq)
  rw [e2]
theorem q_ngl {post : Option Nat → GM → Prop} (W : WF A κ) (Q : P0 κ) (P : PI σ) (H : CrH σ κ n) (hL4 : Lst κ 33 (gL σ 4)) (hn6 : n ≤ 6) (hty : ∀ j, j < n → gV σ 16 j 0 = gV σ 132 j 0) : ∀ (k F i : Nat), i + k = gL σ 4 → k < F → w_X7_nearestGroup_l6 X post px F (some (A.1 7 0)) (hr A 4 (ng_ σ n i).1) (ng_ σ n i).2 (nI i) (hp A κ) = post (hr A 4 (ng_ σ n (gL σ 4)).1) (hp A κ) := by
  have h30 : gL σ 4 ≤ 30 := P.2.1.2.2.2.2.2.2.2.2.2
  have hL := H.1
  have hR := H.2.1
  intro k
  induction k with
  | zero =>
    intro F i hi hF
    obtain ⟨F, rfl⟩ : ∃ F', F = F' + 1 := ⟨F - 1, by omega⟩
    rw [w_X7_nearestGroup_l6, s7_3 W Q, e_Is' W hL4.1 hcl_33, l_size W (Or.inr (Or.inr (Or.inr rfl))) hL4, if_pos (nI_le (by omega) (by omega)), show i = gL σ 4 by omega]
  | succ k ih =>
    intro F i hi hF
    obtain ⟨F, rfl⟩ : ∃ F', F = F' + 1 := ⟨F - 1, by omega⟩
    have hil : i < gL σ 4 := by omega
    have hil' : i < gL κ 4 := by rw [hL]; exact hil
    have ih' := ih F (i + 1) (by omega) (by omega)
    have hg : gR κ 4 1 i = (i + 2) + 1 := by rw [hR]; exact (P.2.2.2.2.1.2.1 i hil).2.1
    have h6 : i + 2 < gL κ 6 := by
      have := P.2.2.2.2.1.1.1
      rw [hL]; omega
    rw [w_X7_nearestGroup_l6, s7_3 W Q, e_Is' W hL4.1 hcl_33, l_size W (Or.inr (Or.inr (Or.inr rfl))) hL4, if_neg (nI_ge (by omega) (by omega))]
    rw [s7_3 W Q, e_Is' W hL4.1 hcl_33, l_get W (Or.inr (Or.inr (Or.inr rfl))) hL4 hil]
    rw [show hE (33 + 10) = 4 from rfl, e_Is' W hil' hcl_4, eR_4_1 W hil', hg, hr_s, s7_5 W Q, e_Is' W h6 hcl_6, q_lk W P H hn6 hty hil]
    unfold w_X7_nearestGroup_b55 w_X7_nearestGroup_b61
    rw [nI_1]
    rw [ng_] at ih'
    by_cases c1 : (ng_ σ n i).1 = 0
    · rw [if_pos c1] at ih'
      rw [if_pos (by rw [c1]; rfl)]
      exact ih'
    · rw [if_neg c1] at ih'
      rw [if_neg (hr_nn c1)]
      by_cases c2 : Op.cmpValue (FP.fcmp (lv_ σ n i) (ng_ σ n i).2) .l ≤ 0
      · rw [if_pos c2] at ih' ⊢
        exact ih'
      · rw [if_neg c2] at ih' ⊢
        exact ih'
end NG
