/-! new builds -/
theorem e_PutH {A : Ad} {σ : St} {k i c f : Nat} {K : GM → Prop} {t r : Nat} (W : WF A σ) (hi : i < gL σ k) (h : hok k c f (t + 2) = true) (ht : t < 998) : wPut (hp A σ) (some (A.1 k i)) c f (va_rf (hr A t r)) K = K (hp A (sR σ k f i r)) := by
  cases r with
  | zero => rw [hr_0]; exact e_Put0 t W hi h ht
  | succ r => rw [hr_s]; exact e_PutR W hi h ht
/-- a new offer -/
def ofS (σ : St) (m l t : Int32) : St := sV (sV (sV (sW σ 5 0) 5 0 (gL σ 5) m) 5 1 (gL σ 5) l) 5 2 (gL σ 5) t
def bd1 (σ : St) : St := bc20 (sW (sW σ 1 0) 20 0) (gL σ 20)
/-- a new build's fields -/
def bd2 (σ : St) : St := sV (sR (bd1 σ) 1 6 (gL σ 1) (gL σ 20 + 1)) 1 7 (gL σ 1) 100
def bd3 (σ : St) : St := sV (sV (sV (sV (sV (sV (sV (sV (bd2 σ) 1 8 (gL σ 1) 0) 1 9 (gL σ 1) 0) 1 10 (gL σ 1) 0) 1 11 (gL σ 1) 0) 1 12 (gL σ 1) 0) 1 13 (gL σ 1) 0) 1 14 (gL σ 1) 0) 1 15 (gL σ 1) 0
def bd (σ : St) (p r : Nat) (v z q : Int32) : St := sR (sV (sV (sR (sV (sV (bd3 σ) 1 0 (gL σ 1) (nI (gL σ 1))) 1 1 (gL σ 1) v) 1 2 (gL σ 1) (p + 1)) 1 3 (gL σ 1) z) 1 4 (gL σ 1) q) 1 5 (gL σ 1) r
section BN
variable {A : Ad} {σ σ' τ : St} {X : Cx} {px : String → GM → Prop} {b d p r i : Nat} {v z q m l t : Int32}
theorem q_x5i {post : GM → Prop} (W : WF A (sW σ 5 0)) (kk : WF A (ofS σ m l t) → post (hp A (ofS σ m l t))) : w_X5_init X post px (some (A.1 5 (gL σ 5))) m l t (hp A (sW σ 5 0)) := by
  have h5 : gL σ 5 < gL (sW σ 5 0) 5 := show gL σ 5 < gL σ 5 + 1 by omega
  unfold w_X5_init
  refine ⟨_, rfl, ?_⟩
  rw [e_PutI W h5 hok_5_0, e_PutI (σ := sV (sW σ 5 0) 5 0 (gL σ 5) m) W h5 hok_5_1, e_PutI (σ := sV (sV (sW σ 5 0) 5 0 (gL σ 5) m) 5 1 (gL σ 5) l) W h5 hok_5_2]
  exact kk W
theorem q_hvl {post : Int32 → GM → Prop} (W : WF A σ) (Q : P0 σ) (hL : Lst σ 32 (gL σ 1)) (h10 : gL σ 1 ≤ 10) : ∀ (k f i : Nat), i + k = gL σ 1 → k < f → (∀ j, j < i → ¬ gV σ 1 1 j = v) → ((∃ j, j < gL σ 1 ∧ gV σ 1 1 j = v) → w_X7_hasVersion_l2 X post px f (some (A.1 7 0)) v (nI i) (hp A σ) = post 1 (hp A σ)) ∧ ((∀ j, j < gL σ 1 → ¬ gV σ 1 1 j = v) → w_X7_hasVersion_l2 X post px f (some (A.1 7 0)) v (nI i) (hp A σ) = post 0 (hp A σ)) := by
  intro k
  induction k with
  | zero =>
    intro f i hi hf hno
    obtain ⟨f, rfl⟩ : ∃ f', f = f' + 1 := ⟨f - 1, by omega⟩
    rw [w_X7_hasVersion_l2, s7_2 W Q, e_Is' W hL.1 hcl_32, l_size W (Or.inr (Or.inr (Or.inl rfl))) hL, if_pos (nI_le (by omega) (by omega))]
    exact ⟨fun ⟨j, hj, e⟩ => absurd e (hno j (by omega)), fun _ => rfl⟩
  | succ k ih =>
    intro f i hi hf hno
    obtain ⟨f, rfl⟩ : ∃ f', f = f' + 1 := ⟨f - 1, by omega⟩
    have hil : i < gL σ 1 := by omega
    rw [w_X7_hasVersion_l2, s7_2 W Q, e_Is' W hL.1 hcl_32, l_size W (Or.inr (Or.inr (Or.inl rfl))) hL, if_neg (nI_ge (by omega) (by omega))]
    rw [s7_2 W Q, e_Is' W hL.1 hcl_32, l_get W (Or.inr (Or.inr (Or.inl rfl))) hL hil]
    rw [show hE (32 + 10) = 1 from rfl, e_Is' W hil hcl_1, e_GetI W hil hok_1_1, nI_1]
    by_cases c : gV σ 1 1 i = v
    · rw [if_pos c]
      exact ⟨fun _ => rfl, fun h => absurd c (h i hil)⟩
    · rw [if_neg c]
      exact ih f (i + 1) (by omega) (by omega) (fun j hj => by
        rcases Nat.lt_or_ge j i with y | y
        · exact hno j y
        · rw [show j = i by omega]; exact c)
theorem bd_W (W : WF A (bd1 σ)) (h0 : p < gL σ 5) (h1 : r ≤ gL σ 1) : WF A (bd σ p r v z q) := by
  have e1 : hG 1 5 = 1 := rfl
  have e2 : hS 1 5 = 0 := rfl
  have e3 : hG 1 2 = 5 := rfl
  have e4 : hS 1 2 = 0 := rfl
  have e5 : hG 1 6 = 20 := rfl
  have e6 : hS 1 6 = 0 := rfl
  have L1 : gL (bd1 σ) 1 = gL σ 1 + 1 := rfl
  have L5 : gL (bd1 σ) 5 = gL σ 5 := rfl
  have L20 : gL (bd1 σ) 20 = gL σ 20 + 1 := rfl
  unfold bd bd3 bd2
  generalize bd1 σ = β at W L1 L5 L20 ⊢
  refine WF_sR ?_ (by simp only [e1, e2, gL_sV, gL_sR]; omega)
  rw [WF_sV, WF_sV]
  refine WF_sR ?_ (by simp only [e3, e4, gL_sV, gL_sR]; omega)
  rw [WF_sV, WF_sV, WF_sV, WF_sV, WF_sV, WF_sV, WF_sV, WF_sV, WF_sV, WF_sV, WF_sV]
  exact WF_sR W (by simp only [e5, e6]; omega)
theorem q_hv0 {post : Int32 → GM → Prop} (W : WF A σ) (Q : P0 σ) (hL : Lst σ 32 (gL σ 1)) (h10 : gL σ 1 ≤ 10) (hno : ∀ j, j < gL σ 1 → ¬ gV σ 1 1 j = v) : w_X7_hasVersion X post px (some (A.1 7 0)) v (hp A σ) = post 0 (hp A σ) := by
  unfold w_X7_hasVersion
  exact (q_hvl W Q hL h10 (gL σ 1) 3000 0 (by omega) (by omega) (fun j hj => absurd hj (Nat.not_lt_zero _))).2 hno
theorem q_hv1 {post : Int32 → GM → Prop} (W : WF A σ) (Q : P0 σ) (hL : Lst σ 32 (gL σ 1)) (h10 : gL σ 1 ≤ 10) (hex : ∃ j, j < gL σ 1 ∧ gV σ 1 1 j = v) : w_X7_hasVersion X post px (some (A.1 7 0)) v (hp A σ) = post 1 (hp A σ) := by
  unfold w_X7_hasVersion
  exact (q_hvl W Q hL h10 (gL σ 1) 3000 0 (by omega) (by omega) (fun j hj => absurd hj (Nat.not_lt_zero _))).1 hex
set_option maxHeartbeats 2000000 in
theorem q_x1i {post : GM → Prop} (hx : hX X A) (W : WF A (sW σ 1 0)) (h0 : p < gL σ 5) (hr1 : r ≤ gL σ 1) (kk : ∀ A' : Ad, WF A' (bd σ p r v z q) → hX X A' → Nx A A' (sW σ 1 0) → post (hp A' (bd σ p r v z q))) : w_X1_init X post px (some (A.1 1 (gL σ 1))) (nI (gL σ 1)) v (some (A.1 5 p)) z q (hr A 1 r) (hp A (sW σ 1 0)) := by
  unfold w_X1_init
  refine ⟨_, rfl, ?_⟩
  refine e_New 20 hx W rfl rfl (fun A2 W2 hx2 hN2 => ?_)
  have hi20 : gL σ 20 < gL (sW (sW σ 1 0) 20 0) 20 := show gL σ 20 < gL σ 20 + 1 by omega
  refine q_x0i20 (i := gL σ 20) hx2 W2 hi20 (fun A3 W3 hx3 hN3 => ?_)
  have h1a : gL σ 1 < gL (sW σ 1 0) 1 := show gL σ 1 < gL σ 1 + 1 by omega
  have hN : Nx A A3 (sW σ 1 0) := hN2.tr hN3 sW_le
  have h1 : gL σ 1 < gL (bd1 σ) 1 := h1a
  have a1 : A.1 1 (gL σ 1) = A3.1 1 (gL σ 1) := (hN.1 1 (gL σ 1) h1a).symm
  have a5 : A.1 5 p = A3.1 5 p := (hN.1 5 p h0).symm
  have a20 : A2.1 20 (gL (sW σ 1 0) 20) = A3.1 20 (gL σ 20) := (hN3.1 20 (gL σ 20) hi20).symm
  have ar : hr A 1 r = hr A3 1 r := (hr_Nx hN (show r ≤ gL σ 1 + 1 by omega)).symm
  have W0 : WF A3 (bd1 σ) := W3
  have W5 := bd_W (v := v) (z := z) (q := q) W0 h0 hr1
  have fin := kk A3 W5 hx3 hN
  have L5 : p < gL (bd1 σ) 5 := h0
  have L1 : r ≤ gL (bd1 σ) 1 := show r ≤ gL σ 1 + 1 by omega
  have L20 : gL σ 20 < gL (bd1 σ) 20 := show gL σ 20 < gL σ 20 + 1 by omega
  have e1 : hG 1 5 = 1 := rfl
  have e2 : hS 1 5 = 0 := rfl
  have e3 : hG 1 2 = 5 := rfl
  have e4 : hS 1 2 = 0 := rfl
  have e5 : hG 1 6 = 20 := rfl
  have e6 : hS 1 6 = 0 := rfl
  unfold bd bd3 bd2 at fin
  rw [show bc20 (sW (sW σ 1 0) 20 0) (gL σ 20) = bd1 σ from rfl, a1, a5, a20, ar]
  generalize bd1 σ = s0 at *
  rw [e_PutR W0 h1 hok_1_6 (by decide)]
  have V0 : WF A3 (sR s0 1 6 (gL σ 1) (gL σ 20 + 1)) := WF_sR W0 (by rw [e5, e6]; omega)
  have g0 : gL σ 1 < gL (sR s0 1 6 (gL σ 1) (gL σ 20 + 1)) 1 := by rw [gL_sR]; exact h1
  have k0 : p < gL (sR s0 1 6 (gL σ 1) (gL σ 20 + 1)) 5 := by rw [gL_sR]; exact L5
  have m0 : r ≤ gL (sR s0 1 6 (gL σ 1) (gL σ 20 + 1)) 1 := by rw [gL_sR]; exact L1
  generalize sR s0 1 6 (gL σ 1) (gL σ 20 + 1) = t0 at *
  rw [e_PutI V0 g0 hok_1_7]
  have V1 : WF A3 (sV t0 1 7 (gL σ 1) 100) := by rw [WF_sV]; exact V0
  have g1 : gL σ 1 < gL (sV t0 1 7 (gL σ 1) 100) 1 := by rw [gL_sV]; exact g0
  have k1 : p < gL (sV t0 1 7 (gL σ 1) 100) 5 := by rw [gL_sV]; exact k0
  have m1 : r ≤ gL (sV t0 1 7 (gL σ 1) 100) 1 := by rw [gL_sV]; exact m0
  generalize (sV t0 1 7 (gL σ 1) 100) = t1 at *
  rw [e_PutI V1 g1 hok_1_8]
  have V2 : WF A3 (sV t1 1 8 (gL σ 1) 0) := by rw [WF_sV]; exact V1
  have g2 : gL σ 1 < gL (sV t1 1 8 (gL σ 1) 0) 1 := by rw [gL_sV]; exact g1
  have k2 : p < gL (sV t1 1 8 (gL σ 1) 0) 5 := by rw [gL_sV]; exact k1
  have m2 : r ≤ gL (sV t1 1 8 (gL σ 1) 0) 1 := by rw [gL_sV]; exact m1
  generalize (sV t1 1 8 (gL σ 1) 0) = t2 at *
  rw [e_PutI V2 g2 hok_1_9]
  have V3 : WF A3 (sV t2 1 9 (gL σ 1) 0) := by rw [WF_sV]; exact V2
  have g3 : gL σ 1 < gL (sV t2 1 9 (gL σ 1) 0) 1 := by rw [gL_sV]; exact g2
  have k3 : p < gL (sV t2 1 9 (gL σ 1) 0) 5 := by rw [gL_sV]; exact k2
  have m3 : r ≤ gL (sV t2 1 9 (gL σ 1) 0) 1 := by rw [gL_sV]; exact m2
  generalize (sV t2 1 9 (gL σ 1) 0) = t3 at *
  rw [e_PutI V3 g3 hok_1_10]
  have V4 : WF A3 (sV t3 1 10 (gL σ 1) 0) := by rw [WF_sV]; exact V3
  have g4 : gL σ 1 < gL (sV t3 1 10 (gL σ 1) 0) 1 := by rw [gL_sV]; exact g3
  have k4 : p < gL (sV t3 1 10 (gL σ 1) 0) 5 := by rw [gL_sV]; exact k3
  have m4 : r ≤ gL (sV t3 1 10 (gL σ 1) 0) 1 := by rw [gL_sV]; exact m3
  generalize (sV t3 1 10 (gL σ 1) 0) = t4 at *
  rw [e_PutI V4 g4 hok_1_11]
  have V5 : WF A3 (sV t4 1 11 (gL σ 1) 0) := by rw [WF_sV]; exact V4
  have g5 : gL σ 1 < gL (sV t4 1 11 (gL σ 1) 0) 1 := by rw [gL_sV]; exact g4
  have k5 : p < gL (sV t4 1 11 (gL σ 1) 0) 5 := by rw [gL_sV]; exact k4
  have m5 : r ≤ gL (sV t4 1 11 (gL σ 1) 0) 1 := by rw [gL_sV]; exact m4
  generalize (sV t4 1 11 (gL σ 1) 0) = t5 at *
  rw [e_PutI V5 g5 hok_1_12]
  have V6 : WF A3 (sV t5 1 12 (gL σ 1) 0) := by rw [WF_sV]; exact V5
  have g6 : gL σ 1 < gL (sV t5 1 12 (gL σ 1) 0) 1 := by rw [gL_sV]; exact g5
  have k6 : p < gL (sV t5 1 12 (gL σ 1) 0) 5 := by rw [gL_sV]; exact k5
  have m6 : r ≤ gL (sV t5 1 12 (gL σ 1) 0) 1 := by rw [gL_sV]; exact m5
  generalize (sV t5 1 12 (gL σ 1) 0) = t6 at *
  rw [e_PutI V6 g6 hok_1_13]
  have V7 : WF A3 (sV t6 1 13 (gL σ 1) 0) := by rw [WF_sV]; exact V6
  have g7 : gL σ 1 < gL (sV t6 1 13 (gL σ 1) 0) 1 := by rw [gL_sV]; exact g6
  have k7 : p < gL (sV t6 1 13 (gL σ 1) 0) 5 := by rw [gL_sV]; exact k6
  have m7 : r ≤ gL (sV t6 1 13 (gL σ 1) 0) 1 := by rw [gL_sV]; exact m6
  generalize (sV t6 1 13 (gL σ 1) 0) = t7 at *
  rw [e_PutI V7 g7 hok_1_14]
  have V8 : WF A3 (sV t7 1 14 (gL σ 1) 0) := by rw [WF_sV]; exact V7
  have g8 : gL σ 1 < gL (sV t7 1 14 (gL σ 1) 0) 1 := by rw [gL_sV]; exact g7
  have k8 : p < gL (sV t7 1 14 (gL σ 1) 0) 5 := by rw [gL_sV]; exact k7
  have m8 : r ≤ gL (sV t7 1 14 (gL σ 1) 0) 1 := by rw [gL_sV]; exact m7
  generalize (sV t7 1 14 (gL σ 1) 0) = t8 at *
  rw [e_PutI V8 g8 hok_1_15]
  have V9 : WF A3 (sV t8 1 15 (gL σ 1) 0) := by rw [WF_sV]; exact V8
  have g9 : gL σ 1 < gL (sV t8 1 15 (gL σ 1) 0) 1 := by rw [gL_sV]; exact g8
  have k9 : p < gL (sV t8 1 15 (gL σ 1) 0) 5 := by rw [gL_sV]; exact k8
  have m9 : r ≤ gL (sV t8 1 15 (gL σ 1) 0) 1 := by rw [gL_sV]; exact m8
  generalize (sV t8 1 15 (gL σ 1) 0) = t9 at *
  rw [e_PutI V9 g9 hok_1_0]
  have V10 : WF A3 (sV t9 1 0 (gL σ 1) (nI (gL σ 1))) := by rw [WF_sV]; exact V9
  have g10 : gL σ 1 < gL (sV t9 1 0 (gL σ 1) (nI (gL σ 1))) 1 := by rw [gL_sV]; exact g9
  have k10 : p < gL (sV t9 1 0 (gL σ 1) (nI (gL σ 1))) 5 := by rw [gL_sV]; exact k9
  have m10 : r ≤ gL (sV t9 1 0 (gL σ 1) (nI (gL σ 1))) 1 := by rw [gL_sV]; exact m9
  generalize (sV t9 1 0 (gL σ 1) (nI (gL σ 1))) = t10 at *
  rw [e_PutI V10 g10 hok_1_1]
  have V11 : WF A3 (sV t10 1 1 (gL σ 1) v) := by rw [WF_sV]; exact V10
  have g11 : gL σ 1 < gL (sV t10 1 1 (gL σ 1) v) 1 := by rw [gL_sV]; exact g10
  have k11 : p < gL (sV t10 1 1 (gL σ 1) v) 5 := by rw [gL_sV]; exact k10
  have m11 : r ≤ gL (sV t10 1 1 (gL σ 1) v) 1 := by rw [gL_sV]; exact m10
  generalize (sV t10 1 1 (gL σ 1) v) = t11 at *
  rw [e_PutR V11 g11 hok_1_2 (by decide)]
  have V12 : WF A3 (sR t11 1 2 (gL σ 1) (p + 1)) := WF_sR V11 (by rw [e3, e4]; omega)
  have g12 : gL σ 1 < gL (sR t11 1 2 (gL σ 1) (p + 1)) 1 := by rw [gL_sR]; exact g11
  have k12 : p < gL (sR t11 1 2 (gL σ 1) (p + 1)) 5 := by rw [gL_sR]; exact k11
  have m12 : r ≤ gL (sR t11 1 2 (gL σ 1) (p + 1)) 1 := by rw [gL_sR]; exact m11
  generalize (sR t11 1 2 (gL σ 1) (p + 1)) = t12 at *
  rw [e_PutI V12 g12 hok_1_3]
  have V13 : WF A3 (sV t12 1 3 (gL σ 1) z) := by rw [WF_sV]; exact V12
  have g13 : gL σ 1 < gL (sV t12 1 3 (gL σ 1) z) 1 := by rw [gL_sV]; exact g12
  have k13 : p < gL (sV t12 1 3 (gL σ 1) z) 5 := by rw [gL_sV]; exact k12
  have m13 : r ≤ gL (sV t12 1 3 (gL σ 1) z) 1 := by rw [gL_sV]; exact m12
  generalize (sV t12 1 3 (gL σ 1) z) = t13 at *
  rw [e_PutI V13 g13 hok_1_4]
  have V14 : WF A3 (sV t13 1 4 (gL σ 1) q) := by rw [WF_sV]; exact V13
  have g14 : gL σ 1 < gL (sV t13 1 4 (gL σ 1) q) 1 := by rw [gL_sV]; exact g13
  have k14 : p < gL (sV t13 1 4 (gL σ 1) q) 5 := by rw [gL_sV]; exact k13
  have m14 : r ≤ gL (sV t13 1 4 (gL σ 1) q) 1 := by rw [gL_sV]; exact m13
  generalize (sV t13 1 4 (gL σ 1) q) = t14 at *
  rw [e_PutH V14 g14 hok_1_5 (by decide)]
  exact fin
theorem bd_0 : gV (bd σ p r v z q) 1 0 b = if b = gL σ 1 then nI (gL σ 1) else gV σ 1 0 b := by
  unfold bd bd3 bd2 bd1 bc20
  by_cases e : b = gL σ 1
  · simp [gV_sV, gV_sR, gV_sW, e]
  · simp [gV_sV, gV_sR, gV_sW, e]
theorem bd_1 : gV (bd σ p r v z q) 1 1 b = if b = gL σ 1 then v else gV σ 1 1 b := by
  unfold bd bd3 bd2 bd1 bc20
  by_cases e : b = gL σ 1
  · simp [gV_sV, gV_sR, gV_sW, e]
  · simp [gV_sV, gV_sR, gV_sW, e]
theorem bd_3 : gV (bd σ p r v z q) 1 3 b = if b = gL σ 1 then z else gV σ 1 3 b := by
  unfold bd bd3 bd2 bd1 bc20
  by_cases e : b = gL σ 1
  · simp [gV_sV, gV_sR, gV_sW, e]
  · simp [gV_sV, gV_sR, gV_sW, e]
theorem bd_4 : gV (bd σ p r v z q) 1 4 b = if b = gL σ 1 then q else gV σ 1 4 b := by
  unfold bd bd3 bd2 bd1 bc20
  by_cases e : b = gL σ 1
  · simp [gV_sV, gV_sR, gV_sW, e]
  · simp [gV_sV, gV_sR, gV_sW, e]
theorem bd_7 : gV (bd σ p r v z q) 1 7 b = if b = gL σ 1 then 100 else gV σ 1 7 b := by
  unfold bd bd3 bd2 bd1 bc20
  by_cases e : b = gL σ 1
  · simp [gV_sV, gV_sR, gV_sW, e]
  · simp [gV_sV, gV_sR, gV_sW, e]
theorem bd_8 : gV (bd σ p r v z q) 1 8 b = if b = gL σ 1 then 0 else gV σ 1 8 b := by
  unfold bd bd3 bd2 bd1 bc20
  by_cases e : b = gL σ 1
  · simp [gV_sV, gV_sR, gV_sW, e]
  · simp [gV_sV, gV_sR, gV_sW, e]
theorem bd_9 : gV (bd σ p r v z q) 1 9 b = if b = gL σ 1 then 0 else gV σ 1 9 b := by
  unfold bd bd3 bd2 bd1 bc20
  by_cases e : b = gL σ 1
  · simp [gV_sV, gV_sR, gV_sW, e]
  · simp [gV_sV, gV_sR, gV_sW, e]
theorem bd_10 : gV (bd σ p r v z q) 1 10 b = if b = gL σ 1 then 0 else gV σ 1 10 b := by
  unfold bd bd3 bd2 bd1 bc20
  by_cases e : b = gL σ 1
  · simp [gV_sV, gV_sR, gV_sW, e]
  · simp [gV_sV, gV_sR, gV_sW, e]
theorem bd_11 : gV (bd σ p r v z q) 1 11 b = if b = gL σ 1 then 0 else gV σ 1 11 b := by
  unfold bd bd3 bd2 bd1 bc20
  by_cases e : b = gL σ 1
  · simp [gV_sV, gV_sR, gV_sW, e]
  · simp [gV_sV, gV_sR, gV_sW, e]
theorem bd_12 : gV (bd σ p r v z q) 1 12 b = if b = gL σ 1 then 0 else gV σ 1 12 b := by
  unfold bd bd3 bd2 bd1 bc20
  by_cases e : b = gL σ 1
  · simp [gV_sV, gV_sR, gV_sW, e]
  · simp [gV_sV, gV_sR, gV_sW, e]
theorem bd_13 : gV (bd σ p r v z q) 1 13 b = if b = gL σ 1 then 0 else gV σ 1 13 b := by
  unfold bd bd3 bd2 bd1 bc20
  by_cases e : b = gL σ 1
  · simp [gV_sV, gV_sR, gV_sW, e]
  · simp [gV_sV, gV_sR, gV_sW, e]
theorem bd_14 : gV (bd σ p r v z q) 1 14 b = if b = gL σ 1 then 0 else gV σ 1 14 b := by
  unfold bd bd3 bd2 bd1 bc20
  by_cases e : b = gL σ 1
  · simp [gV_sV, gV_sR, gV_sW, e]
  · simp [gV_sV, gV_sR, gV_sW, e]
theorem bd_15 : gV (bd σ p r v z q) 1 15 b = if b = gL σ 1 then 0 else gV σ 1 15 b := by
  unfold bd bd3 bd2 bd1 bc20
  by_cases e : b = gL σ 1
  · simp [gV_sV, gV_sR, gV_sW, e]
  · simp [gV_sV, gV_sR, gV_sW, e]
theorem bd_R2 : gR (bd σ p r v z q) 1 2 b = if b = gL σ 1 then p + 1 else gR σ 1 2 b := by
  unfold bd bd3 bd2 bd1 bc20
  by_cases e : b = gL σ 1
  · simp [gR_sV, gR_sR, gR_sW, e]
  · simp [gR_sV, gR_sR, gR_sW, e]
theorem bd_R5 : gR (bd σ p r v z q) 1 5 b = if b = gL σ 1 then r else gR σ 1 5 b := by
  unfold bd bd3 bd2 bd1 bc20
  by_cases e : b = gL σ 1
  · simp [gR_sV, gR_sR, gR_sW, e]
  · simp [gR_sV, gR_sR, gR_sW, e]
theorem bd_R6 : gR (bd σ p r v z q) 1 6 b = if b = gL σ 1 then gL σ 20 + 1 else gR σ 1 6 b := by
  unfold bd bd3 bd2 bd1 bc20
  by_cases e : b = gL σ 1
  · simp [gR_sV, gR_sR, gR_sW, e]
  · simp [gR_sV, gR_sR, gR_sW, e]
theorem bd_R20 : gR (bd σ p r v z q) 20 0 b = if b = gL σ 20 then gL σ 21 + 1 else gR σ 20 0 b := by
  unfold bd bd3 bd2 bd1 bc20
  by_cases e : b = gL σ 20
  · simp [gR_sV, gR_sR, gR_sW, gL_sW, e]
  · simp [gR_sV, gR_sR, gR_sW, gL_sW, e]
theorem bd_N21 : gN (bd σ p r v z q) 21 b = if b = gL σ 21 then 101 else gN σ 21 b := by
  unfold bd bd3 bd2 bd1 bc20
  by_cases e : b = gL σ 21
  · simp [gN_sV, gN_sR, gN_sW, gL_sW, e]
  · simp [gN_sV, gN_sR, gN_sW, gL_sW, e]
theorem bd_V20 : gV (bd σ p r v z q) 20 1 b = if b = gL σ 20 then 0 else gV σ 20 1 b := by
  unfold bd bd3 bd2 bd1 bc20
  by_cases e : b = gL σ 20
  · simp [gV_sV, gV_sR, gV_sW, gL_sW, e]
  · simp [gV_sV, gV_sR, gV_sW, gL_sW, e]
theorem bd_V21 {j : Nat} : gV (bd σ p r v z q) 21 j b = if b = gL σ 21 then 0 else gV σ 21 j b := by
  unfold bd bd3 bd2 bd1 bc20
  by_cases e : b = gL σ 21
  · simp [gV_sV, gV_sR, gV_sW, gL_sW, e]
  · simp [gV_sV, gV_sR, gV_sW, gL_sW, e]
theorem bd_eV {k f : Nat} (h : k ≠ 1 ∧ k ≠ 20 ∧ k ≠ 21) : gV (bd σ p r v z q) k f i = gV σ k f i := by
  unfold bd bd3 bd2 bd1 bc20
  simp [gV_sV, gV_sR, gV_sW, h.1, h.2.1, h.2.2]
theorem bd_eR {k f : Nat} (h : k ≠ 1 ∧ k ≠ 20 ∧ k ≠ 21) : gR (bd σ p r v z q) k f i = gR σ k f i := by
  unfold bd bd3 bd2 bd1 bc20
  simp [gR_sV, gR_sR, gR_sW, h.1, h.2.1, h.2.2]
theorem bd_eN {k : Nat} (h : k ≠ 1 ∧ k ≠ 20 ∧ k ≠ 21) : gN (bd σ p r v z q) k i = gN σ k i := by
  unfold bd bd3 bd2 bd1 bc20
  simp [gN_sV, gN_sR, gN_sW, h.1, h.2.1, h.2.2]
theorem bd_eL {k : Nat} (h : k ≠ 1 ∧ k ≠ 20 ∧ k ≠ 21) : gL (bd σ p r v z q) k = gL σ k := by
  unfold bd bd3 bd2 bd1 bc20
  simp [gL_sV, gL_sR, gL_sW, h.1, h.2.1, h.2.2]
theorem bd_L1 : gL (bd σ p r v z q) 1 = gL σ 1 + 1 := rfl
theorem bd_L20 : gL (bd σ p r v z q) 20 = gL σ 20 + 1 := rfl
theorem bd_L21 : gL (bd σ p r v z q) 21 = gL σ 21 + 1 := rfl
/-- what a new build's state must be (8: but for what the last call threw) -/
def BdH (σ κ : St) (p r : Nat) (v z q : Int32) : Prop := gL σ 1 < 10 ∧ EqL [1, 20, 21, 42] σ κ ∧ EqV [1, 8, 20, 21, 32, 42] σ κ ∧ EqR [1, 20, 21, 32, 42] σ κ ∧ EqN [1, 20, 21, 42] σ κ ∧ (∀ f, f ≠ 36 → gV κ 8 f 0 = gV σ 8 f 0) ∧ (gL κ 1 = gL σ 1 + 1 ∧ gL κ 20 = gL σ 20 + 1 ∧ gL κ 21 = gL σ 21 + 1) ∧ (∀ b, gV κ 1 0 b = if b = gL σ 1 then nI (gL σ 1) else gV σ 1 0 b) ∧ (∀ b, gV κ 1 1 b = if b = gL σ 1 then v else gV σ 1 1 b) ∧ (∀ b, gV κ 1 3 b = if b = gL σ 1 then z else gV σ 1 3 b) ∧ (∀ b, gV κ 1 4 b = if b = gL σ 1 then q else gV σ 1 4 b) ∧ (∀ b, gV κ 1 7 b = if b = gL σ 1 then 100 else gV σ 1 7 b) ∧ (∀ b, gV κ 1 8 b = if b = gL σ 1 then 0 else gV σ 1 8 b) ∧ (∀ b, gV κ 1 9 b = if b = gL σ 1 then 0 else gV σ 1 9 b) ∧ (∀ b, gV κ 1 10 b = if b = gL σ 1 then 0 else gV σ 1 10 b) ∧ (∀ b, gV κ 1 11 b = if b = gL σ 1 then 0 else gV σ 1 11 b) ∧ (∀ b, gV κ 1 12 b = if b = gL σ 1 then 0 else gV σ 1 12 b) ∧ (∀ b, gV κ 1 13 b = if b = gL σ 1 then 0 else gV σ 1 13 b) ∧ (∀ b, gV κ 1 14 b = if b = gL σ 1 then 0 else gV σ 1 14 b) ∧ (∀ b, gV κ 1 15 b = if b = gL σ 1 then 0 else gV σ 1 15 b) ∧ (∀ b, gR κ 1 2 b = if b = gL σ 1 then p + 1 else gR σ 1 2 b) ∧ (∀ b, gR κ 1 5 b = if b = gL σ 1 then r else gR σ 1 5 b) ∧ (∀ b, gR κ 1 6 b = if b = gL σ 1 then gL σ 20 + 1 else gR σ 1 6 b) ∧ (∀ b, gR κ 20 0 b = if b = gL σ 20 then gL σ 21 + 1 else gR σ 20 0 b) ∧ (∀ b, gN κ 21 b = if b = gL σ 21 then 101 else gN σ 21 b) ∧ (∀ b, gV κ 20 1 b = if b = gL σ 20 then 0 else gV σ 20 1 b) ∧ (∀ j b, gV κ 21 j b = if b = gL σ 21 then 0 else gV σ 21 j b) ∧ Lst κ 32 (gL σ 1 + 1)
def BdF (σ κ : St) (m l t v z q y : Int32) : St := (sV (sV (sV (sV (sV (sV (sV (sV (sV κ 108 (gL σ 1) 0 m) 109 (gL σ 1) 0 l) 112 (gL σ 1) 0 t) 107 (gL σ 1) 0 v) 110 (gL σ 1) 0 z) 111 (gL σ 1) 0 q) 113 (gL σ 1) 0 y) 114 (gL σ 1) 0 100) 8 21 0 (nI (gL σ 1 + 1)))
theorem bd_H {x : Int64} (hn : gL σ 1 < 10) (hL3 : Lst (mx 32 (bd σ p r v z q) τ) 32 (gL σ 1 + 1)) : BdH σ (sV (sJ (mx 32 (bd σ p r v z q) τ) x) 8 36 0 0) p r v z q := by
  refine ⟨hn, fun k hk => ?_, fun k hk f i => ?_, fun k hk f i => ?_, fun k hk i => ?_, fun f hf => ?_, ⟨?_, ?_, ?_⟩, ?_, ?_, ?_, ?_, ?_, ?_, ?_, ?_, ?_, ?_, ?_, ?_, ?_, ?_, ?_, ?_, ?_, ?_, ?_, ?_, ?_⟩
  · simp only [List.mem_cons, List.not_mem_nil, or_false, not_or] at hk
    rw [gL_sV, gL_sJ, gL_mx, if_neg (by omega), bd_eL (by omega)]
  · simp only [List.mem_cons, List.not_mem_nil, or_false, not_or] at hk
    rw [gV_sV, if_neg (by omega), gV_sJ, gV_mx, if_neg (by omega), bd_eV (by omega)]
  · simp only [List.mem_cons, List.not_mem_nil, or_false, not_or] at hk
    rw [gR_sV, gR_sJ, gR_mx, if_neg (by omega), bd_eR (by omega)]
  · simp only [List.mem_cons, List.not_mem_nil, or_false, not_or] at hk
    rw [gN_sV, gN_sJ, gN_mx, if_neg (by omega), bd_eN (by omega)]
  · rw [gV_sV, if_neg (fun z => hf z.2.1), gV_sJ, gV_mx, if_neg (by decide), bd_eV (by decide)]
  · rw [gL_sV, gL_sJ, gL_mx, if_neg (by decide), bd_L1]
  · rw [gL_sV, gL_sJ, gL_mx, if_neg (by decide), bd_L20]
  · rw [gL_sV, gL_sJ, gL_mx, if_neg (by decide), bd_L21]
  · intro b; rw [gV_sV, if_neg (by omega), gV_sJ, gV_mx, if_neg (by decide), bd_0]
  · intro b; rw [gV_sV, if_neg (by omega), gV_sJ, gV_mx, if_neg (by decide), bd_1]
  · intro b; rw [gV_sV, if_neg (by omega), gV_sJ, gV_mx, if_neg (by decide), bd_3]
  · intro b; rw [gV_sV, if_neg (by omega), gV_sJ, gV_mx, if_neg (by decide), bd_4]
  · intro b; rw [gV_sV, if_neg (by omega), gV_sJ, gV_mx, if_neg (by decide), bd_7]
  · intro b; rw [gV_sV, if_neg (by omega), gV_sJ, gV_mx, if_neg (by decide), bd_8]
  · intro b; rw [gV_sV, if_neg (by omega), gV_sJ, gV_mx, if_neg (by decide), bd_9]
  · intro b; rw [gV_sV, if_neg (by omega), gV_sJ, gV_mx, if_neg (by decide), bd_10]
  · intro b; rw [gV_sV, if_neg (by omega), gV_sJ, gV_mx, if_neg (by decide), bd_11]
  · intro b; rw [gV_sV, if_neg (by omega), gV_sJ, gV_mx, if_neg (by decide), bd_12]
  · intro b; rw [gV_sV, if_neg (by omega), gV_sJ, gV_mx, if_neg (by decide), bd_13]
  · intro b; rw [gV_sV, if_neg (by omega), gV_sJ, gV_mx, if_neg (by decide), bd_14]
  · intro b; rw [gV_sV, if_neg (by omega), gV_sJ, gV_mx, if_neg (by decide), bd_15]
  · intro b; rw [gR_sV, gR_sJ, gR_mx, if_neg (by decide), bd_R2]
  · intro b; rw [gR_sV, gR_sJ, gR_mx, if_neg (by decide), bd_R5]
  · intro b; rw [gR_sV, gR_sJ, gR_mx, if_neg (by decide), bd_R6]
  · intro b; rw [gR_sV, gR_sJ, gR_mx, if_neg (by decide), bd_R20]
  · intro b; rw [gN_sV, gN_sJ, gN_mx, if_neg (by decide), bd_N21]
  · intro b; rw [gV_sV, if_neg (by omega), gV_sJ, gV_mx, if_neg (by decide), bd_V20]
  · intro j b; rw [gV_sV, if_neg (by omega), gV_sJ, gV_mx, if_neg (by decide), bd_V21]
  · refine Lst_c (k := 32) (σ := mx 32 (bd σ p r v z q) τ) ?_ ?_ ?_ ?_ ?_ ?_ hL3
    · rw [gL_sV, gL_sJ]
    · rw [gL_sV, gL_sJ]
    · intro f i; rw [gV_sV, if_neg (by omega), gV_sJ]
    · intro f i; rw [gR_sV, gR_sJ]
    · intro f i; rw [gR_sV, gR_sJ]
    · intro i; rw [gN_sV, gN_sJ]
theorem bd_H36 {κ : St} (H : BdH σ κ p r v z q) : BdH σ (sV κ 8 36 0 0) p r v z q := by
  obtain ⟨hn, EL, EV, ER, EN, v8, hl, a0, a1, a3, a4, a7, a8, a9, a10, a11, a12, a13, a14, a15, b2, b5, b6, h1, h2, h3, h4, h5⟩ := H
  refine ⟨hn, EL, fun k hk f i => ?_, ER, EN, fun f hf => ?_, hl, fun b => ?_, fun b => ?_, fun b => ?_, fun b => ?_, fun b => ?_, fun b => ?_, fun b => ?_, fun b => ?_, fun b => ?_, fun b => ?_, fun b => ?_, fun b => ?_, fun b => ?_, b2, b5, b6, h1, h2, fun b => ?_, fun j b => ?_, ?_⟩
  · have hk' := hk
    simp only [List.mem_cons, List.not_mem_nil, or_false, not_or] at hk'
    rw [gV_sV, if_neg (by omega)]; exact EV k hk f i
  · rw [gV_sV, if_neg (fun z => hf z.2.1)]; exact v8 f hf
  · rw [gV_sV, if_neg (by omega)]; exact a0 b
  · rw [gV_sV, if_neg (by omega)]; exact a1 b
  · rw [gV_sV, if_neg (by omega)]; exact a3 b
  · rw [gV_sV, if_neg (by omega)]; exact a4 b
  · rw [gV_sV, if_neg (by omega)]; exact a7 b
  · rw [gV_sV, if_neg (by omega)]; exact a8 b
  · rw [gV_sV, if_neg (by omega)]; exact a9 b
  · rw [gV_sV, if_neg (by omega)]; exact a10 b
  · rw [gV_sV, if_neg (by omega)]; exact a11 b
  · rw [gV_sV, if_neg (by omega)]; exact a12 b
  · rw [gV_sV, if_neg (by omega)]; exact a13 b
  · rw [gV_sV, if_neg (by omega)]; exact a14 b
  · rw [gV_sV, if_neg (by omega)]; exact a15 b
  · rw [gV_sV, if_neg (by omega)]; exact h3 b
  · rw [gV_sV, if_neg (by omega)]; exact h4 j b
  · refine Lst_c (k := 32) (σ := κ) gL_sV gL_sV (fun f i => ?_) (fun f i => gR_sV) (fun f i => gR_sV) (fun i => gN_sV) h5
    rw [gV_sV, if_neg (by omega)]
theorem BdF_L {κ : St} {y : Int32} {k : Nat} : gL (BdF σ κ m l t v z q y) k = gL κ k := by
  unfold BdF
  simp only [gL_sV]
theorem BdF_R {κ : St} {y : Int32} {k f : Nat} : gR (BdF σ κ m l t v z q y) k f i = gR κ k f i := by
  unfold BdF
  simp only [gR_sV]
theorem BdF_N {κ : St} {y : Int32} {k : Nat} : gN (BdF σ κ m l t v z q y) k i = gN κ k i := by
  unfold BdF
  simp only [gN_sV]
theorem BdF_V {κ : St} {y : Int32} {k f : Nat} (hk : k ≠ 8 ∧ k ≠ 107 ∧ k ≠ 108 ∧ k ≠ 109 ∧ k ≠ 110 ∧ k ≠ 111 ∧ k ≠ 112 ∧ k ≠ 113 ∧ k ≠ 114) : gV (BdF σ κ m l t v z q y) k f i = gV κ k f i := by
  unfold BdF
  rw [gV_sV, if_neg (by omega), gV_sV, if_neg (by omega), gV_sV, if_neg (by omega), gV_sV, if_neg (by omega), gV_sV, if_neg (by omega), gV_sV, if_neg (by omega), gV_sV, if_neg (by omega), gV_sV, if_neg (by omega), gV_sV, if_neg (by omega)]
theorem BdF_8 {κ : St} {y : Int32} {f : Nat} (hk : f ≠ 21) : gV (BdF σ κ m l t v z q y) 8 f 0 = gV κ 8 f 0 := by
  unfold BdF
  rw [gV_sV, if_neg (by omega), gV_sV, if_neg (by omega), gV_sV, if_neg (by omega), gV_sV, if_neg (by omega), gV_sV, if_neg (by omega), gV_sV, if_neg (by omega), gV_sV, if_neg (by omega), gV_sV, if_neg (by omega), gV_sV, if_neg (by omega)]
theorem BdF_821 {κ : St} {y : Int32} : gV (BdF σ κ m l t v z q y) 8 21 0 = nI (gL σ 1 + 1) := by
  unfold BdF
  rw [gV_sV, if_pos ⟨rfl, rfl, rfl⟩]
theorem BdF_108 {κ : St} {y : Int32} : gV (BdF σ κ m l t v z q y) 108 b 0 = if b = gL σ 1 then m else gV κ 108 b 0 := by
  unfold BdF
  rw [gV_sV, if_neg (by omega), gV_sV, if_neg (by omega), gV_sV, if_neg (by omega), gV_sV, if_neg (by omega), gV_sV, if_neg (by omega), gV_sV, if_neg (by omega), gV_sV, if_neg (by omega), gV_sV, if_neg (by omega), gV_sV]
  by_cases e : b = gL σ 1
  · rw [if_pos ⟨rfl, e, rfl⟩, if_pos e]
  · rw [if_neg (fun z => e z.2.1), if_neg e]
theorem BdF_109 {κ : St} {y : Int32} : gV (BdF σ κ m l t v z q y) 109 b 0 = if b = gL σ 1 then l else gV κ 109 b 0 := by
  unfold BdF
  rw [gV_sV, if_neg (by omega), gV_sV, if_neg (by omega), gV_sV, if_neg (by omega), gV_sV, if_neg (by omega), gV_sV, if_neg (by omega), gV_sV, if_neg (by omega), gV_sV, if_neg (by omega), gV_sV]
  by_cases e : b = gL σ 1
  · rw [if_pos ⟨rfl, e, rfl⟩, if_pos e]
  · rw [if_neg (fun z => e z.2.1), if_neg e, gV_sV, if_neg (by omega)]
theorem BdF_112 {κ : St} {y : Int32} : gV (BdF σ κ m l t v z q y) 112 b 0 = if b = gL σ 1 then t else gV κ 112 b 0 := by
  unfold BdF
  rw [gV_sV, if_neg (by omega), gV_sV, if_neg (by omega), gV_sV, if_neg (by omega), gV_sV, if_neg (by omega), gV_sV, if_neg (by omega), gV_sV, if_neg (by omega), gV_sV]
  by_cases e : b = gL σ 1
  · rw [if_pos ⟨rfl, e, rfl⟩, if_pos e]
  · rw [if_neg (fun z => e z.2.1), if_neg e, gV_sV, if_neg (by omega), gV_sV, if_neg (by omega)]
theorem BdF_107 {κ : St} {y : Int32} : gV (BdF σ κ m l t v z q y) 107 b 0 = if b = gL σ 1 then v else gV κ 107 b 0 := by
  unfold BdF
  rw [gV_sV, if_neg (by omega), gV_sV, if_neg (by omega), gV_sV, if_neg (by omega), gV_sV, if_neg (by omega), gV_sV, if_neg (by omega), gV_sV]
  by_cases e : b = gL σ 1
  · rw [if_pos ⟨rfl, e, rfl⟩, if_pos e]
  · rw [if_neg (fun z => e z.2.1), if_neg e, gV_sV, if_neg (by omega), gV_sV, if_neg (by omega), gV_sV, if_neg (by omega)]
theorem BdF_110 {κ : St} {y : Int32} : gV (BdF σ κ m l t v z q y) 110 b 0 = if b = gL σ 1 then z else gV κ 110 b 0 := by
  unfold BdF
  rw [gV_sV, if_neg (by omega), gV_sV, if_neg (by omega), gV_sV, if_neg (by omega), gV_sV, if_neg (by omega), gV_sV]
  by_cases e : b = gL σ 1
  · rw [if_pos ⟨rfl, e, rfl⟩, if_pos e]
  · rw [if_neg (fun z => e z.2.1), if_neg e, gV_sV, if_neg (by omega), gV_sV, if_neg (by omega), gV_sV, if_neg (by omega), gV_sV, if_neg (by omega)]
theorem BdF_111 {κ : St} {y : Int32} : gV (BdF σ κ m l t v z q y) 111 b 0 = if b = gL σ 1 then q else gV κ 111 b 0 := by
  unfold BdF
  rw [gV_sV, if_neg (by omega), gV_sV, if_neg (by omega), gV_sV, if_neg (by omega), gV_sV]
  by_cases e : b = gL σ 1
  · rw [if_pos ⟨rfl, e, rfl⟩, if_pos e]
  · rw [if_neg (fun z => e z.2.1), if_neg e, gV_sV, if_neg (by omega), gV_sV, if_neg (by omega), gV_sV, if_neg (by omega), gV_sV, if_neg (by omega), gV_sV, if_neg (by omega)]
theorem BdF_113 {κ : St} {y : Int32} : gV (BdF σ κ m l t v z q y) 113 b 0 = if b = gL σ 1 then y else gV κ 113 b 0 := by
  unfold BdF
  rw [gV_sV, if_neg (by omega), gV_sV, if_neg (by omega), gV_sV]
  by_cases e : b = gL σ 1
  · rw [if_pos ⟨rfl, e, rfl⟩, if_pos e]
  · rw [if_neg (fun z => e z.2.1), if_neg e, gV_sV, if_neg (by omega), gV_sV, if_neg (by omega), gV_sV, if_neg (by omega), gV_sV, if_neg (by omega), gV_sV, if_neg (by omega), gV_sV, if_neg (by omega)]
theorem BdF_114 {κ : St} {y : Int32} : gV (BdF σ κ m l t v z q y) 114 b 0 = if b = gL σ 1 then 100 else gV κ 114 b 0 := by
  unfold BdF
  rw [gV_sV, if_neg (by omega), gV_sV]
  by_cases e : b = gL σ 1
  · rw [if_pos ⟨rfl, e, rfl⟩, if_pos e]
  · rw [if_neg (fun z => e z.2.1), if_neg e, gV_sV, if_neg (by omega), gV_sV, if_neg (by omega), gV_sV, if_neg (by omega), gV_sV, if_neg (by omega), gV_sV, if_neg (by omega), gV_sV, if_neg (by omega), gV_sV, if_neg (by omega)]
set_option maxHeartbeats 2000000 in
theorem bc_0 {κ : St} {y : Int32} (W : WF A σ) (P : PI σ) (H : BdH σ κ p r v z q) (hv : ¬ (v < 1 ∨ 999 < v)) (h0 : p < gL σ 5) (hr1 : r ≤ gL σ 1) (hno : ∀ j, j < gL σ 1 → ¬ gV σ 1 1 j = v) (o1 : gV σ 5 0 p = m) (o2 : gV σ 5 1 p = l) (o3 : gV σ 5 2 p = t) (hy : y = nI r - 1) (hmd : r ≠ 0 → m = gV σ 108 (r - 1) 0 ∧ l = gV σ 109 (r - 1) 0) : P0 (BdF σ κ m l t v z q y) := by
  obtain ⟨hn, EL, EV, ER, EN, v8, ⟨l1, l20, l21⟩, a0, a1, a3, a4, a7, a8, a9, a10, a11, a12, a13, a14, a15, b2, b5, b6, h20, h21, h3, h4, L32⟩ := H
  exact P0_c (fun k hk => BdF_L.trans (EL k hk)) (fun k hk f i => BdF_R.trans (ER k hk f i)) (fun k hk i => BdF_N.trans (EN k hk i)) (by decide) (by decide) (by decide) P.1
set_option maxHeartbeats 2000000 in
theorem bc_1 {κ : St} {y : Int32} (W : WF A σ) (P : PI σ) (H : BdH σ κ p r v z q) (hv : ¬ (v < 1 ∨ 999 < v)) (h0 : p < gL σ 5) (hr1 : r ≤ gL σ 1) (hno : ∀ j, j < gL σ 1 → ¬ gV σ 1 1 j = v) (o1 : gV σ 5 0 p = m) (o2 : gV σ 5 1 p = l) (o3 : gV σ 5 2 p = t) (hy : y = nI r - 1) (hmd : r ≠ 0 → m = gV σ 108 (r - 1) 0 ∧ l = gV σ 109 (r - 1) 0) : P1 (BdF σ κ m l t v z q y) := by
  obtain ⟨hn, EL, EV, ER, EN, v8, ⟨l1, l20, l21⟩, a0, a1, a3, a4, a7, a8, a9, a10, a11, a12, a13, a14, a15, b2, b5, b6, h20, h21, h3, h4, L32⟩ := H
  have l1' : gL (BdF σ κ m l t v z q y) 1 = gL σ 1 + 1 := BdF_L.trans l1
  have l2 : gL (BdF σ κ m l t v z q y) 2 = gL σ 2 := BdF_L.trans (EL 2 (by decide))
  have l4 : gL (BdF σ κ m l t v z q y) 4 = gL σ 4 := BdF_L.trans (EL 4 (by decide))
  obtain ⟨q1, q2, q3, q4, q5, q6, q7, q8, q9, q10⟩ := P.2.1
  have w8 : ∀ f, f ≠ 36 ∧ f ≠ 21 → gV (BdF σ κ m l t v z q y) 8 f 0 = gV σ 8 f 0 := fun f hf => (BdF_8 hf.2).trans (v8 f hf.1)
  have v7 : ∀ f, gV (BdF σ κ m l t v z q y) 7 f 0 = gV σ 7 f 0 := fun f => (BdF_V (by decide)).trans (EV 7 (by decide) f 0)
  unfold P1
  rw [l1', l2, l4, BdF_821, w8 6 (by decide), w8 31 (by decide), w8 22 (by decide), w8 23 (by decide), w8 24 (by decide), w8 25 (by decide), w8 26 (by decide), w8 35 (by decide), v7, v7, v7, v7, v7, v7]
  exact ⟨⟨q1.1, rfl, q1.2.2⟩, q2, q3, q4, q5, q6, q7, q8, by omega, q10⟩
set_option maxHeartbeats 2000000 in
theorem bc_2 {κ : St} {y : Int32} (W : WF A σ) (P : PI σ) (H : BdH σ κ p r v z q) (hv : ¬ (v < 1 ∨ 999 < v)) (h0 : p < gL σ 5) (hr1 : r ≤ gL σ 1) (hno : ∀ j, j < gL σ 1 → ¬ gV σ 1 1 j = v) (o1 : gV σ 5 0 p = m) (o2 : gV σ 5 1 p = l) (o3 : gV σ 5 2 p = t) (hy : y = nI r - 1) (hmd : r ≠ 0 → m = gV σ 108 (r - 1) 0 ∧ l = gV σ 109 (r - 1) 0) : P2 (BdF σ κ m l t v z q y) := by
  obtain ⟨hn, EL, EV, ER, EN, v8, ⟨l1, l20, l21⟩, a0, a1, a3, a4, a7, a8, a9, a10, a11, a12, a13, a14, a15, b2, b5, b6, h20, h21, h3, h4, L32⟩ := H
  have w2 : ∀ f i, gV (BdF σ κ m l t v z q y) 2 f i = gV σ 2 f i := fun f i => (BdF_V (by decide)).trans (EV 2 (by decide) f i)
  have r2 : ∀ f i, gR (BdF σ κ m l t v z q y) 2 f i = gR σ 2 f i := fun f i => BdF_R.trans (ER 2 (by decide) f i)
  have w100 : ∀ f i, gV (BdF σ κ m l t v z q y) 100 f i = gV σ 100 f i := fun f i => (BdF_V (by decide)).trans (EV 100 (by decide) f i)
  have w101 : ∀ f i, gV (BdF σ κ m l t v z q y) 101 f i = gV σ 101 f i := fun f i => (BdF_V (by decide)).trans (EV 101 (by decide) f i)
  have w102 : ∀ f i, gV (BdF σ κ m l t v z q y) 102 f i = gV σ 102 f i := fun f i => (BdF_V (by decide)).trans (EV 102 (by decide) f i)
  have w103 : ∀ f i, gV (BdF σ κ m l t v z q y) 103 f i = gV σ 103 f i := fun f i => (BdF_V (by decide)).trans (EV 103 (by decide) f i)
  have w104 : ∀ f i, gV (BdF σ κ m l t v z q y) 104 f i = gV σ 104 f i := fun f i => (BdF_V (by decide)).trans (EV 104 (by decide) f i)
  have w205 : ∀ f i, gV (BdF σ κ m l t v z q y) 205 f i = gV σ 205 f i := fun f i => (BdF_V (by decide)).trans (EV 205 (by decide) f i)
  have l2 : gL (BdF σ κ m l t v z q y) 2 = gL σ 2 := BdF_L.trans (EL 2 (by decide))
  have l1' : gL (BdF σ κ m l t v z q y) 1 = gL σ 1 + 1 := BdF_L.trans l1
  have hR : ∀ d, d < gL σ 2 → gR σ 2 3 d ≤ gL σ 1 := fun d hd => W.2.2 2 3 d hd
  have hst0 : ∀ d, gV σ 205 (gL σ 1) d = 0 := fun d => P.2.2.1.2.2.2.1 d (gL σ 1) (Or.inr (Nat.le_refl _))
  have e107 : ∀ b, gV (BdF σ κ m l t v z q y) 107 b 0 = if b = gL σ 1 then v else gV σ 107 b 0 := fun b => by rw [BdF_107, EV 107 (by decide)]
  have e108 : ∀ b, gV (BdF σ κ m l t v z q y) 108 b 0 = if b = gL σ 1 then m else gV σ 108 b 0 := fun b => by rw [BdF_108, EV 108 (by decide)]
  have e109 : ∀ b, gV (BdF σ κ m l t v z q y) 109 b 0 = if b = gL σ 1 then l else gV σ 109 b 0 := fun b => by rw [BdF_109, EV 109 (by decide)]
  refine ⟨?_, ?_, ?_, ?_, ?_, ?_⟩
  · intro d hd
    rw [l2] at hd
    rw [w2, w2, w2, w2, w2, w100, w101, w102, w103, w104, r2, w205]
    exact P.2.2.1.1 d hd
  · intro d hd h9
    rw [l2] at hd
    rw [r2] at h9
    have := hR d hd
    rw [r2, w100, w101, e108, e109, if_neg (by omega), if_neg (by omega)]
    exact P.2.2.1.2.1 d hd h9
  · rw [l2]
    exact ⟨fun d hd => (w104 d 0).trans (P.2.2.1.2.2.1.1 d hd), fun d => by rw [w104]; exact P.2.2.1.2.2.1.2 d⟩
  · intro d b hdb
    rw [l2, l1'] at hdb
    rw [w205]
    exact P.2.2.1.2.2.2.1 d b (by omega)
  · intro d b hd hb h9
    rw [l2] at hd
    rw [l1'] at hb
    rw [w205] at h9
    by_cases e : b = gL σ 1
    · rw [e] at h9; exact absurd (hst0 d) h9
    · obtain ⟨y1, y2⟩ := P.2.2.1.2.2.2.2.1 d b hd (by omega) h9
      have := hR d hd
      rw [r2]
      refine ⟨y1, ?_⟩
      rw [e107, e107, if_neg e, if_neg (by omega)]
      exact y2
  · intro d b
    rw [w205]; exact P.2.2.1.2.2.2.2.2 d b
set_option maxHeartbeats 2000000 in
theorem bc_3 {κ : St} {y : Int32} (W : WF A σ) (P : PI σ) (H : BdH σ κ p r v z q) (hv : ¬ (v < 1 ∨ 999 < v)) (h0 : p < gL σ 5) (hr1 : r ≤ gL σ 1) (hno : ∀ j, j < gL σ 1 → ¬ gV σ 1 1 j = v) (o1 : gV σ 5 0 p = m) (o2 : gV σ 5 1 p = l) (o3 : gV σ 5 2 p = t) (hy : y = nI r - 1) (hmd : r ≠ 0 → m = gV σ 108 (r - 1) 0 ∧ l = gV σ 109 (r - 1) 0) : P3 (BdF σ κ m l t v z q y) := by
  obtain ⟨hn, EL, EV, ER, EN, v8, ⟨l1, l20, l21⟩, a0, a1, a3, a4, a7, a8, a9, a10, a11, a12, a13, a14, a15, b2, b5, b6, h20, h21, h3, h4, L32⟩ := H
  have e1_0 : ∀ b, gV (BdF σ κ m l t v z q y) 1 0 b = if b = gL σ 1 then nI (gL σ 1) else gV σ 1 0 b := fun b => (BdF_V (by decide)).trans (a0 b)
  have e1_1 : ∀ b, gV (BdF σ κ m l t v z q y) 1 1 b = if b = gL σ 1 then v else gV σ 1 1 b := fun b => (BdF_V (by decide)).trans (a1 b)
  have e1_3 : ∀ b, gV (BdF σ κ m l t v z q y) 1 3 b = if b = gL σ 1 then z else gV σ 1 3 b := fun b => (BdF_V (by decide)).trans (a3 b)
  have e1_4 : ∀ b, gV (BdF σ κ m l t v z q y) 1 4 b = if b = gL σ 1 then q else gV σ 1 4 b := fun b => (BdF_V (by decide)).trans (a4 b)
  have e1_7 : ∀ b, gV (BdF σ κ m l t v z q y) 1 7 b = if b = gL σ 1 then 100 else gV σ 1 7 b := fun b => (BdF_V (by decide)).trans (a7 b)
  have e1_8 : ∀ b, gV (BdF σ κ m l t v z q y) 1 8 b = if b = gL σ 1 then 0 else gV σ 1 8 b := fun b => (BdF_V (by decide)).trans (a8 b)
  have e1_9 : ∀ b, gV (BdF σ κ m l t v z q y) 1 9 b = if b = gL σ 1 then 0 else gV σ 1 9 b := fun b => (BdF_V (by decide)).trans (a9 b)
  have e1_10 : ∀ b, gV (BdF σ κ m l t v z q y) 1 10 b = if b = gL σ 1 then 0 else gV σ 1 10 b := fun b => (BdF_V (by decide)).trans (a10 b)
  have e1_11 : ∀ b, gV (BdF σ κ m l t v z q y) 1 11 b = if b = gL σ 1 then 0 else gV σ 1 11 b := fun b => (BdF_V (by decide)).trans (a11 b)
  have e1_12 : ∀ b, gV (BdF σ κ m l t v z q y) 1 12 b = if b = gL σ 1 then 0 else gV σ 1 12 b := fun b => (BdF_V (by decide)).trans (a12 b)
  have e1_13 : ∀ b, gV (BdF σ κ m l t v z q y) 1 13 b = if b = gL σ 1 then 0 else gV σ 1 13 b := fun b => (BdF_V (by decide)).trans (a13 b)
  have e1_14 : ∀ b, gV (BdF σ κ m l t v z q y) 1 14 b = if b = gL σ 1 then 0 else gV σ 1 14 b := fun b => (BdF_V (by decide)).trans (a14 b)
  have e1_15 : ∀ b, gV (BdF σ κ m l t v z q y) 1 15 b = if b = gL σ 1 then 0 else gV σ 1 15 b := fun b => (BdF_V (by decide)).trans (a15 b)
  have r1_2 : ∀ b, gR (BdF σ κ m l t v z q y) 1 2 b = if b = gL σ 1 then p + 1 else gR σ 1 2 b := fun b => BdF_R.trans (b2 b)
  have r1_5 : ∀ b, gR (BdF σ κ m l t v z q y) 1 5 b = if b = gL σ 1 then r else gR σ 1 5 b := fun b => BdF_R.trans (b5 b)
  have r1_6 : ∀ b, gR (BdF σ κ m l t v z q y) 1 6 b = if b = gL σ 1 then gL σ 20 + 1 else gR σ 1 6 b := fun b => BdF_R.trans (b6 b)
  have e107 : ∀ b, gV (BdF σ κ m l t v z q y) 107 b 0 = if b = gL σ 1 then v else gV σ 107 b 0 := fun b => by rw [BdF_107, EV 107 (by decide)]
  have e108 : ∀ b, gV (BdF σ κ m l t v z q y) 108 b 0 = if b = gL σ 1 then m else gV σ 108 b 0 := fun b => by rw [BdF_108, EV 108 (by decide)]
  have e109 : ∀ b, gV (BdF σ κ m l t v z q y) 109 b 0 = if b = gL σ 1 then l else gV σ 109 b 0 := fun b => by rw [BdF_109, EV 109 (by decide)]
  have e110 : ∀ b, gV (BdF σ κ m l t v z q y) 110 b 0 = if b = gL σ 1 then z else gV σ 110 b 0 := fun b => by rw [BdF_110, EV 110 (by decide)]
  have e111 : ∀ b, gV (BdF σ κ m l t v z q y) 111 b 0 = if b = gL σ 1 then q else gV σ 111 b 0 := fun b => by rw [BdF_111, EV 111 (by decide)]
  have e112 : ∀ b, gV (BdF σ κ m l t v z q y) 112 b 0 = if b = gL σ 1 then t else gV σ 112 b 0 := fun b => by rw [BdF_112, EV 112 (by decide)]
  have e113 : ∀ b, gV (BdF σ κ m l t v z q y) 113 b 0 = if b = gL σ 1 then y else gV σ 113 b 0 := fun b => by rw [BdF_113, EV 113 (by decide)]
  have e114 : ∀ b, gV (BdF σ κ m l t v z q y) 114 b 0 = if b = gL σ 1 then 100 else gV σ 114 b 0 := fun b => by rw [BdF_114, EV 114 (by decide)]
  have l1' : gL (BdF σ κ m l t v z q y) 1 = gL σ 1 + 1 := BdF_L.trans l1
  have l2 : gL (BdF σ κ m l t v z q y) 2 = gL σ 2 := BdF_L.trans (EL 2 (by decide))
  have w205 : ∀ f i, gV (BdF σ κ m l t v z q y) 205 f i = gV σ 205 f i := fun f i => (BdF_V (by decide)).trans (EV 205 (by decide) f i)
  have hst0 : ∀ d, gV σ 205 (gL σ 1) d = 0 := fun d => P.2.2.1.2.2.2.1 d (gL σ 1) (Or.inr (Nat.le_refl _))
  have hvv : ∀ j, j < gL σ 1 → ¬ gV σ 107 j 0 = v := fun j hj e => hno j hj ((P.2.2.2.1.1 j hj).2.1.trans e)
  obtain ⟨z1, z2, z3, z4, z5, z6⟩ := P.2.2.2.1.2.2.2.2.2.2.2 (gL σ 1) (Nat.le_refl _)
  have g1 := P.2.2.2.2.2.1.1.1
  have x1 : ∀ b, sm (fun d => if 0 < gV (BdF σ κ m l t v z q y) 205 b d then (1 : Int32) else 0) (gL σ 2) = sm (fun d => if 0 < gV σ 205 b d then (1 : Int32) else 0) (gL σ 2) := fun b => sm_cong (fun d _ => by rw [w205])
  have x2 : ∀ b, sm (fun d => gV (BdF σ κ m l t v z q y) 205 b d) (gL σ 2) = sm (fun d => gV σ 205 b d) (gL σ 2) := fun b => sm_cong (fun d _ => w205 b d)
  have w5 : ∀ f i, gV (BdF σ κ m l t v z q y) 5 f i = gV σ 5 f i := fun f i => (BdF_V (by decide)).trans (EV 5 (by decide) f i)
  have w115 : ∀ b, gV (BdF σ κ m l t v z q y) 115 b 0 = gV σ 115 b 0 := fun b => (BdF_V (by decide)).trans (EV 115 (by decide) b 0)
  have w116 : ∀ b, gV (BdF σ κ m l t v z q y) 116 b 0 = gV σ 116 b 0 := fun b => (BdF_V (by decide)).trans (EV 116 (by decide) b 0)
  have w117 : ∀ b, gV (BdF σ κ m l t v z q y) 117 b 0 = gV σ 117 b 0 := fun b => (BdF_V (by decide)).trans (EV 117 (by decide) b 0)
  have w118 : ∀ b, gV (BdF σ κ m l t v z q y) 118 b 0 = gV σ 118 b 0 := fun b => (BdF_V (by decide)).trans (EV 118 (by decide) b 0)
  have w119 : ∀ b, gV (BdF σ κ m l t v z q y) 119 b 0 = gV σ 119 b 0 := fun b => (BdF_V (by decide)).trans (EV 119 (by decide) b 0)
  have w120 : ∀ b, gV (BdF σ κ m l t v z q y) 120 b 0 = gV σ 120 b 0 := fun b => (BdF_V (by decide)).trans (EV 120 (by decide) b 0)
  refine ⟨?_, ?_, ?_, ?_, ?_, ?_, ⟨?_, ?_⟩, ?_⟩
  · intro b hb
    rw [l1'] at hb
    rw [e1_0, e1_1, e1_3, e1_4, e107, e110, e111, e113, r1_5, r1_6]
    by_cases e : b = gL σ 1
    · rw [if_pos e, if_pos e, if_pos e, if_pos e, if_pos e, if_pos e, if_pos e, if_pos e, if_pos e, if_pos e]
      exact ⟨by rw [e], rfl, rfl, rfl, hy, by omega, by omega⟩
    · rw [if_neg e, if_neg e, if_neg e, if_neg e, if_neg e, if_neg e, if_neg e, if_neg e, if_neg e, if_neg e]
      exact P.2.2.2.1.1 b (by omega)
  · intro b hb
    rw [l1'] at hb
    rw [r1_2, e108, e109, e112, w5, w5, w5]
    by_cases e : b = gL σ 1
    · rw [if_pos e, if_pos e, if_pos e, if_pos e, Nat.add_sub_cancel]
      exact ⟨by omega, o1, o2, o3⟩
    · rw [if_neg e, if_neg e, if_neg e, if_neg e]
      exact P.2.2.2.1.2.1 b (by omega)
  · intro b hb
    rw [l1'] at hb
    rw [e1_7, e1_8, e1_9, e1_10, e1_11, e1_12, e1_13, e114, w115, w116, w117, w118, w119, w120]
    by_cases e : b = gL σ 1
    · rw [if_pos e, if_pos e, if_pos e, if_pos e, if_pos e, if_pos e, if_pos e, if_pos e, e]
      exact ⟨rfl, Or.inl rfl, z2.symm, z1.symm, z3.symm, z4.symm, z5.symm, z6.symm⟩
    · rw [if_neg e, if_neg e, if_neg e, if_neg e, if_neg e, if_neg e, if_neg e, if_neg e]
      exact P.2.2.2.1.2.2.1 b (by omega)
  · intro b hb
    rw [l1'] at hb
    rw [e1_14, e1_15, l2, x1, x2]
    by_cases e : b = gL σ 1
    · rw [if_pos e, if_pos e, e]
      refine ⟨?_, ?_⟩
      · exact ((sm_cong (f := fun _ => 0) (fun d _ => by rw [hst0, if_neg (by decide)])).trans sm_z).symm
      · exact ((sm_cong (f := fun _ => 0) (fun d _ => hst0 d)).trans sm_z).symm
    · rw [if_neg e, if_neg e]
      exact P.2.2.2.1.2.2.2.1 b (by omega)
  · intro b hb h9
    rw [l1'] at hb
    rw [r1_5] at h9 ⊢
    by_cases e : b = gL σ 1
    · rw [if_pos e] at h9 ⊢
      rw [e108, e109, e108, e109, if_pos e, if_pos e, if_neg (by omega), if_neg (by omega)]
      exact hmd h9
    · rw [if_neg e] at h9 ⊢
      have h8 := (P.2.2.2.1.1 b (by omega)).2.2.2.2.2.1
      rw [e108, e109, e108, e109, if_neg e, if_neg e, if_neg (by omega), if_neg (by omega)]
      exact P.2.2.2.1.2.2.2.2.1 b (by omega) h9
  · intro b hb
    rw [l1'] at hb
    rw [w117, w118]
    by_cases e : b = gL σ 1
    · rw [e]
      exact ⟨⟨0, by omega, z3⟩, ⟨0, by omega, z4⟩⟩
    · exact P.2.2.2.1.2.2.2.2.2.1 b (by omega)
  · intro b b' hb hb2 h9
    rw [l1'] at hb hb2
    rw [e107, e107] at h9
    by_cases e : b = gL σ 1
    · by_cases e2 : b' = gL σ 1
      · omega
      · rw [if_pos e, if_neg e2] at h9
        exact absurd h9.symm (hvv b' (by omega))
    · by_cases e2 : b' = gL σ 1
      · rw [if_neg e, if_pos e2] at h9
        exact absurd h9 (hvv b (by omega))
      · rw [if_neg e, if_neg e2] at h9
        exact P.2.2.2.1.2.2.2.2.2.2.1.1 b b' (by omega) (by omega) h9
  · intro b hb
    rw [l1'] at hb
    rw [e107]
    by_cases e : b = gL σ 1
    · rw [if_pos e]
      obtain ⟨mm, h1, h2⟩ := q_rng (n := 999) hv (by decide) (by decide)
      refine ⟨mm, ?_, h1, h2⟩
      rcases Nat.eq_zero_or_pos mm with h3 | h3
      · exact absurd (Or.inl (by rw [h2, h3]; decide)) hv
      · exact h3
    · rw [if_neg e]
      exact P.2.2.2.1.2.2.2.2.2.2.1.2 b (by omega)
  · intro b hb
    rw [l1'] at hb
    rw [w115, w116, w117, w118, w119, w120]
    exact P.2.2.2.1.2.2.2.2.2.2.2 b (by omega)
set_option maxHeartbeats 2000000 in
theorem bc_4 {κ : St} {y : Int32} (W : WF A σ) (P : PI σ) (H : BdH σ κ p r v z q) (hv : ¬ (v < 1 ∨ 999 < v)) (h0 : p < gL σ 5) (hr1 : r ≤ gL σ 1) (hno : ∀ j, j < gL σ 1 → ¬ gV σ 1 1 j = v) (o1 : gV σ 5 0 p = m) (o2 : gV σ 5 1 p = l) (o3 : gV σ 5 2 p = t) (hy : y = nI r - 1) (hmd : r ≠ 0 → m = gV σ 108 (r - 1) 0 ∧ l = gV σ 109 (r - 1) 0) : P4 (BdF σ κ m l t v z q y) := by
  obtain ⟨hn, EL, EV, ER, EN, v8, ⟨l1, l20, l21⟩, a0, a1, a3, a4, a7, a8, a9, a10, a11, a12, a13, a14, a15, b2, b5, b6, h20, h21, h3, h4, L32⟩ := H
  exact P4_c (fun k hk => BdF_L.trans (EL k (by simp only [List.mem_cons, List.not_mem_nil, or_false]; omega))) (fun k hk f i => (BdF_V (by omega)).trans (EV k (by simp only [List.mem_cons, List.not_mem_nil, or_false]; omega) f i)) (fun k hk f i => BdF_R.trans (ER k (by simp only [List.mem_cons, List.not_mem_nil, or_false]; omega) f i)) (fun i => BdF_N.trans (EN 16 (by decide) i)) ((BdF_8 (by decide)).trans (v8 33 (by decide))) P.2.2.2.2.1
set_option maxHeartbeats 2000000 in
theorem bc_5 {κ : St} {y : Int32} (W : WF A σ) (P : PI σ) (H : BdH σ κ p r v z q) (hv : ¬ (v < 1 ∨ 999 < v)) (h0 : p < gL σ 5) (hr1 : r ≤ gL σ 1) (hno : ∀ j, j < gL σ 1 → ¬ gV σ 1 1 j = v) (o1 : gV σ 5 0 p = m) (o2 : gV σ 5 1 p = l) (o3 : gV σ 5 2 p = t) (hy : y = nI r - 1) (hmd : r ≠ 0 → m = gV σ 108 (r - 1) 0 ∧ l = gV σ 109 (r - 1) 0) : P5 (BdF σ κ m l t v z q y) := by
  obtain ⟨hn, EL, EV, ER, EN, v8, ⟨l1, l20, l21⟩, a0, a1, a3, a4, a7, a8, a9, a10, a11, a12, a13, a14, a15, b2, b5, b6, h20, h21, h3, h4, L32⟩ := H
  have l1' : gL (BdF σ κ m l t v z q y) 1 = gL σ 1 + 1 := BdF_L.trans l1
  have l2 : gL (BdF σ κ m l t v z q y) 2 = gL σ 2 := BdF_L.trans (EL 2 (by decide))
  have r20 : ∀ b, gR (BdF σ κ m l t v z q y) 20 0 b = if b = gL σ 20 then gL σ 21 + 1 else gR σ 20 0 b := fun b => BdF_R.trans (h20 b)
  have n21 : ∀ b, gN (BdF σ κ m l t v z q y) 21 b = if b = gL σ 21 then 101 else gN σ 21 b := fun b => BdF_N.trans (h21 b)
  have v20 : ∀ b, gV (BdF σ κ m l t v z q y) 20 1 b = if b = gL σ 20 then 0 else gV σ 20 1 b := fun b => (BdF_V (by decide)).trans (h3 b)
  have v21 : ∀ j b, gV (BdF σ κ m l t v z q y) 21 j b = if b = gL σ 21 then 0 else gV σ 21 j b := fun j b => (BdF_V (by decide)).trans (h4 j b)
  have hR : ∀ d, d < gL σ 2 → gR σ 2 3 d ≤ gL σ 1 := fun d hd => W.2.2 2 3 d hd
  have r2 : ∀ f i, gR (BdF σ κ m l t v z q y) 2 f i = gR σ 2 f i := fun f i => BdF_R.trans (ER 2 (by decide) f i)
  have w2 : ∀ f i, gV (BdF σ κ m l t v z q y) 2 f i = gV σ 2 f i := fun f i => (BdF_V (by decide)).trans (EV 2 (by decide) f i)
  obtain ⟨g1, g2, g3, g4, g5⟩ := P.2.2.2.2.2.1.1
  have l3 : gL (BdF σ κ m l t v z q y) 3 = gL σ 3 := BdF_L.trans (EL 3 (by decide))
  have w3 : ∀ f i, gV (BdF σ κ m l t v z q y) 3 f i = gV σ 3 f i := fun f i => (BdF_V (by decide)).trans (EV 3 (by decide) f i)
  have w23 : ∀ f i, gV (BdF σ κ m l t v z q y) 23 f i = gV σ 23 f i := fun f i => (BdF_V (by decide)).trans (EV 23 (by decide) f i)
  refine ⟨?_, ?_, ?_, ?_, ?_⟩
  · rw [l1', l2, l3, BdF_L, BdF_L, BdF_L, BdF_L, l20, l21, EL 22 (by decide), EL 23 (by decide)]
    exact ⟨by omega, by omega, g3, g4, g5⟩
  · intro b hb
    rw [l1'] at hb
    by_cases e : b = gL σ 1
    · refine ⟨?_, ?_, ?_, fun j hj => ?_⟩
      · rw [r20, if_pos (by omega)]; omega
      · rw [n21, if_pos (by omega)]
      · rw [v20, if_pos (by omega), l2]
        refine ((sm_cong (f := fun _ => 0) (fun d hd => ?_)).trans sm_z).symm
        have := hR d hd
        rw [r2, if_neg (by omega)]
      · rw [v21, if_pos (by omega), l2]
        refine ((sm_cong (f := fun _ => 0) (fun d hd => ?_)).trans sm_z).symm
        have := hR d hd
        rw [r2, if_neg (fun z => by omega)]
    · obtain ⟨k1, k2, k3, k4⟩ := P.2.2.2.2.2.1.2.1 b (by omega)
      refine ⟨?_, ?_, ?_, fun j hj => ?_⟩
      · rw [r20, if_neg (by omega)]; exact k1
      · rw [n21, if_neg (by omega)]; exact k2
      · rw [v20, if_neg (by omega), l2, k3]; exact sm_cong (fun d _ => by rw [r2])
      · rw [v21, if_neg (by omega), l2, k4 j hj]; exact sm_cong (fun d _ => by rw [r2, w2])
  · intro i hi
    rw [l3] at hi
    obtain ⟨y1, y2, y3, y4⟩ := P.2.2.2.2.2.1.2.2.1 i hi
    refine ⟨BdF_R.trans ((ER 3 (by decide) 2 i).trans y1), BdF_R.trans ((ER 22 (by decide) 0 i).trans y2), BdF_N.trans ((EN 23 (by decide) i).trans y3), fun j hj => ?_⟩
    rw [w23, y4 j hj, l2]
    exact sm_cong (fun d _ => by rw [w2, w2, w2, w3, w3])
  · simp only [w3, l3]
    exact P.2.2.2.2.2.1.2.2.2.1
  · simp only [w2, w3, l2, l3]
    exact P.2.2.2.2.2.1.2.2.2.2
set_option maxHeartbeats 2000000 in
theorem bc_6 {κ : St} {y : Int32} (W : WF A σ) (P : PI σ) (H : BdH σ κ p r v z q) (hv : ¬ (v < 1 ∨ 999 < v)) (h0 : p < gL σ 5) (hr1 : r ≤ gL σ 1) (hno : ∀ j, j < gL σ 1 → ¬ gV σ 1 1 j = v) (o1 : gV σ 5 0 p = m) (o2 : gV σ 5 1 p = l) (o3 : gV σ 5 2 p = t) (hy : y = nI r - 1) (hmd : r ≠ 0 → m = gV σ 108 (r - 1) 0 ∧ l = gV σ 109 (r - 1) 0) : P6 (BdF σ κ m l t v z q y) := by
  obtain ⟨hn, EL, EV, ER, EN, v8, ⟨l1, l20, l21⟩, a0, a1, a3, a4, a7, a8, a9, a10, a11, a12, a13, a14, a15, b2, b5, b6, h20, h21, h3, h4, L32⟩ := H
  exact P6_c (BdF_L.trans (EL 9 (by decide))) (BdF_L.trans (EL 50 (by decide))) (fun f i => (BdF_V (by decide)).trans (EV 9 (by decide) f i)) (fun f i => (BdF_V (by decide)).trans (EV 50 (by decide) f i)) (fun f i => BdF_R.trans (ER 9 (by decide) f i)) (BdF_R.trans (ER 8 (by decide) 34 0)) (fun i => BdF_N.trans (EN 50 (by decide) i)) P.2.2.2.2.2.2.1
set_option maxHeartbeats 2000000 in
theorem bc_7 {κ : St} {y : Int32} (W : WF A σ) (P : PI σ) (H : BdH σ κ p r v z q) (hv : ¬ (v < 1 ∨ 999 < v)) (h0 : p < gL σ 5) (hr1 : r ≤ gL σ 1) (hno : ∀ j, j < gL σ 1 → ¬ gV σ 1 1 j = v) (o1 : gV σ 5 0 p = m) (o2 : gV σ 5 1 p = l) (o3 : gV σ 5 2 p = t) (hy : y = nI r - 1) (hmd : r ≠ 0 → m = gV σ 108 (r - 1) 0 ∧ l = gV σ 109 (r - 1) 0) : P7 (BdF σ κ m l t v z q y) := by
  obtain ⟨hn, EL, EV, ER, EN, v8, ⟨l1, l20, l21⟩, a0, a1, a3, a4, a7, a8, a9, a10, a11, a12, a13, a14, a15, b2, b5, b6, h20, h21, h3, h4, L32⟩ := H
  have l1' : gL (BdF σ κ m l t v z q y) 1 = gL σ 1 + 1 := BdF_L.trans l1
  have l2 : gL (BdF σ κ m l t v z q y) 2 = gL σ 2 := BdF_L.trans (EL 2 (by decide))
  have l4 : gL (BdF σ κ m l t v z q y) 4 = gL σ 4 := BdF_L.trans (EL 4 (by decide))
  have l3 : gL (BdF σ κ m l t v z q y) 3 = gL σ 3 := BdF_L.trans (EL 3 (by decide))
  unfold P7
  rw [l1', l2, l3, l4]
  exact ⟨Lst_c (BdF_L.trans (EL 30 (by decide))) (BdF_L.trans (EL 40 (by decide))) (fun f i => (BdF_V (by decide)).trans (EV 30 (by decide) f i)) (fun f i => BdF_R.trans (ER 30 (by decide) f i)) (fun f i => BdF_R.trans (ER 40 (by decide) f i)) (fun i => BdF_N.trans (EN 40 (by decide) i)) P.2.2.2.2.2.2.2.1, Lst_c (BdF_L.trans (EL 31 (by decide))) (BdF_L.trans (EL 41 (by decide))) (fun f i => (BdF_V (by decide)).trans (EV 31 (by decide) f i)) (fun f i => BdF_R.trans (ER 31 (by decide) f i)) (fun f i => BdF_R.trans (ER 41 (by decide) f i)) (fun i => BdF_N.trans (EN 41 (by decide) i)) P.2.2.2.2.2.2.2.2.1, Lst_c BdF_L BdF_L (fun f i => BdF_V (by decide)) (fun f i => BdF_R) (fun f i => BdF_R) (fun i => BdF_N) L32, Lst_c (BdF_L.trans (EL 33 (by decide))) (BdF_L.trans (EL 43 (by decide))) (fun f i => (BdF_V (by decide)).trans (EV 33 (by decide) f i)) (fun f i => BdF_R.trans (ER 33 (by decide) f i)) (fun f i => BdF_R.trans (ER 43 (by decide) f i)) (fun i => BdF_N.trans (EN 43 (by decide) i)) P.2.2.2.2.2.2.2.2.2.2⟩
theorem pi_bd {κ : St} {y : Int32} (W : WF A σ) (P : PI σ) (H : BdH σ κ p r v z q) (hv : ¬ (v < 1 ∨ 999 < v)) (h0 : p < gL σ 5) (hr1 : r ≤ gL σ 1) (hno : ∀ j, j < gL σ 1 → ¬ gV σ 1 1 j = v) (o1 : gV σ 5 0 p = m) (o2 : gV σ 5 1 p = l) (o3 : gV σ 5 2 p = t) (hy : y = nI r - 1) (hmd : r ≠ 0 → m = gV σ 108 (r - 1) 0 ∧ l = gV σ 109 (r - 1) 0) : PI (BdF σ κ m l t v z q y) := ⟨bc_0 W P H hv h0 hr1 hno o1 o2 o3 hy hmd, bc_1 W P H hv h0 hr1 hno o1 o2 o3 hy hmd, bc_2 W P H hv h0 hr1 hno o1 o2 o3 hy hmd, bc_3 W P H hv h0 hr1 hno o1 o2 o3 hy hmd, bc_4 W P H hv h0 hr1 hno o1 o2 o3 hy hmd, bc_5 W P H hv h0 hr1 hno o1 o2 o3 hy hmd, bc_6 W P H hv h0 hr1 hno o1 o2 o3 hy hmd, bc_7 W P H hv h0 hr1 hno o1 o2 o3 hy hmd⟩
theorem bd_Pz (Q : P0 σ) : P0 (mx 32 (bd σ p r v z q) τ) := by
  refine P0_c (l := [1, 20, 21, 42]) (m := [1, 20, 21, 32, 42]) (n := [1, 20, 21, 42]) (fun k hk => ?_) (fun k hk f i => ?_) (fun k hk i => ?_) (by decide) (by decide) (by decide) Q
  · simp only [List.mem_cons, List.not_mem_nil, or_false, not_or] at hk
    rw [gL_mx, if_neg (by omega), bd_eL (by omega)]
  · simp only [List.mem_cons, List.not_mem_nil, or_false, not_or] at hk
    rw [gR_mx, if_neg (by omega), bd_eR (by omega)]
  · simp only [List.mem_cons, List.not_mem_nil, or_false, not_or] at hk
    rw [gN_mx, if_neg (by omega), bd_eN (by omega)]
theorem bd_kk {k f : Nat} (hk : k ≠ 1 ∧ k ≠ 20 ∧ k ≠ 21 ∧ k ≠ 32 ∧ k ≠ 42) : gV (mx 32 (bd σ p r v z q) τ) k f i = gV σ k f i := by
  rw [gV_mx, if_neg (by omega), bd_eV (by omega)]
theorem q_adr {post : Int32 → GM → Prop} (hx : hX X A) (W : WF A σ) (Q : P0 σ) (hL : Lst σ 32 (gL σ 1)) (hn : gL σ 1 < 10) (hv : ¬ (v < 1 ∨ 999 < v)) (hz : ¬ (z < 1 ∨ 500 < z)) (hq : ¬ (q < 0 ∨ 15 < q)) (h0 : p < gL σ 5) (hr1 : r ≤ gL σ 1) (hno : ∀ j, j < gL σ 1 → ¬ gV σ 1 1 j = v)
    (kk : ∀ (A' : Ad) (κ : St), WF A' κ → hX X A' → Nf A A' → P0 κ → (∀ x, BdH σ (sV (sJ κ x) 8 36 0 0) p r v z q) → (∀ k f i, k ≠ 1 ∧ k ≠ 20 ∧ k ≠ 21 ∧ k ≠ 32 ∧ k ≠ 42 → gV κ k f i = gV σ k f i) → post (nI (gL σ 1)) (hp A' κ)) : w_X7_addDraft X post px (some (A.1 7 0)) v (some (A.1 5 p)) z q (hr A 1 r) (hp A σ) := by
  have h7 : 0 < gL σ 7 := sL_7 Q
  have h8 : 0 < gL σ 8 := by rw [Q.1.2.1]; decide
  have h60 : 0 < gL σ 60 := by rw [Q.1.2.2.1]; decide
  have h61 : 0 < gL σ 61 := by rw [Q.1.2.2.2.1]; decide
  unfold w_X7_addDraft
  rw [q_out, if_neg hv]
  try dsimp only
  rw [if_pos rfl, q_out, if_neg hz]
  try dsimp only
  rw [if_pos rfl, q_out, if_neg hq]
  try dsimp only
  rw [if_pos rfl, e_Is' W (sL_7 Q) hcl_7]
  rw [q_hv0 W Q hL (by omega) hno]
  try dsimp only
  rw [if_pos rfl, s7_2 W Q, e_Is' W hL.1 hcl_32, l_size W (Or.inr (Or.inr (Or.inl rfl))) hL, if_pos (show nI (gL σ 1) < 10 from nI_lt (a := gL σ 1) (b := 10) (by omega) (by omega))]
  refine e_New 1 hx W rfl rfl (fun A1 W1 hx1 hN1 => ?_)
  have a7 : A.1 7 0 = A1.1 7 0 := (hN1.1 7 0 h7).symm
  have a5 : A.1 5 p = A1.1 5 p := (hN1.1 5 p h0).symm
  have ar : hr A 1 r = hr A1 1 r := (hr_Nx hN1 hr1).symm
  have Q1 : gR (sW σ 1 0) 7 2 0 = 1 := Q.2.1.2.2.1
  have hL1 : Lst (sW σ 1 0) 32 (gL σ 1) := hL
  rw [a7, a5, ar, e_GetR 32 W1 (show 0 < gL (sW σ 1 0) 7 from h7) hok_7_2 (by decide), Q1, hr_s, e_Is' W1 hL1.1 hcl_32, l_size W1 (Or.inr (Or.inr (Or.inl rfl))) hL1]
  refine q_x1i hx1 W1 h0 hr1 (fun A2 W2 hx2 hN2 => ?_)
  have h1a : gL σ 1 < gL (sW σ 1 0) 1 := show gL σ 1 < gL σ 1 + 1 by omega
  have h1b : gL σ 1 < gL (bd σ p r v z q) 1 := by rw [bd_L1]; exact Nat.lt_succ_self _
  have b7 : 0 < gL (bd σ p r v z q) 7 := by rw [bd_eL (by decide)]; exact h7
  have b8 : 0 < gL (bd σ p r v z q) 8 := by rw [bd_eL (by decide)]; exact h8
  have b60 : 0 < gL (bd σ p r v z q) 60 := by rw [bd_eL (by decide)]; exact h60
  have b61 : 0 < gL (bd σ p r v z q) 61 := by rw [bd_eL (by decide)]; exact h61
  have a7' : A1.1 7 0 = A2.1 7 0 := (hN2.1 7 0 h7).symm
  have a1 : A1.1 1 (gL σ 1) = A2.1 1 (gL σ 1) := (hN2.1 1 (gL σ 1) h1a).symm
  have Q2 : gR (bd σ p r v z q) 7 2 0 = 1 := by rw [bd_eR (by decide)]; exact Q.2.1.2.2.1
  have hL2 : Lst (bd σ p r v z q) 32 (gL σ 1) := Lst_c (bd_eL (by decide)) (bd_eL (by decide)) (fun f i => bd_eV (by decide)) (fun f i => bd_eR (by decide)) (fun f i => bd_eR (by decide)) (fun i => bd_eN (by decide)) hL
  rw [a7', a1, e_GetR 32 W2 b7 hok_7_2 (by decide), Q2, hr_s, e_Is' W2 hL2.1 hcl_32]
  refine l_add_32 (n := gL σ 1) hx2 W2 hL2 h1b (by omega) (fun A3 τ W3 hx3 hN3 hL3 => ?_)
  have a1' : A2.1 1 (gL σ 1) = A3.1 1 (gL σ 1) := (hN3.1 1 (gL σ 1) h1b).symm
  have hnum : gV (mx 32 (bd σ p r v z q) τ) 1 0 (gL σ 1) = nI (gL σ 1) := by rw [gV_mx, if_neg (by decide), bd_0, if_pos rfl]
  have h1c : gL σ 1 < gL (mx 32 (bd σ p r v z q) τ) 1 := by rw [gL_mx, if_neg (by decide)]; exact h1b
  rw [a1', e_GetI W3 h1c hok_1_0, hnum]
  refine kk A3 _ W3 hx3 ?_ (bd_Pz Q) (fun x => bd_H hn hL3) (fun k f i hk => bd_kk hk)
  have n1 : Nf A A1 := Nf.of hN1 Q
  have n2 : Nf A1 A2 := ⟨hN2.1 7 0 h7, hN2.1 8 0 h8, hN2.1 60 0 h60, hN2.1 61 0 h61⟩
  have n3 : Nf A2 A3 := ⟨hN3.1 7 0 b7, hN3.1 8 0 b8, hN3.1 60 0 b60, hN3.1 61 0 b61⟩
  exact (n1.tr n2).tr n3
theorem pi_of (W : WF A σ) (P : PI σ) : PI (ofS σ m l t) := by
  refine ⟨⟨P.1.1, P.1.2.1, fun f hf => ?_, P.1.2.2.2⟩, P.2.1, P.2.2.1, ⟨P.2.2.2.1.1, ?_, P.2.2.2.1.2.2⟩, P.2.2.2.2⟩
  · obtain ⟨y1, y2, y3⟩ := P.1.2.2.1 f hf
    exact ⟨(if_neg (show ¬ 100 + f = 5 by omega)).trans y1, y2, (if_neg (fun z => absurd z.1 (show ¬ 100 + f = 5 by omega))).trans y3⟩
  · intro b hb
    obtain ⟨o, hoo, hol, x1, x2, x3⟩ := q_offer W P hb
    have e0 : ∀ f, gV (ofS σ m l t) 5 f o = gV σ 5 f o := fun f => by
      unfold ofS
      have h1 : ¬ o = gL σ 5 := by omega
      simp [gV_sV, gV_sW, h1]
    rw [show gR (ofS σ m l t) 1 2 b = gR σ 1 2 b from rfl, hoo, Nat.add_sub_cancel, e0, e0, e0]
    exact ⟨by omega, x1, x2, x3⟩
theorem of_0 : gV (ofS σ m l t) 5 0 (gL σ 5) = m := by unfold ofS; simp [gV_sV, gV_sW]
theorem of_1 : gV (ofS σ m l t) 5 1 (gL σ 5) = l := by unfold ofS; simp [gV_sV, gV_sW]
theorem of_2 : gV (ofS σ m l t) 5 2 (gL σ 5) = t := by unfold ofS; simp [gV_sV, gV_sW]
end BN
