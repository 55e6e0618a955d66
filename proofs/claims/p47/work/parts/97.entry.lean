/-! the law's entry: a closed state, built step by step -/
def ZV (l : List Nat) (σ : St) : Prop := ∀ k, k ∉ l → ∀ f i, gV σ k f i = 0
section ZZ
variable {l : List Nat} {σ : St} {k f i r n : Nat} {x : Int32}
theorem ZV.sV (h : ZV l σ) (hk : k ∈ l) : ZV l (sV σ k f i x) := fun k' hk' f' i' => by
  rw [gV_sV, if_neg (fun z => ne_of hk' hk z.1)]; exact h k' hk' f' i'
theorem ZV.sR (h : ZV l σ) : ZV l (sR σ k f i r) := h
theorem ZV.sW (h : ZV l σ) : ZV l (sW σ k n) := fun k' hk' f' i' => by
  rw [gV_sW]
  by_cases e : k' = k ∧ i' = gL σ k
  · rw [if_pos e]
  · rw [if_neg e]; exact h k' hk' f' i'
end ZZ
section NN
variable {A : Ad} {σ σ' : St} {X : Cx} {k c f i n m : Nat}
theorem n_New {fs : List Value} {K : Nat → GM → Prop} (k n : Nat) (hx : hX X A) (W : WF A σ) (h : hok k c 0 (hT k 0) = true) (hfs : hz k = fs) (hn : gL σ k = n) (hs : sW σ k 0 = σ') (kk : ∀ A' : Ad, WF A' σ' → hX X A' → Nx A A' σ → K (A'.1 k n) (hp A' σ')) : wNew X (hp A σ) (.inr (c, fs)) K := by
  subst hn hs; exact e_New k hx W h hfs kk
theorem n_NewA {a : Nat} {K : Nat → GM → Prop} (k n : Nat) (hx : hX X A) (W : WF A σ) (h : hak k a = true) (h4 : a < 4) (hn : gL σ k = n) (hs : sW σ k m = σ') (kk : ∀ A' : Ad, WF A' σ' → hX X A' → Nx A A' σ → K (A'.1 k n) (hp A' σ')) : wNew X (hp A σ) (.inl (a, m, .inl (fun _ => 0))) K := by
  subst hn hs; exact e_NewA k hx W h h4 kk
theorem n_PutI {K : GM → Prop} {x : Int32} (σ' : St) (hs : sV σ k f i x = σ') (W : WF A σ) (hi : i < gL σ k) (h : hok k c f 0 = true) : wPut (hp A σ) (some (A.1 k i)) c f (.int x) K = K (hp A σ') := by
  subst hs; exact e_PutI W hi h
theorem n_PutF {K : GM → Prop} {x : UInt32} (σ' : St) (hs : sV σ k f i x.toInt32 = σ') (W : WF A σ) (hi : i < gL σ k) (h : hok k c f 1 = true) : wPut (hp A σ) (some (A.1 k i)) c f (.float x) K = K (hp A σ') := by
  subst hs; exact e_PutF W hi h
theorem n_PutR {K : GM → Prop} {t j : Nat} (σ' : St) (hs : sR σ k f i (j + 1) = σ') (W : WF A σ) (hi : i < gL σ k) (h : hok k c f (t + 2) = true) (ht : t < 998) : wPut (hp A σ) (some (A.1 k i)) c f (va_rf (some (A.1 t j))) K = K (hp A σ') := by
  subst hs; exact e_PutR W hi h ht
theorem n_PutE {K : GM → Prop} (t : Nat) (hx : hX X A) (σ' : St) (hs : sR σ k f i 1 = σ') (W : WF A σ) (hi : i < gL σ k) (h : hok k c f (t + 1000) = true) : wPut (hp A σ) (some (A.1 k i)) c f (va_rf (some (X.2.2.2 200))) K = K (hp A σ') := by
  subst hs; rw [← hx.2.1]; exact e_PutE t W hi h
theorem n_WV {x : Int32} (hs : sV σ k f i x = σ') (W : WF A σ) : WF A σ' := by
  subst hs; rw [WF_sV]; exact W
theorem n_WR {r : Nat} (hs : sR σ k f i r = σ') (W : WF A σ) (h : r ≤ gL σ (hG k f) + hS k f) : WF A σ' := by
  subst hs; exact WF_sR W h
end NN
def en_L (k : Nat) : Nat := if k = 8 ∨ k = 60 ∨ k = 61 then 1 else if k = 205 then 12 else if k = 227 then 30 else if 100 ≤ k ∧ marr (k - 100) = true then 1 else 0
def en_V (k f : Nat) : Int32 := if k = 8 then (if f = 23 then 200 else if f = 25 ∨ f = 26 then (1056964608 : UInt32).toInt32 else 0) else 0
def en_R (k f : Nat) : Nat := if k = 8 then (if marr f = true then 1 else 0) else if k = 105 then (if f < 12 then f + 1 else 0) else if k = 127 then (if f < 30 then f + 1 else 0) else 0
def en_N (k : Nat) : Nat := if k = 60 ∨ k = 61 then 1 else if k = 205 then 10 else if k = 227 then 6 else if 100 ≤ k then mlen (k - 100) else 0
def en_0 : St := (en_L, fun k f _ => en_V k f, fun k f _ => en_R k f, fun k _ => en_N k, fun _ => 0, fun _ => 0)
theorem en_rk {k : Nat} (h : rk k = true) : gL en_0 k = 0 := by
  unfold rk at h
  simp only [Bool.and_eq_true, decide_eq_true_eq] at h
  show en_L k = 0
  unfold en_L
  rw [if_neg (by omega), if_neg (by omega), if_neg (by omega), if_neg (by omega)]
theorem eg_8 : ∀ f : Fin 33, marr f.val = true → 1 ≤ en_L (hG 8 f.val) + hS 8 f.val := by decide +kernel
theorem en_m {f : Nat} (h : marr f = true) : f < 33 := by
  unfold marr at h
  simp only [Bool.or_eq_true, Bool.and_eq_true, decide_eq_true_eq] at h
  omega
theorem en_wf (k f : Nat) : en_R k f ≤ en_L (hG k f) + hS k f := by
  unfold en_R
  by_cases h : k = 8
  · subst h
    rw [if_pos rfl]
    by_cases m : marr f = true
    · rw [if_pos m]; exact eg_8 ⟨f, en_m m⟩ m
    · rw [if_neg m]; exact Nat.zero_le _
  · rw [if_neg h]
    by_cases h5 : k = 105
    · subst h5
      rw [if_pos rfl]
      show (if f < 12 then f + 1 else 0) ≤ 12 + 0
      split <;> omega
    · rw [if_neg h5]
      by_cases h7 : k = 127
      · subst h7
        rw [if_pos rfl]
        show (if f < 30 then f + 1 else 0) ≤ 30 + 0
        split <;> omega
      · rw [if_neg h7]; exact Nat.zero_le _
def en_1 : St := sW en_0 7 0
def en_2 : St := sW en_1 30 0
def en_3 : St := sV en_2 30 0 0 (0)
def en_4 : St := sR en_3 30 1 0 1
def en_5 : St := sR en_4 7 0 0 1
def en_6 : St := sW en_5 31 0
def en_7 : St := sV en_6 31 0 0 (0)
def en_8 : St := sR en_7 31 1 0 1
def en_9 : St := sR en_8 7 1 0 1
def en_10 : St := sW en_9 32 0
def en_11 : St := sV en_10 32 0 0 (0)
def en_12 : St := sR en_11 32 1 0 1
def en_13 : St := sR en_12 7 2 0 1
def en_14 : St := sW en_13 33 0
def en_15 : St := sV en_14 33 0 0 (0)
def en_16 : St := sR en_15 33 1 0 1
def en_17 : St := sR en_16 7 3 0 1
def en_18 : St := sW en_17 6 0
def en_19 : St := sW en_18 16 6
def en_20 : St := sR en_19 6 0 0 1
def en_21 : St := sV en_20 6 1 0 (0)
def en_22 : St := sR en_21 7 4 0 1
def en_23 : St := sW en_22 6 0
def en_24 : St := sW en_23 16 6
def en_25 : St := sR en_24 6 0 1 2
def en_26 : St := sV en_25 6 1 1 (0)
def en_27 : St := sR en_26 7 5 0 2
def en_28 : St := sW en_27 9 0
def en_29 : St := sW en_28 50 16
def en_30 : St := sR en_29 9 0 0 1
def en_31 : St := sV en_30 9 1 0 (0)
def en_32 : St := sR en_31 7 6 0 1
def en_33 : St := sV en_32 7 7 0 (200)
def en_34 : St := sV en_33 7 8 0 (0)
def en_35 : St := sV en_34 7 9 0 (0)
def en_36 : St := sV en_35 7 10 0 (1056964608 : UInt32).toInt32
def en_37 : St := sV en_36 7 11 0 (1056964608 : UInt32).toInt32
def en_38 : St := sV en_37 7 12 0 (0)
theorem en_z0 : ZV [6, 7, 8, 9, 30, 31, 32, 33] en_0 := fun k hk f i => by
  show en_V k f = 0
  unfold en_V
  rw [if_neg (fun z => hk (by rw [z]; decide))]
theorem en_z1 : ZV [6, 7, 8, 9, 30, 31, 32, 33] en_1 := ZV.sW (en_z0)
theorem en_z2 : ZV [6, 7, 8, 9, 30, 31, 32, 33] en_2 := ZV.sW (en_z1)
theorem en_z3 : ZV [6, 7, 8, 9, 30, 31, 32, 33] en_3 := ZV.sV (en_z2) (by decide)
theorem en_z4 : ZV [6, 7, 8, 9, 30, 31, 32, 33] en_4 := ZV.sR (en_z3)
theorem en_z5 : ZV [6, 7, 8, 9, 30, 31, 32, 33] en_5 := ZV.sR (en_z4)
theorem en_z6 : ZV [6, 7, 8, 9, 30, 31, 32, 33] en_6 := ZV.sW (en_z5)
theorem en_z7 : ZV [6, 7, 8, 9, 30, 31, 32, 33] en_7 := ZV.sV (en_z6) (by decide)
theorem en_z8 : ZV [6, 7, 8, 9, 30, 31, 32, 33] en_8 := ZV.sR (en_z7)
theorem en_z9 : ZV [6, 7, 8, 9, 30, 31, 32, 33] en_9 := ZV.sR (en_z8)
theorem en_z10 : ZV [6, 7, 8, 9, 30, 31, 32, 33] en_10 := ZV.sW (en_z9)
theorem en_z11 : ZV [6, 7, 8, 9, 30, 31, 32, 33] en_11 := ZV.sV (en_z10) (by decide)
theorem en_z12 : ZV [6, 7, 8, 9, 30, 31, 32, 33] en_12 := ZV.sR (en_z11)
theorem en_z13 : ZV [6, 7, 8, 9, 30, 31, 32, 33] en_13 := ZV.sR (en_z12)
theorem en_z14 : ZV [6, 7, 8, 9, 30, 31, 32, 33] en_14 := ZV.sW (en_z13)
theorem en_z15 : ZV [6, 7, 8, 9, 30, 31, 32, 33] en_15 := ZV.sV (en_z14) (by decide)
theorem en_z16 : ZV [6, 7, 8, 9, 30, 31, 32, 33] en_16 := ZV.sR (en_z15)
theorem en_z17 : ZV [6, 7, 8, 9, 30, 31, 32, 33] en_17 := ZV.sR (en_z16)
theorem en_z18 : ZV [6, 7, 8, 9, 30, 31, 32, 33] en_18 := ZV.sW (en_z17)
theorem en_z19 : ZV [6, 7, 8, 9, 30, 31, 32, 33] en_19 := ZV.sW (en_z18)
theorem en_z20 : ZV [6, 7, 8, 9, 30, 31, 32, 33] en_20 := ZV.sR (en_z19)
theorem en_z21 : ZV [6, 7, 8, 9, 30, 31, 32, 33] en_21 := ZV.sV (en_z20) (by decide)
theorem en_z22 : ZV [6, 7, 8, 9, 30, 31, 32, 33] en_22 := ZV.sR (en_z21)
theorem en_z23 : ZV [6, 7, 8, 9, 30, 31, 32, 33] en_23 := ZV.sW (en_z22)
theorem en_z24 : ZV [6, 7, 8, 9, 30, 31, 32, 33] en_24 := ZV.sW (en_z23)
theorem en_z25 : ZV [6, 7, 8, 9, 30, 31, 32, 33] en_25 := ZV.sR (en_z24)
theorem en_z26 : ZV [6, 7, 8, 9, 30, 31, 32, 33] en_26 := ZV.sV (en_z25) (by decide)
theorem en_z27 : ZV [6, 7, 8, 9, 30, 31, 32, 33] en_27 := ZV.sR (en_z26)
theorem en_z28 : ZV [6, 7, 8, 9, 30, 31, 32, 33] en_28 := ZV.sW (en_z27)
theorem en_z29 : ZV [6, 7, 8, 9, 30, 31, 32, 33] en_29 := ZV.sW (en_z28)
theorem en_z30 : ZV [6, 7, 8, 9, 30, 31, 32, 33] en_30 := ZV.sR (en_z29)
theorem en_z31 : ZV [6, 7, 8, 9, 30, 31, 32, 33] en_31 := ZV.sV (en_z30) (by decide)
theorem en_z32 : ZV [6, 7, 8, 9, 30, 31, 32, 33] en_32 := ZV.sR (en_z31)
theorem en_z33 : ZV [6, 7, 8, 9, 30, 31, 32, 33] en_33 := ZV.sV (en_z32) (by decide)
theorem en_z34 : ZV [6, 7, 8, 9, 30, 31, 32, 33] en_34 := ZV.sV (en_z33) (by decide)
theorem en_z35 : ZV [6, 7, 8, 9, 30, 31, 32, 33] en_35 := ZV.sV (en_z34) (by decide)
theorem en_z36 : ZV [6, 7, 8, 9, 30, 31, 32, 33] en_36 := ZV.sV (en_z35) (by decide)
theorem en_z37 : ZV [6, 7, 8, 9, 30, 31, 32, 33] en_37 := ZV.sV (en_z36) (by decide)
theorem en_z38 : ZV [6, 7, 8, 9, 30, 31, 32, 33] en_38 := ZV.sV (en_z37) (by decide)
theorem ep_33 : ∀ f : Fin 33, marr f.val = true → gL en_38 (100 + f.val) = 1 ∧ gR en_38 8 f.val 0 = 1 ∧ gN en_38 (100 + f.val) 0 = mlen f.val := by decide +kernel
theorem ep_l2 : gL en_38 2 = 0 := by decide +kernel
theorem ep_l1 : gL en_38 1 = 0 := by decide +kernel
theorem ep_l4 : gL en_38 4 = 0 := by decide +kernel
theorem ep_l3 : gL en_38 3 = 0 := by decide +kernel
theorem ep_P0 : P0 en_38 := by
  refine ⟨by decide +kernel, by decide +kernel, fun f hf => ?_, by decide +kernel, by decide +kernel⟩
  have h33 : f < 33 := by
    unfold marr at hf
    simp only [Bool.or_eq_true, Bool.and_eq_true, decide_eq_true_eq] at hf
    omega
  exact ep_33 ⟨f, h33⟩ hf
theorem ep_th : gV en_38 7 10 0 = (thB 500).toInt32 := by decide +kernel
theorem ep_P1 : P1 en_38 := by
  unfold P1
  rw [ep_l2, ep_l1, ep_l4]
  exact ⟨by decide +kernel, by decide +kernel, by decide +kernel, by decide +kernel, ⟨by decide +kernel, 500, by decide, ep_th⟩, ⟨by decide +kernel, 500, by decide, by decide +kernel⟩, by decide +kernel, by decide, by decide, by decide⟩
theorem ep_P2 : P2 en_38 := by
  have z := en_z38
  unfold P2
  rw [ep_l2, ep_l1]
  refine ⟨fun d hd => absurd hd (Nat.not_lt_zero _), fun d hd => absurd hd (Nat.not_lt_zero _), ⟨fun d _ => z 104 (by decide) d 0, fun d => ⟨0, by decide, z 104 (by decide) d 0⟩⟩, fun d b _ => z 205 (by decide) b d, fun d b hd => absurd hd (Nat.not_lt_zero _), fun d b => ⟨0, by decide, z 205 (by decide) b d⟩⟩
theorem ep_P3 : P3 en_38 := by
  have z := en_z38
  unfold P3
  rw [ep_l2, ep_l1]
  refine ⟨fun d hd => absurd hd (Nat.not_lt_zero _), fun d hd => absurd hd (Nat.not_lt_zero _), fun d hd => absurd hd (Nat.not_lt_zero _), fun d hd => absurd hd (Nat.not_lt_zero _), fun d hd => absurd hd (Nat.not_lt_zero _), fun d hd => absurd hd (Nat.not_lt_zero _), ⟨fun d b hd => absurd hd (Nat.not_lt_zero _), fun d hd => absurd hd (Nat.not_lt_zero _)⟩, fun b _ => ⟨z 115 (by decide) b 0, z 116 (by decide) b 0, z 117 (by decide) b 0, z 118 (by decide) b 0, z 119 (by decide) b 0, z 120 (by decide) b 0⟩⟩
theorem ep_P4 : P4 en_38 := by
  have z := en_z38
  unfold P4
  rw [ep_l4]
  refine ⟨by decide +kernel, fun d hd => absurd hd (Nat.not_lt_zero _), fun d hd => absurd hd (Nat.not_lt_zero _), ⟨0, by decide, by decide +kernel, by decide +kernel, fun j hj => absurd hj (Nat.not_lt_zero _)⟩, fun g _ => ⟨z 129 (by decide) g 0, z 130 (by decide) g 0⟩⟩
theorem ep_P5 : P5 en_38 := by
  unfold P5
  rw [ep_l2, ep_l1, ep_l3]
  refine ⟨by decide +kernel, fun d hd => absurd hd (Nat.not_lt_zero _), fun d hd => absurd hd (Nat.not_lt_zero _), fun d b hd => absurd hd (Nat.not_lt_zero _), fun d hd => absurd hd (Nat.not_lt_zero _)⟩
theorem ep_P6 : P6 en_38 := ⟨0, 0, by decide +kernel, by decide +kernel, by decide +kernel, by decide +kernel, by decide +kernel, Nat.zero_le _, by decide +kernel, by decide +kernel, by decide, fun j w => (congrArg (fun x => fits .byte (.int x)) (en_z38 50 (by decide) j w)).trans (by decide)⟩
theorem ep_P7 : P7 en_38 := by
  unfold P7
  rw [ep_l2, ep_l1, ep_l3, ep_l4]
  exact ⟨⟨by decide +kernel, by decide +kernel, fun i hi => absurd hi (Nat.not_lt_zero _), Or.inl (by decide +kernel)⟩, ⟨by decide +kernel, by decide +kernel, fun i hi => absurd hi (Nat.not_lt_zero _), Or.inl (by decide +kernel)⟩, ⟨by decide +kernel, by decide +kernel, fun i hi => absurd hi (Nat.not_lt_zero _), Or.inl (by decide +kernel)⟩, ⟨by decide +kernel, by decide +kernel, fun i hi => absurd hi (Nat.not_lt_zero _), Or.inl (by decide +kernel)⟩⟩
theorem ep_PI : PI en_38 := ⟨ep_P0, ep_P1, ep_P2, ep_P3, ep_P4, ep_P5, ep_P6, ep_P7⟩
theorem ep_RN : RN 0 en_38 := by
  unfold RN
  rw [ep_l1, ep_l4]
  exact ⟨fun b hb => absurd hb (Nat.not_lt_zero _), fun b hb => absurd hb (Nat.not_lt_zero _), fun b hb => absurd hb (Nat.not_lt_zero _), by decide +kernel, by decide +kernel, 0, by decide, by decide +kernel⟩
set_option maxHeartbeats 8000000 in
theorem p_entry (X : Cx) {px : String → GM → Prop} {K : Option Nat → GM → Prop} (h0 : X.2.2.2 200 < X.2.2.1 ∧ ∀ j : Nat, j < gLen.length → X.2.2.2 (100 + j) < X.2.2.1) (kk : ∀ (A : Ad) (σ : St), WF A σ → hX X A → PI σ → RN 0 σ → K (some (A.1 7 0)) (hp A σ)) : wNew X (fun _ => none) (.inr (7, [.null, .null, .null, .null, .null, .null, .null, .int 0, .int 0, .int 0, .float 0, .float 0, .int 0])) (fun q1 g2 => w_X7_init X (fun (g3 : GM) => K (some q1) g3) px (some q1) g2) := by
  have hA : ∃ A0 : Ad, WF A0 en_0 ∧ hX X A0 ∧ (fun _ => none : GM) = hp A0 en_0 := ⟨(fun _ _ => 0, fun _ => none, fun _ => none, X.2.2.1, X.2.2.2 200), ⟨fun k i hk hi => absurd (show i < 0 by rw [← en_rk hk]; exact hi) (Nat.not_lt_zero _), fun q k i (h : (none : Option (Nat × Nat)) = some (k, i)) => (by cases h), fun k f i _ => en_wf k f⟩, ⟨rfl, rfl, h0.1, h0.2⟩, rfl⟩
  obtain ⟨A0, W0, hx0, hA0⟩ := hA
  rw [hA0]
  refine n_New (σ' := en_1) 7 0 hx0 W0 rfl rfl (by decide +kernel) rfl (fun A1 W1 hx1 hN1 => ?_)
  try unfold w_X7_init
  refine ⟨_, rfl, ?_⟩
  refine n_New (σ' := en_2) 30 0 hx1 W1 rfl rfl (by decide +kernel) rfl (fun A2 W2 hx2 hN2 => ?_)
  have a2_7_0 : A1.1 7 0 = A2.1 7 0 := (hN2.1 7 0 (by decide +kernel)).symm
  rw [a2_7_0]
  try unfold w_Jx4a65c_init_da8c8
  refine ⟨_, rfl, ?_⟩
  try unfold w_Jxc12de_init_da8c8
  refine ⟨_, rfl, ?_⟩
  try unfold w_Jxa1e45_init_da8c8
  refine ⟨_, rfl, ?_⟩
  try dsimp only
  rw [n_PutI (A := A2) (k := 30) (f := 0) (i := 0) (x := 0) en_3 rfl W2 (by decide +kernel) rfl]
  have W3 : WF A2 en_3 := n_WV (k := 30) (f := 0) (i := 0) (x := 0) rfl W2
  try dsimp only
  rw [n_PutE (A := A2) (k := 30) (f := 1) (i := 0) 40 hx2 en_4 rfl W3 (by decide +kernel) rfl]
  have W4 : WF A2 en_4 := n_WR (k := 30) (f := 1) (i := 0) (r := 1) rfl W3 (by decide +kernel)
  try dsimp only
  rw [n_PutR (A := A2) (k := 7) (f := 0) (i := 0) (t := 30) (j := 0) en_5 rfl W4 (by decide +kernel) rfl (by decide)]
  have W5 : WF A2 en_5 := n_WR (k := 7) (f := 0) (i := 0) (r := 1) rfl W4 (by decide +kernel)
  refine n_New (σ' := en_6) 31 0 hx2 W5 rfl rfl (by decide +kernel) rfl (fun A3 W6 hx3 hN3 => ?_)
  have a3_7_0 : A2.1 7 0 = A3.1 7 0 := (hN3.1 7 0 (by decide +kernel)).symm
  rw [a3_7_0]
  try unfold w_Jx4a65c_init_da8c8
  refine ⟨_, rfl, ?_⟩
  try unfold w_Jxc12de_init_da8c8
  refine ⟨_, rfl, ?_⟩
  try unfold w_Jxa1e45_init_da8c8
  refine ⟨_, rfl, ?_⟩
  try dsimp only
  rw [n_PutI (A := A3) (k := 31) (f := 0) (i := 0) (x := 0) en_7 rfl W6 (by decide +kernel) rfl]
  have W7 : WF A3 en_7 := n_WV (k := 31) (f := 0) (i := 0) (x := 0) rfl W6
  try dsimp only
  rw [n_PutE (A := A3) (k := 31) (f := 1) (i := 0) 41 hx3 en_8 rfl W7 (by decide +kernel) rfl]
  have W8 : WF A3 en_8 := n_WR (k := 31) (f := 1) (i := 0) (r := 1) rfl W7 (by decide +kernel)
  try dsimp only
  rw [n_PutR (A := A3) (k := 7) (f := 1) (i := 0) (t := 31) (j := 0) en_9 rfl W8 (by decide +kernel) rfl (by decide)]
  have W9 : WF A3 en_9 := n_WR (k := 7) (f := 1) (i := 0) (r := 1) rfl W8 (by decide +kernel)
  refine n_New (σ' := en_10) 32 0 hx3 W9 rfl rfl (by decide +kernel) rfl (fun A4 W10 hx4 hN4 => ?_)
  have a4_7_0 : A3.1 7 0 = A4.1 7 0 := (hN4.1 7 0 (by decide +kernel)).symm
  rw [a4_7_0]
  try unfold w_Jx4a65c_init_da8c8
  refine ⟨_, rfl, ?_⟩
  try unfold w_Jxc12de_init_da8c8
  refine ⟨_, rfl, ?_⟩
  try unfold w_Jxa1e45_init_da8c8
  refine ⟨_, rfl, ?_⟩
  try dsimp only
  rw [n_PutI (A := A4) (k := 32) (f := 0) (i := 0) (x := 0) en_11 rfl W10 (by decide +kernel) rfl]
  have W11 : WF A4 en_11 := n_WV (k := 32) (f := 0) (i := 0) (x := 0) rfl W10
  try dsimp only
  rw [n_PutE (A := A4) (k := 32) (f := 1) (i := 0) 42 hx4 en_12 rfl W11 (by decide +kernel) rfl]
  have W12 : WF A4 en_12 := n_WR (k := 32) (f := 1) (i := 0) (r := 1) rfl W11 (by decide +kernel)
  try dsimp only
  rw [n_PutR (A := A4) (k := 7) (f := 2) (i := 0) (t := 32) (j := 0) en_13 rfl W12 (by decide +kernel) rfl (by decide)]
  have W13 : WF A4 en_13 := n_WR (k := 7) (f := 2) (i := 0) (r := 1) rfl W12 (by decide +kernel)
  refine n_New (σ' := en_14) 33 0 hx4 W13 rfl rfl (by decide +kernel) rfl (fun A5 W14 hx5 hN5 => ?_)
  have a5_7_0 : A4.1 7 0 = A5.1 7 0 := (hN5.1 7 0 (by decide +kernel)).symm
  rw [a5_7_0]
  try unfold w_Jx4a65c_init_da8c8
  refine ⟨_, rfl, ?_⟩
  try unfold w_Jxc12de_init_da8c8
  refine ⟨_, rfl, ?_⟩
  try unfold w_Jxa1e45_init_da8c8
  refine ⟨_, rfl, ?_⟩
  try dsimp only
  rw [n_PutI (A := A5) (k := 33) (f := 0) (i := 0) (x := 0) en_15 rfl W14 (by decide +kernel) rfl]
  have W15 : WF A5 en_15 := n_WV (k := 33) (f := 0) (i := 0) (x := 0) rfl W14
  try dsimp only
  rw [n_PutE (A := A5) (k := 33) (f := 1) (i := 0) 43 hx5 en_16 rfl W15 (by decide +kernel) rfl]
  have W16 : WF A5 en_16 := n_WR (k := 33) (f := 1) (i := 0) (r := 1) rfl W15 (by decide +kernel)
  try dsimp only
  rw [n_PutR (A := A5) (k := 7) (f := 3) (i := 0) (t := 33) (j := 0) en_17 rfl W16 (by decide +kernel) rfl (by decide)]
  have W17 : WF A5 en_17 := n_WR (k := 7) (f := 3) (i := 0) (r := 1) rfl W16 (by decide +kernel)
  refine n_New (σ' := en_18) 6 0 hx5 W17 rfl rfl (by decide +kernel) rfl (fun A6 W18 hx6 hN6 => ?_)
  have a6_7_0 : A5.1 7 0 = A6.1 7 0 := (hN6.1 7 0 (by decide +kernel)).symm
  rw [a6_7_0]
  try unfold w_X6_init
  refine ⟨_, rfl, by decide, by decide, ?_⟩
  try rw [show ((6 : Int32)).toNatClampNeg = 6 from rfl]
  refine n_NewA (σ' := en_19) 16 0 hx6 W18 rfl (by decide) (by decide +kernel) rfl (fun A7 W19 hx7 hN7 => ?_)
  have a7_7_0 : A6.1 7 0 = A7.1 7 0 := (hN7.1 7 0 (by decide +kernel)).symm
  have a7_6_0 : A6.1 6 0 = A7.1 6 0 := (hN7.1 6 0 (by decide +kernel)).symm
  rw [a7_7_0, a7_6_0]
  try dsimp only
  rw [n_PutR (A := A7) (k := 6) (f := 0) (i := 0) (t := 16) (j := 0) en_20 rfl W19 (by decide +kernel) rfl (by decide)]
  have W20 : WF A7 en_20 := n_WR (k := 6) (f := 0) (i := 0) (r := 1) rfl W19 (by decide +kernel)
  try dsimp only
  rw [n_PutI (A := A7) (k := 6) (f := 1) (i := 0) (x := 0) en_21 rfl W20 (by decide +kernel) rfl]
  have W21 : WF A7 en_21 := n_WV (k := 6) (f := 1) (i := 0) (x := 0) rfl W20
  try dsimp only
  rw [n_PutR (A := A7) (k := 7) (f := 4) (i := 0) (t := 6) (j := 0) en_22 rfl W21 (by decide +kernel) rfl (by decide)]
  have W22 : WF A7 en_22 := n_WR (k := 7) (f := 4) (i := 0) (r := 1) rfl W21 (by decide +kernel)
  refine n_New (σ' := en_23) 6 1 hx7 W22 rfl rfl (by decide +kernel) rfl (fun A8 W23 hx8 hN8 => ?_)
  have a8_7_0 : A7.1 7 0 = A8.1 7 0 := (hN8.1 7 0 (by decide +kernel)).symm
  rw [a8_7_0]
  try unfold w_X6_init
  refine ⟨_, rfl, by decide, by decide, ?_⟩
  try rw [show ((6 : Int32)).toNatClampNeg = 6 from rfl]
  refine n_NewA (σ' := en_24) 16 1 hx8 W23 rfl (by decide) (by decide +kernel) rfl (fun A9 W24 hx9 hN9 => ?_)
  have a9_7_0 : A8.1 7 0 = A9.1 7 0 := (hN9.1 7 0 (by decide +kernel)).symm
  have a9_6_1 : A8.1 6 1 = A9.1 6 1 := (hN9.1 6 1 (by decide +kernel)).symm
  rw [a9_7_0, a9_6_1]
  try dsimp only
  rw [n_PutR (A := A9) (k := 6) (f := 0) (i := 1) (t := 16) (j := 1) en_25 rfl W24 (by decide +kernel) rfl (by decide)]
  have W25 : WF A9 en_25 := n_WR (k := 6) (f := 0) (i := 1) (r := 2) rfl W24 (by decide +kernel)
  try dsimp only
  rw [n_PutI (A := A9) (k := 6) (f := 1) (i := 1) (x := 0) en_26 rfl W25 (by decide +kernel) rfl]
  have W26 : WF A9 en_26 := n_WV (k := 6) (f := 1) (i := 1) (x := 0) rfl W25
  try dsimp only
  rw [n_PutR (A := A9) (k := 7) (f := 5) (i := 0) (t := 6) (j := 1) en_27 rfl W26 (by decide +kernel) rfl (by decide)]
  have W27 : WF A9 en_27 := n_WR (k := 7) (f := 5) (i := 0) (r := 2) rfl W26 (by decide +kernel)
  refine n_New (σ' := en_28) 9 0 hx9 W27 rfl rfl (by decide +kernel) rfl (fun A10 W28 hx10 hN10 => ?_)
  have a10_7_0 : A9.1 7 0 = A10.1 7 0 := (hN10.1 7 0 (by decide +kernel)).symm
  rw [a10_7_0]
  try unfold w_J4_init_da8c8
  refine ⟨_, rfl, ?_⟩
  try unfold w_J5_init_d00df
  refine ⟨_, rfl, ?_⟩
  rw [if_neg (by decide)]
  refine ⟨by decide, by decide, ?_⟩
  try rw [show ((16 : Int32)).toNatClampNeg = 16 from rfl]
  refine n_NewA (σ' := en_29) 50 0 hx10 W28 rfl (by decide) (by decide +kernel) rfl (fun A11 W29 hx11 hN11 => ?_)
  have a11_7_0 : A10.1 7 0 = A11.1 7 0 := (hN11.1 7 0 (by decide +kernel)).symm
  have a11_9_0 : A10.1 9 0 = A11.1 9 0 := (hN11.1 9 0 (by decide +kernel)).symm
  rw [a11_7_0, a11_9_0]
  try dsimp only
  rw [n_PutR (A := A11) (k := 9) (f := 0) (i := 0) (t := 50) (j := 0) en_30 rfl W29 (by decide +kernel) rfl (by decide)]
  have W30 : WF A11 en_30 := n_WR (k := 9) (f := 0) (i := 0) (r := 1) rfl W29 (by decide +kernel)
  try dsimp only
  rw [n_PutI (A := A11) (k := 9) (f := 1) (i := 0) (x := 0) en_31 rfl W30 (by decide +kernel) rfl]
  have W31 : WF A11 en_31 := n_WV (k := 9) (f := 1) (i := 0) (x := 0) rfl W30
  try dsimp only
  rw [n_PutR (A := A11) (k := 7) (f := 6) (i := 0) (t := 9) (j := 0) en_32 rfl W31 (by decide +kernel) rfl (by decide)]
  have W32 : WF A11 en_32 := n_WR (k := 7) (f := 6) (i := 0) (r := 1) rfl W31 (by decide +kernel)
  try dsimp only
  rw [n_PutI (A := A11) (k := 7) (f := 7) (i := 0) (x := 200) en_33 rfl W32 (by decide +kernel) rfl]
  have W33 : WF A11 en_33 := n_WV (k := 7) (f := 7) (i := 0) (x := 200) rfl W32
  try dsimp only
  rw [n_PutI (A := A11) (k := 7) (f := 8) (i := 0) (x := 0) en_34 rfl W33 (by decide +kernel) rfl]
  have W34 : WF A11 en_34 := n_WV (k := 7) (f := 8) (i := 0) (x := 0) rfl W33
  try dsimp only
  rw [n_PutI (A := A11) (k := 7) (f := 9) (i := 0) (x := 0) en_35 rfl W34 (by decide +kernel) rfl]
  have W35 : WF A11 en_35 := n_WV (k := 7) (f := 9) (i := 0) (x := 0) rfl W34
  try dsimp only
  rw [n_PutF (A := A11) (k := 7) (f := 10) (i := 0) (x := 1056964608) en_36 rfl W35 (by decide +kernel) rfl]
  have W36 : WF A11 en_36 := n_WV (k := 7) (f := 10) (i := 0) (x := (1056964608 : UInt32).toInt32) rfl W35
  try dsimp only
  rw [n_PutF (A := A11) (k := 7) (f := 11) (i := 0) (x := 1056964608) en_37 rfl W36 (by decide +kernel) rfl]
  have W37 : WF A11 en_37 := n_WV (k := 7) (f := 11) (i := 0) (x := (1056964608 : UInt32).toInt32) rfl W36
  try dsimp only
  rw [n_PutI (A := A11) (k := 7) (f := 12) (i := 0) (x := 0) en_38 rfl W37 (by decide +kernel) rfl]
  have W38 : WF A11 en_38 := n_WV (k := 7) (f := 12) (i := 0) (x := 0) rfl W37
  exact kk A11 en_38 W38 hx11 ep_PI ep_RN
