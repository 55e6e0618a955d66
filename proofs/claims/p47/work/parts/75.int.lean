/-! a number's digits -/
section BI
variable {A A' A'' : Ad} {σ σ' τ : St} {X : Cx} {px : String → GM → Prop} {i v m n j f : Nat} {x y : Int32} {c d : List Int32}
def dOne (m : Nat) : Int32 := vp_nar .byte (gOnes m)
def dTen (m : Nat) : Int32 := vp_nar .byte (gTens m)
def dgs (m : Nat) : List Int32 := if m < 10 then [dOne m] else if m < 100 then [dTen m, dOne m] else [dOne (m / 100), dTen (m % 100), dOne (m % 100)]
def dsz (m : Nat) : Nat := if m < 10 then 1 else if m < 100 then 2 else 3
theorem dg_len : (dgs m).length = dsz m := by
  unfold dgs dsz
  by_cases h : m < 10
  · rw [if_pos h, if_pos h]; rfl
  · rw [if_neg h, if_neg h]
    by_cases h2 : m < 100
    · rw [if_pos h2, if_pos h2]; rfl
    · rw [if_neg h2, if_neg h2]; rfl
theorem ia_1 : ∀ m : Fin 1000, - - nI m.val = nI m.val ∧ (-100 < - nI m.val ↔ m.val < 100) ∧ (-9 ≤ - nI m.val ↔ m.val < 10) ∧ ((- nI m.val / 100 * 100) - - nI m.val = nI (m.val % 100)) ∧ (- nI m.val / 100 = - nI (m.val / 100)) := by decide +kernel
theorem ia_2 : ∀ m : Fin 1000, (- nI m.val ≤ -10 ↔ 10 ≤ m.val) ∧ (- nI m.val ≤ 10 * -10 ↔ 100 ≤ m.val) ∧ ¬ - nI m.val ≤ 10 * (10 * -10) := by decide +kernel
theorem b_ssz {post : Int32 → GM → Prop} {g : GM} (h : m < 1000) : w_J6_stringSize_0f7a4 X post px (nI m) g = post (nI (dsz m)) g := by
  obtain ⟨a1, a2, a3⟩ := ia_2 ⟨m, h⟩
  dsimp only at a1 a2 a3
  unfold w_J6_stringSize_0f7a4
  rw [if_neg (nI_pos (by omega))]
  unfold w_J6_stringSize_0f7a4_b11
  rw [show (3000 : Nat) = 2999 + 1 from rfl, w_J6_stringSize_0f7a4_l16, if_neg (by decide)]
  unfold dsz
  by_cases h1 : m < 10
  · rw [if_neg (fun z => by have := a1.mp z; omega), if_pos h1]; rfl
  · rw [if_pos (a1.mpr (by omega)), if_neg h1, show (2999 : Nat) = 2998 + 1 from rfl, w_J6_stringSize_0f7a4_l16, if_neg (by decide)]
    by_cases h2 : m < 100
    · rw [if_neg (fun z => by have := a2.mp z; omega), if_pos h2]; rfl
    · rw [if_pos (a2.mpr (by omega)), if_neg h2, show (2998 : Nat) = 2997 + 1 from rfl, w_J6_stringSize_0f7a4_l16, if_neg (by decide), if_neg a3]; rfl
theorem b_ast {K : GM → Prop} {idx : Int32} (T : Ts X A σ A' σ' i) (S : Sb σ' i v c) (hj : c.length ≤ j) (hj2 : j < gN σ' 50 v) (hi : idx = nI j) (kk : ∀ τ : St, Ts X A σ A' τ i → Sb τ i v c → gN τ 50 v = gN σ' 50 v → gV τ 50 j v = vp_nar .byte x → (∀ j', j' ≠ j → gV τ 50 j' v = gV σ' 50 j' v) → K (hp A' τ)) : wAst (hp A' σ') (some (A'.1 50 v)) idx 2 (vp_nar .byte x) K := by
  have h64 := S.2.2.2.2.2.2.2.1
  rw [hi, e_Ast T.1 S.2.2.1 hr_50 (by decide), p_and (vp_in_nI hj2 (by omega)), nI_clamp (by omega)]
  refine kk _ (T.sV50 S.2.1 nf) ?_ rfl ?_ (fun j' h => ?_)
  · obtain ⟨s1, s2, s3, s4, s5, s6, s7, s8, s9, s10⟩ := S
    refine ⟨s1, s2, s3, ?_, ?_, s6, s7, s8, s9, fun j' h => ?_⟩
    · rw [gV_sV, if_neg (fun z => absurd z.1 (by decide))]; exact s4
    · rw [gV_sV, if_neg (fun z => absurd z.1 (by decide))]; exact s5
    · rw [gV_sV, if_neg (fun z => by omega)]; exact s10 j' h
  · rw [gV_sV, if_pos ⟨rfl, rfl, rfl⟩]
  · rw [gV_sV, if_neg (fun z => h z.2.1)]
theorem nI_dm {j : Nat} : nI (j + 1) + (-1 : Int32) = nI j := by
  have := nI_pred j
  rw [Int32.sub_eq_add_neg] at this
  exact this
theorem tTab {K : Int32 → Prop} {t q : Nat} {F : Nat → Int32} {idx : Int32} (hi : idx = nI q) (hq : q < 100) (h : K (F q)) : wTab t (some t) idx F K := by
  rw [hi]
  exact ⟨rfl, vp_in_nI hq (by omega), by rw [nI_clamp (by omega)]; exact h⟩
/-- below a hundred: the ones, the tens -/
theorem b_gc2 {post : Int32 → GM → Prop} {w : Nat} (hm : m < 100) (f : Nat) (T : Ts X A σ A' σ' i) (S : Sb σ' i v c) (hw : w = if m < 10 then 1 else 2) (hj : c.length ≤ j) (hj2 : j + w ≤ gN σ' 50 v) (kk : ∀ τ : St, Ts X A σ A' τ i → Sb τ i v c → gN τ 50 v = gN σ' 50 v → gV τ 50 (j + w - 1) v = dOne m → (10 ≤ m → gV τ 50 j v = dTen m) → (∀ j', j' < j ∨ j + w ≤ j' → gV τ 50 j' v = gV σ' 50 j' v) → ∀ z, post z (hp A' τ)) : w_J6_getChars_ba4f3_l22 X post px (f + 1) (- nI m) (some (A'.1 50 v)) (nI (j + w)) 0 (hp A' σ') := by
  obtain ⟨a1, a2, a3, a4, a5⟩ := ia_1 ⟨m, by omega⟩
  dsimp only at a1 a2 a3 a4 a5
  rw [w_J6_getChars_ba4f3_l22, if_pos (a2.mpr hm)]
  refine tTab a1 hm ?_
  by_cases h : m < 10
  · rw [if_pos h] at hw
    subst hw
    refine b_ast T S hj (by omega) nI_dm (fun τ T3 S3 n3 e3 o3 => ?_)
    rw [if_pos (a3.mpr h)]
    unfold w_J6_getChars_ba4f3_b104
    rw [if_pos rfl]
    unfold w_J6_getChars_ba4f3_b118
    exact kk τ T3 S3 n3 e3 (fun z => absurd h (by omega)) (fun j' h' => o3 j' (by omega)) _
  · rw [if_neg h] at hw
    subst hw
    refine b_ast (j := j + 1) T S (by omega) (by omega) nI_dm (fun τ T3 S3 n3 e3 o3 => ?_)
    rw [if_neg (fun z => h (a3.mp z))]
    refine tTab a1 hm ?_
    rw [nI_dm]
    refine b_ast (j := j) T3 S3 hj (by omega) nI_dm (fun τ4 T4 S4 n4 e4 o4 => ?_)
    unfold w_J6_getChars_ba4f3_b104
    rw [if_pos rfl]
    unfold w_J6_getChars_ba4f3_b118
    exact kk τ4 T4 S4 (n4.trans n3) ((o4 _ (by omega)).trans e3) (fun _ => e4) (fun j' h' => (o4 j' (by omega)).trans (o3 j' (by omega))) _
theorem b_int {post : Option Nat → GM → Prop} (T : Ts X A σ A' σ' i) (S : Sb σ' i v c) (hi : i < gL σ 9) (hm : m < 1000) (hc : c.length + dsz m ≤ 30) (kk : ∀ (A'' : Ad) (σ'' : St) (v'' : Nat), Ts X A σ A'' σ'' i → Sb σ'' i v'' (c ++ dgs m) → post (some (A.1 9 i)) (hp A'' σ'')) : w_J4_append_bf812 X post px (some (A.1 9 i)) (nI m) (hp A' σ') := by
  unfold w_J4_append_bf812
  rw [tIs T hi]
  unfold w_J5_append_c97b9
  rw [tI T hi hr_93, S.2.2.2.2.1, b_ssz hm]
  try dsimp only
  rw [tIs T hi, nI_add]
  refine b_ens T S hi hc (fun A2 σ2 v2 T2 S2 hm2 => ?_)
  rw [tIs T2 hi, tl1 T2 hi S2]
  try dsimp only
  rw [if_neg i10, tR T2 hi S2]
  unfold w_J6_getChars_ba4f3
  rw [if_pos (nI_pos' (by omega))]
  unfold w_J6_getChars_ba4f3_b12
  rw [if_pos rfl]
  -- the end: the count is set
  have fin : ∀ τ : St, Ts X A σ A2 τ i → Sb τ i v2 c → gN τ 50 v2 = gN σ2 50 v2 → (∀ j, j < (dgs m).length → gV τ 50 (c.length + j) v2 = (dgs m).getD j 0) → wPut (hp A2 τ) (some (A.1 9 i)) 9 3 (.int (nI (c.length + dsz m))) (fun g11 => post (some (A.1 9 i)) g11) := fun τ T3 S3 n3 e3 => by
    rw [tP T3 hi hr_93]
    refine kk A2 _ v2 T3.sV9 (S3.app (fun _ => rfl) rfl ?_ ?_ rfl (by rw [dg_len, n3]; exact hm2) (by rw [dg_len]; exact hc) (fun j hj => ?_) (fun j hj => ?_))
    · rw [gV_sV, if_neg (fun z => absurd z.2.1 (by decide))]
    · rw [gV_sV, if_pos ⟨rfl, rfl, rfl⟩, dg_len]
    · rw [gV_sV, if_neg (fun z => absurd z.1 (by decide))]
    · rw [gV_sV, if_neg (fun z => absurd z.1 (by decide))]; exact e3 j hj
  rw [show (3000 : Nat) = 2999 + 1 from rfl]
  by_cases h : m < 100
  · have hw : dsz m = if m < 10 then 1 else 2 := by
      unfold dsz
      by_cases h1 : m < 10
      · rw [if_pos h1, if_pos h1]
      · rw [if_neg h1, if_neg h1, if_pos h]
    refine b_gc2 h 2999 T2 S2 hw (Nat.le_refl _) hm2 (fun τ T3 S3 n3 e1 e10 _ z => fin τ T3 S3 n3 (fun j hj => ?_))
    rw [dg_len] at hj
    by_cases h1 : m < 10
    · have e : dsz m = 1 := by rw [hw, if_pos h1]
      rw [e] at hj e1
      have : j = 0 := by omega
      subst this
      unfold dgs
      rw [if_pos h1]
      exact e1
    · have e : dsz m = 2 := by rw [hw, if_neg h1]
      rw [e] at hj e1
      unfold dgs
      rw [if_neg h1, if_pos h]
      by_cases j0 : j = 0
      · subst j0; exact e10 (by omega)
      · have : j = 1 := by omega
        subst this
        exact e1
  · have e : dsz m = 3 := by unfold dsz; rw [if_neg (by omega), if_neg h]
    obtain ⟨a1, a2, a3, a4, a5⟩ := ia_1 ⟨m, hm⟩
    dsimp only at a1 a2 a3 a4 a5
    have hq : m % 100 < 100 := Nat.mod_lt _ (by decide)
    rw [e] at hm2 fin ⊢
    rw [w_J6_getChars_ba4f3_l22, if_neg (fun z => h (a2.mp z))]
    refine ⟨by decide, tTab a4 hq ?_⟩
    rw [show c.length + 3 = c.length + 2 + 1 from rfl, nI_dm]
    refine b_ast (j := c.length + 2) T2 S2 (by omega) (by omega) rfl (fun τ3 T3 S3 n3 e3 o3 => tTab a4 hq ?_)
    rw [nI_dm]
    refine b_ast (j := c.length + 1) T3 S3 (by omega) (by omega) rfl (fun τ4 T4 S4 n4 e4 o4 => ?_)
    rw [a5]
    have h9 : m / 100 < 10 := by omega
    refine b_gc2 (m := m / 100) (j := c.length) (w := 1) (by omega) 2998 T4 S4 (by rw [if_pos h9]) (Nat.le_refl _) (by omega) (fun τ T5 S5 n5 e5 _ o5 z => fin τ T5 S5 (n5.trans (n4.trans n3)) (fun j hj => ?_))
    rw [dg_len, e] at hj
    unfold dgs
    rw [if_neg (by omega), if_neg h]
    by_cases j0 : j = 0
    · subst j0; exact e5
    · by_cases j1 : j = 1
      · subst j1; exact (o5 _ (by omega)).trans e4
      · have : j = 2 := by omega
        subst this
        exact (o5 _ (by omega)).trans ((o4 _ (by omega)).trans e3)
end BI
