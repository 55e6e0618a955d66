/-! the text builder: what it holds, what work on it leaves alone -/
section BU
variable {A A' A'' : Ad} {σ σ' : St} {X : Cx} {px : String → GM → Prop} {i v m n j f : Nat} {x : Int32} {c : List Int32}
def bF (σ : St) : Prop := ∀ j w, fits .byte (.int (gV σ 50 j w)) = true
def Bq (σ σ' : St) (i : Nat) : Prop := (∀ k, k ≠ 50 → gL σ' k = gL σ k) ∧ gL σ 50 ≤ gL σ' 50 ∧ (∀ k, k ≠ 9 → k ≠ 50 → ∀ f j, gV σ' k f j = gV σ k f j) ∧ (∀ k, k ≠ 9 → k ≠ 50 → ∀ f j, gR σ' k f j = gR σ k f j) ∧ (∀ k, k ≠ 50 → ∀ j, gN σ' k j = gN σ k j) ∧ (∀ f j, j ≠ i → gV σ' 9 f j = gV σ 9 f j ∧ gR σ' 9 f j = gR σ 9 f j) ∧ (∀ w, w < gL σ 50 → w + 1 ≠ gR σ 9 0 i → gN σ' 50 w = gN σ 50 w ∧ ∀ j, gV σ' 50 j w = gV σ 50 j w) ∧ (gR σ' 9 0 i = gR σ 9 0 i ∨ gL σ 50 + 1 ≤ gR σ' 9 0 i) ∧ bF σ' ∧ gJ σ' = gJ σ ∧ gD σ' = gD σ
def Sb (σ : St) (i v : Nat) (c : List Int32) : Prop := i < gL σ 9 ∧ gR σ 9 0 i = v + 1 ∧ v < gL σ 50 ∧ gV σ 9 1 i = 0 ∧ gV σ 9 3 i = nI c.length ∧ c.length ≤ gN σ 50 v ∧ 16 ≤ gN σ 50 v ∧ gN σ 50 v ≤ 64 ∧ c.length ≤ 30 ∧ ∀ j, j < c.length → gV σ 50 j v = c.getD j 0
def Ts (X : Cx) (A : Ad) (σ : St) (A' : Ad) (σ' : St) (i : Nat) : Prop := WF A' σ' ∧ hX X A' ∧ Nx A A' σ ∧ Bq σ σ' i
def Ow (σ : St) (i v : Nat) : Prop := ∀ w, w < gL σ 50 → w + 1 ≠ gR σ 9 0 i → w ≠ v
theorem f0 : fits .byte (.int 0) = true := by decide
theorem Bq.rf (h : bF σ) : Bq σ σ i := ⟨fun _ _ => rfl, Nat.le_refl _, fun _ _ _ _ _ => rfl, fun _ _ _ _ _ => rfl, fun _ _ _ => rfl, fun _ _ _ => ⟨rfl, rfl⟩, fun _ _ _ => ⟨rfl, fun _ => rfl⟩, Or.inl rfl, h, rfl, rfl⟩
theorem Bq.ow (B : Bq σ σ' i) (r : gR σ' 9 0 i = v + 1) : Ow σ i v := by
  intro w h1 h2 h3
  rcases B.2.2.2.2.2.2.2.1 with e | e <;> omega
theorem Bq.sV9 (B : Bq σ σ' i) : Bq σ (sV σ' 9 f i x) i := by
  obtain ⟨b1, b2, b3, b4, b5, b6, b7, b8, b9, b10, b11⟩ := B
  refine ⟨b1, b2, fun k h9 h50 f' j' => ?_, b4, b5, fun f' j' hj => ⟨?_, (b6 f' j' hj).2⟩, fun w h1 h2 => ⟨(b7 w h1 h2).1, fun j' => ?_⟩, b8, fun j' w => ?_, b10, b11⟩
  · rw [gV_sV, if_neg (fun z => h9 z.1)]; exact b3 k h9 h50 f' j'
  · rw [gV_sV, if_neg (fun z => hj z.2.2)]; exact (b6 f' j' hj).1
  · rw [gV_sV, if_neg (fun z => absurd z.1 (by decide))]; exact (b7 w h1 h2).2 j'
  · rw [gV_sV, if_neg (fun z => absurd z.1 (by decide))]; exact b9 j' w
theorem Bq.sF50 {F : Nat → Int32} (B : Bq σ σ' i) (ow : Ow σ i v) (hf : ∀ j, fits .byte (.int (F j)) = true) : Bq σ (sF σ' 50 v F) i := by
  obtain ⟨b1, b2, b3, b4, b5, b6, b7, b8, b9, b10, b11⟩ := B
  refine ⟨b1, b2, fun k h9 h50 f' j' => ?_, b4, b5, fun f' j' hj => ⟨?_, (b6 f' j' hj).2⟩, fun w h1 h2 => ⟨(b7 w h1 h2).1, fun j' => ?_⟩, b8, fun j' w => ?_, b10, b11⟩
  · rw [gV_sF, if_neg (fun z => h50 z.1)]; exact b3 k h9 h50 f' j'
  · rw [gV_sF, if_neg (fun z => absurd z.1 (by decide))]; exact (b6 f' j' hj).1
  · rw [gV_sF, if_neg (fun z => ow w h1 h2 z.2)]; exact (b7 w h1 h2).2 j'
  · rw [gV_sF]
    by_cases e : 50 = 50 ∧ w = v
    · rw [if_pos e]; exact hf j'
    · rw [if_neg e]; exact b9 j' w
theorem Bq.sV50 (B : Bq σ σ' i) (ow : Ow σ i v) (hf : fits .byte (.int x) = true) : Bq σ (sV σ' 50 j v x) i := by
  obtain ⟨b1, b2, b3, b4, b5, b6, b7, b8, b9, b10, b11⟩ := B
  refine ⟨b1, b2, fun k h9 h50 f' j' => ?_, b4, b5, fun f' j' hj => ⟨?_, (b6 f' j' hj).2⟩, fun w h1 h2 => ⟨(b7 w h1 h2).1, fun j' => ?_⟩, b8, fun j' w => ?_, b10, b11⟩
  · rw [gV_sV, if_neg (fun z => h50 z.1)]; exact b3 k h9 h50 f' j'
  · rw [gV_sV, if_neg (fun z => absurd z.1 (by decide))]; exact (b6 f' j' hj).1
  · rw [gV_sV, if_neg (fun z => ow w h1 h2 z.2.2)]; exact (b7 w h1 h2).2 j'
  · rw [gV_sV]
    by_cases e : 50 = 50 ∧ j' = j ∧ w = v
    · rw [if_pos e]; exact hf
    · rw [if_neg e]; exact b9 j' w
theorem Bq.sW50 (B : Bq σ σ' i) : Bq σ (sW σ' 50 n) i := by
  obtain ⟨b1, b2, b3, b4, b5, b6, b7, b8, b9, b10, b11⟩ := B
  refine ⟨fun k hk => ?_, ?_, fun k h9 h50 f' j' => ?_, fun k h9 h50 f' j' => ?_, fun k hk j' => ?_, fun f' j' hj => ⟨?_, ?_⟩, fun w h1 h2 => ⟨?_, fun j' => ?_⟩, ?_, fun j' w => ?_, b10, b11⟩
  · rw [gL_sW, if_neg hk]; exact b1 k hk
  · rw [gL_sW, if_pos rfl]; omega
  · rw [gV_sW, if_neg (fun z => h50 z.1)]; exact b3 k h9 h50 f' j'
  · rw [gR_sW, if_neg (fun z => h50 z.1)]; exact b4 k h9 h50 f' j'
  · rw [gN_sW, if_neg (fun z => hk z.1)]; exact b5 k hk j'
  · rw [gV_sW, if_neg (fun z => absurd z.1 (by decide))]; exact (b6 f' j' hj).1
  · rw [gR_sW, if_neg (fun z => absurd z.1 (by decide))]; exact (b6 f' j' hj).2
  · rw [gN_sW, if_neg (fun z => by omega)]; exact (b7 w h1 h2).1
  · rw [gV_sW, if_neg (fun z => by omega)]; exact (b7 w h1 h2).2 j'
  · rw [gR_sW, if_neg (fun z => absurd z.1 (by decide))]; exact b8
  · rw [gV_sW]
    by_cases e : 50 = 50 ∧ w = gL σ' 50
    · rw [if_pos e]; exact f0
    · rw [if_neg e]; exact b9 j' w
theorem Bq.sR9 (B : Bq σ σ' i) (h : gL σ 50 ≤ v) : Bq σ (sR σ' 9 0 i (v + 1)) i := by
  obtain ⟨b1, b2, b3, b4, b5, b6, b7, b8, b9, b10, b11⟩ := B
  refine ⟨b1, b2, b3, fun k h9 h50 f' j' => ?_, b5, fun f' j' hj => ⟨(b6 f' j' hj).1, ?_⟩, b7, Or.inr ?_, b9, b10, b11⟩
  · rw [gR_sR, if_neg (fun z => h9 z.1)]; exact b4 k h9 h50 f' j'
  · rw [gR_sR, if_neg (fun z => hj z.2.2)]; exact (b6 f' j' hj).2
  · rw [gR_sR, if_pos ⟨rfl, rfl, rfl⟩]; omega
theorem hr_k9 : hok 9 9 0 52 = true := by decide
theorem hr_91 : hok 9 9 1 0 = true := by decide
theorem hr_92 : hok 9 9 2 0 = true := by decide
theorem hr_93 : hok 9 9 3 0 = true := by decide
theorem hr_9c : hcl 9 9 = true := by decide
theorem hr_50 : hak 50 2 = true := by decide
/-- bytes copied -/
theorem e_CpyB {K : GM → Prop} {k l : Nat} (W : WF A σ) (hj : j < gL σ k) (hm : m < gL σ k) (h : hak k 2 = true) (h1 : l ≤ gN σ k j) (h2 : l ≤ gN σ k m) (h3 : l < 2 ^ 31) (hf : ∀ f, f < l → fits .byte (.int (gV σ k f j)) = true) (kk : K (hp A (sF σ k m (fun f => if f < l then gV σ k f j else gV σ k f m)))) : wCpyB (hp A σ) (some (A.1 k j)) 0 (some (A.1 k m)) 0 (nI l) K := by
  have e1 := (hp_arr W hj h).trans (by rw [ha_I h (by omega)])
  have e2 := (hp_arr W hm h).trans (by rw [ha_I h (by omega)])
  have z0 : (0 : Int32).toNatClampNeg = 0 := rfl
  refine ⟨_, _, _, _, _, _, rfl, e1, rfl, e2, by decide, by decide, nI_pos h3, ?_, ?_, ?_, ?_⟩
  · rw [z0, nI_clamp h3]; omega
  · rw [z0, nI_clamp h3]; omega
  · intro f hl
    rw [nI_clamp h3] at hl
    rw [z0, Nat.zero_add]
    exact hf f hl
  · rw [z0, nI_clamp h3]
    have : va_cpy (fun j_1 => gV σ k j_1 j) (fun j_1 => gV σ k j_1 m) 0 0 l = fun f => if f < l then gV σ k f j else gV σ k f m := by
      funext f
      unfold va_cpy
      by_cases hf : f < l
      · rw [if_pos ⟨Nat.zero_le _, by omega⟩, if_pos hf, Nat.zero_add, Nat.sub_zero]
      · rw [if_neg (by omega), if_neg hf]
    rw [this, gup_sF W hm h (by omega)]
    exact kk
/-- a constant's bytes copied -/
theorem e_CpyS {K : GM → Prop} {k l s d : Nat} (W : WF A σ) (hs : s < gLen.length) (hm : m < gL σ k) (h : hak k 2 = true) (h1 : l ≤ gLen.getD s 0) (h2 : d + l ≤ gN σ k m) (h3 : l < 2 ^ 31) (hd : d < 2 ^ 31) (hf : ∀ f, f < l → fits .byte (.int ((gByt.getD s []).getD f 0)) = true) (kk : K (hp A (sF σ k m (fun f => if d ≤ f ∧ f < d + l then (gByt.getD s []).getD (f - d) 0 else gV σ k f m)))) : wCpyS X (hp A σ) (some (X.2.2.2 (100 + s))) 0 (some (A.1 k m)) (nI d) (nI l) K := by
  have e2 := (hp_arr W hm h).trans (by rw [ha_I h (by omega)])
  have z0 : (0 : Int32).toNatClampNeg = 0 := rfl
  refine ⟨s, _, _, _, rfl, hs, rfl, e2, by decide, nI_pos hd, nI_pos h3, ?_, ?_, ?_, ?_⟩
  · rw [z0, nI_clamp h3]; omega
  · rw [nI_clamp hd, nI_clamp h3]; omega
  · intro f hl
    rw [nI_clamp h3] at hl
    rw [z0, Nat.zero_add]
    exact hf f hl
  · rw [z0, nI_clamp h3, nI_clamp hd]
    have : va_cpy (fun i => (gByt.getD s []).getD i 0) (fun j_1 => gV σ k j_1 m) 0 d l = fun f => if d ≤ f ∧ f < d + l then (gByt.getD s []).getD (f - d) 0 else gV σ k f m := by
      funext f
      unfold va_cpy
      by_cases hf : d ≤ f ∧ f < d + l
      · rw [if_pos hf, if_pos hf, Nat.zero_add]
      · rw [if_neg hf, if_neg hf]
    rw [this, gup_sF W hm h (by omega)]
    exact kk
/-! room -/
theorem sh0 {l : Nat} (h : l < 2 ^ 31) : nI l >>> ((0 : Int32) &&& 31) = nI l := shr0 h
theorem sl0' : ∀ l : Fin 131, nI l.val <<< ((0 : Int32) &&& 31) = nI l.val := by decide +kernel
theorem sl0 {l : Nat} (h : l ≤ 130) : nI l <<< ((0 : Int32) &&& 31) = nI l := sl0' ⟨l, by omega⟩
theorem ens_1' : ∀ a b : Fin 65, (nI a.val - nI b.val ≤ 0 ↔ a.val ≤ b.val) := by decide +kernel
theorem ens_1 {a b : Nat} (ha : a ≤ 64) (hb : b ≤ 64) : (nI a - nI b ≤ 0 ↔ a ≤ b) := ens_1' ⟨a, by omega⟩ ⟨b, by omega⟩
theorem ens_2' : ∀ a b : Fin 31, 16 ≤ b.val → b.val < a.val → (nI b.val + (if nI a.val - nI b.val < nI b.val + ((2 : Int32) <<< ((0 : Int32) &&& 31)) then nI b.val + ((2 : Int32) <<< ((0 : Int32) &&& 31)) else nI a.val - nI b.val)) = nI (2 * b.val + 2) := by decide +kernel
theorem b_newLen {post : Int32 → GM → Prop} {g : GM} {a b : Nat} (ha : a ≤ 30) (hb : 16 ≤ b) (h : b < a) : w_J8_newLength_cabcc X post px (nI b) (nI a - nI b) (nI b + ((2 : Int32) <<< ((0 : Int32) &&& 31))) g = post (nI (2 * b + 2)) g := by
  unfold w_J8_newLength_cabcc
  rw [ens_2' ⟨a, by omega⟩ ⟨b, by omega⟩ hb h, if_neg (nI_nle (by omega) (by omega)), if_neg]
  intro z
  have : nI 2147483639 < nI (2 * b + 2) := z
  rw [nI_ltI (by decide) (by omega)] at this
  omega
theorem b_ens {post : GM → Prop} (T : Ts X A σ A' σ' i) (S : Sb σ' i v c) (hi : i < gL σ 9) (hm : m ≤ 30) (kk : ∀ (A'' : Ad) (σ'' : St) (v'' : Nat), Ts X A σ A'' σ'' i → Sb σ'' i v'' c → m ≤ gN σ'' 50 v'' → post (hp A'' σ'')) : w_J5_ensureCapacityInternal_d00df X post px (some (A.1 9 i)) (nI m) (hp A' σ') := by
  obtain ⟨W, hx, hN, B⟩ := T
  obtain ⟨s1, s2, s3, s4, s5, s6, s7, s8, s9, s10⟩ := S
  have ea : A.1 9 i = A'.1 9 i := (hN.1 9 i hi).symm
  rw [ea]
  unfold w_J5_ensureCapacityInternal_d00df
  rw [e_GetR 50 W s1 hr_k9 (by decide), s2, hr_s, e_Len hx W s3 hr_50 (by decide), e_GetI W s1 hr_91, s4, sh0 (by omega)]
  by_cases h : m ≤ gN σ' 50 v
  · rw [if_pos ((ens_1 (by omega) (by omega)).mpr h)]
    unfold w_J5_ensureCapacityInternal_d00df_b38
    exact kk A' σ' v ⟨W, hx, hN, B⟩ ⟨s1, s2, s3, s4, s5, s6, s7, s8, s9, s10⟩ h
  · rw [if_neg (fun z => h ((ens_1 (by omega) (by omega)).mp z)), e_GetR 50 W s1 hr_k9 (by decide), s2, hr_s, e_Is' W s1 hr_9c]
    unfold w_J5_newCapacity_0f7a4
    rw [e_GetR 50 W s1 hr_k9 (by decide), s2, hr_s, e_Len hx W s3 hr_50 (by decide), e_GetI W s1 hr_91, s4, e_GetI W s1 hr_91, s4, sl0 (by omega), b_newLen hm s7 (by omega)]
    have l1 : ¬ nI (2 * gN σ' 50 v + 2) = 2147483647 := fun z => by
      have : nI (2 * gN σ' 50 v + 2) = nI 2147483647 := z
      rw [nI_eq (by omega) (by decide)] at this
      omega
    rw [if_neg l1, e_GetI W s1 hr_91, s4, sh0 (by omega)]
    dsimp only
    rw [e_GetI W s1 hr_91, s4, sl0 (by omega)]
    unfold w_J7_copyOf_9075b
    rw [e_Len hx W s3 hr_50 (by decide), if_neg (fun z => by rw [nI_eq (by omega) (by omega)] at z; omega)]
    refine ⟨nI_pos (by omega), by rw [nI_clamp (by omega)]; omega, ?_⟩
    rw [nI_clamp (by omega)]
    refine e_NewA 50 hx W hr_50 (by decide) (fun A2 W2 hx2 hN2 => ?_)
    have hv2 : v < gL (sW σ' 50 (2 * gN σ' 50 v + 2)) 50 := by rw [gL_sW, if_pos rfl]; omega
    have hn2 : gL σ' 50 < gL (sW σ' 50 (2 * gN σ' 50 v + 2)) 50 := by rw [gL_sW, if_pos rfl]; omega
    have gn1 : gN (sW σ' 50 (2 * gN σ' 50 v + 2)) 50 v = gN σ' 50 v := by rw [gN_sW, if_neg (by omega)]
    have gn2 : gN (sW σ' 50 (2 * gN σ' 50 v + 2)) 50 (gL σ' 50) = 2 * gN σ' 50 v + 2 := by rw [gN_sW, if_pos ⟨rfl, rfl⟩]
    have gv1 : ∀ f, gV (sW σ' 50 (2 * gN σ' 50 v + 2)) 50 f v = gV σ' 50 f v := fun f => by rw [gV_sW, if_neg (by omega)]
    have gv2 : ∀ f, gV (sW σ' 50 (2 * gN σ' 50 v + 2)) 50 f (gL σ' 50) = 0 := fun f => by rw [gV_sW, if_pos ⟨rfl, rfl⟩]
    have i9 : i < gL (sW σ' 50 (2 * gN σ' 50 v + 2)) 9 := by rw [gL_sW, if_neg (by decide)]; exact s1
    rw [← hN2.1 50 v s3, ← hN2.1 9 i s1, e_Len hx2 W2 hv2 hr_50 (by decide), gn1, if_neg (nI_nlt (by omega) (by omega))]
    have B2 : Bq σ (sW σ' 50 (2 * gN σ' 50 v + 2)) i := B.sW50
    have o2 : Ow σ i (gL σ' 50) := fun w h1 _ h3 => by have := B.2.1; omega
    have NX : Nx A A2 σ := ⟨fun k j hj => (hN2.1 k j (by
      by_cases e : k = 50
      · subst e; exact Nat.lt_of_lt_of_le hj B.2.1
      · rw [B.1 k e]; exact hj)).trans (hN.1 k j hj), hN2.2.trans hN.2⟩
    have v0 : gL σ 50 ≤ gL σ' 50 := B.2.1
    generalize hτ : sW σ' 50 (2 * gN σ' 50 v + 2) = τ at *
    have rl : gR τ 9 0 i = v + 1 := by rw [← hτ, gR_sW, if_neg (fun z => absurd z.1 (by decide))]; exact s2
    have V9 : ∀ f, gV τ 9 f i = gV σ' 9 f i := fun f => by rw [← hτ, gV_sW, if_neg (fun z => absurd z.1 (by decide))]
    refine e_CpyB W2 hv2 hn2 hr_50 (by omega) (by omega) (by omega) (fun f _ => B2.2.2.2.2.2.2.2.2.1 f v) ?_
    have W3 : WF A2 (sF τ 50 (gL σ' 50) (fun f => if f < gN σ' 50 v then gV τ 50 f v else gV τ 50 f (gL σ' 50))) := by rw [WF_sF]; exact W2
    have B3 : Bq σ (sF τ 50 (gL σ' 50) (fun f => if f < gN σ' 50 v then gV τ 50 f v else gV τ 50 f (gL σ' 50))) i := B2.sF50 o2 (fun f => by
      by_cases e : f < gN σ' 50 v
      · rw [if_pos e]; exact B2.2.2.2.2.2.2.2.2.1 f v
      · rw [if_neg e]; exact B2.2.2.2.2.2.2.2.2.1 f _)
    dsimp only
    rw [e_PutR W3 (show i < gL (sF τ 50 _ _) 9 from i9) hr_k9 (by decide)]
    unfold w_J5_ensureCapacityInternal_d00df_b38
    refine kk A2 _ (gL σ' 50) ⟨WF_sR W3 (show gL σ' 50 + 1 ≤ gL τ 50 + 0 from hn2), hx2, NX, B3.sR9 v0⟩ ⟨i9, ?_, hn2, ?_, ?_, ?_, ?_, ?_, s9, ?_⟩ ?_
    · rw [gR_sR, if_pos ⟨rfl, rfl, rfl⟩]
    · rw [gV_sR, gV_sF, if_neg (fun z => absurd z.1 (by decide)), V9]; exact s4
    · rw [gV_sR, gV_sF, if_neg (fun z => absurd z.1 (by decide)), V9]; exact s5
    · rw [gN_sR, gN_sF, gn2]; omega
    · rw [gN_sR, gN_sF, gn2]; omega
    · rw [gN_sR, gN_sF, gn2]; omega
    · intro j hj
      rw [gV_sR, gV_sF, if_pos ⟨rfl, rfl⟩, if_pos (by omega), gv1]
      exact s10 j hj
    · rw [gN_sR, gN_sF, gn2]; omega
end BU
