/-! the builder's operations -/
section BO
variable {A A' A'' : Ad} {σ σ' τ : St} {X : Cx} {px : String → GM → Prop} {i v m n j f : Nat} {x y : Int32} {c d : List Int32}
theorem tL9 (T : Ts X A σ A' σ' i) (hi : i < gL σ 9) : i < gL σ' 9 := by rw [T.2.2.2.1 9 (by decide)]; exact hi
theorem tA (T : Ts X A σ A' σ' i) (hi : i < gL σ 9) : A.1 9 i = A'.1 9 i := (T.2.2.1.1 9 i hi).symm
theorem tIs {P : Prop} (T : Ts X A σ A' σ' i) (hi : i < gL σ 9) : wIs (hp A' σ') (some (A.1 9 i)) 9 P = P := by
  rw [tA T hi]; exact e_Is' T.1 (tL9 T hi) hr_9c
theorem tI {K : Int32 → Prop} (T : Ts X A σ A' σ' i) (hi : i < gL σ 9) (h : hok 9 9 f 0 = true) : wGetI (hp A' σ') (some (A.1 9 i)) 9 f K = K (gV σ' 9 f i) := by
  rw [tA T hi]; exact e_GetI T.1 (tL9 T hi) h
theorem tR {K : Option Nat → Prop} (T : Ts X A σ A' σ' i) (hi : i < gL σ 9) (S : Sb σ' i v c) : wGetR (hp A' σ') (some (A.1 9 i)) 9 0 K = K (some (A'.1 50 v)) := by
  rw [tA T hi, e_GetR 50 T.1 (tL9 T hi) hr_k9 (by decide), S.2.1, hr_s]
theorem tP {K : GM → Prop} (T : Ts X A σ A' σ' i) (hi : i < gL σ 9) (h : hok 9 9 f 0 = true) : wPut (hp A' σ') (some (A.1 9 i)) 9 f (.int x) K = K (hp A' (sV σ' 9 f i x)) := by
  rw [tA T hi]; exact e_PutI T.1 (tL9 T hi) h
theorem Ts.sV9 (T : Ts X A σ A' σ' i) : Ts X A σ A' (sV σ' 9 f i x) i := ⟨by rw [WF_sV]; exact T.1, T.2.1, T.2.2.1, T.2.2.2.sV9⟩
theorem Ts.sV50 (T : Ts X A σ A' σ' i) (r : gR σ' 9 0 i = v + 1) (hf : fits .byte (.int x) = true) : Ts X A σ A' (sV σ' 50 j v x) i := ⟨by rw [WF_sV]; exact T.1, T.2.1, T.2.2.1, T.2.2.2.sV50 (T.2.2.2.ow r) hf⟩
theorem Ts.sF50 {F : Nat → Int32} (T : Ts X A σ A' σ' i) (r : gR σ' 9 0 i = v + 1) (hf : ∀ j, fits .byte (.int (F j)) = true) : Ts X A σ A' (sF σ' 50 v F) i := ⟨by rw [WF_sF]; exact T.1, T.2.1, T.2.2.1, T.2.2.2.sF50 (T.2.2.2.ow r) hf⟩
theorem tl1 {post : Int32 → GM → Prop} (T : Ts X A σ A' σ' i) (hi : i < gL σ 9) (S : Sb σ' i v c) : w_J5_isLatin1_aae02 X post px (some (A.1 9 i)) (hp A' σ') = post 1 (hp A' σ') := by
  unfold w_J5_isLatin1_aae02
  rw [if_neg i10, tI T hi hr_91, S.2.2.2.1, if_pos rfl]
  unfold w_J5_isLatin1_aae02_b18
  rw [p_and nb1]
theorem Sb.app (S : Sb σ' i v c) (hL : ∀ k, gL τ k = gL σ' k) (hR : gR τ 9 0 i = gR σ' 9 0 i) (h1 : gV τ 9 1 i = gV σ' 9 1 i) (h3 : gV τ 9 3 i = nI (c.length + d.length)) (hN : gN τ 50 v = gN σ' 50 v) (hl : c.length + d.length ≤ gN σ' 50 v) (h30 : c.length + d.length ≤ 30) (ho : ∀ j, j < c.length → gV τ 50 j v = gV σ' 50 j v) (hn : ∀ j, j < d.length → gV τ 50 (c.length + j) v = d.getD j 0) : Sb τ i v (c ++ d) := by
  obtain ⟨s1, s2, s3, s4, s5, s6, s7, s8, s9, s10⟩ := S
  refine ⟨by rw [hL]; exact s1, hR.trans s2, by rw [hL]; exact s3, h1.trans s4, by rw [List.length_append]; exact h3, by rw [List.length_append, hN]; exact hl, by rw [hN]; exact s7, by rw [hN]; exact s8, by rw [List.length_append]; exact h30, fun j hj => ?_⟩
  rw [List.length_append] at hj
  by_cases e : j < c.length
  · rw [ho j e, s10 j e, List.getD_eq_getElem?_getD, List.getD_eq_getElem?_getD, List.getElem?_append_left e]
  · have := hn (j - c.length) (by omega)
    rw [show c.length + (j - c.length) = j by omega] at this
    rw [this, List.getD_eq_getElem?_getD, List.getD_eq_getElem?_getD, List.getElem?_append_right (by omega)]
theorem nf : fits .byte (.int (vp_nar .byte x)) = true := fits_byte_narrow x
theorem b_chr {post : Option Nat → GM → Prop} (T : Ts X A σ A' σ' i) (S : Sb σ' i v c) (hi : i < gL σ 9) (hc : c.length + 1 ≤ 30) (kk : ∀ (A'' : Ad) (σ'' : St) (v'' : Nat), Ts X A σ A'' σ'' i → Sb σ'' i v'' (c ++ [118]) → post (some (A.1 9 i)) (hp A'' σ'')) : w_J4_append_cf468 X post px (some (A.1 9 i)) 118 (hp A' σ') := by
  unfold w_J4_append_cf468
  rw [tIs T hi]
  unfold w_J5_append_3fe6f
  rw [tI T hi hr_93, S.2.2.2.2.1, tIs T hi, nI_1]
  refine b_ens T S hi hc (fun A2 σ2 v2 T2 S2 hm => ?_)
  rw [tIs T2 hi, tl1 T2 hi S2, if_neg i10]
  unfold w_J1_canEncode_fc78d
  rw [if_neg (by decide)]
  unfold w_J1_canEncode_fc78d_b12
  rw [p_and nb1]
  dsimp only
  rw [if_neg i10, tR T2 hi S2, tI T2 hi hr_93, S2.2.2.2.2.1, tP T2 hi hr_93]
  have W3 := (T2.sV9 (f := 3) (x := nI c.length + 1)).1
  rw [e_Ast W3 (show v2 < gL (sV σ2 9 3 i (nI c.length + 1)) 50 from S2.2.2.1) hr_50 (by decide), gN_sV, p_and (vp_in_nI (show c.length < gN σ2 50 v2 by omega) (by have := S2.2.2.2.2.2.2.2.1; omega)), nI_clamp (by omega)]
  refine kk A2 _ v2 ((T2.sV9).sV50 S2.2.1 nf) (S2.app (fun _ => rfl) rfl ?_ ?_ rfl hm hc (fun j hj => ?_) (fun j hj => ?_))
  · rw [gV_sV, if_neg (fun z => absurd z.1 (by decide)), gV_sV, if_neg (fun z => absurd z.2.1 (by decide))]
  · rw [gV_sV, if_neg (fun z => absurd z.1 (by decide)), gV_sV, if_pos ⟨rfl, rfl, rfl⟩, nI_1]; rfl
  · rw [gV_sV, if_neg (fun z => by omega), gV_sV, if_neg (fun z => absurd z.1 (by decide))]
  · have e : j = 0 := Nat.lt_one_iff.mp hj
    subst e
    rw [gV_sV, if_pos ⟨rfl, rfl, rfl⟩]
    decide
/-! strings -/
theorem gl15 : ∀ s : Fin 9, gLen.getD s.val 0 ≤ 15 ∧ (gByt.getD s.val []).length = gLen.getD s.val 0 ∧ ∀ f : Fin 15, fits .byte (.int ((gByt.getD s.val []).getD f.val 0)) = true := by decide +kernel
theorem tcod {post : Int32 → GM → Prop} {g : GM} {s : Nat} (hs : s < gLen.length) (h : post 0 g) : w_J0_coder_7d493 X post px (some (X.2.2.2 s)) g := by
  unfold w_J0_coder_7d493
  rw [if_neg i10]
  refine ⟨s, hs, rfl, ?_⟩
  unfold w_J0_coder_7d493_b14
  exact ⟨rfl, h⟩
theorem tsl {post : Int32 → GM → Prop} {g : GM} {s : Nat} (hs : s < gLen.length) (h : post (nI (gLen.getD s 0)) g) : w_J0_length_8abf5 X post px (some (X.2.2.2 s)) g := by
  unfold w_J0_length_8abf5
  refine ⟨s, hs, rfl, Or.inr (Or.inr ⟨s, hs, rfl, s, hs, rfl, tcod hs ?_⟩)⟩
  have := sh0 (l := gLen.getD s 0) (by have := (gl15 ⟨s, hs⟩).1; exact Nat.lt_of_le_of_lt this (by decide))
  show post (nI (gLen.getD s 0) >>> ((0 : Int32) &&& 31)) g
  rw [this]
  exact h
theorem b_str {post : Option Nat → GM → Prop} {s : Nat} (T : Ts X A σ A' σ' i) (S : Sb σ' i v c) (hi : i < gL σ 9) (hs : s < gLen.length) (hc : c.length + gLen.getD s 0 ≤ 30) (kk : ∀ (A'' : Ad) (σ'' : St) (v'' : Nat), Ts X A σ A'' σ'' i → Sb σ'' i v'' (c ++ gByt.getD s []) → post (some (A.1 9 i)) (hp A'' σ'')) : w_J4_append_15ec4 X post px (some (A.1 9 i)) (some (X.2.2.2 s)) (hp A' σ') := by
  obtain ⟨g1, g2, g3⟩ := gl15 ⟨s, hs⟩
  dsimp only at g1 g2 g3
  unfold w_J4_append_15ec4
  rw [tIs T hi]
  unfold w_J5_append_cf1ce
  rw [if_neg (by intro h; cases h)]
  refine ⟨s, hs, rfl, tsl hs ?_⟩
  rw [tI T hi hr_93, S.2.2.2.2.1, tIs T hi, nI_add]
  refine b_ens T S hi hc (fun A2 σ2 v2 T2 S2 hm => ?_)
  rw [tI T2 hi hr_93, S2.2.2.2.2.1, tIs T2 hi]
  unfold w_J5_putStringAt_47b60
  rw [tIs T2 hi]
  unfold w_J5_inflateIfNeededFor_a7421
  rw [if_neg i10, tI T2 hi hr_91, S2.2.2.2.1]
  refine ⟨s, hs, rfl, tcod hs ?_⟩
  rw [if_pos rfl]
  unfold w_J5_inflateIfNeededFor_a7421_b21
  dsimp only
  rw [tR T2 hi S2, tI T2 hi hr_91, S2.2.2.2.1]
  refine ⟨s, hs, rfl, ?_⟩
  unfold w_J0_getBytes_840e7
  refine ⟨s, hs, rfl, tcod hs ?_⟩
  rw [if_pos rfl]
  refine ⟨s, hs, rfl, s, hs, rfl, Or.inr (Or.inr ⟨s, hs, rfl, ?_⟩)⟩
  rw [sl0 (by omega)]
  have ft : ∀ f, f < gLen.getD s 0 → fits .byte (.int ((gByt.getD s []).getD f 0)) = true := fun f hf => g3 ⟨f, Nat.lt_of_lt_of_le hf g1⟩
  refine e_CpyS T2.1 hs S2.2.2.1 hr_50 (Nat.le_refl _) hm (by omega) (by omega) ft ?_
  have T3 : Ts X A σ A2 (sF σ2 50 v2 (fun f => if c.length ≤ f ∧ f < c.length + gLen.getD s 0 then (gByt.getD s []).getD (f - c.length) 0 else gV σ2 50 f v2)) i := T2.sF50 S2.2.1 (fun f => by
    by_cases e : c.length ≤ f ∧ f < c.length + gLen.getD s 0
    · rw [if_pos e]; exact ft _ (by omega)
    · rw [if_neg e]; exact T2.2.2.2.2.2.2.2.2.2.2.2.1 f v2)
  dsimp only
  rw [tI T3 hi hr_93, tP T3 hi hr_93]
  refine kk A2 _ v2 T3.sV9 (S2.app (fun _ => rfl) rfl ?_ ?_ rfl (by rw [g2]; exact hm) (by rw [g2]; exact hc) (fun j hj => ?_) (fun j hj => ?_))
  · rw [gV_sV, if_neg (fun z => absurd z.2.1 (by decide)), gV_sF, if_neg (fun z => absurd z.1 (by decide))]
  · rw [gV_sV, if_pos ⟨rfl, rfl, rfl⟩, gV_sF, if_neg (fun z => absurd z.1 (by decide)), S2.2.2.2.2.1, nI_add, g2]
  · rw [gV_sV, if_neg (fun z => absurd z.1 (by decide)), gV_sF, if_pos ⟨rfl, rfl⟩, if_neg (by omega)]
  · rw [gV_sV, if_neg (fun z => absurd z.1 (by decide)), gV_sF, if_pos ⟨rfl, rfl⟩, if_pos (by rw [g2] at hj; exact ⟨by omega, by omega⟩), Nat.add_sub_cancel_left]
/-! emptied, its length -/
theorem b_set0 {post : GM → Prop} (T : Ts X A σ A' σ' i) (S : Sb σ' i v c) (hi : i < gL σ 9) (kk : ∀ (A'' : Ad) (σ'' : St) (v'' : Nat), Ts X A σ A'' σ'' i → Sb σ'' i v'' [] → post (hp A'' σ'')) : w_J4_setLength_d00df X post px (some (A.1 9 i)) 0 (hp A' σ') := by
  unfold w_J4_setLength_d00df
  rw [tIs T hi]
  unfold w_J5_setLength_d00df
  rw [if_pos (by decide), tIs T hi]
  refine b_ens (m := 0) T S hi (by decide) (fun A2 σ2 v2 T2 S2 hm => ?_)
  have l0 : (0 : Int32) ≤ nI c.length := nI_pos' (by have := S2.2.2.2.2.2.2.2.2.1; omega)
  rw [tI T2 hi hr_93, S2.2.2.2.2.1, if_pos l0, tI T2 hi hr_93, S2.2.2.2.2.1]
  unfold w_J5_setLength_d00df_b76
  have S0 : ∀ τ : St, (∀ k, gL τ k = gL σ2 k) → gR τ 9 0 i = gR σ2 9 0 i → gV τ 9 1 i = gV σ2 9 1 i → gV τ 9 3 i = 0 → gN τ 50 v2 = gN σ2 50 v2 → Sb τ i v2 [] := fun τ a1 a2 a3 a4 a5 => ⟨by rw [a1]; exact S2.1, a2.trans S2.2.1, by rw [a1]; exact S2.2.2.1, a3.trans S2.2.2.2.1, a4, Nat.zero_le _, by rw [a5]; exact S2.2.2.2.2.2.2.1, by rw [a5]; exact S2.2.2.2.2.2.2.2.1, Nat.zero_le _, fun j hj => absurd hj (Nat.not_lt_zero _)⟩
  by_cases h : nI c.length ≤ 0
  · rw [if_pos h, tP T2 hi hr_93]
    refine kk A2 _ v2 T2.sV9 (S0 _ (fun _ => rfl) rfl ?_ ?_ rfl)
    · rw [gV_sV, if_neg (fun z => absurd z.2.1 (by decide))]
    · rw [gV_sV, if_pos ⟨rfl, rfl, rfl⟩]
  · rw [if_neg h, tP T2 hi hr_92, tP T2.sV9 hi hr_93]
    refine kk A2 _ v2 T2.sV9.sV9 (S0 _ (fun _ => rfl) rfl ?_ ?_ rfl)
    · rw [gV_sV, if_neg (fun z => absurd z.2.1 (by decide)), gV_sV, if_neg (fun z => absurd z.2.1 (by decide))]
    · rw [gV_sV, if_pos ⟨rfl, rfl, rfl⟩]
theorem b_len {post : Int32 → GM → Prop} (T : Ts X A σ A' σ' i) (S : Sb σ' i v c) (hi : i < gL σ 9) : w_J4_length_8abf5 X post px (some (A.1 9 i)) (hp A' σ') = post (nI c.length) (hp A' σ') := by
  unfold w_J4_length_8abf5
  rw [tIs T hi]
  unfold w_J5_length_8abf5
  rw [tI T hi hr_93, S.2.2.2.2.1]
theorem b_init {post : GM → Prop} (T : Ts X A σ A' σ' i) (hi : i < gL σ 9) (h3 : gV σ' 9 3 i = 0) (kk : ∀ (A'' : Ad) (σ'' : St) (v'' : Nat), Ts X A σ A'' σ'' i → Sb σ'' i v'' [] → post (hp A'' σ'')) : w_J4_init_da8c8 X post px (some (A.1 9 i)) (hp A' σ') := by
  unfold w_J4_init_da8c8
  refine ⟨_, rfl, ?_⟩
  unfold w_J5_init_d00df
  refine ⟨_, rfl, ?_⟩
  rw [if_neg i10]
  refine ⟨by decide, by decide, ?_⟩
  refine e_NewA (n := 16) 50 T.2.1 T.1 hr_50 (by decide) (fun A2 W2 hx2 hN2 => ?_)
  have hl := tL9 T hi
  have B2 : Bq σ (sW σ' 50 16) i := T.2.2.2.sW50
  have v0 : gL σ 50 ≤ gL σ' 50 := T.2.2.2.2.1
  have i9 : i < gL (sW σ' 50 16) 9 := by rw [gL_sW, if_neg (by decide)]; exact hl
  have hn2 : gL σ' 50 < gL (sW σ' 50 16) 50 := by rw [gL_sW, if_pos rfl]; omega
  have NX : Nx A A2 σ := ⟨fun k j hj => (hN2.1 k j (by
      by_cases e : k = 50
      · subst e; exact Nat.lt_of_lt_of_le hj v0
      · rw [T.2.2.2.1 k e]; exact hj)).trans (T.2.2.1.1 k j hj), hN2.2.trans T.2.2.1.2⟩
  have gn2 : gN (sW σ' 50 16) 50 (gL σ' 50) = 16 := by rw [gN_sW, if_pos ⟨rfl, rfl⟩]
  have V9 : ∀ f, gV (sW σ' 50 16) 9 f i = gV σ' 9 f i := fun f => by rw [gV_sW, if_neg (fun z => absurd z.1 (by decide))]
  generalize sW σ' 50 16 = τ at *
  have W3 : WF A2 (sR τ 9 0 i (gL σ' 50 + 1)) := WF_sR W2 (show gL σ' 50 + 1 ≤ gL τ 50 + 0 from hn2)
  have T3 : Ts X A σ A2 (sR τ 9 0 i (gL σ' 50 + 1)) i := ⟨W3, hx2, NX, B2.sR9 v0⟩
  rw [tA T3 hi, e_PutR W2 i9 hr_k9 (by decide), ← tA T3 hi, tP T3 hi hr_91]
  refine kk A2 _ (gL σ' 50) T3.sV9 ⟨i9, ?_, hn2, ?_, ?_, Nat.zero_le _, ?_, ?_, Nat.zero_le _, fun j hj => absurd hj (Nat.not_lt_zero _)⟩
  · rw [gR_sV, gR_sR, if_pos ⟨rfl, rfl, rfl⟩]
  · rw [gV_sV, if_pos ⟨rfl, rfl, rfl⟩]
  · rw [gV_sV, if_neg (fun z => absurd z.2.1 (by decide)), gV_sR, V9]; exact h3
  · rw [gN_sV, gN_sR, gn2]; exact Nat.le_refl _
  · rw [gN_sV, gN_sR, gn2]; decide
end BO
