/-! states up to their ghost columns -/
theorem rk_hA0 : ∀ k : Fin 60, hA k.val < 7 := by decide
theorem rk_hA {k : Nat} (h : rk k = true) : hA k < 7 := by
  unfold rk at h
  simp only [Bool.and_eq_true, decide_eq_true_eq] at h
  exact rk_hA0 ⟨k, h.1⟩
section GS
variable {A : Ad} {σ κ τ : St} {X : Cx} {o : Option Nat} {g : GM}
theorem hp_rk (W : WF A κ) (hV : ∀ k f i, rk k = true → gV τ k f i = gV κ k f i) (hR : ∀ k f i, rk k = true → gR τ k f i = gR κ k f i) (hN : ∀ k i, rk k = true → gN τ k i = gN κ k i) : hp A τ = hp A κ := by
  funext q
  unfold hp
  cases hr : A.2.1 q with
  | none => rfl
  | some r =>
    obtain ⟨k, i⟩ := r
    have h9 := (W.2.1 q k i hr).2.2
    show some (hc A τ k i) = some (hc A κ k i)
    have h7 := rk_hA h9
    have eV : ∀ f, gV τ k f i = gV κ k f i := fun f => hV k f i h9
    have eR : ∀ f, gR τ k f i = gR κ k f i := fun f => hR k f i h9
    have eN : gN τ k i = gN κ k i := hN k i h9
    unfold hc hf ha
    simp only [eV, eR, eN]
    by_cases h1 : hC k = 99
    · rw [if_pos h1, if_pos h1]
      by_cases h4 : hA k < 4
      · rw [if_pos h4, if_pos h4]
      · rw [if_neg h4, if_neg h4, if_pos h7, if_pos h7]
    · rw [if_neg h1, if_neg h1]
theorem WF_rk (W : WF A κ) (hL : ∀ k, gL τ k = gL κ k) (hR : ∀ k f i, gR τ k f i = gR κ k f i) : WF A τ := by
  refine ⟨fun k i h hi => W.1 k i h (by rw [← hL]; exact hi), fun q k i h => ?_, fun k f i hi => ?_⟩
  · obtain ⟨h1, h2, h3⟩ := W.2.1 q k i h
    exact ⟨h1, by rw [hL]; exact h2, h3⟩
  · rw [hR, hL]
    exact W.2.2 k f i (by rw [← hL]; exact hi)
theorem SD.gh (S : SD X o κ g) (hL : ∀ k, gL τ k = gL κ k) (hV : ∀ k f i, rk k = true → gV τ k f i = gV κ k f i) (hR : ∀ k f i, gR τ k f i = gR κ k f i) (hN : ∀ k i, gN τ k i = gN κ k i) : SD X o τ g := by
  obtain ⟨A, W, hx, ho, rfl⟩ := S
  exact ⟨A, WF_rk W hL hR, hx, ho, (hp_rk W hV (fun k f i _ => hR k f i) (fun k i _ => hN k i)).symm⟩
theorem SD.gV {k f i : Nat} {x : Int32} (S : SD X o κ g) (h : rk k = false) : SD X o (sV κ k f i x) g :=
  S.gh (fun _ => rfl) (fun k' f' i' h' => by rw [gV_sV, if_neg (fun z => by rw [z.1, h] at h'; cases h')]) (fun _ _ _ => rfl) (fun _ _ => rfl)
theorem SD.gJ {x : Int64} (S : SD X o κ g) : SD X o (sJ κ x) g := S.gh (fun _ => rfl) (fun _ _ _ _ => rfl) (fun _ _ _ => rfl) (fun _ _ => rfl)
theorem SD.mk (W : WF A σ) (hx : hX X A) : SD X (some (A.1 7 0)) σ (hp A σ) := ⟨A, W, hx, rfl, rfl⟩
/-- from the columns that the law's own invariant reads -/
theorem RN_of {n : Nat} (R : RN n σ) (l1 : gL τ 1 = gL σ 1) (l4 : gL τ 4 = gL σ 4) (a1 : ∀ b, gV τ 1 12 b = gV σ 1 12 b) (a2 : ∀ b, gV τ 20 1 b = gV σ 20 1 b) (a3 : ∀ b, gV τ 1 10 b = gV σ 1 10 b) (a4 : ∀ b, gV τ 1 7 b = gV σ 1 7 b) (a5 : ∀ b, gV τ 4 2 b = gV σ 4 2 b) (a6 : ∀ b, gV τ 4 3 b = gV σ 4 3 b) (a7 : gV τ 7 7 0 = gV σ 7 7 0) (a8 : gV τ 7 8 0 = gV σ 7 8 0) (a9 : gV τ 7 12 0 = gV σ 7 12 0) : RN n τ := by
  unfold RN
  simp only [l1, l4, a1, a2, a3, a4, a5, a6, a7, a8, a9]
  exact R
theorem RN_rk {n : Nat} (R : RN n κ) (hL : ∀ k, gL τ k = gL κ k) (hV : ∀ k f i, rk k = true → gV τ k f i = gV κ k f i) : RN n τ := RN_of R (hL 1) (hL 4) (fun b => hV 1 12 b rfl) (fun b => hV 20 1 b rfl) (fun b => hV 1 10 b rfl) (fun b => hV 1 7 b rfl) (fun b => hV 4 2 b rfl) (fun b => hV 4 3 b rfl) (hV 7 7 0 rfl) (hV 7 8 0 rfl) (hV 7 12 0 rfl)
end GS
