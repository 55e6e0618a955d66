/-! writeBuild: the reference's side -/
section W8
variable {A A' A'' : Ad} {σ σ' τ κ κ' : St} {X : Cx} {px : String → GM → Prop} {i v m n j f b : Nat} {x y : Int32} {c d : List Int32}
def Wq (σ κ : St) : Prop := (∀ k, k ≠ 9 → k ≠ 50 → gL κ k = gL σ k) ∧ (∀ k, k ≠ 8 → k ≠ 9 → k ≠ 50 → ∀ f j, gV κ k f j = gV σ k f j) ∧ (∀ f, f ≠ 36 → gV κ 8 f 0 = gV σ 8 f 0) ∧ (∀ k, k ≠ 8 → k ≠ 9 → k ≠ 50 → ∀ f j, gR κ k f j = gR σ k f j) ∧ (∀ k, k ≠ 9 → k ≠ 50 → ∀ j, gN κ k j = gN σ k j)
theorem Wq.tr (h : Wq σ τ) (h' : Wq τ κ) : Wq σ κ := ⟨fun k a b => (h'.1 k a b).trans (h.1 k a b), fun k a b c f j => (h'.2.1 k a b c f j).trans (h.2.1 k a b c f j), fun f a => (h'.2.2.1 f a).trans (h.2.2.1 f a), fun k a b c f j => (h'.2.2.2.1 k a b c f j).trans (h.2.2.2.1 k a b c f j), fun k a b j => (h'.2.2.2.2 k a b j).trans (h.2.2.2.2 k a b j)⟩
theorem Wq.bq (B : Bq σ κ i) : Wq σ κ := ⟨fun k _ b => B.1 k b, fun k _ b c f j => B.2.2.1 k b c f j, fun f _ => B.2.2.1 8 (by decide) (by decide) f 0, fun k _ b c f j => B.2.2.2.1 k b c f j, fun k _ b j => B.2.2.2.2.1 k b j⟩
theorem Wq.s36 : Wq σ (sV σ 8 36 0 x) := ⟨fun _ _ _ => rfl, fun k a _ _ f j => by rw [gV_sV, if_neg (fun z => a z.1)], fun f a => by rw [gV_sV, if_neg (fun z => a z.2.1)], fun _ _ _ _ _ _ => rfl, fun _ _ _ _ => rfl⟩
theorem Wq.s9 : Wq σ (sW σ 9 n) := ⟨fun k a _ => by rw [gL_sW, if_neg a], fun k _ a _ f j => by rw [gV_sW, if_neg (fun z => a z.1)], fun f _ => by rw [gV_sW, if_neg (fun z => absurd z.1 (by decide))], fun k _ a _ f j => by rw [gR_sW, if_neg (fun z => a z.1)], fun k a _ j => by rw [gN_sW, if_neg (fun z => a z.1)]⟩
theorem Wq.s34 : Wq σ (sR σ 8 34 0 n) := ⟨fun _ _ _ => rfl, fun _ _ _ _ _ _ => rfl, fun _ _ => rfl, fun k a _ _ f j => by rw [gR_sR, if_neg (fun z => a z.1)], fun _ _ _ _ => rfl⟩
theorem Wq.sJ {x : Int64} : Wq σ (sJ σ x) := ⟨fun _ _ _ => rfl, fun _ _ _ _ _ _ => rfl, fun _ _ => rfl, fun _ _ _ _ _ _ => rfl, fun _ _ _ _ => rfl⟩
theorem Bq.le (B : Bq σ σ' i) (k : Nat) : gL σ k ≤ gL σ' k := by
  by_cases e : k = 50
  · rw [e]; exact B.2.1
  · rw [B.1 k e]; exact Nat.le_refl _
end W8
