/-! buy, rate -/
theorem own_or0 : ∀ m : Fin 256, ∀ k : Fin 8, (nI m.val ||| ((1 : Int32) <<< (nI k.val &&& 31))).toNatClampNeg < 256 ∧ nI m.val ||| ((1 : Int32) <<< (nI k.val &&& 31)) = nI (nI m.val ||| ((1 : Int32) <<< (nI k.val &&& 31))).toNatClampNeg := by decide +kernel
theorem own_or {m k : Nat} (hm : m < 256) (hk : k ≤ 7) : ∃ p, p < 256 ∧ nI m ||| ((1 : Int32) <<< (nI k &&& 31)) = nI p := ⟨_, (own_or0 ⟨m, hm⟩ ⟨k, by omega⟩).1, (own_or0 ⟨m, hm⟩ ⟨k, by omega⟩).2⟩
section CF
variable {X : Cx} {xs : Nat → Int32} {Ls b i : Nat} {v1 v2 v3 v4 : Option Nat} {g : GM}
theorem q_ofr {A : Ad} {σ : St} {q : Nat} (W : WF A σ) (P : PI σ) (hq : q < gL σ 1) : ∃ oo, gR σ 1 2 q = oo + 1 ∧ oo < gL σ 5 ∧ gV σ 5 0 oo = gV σ 108 q 0 ∧ gV σ 5 1 oo = gV σ 109 q 0 ∧ gV σ 5 2 oo = gV σ 112 q 0 := by
  obtain ⟨ho, ho1, ho2, ho3⟩ := P.2.2.2.1.2.1 q hq
  obtain ⟨oo, hoo⟩ : ∃ oo, gR σ 1 2 q = oo + 1 := ⟨gR σ 1 2 q - 1, by omega⟩
  rw [hoo, Nat.add_sub_cancel] at ho1 ho2 ho3
  refine ⟨oo, hoo, ?_, ho1, ho2, ho3⟩
  have := W.2.2 1 2 q hq
  rw [hoo] at this
  have h2 : oo + 1 ≤ gL σ 5 + 0 := this
  omega
end CF
