/-! cases with devices -/
theorem q_has {A : Ad} {σ : St} {j : Nat} (W : WF A σ) (P : PI σ) (hj : j < gL σ 2) : (gR σ 2 3 j = 0 ∧ gV σ 103 j 0 = -1) ∨ ∃ b, b < gL σ 1 ∧ gR σ 2 3 j = b + 1 ∧ gV σ 103 j 0 = nI b := by
  have h1 := (P.2.2.1.1 j hj).2.2.2.1
  cases hR : gR σ 2 3 j with
  | zero => exact Or.inl ⟨rfl, by rw [h1, hR]; rfl⟩
  | succ b =>
    refine Or.inr ⟨b, ?_, rfl, by rw [h1, hR, nI_pred]⟩
    have := W.2.2 2 3 j hj
    rw [hR] at this
    have h2 : b + 1 ≤ gL σ 1 + 0 := this
    omega
theorem nI_nm1 {b : Nat} (h : b ≤ 40) : (nI b = -1) = False := by
  refine eq_false (fun z => ?_)
  have := congrArg Int32.toInt z
  rw [nI_toInt (by omega)] at this
  have e : (-1 : Int32).toInt = -1 := by decide
  omega
theorem band1 (x y : Int32) (s : Int32) : (((x &&& y) >>> s) &&& 1 = 1) = ((x >>> s) &&& 1 = 1 ∧ (y >>> s) &&& 1 = 1) := by
  have e : (x &&& y) >>> s = (x >>> s) &&& (y >>> s) := Int32.toBitVec_inj.mp (by simp [BitVec.sshiftRight_and_distrib])
  rw [e]
  generalize x >>> s = a
  generalize y >>> s = b
  have k : ∀ c : Int32, c &&& 1 = nI (c.toBitVec.toNat % 2) := fun c => pk_and c 1 (by decide)
  have k1 : ∀ c : Int32, (c &&& 1 = 1) = (c.toBitVec.toNat % 2 = 1) := fun c => by
    rw [k c]
    have h2 : c.toBitVec.toNat % 2 < 2 := Nat.mod_lt _ (by decide)
    exact propext (nI_eq (b := 1) (by omega) (by omega))
  rw [k1, k1, k1]
  have e2 : (a &&& b).toBitVec.toNat = a.toBitVec.toNat &&& b.toBitVec.toNat := by simp
  rw [e2]
  exact propext Nat.and_mod_two_eq_one
section CD
variable {X : Cx} {xs : Nat → Int32} {Ls b i : Nat} {v1 v2 v3 v4 : Option Nat} {g : GM}
end CD
