/-! crash -/
section CS
variable {A : Ad} {σ : St} {X : Cx} {xs : Nat → Int32} {Ls b i : Nat} {v1 v2 v3 v4 : Option Nat} {g : GM}
theorem cr_Rf {n : Nat} : RfH σ (crS σ n) := ⟨fun k f i hk => crS_H.2.2.2.1 k f i (by omega), fun f _ => crS_H.2.2.2.1 8 f 0 (by decide)⟩
theorem old_Rf {κ : St} {t c : Nat} (M : RfH σ κ) : RfH σ (oldS κ t c) := ⟨fun k f i hk => by rw [old_V (by omega)]; exact M.1 k f i hk, fun f hf => by rw [old_V (by decide)]; exact M.2 f hf⟩
theorem J_Rf {κ : St} {x : Int64} (M : RfH σ κ) : RfH σ (sJ κ x) := ⟨fun k f i hk => by rw [gV_sJ]; exact M.1 k f i hk, fun f hf => by rw [gV_sJ]; exact M.2 f hf⟩
theorem new_Rf {κ κ' : St} {m n : Nat} (M : RfH σ κ) (G : NgH κ κ' m n) : RfH σ κ' := ⟨fun k f i hk => by rw [G.2.1 k (by simp only [List.mem_cons, List.not_mem_nil, or_false, not_or]; omega)]; exact M.1 k f i hk, fun f hf => by rw [G.2.1 8 (by decide)]; exact M.2 f hf⟩
end CS
