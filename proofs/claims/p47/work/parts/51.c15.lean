/-! couldHave, reachByDevices -/
section CR
variable {A : Ad} {σ σ' : St} {X : Cx} {px : String → GM → Prop} {b d : Nat}
theorem q_rbl {post : Int32 → GM → Prop} (W : WF A σ) (P : PI σ) (hb : b < gL σ 1) : ∀ (k f i : Nat), i + k = gL σ 2 → k < f → w_X7_reachByDevices_l11 X post px f (some (A.1 7 0)) (some (A.1 1 b)) (sm (fun d => cu_op σ b d) i) (nI i) (hp A σ) = post (sm (fun d => cu_op σ b d) (gL σ 2)) (hp A σ) := by
  have Q := P.1
  have h12 : gL σ 2 ≤ 12 := P.2.1.2.2.2.2.2.2.2.1
  have hL : Lst σ 30 (gL σ 2) := P.2.2.2.2.2.2.2.1
  intro k
  induction k with
  | zero =>
    intro f i hi hf
    obtain ⟨f, rfl⟩ : ∃ f', f = f' + 1 := ⟨f - 1, by omega⟩
    rw [w_X7_reachByDevices_l11, s7_0 W Q, e_Is' W hL.1 hcl_30, l_size W (Or.inl rfl) hL, if_pos (nI_le (by omega) (by omega)), show i = gL σ 2 by omega]
  | succ k ih =>
    intro f i hi hf
    obtain ⟨f, rfl⟩ : ∃ f', f = f' + 1 := ⟨f - 1, by omega⟩
    have hil : i < gL σ 2 := by omega
    have ih' := ih f (i + 1) (by omega) (by omega)
    rw [sm] at ih'
    rw [w_X7_reachByDevices_l11, s7_0 W Q, e_Is' W hL.1 hcl_30, l_size W (Or.inl rfl) hL, if_neg (nI_ge (by omega) (by omega))]
    rw [s7_0 W Q, e_Is' W hL.1 hcl_30, l_get W (Or.inl rfl) hL hil]
    rw [show hE (30 + 10) = 2 from rfl, e_Is' W hil hcl_2, e_Is' W (sL_7 Q) hcl_7, q_open W P hb hil]
    unfold w_X7_reachByDevices_b46
    rw [nI_1]
    rcases cu_01 σ b i with c | c
    · rw [c, Int32.add_zero] at ih'
      rw [c, if_pos rfl]
      exact ih'
    · rw [c] at ih'
      rw [c, if_neg (by decide)]
      exact ih'
end CR
section CS
variable {X : Cx} {xs : Nat → Int32} {Ls b i : Nat} {v1 v2 v3 v4 : Option Nat} {g : GM}
end CS
