/-! cases that write columns -/
theorem q_rng {v a : Int32} {n : Nat} (h : ¬ (v < a ∨ nI n < v)) (ha : ¬ a < 0) (hn : n < 1000000) : ∃ p, p ≤ n ∧ v = nI p := by
  have h1 : ¬ v < a := fun z => h (Or.inl z)
  have h2 : ¬ nI n < v := fun z => h (Or.inr z)
  have h3 : ¬ v < 0 := by
    rw [Int32.lt_iff_toInt_lt] at h1 ha ⊢
    have e : (0 : Int32).toInt = 0 := by decide
    omega
  obtain ⟨p, hp, rfl⟩ := nI_of h3
  refine ⟨p, ?_, rfl⟩
  rcases Nat.lt_or_ge n p with q | q
  · exact absurd (nI_lt q hp) h2
  · exact q
theorem sm_cong {f f' : Nat → Int32} : ∀ {n : Nat}, (∀ x, x < n → f' x = f x) → sm f' n = sm f n
  | 0, _ => rfl
  | n + 1, h => by
    rw [sm, sm, h n (Nat.lt_succ_self n), sm_cong (fun x hx => h x (Nat.lt_succ_of_lt hx))]
theorem sm_ch {f f' : Nat → Int32} {d : Nat} : ∀ {n : Nat}, d < n → (∀ x, x < n → x ≠ d → f' x = f x) → sm f' n = sm f n + (f' d - f d)
  | 0, hd, _ => absurd hd (Nat.not_lt_zero _)
  | n + 1, hd, h => by
    rw [sm, sm]
    by_cases e : d = n
    · subst e
      rw [sm_cong (f := f) (fun x hx => h x (Nat.lt_succ_of_lt hx) (by omega))]
      have : ∀ a b c : Int32, a + c = a + b + (c - b) := fun a b c => by
        rw [Int32.add_assoc, Int32.add_comm b, Int32.sub_add_cancel]
      exact this _ _ _
    · rw [sm_ch (by omega) (fun x hx hne => h x (Nat.lt_succ_of_lt hx) hne), h n (Nat.lt_succ_self n) (fun z => e z.symm)]
      rw [Int32.add_assoc, Int32.add_assoc, Int32.add_comm (f n)]
section CE
variable {X : Cx} {xs : Nat → Int32} {Ls b i : Nat} {v1 v2 v3 v4 : Option Nat} {g : GM}
end CE
