/-! worstGroup -/
def wg (F : Nat → Int32) : Nat → Nat
  | 0 => 0
  | i + 1 => if i = 0 then 0 else if F i ≤ F (wg F i) then wg F i else i
theorem wg_le (F : Nat → Int32) : ∀ i, wg F (i + 1) ≤ i
  | 0 => Nat.le_refl _
  | i + 1 => by
    rw [wg, if_neg (Nat.succ_ne_zero i)]
    by_cases h : F (i + 1) ≤ F (wg F (i + 1))
    · rw [if_pos h]; exact Nat.le_succ_of_le (wg_le F i)
    · rw [if_neg h]; exact Nat.le_refl _
theorem wg_cong {F G : Nat → Int32} : ∀ n, (∀ x, x < n → F x = G x) → wg F n = wg G n
  | 0, _ => rfl
  | n + 1, h => by
    rw [wg, wg]
    by_cases e : n = 0
    · rw [if_pos e, if_pos e]
    · rw [if_neg e, if_neg e, wg_cong n (fun x hx => h x (Nat.lt_succ_of_lt hx)), h n (Nat.lt_succ_self n)]
      obtain ⟨m, rfl⟩ : ∃ m, n = m + 1 := ⟨n - 1, by omega⟩
      rw [h (wg G (m + 1)) (by have := wg_le G m; omega)]
section WG
variable {A : Ad} {σ : St} {X : Cx} {px : String → GM → Prop} {post : Int32 → GM → Prop}
theorem q_wgl (W : WF A σ) (Q : P0 σ) (hL : Lst σ 33 (gL σ 4)) (h30 : gL σ 4 ≤ 30) : ∀ (k f i : Nat), 1 ≤ i → i + k = gL σ 4 → k < f → w_X7_worstGroup_l35 X post px f (some (A.1 7 0)) (some (A.1 4 (wg (fun x => gV σ 4 2 x) i))) (nI i) (hp A σ) = post (gV σ 4 0 (wg (fun x => gV σ 4 2 x) (gL σ 4))) (hp A σ) := by
  intro k
  induction k with
  | zero =>
    intro f i h1 hi hf
    obtain ⟨f, rfl⟩ : ∃ f', f = f' + 1 := ⟨f - 1, by omega⟩
    have hw : wg (fun x => gV σ 4 2 x) i < gL σ 4 := by
      obtain ⟨m, rfl⟩ : ∃ m, i = m + 1 := ⟨i - 1, by omega⟩
      have := wg_le (fun x => gV σ 4 2 x) m
      omega
    rw [w_X7_worstGroup_l35, s7_3 W Q, e_Is' W hL.1 hcl_33, l_size W (Or.inr (Or.inr (Or.inr rfl))) hL, if_pos (nI_le (by omega) (by omega)), e_GetI W hw hok_4_0, show i = gL σ 4 by omega]
  | succ k ih =>
    intro f i h1 hi hf
    obtain ⟨f, rfl⟩ : ∃ f', f = f' + 1 := ⟨f - 1, by omega⟩
    have hil : i < gL σ 4 := by omega
    have hw : wg (fun x => gV σ 4 2 x) i < gL σ 4 := by
      obtain ⟨m, rfl⟩ : ∃ m, i = m + 1 := ⟨i - 1, by omega⟩
      have := wg_le (fun x => gV σ 4 2 x) m
      omega
    rw [w_X7_worstGroup_l35, s7_3 W Q, e_Is' W hL.1 hcl_33, l_size W (Or.inr (Or.inr (Or.inr rfl))) hL, if_neg (nI_ge (by omega) (by omega))]
    rw [s7_3 W Q, e_Is' W hL.1 hcl_33, l_get W (Or.inr (Or.inr (Or.inr rfl))) hL hil]
    rw [show hE (33 + 10) = 4 from rfl, e_Is' W hil hcl_4, e_GetI W hil hok_4_2, e_GetI W hw hok_4_2]
    unfold w_X7_worstGroup_b71
    have ih' := ih f (i + 1) (by omega) (by omega) (by omega)
    rw [show wg (fun x => gV σ 4 2 x) (i + 1) = if gV σ 4 2 i ≤ gV σ 4 2 (wg (fun x => gV σ 4 2 x) i) then wg (fun x => gV σ 4 2 x) i else i from if_neg (by omega)] at ih'
    rw [nI_1]
    by_cases e : gV σ 4 2 i ≤ gV σ 4 2 (wg (fun x => gV σ 4 2 x) i)
    · rw [if_pos e]
      rw [if_pos e] at ih'
      exact ih'
    · rw [if_neg e]
      rw [if_neg e] at ih'
      exact ih'
theorem q_wg1 (W : WF A σ) (Q : P0 σ) (hL : Lst σ 33 (gL σ 4)) (h30 : gL σ 4 ≤ 30) (h1 : 1 ≤ gL σ 4) : w_X7_worstGroup_l35 X post px 3000 (some (A.1 7 0)) (some (A.1 4 0)) 1 (hp A σ) = post (gV σ 4 0 (wg (fun x => gV σ 4 2 x) (gL σ 4))) (hp A σ) := q_wgl W Q hL h30 (gL σ 4 - 1) 3000 1 (by omega) (by omega) (by omega)
end WG
section CM
variable {X : Cx} {xs : Nat → Int32} {Ls b i : Nat} {v1 v2 v3 v4 : Option Nat} {g : GM}
end CM
