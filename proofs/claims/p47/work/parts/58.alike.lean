/-! how alike two stacks are -/
def al (a b : Nat → Int32) : Nat → Nat → Nat
  | 0, p => p
  | k + 1, p => if a p = b p then al a b k (p + 1) else p
def lkv (a b : Nat → Int32) (m n : Nat) : UInt32 := FP.fdiv (FP.i2f (nI (al a b (min m n) 0))) (FP.i2f (nI (max m n)))
theorem al_cong {a b a' b' : Nat → Int32} : ∀ (k p : Nat), (∀ q, q < p + k → a q = a' q) → (∀ q, q < p + k → b q = b' q) → al a b k p = al a' b' k p
  | 0, _, _, _ => rfl
  | k + 1, p, h1, h2 => by
    rw [al, al, h1 p (by omega), h2 p (by omega), al_cong k (p + 1) (fun q hq => h1 q (by omega)) (fun q hq => h2 q (by omega))]
theorem lkv_cong {a b a' b' : Nat → Int32} {m n : Nat} (h1 : ∀ q, q < m → a q = a' q) (h2 : ∀ q, q < n → b q = b' q) : lkv a b m n = lkv a' b' m n := by
  unfold lkv
  rw [al_cong (a' := a') (b' := b') (min m n) 0 (fun q hq => h1 q (by omega)) (fun q hq => h2 q (by omega))]
theorem nI_max {m n : Nat} (hm : m < 1000) (hn : n < 1000) : (if nI m < nI n then nI n else nI m) = nI (max m n) := by
  by_cases c : m < n
  · rw [if_pos (nI_lt c (by omega)), Nat.max_eq_right (by omega)]
  · rw [if_neg (nI_nlt (by omega) (by omega)), Nat.max_eq_left (by omega)]
theorem nI_min {m n : Nat} (hm : m < 1000) (hn : n < 1000) : (if nI n < nI m then nI n else nI m) = nI (min m n) := by
  by_cases c : n < m
  · rw [if_pos (nI_lt c (by omega)), Nat.min_eq_right (by omega)]
  · rw [if_neg (nI_nlt (by omega) (by omega)), Nat.min_eq_left (by omega)]
theorem nI_nz {m : Nat} (h1 : 1 ≤ m) (h2 : m < 1000) : ¬ nI m = 0 := nI_ne0 (by omega) (by omega)
section AL
variable {A : Ad} {σ : St} {X : Cx} {px : String → GM → Prop}
theorem q_ail {post : UInt32 → GM → Prop} {i1 i2 s : Nat} {w : Int32} (W : WF A σ) (h1 : i1 < gL σ 6) (h2 : i2 < gL σ 6) (a1 : i1 < gL σ 16) (a2 : i2 < gL σ 16) (r1 : gR σ 6 0 i1 = i1 + 1) (r2 : gR σ 6 0 i2 = i2 + 1) (n1 : gN σ 16 i1 = 6) (n2 : gN σ 16 i2 = 6) (hs : s ≤ 6) : ∀ (k F p : Nat), p + k = s → k < F → w_X6_likenessTo_l33 X post px F (some (A.1 6 i1)) (some (A.1 6 i2)) w (nI s) (nI p) (hp A σ) = w_X6_likenessTo_b62 X post px w (nI (al (fun j => gV σ 16 j i1) (fun j => gV σ 16 j i2) k p)) (hp A σ) := by
  intro k
  induction k with
  | zero =>
    intro F p hp0 hF
    obtain ⟨F, rfl⟩ : ∃ F', F = F' + 1 := ⟨F - 1, by omega⟩
    rw [w_X6_likenessTo_l33, if_pos (nI_le (by omega) (by omega)), al]
  | succ k ih =>
    intro F p hp0 hF
    obtain ⟨F, rfl⟩ : ∃ F', F = F' + 1 := ⟨F - 1, by omega⟩
    have hv : vp_in (nI p) 6 := vp_in_nI (by omega) (by omega)
    have hc : (nI p).toNatClampNeg = p := nI_clamp (by omega)
    rw [w_X6_likenessTo_l33, if_neg (nI_ge (by omega) (by omega)), eR_6_0 W h1, r1, hr_s, e_Ald W a1 hak_16 (by decide), n1, p_and hv, hc, eR_6_0 W h2, r2, hr_s, e_Ald W a2 hak_16 (by decide), n2, p_and hv, hc, al]
    by_cases c : gV σ 16 p i1 = gV σ 16 p i2
    · rw [if_pos c, if_pos c, nI_1]
      exact ih F (p + 1) (by omega) (by omega)
    · rw [if_neg c, if_neg c]
theorem q_ai {post : UInt32 → GM → Prop} {i1 i2 m n : Nat} (W : WF A σ) (h1 : i1 < gL σ 6) (h2 : i2 < gL σ 6) (a1 : i1 < gL σ 16) (a2 : i2 < gL σ 16) (r1 : gR σ 6 0 i1 = i1 + 1) (r2 : gR σ 6 0 i2 = i2 + 1) (n1 : gN σ 16 i1 = 6) (n2 : gN σ 16 i2 = 6) (e1 : gV σ 6 1 i1 = nI m) (e2 : gV σ 6 1 i2 = nI n) (hm : 1 ≤ m) (hm6 : m ≤ 6) (hn6 : n ≤ 6) : w_X6_likenessTo X post px (some (A.1 6 i1)) (some (A.1 6 i2)) (hp A σ) = post (lkv (fun j => gV σ 16 j i1) (fun j => gV σ 16 j i2) m n) (hp A σ) := by
  have hz : ¬ nI (max m n) = 0 := nI_nz (by omega) (by omega)
  unfold w_X6_likenessTo
  rw [e_GetI W h1 hok_6_1, e1, e_GetI W h2 hok_6_1, e2, nI_max (by omega) (by omega), if_neg hz, e_GetI W h1 hok_6_1, e1, e_GetI W h2 hok_6_1, e2, nI_min (by omega) (by omega), show (0 : Int32) = nI 0 from rfl, q_ail W h1 h2 a1 a2 r1 r2 n1 n2 (by omega) (min m n) 3000 0 (by omega) (by omega)]
  unfold w_X6_likenessTo_b62
  rw [p_and (fl_div hz)]
  rfl
end AL
section CS
variable {X : Cx} {xs : Nat → Int32} {Ls b i : Nat} {v1 v2 v3 v4 : Option Nat} {g : GM}
end CS
