/-! whole columns set: copies -/
def sF (σ : St) (k m : Nat) (F : Nat → Int32) : St := (σ.1, fun k' f' i' => if k' = k ∧ i' = m then F f' else gV σ k' f' i', σ.2.2)
def sG (σ : St) (k m : Nat) (F : Nat → Nat) : St := (σ.1, σ.2.1, fun k' f' i' => if k' = k ∧ i' = m then F f' else gR σ k' f' i', σ.2.2.2)
theorem gL_sF {σ : St} {k m : Nat} {F : Nat → Int32} {k' : Nat} : gL (sF σ k m F) k' = gL σ k' := Eq.trans rfl rfl
theorem gV_sF {σ : St} {k m : Nat} {F : Nat → Int32} {k' f' i' : Nat} : gV (sF σ k m F) k' f' i' = if k' = k ∧ i' = m then F f' else gV σ k' f' i' := Eq.trans rfl rfl
theorem gR_sF {σ : St} {k m : Nat} {F : Nat → Int32} {k' f' i' : Nat} : gR (sF σ k m F) k' f' i' = gR σ k' f' i' := Eq.trans rfl rfl
theorem gN_sF {σ : St} {k m : Nat} {F : Nat → Int32} {k' i' : Nat} : gN (sF σ k m F) k' i' = gN σ k' i' := Eq.trans rfl rfl
theorem gL_sG {σ : St} {k m : Nat} {F : Nat → Nat} {k' : Nat} : gL (sG σ k m F) k' = gL σ k' := Eq.trans rfl rfl
theorem gV_sG {σ : St} {k m : Nat} {F : Nat → Nat} {k' f' i' : Nat} : gV (sG σ k m F) k' f' i' = gV σ k' f' i' := Eq.trans rfl rfl
theorem gR_sG {σ : St} {k m : Nat} {F : Nat → Nat} {k' f' i' : Nat} : gR (sG σ k m F) k' f' i' = if k' = k ∧ i' = m then F f' else gR σ k' f' i' := Eq.trans rfl rfl
theorem gN_sG {σ : St} {k m : Nat} {F : Nat → Nat} {k' i' : Nat} : gN (sG σ k m F) k' i' = gN σ k' i' := Eq.trans rfl rfl
theorem WF_sF {A : Ad} {σ : St} {k m : Nat} {F : Nat → Int32} : WF A (sF σ k m F) = WF A σ := Eq.trans rfl rfl
section CP
variable {A : Ad} {σ : St} {k i j m c : Nat} {X : Cx}
theorem WF_sG {F : Nat → Nat} (W : WF A σ) (h : ∀ f, F f ≤ gL σ (hG k f) + hS k f) : WF A (sG σ k m F) := by
  refine ⟨W.1, W.2.1, fun k' f' i' hi => ?_⟩
  rw [gR_sG]
  by_cases e : k' = k ∧ i' = m
  · rw [if_pos e, e.1]; exact h f'
  · rw [if_neg e]; exact W.2.2 k' f' i' hi
theorem hc_sF_ne {F : Nat → Int32} {k' i' : Nat} (h : ¬ (k' = k ∧ i' = m)) : hc A (sF σ k m F) k' i' = hc A σ k' i' := by
  have hV : ∀ f', gV (sF σ k m F) k' f' i' = gV σ k' f' i' := fun f' => by rw [gV_sF, if_neg h]
  unfold hc hf ha
  simp only [hV, gR_sF, gN_sF, show gJ (sF σ k m F) = gJ σ from rfl, show gD (sF σ k m F) = gD σ from rfl]
theorem hc_sG_ne {F : Nat → Nat} {k' i' : Nat} (h : ¬ (k' = k ∧ i' = m)) : hc A (sG σ k m F) k' i' = hc A σ k' i' := by
  have hV : ∀ f', gR (sG σ k m F) k' f' i' = gR σ k' f' i' := fun f' => by rw [gR_sG, if_neg h]
  unfold hc hf ha
  simp only [hV, gV_sG, gN_sG, show gJ (sG σ k m F) = gJ σ from rfl, show gD (sG σ k m F) = gD σ from rfl]
/-- an int-like array's content set -/
theorem gup_sF {a : Nat} {F : Nat → Int32} (W : WF A σ) (hm : m < gL σ k) (h : hak k a = true) (h4 : a < 4) : gup (hp A σ) (A.1 k m) (.inl (a, gN σ k m, .inl F)) = hp A (sF σ k m F) := by
  refine hp_up W (hak_rk h) hm ?_ (fun k' i' => hc_sF_ne)
  rw [hc_arr (hak_spec h).1, ha_I h h4, (hak_spec h).2, gN_sF]
  have : (fun j => gV (sF σ k m F) k j m) = F := by funext j; rw [gV_sF, if_pos ⟨rfl, rfl⟩]
  rw [this]
theorem gup_sG {F : Nat → Nat} (W : WF A σ) (hm : m < gL σ k) (h : hak k 4 = true) : gup (hp A σ) (A.1 k m) (.inl (4, gN σ k m, .inr (.inr (.inr (.inr (fun f => hr A (hE k) (F f))))))) = hp A (sG σ k m F) := by
  refine hp_up W (hak_rk h) hm ?_ (fun k' i' => hc_sG_ne)
  rw [hc_arr (hak_spec h).1, ha_Q h (by omega) (by omega), (hak_spec h).2, gN_sG]
  have : (fun j => hr A (hE k) (gR (sG σ k m F) k j m)) = fun f => hr A (hE k) (F f) := by funext j; rw [gR_sG, if_pos ⟨rfl, rfl⟩]
  rw [this]
theorem hr_some {t r y : Nat} (h : hr A t r = some y) : ∃ q, r = q + 1 ∧ y = A.1 t q := by
  cases r with
  | zero => cases h
  | succ q => exact ⟨q, rfl, (Option.some.inj h).symm⟩
theorem e_CpyQ {K : GM → Prop} {t c' : Nat} (W : WF A σ) (hj : j < gL σ k) (hm : m < gL σ k) (h : hak k 4 = true) (ht : hE k = t) (hc' : hok t c' 0 (hT t 0) = true) (h11 : c' < 11) (h1 : c ≤ gN σ k j) (h2 : c ≤ gN σ k m) (h3 : c < 2 ^ 31) (kk : K (hp A (sG σ k m (fun f => if f < c then gR σ k f j else gR σ k f m)))) : wCpyQ (hp A σ) (some (A.1 k j)) 0 (some (A.1 k m)) 0 (nI c) K := by
  have e1 := (hp_arr W hj h).trans (by rw [ha_Q h (by omega) (by omega)])
  have e2 := (hp_arr W hm h).trans (by rw [ha_Q h (by omega) (by omega)])
  have z0 : (0 : Int32).toNatClampNeg = 0 := rfl
  refine ⟨_, _, _, _, _, _, rfl, e1, rfl, e2, by decide, by decide, nI_pos h3, ?_, ?_, ?_, ?_⟩
  · rw [z0, nI_clamp h3]; omega
  · rw [z0, nI_clamp h3]; omega
  · intro i hi y hy
    rw [z0] at hy
    obtain ⟨q, hq, rfl⟩ := hr_some hy
    have hw := W.2.2 k (0 + i) j hj
    unfold hG hS at hw
    rw [if_pos (hak_spec h).1, if_pos (hak_spec h).1, ht, hq] at hw
    obtain ⟨g1, g2, -, -⟩ := hok_spec hc'
    rw [ht]
    exact ⟨c', _, (hp_at W (hok_rk hc') (by omega)).trans (by rw [hc_obj g1 g2]), h11⟩
  · rw [z0, nI_clamp h3]
    have : va_cpy (fun j_1 => hr A (hE k) (gR σ k j_1 j)) (fun j_1 => hr A (hE k) (gR σ k j_1 m)) 0 0 c = fun f => hr A (hE k) (if f < c then gR σ k f j else gR σ k f m) := by
      funext f
      unfold va_cpy
      by_cases hf : f < c
      · rw [if_pos ⟨Nat.zero_le _, by omega⟩, if_pos hf, Nat.zero_add, Nat.sub_zero]
      · rw [if_neg (by omega), if_neg hf]
    rw [this, gup_sG W hm h]
    exact kk
end CP
