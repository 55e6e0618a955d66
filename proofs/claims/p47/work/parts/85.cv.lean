/-! THE VISIBLE PART of a state: what the sum and the checks of the law read -/
def vk (k : Nat) : Bool := decide (k < 5) || decide (k = 7) || decide (k = 20) || (decide (100 ≤ k) && decide (k ≤ 112))
def cv (σ : St) : St := (fun k => if vk k = true then gL σ k else 0, fun k f i => if vk k = true then gV σ k f i else 0, fun k f i => if vk k = true then gR σ k f i else 0, fun _ _ => 0, fun _ => 0, fun _ => 0)
section CV
variable {σ τ : St}
theorem cv_of (hL : ∀ k, vk k = true → gL τ k = gL σ k) (hV : ∀ k f i, vk k = true → gV τ k f i = gV σ k f i) (hR : ∀ k f i, vk k = true → gR τ k f i = gR σ k f i) : cv τ = cv σ := by
  unfold cv
  refine Prod.ext (funext fun k => ?_) (Prod.ext (funext fun k => funext fun f => funext fun i => ?_) (Prod.ext (funext fun k => funext fun f => funext fun i => ?_) rfl))
  · by_cases h : vk k = true
    · exact (if_pos h).trans ((hL k h).trans (if_pos h).symm)
    · exact (if_neg h).trans (if_neg h).symm
  · by_cases h : vk k = true
    · exact (if_pos h).trans ((hV k f i h).trans (if_pos h).symm)
    · exact (if_neg h).trans (if_neg h).symm
  · by_cases h : vk k = true
    · exact (if_pos h).trans ((hR k f i h).trans (if_pos h).symm)
    · exact (if_neg h).trans (if_neg h).symm
theorem cv_L (h : cv τ = cv σ) {k : Nat} (hk : vk k = true) : gL τ k = gL σ k := by
  have := congrArg (fun s => gL s k) h
  exact (if_pos hk).symm.trans (this.trans (if_pos hk))
theorem cv_V (h : cv τ = cv σ) {k f i : Nat} (hk : vk k = true) : gV τ k f i = gV σ k f i := by
  have := congrArg (fun s => gV s k f i) h
  exact (if_pos hk).symm.trans (this.trans (if_pos hk))
theorem cv_R (h : cv τ = cv σ) {k f i : Nat} (hk : vk k = true) : gR τ k f i = gR σ k f i := by
  have := congrArg (fun s => gR s k f i) h
  exact (if_pos hk).symm.trans (this.trans (if_pos hk))
theorem cv_hold {b : Nat} : v_hold (cv σ) b = v_hold σ b := Eq.trans rfl rfl
theorem cv_rl {b : Nat} : rl (cv σ) b = rl σ b := Eq.trans rfl rfl
theorem cv_op {b d : Nat} : cu_op (cv σ) b d = cu_op σ b d := Eq.trans rfl rfl
theorem cv_reach {b : Nat} : v_reach (cv σ) b = v_reach σ b := Eq.trans rfl rfl
theorem cv_ok {d b : Nat} : cf_ok (cv σ) d b = cf_ok σ d b := Eq.trans rfl rfl
theorem cv_ga {d b : Nat} : cf_ga (cv σ) d b = cf_ga σ d b := Eq.trans rfl rfl
theorem cv_at {d : Nat} : ∀ n, cf_at (cv σ) d n = cf_at σ d n
  | 0 => rfl
  | n + 1 => by
    have ih := cv_at (d := d) n
    by_cases h : cf_ok σ d n ∧ (cf_at σ d n = 0 ∨ cf_ga σ n (cf_at σ d n - 1))
    · rw [cf_t h]
      refine cf_t (σ := cv σ) ?_
      rw [ih, cv_ok, cv_ga]
      exact h
    · rw [cf_f h]
      refine (cf_f (σ := cv σ) ?_).trans ih
      rw [ih, cv_ok, cv_ga]
      exact h
theorem cv_nx : ∀ n, nx (cv σ) n = nx σ n
  | 0 => rfl
  | n + 1 => by
    have ih := cv_nx n
    have e1 : gV (cv σ) 1 7 n = gV σ 1 7 n := rfl
    have e2 : ∀ c, ah (cv σ) n c = ah σ n c := fun c => Eq.trans rfl rfl
    by_cases h : gV σ 1 7 n = 119 ∧ (nx σ n = 0 ∨ ah σ n (nx σ n - 1))
    · rw [nx_t h]
      refine nx_t (σ := cv σ) ?_
      rw [ih, e1, e2]
      exact h
    · rw [nx_f h]
      refine (nx_f (σ := cv σ) ?_).trans ih
      rw [ih, e1, e2]
      exact h
theorem cv_off {d : Nat} : v_off (cv σ) d = v_off σ d := by
  unfold v_off
  rw [cv_at, show gL (cv σ) 1 = gL σ 1 from rfl]
theorem cv_next : v_next (cv σ) = v_next σ := by
  unfold v_next
  rw [cv_nx, show gL (cv σ) 1 = gL σ 1 from rfl]
theorem cv_worst : v_worst (cv σ) = v_worst σ := Eq.trans rfl rfl
theorem cv_sumB : sumB (cv σ) = sumB σ := Eq.trans rfl rfl
theorem cv_sumG : sumG (cv σ) = sumG σ := Eq.trans rfl rfl
theorem cv_sumO : sumO (cv σ) = sumO σ := Eq.trans rfl rfl
theorem cv_has {d : Nat} : v_has (cv σ) d = v_has σ d := Eq.trans rfl rfl
theorem cv_sumD : sumD (cv σ) = sumD σ := by
  funext d s
  unfold sumD
  rw [cv_sumO, cv_off, cv_has]
theorem cv_SUM : SUM (cv σ) = SUM σ := by
  unfold SUM
  rw [cv_sumG, cv_sumD, cv_sumB, cv_next, cv_worst]
  rfl
theorem SUM_eq (h : cv τ = cv σ) : SUM τ = SUM σ := by rw [← cv_SUM, h, cv_SUM]
/-- what more the law wants: installs, percentages, groups; n: how many steps at most -/
def RN (n : Nat) (σ : St) : Prop := (∀ b, b < gL σ 1 → ∃ m t, gV σ 1 12 b = nI m ∧ gV σ 20 1 b = nI t ∧ t ≤ m ∧ m ≤ n) ∧ (∀ b, b < gL σ 1 → gV σ 1 10 b ≠ 0 → gV σ 1 7 b = 97) ∧ (∀ g, g < gL σ 4 → ∃ m q, gV σ 4 2 g = nI m ∧ 1 ≤ m ∧ m ≤ n ∧ gV σ 4 3 g = nI q ∧ 1 ≤ q ∧ q < 2 ^ gL σ 1) ∧ ¬ gV σ 7 7 0 < 0 ∧ ¬ gV σ 7 8 0 < 0 ∧ ∃ d, d ≤ 999 ∧ gV σ 7 12 0 = nI d
theorem cv_RN {n : Nat} : RN n (cv σ) = RN n σ := Eq.trans rfl rfl
theorem RN_eq {n : Nat} (h : cv τ = cv σ) (r : RN n σ) : RN n τ := by rw [← cv_RN, h, cv_RN]; exact r
theorem RN_le {n m : Nat} (h : n ≤ m) (r : RN n σ) : RN m σ := by
  refine ⟨fun b hb => ?_, r.2.1, fun g hg => ?_, r.2.2.2⟩
  · obtain ⟨m', t, a1, a2, a3, a4⟩ := r.1 b hb
    exact ⟨m', t, a1, a2, a3, by omega⟩
  · obtain ⟨m', q, a1, a2, a3, a4⟩ := r.2.2.1 g hg
    exact ⟨m', q, a1, a2, by omega, a4⟩
end CV
