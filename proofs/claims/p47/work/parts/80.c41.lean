/-! writeBuild -/
section CS
variable {X : Cx} {xs : Nat → Int32} {Ls b i : Nat} {v1 v2 v3 v4 : Option Nat} {g : GM}
section PW
variable {σ τ : St} {A : Ad} {k w n : Nat} {t : List Int32} {x : Int32}
theorem pw_1 (P : PI σ) (H : Wq σ τ) : P1 τ := by
  obtain ⟨EL, EV, v8, ER, EN⟩ := H
  obtain ⟨q1, q2, q3, q4, q5, q6, q7, q8, q9, q10⟩ := P.2.1
  have v7 : ∀ f i, gV τ 7 f i = gV σ 7 f i := EV 7 (by decide) (by decide) (by decide)
  unfold P1
  rw [EL 2 (by decide) (by decide), EL 1 (by decide) (by decide), EL 4 (by decide) (by decide), v8 6 (by decide), v8 21 (by decide), v8 31 (by decide), v8 22 (by decide), v8 23 (by decide), v8 24 (by decide), v8 25 (by decide), v8 26 (by decide), v8 35 (by decide), v7, v7, v7, v7, v7, v7]
  exact ⟨q1, q2, q3, q4, q5, q6, q7, q8, q9, q10⟩
theorem pw_2 (P : PI σ) (H : Wq σ τ) : P2 τ := by
  obtain ⟨EL, EV, v8, ER, EN⟩ := H
  exact P2_x (EL 1 (by decide) (by decide)) (EL 2 (by decide) (by decide)) (funext fun f => funext fun i => EV 2 (by decide) (by decide) (by decide) f i) (funext fun f => funext fun i => EV 100 (by decide) (by decide) (by decide) f i) (funext fun f => funext fun i => EV 101 (by decide) (by decide) (by decide) f i) (funext fun f => funext fun i => EV 102 (by decide) (by decide) (by decide) f i) (funext fun f => funext fun i => EV 103 (by decide) (by decide) (by decide) f i) (funext fun f => funext fun i => EV 104 (by decide) (by decide) (by decide) f i) (funext fun f => funext fun i => EV 205 (by decide) (by decide) (by decide) f i) (funext fun f => funext fun i => EV 107 (by decide) (by decide) (by decide) f i) (funext fun f => funext fun i => EV 108 (by decide) (by decide) (by decide) f i) (funext fun f => funext fun i => EV 109 (by decide) (by decide) (by decide) f i) (funext fun f => funext fun i => ER 2 (by decide) (by decide) (by decide) f i) P.2.2.1
theorem pw_3 (P : PI σ) (H : Wq σ τ) : P3 τ := by
  obtain ⟨EL, EV, v8, ER, EN⟩ := H
  refine P3_c (EL 1 (by decide) (by decide)) (fun k hk => EV k (by omega) (by omega) (by omega)) (ER 1 (by decide) (by decide) (by decide)) ?_ P.2.2.2.1
  rw [EL 1 (by decide) (by decide), EL 2 (by decide) (by decide), show gV τ 1 = gV σ 1 from funext fun f => funext fun i => EV 1 (by decide) (by decide) (by decide) f i, show gV τ 205 = gV σ 205 from funext fun f => funext fun i => EV 205 (by decide) (by decide) (by decide) f i]
  exact P.2.2.2.1.2.2.2.1
theorem pw_4 (P : PI σ) (H : Wq σ τ) : P4 τ := by
  obtain ⟨EL, EV, v8, ER, EN⟩ := H
  exact P4_c (fun k hk => EL k (by omega) (by omega)) (fun k hk => EV k (by omega) (by omega) (by omega)) (fun k hk => ER k (by omega) (by omega) (by omega)) (EN 16 (by decide) (by decide)) (v8 33 (by decide)) P.2.2.2.2.1
theorem pw_5 (P : PI σ) (H : Wq σ τ) : P5 τ := by
  obtain ⟨EL, EV, v8, ER, EN⟩ := H
  exact P5_x (EL 20 (by decide) (by decide)) (EL 21 (by decide) (by decide)) (EL 22 (by decide) (by decide)) (EL 23 (by decide) (by decide)) (EL 1 (by decide) (by decide)) (EL 2 (by decide) (by decide)) (EL 3 (by decide) (by decide)) (funext fun f => funext fun i => EV 20 (by decide) (by decide) (by decide) f i) (funext fun f => funext fun i => EV 21 (by decide) (by decide) (by decide) f i) (funext fun f => funext fun i => EV 23 (by decide) (by decide) (by decide) f i) (funext fun f => funext fun i => EV 2 (by decide) (by decide) (by decide) f i) (funext fun f => funext fun i => EV 3 (by decide) (by decide) (by decide) f i) (funext fun f => funext fun i => ER 20 (by decide) (by decide) (by decide) f i) (funext fun f => funext fun i => ER 22 (by decide) (by decide) (by decide) f i) (funext fun f => funext fun i => ER 2 (by decide) (by decide) (by decide) f i) (funext fun f => funext fun i => ER 3 (by decide) (by decide) (by decide) f i) (funext fun i => EN 21 (by decide) (by decide) i) (funext fun i => EN 23 (by decide) (by decide) i) P.2.2.2.2.2.1
theorem pw_7 (P : PI σ) (H : Wq σ τ) : P7 τ := by
  obtain ⟨EL, EV, v8, ER, EN⟩ := H
  unfold P7
  rw [EL 2 (by decide) (by decide), EL 3 (by decide) (by decide), EL 1 (by decide) (by decide), EL 4 (by decide) (by decide)]
  exact ⟨Lst_c (EL 30 (by decide) (by decide)) (EL 40 (by decide) (by decide)) (EV 30 (by decide) (by decide) (by decide)) (ER 30 (by decide) (by decide) (by decide)) (ER 40 (by decide) (by decide) (by decide)) (EN 40 (by decide) (by decide)) P.2.2.2.2.2.2.2.1, Lst_c (EL 31 (by decide) (by decide)) (EL 41 (by decide) (by decide)) (EV 31 (by decide) (by decide) (by decide)) (ER 31 (by decide) (by decide) (by decide)) (ER 41 (by decide) (by decide) (by decide)) (EN 41 (by decide) (by decide)) P.2.2.2.2.2.2.2.2.1, Lst_c (EL 32 (by decide) (by decide)) (EL 42 (by decide) (by decide)) (EV 32 (by decide) (by decide) (by decide)) (ER 32 (by decide) (by decide) (by decide)) (ER 42 (by decide) (by decide) (by decide)) (EN 42 (by decide) (by decide)) P.2.2.2.2.2.2.2.2.2.1, Lst_c (EL 33 (by decide) (by decide)) (EL 43 (by decide) (by decide)) (EV 33 (by decide) (by decide) (by decide)) (ER 33 (by decide) (by decide) (by decide)) (ER 43 (by decide) (by decide) (by decide)) (EN 43 (by decide) (by decide)) P.2.2.2.2.2.2.2.2.2.2⟩
theorem pi_wq (P : PI σ) (H : Wq σ τ) (q0 : P0 τ) (q6 : P6 τ) : PI τ := ⟨q0, pw_1 P H, pw_2 P H, pw_3 P H, pw_4 P H, pw_5 P H, q6, pw_7 P H⟩
/-- after a line has been written -/
theorem p6_sb {v : Nat} {c : List Int32} (S : Sb τ 0 v c) (hF : bF τ) : P6 τ := ⟨v, c.length, S.1, S.2.1, S.2.2.1, S.2.2.2.1, S.2.2.2.2.1, S.2.2.2.2.2.1, S.2.2.2.2.2.2.2.1, S.2.2.2.2.2.2.1, S.2.2.2.2.2.2.2.2.1, hF⟩
end PW
end CS
