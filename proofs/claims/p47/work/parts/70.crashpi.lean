/-! a crash: the reference's writes -/
def finS (s : St) (m b : Nat) : St := sV (sV (sV s 129 m 0 (gV s 129 m 0 + 1)) 130 m 0 (gV s 130 m 0 ||| (1 : Int32) <<< (nI b &&& 31))) 120 b 0 (gV s 120 b 0 + 1)
def cyS (s : St) (m n : Nat) : St := sA s (fun k f i => if k = 227 ∧ i = m ∧ f < n then gV s 132 f 0 else gV s k f i)
theorem cy_0 {s : St} {m : Nat} : cyS s m 0 = s := by
  refine (congrArg (fun F => ((s.1, F, s.2.2) : St)) (funext fun k' => funext fun f' => funext fun i' => ?_)).trans (show ((s.1, s.2.1, s.2.2) : St) = s from rfl)
  exact if_neg (fun z => absurd z.2.2 (Nat.not_lt_zero _))
theorem cy_s {s : St} {m n : Nat} : sV (cyS s m n) 227 n m (gV s 132 n 0) = cyS s m (n + 1) := by
  refine congrArg (fun F => ((s.1, F, s.2.2) : St)) (funext fun k' => funext fun f' => funext fun i' => ?_)
  show (if k' = 227 ∧ f' = n ∧ i' = m then gV s 132 n 0 else (if k' = 227 ∧ i' = m ∧ f' < n then gV s 132 f' 0 else gV s k' f' i')) = if k' = 227 ∧ i' = m ∧ f' < n + 1 then gV s 132 f' 0 else gV s k' f' i'
  by_cases e : k' = 227 ∧ f' = n ∧ i' = m
  · rw [if_pos e, if_pos ⟨e.1, e.2.2, by omega⟩, e.2.1]
  · rw [if_neg e]
    by_cases e1 : k' = 227 ∧ i' = m ∧ f' < n
    · rw [if_pos e1, if_pos ⟨e1.1, e1.2.1, by omega⟩]
    · rw [if_neg e1, if_neg (fun z => by
        rcases Nat.lt_or_ge f' n with y | y
        · exact e1 ⟨z.1, z.2.1, y⟩
        · exact e ⟨z.1, by omega, z.2.1⟩)]
section RC
variable {A : Ad} {s : St} {X : Cx} {px : String → GM → Prop} {post : Int32 → GM → Prop} {n b d m : Nat}
theorem cy_V {k f i : Nat} (h : k ≠ 227) : gV (cyS s m n) k f i = gV s k f i := by
  show (if k = 227 ∧ i = m ∧ f < n then gV s 132 f 0 else gV s k f i) = _
  rw [if_neg (fun z => h z.1)]
theorem cy_227 {f i : Nat} : gV (cyS s m n) 227 f i = if i = m ∧ f < n then gV s 132 f 0 else gV s 227 f i := by
  show (if 227 = 227 ∧ i = m ∧ f < n then gV s 132 f 0 else gV s 227 f i) = _
  by_cases e : i = m ∧ f < n
  · rw [if_pos ⟨rfl, e⟩, if_pos e]
  · rw [if_neg (fun z => e z.2), if_neg e]
theorem cy_W : WF A (cyS s m n) = WF A s := Eq.trans rfl rfl
theorem cy_P : P0 (cyS s m n) = P0 s := Eq.trans rfl rfl
theorem cy_L {k : Nat} : gL (cyS s m n) k = gL s k := Eq.trans rfl rfl
theorem cy_R {k f i : Nat} : gR (cyS s m n) k f i = gR s k f i := Eq.trans rfl rfl
theorem cy_N {k i : Nat} : gN (cyS s m n) k i = gN s k i := Eq.trans rfl rfl
end RC
/-! the invariant behind a crash -/
section XC
variable {σ τ : St}
theorem P2_x (l1 : gL τ 1 = gL σ 1) (l2 : gL τ 2 = gL σ 2) (v2 : gV τ 2 = gV σ 2) (v100 : gV τ 100 = gV σ 100) (v101 : gV τ 101 = gV σ 101) (v102 : gV τ 102 = gV σ 102) (v103 : gV τ 103 = gV σ 103) (v104 : gV τ 104 = gV σ 104) (v205 : gV τ 205 = gV σ 205) (v107 : gV τ 107 = gV σ 107) (v108 : gV τ 108 = gV σ 108) (v109 : gV τ 109 = gV σ 109) (r2 : gR τ 2 = gR σ 2) (P : P2 σ) : P2 τ := by
  unfold P2 at *
  rw [l1, l2, r2, v2, v100, v101, v102, v103, v104, v205, v107, v108, v109]
  exact P
theorem P3_x (l1 : gL τ 1 = gL σ 1) (l2 : gL τ 2 = gL σ 2) (f0 : gV τ 1 0 = gV σ 1 0) (f1 : gV τ 1 1 = gV σ 1 1) (f3 : gV τ 1 3 = gV σ 1 3) (f4 : gV τ 1 4 = gV σ 1 4) (f7 : gV τ 1 7 = gV σ 1 7) (f8 : gV τ 1 8 = gV σ 1 8) (f9 : gV τ 1 9 = gV σ 1 9) (f10 : gV τ 1 10 = gV σ 1 10) (f11 : gV τ 1 11 = gV σ 1 11) (f12 : gV τ 1 12 = gV σ 1 12) (f14 : gV τ 1 14 = gV σ 1 14) (f15 : gV τ 1 15 = gV σ 1 15) (v5 : gV τ 5 = gV σ 5) (v107 : gV τ 107 = gV σ 107) (v108 : gV τ 108 = gV σ 108) (v109 : gV τ 109 = gV σ 109) (v110 : gV τ 110 = gV σ 110) (v111 : gV τ 111 = gV σ 111) (v112 : gV τ 112 = gV σ 112) (v113 : gV τ 113 = gV σ 113) (v114 : gV τ 114 = gV σ 114) (v115 : gV τ 115 = gV σ 115) (v116 : gV τ 116 = gV σ 116) (v117 : gV τ 117 = gV σ 117) (v118 : gV τ 118 = gV σ 118) (v119 : gV τ 119 = gV σ 119) (v205 : gV τ 205 = gV σ 205) (r1 : gR τ 1 = gR σ 1) (h13 : ∀ b, b < gL σ 1 → gV τ 1 13 b = gV τ 120 b 0) (h120 : ∀ b, gL σ 1 ≤ b → gV τ 120 b 0 = 0) (P : P3 σ) : P3 τ := by
  unfold P3 at *
  rw [l1, l2, r1, f0, f1, f3, f4, f7, f8, f9, f10, f11, f12, f14, f15, v5, v107, v108, v109, v110, v111, v112, v113, v114, v115, v116, v117, v118, v119, v205]
  obtain ⟨p1, p2, p3, p4, p5, p6, p7, p8⟩ := P
  refine ⟨p1, p2, fun b hb => ?_, p4, p5, p6, p7, fun b hb => ?_⟩
  · obtain ⟨a1, a2, a3, a4, a5, a6, a7, a8⟩ := p3 b hb
    exact ⟨a1, a2, a3, a4, a5, a6, a7, h13 b hb⟩
  · obtain ⟨a1, a2, a3, a4, a5, a6⟩ := p8 b hb
    exact ⟨a1, a2, a3, a4, a5, h120 b hb⟩
theorem P5_x (l20 : gL τ 20 = gL σ 20) (l21 : gL τ 21 = gL σ 21) (l22 : gL τ 22 = gL σ 22) (l23 : gL τ 23 = gL σ 23) (l1 : gL τ 1 = gL σ 1) (l2 : gL τ 2 = gL σ 2) (l3 : gL τ 3 = gL σ 3) (v20 : gV τ 20 = gV σ 20) (v21 : gV τ 21 = gV σ 21) (v23 : gV τ 23 = gV σ 23) (v2 : gV τ 2 = gV σ 2) (v3 : gV τ 3 = gV σ 3) (r20 : gR τ 20 = gR σ 20) (r22 : gR τ 22 = gR σ 22) (r2 : gR τ 2 = gR σ 2) (r3 : gR τ 3 = gR σ 3) (n21 : gN τ 21 = gN σ 21) (n23 : gN τ 23 = gN σ 23) (P : P5 σ) : P5 τ := by
  unfold P5 at *
  rw [l20, l21, l22, l23, l1, l2, l3, v20, v21, v23, v2, v3, r20, r22, r2, r3, n21, n23]
  exact P
/-- what the state behind a crash must be -/
def CfH (σ τ : St) : Prop := EqL [4, 6, 16, 43] σ τ ∧ EqV [1, 4, 6, 8, 16, 33, 43, 120, 128, 129, 130, 227] σ τ ∧ EqR [4, 6, 16, 33, 43] σ τ ∧ EqN [4, 6, 16, 43] σ τ ∧ (∀ f, f ≠ 31 ∧ f ≠ 33 ∧ f ≠ 36 → gV τ 8 f 0 = gV σ 8 f 0) ∧ gV τ 8 31 0 = nI (gL τ 4) ∧ gL τ 4 ≤ 30 ∧ (∀ f i, f ≠ 13 → gV τ 1 f i = gV σ 1 f i) ∧ (∀ b, b < gL σ 1 → gV τ 1 13 b = gV τ 120 b 0) ∧ (∀ b, gL σ 1 ≤ b → gV τ 120 b 0 = gV σ 120 b 0) ∧ P4 τ ∧ Lst τ 33 (gL τ 4)
theorem cf_0 (P : PI σ) (H : CfH σ τ) : P0 τ := P0_c H.1 H.2.2.1 H.2.2.2.1 (by decide) (by decide) (by decide) P.1
theorem cf_1 (P : PI σ) (H : CfH σ τ) : P1 τ := by
  obtain ⟨EL, EV, ER, EN, v8, h31, h30, w1, h13, h120, p4, L33⟩ := H
  obtain ⟨q1, q2, q3, q4, q5, q6, q7, q8, q9, q10⟩ := P.2.1
  have v7 : ∀ f i, gV τ 7 f i = gV σ 7 f i := EV 7 (by decide)
  unfold P1
  rw [EL 2 (by decide), EL 1 (by decide), h31, v8 6 (by decide), v8 21 (by decide), v8 22 (by decide), v8 23 (by decide), v8 24 (by decide), v8 25 (by decide), v8 26 (by decide), v8 35 (by decide), v7, v7, v7, v7, v7, v7]
  exact ⟨⟨q1.1, q1.2.1, rfl⟩, q2, q3, q4, q5, q6, q7, q8, q9, h30⟩
theorem cf_2 (P : PI σ) (H : CfH σ τ) : P2 τ := by
  obtain ⟨EL, EV, ER, EN, v8, h31, h30, w1, h13, h120, p4, L33⟩ := H
  exact P2_x (EL 1 (by decide)) (EL 2 (by decide)) (funext fun f => funext fun i => EV 2 (by decide) f i) (funext fun f => funext fun i => EV 100 (by decide) f i) (funext fun f => funext fun i => EV 101 (by decide) f i) (funext fun f => funext fun i => EV 102 (by decide) f i) (funext fun f => funext fun i => EV 103 (by decide) f i) (funext fun f => funext fun i => EV 104 (by decide) f i) (funext fun f => funext fun i => EV 205 (by decide) f i) (funext fun f => funext fun i => EV 107 (by decide) f i) (funext fun f => funext fun i => EV 108 (by decide) f i) (funext fun f => funext fun i => EV 109 (by decide) f i) (funext fun f => funext fun i => ER 2 (by decide) f i) P.2.2.1
theorem cf_3 (P : PI σ) (H : CfH σ τ) : P3 τ := by
  obtain ⟨EL, EV, ER, EN, v8, h31, h30, w1, h13, h120, p4, L33⟩ := H
  exact P3_x (EL 1 (by decide)) (EL 2 (by decide)) (funext fun i => w1 0 i (by decide)) (funext fun i => w1 1 i (by decide)) (funext fun i => w1 3 i (by decide)) (funext fun i => w1 4 i (by decide)) (funext fun i => w1 7 i (by decide)) (funext fun i => w1 8 i (by decide)) (funext fun i => w1 9 i (by decide)) (funext fun i => w1 10 i (by decide)) (funext fun i => w1 11 i (by decide)) (funext fun i => w1 12 i (by decide)) (funext fun i => w1 14 i (by decide)) (funext fun i => w1 15 i (by decide)) (funext fun f => funext fun i => EV 5 (by decide) f i) (funext fun f => funext fun i => EV 107 (by decide) f i) (funext fun f => funext fun i => EV 108 (by decide) f i) (funext fun f => funext fun i => EV 109 (by decide) f i) (funext fun f => funext fun i => EV 110 (by decide) f i) (funext fun f => funext fun i => EV 111 (by decide) f i) (funext fun f => funext fun i => EV 112 (by decide) f i) (funext fun f => funext fun i => EV 113 (by decide) f i) (funext fun f => funext fun i => EV 114 (by decide) f i) (funext fun f => funext fun i => EV 115 (by decide) f i) (funext fun f => funext fun i => EV 116 (by decide) f i) (funext fun f => funext fun i => EV 117 (by decide) f i) (funext fun f => funext fun i => EV 118 (by decide) f i) (funext fun f => funext fun i => EV 119 (by decide) f i) (funext fun f => funext fun i => EV 205 (by decide) f i) (funext fun f => funext fun i => ER 1 (by decide) f i) h13 (fun b hb => (h120 b hb).trans (P.2.2.2.1.2.2.2.2.2.2.2 b hb).2.2.2.2.2) P.2.2.2.1
theorem cf_5 (P : PI σ) (H : CfH σ τ) : P5 τ := by
  obtain ⟨EL, EV, ER, EN, v8, h31, h30, w1, h13, h120, p4, L33⟩ := H
  exact P5_x (EL 20 (by decide)) (EL 21 (by decide)) (EL 22 (by decide)) (EL 23 (by decide)) (EL 1 (by decide)) (EL 2 (by decide)) (EL 3 (by decide)) (funext fun f => funext fun i => EV 20 (by decide) f i) (funext fun f => funext fun i => EV 21 (by decide) f i) (funext fun f => funext fun i => EV 23 (by decide) f i) (funext fun f => funext fun i => EV 2 (by decide) f i) (funext fun f => funext fun i => EV 3 (by decide) f i) (funext fun f => funext fun i => ER 20 (by decide) f i) (funext fun f => funext fun i => ER 22 (by decide) f i) (funext fun f => funext fun i => ER 2 (by decide) f i) (funext fun f => funext fun i => ER 3 (by decide) f i) (funext fun i => EN 21 (by decide) i) (funext fun i => EN 23 (by decide) i) P.2.2.2.2.2.1
theorem cf_6 (P : PI σ) (H : CfH σ τ) : P6 τ := by
  obtain ⟨EL, EV, ER, EN, -⟩ := H
  exact P6_c (EL 9 (by decide)) (EL 50 (by decide)) (EV 9 (by decide)) (EV 50 (by decide)) (ER 9 (by decide)) (ER 8 (by decide) 34 0) (EN 50 (by decide)) P.2.2.2.2.2.2.1
theorem cf_7 (P : PI σ) (H : CfH σ τ) : P7 τ := by
  obtain ⟨EL, EV, ER, EN, v8, h31, h30, w1, h13, h120, p4, L33⟩ := H
  unfold P7
  rw [EL 2 (by decide), EL 3 (by decide), EL 1 (by decide)]
  exact ⟨Lst_c (EL 30 (by decide)) (EL 40 (by decide)) (EV 30 (by decide)) (ER 30 (by decide)) (ER 40 (by decide)) (EN 40 (by decide)) P.2.2.2.2.2.2.2.1, Lst_c (EL 31 (by decide)) (EL 41 (by decide)) (EV 31 (by decide)) (ER 31 (by decide)) (ER 41 (by decide)) (EN 41 (by decide)) P.2.2.2.2.2.2.2.2.1, Lst_c (EL 32 (by decide)) (EL 42 (by decide)) (EV 32 (by decide)) (ER 32 (by decide)) (ER 42 (by decide)) (EN 42 (by decide)) P.2.2.2.2.2.2.2.2.2.1, L33⟩
theorem pi_cf (P : PI σ) (H : CfH σ τ) : PI τ := ⟨cf_0 P H, cf_1 P H, cf_2 P H, cf_3 P H, H.2.2.2.2.2.2.2.2.2.2.1, cf_5 P H, cf_6 P H, cf_7 P H⟩
theorem pi_36 {x : Int32} (P : PI τ) : PI (sV τ 8 36 0 x) := P
theorem pi_J {x : Int64} (P : PI τ) : PI (sJ τ x) := P
end XC
