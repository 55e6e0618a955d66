/-! clauses of the invariant over states that agree on columns -/
def EqL (l : List Nat) (σ τ : St) : Prop := ∀ k, k ∉ l → gL τ k = gL σ k
def EqV (l : List Nat) (σ τ : St) : Prop := ∀ k, k ∉ l → ∀ f i, gV τ k f i = gV σ k f i
def EqR (l : List Nat) (σ τ : St) : Prop := ∀ k, k ∉ l → ∀ f i, gR τ k f i = gR σ k f i
def EqN (l : List Nat) (σ τ : St) : Prop := ∀ k, k ∉ l → ∀ i, gN τ k i = gN σ k i
theorem gL_ch {σ : St} {k r k' : Nat} {x y : Int32} : gL (chS σ k r x y) k' = gL σ k' := Eq.trans rfl rfl
theorem gR_ch {σ : St} {k r k' f i : Nat} {x y : Int32} : gR (chS σ k r x y) k' f i = gR σ k' f i := Eq.trans rfl rfl
theorem gN_ch {σ : St} {k r k' i : Nat} {x y : Int32} : gN (chS σ k r x y) k' i = gN σ k' i := Eq.trans rfl rfl
theorem ne_of {l : List Nat} {a b : Nat} (h : a ∉ l) (h2 : b ∈ l) : ¬ a = b := fun z => h (by rw [z]; exact h2)
section EQ
variable {l m n : List Nat} {σ τ ρ : St} {k f i r : Nat} {x y : Int32}
theorem EqL.rf : EqL l σ σ := fun _ _ => rfl
theorem EqV.rf : EqV l σ σ := fun _ _ _ _ => rfl
theorem EqR.rf : EqR l σ σ := fun _ _ _ _ => rfl
theorem EqN.rf : EqN l σ σ := fun _ _ _ => rfl
theorem EqL.sW (h : EqL l σ τ) (hk : k ∈ l) {c : Nat} : EqL l σ (sW τ k c) := fun k' hk' => by
  rw [gL_sW, if_neg (ne_of hk' hk)]; exact h k' hk'
theorem EqV.sW (h : EqV l σ τ) (hk : k ∈ l) {c : Nat} : EqV l σ (sW τ k c) := fun k' hk' f i => by
  rw [gV_sW, if_neg (fun z => ne_of hk' hk z.1)]; exact h k' hk' f i
theorem EqR.sW (h : EqR l σ τ) (hk : k ∈ l) {c : Nat} : EqR l σ (sW τ k c) := fun k' hk' f i => by
  rw [gR_sW, if_neg (fun z => ne_of hk' hk z.1)]; exact h k' hk' f i
theorem EqN.sW (h : EqN l σ τ) (hk : k ∈ l) {c : Nat} : EqN l σ (sW τ k c) := fun k' hk' i => by
  rw [gN_sW, if_neg (fun z => ne_of hk' hk z.1)]; exact h k' hk' i
theorem EqV.sV (h : EqV l σ τ) (hk : k ∈ l) : EqV l σ (sV τ k f i x) := fun k' hk' f' i' => by
  rw [gV_sV, if_neg (fun z => ne_of hk' hk z.1)]; exact h k' hk' f' i'
theorem EqR.sR (h : EqR l σ τ) (hk : k ∈ l) : EqR l σ (sR τ k f i r) := fun k' hk' f' i' => by
  rw [gR_sR, if_neg (fun z => ne_of hk' hk z.1)]; exact h k' hk' f' i'
theorem EqL.sV (h : EqL l σ τ) : EqL l σ (sV τ k f i x) := h
theorem EqR.sV (h : EqR l σ τ) : EqR l σ (sV τ k f i x) := h
theorem EqN.sV (h : EqN l σ τ) : EqN l σ (sV τ k f i x) := h
theorem EqL.sR (h : EqL l σ τ) : EqL l σ (sR τ k f i r) := h
theorem EqV.sR (h : EqV l σ τ) : EqV l σ (sR τ k f i r) := h
theorem EqN.sR (h : EqN l σ τ) : EqN l σ (sR τ k f i r) := h
theorem EqL.mx (h : EqL l σ τ) (hk : k + 10 ∈ l) : EqL l σ (mx k τ ρ) := fun k' hk' => by
  rw [gL_mx, if_neg (ne_of hk' hk)]; exact h k' hk'
theorem EqV.mx (h : EqV l σ τ) (h1 : k ∈ l) (hk : k + 10 ∈ l) : EqV l σ (mx k τ ρ) := fun k' hk' f i => by
  rw [gV_mx, if_neg (fun z => z.elim (ne_of hk' h1) (ne_of hk' hk))]; exact h k' hk' f i
theorem EqR.mx (h : EqR l σ τ) (h1 : k ∈ l) (hk : k + 10 ∈ l) : EqR l σ (mx k τ ρ) := fun k' hk' f i => by
  rw [gR_mx, if_neg (fun z => z.elim (ne_of hk' h1) (ne_of hk' hk))]; exact h k' hk' f i
theorem EqN.mx (h : EqN l σ τ) (hk : k + 10 ∈ l) : EqN l σ (mx k τ ρ) := fun k' hk' i => by
  rw [gN_mx, if_neg (ne_of hk' hk)]; exact h k' hk' i
theorem EqL.ch (h : EqL l σ τ) : EqL l σ (chS τ k r x y) := h
theorem EqR.ch (h : EqR l σ τ) : EqR l σ (chS τ k r x y) := h
theorem EqN.ch (h : EqN l σ τ) : EqN l σ (chS τ k r x y) := h
theorem EqV.ch (h : EqV l σ τ) (h1 : k ∈ l) (hk : k + 1 ∈ l) : EqV l σ (chS τ k r x y) := fun k' hk' f i => by
  rw [ch_ne (ne_of hk' hk) (ne_of hk' h1)]; exact h k' hk' f i
theorem EqL.at (h : EqL l σ τ) (m : List Nat) (hm : ∀ k ∈ m, k ∉ l) : ∀ k ∈ m, gL τ k = gL σ k := fun k hk => h k (hm k hk)
theorem EqV.at (h : EqV l σ τ) (m : List Nat) (hm : ∀ k ∈ m, k ∉ l) : ∀ k ∈ m, ∀ f i, gV τ k f i = gV σ k f i := fun k hk => h k (hm k hk)
theorem EqR.at (h : EqR l σ τ) (m : List Nat) (hm : ∀ k ∈ m, k ∉ l) : ∀ k ∈ m, ∀ f i, gR τ k f i = gR σ k f i := fun k hk => h k (hm k hk)
theorem EqN.at (h : EqN l σ τ) (m : List Nat) (hm : ∀ k ∈ m, k ∉ l) : ∀ k ∈ m, ∀ i, gN τ k i = gN σ k i := fun k hk => h k (hm k hk)
theorem P0_c (hL : EqL l σ τ) (hR : EqR m σ τ) (hN : EqN n σ τ) (a : ∀ k ∈ l, k < 100 ∧ k ≠ 7 ∧ k ≠ 8 ∧ k ≠ 60 ∧ k ≠ 61) (b : ∀ k ∈ m, k < 100 ∧ k ≠ 7 ∧ k ≠ 8) (c : ∀ k ∈ n, k < 100 ∧ k ≠ 60 ∧ k ≠ 61) (Q : P0 σ) : P0 τ := by
  have L : ∀ k, (100 ≤ k ∨ k = 7 ∨ k = 8 ∨ k = 60 ∨ k = 61) → gL τ k = gL σ k := fun k hk => hL k (fun h => by have := a k h; omega)
  have R : ∀ k, (100 ≤ k ∨ k = 7 ∨ k = 8) → ∀ f i, gR τ k f i = gR σ k f i := fun k hk => hR k (fun h => by have := b k h; omega)
  have N : ∀ k, (100 ≤ k ∨ k = 60 ∨ k = 61) → ∀ i, gN τ k i = gN σ k i := fun k hk => hN k (fun h => by have := c k h; omega)
  have L1 : ∀ f, gL τ (100 + f) = gL σ (100 + f) := fun f => L _ (by omega)
  have N1 : ∀ f i, gN τ (100 + f) i = gN σ (100 + f) i := fun f => N _ (by omega)
  unfold P0 at *
  simp only [L 7 (by omega), L 8 (by omega), L 60 (by omega), L 61 (by omega), L 205 (by omega), L 227 (by omega), L1, N1, N 60 (by omega), N 61 (by omega), N 205 (by omega), N 227 (by omega), R 7 (by omega), R 8 (by omega), R 105 (by omega), R 127 (by omega)]
  exact Q
theorem P3_c (h1 : gL τ 1 = gL σ 1) (hV : ∀ k, (k = 1 ∨ k = 5 ∨ 107 ≤ k ∧ k ≤ 120) → ∀ f i, gV τ k f i = gV σ k f i) (hR : ∀ f i, gR τ 1 f i = gR σ 1 f i) (h4 : ∀ b, b < gL τ 1 → gV τ 1 14 b = sm (fun d => if 0 < gV τ 205 b d then 1 else 0) (gL τ 2) ∧ gV τ 1 15 b = sm (fun d => gV τ 205 b d) (gL τ 2)) (P : P3 σ) : P3 τ := by
  have v1 := hV 1 (by omega)
  have v5 := hV 5 (by omega)
  have v107 := hV 107 (by omega)
  have v108 := hV 108 (by omega)
  have v109 := hV 109 (by omega)
  have v110 := hV 110 (by omega)
  have v111 := hV 111 (by omega)
  have v112 := hV 112 (by omega)
  have v113 := hV 113 (by omega)
  have v114 := hV 114 (by omega)
  have v115 := hV 115 (by omega)
  have v116 := hV 116 (by omega)
  have v117 := hV 117 (by omega)
  have v118 := hV 118 (by omega)
  have v119 := hV 119 (by omega)
  have v120 := hV 120 (by omega)
  obtain ⟨p1, p2, p3, -, p5, p6, p7, p8⟩ := P
  refine ⟨?_, ?_, ?_, h4, ?_, ?_, ?_, ?_⟩
  · simp only [h1, hR, v1, v5, v107, v108, v109, v110, v111, v112, v113, v114, v115, v116, v117, v118, v119, v120]; exact p1
  · simp only [h1, hR, v1, v5, v107, v108, v109, v110, v111, v112, v113, v114, v115, v116, v117, v118, v119, v120]; exact p2
  · simp only [h1, hR, v1, v5, v107, v108, v109, v110, v111, v112, v113, v114, v115, v116, v117, v118, v119, v120]; exact p3
  · simp only [h1, hR, v1, v5, v107, v108, v109, v110, v111, v112, v113, v114, v115, v116, v117, v118, v119, v120]; exact p5
  · simp only [h1, hR, v1, v5, v107, v108, v109, v110, v111, v112, v113, v114, v115, v116, v117, v118, v119, v120]; exact p6
  · simp only [h1, hR, v1, v5, v107, v108, v109, v110, v111, v112, v113, v114, v115, v116, v117, v118, v119, v120]; exact p7
  · simp only [h1, hR, v1, v5, v107, v108, v109, v110, v111, v112, v113, v114, v115, v116, v117, v118, v119, v120]; exact p8
theorem P4_c (hL : ∀ k, (k = 4 ∨ k = 6 ∨ k = 16) → gL τ k = gL σ k) (hV : ∀ k, (k = 4 ∨ k = 6 ∨ k = 16 ∨ 128 ≤ k ∧ k ≤ 132 ∨ k = 227) → ∀ f i, gV τ k f i = gV σ k f i) (hR : ∀ k, (k = 4 ∨ k = 6) → ∀ f i, gR τ k f i = gR σ k f i) (hN : ∀ i, gN τ 16 i = gN σ 16 i) (h33 : gV τ 8 33 0 = gV σ 8 33 0) (P : P4 σ) : P4 τ := by
  have v4 := hV 4 (by omega)
  have v6 := hV 6 (by omega)
  have v16 := hV 16 (by omega)
  have v128 := hV 128 (by omega)
  have v129 := hV 129 (by omega)
  have v130 := hV 130 (by omega)
  have v132 := hV 132 (by omega)
  have v227 := hV 227 (by omega)
  have l4 := hL 4 (by omega)
  have l6 := hL 6 (by omega)
  have l16 := hL 16 (by omega)
  have r4 := hR 4 (by omega)
  have r6 := hR 6 (by omega)
  unfold P4 at *
  simp only [l4, l6, l16, r4, r6, hN, h33, v4, v6, v16, v128, v129, v130, v132, v227]
  exact P
theorem P6_c (h9 : gL τ 9 = gL σ 9) (h50 : gL τ 50 = gL σ 50) (v9 : ∀ f i, gV τ 9 f i = gV σ 9 f i) (v50 : ∀ f i, gV τ 50 f i = gV σ 50 f i) (r9 : ∀ f i, gR τ 9 f i = gR σ 9 f i) (r34 : gR τ 8 34 0 = gR σ 8 34 0) (n50 : ∀ i, gN τ 50 i = gN σ 50 i) (P : P6 σ) : P6 τ := by
  unfold P6 at *
  simp only [h9, h50, v9, v50, r9, r34, n50]
  exact P
theorem Lst_c {c : Nat} (h1 : gL τ k = gL σ k) (h2 : gL τ (k + 10) = gL σ (k + 10)) (v : ∀ f i, gV τ k f i = gV σ k f i) (r1 : ∀ f i, gR τ k f i = gR σ k f i) (r2 : ∀ f i, gR τ (k + 10) f i = gR σ (k + 10) f i) (n2 : ∀ i, gN τ (k + 10) i = gN σ (k + 10) i) (h : Lst σ k c) : Lst τ k c := by
  unfold Lst at *
  simp only [h1, h2, v, r1, r2, n2]
  exact h
end EQ
