/-! addDevice -/
section DV
variable {A : Ad} {σ τ τ' : St} {m l u : Int32} {d : Nat}
theorem dv_0 : gV (dv σ m l u) 2 0 d = if d = gL σ 2 then m else gV σ 2 0 d := by
  unfold dv
  by_cases e : d = gL σ 2
  · simp [gV_sV, gV_sR, gV_sW, e]
  · simp [gV_sV, gV_sR, gV_sW, e]
theorem dv_1 : gV (dv σ m l u) 2 1 d = if d = gL σ 2 then l else gV σ 2 1 d := by
  unfold dv
  by_cases e : d = gL σ 2
  · simp [gV_sV, gV_sR, gV_sW, e]
  · simp [gV_sV, gV_sR, gV_sW, e]
theorem dv_2 : gV (dv σ m l u) 2 2 d = if d = gL σ 2 then u else gV σ 2 2 d := by
  unfold dv
  by_cases e : d = gL σ 2
  · simp [gV_sV, gV_sR, gV_sW, e]
  · simp [gV_sV, gV_sR, gV_sW, e]
theorem dv_4 : gV (dv σ m l u) 2 4 d = if d = gL σ 2 then 0 else gV σ 2 4 d := by
  unfold dv
  by_cases e : d = gL σ 2
  · simp [gV_sV, gV_sR, gV_sW, e]
  · simp [gV_sV, gV_sR, gV_sW, e]
theorem dv_5 : gV (dv σ m l u) 2 5 d = if d = gL σ 2 then 0 else gV σ 2 5 d := by
  unfold dv
  by_cases e : d = gL σ 2
  · simp [gV_sV, gV_sR, gV_sW, e]
  · simp [gV_sV, gV_sR, gV_sW, e]
theorem dv_R : gR (dv σ m l u) 2 3 d = if d = gL σ 2 then 0 else gR σ 2 3 d := by
  unfold dv
  by_cases e : d = gL σ 2
  · simp [gR_sV, gR_sR, gR_sW, e]
  · simp [gR_sV, gR_sR, gR_sW, e]
theorem nk_0 : gV (nk σ m l) 3 0 d = if d = gL σ 3 then m else gV σ 3 0 d := by
  unfold nk bc22
  by_cases e : d = gL σ 3
  · simp [gV_sV, gV_sR, gV_sW, e]
  · simp [gV_sV, gV_sR, gV_sW, e]
theorem nk_1 : gV (nk σ m l) 3 1 d = if d = gL σ 3 then l else gV σ 3 1 d := by
  unfold nk bc22
  by_cases e : d = gL σ 3
  · simp [gV_sV, gV_sR, gV_sW, e]
  · simp [gV_sV, gV_sR, gV_sW, e]
theorem nk_23 {q : Nat} : gV (nk σ m l) 23 q d = if d = gL σ 23 then 0 else gV σ 23 q d := by
  unfold nk bc22
  by_cases e : d = gL σ 23
  · simp [gV_sV, gV_sR, gV_sW, gL_sW, e]
  · simp [gV_sV, gV_sR, gV_sW, gL_sW, e]
theorem nk_R : gR (nk σ m l) 3 2 d = if d = gL σ 3 then gL σ 22 + 1 else gR σ 3 2 d := by
  unfold nk bc22
  by_cases e : d = gL σ 3
  · simp [gR_sV, gR_sR, gR_sW, gL_sW, e]
  · simp [gR_sV, gR_sR, gR_sW, gL_sW, e]
theorem nk_R22 : gR (nk σ m l) 22 0 d = if d = gL σ 22 then gL σ 23 + 1 else gR σ 22 0 d := by
  unfold nk bc22
  by_cases e : d = gL σ 22
  · simp [gR_sV, gR_sR, gR_sW, gL_sW, e]
  · simp [gR_sV, gR_sR, gR_sW, gL_sW, e]
theorem nk_N23 : gN (nk σ m l) 23 d = if d = gL σ 23 then 101 else gN σ 23 d := by
  unfold nk bc22
  by_cases e : d = gL σ 23
  · simp [gN_sV, gN_sR, gN_sW, gL_sW, e]
  · simp [gN_sV, gN_sR, gN_sW, gL_sW, e]
theorem dv_L : gL (dv σ m l u) 2 = gL σ 2 + 1 := rfl
theorem nk_L3 : gL (nk σ m l) 3 = gL σ 3 + 1 := rfl
theorem nk_L22 : gL (nk σ m l) 22 = gL σ 22 + 1 := rfl
theorem nk_L23 : gL (nk σ m l) 23 = gL σ 23 + 1 := rfl
theorem nk_L {k : Nat} (h : k ≠ 3 ∧ k ≠ 22 ∧ k ≠ 23) : gL (nk σ m l) k = gL σ k := by
  unfold nk bc22
  rw [gL_sV, gL_sV, gL_sR, gL_sV, gL_sR, gL_sW, if_neg h.2.2, gL_sW, if_neg h.2.1, gL_sW, if_neg h.1]
theorem nk_V {k f i : Nat} (h : k ≠ 3 ∧ k ≠ 22 ∧ k ≠ 23) : gV (nk σ m l) k f i = gV σ k f i := by
  unfold nk bc22
  rw [gV_sV, if_neg (fun z => h.1 z.1), gV_sV, if_neg (fun z => h.1 z.1), gV_sR, gV_sV, if_neg (fun z => h.2.1 z.1), gV_sR, gV_sW, if_neg (fun z => h.2.2 z.1), gV_sW, if_neg (fun z => h.2.1 z.1), gV_sW, if_neg (fun z => h.1 z.1)]
theorem nk_R' {k f i : Nat} (h : k ≠ 3 ∧ k ≠ 22 ∧ k ≠ 23) : gR (nk σ m l) k f i = gR σ k f i := by
  unfold nk bc22
  rw [gR_sV, gR_sV, gR_sR, if_neg (fun z => h.1 z.1), gR_sV, gR_sR, if_neg (fun z => h.2.1 z.1), gR_sW, if_neg (fun z => h.2.2 z.1), gR_sW, if_neg (fun z => h.2.1 z.1), gR_sW, if_neg (fun z => h.1 z.1)]
theorem nk_N {k i : Nat} (h : k ≠ 3 ∧ k ≠ 22 ∧ k ≠ 23) : gN (nk σ m l) k i = gN σ k i := by
  unfold nk bc22
  rw [gN_sV, gN_sV, gN_sR, gN_sV, gN_sR, gN_sW, if_neg (fun z => h.2.2 z.1), gN_sW, if_neg (fun z => h.2.1 z.1), gN_sW, if_neg (fun z => h.1 z.1)]
/-- what a new device's state must be -/
def DvH (σ κ : St) (m l u : Int32) : Prop := gL σ 2 < 12 ∧ EqL [2, 3, 22, 23, 40, 41] σ κ ∧ EqV [2, 3, 22, 23, 30, 31, 40, 41] σ κ ∧ EqR [2, 3, 22, 23, 30, 31, 40, 41] σ κ ∧ EqN [2, 3, 22, 23, 40, 41] σ κ ∧ gL κ 2 = gL σ 2 + 1 ∧
    (∀ d, gV κ 2 0 d = if d = gL σ 2 then m else gV σ 2 0 d) ∧ (∀ d, gV κ 2 1 d = if d = gL σ 2 then l else gV σ 2 1 d) ∧ (∀ d, gV κ 2 2 d = if d = gL σ 2 then u else gV σ 2 2 d) ∧ (∀ d, gV κ 2 4 d = if d = gL σ 2 then 0 else gV σ 2 4 d) ∧ (∀ d, gV κ 2 5 d = if d = gL σ 2 then 0 else gV σ 2 5 d) ∧ (∀ d, gR κ 2 3 d = if d = gL σ 2 then 0 else gR σ 2 3 d) ∧
    Lst κ 30 (gL σ 2 + 1) ∧ Lst κ 31 (gL κ 3) ∧ (gL κ 22 = gL κ 3 ∧ gL κ 23 = gL κ 3 ∧ gL κ 3 ≤ gL σ 2 + 1) ∧
    (∀ i, i < gL κ 3 → gR κ 3 2 i = i + 1 ∧ gR κ 22 0 i = i + 1 ∧ gN κ 23 i = 101 ∧ ∀ j, j ≤ 100 → gV κ 23 j i = sm (fun d => if (gV κ 2 0 d = gV κ 3 0 i ∧ gV κ 2 1 d = gV κ 3 1 i) ∧ gV κ 2 2 d < nI j then 1 else 0) (gL σ 2 + 1)) ∧
    (∀ i i', i < gL κ 3 → i' < gL κ 3 → gV κ 3 0 i = gV κ 3 0 i' → gV κ 3 1 i = gV κ 3 1 i' → i = i') ∧ (∀ d, d < gL σ 2 + 1 → ∃ i, i < gL κ 3 ∧ gV κ 2 0 d = gV κ 3 0 i ∧ gV κ 2 1 d = gV κ 3 1 i)
/-- the reference's writes -/
def DvF (σ κ : St) (m l u : Int32) (x : Int64) : St := (sV (sV (sV (sV (sV (sV (sJ κ x) 8 36 0 0) 100 (gL σ 2) 0 m) 101 (gL σ 2) 0 l) 102 (gL σ 2) 0 u) 103 (gL σ 2) 0 (-1)) 8 6 0 (nI (gL σ 2 + 1)))
theorem DvF_L {κ : St} {x : Int64} {k : Nat} : gL (DvF σ κ m l u x) k = gL κ k := by
  unfold DvF
  simp only [gL_sV, gL_sJ]
theorem DvF_R {κ : St} {x : Int64} {k f i : Nat} : gR (DvF σ κ m l u x) k f i = gR κ k f i := by
  unfold DvF
  simp only [gR_sV, gR_sJ]
theorem DvF_N {κ : St} {x : Int64} {k i : Nat} : gN (DvF σ κ m l u x) k i = gN κ k i := by
  unfold DvF
  simp only [gN_sV, gN_sJ]
theorem DvF_V {κ : St} {x : Int64} {k f i : Nat} (hk : k ≠ 8 ∧ k ≠ 100 ∧ k ≠ 101 ∧ k ≠ 102 ∧ k ≠ 103) : gV (DvF σ κ m l u x) k f i = gV κ k f i := by
  unfold DvF
  rw [gV_sV, if_neg (by omega), gV_sV, if_neg (by omega), gV_sV, if_neg (by omega), gV_sV, if_neg (by omega), gV_sV, if_neg (by omega), gV_sV, if_neg (by omega), gV_sJ]
theorem DvF_8 {κ : St} {x : Int64} {f : Nat} (hk : f ≠ 36 ∧ f ≠ 6) : gV (DvF σ κ m l u x) 8 f 0 = gV κ 8 f 0 := by
  unfold DvF
  rw [gV_sV, if_neg (by omega), gV_sV, if_neg (by omega), gV_sV, if_neg (by omega), gV_sV, if_neg (by omega), gV_sV, if_neg (by omega), gV_sV, if_neg (by omega), gV_sJ]
theorem DvF_86 {κ : St} {x : Int64} : gV (DvF σ κ m l u x) 8 6 0 = nI (gL σ 2 + 1) := by
  unfold DvF
  rw [gV_sV, if_pos ⟨rfl, rfl, rfl⟩]
theorem DvF_100 {κ : St} {x : Int64} {d : Nat} : gV (DvF σ κ m l u x) 100 d 0 = if d = gL σ 2 then m else gV κ 100 d 0 := by
  unfold DvF
  rw [gV_sV, if_neg (by omega), gV_sV, if_neg (by omega), gV_sV, if_neg (by omega), gV_sV, if_neg (by omega), gV_sV]
  by_cases e : d = gL σ 2
  · rw [if_pos ⟨rfl, e, rfl⟩, if_pos e]
  · rw [if_neg (fun z => e z.2.1), if_neg e, gV_sV, if_neg (by omega), gV_sJ]
theorem DvF_101 {κ : St} {x : Int64} {d : Nat} : gV (DvF σ κ m l u x) 101 d 0 = if d = gL σ 2 then l else gV κ 101 d 0 := by
  unfold DvF
  rw [gV_sV, if_neg (by omega), gV_sV, if_neg (by omega), gV_sV, if_neg (by omega), gV_sV]
  by_cases e : d = gL σ 2
  · rw [if_pos ⟨rfl, e, rfl⟩, if_pos e]
  · rw [if_neg (fun z => e z.2.1), if_neg e, gV_sV, if_neg (by omega), gV_sV, if_neg (by omega), gV_sJ]
theorem DvF_102 {κ : St} {x : Int64} {d : Nat} : gV (DvF σ κ m l u x) 102 d 0 = if d = gL σ 2 then u else gV κ 102 d 0 := by
  unfold DvF
  rw [gV_sV, if_neg (by omega), gV_sV, if_neg (by omega), gV_sV]
  by_cases e : d = gL σ 2
  · rw [if_pos ⟨rfl, e, rfl⟩, if_pos e]
  · rw [if_neg (fun z => e z.2.1), if_neg e, gV_sV, if_neg (by omega), gV_sV, if_neg (by omega), gV_sV, if_neg (by omega), gV_sJ]
theorem DvF_103 {κ : St} {x : Int64} {d : Nat} : gV (DvF σ κ m l u x) 103 d 0 = if d = gL σ 2 then -1 else gV κ 103 d 0 := by
  unfold DvF
  rw [gV_sV, if_neg (by omega), gV_sV]
  by_cases e : d = gL σ 2
  · rw [if_pos ⟨rfl, e, rfl⟩, if_pos e]
  · rw [if_neg (fun z => e z.2.1), if_neg e, gV_sV, if_neg (by omega), gV_sV, if_neg (by omega), gV_sV, if_neg (by omega), gV_sV, if_neg (by omega), gV_sJ]
set_option maxHeartbeats 2000000 in
theorem dc_0 {κ : St} {x : Int64} (P : PI σ) (H : DvH σ κ m l u) : P0 (DvF σ κ m l u x) := by
  obtain ⟨hn, EL, EV, ER, EN, l2, f20, f21, f22, f24, f25, fR, L30, L31, K51, K53, K54, K55⟩ := H
  exact P0_c (fun k hk => DvF_L.trans (EL k hk)) (fun k hk f i => DvF_R.trans (ER k hk f i)) (fun k hk i => DvF_N.trans (EN k hk i)) (by decide) (by decide) (by decide) P.1
set_option maxHeartbeats 2000000 in
theorem dc_1 {κ : St} {x : Int64} (P : PI σ) (H : DvH σ κ m l u) : P1 (DvF σ κ m l u x) := by
  obtain ⟨hn, EL, EV, ER, EN, l2, f20, f21, f22, f24, f25, fR, L30, L31, K51, K53, K54, K55⟩ := H
  have l1 : gL (DvF σ κ m l u x) 1 = gL σ 1 := DvF_L.trans (EL 1 (by decide))
  have l4 : gL (DvF σ κ m l u x) 4 = gL σ 4 := DvF_L.trans (EL 4 (by decide))
  have l2' : gL (DvF σ κ m l u x) 2 = gL σ 2 + 1 := DvF_L.trans l2
  obtain ⟨q1, q2, q3, q4, q5, q6, q7, q8, q9, q10⟩ := P.2.1
  have v8 : ∀ f, f ≠ 36 ∧ f ≠ 6 → gV (DvF σ κ m l u x) 8 f 0 = gV σ 8 f 0 := fun f hf => (DvF_8 hf).trans (EV 8 (by decide) f 0)
  have v7 : ∀ f, gV (DvF σ κ m l u x) 7 f 0 = gV σ 7 f 0 := fun f => (DvF_V (by decide)).trans (EV 7 (by decide) f 0)
  unfold P1
  rw [l1, l2', l4, DvF_86, v8 21 (by decide), v8 31 (by decide), v8 22 (by decide), v8 23 (by decide), v8 24 (by decide), v8 25 (by decide), v8 26 (by decide), v8 35 (by decide), v7, v7, v7, v7, v7, v7]
  exact ⟨⟨rfl, q1.2⟩, q2, q3, q4, q5, q6, q7, by omega, q9, q10⟩
set_option maxHeartbeats 2000000 in
theorem dc_2 {κ : St} {x : Int64} (P : PI σ) (H : DvH σ κ m l u) : P2 (DvF σ κ m l u x) := by
  obtain ⟨hn, EL, EV, ER, EN, l2, f20, f21, f22, f24, f25, fR, L30, L31, K51, K53, K54, K55⟩ := H
  have e20 : ∀ d, gV (DvF σ κ m l u x) 2 0 d = if d = gL σ 2 then m else gV σ 2 0 d := fun d => (DvF_V (by decide)).trans (f20 d)
  have e21 : ∀ d, gV (DvF σ κ m l u x) 2 1 d = if d = gL σ 2 then l else gV σ 2 1 d := fun d => (DvF_V (by decide)).trans (f21 d)
  have e22 : ∀ d, gV (DvF σ κ m l u x) 2 2 d = if d = gL σ 2 then u else gV σ 2 2 d := fun d => (DvF_V (by decide)).trans (f22 d)
  have e24 : ∀ d, gV (DvF σ κ m l u x) 2 4 d = if d = gL σ 2 then 0 else gV σ 2 4 d := fun d => (DvF_V (by decide)).trans (f24 d)
  have e25 : ∀ d, gV (DvF σ κ m l u x) 2 5 d = if d = gL σ 2 then 0 else gV σ 2 5 d := fun d => (DvF_V (by decide)).trans (f25 d)
  have eR : ∀ d, gR (DvF σ κ m l u x) 2 3 d = if d = gL σ 2 then 0 else gR σ 2 3 d := fun d => DvF_R.trans (fR d)
  have e100 : ∀ d, gV (DvF σ κ m l u x) 100 d 0 = if d = gL σ 2 then m else gV σ 100 d 0 := fun d => by rw [DvF_100, EV 100 (by decide)]
  have e101 : ∀ d, gV (DvF σ κ m l u x) 101 d 0 = if d = gL σ 2 then l else gV σ 101 d 0 := fun d => by rw [DvF_101, EV 101 (by decide)]
  have e102 : ∀ d, gV (DvF σ κ m l u x) 102 d 0 = if d = gL σ 2 then u else gV σ 102 d 0 := fun d => by rw [DvF_102, EV 102 (by decide)]
  have e103 : ∀ d, gV (DvF σ κ m l u x) 103 d 0 = if d = gL σ 2 then -1 else gV σ 103 d 0 := fun d => by rw [DvF_103, EV 103 (by decide)]
  have e104 : ∀ d, gV (DvF σ κ m l u x) 104 d 0 = gV σ 104 d 0 := fun d => (DvF_V (by decide)).trans (EV 104 (by decide) d 0)
  have e205 : ∀ b d, gV (DvF σ κ m l u x) 205 b d = gV σ 205 b d := fun b d => (DvF_V (by decide)).trans (EV 205 (by decide) b d)
  have e107 : ∀ b, gV (DvF σ κ m l u x) 107 b 0 = gV σ 107 b 0 := fun b => (DvF_V (by decide)).trans (EV 107 (by decide) b 0)
  have e108 : ∀ b, gV (DvF σ κ m l u x) 108 b 0 = gV σ 108 b 0 := fun b => (DvF_V (by decide)).trans (EV 108 (by decide) b 0)
  have e109 : ∀ b, gV (DvF σ κ m l u x) 109 b 0 = gV σ 109 b 0 := fun b => (DvF_V (by decide)).trans (EV 109 (by decide) b 0)
  have l1 : gL (DvF σ κ m l u x) 1 = gL σ 1 := DvF_L.trans (EL 1 (by decide))
  have l2' : gL (DvF σ κ m l u x) 2 = gL σ 2 + 1 := DvF_L.trans l2
  refine ⟨?_, ?_, ?_, ?_, ?_, ?_⟩
  · intro d hd
    rw [l2'] at hd
    rw [e20, e21, e22, e24, e25, eR, e100, e101, e102, e103, e104]
    by_cases e : d = gL σ 2
    · rw [if_pos e, if_pos e, if_pos e, if_pos e, if_pos e, if_pos e, if_pos e, if_pos e, if_pos e, if_pos e, if_pos rfl]
      exact ⟨rfl, rfl, rfl, rfl, (P.2.2.1.2.2.1.1 d (by omega)).symm, rfl⟩
    · rw [if_neg e, if_neg e, if_neg e, if_neg e, if_neg e, if_neg e, if_neg e, if_neg e, if_neg e, if_neg e, e205]
      exact P.2.2.1.1 d (by omega)
  · intro d hd h0
    rw [l2'] at hd
    rw [eR] at h0
    by_cases e : d = gL σ 2
    · rw [if_pos e] at h0; exact absurd rfl h0
    · rw [if_neg e] at h0
      rw [eR, e100, e101, e108, e109, if_neg e, if_neg e, if_neg e]
      exact P.2.2.1.2.1 d (by omega) h0
  · refine ⟨fun d hd => ?_, fun d => ?_⟩
    · rw [l2'] at hd
      rw [e104]; exact P.2.2.1.2.2.1.1 d (by omega)
    · rw [e104]; exact P.2.2.1.2.2.1.2 d
  · intro d b hdb
    rw [l2', l1] at hdb
    rw [e205]
    exact P.2.2.1.2.2.2.1 d b (by omega)
  · intro d b hd hb h0
    rw [l2'] at hd
    rw [l1] at hb
    rw [e205] at h0
    by_cases e : d = gL σ 2
    · exact absurd (P.2.2.1.2.2.2.1 d b (by omega)) h0
    · rw [eR, e107, e107, if_neg e]
      exact P.2.2.1.2.2.2.2.1 d b (by omega) hb h0
  · intro d b
    rw [e205]; exact P.2.2.1.2.2.2.2.2 d b
set_option maxHeartbeats 2000000 in
theorem dc_3 {κ : St} {x : Int64} (P : PI σ) (H : DvH σ κ m l u) : P3 (DvF σ κ m l u x) := by
  obtain ⟨hn, EL, EV, ER, EN, l2, f20, f21, f22, f24, f25, fR, L30, L31, K51, K53, K54, K55⟩ := H
  have e205 : ∀ b d, gV (DvF σ κ m l u x) 205 b d = gV σ 205 b d := fun b d => (DvF_V (by decide)).trans (EV 205 (by decide) b d)
  have l1 : gL (DvF σ κ m l u x) 1 = gL σ 1 := DvF_L.trans (EL 1 (by decide))
  have l2' : gL (DvF σ κ m l u x) 2 = gL σ 2 + 1 := DvF_L.trans l2
  have v1 : ∀ f i, gV (DvF σ κ m l u x) 1 f i = gV σ 1 f i := fun f i => (DvF_V (by decide)).trans (EV 1 (by decide) f i)
  refine P3_c l1 (fun k hk f i => (DvF_V (by omega)).trans (EV k (by simp only [List.mem_cons, List.not_mem_nil, or_false]; omega) f i)) (fun f i => DvF_R.trans (ER 1 (by decide) f i)) ?_ P.2.2.2.1
  intro b hb
  rw [l1] at hb
  obtain ⟨s1, s2⟩ := P.2.2.2.1.2.2.2.1 b hb
  have h0 : gV σ 205 b (gL σ 2) = 0 := P.2.2.1.2.2.2.1 (gL σ 2) b (Or.inl (Nat.le_refl _))
  have x1 : sm (fun d => if 0 < gV (DvF σ κ m l u x) 205 b d then (1 : Int32) else 0) (gL σ 2 + 1) = sm (fun d => if 0 < gV σ 205 b d then (1 : Int32) else 0) (gL σ 2 + 1) := sm_cong (fun d _ => by rw [e205])
  have x2 : sm (fun d => gV (DvF σ κ m l u x) 205 b d) (gL σ 2 + 1) = sm (fun d => gV σ 205 b d) (gL σ 2 + 1) := sm_cong (fun d _ => e205 b d)
  rw [v1, v1, l2', x1, x2, sm, sm, h0, if_neg (by decide), Int32.add_zero, Int32.add_zero]
  exact ⟨s1, s2⟩
set_option maxHeartbeats 2000000 in
theorem dc_4 {κ : St} {x : Int64} (P : PI σ) (H : DvH σ κ m l u) : P4 (DvF σ κ m l u x) := by
  obtain ⟨hn, EL, EV, ER, EN, l2, f20, f21, f22, f24, f25, fR, L30, L31, K51, K53, K54, K55⟩ := H
  exact P4_c (fun k hk => DvF_L.trans (EL k (by simp only [List.mem_cons, List.not_mem_nil, or_false]; omega))) (fun k hk f i => (DvF_V (by omega)).trans (EV k (by simp only [List.mem_cons, List.not_mem_nil, or_false]; omega) f i)) (fun k hk f i => DvF_R.trans (ER k (by simp only [List.mem_cons, List.not_mem_nil, or_false]; omega) f i)) (fun i => DvF_N.trans (EN 16 (by decide) i)) ((DvF_8 (by decide)).trans (EV 8 (by decide) 33 0)) P.2.2.2.2.1
set_option maxHeartbeats 2000000 in
theorem dc_5 {κ : St} {x : Int64} (P : PI σ) (H : DvH σ κ m l u) : P5 (DvF σ κ m l u x) := by
  obtain ⟨hn, EL, EV, ER, EN, l2, f20, f21, f22, f24, f25, fR, L30, L31, K51, K53, K54, K55⟩ := H
  have e22 : ∀ d, gV (DvF σ κ m l u x) 2 2 d = if d = gL σ 2 then u else gV σ 2 2 d := fun d => (DvF_V (by decide)).trans (f22 d)
  have eR : ∀ d, gR (DvF σ κ m l u x) 2 3 d = if d = gL σ 2 then 0 else gR σ 2 3 d := fun d => DvF_R.trans (fR d)
  have l1 : gL (DvF σ κ m l u x) 1 = gL σ 1 := DvF_L.trans (EL 1 (by decide))
  have l2' : gL (DvF σ κ m l u x) 2 = gL σ 2 + 1 := DvF_L.trans l2
  obtain ⟨g1, g2, g3, g4, g5⟩ := P.2.2.2.2.2.1.1
  have l3 : gL (DvF σ κ m l u x) 3 = gL κ 3 := DvF_L
  refine ⟨?_, ?_, ?_, ?_, ?_⟩
  · rw [l1, l2', l3, DvF_L, DvF_L, DvF_L, DvF_L, EL 20 (by decide), EL 21 (by decide)]
    exact ⟨g1, g2, K51⟩
  · intro b hb
    rw [l1] at hb
    obtain ⟨k1, k2, k3, k4⟩ := P.2.2.2.2.2.1.2.1 b hb
    have v20 : ∀ f i, gV (DvF σ κ m l u x) 20 f i = gV σ 20 f i := fun f i => (DvF_V (by decide)).trans (EV 20 (by decide) f i)
    have v21 : ∀ f i, gV (DvF σ κ m l u x) 21 f i = gV σ 21 f i := fun f i => (DvF_V (by decide)).trans (EV 21 (by decide) f i)
    refine ⟨DvF_R.trans ((ER 20 (by decide) 0 b).trans k1), DvF_N.trans ((EN 21 (by decide) b).trans k2), ?_, fun q hq => ?_⟩
    · rw [v20, l2', sm, eR, if_pos rfl, if_neg (show ¬ 0 = b + 1 by omega), Int32.add_zero, k3]
      exact (sm_cong (fun d hd => by rw [eR, if_neg (show ¬ d = gL σ 2 by omega)])).symm
    · rw [v21, l2', sm, eR, if_pos rfl, if_neg (fun z => absurd z.1 (show ¬ 0 = b + 1 by omega)), Int32.add_zero, k4 q hq]
      exact (sm_cong (fun d hd => by rw [eR, e22, if_neg (show ¬ d = gL σ 2 by omega), if_neg (show ¬ d = gL σ 2 by omega)])).symm
  · have w2 : ∀ f i, gV (DvF σ κ m l u x) 2 f i = gV κ 2 f i := fun f i => DvF_V (by decide)
    have w3 : ∀ f i, gV (DvF σ κ m l u x) 3 f i = gV κ 3 f i := fun f i => DvF_V (by decide)
    have w23 : ∀ f i, gV (DvF σ κ m l u x) 23 f i = gV κ 23 f i := fun f i => DvF_V (by decide)
    intro i hi
    rw [l3] at hi
    obtain ⟨y1, y2, y3, y4⟩ := K53 i hi
    refine ⟨DvF_R.trans y1, DvF_R.trans y2, DvF_N.trans y3, fun q hq => ?_⟩
    rw [w23, y4 q hq, l2']
    exact sm_cong (fun d _ => by rw [w2, w2, w2, w3, w3])
  · have w3 : ∀ f i, gV (DvF σ κ m l u x) 3 f i = gV κ 3 f i := fun f i => DvF_V (by decide)
    simp only [w3, l3]
    exact K54
  · have w2 : ∀ f i, gV (DvF σ κ m l u x) 2 f i = gV κ 2 f i := fun f i => DvF_V (by decide)
    have w3 : ∀ f i, gV (DvF σ κ m l u x) 3 f i = gV κ 3 f i := fun f i => DvF_V (by decide)
    simp only [w2, w3, l2', l3]
    exact K55
set_option maxHeartbeats 2000000 in
theorem dc_6 {κ : St} {x : Int64} (P : PI σ) (H : DvH σ κ m l u) : P6 (DvF σ κ m l u x) := by
  obtain ⟨hn, EL, EV, ER, EN, l2, f20, f21, f22, f24, f25, fR, L30, L31, K51, K53, K54, K55⟩ := H
  exact P6_c (DvF_L.trans (EL 9 (by decide))) (DvF_L.trans (EL 50 (by decide))) (fun f i => (DvF_V (by decide)).trans (EV 9 (by decide) f i)) (fun f i => (DvF_V (by decide)).trans (EV 50 (by decide) f i)) (fun f i => DvF_R.trans (ER 9 (by decide) f i)) (DvF_R.trans (ER 8 (by decide) 34 0)) (fun i => DvF_N.trans (EN 50 (by decide) i)) P.2.2.2.2.2.2.1
set_option maxHeartbeats 2000000 in
theorem dc_7 {κ : St} {x : Int64} (P : PI σ) (H : DvH σ κ m l u) : P7 (DvF σ κ m l u x) := by
  obtain ⟨hn, EL, EV, ER, EN, l2, f20, f21, f22, f24, f25, fR, L30, L31, K51, K53, K54, K55⟩ := H
  have l1 : gL (DvF σ κ m l u x) 1 = gL σ 1 := DvF_L.trans (EL 1 (by decide))
  have l4 : gL (DvF σ κ m l u x) 4 = gL σ 4 := DvF_L.trans (EL 4 (by decide))
  have l2' : gL (DvF σ κ m l u x) 2 = gL σ 2 + 1 := DvF_L.trans l2
  have l3 : gL (DvF σ κ m l u x) 3 = gL κ 3 := DvF_L
  unfold P7
  rw [l1, l2', l3, l4]
  exact ⟨Lst_c DvF_L DvF_L (fun f i => DvF_V (by decide)) (fun f i => DvF_R) (fun f i => DvF_R) (fun i => DvF_N) L30,
    Lst_c DvF_L DvF_L (fun f i => DvF_V (by decide)) (fun f i => DvF_R) (fun f i => DvF_R) (fun i => DvF_N) L31,
    Lst_c (DvF_L.trans (EL 32 (by decide))) (DvF_L.trans (EL 42 (by decide))) (fun f i => (DvF_V (by decide)).trans (EV 32 (by decide) f i)) (fun f i => DvF_R.trans (ER 32 (by decide) f i)) (fun f i => DvF_R.trans (ER 42 (by decide) f i)) (fun i => DvF_N.trans (EN 42 (by decide) i)) P.2.2.2.2.2.2.2.2.2.1,
    Lst_c (DvF_L.trans (EL 33 (by decide))) (DvF_L.trans (EL 43 (by decide))) (fun f i => (DvF_V (by decide)).trans (EV 33 (by decide) f i)) (fun f i => DvF_R.trans (ER 33 (by decide) f i)) (fun f i => DvF_R.trans (ER 43 (by decide) f i)) (fun i => DvF_N.trans (EN 43 (by decide) i)) P.2.2.2.2.2.2.2.2.2.2⟩
theorem pi_dvc {κ : St} {x : Int64} (P : PI σ) (H : DvH σ κ m l u) : PI (DvF σ κ m l u x) := ⟨dc_0 P H, dc_1 P H, dc_2 P H, dc_3 P H, dc_4 P H, dc_5 P H, dc_6 P H, dc_7 P H⟩
set_option maxHeartbeats 4000000 in
theorem pi_dv1 {x : Int64} {j : Nat} (P : PI σ) (hn : gL σ 2 < 12) (hL3 : Lst (mx 30 (dv σ m l u) τ) 30 (gL σ 2 + 1)) (hj : j < gL σ 3) (c1 : gV σ 3 0 j = m) (c2 : gV σ 3 1 j = l) : PI (DvF σ (chS (mx 30 (dv σ m l u) τ) 22 (j + 1) u 1) m l u x) := by
  have e20 : ∀ d, gV (chS (mx 30 (dv σ m l u) τ) 22 (j + 1) u 1) 2 0 d = if d = gL σ 2 then m else gV σ 2 0 d := fun d => dv_0 (σ := σ) (m := m) (l := l) (u := u)
  have e21 : ∀ d, gV (chS (mx 30 (dv σ m l u) τ) 22 (j + 1) u 1) 2 1 d = if d = gL σ 2 then l else gV σ 2 1 d := fun d => dv_1 (σ := σ) (m := m) (l := l) (u := u)
  have e22 : ∀ d, gV (chS (mx 30 (dv σ m l u) τ) 22 (j + 1) u 1) 2 2 d = if d = gL σ 2 then u else gV σ 2 2 d := fun d => dv_2 (σ := σ) (m := m) (l := l) (u := u)
  have e24 : ∀ d, gV (chS (mx 30 (dv σ m l u) τ) 22 (j + 1) u 1) 2 4 d = if d = gL σ 2 then 0 else gV σ 2 4 d := fun d => dv_4 (σ := σ) (m := m) (l := l) (u := u)
  have e25 : ∀ d, gV (chS (mx 30 (dv σ m l u) τ) 22 (j + 1) u 1) 2 5 d = if d = gL σ 2 then 0 else gV σ 2 5 d := fun d => dv_5 (σ := σ) (m := m) (l := l) (u := u)
  have eR : ∀ d, gR (chS (mx 30 (dv σ m l u) τ) 22 (j + 1) u 1) 2 3 d = if d = gL σ 2 then 0 else gR σ 2 3 d := fun d => dv_R (σ := σ) (m := m) (l := l) (u := u)
  obtain ⟨g1, g2, g3, g4, g5⟩ := P.2.2.2.2.2.1.1
  refine pi_dvc P ⟨hn, (((((((((EqL.rf (σ := σ)).sW (k := 2) (c := 0) (by decide)).sR).sV).sV).sV).sV).sV).mx (k := 30) (by decide)).ch, (((((((((EqV.rf (σ := σ)).sW (k := 2) (c := 0) (by decide)).sR).sV (by decide)).sV (by decide)).sV (by decide)).sV (by decide)).sV (by decide)).mx (k := 30) (by decide) (by decide)).ch (by decide) (by decide), ((((((((((EqR.rf (σ := σ)).sW (k := 2) (c := 0) (by decide)).sR (by decide))).sV).sV).sV).sV).sV).mx (k := 30) (by decide) (by decide)).ch, (((((((((EqN.rf (σ := σ)).sW (k := 2) (c := 0) (by decide)).sR).sV).sV).sV).sV).sV).mx (k := 30) (by decide)).ch, rfl, e20, e21, e22, e24, e25, eR, hL3, P.2.2.2.2.2.2.2.2.1, ⟨g3, g4, Nat.le_succ_of_le g5⟩, ?_, ?_, ?_⟩
  · intro i hi
    obtain ⟨y1, y2, y3, y4⟩ := P.2.2.2.2.2.1.2.2.1 i hi
    have hi' : i < gL σ 3 := hi
    refine ⟨y1, y2, y3, fun q hq => ?_⟩
    have e23 : gV (chS (mx 30 (dv σ m l u) τ) 22 (j + 1) u 1) 23 q i = gV σ 23 q i + (if i + 1 = j + 1 ∧ u < nI q then 1 else 0) := ch_a hq
    have e30 : gV (chS (mx 30 (dv σ m l u) τ) 22 (j + 1) u 1) 3 0 i = gV σ 3 0 i := rfl
    have e31 : gV (chS (mx 30 (dv σ m l u) τ) 22 (j + 1) u 1) 3 1 i = gV σ 3 1 i := rfl
    have hs : sm (fun d => if (gV (chS (mx 30 (dv σ m l u) τ) 22 (j + 1) u 1) 2 0 d = gV σ 3 0 i ∧ gV (chS (mx 30 (dv σ m l u) τ) 22 (j + 1) u 1) 2 1 d = gV σ 3 1 i) ∧ gV (chS (mx 30 (dv σ m l u) τ) 22 (j + 1) u 1) 2 2 d < nI q then (1 : Int32) else 0) (gL σ 2) = sm (fun d => if (gV σ 2 0 d = gV σ 3 0 i ∧ gV σ 2 1 d = gV σ 3 1 i) ∧ gV σ 2 2 d < nI q then 1 else 0) (gL σ 2) := sm_cong (fun d hd => by rw [e20, e21, e22, if_neg (show ¬ d = gL σ 2 by omega), if_neg (show ¬ d = gL σ 2 by omega), if_neg (show ¬ d = gL σ 2 by omega)])
    rw [e23, e30, e31, sm, hs, e20, e21, e22, if_pos rfl, if_pos rfl, if_pos rfl, y4 q hq]
    congr 1
    by_cases e : i = j
    · by_cases e2 : u < nI q
      · rw [if_pos ⟨by omega, e2⟩, if_pos ⟨⟨by rw [e]; exact c1.symm, by rw [e]; exact c2.symm⟩, e2⟩]
      · rw [if_neg (fun z => e2 z.2), if_neg (fun z => e2 z.2)]
    · rw [if_neg (fun z => e (by omega)), if_neg (fun z => e (P.2.2.2.2.2.1.2.2.2.1 i j hi' hj (z.1.1.symm.trans c1.symm) (z.1.2.symm.trans c2.symm)))]
  · exact P.2.2.2.2.2.1.2.2.2.1
  · intro d hd
    by_cases e : d = gL σ 2
    · refine ⟨j, hj, ?_, ?_⟩
      · rw [e20, if_pos e]; exact c1.symm
      · rw [e21, if_pos e]; exact c2.symm
    · obtain ⟨i, hi, b1, b2⟩ := P.2.2.2.2.2.1.2.2.2.2 d (by omega)
      refine ⟨i, hi, ?_, ?_⟩
      · rw [e20, if_neg e]; exact b1
      · rw [e21, if_neg e]; exact b2
set_option maxHeartbeats 4000000 in
theorem pi_dv2 {x : Int64} {j : Nat} (P : PI σ) (hn : gL σ 2 < 12) (hL3 : Lst (mx 30 (dv σ m l u) τ) 30 (gL σ 2 + 1)) (hL5 : Lst (mx 31 (nk (mx 30 (dv σ m l u) τ) m l) τ') 31 (gL σ 3 + 1)) (hno : ∀ j, j < gL σ 3 → ¬ (gV σ 3 0 j = m ∧ gV σ 3 1 j = l)) : PI (DvF σ (chS (mx 31 (nk (mx 30 (dv σ m l u) τ) m l) τ') 22 (gL σ 3 + 1) u 1) m l u x) := by
  obtain ⟨g1, g2, g3, g4, g5⟩ := P.2.2.2.2.2.1.1
  have DV : EqV [3, 22, 23, 30, 31, 40, 41] (dv σ m l u) (chS (mx 31 (nk (mx 30 (dv σ m l u) τ) m l) τ') 22 (gL σ 3 + 1) u 1) := (((((((((((EqV.rf (σ := dv σ m l u)).mx (k := 30) (by decide) (by decide)).sW (k := 3) (c := 0) (by decide)).sW (k := 22) (c := 0) (by decide)).sW (k := 23) (c := 101) (by decide)).sR).sV (by decide)).sR).sV (by decide)).sV (by decide)).mx (k := 31) (by decide) (by decide)).ch (by decide) (by decide)
  have DR : EqR [3, 22, 23, 30, 31, 40, 41] (dv σ m l u) (chS (mx 31 (nk (mx 30 (dv σ m l u) τ) m l) τ') 22 (gL σ 3 + 1) u 1) := (((((((((((EqR.rf (σ := dv σ m l u)).mx (k := 30) (by decide) (by decide)).sW (k := 3) (c := 0) (by decide)).sW (k := 22) (c := 0) (by decide)).sW (k := 23) (c := 101) (by decide)).sR (by decide)).sV).sR (by decide)).sV).sV).mx (k := 31) (by decide) (by decide)).ch
  have DL : EqL [3, 22, 23, 40, 41] (dv σ m l u) (chS (mx 31 (nk (mx 30 (dv σ m l u) τ) m l) τ') 22 (gL σ 3 + 1) u 1) := (((((((((((EqL.rf (σ := dv σ m l u)).mx (k := 30) (by decide)).sW (k := 3) (c := 0) (by decide)).sW (k := 22) (c := 0) (by decide)).sW (k := 23) (c := 101) (by decide)).sR).sV).sR).sV).sV).mx (k := 31) (by decide)).ch
  have ML : EqL [2, 40] σ (mx 30 (dv σ m l u) τ) := ((((((((EqL.rf (σ := σ)).sW (k := 2) (c := 0) (by decide)).sR).sV).sV).sV).sV).sV).mx (k := 30) (by decide)
  have MV : EqV [2, 30, 40] σ (mx 30 (dv σ m l u) τ) := ((((((((EqV.rf (σ := σ)).sW (k := 2) (c := 0) (by decide)).sR).sV (by decide)).sV (by decide)).sV (by decide)).sV (by decide)).sV (by decide)).mx (k := 30) (by decide) (by decide)
  have MR : EqR [2, 30, 40] σ (mx 30 (dv σ m l u) τ) := (((((((((EqR.rf (σ := σ)).sW (k := 2) (c := 0) (by decide)).sR (by decide))).sV).sV).sV).sV).sV).mx (k := 30) (by decide) (by decide)
  have MN : EqN [2, 40] σ (mx 30 (dv σ m l u) τ) := ((((((((EqN.rf (σ := σ)).sW (k := 2) (c := 0) (by decide)).sR).sV).sV).sV).sV).sV).mx (k := 30) (by decide)
  have hM3 : gL (mx 30 (dv σ m l u) τ) 3 = gL σ 3 := ML 3 (by decide)
  have hM22 : gL (mx 30 (dv σ m l u) τ) 22 = gL σ 22 := ML 22 (by decide)
  have hM23 : gL (mx 30 (dv σ m l u) τ) 23 = gL σ 23 := ML 23 (by decide)
  have e20 : ∀ d, gV (chS (mx 31 (nk (mx 30 (dv σ m l u) τ) m l) τ') 22 (gL σ 3 + 1) u 1) 2 0 d = if d = gL σ 2 then m else gV σ 2 0 d := fun d => (DV 2 (by decide) 0 d).trans dv_0
  have e21 : ∀ d, gV (chS (mx 31 (nk (mx 30 (dv σ m l u) τ) m l) τ') 22 (gL σ 3 + 1) u 1) 2 1 d = if d = gL σ 2 then l else gV σ 2 1 d := fun d => (DV 2 (by decide) 1 d).trans dv_1
  have e22 : ∀ d, gV (chS (mx 31 (nk (mx 30 (dv σ m l u) τ) m l) τ') 22 (gL σ 3 + 1) u 1) 2 2 d = if d = gL σ 2 then u else gV σ 2 2 d := fun d => (DV 2 (by decide) 2 d).trans dv_2
  have e24 : ∀ d, gV (chS (mx 31 (nk (mx 30 (dv σ m l u) τ) m l) τ') 22 (gL σ 3 + 1) u 1) 2 4 d = if d = gL σ 2 then 0 else gV σ 2 4 d := fun d => (DV 2 (by decide) 4 d).trans dv_4
  have e25 : ∀ d, gV (chS (mx 31 (nk (mx 30 (dv σ m l u) τ) m l) τ') 22 (gL σ 3 + 1) u 1) 2 5 d = if d = gL σ 2 then 0 else gV σ 2 5 d := fun d => (DV 2 (by decide) 5 d).trans dv_5
  have eR : ∀ d, gR (chS (mx 31 (nk (mx 30 (dv σ m l u) τ) m l) τ') 22 (gL σ 3 + 1) u 1) 2 3 d = if d = gL σ 2 then 0 else gR σ 2 3 d := fun d => (DR 2 (by decide) 3 d).trans dv_R
  have l2 : gL (chS (mx 31 (nk (mx 30 (dv σ m l u) τ) m l) τ') 22 (gL σ 3 + 1) u 1) 2 = gL σ 2 + 1 := (DL 2 (by decide)).trans dv_L
  have K3 : gL (chS (mx 31 (nk (mx 30 (dv σ m l u) τ) m l) τ') 22 (gL σ 3 + 1) u 1) 3 = gL σ 3 + 1 := by rw [gL_ch, gL_mx, if_neg (by decide), nk_L3, hM3]
  have K22 : gL (chS (mx 31 (nk (mx 30 (dv σ m l u) τ) m l) τ') 22 (gL σ 3 + 1) u 1) 22 = gL σ 22 + 1 := by rw [gL_ch, gL_mx, if_neg (by decide), nk_L22, hM22]
  have K23 : gL (chS (mx 31 (nk (mx 30 (dv σ m l u) τ) m l) τ') 22 (gL σ 3 + 1) u 1) 23 = gL σ 23 + 1 := by rw [gL_ch, gL_mx, if_neg (by decide), nk_L23, hM23]
  have e30 : ∀ d, gV (chS (mx 31 (nk (mx 30 (dv σ m l u) τ) m l) τ') 22 (gL σ 3 + 1) u 1) 3 0 d = if d = gL σ 3 then m else gV σ 3 0 d := fun d => by rw [ch_ne (by decide) (by decide), gV_mx, if_neg (by decide), nk_0, hM3, MV 3 (by decide)]
  have e31 : ∀ d, gV (chS (mx 31 (nk (mx 30 (dv σ m l u) τ) m l) τ') 22 (gL σ 3 + 1) u 1) 3 1 d = if d = gL σ 3 then l else gV σ 3 1 d := fun d => by rw [ch_ne (by decide) (by decide), gV_mx, if_neg (by decide), nk_1, hM3, MV 3 (by decide)]
  have hL30 : Lst (chS (mx 31 (nk (mx 30 (dv σ m l u) τ) m l) τ') 22 (gL σ 3 + 1) u 1) 30 (gL σ 2 + 1) := Lst_c (k := 30) (by rw [gL_ch, gL_mx, if_neg (by decide), nk_L (by decide)]) (by rw [gL_ch, gL_mx, if_neg (by decide), nk_L (by decide)]) (fun f i => by rw [ch_ne (by decide) (by decide), gV_mx, if_neg (by decide), nk_V (by decide)]) (fun f i => by rw [gR_ch, gR_mx, if_neg (by decide), nk_R' (by decide)]) (fun f i => by rw [gR_ch, gR_mx, if_neg (by decide), nk_R' (by decide)]) (fun i => by rw [gN_ch, gN_mx, if_neg (by decide), nk_N (by decide)]) hL3
  have hL31 : Lst (chS (mx 31 (nk (mx 30 (dv σ m l u) τ) m l) τ') 22 (gL σ 3 + 1) u 1) 31 (gL (chS (mx 31 (nk (mx 30 (dv σ m l u) τ) m l) τ') 22 (gL σ 3 + 1) u 1) 3) := by
    rw [K3]
    exact Lst_c (k := 31) gL_ch gL_ch (fun f i => ch_ne (by decide) (by decide)) (fun f i => gR_ch) (fun f i => gR_ch) (fun i => gN_ch) hL5
  refine pi_dvc P ⟨hn, ((((((((((((((((((EqL.rf (σ := σ)).sW (k := 2) (c := 0) (by decide)).sR).sV).sV).sV).sV).sV).mx (k := 30) (by decide)).sW (k := 3) (c := 0) (by decide)).sW (k := 22) (c := 0) (by decide)).sW (k := 23) (c := 101) (by decide)).sR).sV).sR).sV).sV).mx (k := 31) (by decide)).ch, ((((((((((((((((((EqV.rf (σ := σ)).sW (k := 2) (c := 0) (by decide)).sR).sV (by decide)).sV (by decide)).sV (by decide)).sV (by decide)).sV (by decide)).mx (k := 30) (by decide) (by decide)).sW (k := 3) (c := 0) (by decide)).sW (k := 22) (c := 0) (by decide)).sW (k := 23) (c := 101) (by decide)).sR).sV (by decide)).sR).sV (by decide)).sV (by decide)).mx (k := 31) (by decide) (by decide)).ch (by decide) (by decide), (((((((((((((((((((EqR.rf (σ := σ)).sW (k := 2) (c := 0) (by decide)).sR (by decide))).sV).sV).sV).sV).sV).mx (k := 30) (by decide) (by decide)).sW (k := 3) (c := 0) (by decide)).sW (k := 22) (c := 0) (by decide)).sW (k := 23) (c := 101) (by decide)).sR (by decide)).sV).sR (by decide)).sV).sV).mx (k := 31) (by decide) (by decide)).ch, ((((((((((((((((((EqN.rf (σ := σ)).sW (k := 2) (c := 0) (by decide)).sR).sV).sV).sV).sV).sV).mx (k := 30) (by decide)).sW (k := 3) (c := 0) (by decide)).sW (k := 22) (c := 0) (by decide)).sW (k := 23) (c := 101) (by decide)).sR).sV).sR).sV).sV).mx (k := 31) (by decide)).ch, l2, e20, e21, e22, e24, e25, eR, hL30, hL31, ⟨by rw [K22, K3, g3], by rw [K23, K3, g4], by rw [K3]; omega⟩, ?_, ?_, ?_⟩
  · intro i hi
    rw [K3] at hi
    have r1 : gR (chS (mx 31 (nk (mx 30 (dv σ m l u) τ) m l) τ') 22 (gL σ 3 + 1) u 1) 3 2 i = if i = gL σ 3 then gL σ 22 + 1 else gR σ 3 2 i := by rw [gR_ch, gR_mx, if_neg (by decide), nk_R, hM3, hM22, MR 3 (by decide)]
    have r2 : gR (chS (mx 31 (nk (mx 30 (dv σ m l u) τ) m l) τ') 22 (gL σ 3 + 1) u 1) 22 0 i = if i = gL σ 22 then gL σ 23 + 1 else gR σ 22 0 i := by rw [gR_ch, gR_mx, if_neg (by decide), nk_R22, hM22, hM23, MR 22 (by decide)]
    have r3 : gN (chS (mx 31 (nk (mx 30 (dv σ m l u) τ) m l) τ') 22 (gL σ 3 + 1) u 1) 23 i = if i = gL σ 23 then 101 else gN σ 23 i := by rw [gN_ch, gN_mx, if_neg (by decide), nk_N23, hM23, MN 23 (by decide)]
    have e23 : ∀ q, q ≤ 100 → gV (chS (mx 31 (nk (mx 30 (dv σ m l u) τ) m l) τ') 22 (gL σ 3 + 1) u 1) 23 q i = (if i = gL σ 23 then 0 else gV σ 23 q i) + (if i + 1 = gL σ 3 + 1 ∧ u < nI q then 1 else 0) := fun q hq => by rw [ch_a (k := 22) hq, gV_mx, if_neg (by decide), nk_23, hM23, MV 23 (by decide)]
    by_cases e : i = gL σ 3
    · refine ⟨?_, ?_, ?_, fun q hq => ?_⟩
      · rw [r1, if_pos e]; omega
      · rw [r2, if_pos (by omega)]; omega
      · rw [r3, if_pos (by omega)]
      · have hs : sm (fun d => if (gV (chS (mx 31 (nk (mx 30 (dv σ m l u) τ) m l) τ') 22 (gL σ 3 + 1) u 1) 2 0 d = m ∧ gV (chS (mx 31 (nk (mx 30 (dv σ m l u) τ) m l) τ') 22 (gL σ 3 + 1) u 1) 2 1 d = l) ∧ gV (chS (mx 31 (nk (mx 30 (dv σ m l u) τ) m l) τ') 22 (gL σ 3 + 1) u 1) 2 2 d < nI q then (1 : Int32) else 0) (gL σ 2) = 0 := (sm_cong (f := fun _ => 0) (fun d hd => by
          rw [e20, e21, e22, if_neg (show ¬ d = gL σ 2 by omega), if_neg (show ¬ d = gL σ 2 by omega), if_neg (show ¬ d = gL σ 2 by omega)]
          refine if_neg (fun z => ?_)
          obtain ⟨i', hi2, b1, b2⟩ := P.2.2.2.2.2.1.2.2.2.2 d hd
          exact hno i' hi2 ⟨b1.symm.trans z.1.1, b2.symm.trans z.1.2⟩)).trans sm_z
        rw [e23 q hq, if_pos (by omega), Int32.zero_add, e30, e31, if_pos e, if_pos e, sm, hs, e20, e21, e22, if_pos rfl, if_pos rfl, if_pos rfl, Int32.zero_add]
        by_cases e2 : u < nI q
        · rw [if_pos ⟨by omega, e2⟩, if_pos ⟨⟨rfl, rfl⟩, e2⟩]
        · rw [if_neg (fun z => e2 z.2), if_neg (fun z => e2 z.2)]
    · have hi2 : i < gL σ 3 := by omega
      obtain ⟨y1, y2, y3, y4⟩ := P.2.2.2.2.2.1.2.2.1 i hi2
      refine ⟨?_, ?_, ?_, fun q hq => ?_⟩
      · rw [r1, if_neg e]; exact y1
      · rw [r2, if_neg (by omega)]; exact y2
      · rw [r3, if_neg (by omega)]; exact y3
      · have hs : sm (fun d => if (gV (chS (mx 31 (nk (mx 30 (dv σ m l u) τ) m l) τ') 22 (gL σ 3 + 1) u 1) 2 0 d = gV σ 3 0 i ∧ gV (chS (mx 31 (nk (mx 30 (dv σ m l u) τ) m l) τ') 22 (gL σ 3 + 1) u 1) 2 1 d = gV σ 3 1 i) ∧ gV (chS (mx 31 (nk (mx 30 (dv σ m l u) τ) m l) τ') 22 (gL σ 3 + 1) u 1) 2 2 d < nI q then (1 : Int32) else 0) (gL σ 2) = sm (fun d => if (gV σ 2 0 d = gV σ 3 0 i ∧ gV σ 2 1 d = gV σ 3 1 i) ∧ gV σ 2 2 d < nI q then 1 else 0) (gL σ 2) := sm_cong (fun d hd => by rw [e20, e21, e22, if_neg (show ¬ d = gL σ 2 by omega), if_neg (show ¬ d = gL σ 2 by omega), if_neg (show ¬ d = gL σ 2 by omega)])
        rw [e23 q hq, if_neg (by omega), if_neg (c := i + 1 = gL σ 3 + 1 ∧ u < nI q) (fun z => by omega), Int32.add_zero, e30, e31, if_neg e, if_neg e, sm, hs, e20, e21, e22, if_pos rfl, if_pos rfl, if_pos rfl, if_neg (c := (m = gV σ 3 0 i ∧ l = gV σ 3 1 i) ∧ u < nI q) (fun z => hno i hi2 ⟨z.1.1.symm, z.1.2.symm⟩), Int32.add_zero]
        exact y4 q hq
  · intro i i' hi hi2 b1 b2
    rw [K3] at hi hi2
    rw [e30, e30] at b1
    rw [e31, e31] at b2
    by_cases c : i = gL σ 3
    · by_cases c' : i' = gL σ 3
      · omega
      · rw [if_pos c, if_neg c'] at b1 b2
        exact absurd ⟨b1.symm, b2.symm⟩ (hno i' (by omega))
    · by_cases c' : i' = gL σ 3
      · rw [if_neg c, if_pos c'] at b1 b2
        exact absurd ⟨b1, b2⟩ (hno i (by omega))
      · rw [if_neg c, if_neg c'] at b1 b2
        exact P.2.2.2.2.2.1.2.2.2.1 i i' (by omega) (by omega) b1 b2
  · intro d hd
    by_cases e : d = gL σ 2
    · refine ⟨gL σ 3, by rw [K3]; exact Nat.lt_succ_self (gL σ 3), ?_, ?_⟩
      · rw [e20, e30, if_pos e, if_pos rfl]
      · rw [e21, e31, if_pos e, if_pos rfl]
    · obtain ⟨i, hi, b1, b2⟩ := P.2.2.2.2.2.1.2.2.2.2 d (by omega)
      refine ⟨i, by rw [K3]; exact Nat.lt_succ_of_lt hi, ?_, ?_⟩
      · rw [e20, e30, if_neg e, if_neg (show ¬ i = gL σ 3 by omega)]; exact b1
      · rw [e21, e31, if_neg e, if_neg (show ¬ i = gL σ 3 by omega)]; exact b2
end DV
section CS
variable {X : Cx} {xs : Nat → Int32} {Ls b i : Nat} {v1 v2 v3 v4 : Option Nat} {g : GM}
end CS
