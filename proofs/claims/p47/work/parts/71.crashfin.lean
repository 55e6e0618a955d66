/-! a crash: the states behind it -/
def rfX (κ : St) (x : Int64) : St := sV (sV (sV (sJ κ x) 8 33 0 0) 8 36 0 0) 8 36 0 0
def nwT (s : St) (m n : Nat) : St := sV (sV (cyS s m n) 128 m 0 (nI n)) 8 31 0 (nI (m + 1))
section FS
variable {s κ κ' σ : St} {x : Int64} {k f i g j m n t b b' : Nat}
theorem rfX_L : gL (rfX κ x) k = gL κ k := Eq.trans rfl rfl
theorem rfX_R : gR (rfX κ x) k f i = gR κ k f i := Eq.trans rfl rfl
theorem rfX_N : gN (rfX κ x) k i = gN κ k i := Eq.trans rfl rfl
theorem rfX_V (h : k ≠ 8) : gV (rfX κ x) k f i = gV κ k f i := by
  unfold rfX
  rw [gV_sV, if_neg (by omega), gV_sV, if_neg (by omega), gV_sV, if_neg (by omega), gV_sJ]
theorem rfX_8 (h : f ≠ 33 ∧ f ≠ 36) : gV (rfX κ x) 8 f 0 = gV κ 8 f 0 := by
  unfold rfX
  rw [gV_sV, if_neg (by omega), gV_sV, if_neg (by omega), gV_sV, if_neg (by omega), gV_sJ]
theorem rfX_33 : gV (rfX κ x) 8 33 0 = 0 := by
  unfold rfX
  rw [gV_sV, if_neg (by omega), gV_sV, if_neg (by omega), gV_sV, if_pos ⟨rfl, rfl, rfl⟩]
theorem rfX_36 : gV (rfX κ x) 8 36 0 = 0 := by
  unfold rfX
  rw [gV_sV, if_pos ⟨rfl, rfl, rfl⟩]
theorem rfX_J : gJ (rfX κ x) 0 = x := Eq.trans rfl rfl
theorem fin_J : gJ (finS s m b) = gJ s := Eq.trans rfl rfl
theorem nwT_J : gJ (nwT s m n) = gJ s := Eq.trans rfl rfl
theorem old_W {A : Ad} : WF A (oldS κ t b) = WF A κ := Eq.trans rfl rfl
theorem old_P : P0 (oldS κ t b) = P0 κ := Eq.trans rfl rfl
theorem rfX_W {A : Ad} : WF A (rfX κ x) = WF A κ := Eq.trans rfl rfl
theorem fin_W {A : Ad} : WF A (finS s m b) = WF A s := Eq.trans rfl rfl
theorem nwT_W {A : Ad} : WF A (nwT s m n) = WF A s := Eq.trans rfl rfl
theorem rfX_P : P0 (rfX κ x) = P0 κ := Eq.trans rfl rfl
theorem fin_P : P0 (finS s m b) = P0 s := Eq.trans rfl rfl
theorem nwT_P : P0 (nwT s m n) = P0 s := Eq.trans rfl rfl
theorem fin_L : gL (finS s m b) k = gL s k := Eq.trans rfl rfl
theorem fin_R : gR (finS s m b) k f i = gR s k f i := Eq.trans rfl rfl
theorem fin_N : gN (finS s m b) k i = gN s k i := Eq.trans rfl rfl
theorem fin_V (h : k ≠ 129 ∧ k ≠ 130 ∧ k ≠ 120) : gV (finS s m b) k f i = gV s k f i := by
  unfold finS
  rw [gV_sV, if_neg (by omega), gV_sV, if_neg (by omega), gV_sV, if_neg (by omega)]
theorem fin_129 : gV (finS s m b) 129 g 0 = if g = m then gV s 129 g 0 + 1 else gV s 129 g 0 := by
  unfold finS
  rw [gV_sV, if_neg (by omega), gV_sV, if_neg (by omega), gV_sV]
  by_cases e : g = m
  · rw [if_pos ⟨rfl, e, rfl⟩, if_pos e, e]
  · rw [if_neg (fun z => e z.2.1), if_neg e]
theorem fin_130 : gV (finS s m b) 130 g 0 = if g = m then gV s 130 g 0 ||| (1 : Int32) <<< (nI b &&& 31) else gV s 130 g 0 := by
  unfold finS
  rw [gV_sV, if_neg (by omega), gV_sV]
  by_cases e : g = m
  · rw [if_pos ⟨rfl, e, rfl⟩, if_pos e, e]
  · rw [if_neg (fun z => e z.2.1), if_neg e, gV_sV, if_neg (by omega)]
theorem fin_120 : gV (finS s m b) 120 b' 0 = if b' = b then gV s 120 b' 0 + 1 else gV s 120 b' 0 := by
  unfold finS
  rw [gV_sV]
  by_cases e : b' = b
  · rw [if_pos ⟨rfl, e, rfl⟩, if_pos e, e]
  · rw [if_neg (fun z => e z.2.1), if_neg e, gV_sV, if_neg (by omega), gV_sV, if_neg (by omega)]
theorem old_L : gL (oldS κ t b) k = gL κ k := Eq.trans rfl rfl
theorem old_R : gR (oldS κ t b) k f i = gR κ k f i := Eq.trans rfl rfl
theorem old_N : gN (oldS κ t b) k i = gN κ k i := Eq.trans rfl rfl
theorem old_V (h : k ≠ 4 ∧ k ≠ 1) : gV (oldS κ t b) k f i = gV κ k f i := by
  unfold oldS
  rw [gV_sV, if_neg (by omega), gV_sV, if_neg (by omega), gV_sV, if_neg (by omega)]
theorem old_1 (h : f ≠ 13) : gV (oldS κ t b) 1 f i = gV κ 1 f i := by
  unfold oldS
  rw [gV_sV, if_neg (by omega), gV_sV, if_neg (by omega), gV_sV, if_neg (by omega)]
theorem old_113 : gV (oldS κ t b) 1 13 b' = if b' = b then gV κ 1 13 b' + 1 else gV κ 1 13 b' := by
  unfold oldS
  rw [gV_sV]
  by_cases e : b' = b
  · rw [if_pos ⟨rfl, rfl, e⟩, if_pos e, e]
  · rw [if_neg (fun z => e z.2.2), if_neg e, gV_sV, if_neg (by omega), gV_sV, if_neg (by omega)]
theorem old_40 : gV (oldS κ t b) 4 0 g = gV κ 4 0 g := by
  unfold oldS
  rw [gV_sV, if_neg (by omega), gV_sV, if_neg (by omega), gV_sV, if_neg (by omega)]
theorem old_42 : gV (oldS κ t b) 4 2 g = if g = t then gV κ 4 2 g + 1 else gV κ 4 2 g := by
  unfold oldS
  rw [gV_sV, if_neg (by omega), gV_sV, if_neg (by omega), gV_sV]
  by_cases e : g = t
  · rw [if_pos ⟨rfl, rfl, e⟩, if_pos e, e]
  · rw [if_neg (fun z => e z.2.2), if_neg e]
theorem old_43 : gV (oldS κ t b) 4 3 g = if g = t then gV κ 4 3 g ||| (1 : Int32) <<< (nI b &&& 31) else gV κ 4 3 g := by
  unfold oldS
  rw [gV_sV, if_neg (by omega), gV_sV]
  by_cases e : g = t
  · rw [if_pos ⟨rfl, rfl, e⟩, if_pos e, e]
  · rw [if_neg (fun z => e z.2.2), if_neg e, gV_sV, if_neg (by omega)]
theorem nwT_L : gL (nwT s m n) k = gL s k := Eq.trans rfl rfl
theorem nwT_R : gR (nwT s m n) k f i = gR s k f i := Eq.trans rfl rfl
theorem nwT_N : gN (nwT s m n) k i = gN s k i := Eq.trans rfl rfl
theorem nwT_V (h : k ≠ 227 ∧ k ≠ 128 ∧ k ≠ 8) : gV (nwT s m n) k f i = gV s k f i := by
  unfold nwT
  rw [gV_sV, if_neg (by omega), gV_sV, if_neg (by omega), cy_V h.1]
theorem nwT_8 (h : f ≠ 31) : gV (nwT s m n) 8 f 0 = gV s 8 f 0 := by
  unfold nwT
  rw [gV_sV, if_neg (by omega), gV_sV, if_neg (by omega), cy_V (by decide)]
theorem nwT_31 : gV (nwT s m n) 8 31 0 = nI (m + 1) := by
  unfold nwT
  rw [gV_sV, if_pos ⟨rfl, rfl, rfl⟩]
theorem nwT_128 : gV (nwT s m n) 128 g 0 = if g = m then nI n else gV s 128 g 0 := by
  unfold nwT
  rw [gV_sV, if_neg (by omega), gV_sV]
  by_cases e : g = m
  · rw [if_pos ⟨rfl, e, rfl⟩, if_pos e]
  · rw [if_neg (fun z => e z.2.1), if_neg e, cy_V (by decide)]
theorem nwT_227 : gV (nwT s m n) 227 j i = if i = m ∧ j < n then gV s 132 j 0 else gV s 227 j i := by
  unfold nwT
  rw [gV_sV, if_neg (by omega), gV_sV, if_neg (by omega), cy_227]
/-- refused: only the letters are gone -/
theorem pi_cr0 (P : PI σ) (hn : True) : PI (sV (crS σ n) 8 33 0 0) := by
  obtain ⟨hL, hR, hN, hV, v0, v1, v2, v3, v4⟩ := crS_H (σ := σ) (n := n)
  have V8 : ∀ k f i, k ≠ 6 ∧ k ≠ 16 ∧ k ≠ 8 → gV (sV (crS σ n) 8 33 0 0) k f i = gV σ k f i := fun k f i h => by rw [gV_sV, if_neg (fun z => h.2.2 z.1)]; exact hV k f i ⟨h.1, h.2.1⟩
  refine pi_cf P ⟨fun k _ => hL k, fun k hk f i => ?_, fun k _ f i => hR k f i, fun k _ i => hN k i, fun f hf => ?_, ?_, ?_, fun f i _ => V8 1 f i (by decide), fun b hb => ?_, fun b _ => V8 120 b 0 (by decide), ?_, ?_⟩
  · simp only [List.mem_cons, List.not_mem_nil, or_false, not_or] at hk
    exact V8 k f i (by omega)
  · rw [gV_sV, if_neg (by omega)]; exact hV 8 f 0 (by decide)
  · rw [gV_sV, if_neg (by decide), hV 8 31 0 (by decide)]
    exact P.2.1.1.2.2.trans (congrArg nI (hL 4).symm)
  · exact (hL 4).symm ▸ P.2.1.2.2.2.2.2.2.2.2.2
  · rw [V8 1 13 b (by decide), V8 120 b 0 (by decide)]; exact (P.2.2.2.1.2.2.1 b hb).2.2.2.2.2.2.2
  · obtain ⟨⟨p1, p2, p3⟩, p4, p5, p6, p7⟩ := P.2.2.2.2.1
    have l4 : gL (sV (crS σ n) 8 33 0 0) 4 = gL σ 4 := hL 4
    refine ⟨⟨(hL 6).trans (p1.trans (congrArg (fun z => z + 2) (hL 4).symm)), (hL 16).trans (p2.trans (congrArg (fun z => z + 2) (hL 4).symm)), fun i hi => ?_⟩, fun g hg => ?_, fun g hg => ?_, ⟨0, by decide, ?_, ?_, fun j hj => absurd hj (Nat.not_lt_zero _)⟩, fun g hg => ?_⟩
    · rw [l4] at hi
      exact ⟨(hR 6 0 i).trans (p3 i hi).1, (hN 16 i).trans (p3 i hi).2⟩
    · rw [l4] at hg
      rw [V8 4 0 g (by decide), V8 4 2 g (by decide), V8 4 3 g (by decide), V8 129 g 0 (by decide), V8 130 g 0 (by decide)]
      obtain ⟨a1, a2, a3, a4⟩ := p4 g hg
      exact ⟨a1, (hR 4 1 g).trans a2, a3, a4⟩
    · rw [l4] at hg
      obtain ⟨q, m1, m2, m3, m4, m5⟩ := p5 g hg
      refine ⟨q, m1, m2, ?_, ?_, fun j hj => ?_⟩
      · rw [gV_sV, if_neg (by omega), v2 _ (by omega)]; exact m3
      · rw [V8 128 g 0 (by decide)]; exact m4
      · rw [gV_sV, if_neg (by omega), v4 j _ (by omega), V8 227 j g (by decide)]; exact m5 j hj
    · rw [gV_sV, if_neg (by decide)]; exact v0
    · rw [gV_sV, if_pos ⟨rfl, rfl, rfl⟩]; rfl
    · rw [l4] at hg
      rw [V8 129 g 0 (by decide), V8 130 g 0 (by decide)]; exact p7 g hg
  · have l4 : gL (sV (crS σ n) 8 33 0 0) 4 = gL σ 4 := hL 4
    rw [l4]
    exact Lst_c gL_sV gL_sV (fun f i => by rw [gV_sV, if_neg (by omega)]) (fun f i => gR_sV) (fun f i => gR_sV) (fun i => gN_sV) (crL (n := n) P).2
/-- into a group that was there -/
theorem pi_cr1 (P : PI σ) (H : CrH σ κ n) (ht : t < gL σ 4) (hb : b < gL σ 1) : PI (finS (rfX (oldS κ t b) x) t b) := by
  obtain ⟨hL, hR, hN, hV, v0, v1, v2, v3, v4⟩ := H
  have l : ∀ k, gL (finS (rfX (oldS κ t b) x) t b) k = gL σ k := fun k => by rw [fin_L, rfX_L, old_L, hL]
  have r : ∀ k f i, gR (finS (rfX (oldS κ t b) x) t b) k f i = gR σ k f i := fun k f i => by rw [fin_R, rfX_R, old_R, hR]
  have nn : ∀ k i, gN (finS (rfX (oldS κ t b) x) t b) k i = gN σ k i := fun k i => by rw [fin_N, rfX_N, old_N, hN]
  have V : ∀ k f i, k ≠ 1 ∧ k ≠ 4 ∧ k ≠ 6 ∧ k ≠ 8 ∧ k ≠ 16 ∧ k ≠ 120 ∧ k ≠ 129 ∧ k ≠ 130 → gV (finS (rfX (oldS κ t b) x) t b) k f i = gV σ k f i := fun k f i h => by rw [fin_V (by omega), rfX_V (by omega), old_V (by omega), hV k f i (by omega)]
  have W129 : ∀ g, gV (rfX (oldS κ t b) x) 129 g 0 = gV σ 129 g 0 := fun g => by rw [rfX_V (by decide), old_V (by decide), hV _ _ _ (by decide)]
  have W130 : ∀ g, gV (rfX (oldS κ t b) x) 130 g 0 = gV σ 130 g 0 := fun g => by rw [rfX_V (by decide), old_V (by decide), hV _ _ _ (by decide)]
  have W120 : ∀ g, gV (rfX (oldS κ t b) x) 120 g 0 = gV σ 120 g 0 := fun g => by rw [rfX_V (by decide), old_V (by decide), hV _ _ _ (by decide)]
  have E8 : ∀ f, f ≠ 33 ∧ f ≠ 36 → gV (finS (rfX (oldS κ t b) x) t b) 8 f 0 = gV σ 8 f 0 := fun f hf => by rw [fin_V (by decide), rfX_8 hf, old_V (by decide), hV 8 f 0 (by decide)]
  refine pi_cf P ⟨fun k _ => l k, fun k hk f i => ?_, fun k _ f i => r k f i, fun k _ i => nn k i, fun f hf => E8 f ⟨hf.2.1, hf.2.2⟩, ?_, ?_, fun f i hf => ?_, fun c hc => ?_, fun c hc => ?_, ?_, ?_⟩
  · simp only [List.mem_cons, List.not_mem_nil, or_false, not_or] at hk
    exact V k f i (by omega)
  · rw [E8 31 (by decide), l 4]; exact P.2.1.1.2.2
  · rw [l 4]; exact P.2.1.2.2.2.2.2.2.2.2.2
  · rw [fin_V (by decide), rfX_V (by decide), old_1 hf, hV 1 f i (by decide)]
  · rw [fin_V (by decide), rfX_V (by decide), old_113, fin_120, W120, hV 1 13 c (by decide), (P.2.2.2.1.2.2.1 c hc).2.2.2.2.2.2.2]
  · rw [fin_120, if_neg (by omega), W120]
  · obtain ⟨⟨p1, p2, p3⟩, p4, p5, p6, p7⟩ := P.2.2.2.2.1
    refine ⟨⟨by rw [l, l]; exact p1, by rw [l, l]; exact p2, fun i hi => ?_⟩, fun g hg => ?_, fun g hg => ?_, ⟨0, by decide, ?_, ?_, fun j hj => absurd hj (Nat.not_lt_zero _)⟩, fun g hg => ?_⟩
    · rw [l] at hi
      rw [r, nn]; exact p3 i hi
    · rw [l] at hg
      obtain ⟨a1, a2, a3, a4⟩ := p4 g hg
      rw [fin_V (by decide), rfX_V (by decide), old_40, hV 4 0 g (by decide), r, fin_V (by decide), rfX_V (by decide), old_42, fin_129, W129, hV 4 2 g (by decide), fin_V (by decide), rfX_V (by decide), old_43, fin_130, W130, hV 4 3 g (by decide), a3, a4]
      exact ⟨a1, a2, rfl, rfl⟩
    · rw [l] at hg
      obtain ⟨q, m1, m2, m3, m4, m5⟩ := p5 g hg
      refine ⟨q, m1, m2, ?_, ?_, fun j hj => ?_⟩
      · rw [fin_V (by decide), rfX_V (by decide), old_V (by decide), v2 _ (by omega)]; exact m3
      · rw [V 128 g 0 (by decide)]; exact m4
      · rw [fin_V (by decide), rfX_V (by decide), old_V (by decide), v4 j _ (by omega), V 227 j g (by decide)]; exact m5 j hj
    · rw [fin_V (by decide), rfX_V (by decide), old_V (by decide)]; exact v0
    · rw [fin_V (by decide), rfX_33]; rfl
    · rw [l] at hg
      rw [fin_129, if_neg (by omega), W129, fin_130, if_neg (by omega), W130]; exact p7 g hg
  · rw [l 4]
    refine Lst_c (l 33) (l 43) (fun f i => V 33 f i (by decide)) (r 33) (r 43) (nn 43) P.2.2.2.2.2.2.2.2.2.2
/-- into a new group -/
theorem pi_cr2 (P : PI σ) (H : CrH σ κ n) (G : NgH κ κ' (gL σ 4) n) (hn1 : 1 ≤ n) (hn6 : n ≤ 6) (h30 : gL σ 4 < 30) (hb : b < gL σ 1) (hty : ∀ j, j < n → gV σ 16 j 0 = gV σ 132 j 0 ∧ ∃ c, c < 65536 ∧ gV σ 132 j 0 = nI c) : PI (finS (nwT (rfX (oldS κ' (gL σ 4) b) x) (gL σ 4) n) (gL σ 4) b) := by
  obtain ⟨hL, hR, hN, hV, v0, v1, v2, v3, v4⟩ := H
  obtain ⟨GL, GV, GR, GN, ⟨g4, g6, g16⟩, G40, G42, G43, G41, G60, GN16, G61, G16n, G16o, GLst⟩ := G
  have l : ∀ k, gL (finS (nwT (rfX (oldS κ' (gL σ 4) b) x) (gL σ 4) n) (gL σ 4) b) k = gL κ' k := fun k => by rw [fin_L, nwT_L, rfX_L, old_L]
  have r : ∀ k f i, gR (finS (nwT (rfX (oldS κ' (gL σ 4) b) x) (gL σ 4) n) (gL σ 4) b) k f i = gR κ' k f i := fun k f i => by rw [fin_R, nwT_R, rfX_R, old_R]
  have nn : ∀ k i, gN (finS (nwT (rfX (oldS κ' (gL σ 4) b) x) (gL σ 4) n) (gL σ 4) b) k i = gN κ' k i := fun k i => by rw [fin_N, nwT_N, rfX_N, old_N]
  have V0 : ∀ k f i, k ≠ 4 ∧ k ≠ 6 ∧ k ≠ 16 ∧ k ≠ 33 ∧ k ≠ 43 → gV κ' k f i = gV σ k f i := fun k f i h => by
    rw [GV k (by simp only [List.mem_cons, List.not_mem_nil, or_false, not_or]; omega), hV k f i (by omega)]
  have V : ∀ k f i, k ≠ 1 ∧ k ≠ 4 ∧ k ≠ 6 ∧ k ≠ 8 ∧ k ≠ 16 ∧ k ≠ 33 ∧ k ≠ 43 ∧ k ≠ 120 ∧ k ≠ 128 ∧ k ≠ 129 ∧ k ≠ 130 ∧ k ≠ 227 → gV (finS (nwT (rfX (oldS κ' (gL σ 4) b) x) (gL σ 4) n) (gL σ 4) b) k f i = gV σ k f i := fun k f i h => by rw [fin_V (by omega), nwT_V (by omega), rfX_V (by omega), old_V (by omega), V0 k f i (by omega)]
  have W0 : ∀ k g, k = 129 ∨ k = 130 ∨ k = 120 → gV (nwT (rfX (oldS κ' (gL σ 4) b) x) (gL σ 4) n) k g 0 = gV σ k g 0 := fun k g h => by rw [nwT_V (by omega), rfX_V (by omega), old_V (by omega), V0 k g 0 (by omega)]
  have W129 := fun g => W0 129 g (by decide)
  have W130 := fun g => W0 130 g (by decide)
  have W120 := fun g => W0 120 g (by decide)
  have E8 : ∀ f, f ≠ 31 ∧ f ≠ 33 ∧ f ≠ 36 → gV (finS (nwT (rfX (oldS κ' (gL σ 4) b) x) (gL σ 4) n) (gL σ 4) b) 8 f 0 = gV σ 8 f 0 := fun f hf => by rw [fin_V (by decide), nwT_8 hf.1, rfX_8 hf.2, old_V (by decide), V0 8 f 0 (by decide)]
  have C4 : ∀ f g, gV (finS (nwT (rfX (oldS κ' (gL σ 4) b) x) (gL σ 4) n) (gL σ 4) b) 4 f g = gV (oldS κ' (gL σ 4) b) 4 f g := fun f g => by rw [fin_V (by decide), nwT_V (by decide), rfX_V (by decide)]
  have C1 : ∀ f g, gV (finS (nwT (rfX (oldS κ' (gL σ 4) b) x) (gL σ 4) n) (gL σ 4) b) 1 f g = gV (oldS κ' (gL σ 4) b) 1 f g := fun f g => by rw [fin_V (by decide), nwT_V (by decide), rfX_V (by decide)]
  have C6 : ∀ f g, gV (finS (nwT (rfX (oldS κ' (gL σ 4) b) x) (gL σ 4) n) (gL σ 4) b) 6 f g = gV κ' 6 f g := fun f g => by rw [fin_V (by decide), nwT_V (by decide), rfX_V (by decide), old_V (by decide)]
  have C16 : ∀ f g, gV (finS (nwT (rfX (oldS κ' (gL σ 4) b) x) (gL σ 4) n) (gL σ 4) b) 16 f g = gV κ' 16 f g := fun f g => by rw [fin_V (by decide), nwT_V (by decide), rfX_V (by decide), old_V (by decide)]
  obtain ⟨⟨p1, p2, p3⟩, p4, p5, p6, p7⟩ := P.2.2.2.2.1
  refine pi_cf P ⟨fun k hk => ?_, fun k hk f i => ?_, fun k hk f i => ?_, fun k hk i => ?_, E8, ?_, ?_, fun f i hf => ?_, fun c hc => ?_, fun c hc => ?_, ?_, ?_⟩
  · rw [l, GL k hk, hL]
  · simp only [List.mem_cons, List.not_mem_nil, or_false, not_or] at hk
    exact V k f i (by omega)
  · rw [r, GR k hk, hR]
  · rw [nn, GN k hk, hN]
  · rw [fin_V (by decide), nwT_31, l, g4]
  · rw [l, g4]; omega
  · rw [C1, old_1 hf, V0 1 f i (by decide)]
  · rw [C1, old_113, fin_120, W120, V0 1 13 c (by decide), (P.2.2.2.1.2.2.1 c hc).2.2.2.2.2.2.2]
  · rw [fin_120, if_neg (by omega), W120]
  · refine ⟨⟨by rw [l, l, g6, g4], by rw [l, l, g16, g4], fun i hi => ?_⟩, fun g hg => ?_, fun g hg => ?_, ⟨0, by decide, ?_, ?_, fun j hj => absurd hj (Nat.not_lt_zero _)⟩, fun g hg => ?_⟩
    · rw [l, g4] at hi
      rw [r, nn, G60, GN16]
      by_cases e : i = gL σ 4 + 2
      · rw [if_pos e, if_pos e]; exact ⟨by omega, rfl⟩
      · rw [if_neg e, if_neg e, hR, hN]; exact p3 i (by omega)
    · rw [l, g4] at hg
      rw [C4, C4, C4, r, old_40, old_42, old_43, fin_129, fin_130, W129, W130, G40, G42, G43, G41]
      by_cases e : g = gL σ 4
      · obtain ⟨y1, y2⟩ := p7 g (by omega)
        rw [if_pos e, if_pos e, if_pos e, if_pos e, if_pos e, if_pos e, if_pos e, if_pos e, y1, y2, e]
        exact ⟨rfl, rfl, rfl, rfl⟩
      · obtain ⟨a1, a2, a3, a4⟩ := p4 g (by omega)
        rw [if_neg e, if_neg e, if_neg e, if_neg e, if_neg e, if_neg e, if_neg e, if_neg e, hV 4 0 g (by decide), hV 4 2 g (by decide), hV 4 3 g (by decide), hR]
        exact ⟨a1, a2, a3, a4⟩
    · rw [l, g4] at hg
      have E128 : gV (finS (nwT (rfX (oldS κ' (gL σ 4) b) x) (gL σ 4) n) (gL σ 4) b) 128 g 0 = if g = gL σ 4 then nI n else gV σ 128 g 0 := by
        rw [fin_V (by decide), nwT_128, rfX_V (by decide), old_V (by decide), V0 128 g 0 (by decide)]
      have E227 : ∀ j, gV (finS (nwT (rfX (oldS κ' (gL σ 4) b) x) (gL σ 4) n) (gL σ 4) b) 227 j g = if g = gL σ 4 ∧ j < n then gV σ 132 j 0 else gV σ 227 j g := fun j => by
        rw [fin_V (by decide), nwT_227, rfX_V (by decide), old_V (by decide), V0 132 j 0 (by decide), rfX_V (by decide), old_V (by decide), V0 227 j g (by decide)]
      by_cases e : g = gL σ 4
      · refine ⟨n, hn1, hn6, ?_, ?_, fun j hj => ?_⟩
        · rw [C6, G61, if_pos (by omega)]
        · rw [E128, if_pos e]
        · obtain ⟨y1, y2⟩ := hty j hj
          rw [C16, E227, if_pos ⟨e, hj⟩, e, G16n j hj, v3 j hj]
          exact ⟨y1, y2⟩
      · obtain ⟨q, m1, m2, m3, m4, m5⟩ := p5 g (by omega)
        refine ⟨q, m1, m2, ?_, ?_, fun j hj => ?_⟩
        · rw [C6, G61, if_neg (by omega), v2 _ (by omega)]; exact m3
        · rw [E128, if_neg e]; exact m4
        · rw [C16, E227, if_neg (fun z => e z.1), G16o j _ (by omega), v4 j _ (by omega)]; exact m5 j hj
    · rw [C6, G61, if_neg (by omega)]; exact v0
    · rw [fin_V (by decide), nwT_8 (by decide), rfX_33]; rfl
    · rw [l, g4] at hg
      rw [fin_129, if_neg (by omega), W129, fin_130, if_neg (by omega), W130]; exact p7 g (by omega)
  · rw [l, g4]
    refine Lst_c (l 33) (l 43) (fun f i => ?_) (r 33) (r 43) (nn 43) GLst
    rw [fin_V (by decide), nwT_V (by decide), rfX_V (by decide), old_V (by decide)]
end FS
