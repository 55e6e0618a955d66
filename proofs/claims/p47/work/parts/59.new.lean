/-! new objects -/
theorem gL_mx {k k' : Nat} {σ τ : St} : gL (mx k σ τ) k' = if k' = k + 10 then gL τ k' else gL σ k' := Eq.trans rfl rfl
theorem gV_mx {k k' f i : Nat} {σ τ : St} : gV (mx k σ τ) k' f i = if k' = k ∨ k' = k + 10 then gV τ k' f i else gV σ k' f i := Eq.trans rfl rfl
theorem gR_mx {k k' f i : Nat} {σ τ : St} : gR (mx k σ τ) k' f i = if k' = k ∨ k' = k + 10 then gR τ k' f i else gR σ k' f i := Eq.trans rfl rfl
theorem gN_mx {k k' i : Nat} {σ τ : St} : gN (mx k σ τ) k' i = if k' = k + 10 then gN τ k' i else gN σ k' i := Eq.trans rfl rfl
theorem Nx.tr {A A' A'' : Ad} {σ σ' : St} (h : Nx A A' σ) (h' : Nx A' A'' σ') (hl : ∀ k, gL σ k ≤ gL σ' k) : Nx A A'' σ := ⟨fun k i hi => (h'.1 k i (Nat.lt_of_lt_of_le hi (hl k))).trans (h.1 k i hi), h'.2.trans h.2⟩
theorem Nx.le {A A' : Ad} {σ σ' : St} (h : Nx A A' σ') (hl : ∀ k, gL σ k ≤ gL σ' k) : Nx A A' σ := ⟨fun k i hi => h.1 k i (Nat.lt_of_lt_of_le hi (hl k)), h.2⟩
theorem sW_le {σ : St} {k n : Nat} (k' : Nat) : gL σ k' ≤ gL (sW σ k n) k' := by
  rw [gL_sW]
  by_cases e : k' = k
  · rw [if_pos e, e]; exact Nat.le_succ _
  · rw [if_neg e]; exact Nat.le_refl _
/-- the addresses that the law holds stay -/
def Nf (A A' : Ad) : Prop := A'.1 7 0 = A.1 7 0 ∧ A'.1 8 0 = A.1 8 0 ∧ A'.1 60 0 = A.1 60 0 ∧ A'.1 61 0 = A.1 61 0
theorem Nf.of {A A' : Ad} {σ : St} (h : Nx A A' σ) (Q : P0 σ) : Nf A A' := ⟨h.1 7 0 (sL_7 Q), h.1 8 0 (by rw [Q.1.2.1]; decide), h.1 60 0 (by rw [Q.1.2.2.1]; decide), h.1 61 0 (by rw [Q.1.2.2.2.1]; decide)⟩
theorem Nf.tr {A A' A'' : Ad} (h : Nf A A') (h' : Nf A' A'') : Nf A A'' := ⟨h'.1.trans h.1, h'.2.1.trans h.2.1, h'.2.2.1.trans h.2.2.1, h'.2.2.2.trans h.2.2.2⟩
section NW
variable {A : Ad} {σ : St} {X : Cx} {px : String → GM → Prop} {i : Nat}
/-- a new BucketCounts -/
def bc20 (σ : St) (i : Nat) : St := sV (sR (sW σ 21 101) 20 0 i (gL σ 21 + 1)) 20 1 i 0
theorem q_x0i20 {post : GM → Prop} (hx : hX X A) (W : WF A σ) (hi : i < gL σ 20) (kk : ∀ A' : Ad, WF A' (bc20 σ i) → hX X A' → Nx A A' σ → post (hp A' (bc20 σ i))) : w_X0_init X post px (some (A.1 20 i)) (hp A σ) := by
  unfold w_X0_init
  refine ⟨_, rfl, by decide, by decide, ?_⟩
  rw [show ((101 : Int32)).toNatClampNeg = 101 from rfl]
  refine e_NewA 21 hx W rfl (by decide) (fun A' W2 hx2 hN => ?_)
  have hi' : i < gL (sW σ 21 101) 20 := hi
  have ha : A.1 20 i = A'.1 20 i := (hN.1 20 i hi).symm
  have W3 : WF A' (sR (sW σ 21 101) 20 0 i (gL σ 21 + 1)) := WF_sR W2 (show gL σ 21 + 1 ≤ gL σ 21 + 1 + 0 by omega)
  rw [ha, e_PutR W2 hi' hok_20_0 (by decide), e_PutI W3 hi' hok_20_1]
  exact kk A' W3 hx2 hN
/-- a new BucketCounts -/
def bc22 (σ : St) (i : Nat) : St := sV (sR (sW σ 23 101) 22 0 i (gL σ 23 + 1)) 22 1 i 0
theorem q_x0i22 {post : GM → Prop} (hx : hX X A) (W : WF A σ) (hi : i < gL σ 22) (kk : ∀ A' : Ad, WF A' (bc22 σ i) → hX X A' → Nx A A' σ → post (hp A' (bc22 σ i))) : w_X0_init X post px (some (A.1 22 i)) (hp A σ) := by
  unfold w_X0_init
  refine ⟨_, rfl, by decide, by decide, ?_⟩
  rw [show ((101 : Int32)).toNatClampNeg = 101 from rfl]
  refine e_NewA 23 hx W rfl (by decide) (fun A' W2 hx2 hN => ?_)
  have hi' : i < gL (sW σ 23 101) 22 := hi
  have ha : A.1 22 i = A'.1 22 i := (hN.1 22 i hi).symm
  have W3 : WF A' (sR (sW σ 23 101) 22 0 i (gL σ 23 + 1)) := WF_sR W2 (show gL σ 23 + 1 ≤ gL σ 23 + 1 + 0 by omega)
  rw [ha, e_PutR W2 hi' hok_22_0 (by decide), e_PutI W3 hi' hok_22_1]
  exact kk A' W3 hx2 hN
def kn_w (X : Cx) (post : Option Nat → GM → Prop) (px : String → GM → Prop) (m l : Int32) (l0 : Option Nat) (g : GM) : Prop := wNew X g (.inr (3, [.int 0, .int 0, .null])) (fun q4 g5 => w_X3_init X (fun (g6 : GM) => wGetR g6 l0 7 1 (fun (r7 : Option Nat) => wIs g6 r7 10 (w_Jx4a65c_add_9ea2d X (fun (i9 : Int32) (g8 : GM) => post (some q4) g8) px r7 (some q4) g6))) px (some q4) m l g5)
/-- a new kind of devices -/
def nk (σ : St) (m l : Int32) : St := sV (sV (sR (bc22 (sW (sW σ 3 0) 22 0) (gL σ 22)) 3 2 (gL σ 3) (gL σ 22 + 1)) 3 0 (gL σ 3) m) 3 1 (gL σ 3) l
theorem q_kn {post : Option Nat → GM → Prop} {m l : Int32} (hx : hX X A) (W : WF A σ) (Q : P0 σ) (hL : Lst σ 31 (gL σ 3)) (h12 : gL σ 3 ≤ 18) (kk : ∀ (A' : Ad) (τ : St), WF A' (mx 31 (nk σ m l) τ) → hX X A' → Nx A A' σ → Lst (mx 31 (nk σ m l) τ) 31 (gL σ 3 + 1) → post (some (A'.1 3 (gL σ 3))) (hp A' (mx 31 (nk σ m l) τ))) : kn_w X post px m l (some (A.1 7 0)) (hp A σ) := by
  have h7 : 0 < gL σ 7 := sL_7 Q
  unfold kn_w
  refine e_New 3 hx W rfl rfl (fun A1 W1 hx1 hN1 => ?_)
  unfold w_X3_init
  refine ⟨_, rfl, ?_⟩
  refine e_New 22 hx1 W1 rfl rfl (fun A2 W2 hx2 hN2 => ?_)
  have hi22 : gL σ 22 < gL (sW (sW σ 3 0) 22 0) 22 := show gL σ 22 < gL σ 22 + 1 by omega
  refine q_x0i22 (i := gL σ 22) hx2 W2 hi22 (fun A3 W3 hx3 hN3 => ?_)
  have h3a : gL σ 3 < gL (sW σ 3 0) 3 := show gL σ 3 < gL σ 3 + 1 by omega
  have h3 : gL σ 3 < gL (bc22 (sW (sW σ 3 0) 22 0) (gL σ 22)) 3 := h3a
  have a3 : A1.1 3 (gL σ 3) = A3.1 3 (gL σ 3) := ((hN3.1 3 (gL σ 3) h3a).trans (hN2.1 3 (gL σ 3) h3a)).symm
  have a22 : A2.1 22 (gL (sW σ 3 0) 22) = A3.1 22 (gL σ 22) := (hN3.1 22 (gL σ 22) hi22).symm
  have a7 : A.1 7 0 = A3.1 7 0 := ((hN3.1 7 0 h7).trans ((hN2.1 7 0 h7).trans (hN1.1 7 0 h7))).symm
  have W4 : WF A3 (sR (bc22 (sW (sW σ 3 0) 22 0) (gL σ 22)) 3 2 (gL σ 3) (gL σ 22 + 1)) := WF_sR W3 (show gL σ 22 + 1 ≤ gL σ 22 + 1 + 0 by omega)
  have W6 : WF A3 (nk σ m l) := W4
  have Q6 : gR (nk σ m l) 7 1 0 = 1 := Q.2.1.2.1
  have hL6 : Lst (nk σ m l) 31 (gL σ 3) := hL
  rw [a3, a22, e_PutR W3 h3 hok_3_2 (by decide), e_PutI W4 h3 hok_3_0, e_PutI (σ := sV (sR (bc22 (sW (sW σ 3 0) 22 0) (gL σ 22)) 3 2 (gL σ 3) (gL σ 22 + 1)) 3 0 (gL σ 3) m) W4 h3 hok_3_1]
  rw [show sV (sV (sR (bc22 (sW (sW σ 3 0) 22 0) (gL σ 22)) 3 2 (gL σ 3) (gL σ 22 + 1)) 3 0 (gL σ 3) m) 3 1 (gL σ 3) l = nk σ m l from rfl]
  try dsimp only
  rw [a7, e_GetR 31 W6 (show 0 < gL (nk σ m l) 7 from h7) hok_7_1 (by decide), Q6, hr_s, e_Is' W6 hL6.1 hcl_31]
  refine l_add_31 (n := gL σ 3) hx3 W6 hL6 h3 (by omega) (fun A4 τ W7 hx7 hN7 hL7 => ?_)
  have a3' : A3.1 3 (gL σ 3) = A4.1 3 (gL σ 3) := (hN7.1 3 (gL σ 3) h3).symm
  rw [a3']
  refine kk A4 τ W7 hx7 ?_ hL7
  refine (hN1.tr hN2 sW_le).tr ((hN3.le (σ := σ) (fun k => Nat.le_trans (sW_le (n := 0) (k := 3) k) (sW_le (n := 0) (k := 22) k))).tr (hN7.le (σ := σ) (fun k => ?_)) (fun k => Nat.le_refl _)) (fun k => Nat.le_refl _)
  exact Nat.le_trans (Nat.le_trans (sW_le (n := 0) (k := 3) k) (sW_le (n := 0) (k := 22) k)) (sW_le (n := 101) (k := 23) k)
theorem q_kfl {post : Option Nat → GM → Prop} {m l : Int32} (W : WF A σ) (Q : P0 σ) (hL : Lst σ 31 (gL σ 3)) (h12 : gL σ 3 ≤ 18) (hit : ∀ j, j < gL σ 3 → gV σ 3 0 j = m → gV σ 3 1 j = l → post (some (A.1 3 j)) (hp A σ)) (miss : (∀ j, j < gL σ 3 → ¬ (gV σ 3 0 j = m ∧ gV σ 3 1 j = l)) → kn_w X post px m l (some (A.1 7 0)) (hp A σ)) : ∀ (k f i : Nat), i + k = gL σ 3 → k < f → (∀ j, j < i → ¬ (gV σ 3 0 j = m ∧ gV σ 3 1 j = l)) → w_X7_kindFor_l2 X post px f (some (A.1 7 0)) m l (nI i) (hp A σ) := by
  intro k
  induction k with
  | zero =>
    intro f i hi hf hno
    obtain ⟨f, rfl⟩ : ∃ f', f = f' + 1 := ⟨f - 1, by omega⟩
    rw [w_X7_kindFor_l2, s7_1 W Q, e_Is' W hL.1 hcl_31, l_size W (Or.inr (Or.inl rfl)) hL, if_pos (nI_le (by omega) (by omega))]
    exact miss (fun j hj => hno j (by omega))
  | succ k ih =>
    intro f i hi hf hno
    obtain ⟨f, rfl⟩ : ∃ f', f = f' + 1 := ⟨f - 1, by omega⟩
    have hil : i < gL σ 3 := by omega
    rw [w_X7_kindFor_l2, s7_1 W Q, e_Is' W hL.1 hcl_31, l_size W (Or.inr (Or.inl rfl)) hL, if_neg (nI_ge (by omega) (by omega))]
    rw [s7_1 W Q, e_Is' W hL.1 hcl_31, l_get W (Or.inr (Or.inl rfl)) hL hil]
    rw [show hE (31 + 10) = 3 from rfl, e_Is' W hil hcl_3, e_GetI W hil hok_3_0]
    unfold w_X7_kindFor_b47
    rw [nI_1]
    have nx : ¬ (gV σ 3 0 i = m ∧ gV σ 3 1 i = l) → w_X7_kindFor_l2 X post px f (some (A.1 7 0)) m l (nI (i + 1)) (hp A σ) := fun hne => ih f (i + 1) (by omega) (by omega) (fun j hj => by
      rcases Nat.lt_or_ge j i with q | q
      · exact hno j q
      · rw [show j = i by omega]; exact hne)
    by_cases c1 : gV σ 3 0 i = m
    · rw [if_pos c1, e_GetI W hil hok_3_1]
      by_cases c2 : gV σ 3 1 i = l
      · rw [if_pos c2]; exact hit i hil c1 c2
      · rw [if_neg c2]; exact nx (fun z => c2 z.2)
    · rw [if_neg c1]; exact nx (fun z => c1 z.1)
/-- a new device -/
def dv (σ : St) (m l u : Int32) : St := sV (sV (sV (sV (sV (sR (sW σ 2 0) 2 3 (gL σ 2) 0) 2 4 (gL σ 2) 0) 2 5 (gL σ 2) 0) 2 0 (gL σ 2) m) 2 1 (gL σ 2) l) 2 2 (gL σ 2) u
theorem q_x2i {post : GM → Prop} {m l u : Int32} (W1 : WF A (sW σ 2 0)) (kk : WF A (dv σ m l u) → post (hp A (dv σ m l u))) : w_X2_init X post px (some (A.1 2 (gL σ 2))) m l u (hp A (sW σ 2 0)) := by
  have h2 : gL σ 2 < gL (sW σ 2 0) 2 := show gL σ 2 < gL σ 2 + 1 by omega
  have W2 : WF A (sR (sW σ 2 0) 2 3 (gL σ 2) 0) := WF_sR W1 (Nat.zero_le _)
  unfold w_X2_init
  refine ⟨_, rfl, ?_⟩
  rw [e_Put0 1 W1 h2 hok_2_3 (by decide), e_PutI W2 h2 hok_2_4, e_PutI (σ := sV (sR (sW σ 2 0) 2 3 (gL σ 2) 0) 2 4 (gL σ 2) 0) W2 h2 hok_2_5, e_PutI (σ := sV (sV (sR (sW σ 2 0) 2 3 (gL σ 2) 0) 2 4 (gL σ 2) 0) 2 5 (gL σ 2) 0) W2 h2 hok_2_0, e_PutI (σ := sV (sV (sV (sR (sW σ 2 0) 2 3 (gL σ 2) 0) 2 4 (gL σ 2) 0) 2 5 (gL σ 2) 0) 2 0 (gL σ 2) m) W2 h2 hok_2_1, e_PutI (σ := sV (sV (sV (sV (sR (sW σ 2 0) 2 3 (gL σ 2) 0) 2 4 (gL σ 2) 0) 2 5 (gL σ 2) 0) 2 0 (gL σ 2) m) 2 1 (gL σ 2) l) W2 h2 hok_2_2]
  exact kk W2
theorem w100 {k : Nat} : gL (sW σ 2 0) k = if k = 2 then gL σ 2 + 1 else gL σ k := gL_sW
/-- the class's addDevice -/
theorem q_add {post : Int32 → GM → Prop} {m l u : Int32} (hx : hX X A) (W : WF A σ) (P : PI σ) (hm : ¬ (m < 0 ∨ 5 < m)) (hl : ¬ (l < 0 ∨ 2 < l)) (hu : ¬ (u < 0 ∨ 99 < u)) (hn : gL σ 2 < 12)
    (k1 : ∀ (A' : Ad) (τ : St) (j : Nat), WF A' (chS (mx 30 (dv σ m l u) τ) 22 (j + 1) u 1) → hX X A' → Nf A A' → Lst (mx 30 (dv σ m l u) τ) 30 (gL σ 2 + 1) → j < gL σ 3 → gV σ 3 0 j = m → gV σ 3 1 j = l → post (nI (gL σ 2)) (hp A' (chS (mx 30 (dv σ m l u) τ) 22 (j + 1) u 1)))
    (k2 : ∀ (A' : Ad) (τ τ' : St), WF A' (chS (mx 31 (nk (mx 30 (dv σ m l u) τ) m l) τ') 22 (gL σ 3 + 1) u 1) → hX X A' → Nf A A' → Lst (mx 30 (dv σ m l u) τ) 30 (gL σ 2 + 1) → Lst (mx 31 (nk (mx 30 (dv σ m l u) τ) m l) τ') 31 (gL σ 3 + 1) → (∀ j, j < gL σ 3 → ¬ (gV σ 3 0 j = m ∧ gV σ 3 1 j = l)) → post (nI (gL σ 2)) (hp A' (chS (mx 31 (nk (mx 30 (dv σ m l u) τ) m l) τ') 22 (gL σ 3 + 1) u 1))) : w_X7_addDevice X post px (some (A.1 7 0)) m l u (hp A σ) := by
  have Q := P.1
  have hLd : Lst σ 30 (gL σ 2) := P.2.2.2.2.2.2.2.1
  have hLk : Lst σ 31 (gL σ 3) := P.2.2.2.2.2.2.2.2.1
  obtain ⟨g1, g2, g3, g4, g5⟩ := P.2.2.2.2.2.1.1
  have h7 : 0 < gL σ 7 := sL_7 Q
  unfold w_X7_addDevice
  rw [q_out, if_neg hm]
  try dsimp only
  rw [if_pos rfl, q_out, if_neg hl]
  try dsimp only
  rw [if_pos rfl, q_out, if_neg hu]
  try dsimp only
  rw [if_pos rfl, s7_0 W Q, e_Is' W hLd.1 hcl_30, l_size W (Or.inl rfl) hLd, if_pos (show nI (gL σ 2) < 12 from nI_lt (a := gL σ 2) (b := 12) (by omega) (by omega)), s7_0 W Q]
  refine e_New 2 hx W rfl rfl (fun A1 W1 hx1 hN1 => ?_)
  refine q_x2i W1 (fun W2 => ?_)
  have a7 : A.1 7 0 = A1.1 7 0 := (hN1.1 7 0 h7).symm
  have a30 : A.1 30 0 = A1.1 30 0 := (hN1.1 30 0 hLd.1).symm
  have hLd2 : Lst (dv σ m l u) 30 (gL σ 2) := hLd
  rw [a7, a30, e_Is' W2 hLd2.1 hcl_30]
  refine l_add_30 (n := gL σ 2) hx1 W2 hLd2 (show gL σ 2 < gL σ 2 + 1 by omega) (by omega) (fun A2 τ W3 hx3 hN3 hL3 => ?_)
  have h7' : 0 < gL (dv σ m l u) 7 := h7
  have a7' : A1.1 7 0 = A2.1 7 0 := (hN3.1 7 0 h7').symm
  have Q3 : P0 (mx 30 (dv σ m l u) τ) := by
    refine ⟨Q.1, Q.2.1, fun f hf => ?_, Q.2.2.2⟩
    obtain ⟨y1, y2, y3⟩ := Q.2.2.1 f hf
    refine ⟨?_, y2, ?_⟩
    · exact (if_neg (show ¬ 100 + f = 30 + 10 by omega)).trans ((if_neg (show ¬ 100 + f = 2 by omega)).trans y1)
    · exact (if_neg (show ¬ 100 + f = 30 + 10 by omega)).trans ((if_neg (fun z => absurd z.1 (show ¬ 100 + f = 2 by omega))).trans y3)
  have hLk3 : Lst (mx 30 (dv σ m l u) τ) 31 (gL σ 3) := hLk
  have hN03 : Nx A A2 σ := hN1.tr (hN3.le (σ := sW σ 2 0) (fun k => Nat.le_refl _)) sW_le
  rw [a7', e_Is' W3 (sL_7 Q3) hcl_7]
  unfold w_X7_kindFor
  rw [show (0 : Int32) = nI 0 from rfl]
  refine q_kfl W3 Q3 hLk3 (by show gL σ 3 ≤ 18; omega) (fun j hj c1 c2 => ?_) (fun hno => ?_) (gL σ 3) 3000 0 (by show 0 + gL σ 3 = gL σ 3; omega) (by omega) (fun j hj => absurd hj (Nat.not_lt_zero _))
  · have hj' : j < gL σ 3 := hj
    obtain ⟨y1, y2, y3, -⟩ := P.2.2.2.2.2.1.2.2.1 j hj'
    have z1 : gR (mx 30 (dv σ m l u) τ) 3 2 j = j + 1 := y1
    have z2 : gR (mx 30 (dv σ m l u) τ) 22 0 j = j + 1 := y2
    have z3 : gN (mx 30 (dv σ m l u) τ) 23 j = 101 := y3
    have h22 : j < gL (mx 30 (dv σ m l u) τ) 22 := show j < gL σ 22 by omega
    have h23 : j < gL (mx 30 (dv σ m l u) τ) 23 := show j < gL σ 23 by omega
    rw [eR_3_2 W3 hj, z1, hr_s, e_Is' W3 h22 hcl_22, q_ch22 hx3 W3 h22 h23 z2 z3]
    have W4 : WF A2 (chS (mx 30 (dv σ m l u) τ) 22 (j + 1) u 1) := W3
    have Q4 : P0 (chS (mx 30 (dv σ m l u) τ) 22 (j + 1) u 1) := Q3
    have hL4 : Lst (chS (mx 30 (dv σ m l u) τ) 22 (j + 1) u 1) 30 (gL σ 2 + 1) := hL3
    rw [s7_0 W4 Q4, e_Is' W4 hL4.1 hcl_30, l_size W4 (Or.inl rfl) hL4, nI_pred]
    exact k1 A2 τ j W4 hx3 (Nf.of hN03 Q) hL3 hj' c1 c2
  · refine q_kn hx3 W3 Q3 hLk3 (by show gL σ 3 ≤ 18; omega) (fun A4 τ' W5 hx5 hN5 hL5 => ?_)
    have hj : gL σ 3 < gL (mx 31 (nk (mx 30 (dv σ m l u) τ) m l) τ') 3 := show gL σ 3 < gL σ 3 + 1 by omega
    have z1 : gR (mx 31 (nk (mx 30 (dv σ m l u) τ) m l) τ') 3 2 (gL σ 3) = gL σ 3 + 1 := (if_pos ⟨rfl, rfl, rfl⟩ : (if 3 = 3 ∧ 2 = 2 ∧ gL σ 3 = gL σ 3 then gL σ 22 + 1 else _) = gL σ 22 + 1).trans (by rw [g3])
    have z2 : gR (mx 31 (nk (mx 30 (dv σ m l u) τ) m l) τ') 22 0 (gL σ 3) = gL σ 3 + 1 := (if_pos ⟨rfl, rfl, g3.symm⟩ : (if 22 = 22 ∧ 0 = 0 ∧ gL σ 3 = gL σ 22 then gL σ 23 + 1 else _) = gL σ 23 + 1).trans (by rw [g4])
    have z3 : gN (mx 31 (nk (mx 30 (dv σ m l u) τ) m l) τ') 23 (gL σ 3) = 101 := (if_pos ⟨rfl, g4.symm⟩ : (if 23 = 23 ∧ gL σ 3 = gL σ 23 then 101 else _) = 101)
    have h22 : gL σ 3 < gL (mx 31 (nk (mx 30 (dv σ m l u) τ) m l) τ') 22 := show gL σ 3 < gL σ 22 + 1 by omega
    have h23 : gL σ 3 < gL (mx 31 (nk (mx 30 (dv σ m l u) τ) m l) τ') 23 := show gL σ 3 < gL σ 23 + 1 by omega
    have a3 : A4.1 3 (gL (mx 30 (dv σ m l u) τ) 3) = A4.1 3 (gL σ 3) := rfl
    have h72 : 0 < gL (mx 30 (dv σ m l u) τ) 7 := h7
    have a7'' : A2.1 7 0 = A4.1 7 0 := (hN5.1 7 0 h72).symm
    have W6 : WF A4 (chS (mx 31 (nk (mx 30 (dv σ m l u) τ) m l) τ') 22 (gL σ 3 + 1) u 1) := W5
    have hL6 : Lst (chS (mx 31 (nk (mx 30 (dv σ m l u) τ) m l) τ') 22 (gL σ 3 + 1) u 1) 30 (gL σ 2 + 1) := hL3
    have Q6 : gR (chS (mx 31 (nk (mx 30 (dv σ m l u) τ) m l) τ') 22 (gL σ 3 + 1) u 1) 7 0 0 = 1 := Q.2.1.1
    rw [a3, eR_3_2 W5 hj, z1, hr_s, e_Is' W5 h22 hcl_22, q_ch22 hx5 W5 h22 h23 z2 z3]
    rw [a7'', e_GetR 30 W6 (show 0 < gL (chS (mx 31 (nk (mx 30 (dv σ m l u) τ) m l) τ') 22 (gL σ 3 + 1) u 1) 7 from h7) hok_7_0 (by decide), Q6, hr_s, e_Is' W6 hL6.1 hcl_30, l_size W6 (Or.inl rfl) hL6, nI_pred]
    exact k2 A4 τ τ' W6 hx5 ((Nf.of hN03 Q).tr (Nf.of hN5 Q3)) hL3 hL5 hno
end NW
