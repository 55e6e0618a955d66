/-! LISTS: the four ArrayLists (kinds 30..33, their element arrays 40..43) -/
def lk (k : Nat) : Prop := k = 30 ∨ k = 31 ∨ k = 32 ∨ k = 33
def Lst (σ : St) (k n : Nat) : Prop := 0 < gL σ k ∧ gV σ k 2 0 = nI n ∧ (∀ i : Nat, i < n → gR σ (k + 10) i (gR σ k 1 0 - 2) = i + 1) ∧ (gR σ k 1 0 = 1 ∧ n = 0 ∨ 2 ≤ gR σ k 1 0 ∧ gR σ k 1 0 - 2 < gL σ (k + 10) ∧ n ≤ gN σ (k + 10) (gR σ k 1 0 - 2) ∧ 10 ≤ gN σ (k + 10) (gR σ k 1 0 - 2) ∧ gN σ (k + 10) (gR σ k 1 0 - 2) ≤ 44)
theorem Lst.z {σ : St} {k n : Nat} (h : Lst σ k n) : n ≤ 44 := by
  rcases h.2.2.2 with ⟨_, h⟩ | ⟨_, _, h, _, h2⟩ <;> omega
/-- the state with the kinds k and k + 10 taken from τ -/
def mx (k : Nat) (σ τ : St) : St := (fun k' => if k' = k + 10 then gL τ k' else gL σ k', fun k' f i => if k' = k ∨ k' = k + 10 then gV τ k' f i else gV σ k' f i, fun k' f i => if k' = k ∨ k' = k + 10 then gR τ k' f i else gR σ k' f i, fun k' i => if k' = k + 10 then gN τ k' i else gN σ k' i, gJ σ, gD σ)
section LI
variable {A : Ad} {σ : St} {k n i : Nat} {X : Cx} {px : String → GM → Prop}
theorem p_and {a b : Prop} (h : a) : (a ∧ b) = b := propext ⟨fun z => z.2, fun z => ⟨h, z⟩⟩
theorem l_size {post : Int32 → GM → Prop} (W : WF A σ) (hk : lk k) (h : Lst σ k n) : w_Jx4a65c_size_8abf5 X post px (some (A.1 k 0)) (hp A σ) = post (nI n) (hp A σ) := by
  unfold w_Jx4a65c_size_8abf5
  rcases hk with rfl | rfl | rfl | rfl <;> rw [e_GetI W h.1 rfl, h.2.1]
theorem l_get {post : Option Nat → GM → Prop} (W : WF A σ) (hk : lk k) (h : Lst σ k n) (hi : i < n) : w_Jx4a65c_get_915e3 X post px (some (A.1 k 0)) (nI i) (hp A σ) = post (some (A.1 (hE (k + 10)) i)) (hp A σ) := by
  have hz := h.z
  obtain ⟨h1, h2, h3, h4⟩ := h
  obtain ⟨j, hj, h5, h6⟩ : ∃ j, gR σ k 1 0 = j + 2 ∧ j < gL σ (k + 10) ∧ n ≤ gN σ (k + 10) j ∧ gN σ (k + 10) j ≤ 44 := by
    rcases h4 with ⟨_, h⟩ | ⟨g1, g2, g3, g4, g5⟩
    · omega
    · exact ⟨gR σ k 1 0 - 2, by omega, g2, g3, g5⟩
  have h7 := h3 i hi
  rw [hj] at h7
  have hv : vp_in (nI i) (gN σ (k + 10) j) := vp_in_nI (by omega) (by omega)
  unfold w_Jx4a65c_get_915e3 w_J15_checkIndex_7cf53 w_J3_checkIndex_8e157 w_Jx4a65c_elementData_915e3
  rcases hk with rfl | rfl | rfl | rfl
  · rw [e_GetI W h1 rfl, h2, if_neg (nI_pos (by omega)), if_pos (nI_lt hi (by omega))]
    dsimp only
    rw [e_Is W h1 rfl, e_GetZ 40 W h1 rfl, hj]
    rw [show hrz A 40 (j + 2) = some (A.1 40 j) from rfl, e_Aldq W h5 rfl (by omega) (by omega), p_and hv, nI_clamp (by omega)]
    rw [show gR σ 40 i j = i + 1 from h7]; rfl
  · rw [e_GetI W h1 rfl, h2, if_neg (nI_pos (by omega)), if_pos (nI_lt hi (by omega))]
    dsimp only
    rw [e_Is W h1 rfl, e_GetZ 41 W h1 rfl, hj]
    rw [show hrz A 41 (j + 2) = some (A.1 41 j) from rfl, e_Aldq W h5 rfl (by omega) (by omega), p_and hv, nI_clamp (by omega)]
    rw [show gR σ 41 i j = i + 1 from h7]; rfl
  · rw [e_GetI W h1 rfl, h2, if_neg (nI_pos (by omega)), if_pos (nI_lt hi (by omega))]
    dsimp only
    rw [e_Is W h1 rfl, e_GetZ 42 W h1 rfl, hj]
    rw [show hrz A 42 (j + 2) = some (A.1 42 j) from rfl, e_Aldq W h5 rfl (by omega) (by omega), p_and hv, nI_clamp (by omega)]
    rw [show gR σ 42 i j = i + 1 from h7]; rfl
  · rw [e_GetI W h1 rfl, h2, if_neg (nI_pos (by omega)), if_pos (nI_lt hi (by omega))]
    dsimp only
    rw [e_Is W h1 rfl, e_GetZ 43 W h1 rfl, hj]
    rw [show hrz A 43 (j + 2) = some (A.1 43 j) from rfl, e_Aldq W h5 rfl (by omega) (by omega), p_and hv, nI_clamp (by omega)]
    rw [show gR σ 43 i j = i + 1 from h7]; rfl
end LI
section LA
variable {A : Ad} {σ : St} {n : Nat} {X : Cx} {px : String → GM → Prop}
theorem nI_shr1 {c : Nat} (h : c < 2 ^ 31) : nI c >>> ((1 : Int32) &&& 31) = nI (c / 2) := pk_shrN h _ 1 (by decide)
theorem l_newLen {post : Int32 → GM → Prop} {g : GM} {c : Nat} (h0 : 10 ≤ c) (h1 : c ≤ 40) : w_J8_newLength_cabcc X post px (nI c) (nI (c + 1) - nI c) (nI c >>> ((1 : Int32) &&& 31)) g = post (nI (c + c / 2)) g := by
  unfold w_J8_newLength_cabcc
  rw [nI_shr1 (by omega), pk_sub (by omega), show c + 1 - c = 1 by omega]
  rw [if_pos (show nI 1 < nI (c / 2) from nI_lt (by omega) (by omega)), nI_add]
  rw [if_neg (show ¬ nI (c + c / 2) ≤ 0 from nI_nle (by omega) (by omega)), if_neg (show ¬ (2147483639 : Int32) < nI (c + c / 2) from nI_nlt (a := 2147483639) (b := c + c / 2) (by omega) (by omega))]

/-- σ differs from σ0 in the kinds k and k + 10 alone -/
def Ag (k : Nat) (σ0 σ : St) : Prop := (∀ k', k' ≠ k + 10 → gL σ k' = gL σ0 k') ∧ (∀ k' f i, k' ≠ k → k' ≠ k + 10 → gV σ k' f i = gV σ0 k' f i) ∧ (∀ k' f i, k' ≠ k → k' ≠ k + 10 → gR σ k' f i = gR σ0 k' f i) ∧ (∀ k' i, k' ≠ k + 10 → gN σ k' i = gN σ0 k' i) ∧ gJ σ = gJ σ0 ∧ gD σ = gD σ0
theorem Ag.rf {k : Nat} {σ : St} : Ag k σ σ := ⟨fun _ _ => rfl, fun _ _ _ _ _ => rfl, fun _ _ _ _ _ => rfl, fun _ _ _ => rfl, rfl, rfl⟩
theorem Ag.sV {k : Nat} {σ0 σ : St} (h : Ag k σ0 σ) {f i : Nat} {x : Int32} : Ag k σ0 (sV σ k f i x) := ⟨h.1, fun k' f' i' hk hk2 => by rw [gV_sV, if_neg (fun z => hk z.1)]; exact h.2.1 k' f' i' hk hk2, h.2.2.1, h.2.2.2.1, h.2.2.2.2⟩
theorem Ag.sR {k k1 : Nat} {σ0 σ : St} (h : Ag k σ0 σ) {f i r : Nat} (hk1 : k1 = k ∨ k1 = k + 10) : Ag k σ0 (sR σ k1 f i r) := ⟨h.1, h.2.1, fun k' f' i' h1 h2 => by rw [gR_sR, if_neg (fun z => by rcases hk1 with e | e <;> omega)]; exact h.2.2.1 k' f' i' h1 h2, h.2.2.2.1, h.2.2.2.2⟩
theorem Ag.sG {k : Nat} {σ0 σ : St} (h : Ag k σ0 σ) {m : Nat} {F : Nat → Nat} : Ag k σ0 (sG σ (k + 10) m F) := ⟨h.1, h.2.1, fun k' f' i' h1 h2 => by rw [gR_sG, if_neg (fun z => h2 z.1)]; exact h.2.2.1 k' f' i' h1 h2, h.2.2.2.1, h.2.2.2.2⟩
theorem Ag.sW {k n : Nat} {σ0 σ : St} (h : Ag k σ0 σ) : Ag k σ0 (sW σ (k + 10) n) := by
  refine ⟨fun k' hk => by rw [gL_sW, if_neg hk]; exact h.1 k' hk, fun k' f' i' hk h2 => ?_, fun k' f' i' h1 h2 => by rw [gR_sW, if_neg (fun z => h2 z.1)]; exact h.2.2.1 k' f' i' h1 h2, fun k' i' hk => by rw [gN_sW, if_neg (fun z => hk z.1)]; exact h.2.2.2.1 k' i' hk, h.2.2.2.2⟩
  rw [gV_sW, if_neg (fun z => h2 z.1)]
  exact h.2.1 k' f' i' hk h2
theorem Ag.eq {k : Nat} {σ0 σ : St} (h : Ag k σ0 σ) : mx k σ0 σ = σ := by
  obtain ⟨h1, h2, h3, h4, h5, h6⟩ := h
  unfold mx
  refine Prod.ext (funext fun k' => ?_) (Prod.ext (funext fun k' => funext fun f => funext fun i => ?_) (Prod.ext (funext fun k' => funext fun f => funext fun i => ?_) (Prod.ext (funext fun k' => funext fun i => ?_) (Prod.ext h5.symm h6.symm))))
  · by_cases e : k' = k + 10
    · exact if_pos e
    · exact (if_neg e).trans (h1 k' e).symm
  · by_cases e : k' = k ∨ k' = k + 10
    · exact if_pos e
    · exact (if_neg e).trans (h2 k' f i (fun z => e (Or.inl z)) (fun z => e (Or.inr z))).symm
  · by_cases e : k' = k ∨ k' = k + 10
    · exact if_pos e
    · exact (if_neg e).trans (h3 k' f i (fun z => e (Or.inl z)) (fun z => e (Or.inr z))).symm
  · by_cases e : k' = k + 10
    · exact if_pos e
    · exact (if_neg e).trans (h4 k' i e).symm

theorem l_put_30 {σ0 : St} {post : GM → Prop} {j : Nat} (hA : Ag 30 σ0 σ) (W : WF A σ) (hk0 : 0 < gL σ 30) (hn : n < gL σ 2) (hR : gR σ 30 1 0 = j + 2) (hj : j < gL σ 40) (hc : n < gN σ 40 j) (h10 : 10 ≤ gN σ 40 j) (h44 : gN σ 40 j ≤ 44) (he : ∀ i, i < n → gR σ 40 i j = i + 1)
    (kk : ∀ τ, WF A (mx 30 σ0 τ) → Lst (mx 30 σ0 τ) 30 (n + 1) → post (hp A (mx 30 σ0 τ))) : w_Jx4a65c_add_72be8_b11 X post px (some (A.1 30 0)) (some (A.1 2 n)) (some (A.1 40 j)) (nI n) (hp A σ) := by
  unfold w_Jx4a65c_add_72be8_b11
  rw [e_Astq W hj rfl hn rfl (c' := 2) rfl (by omega), nI_clamp (by omega)]
  refine ⟨vp_in_nI hc (by omega), ?_⟩
  have W2 : WF A (sR σ 40 n j (n + 1)) := WF_sR W (show n + 1 ≤ gL σ 2 + 0 by omega)
  rw [e_PutI W2 hk0 rfl, nI_1]
  have hA2 := ((hA.sR (f := n) (i := j) (r := n + 1) (k1 := 40) (Or.inr rfl)).sV (f := 2) (i := 0) (x := nI (n + 1)))
  have := kk (sV (sR σ 40 n j (n + 1)) 30 2 0 (nI (n + 1)))
  rw [hA2.eq] at this
  refine this W2 ⟨hk0, rfl, fun i hi => ?_, Or.inr ⟨?_, ?_, ?_, ?_, ?_⟩⟩
  · have e0 : gR (sV (sR σ 40 n j (n + 1)) 30 2 0 (nI (n + 1))) 30 1 0 - 2 = j := show gR σ 30 1 0 - 2 = j by omega
    rw [e0]
    by_cases e : i = n
    · subst e; exact if_pos ⟨rfl, rfl, rfl⟩
    · exact (if_neg (fun z => e z.2.1)).trans (he i (by omega))
  · show 2 ≤ gR σ 30 1 0
    omega
  · show gR σ 30 1 0 - 2 < gL σ 40
    omega
  · show n + 1 ≤ gN σ 40 (gR σ 30 1 0 - 2)
    rw [hR, Nat.add_sub_cancel]; omega
  · show 10 ≤ gN σ 40 (gR σ 30 1 0 - 2)
    rw [hR, Nat.add_sub_cancel]; omega
  · show gN σ 40 (gR σ 30 1 0 - 2) ≤ 44
    rw [hR, Nat.add_sub_cancel]; omega
theorem l_add_30 {post : Int32 → GM → Prop} (hx : hX X A) (W : WF A σ) (h : Lst σ 30 n) (hn : n < gL σ 2) (h30 : n < 30)
    (kk : ∀ (A' : Ad) (τ : St), WF A' (mx 30 σ τ) → hX X A' → Nx A A' σ → Lst (mx 30 σ τ) 30 (n + 1) → post 1 (hp A' (mx 30 σ τ))) : w_Jx4a65c_add_9ea2d X post px (some (A.1 30 0)) (some (A.1 2 n)) (hp A σ) := by
  obtain ⟨h1, h2, h3, h4⟩ := h
  replace h3 : ∀ i, i < n → gR σ 40 i (gR σ 30 1 0 - 2) = i + 1 := h3
  replace h4 : gR σ 30 1 0 = 1 ∧ n = 0 ∨ 2 ≤ gR σ 30 1 0 ∧ gR σ 30 1 0 - 2 < gL σ 40 ∧ n ≤ gN σ 40 (gR σ 30 1 0 - 2) ∧ 10 ≤ gN σ 40 (gR σ 30 1 0 - 2) ∧ gN σ 40 (gR σ 30 1 0 - 2) ≤ 44 := h4
  unfold w_Jx4a65c_add_9ea2d
  rw [e_GetI W h1 rfl, e_PutI W h1 rfl]
  generalize hmod : gV σ 30 0 0 + 1 = md
  have W1 : WF A (sV σ 30 0 0 md) := W
  have hA1 : Ag 30 σ (sV σ 30 0 0 md) := Ag.rf.sV
  rw [e_GetZ 40 W1 h1 rfl, e_GetI W1 h1 rfl, e_Is W1 h1 rfl]
  rw [show gV (sV σ 30 0 0 md) 30 2 0 = nI n from h2, show gR (sV σ 30 0 0 md) 30 1 0 = gR σ 30 1 0 from rfl]
  unfold w_Jx4a65c_add_72be8
  rcases h4 with ⟨h4, rfl⟩ | ⟨h4, h5, h6, h7, h8⟩
  · rw [h4, show hrz A 40 1 = some (X.2.2.2 200) from congrArg some hx.2.1]
    refine Or.inr (Or.inl ⟨rfl, ?_⟩)
    dsimp only
    rw [if_pos (show nI 0 = 0 from rfl), e_Is W1 h1 rfl]
    unfold w_Jx4a65c_grow_d5877
    rw [e_GetI W1 h1 rfl, e_Is W1 h1 rfl, show gV (sV σ 30 0 0 md) 30 2 0 = nI 0 from h2]
    unfold w_Jx4a65c_grow_92f84
    rw [e_GetZ 40 W1 h1 rfl, show gR (sV σ 30 0 0 md) 30 1 0 = 1 from h4, show hrz A 40 1 = some (X.2.2.2 200) from congrArg some hx.2.1]
    refine Or.inr (Or.inl ⟨rfl, ?_⟩)
    dsimp only
    rw [if_neg (by decide), e_GetZ 40 W1 h1 rfl, show gR (sV σ 30 0 0 md) 30 1 0 = 1 from h4, show hrz A 40 1 = some (X.2.2.2 200) from congrArg some hx.2.1, if_pos rfl]
    rw [show (if (10 : Int32) < nI 0 + 1 then nI 0 + 1 else 10) = 10 from by decide]
    refine ⟨by decide, by decide, ?_⟩
    refine e_NewQ 40 hx W1 rfl (fun A' W2 hx2 hN => ?_)
    have ha : A.1 30 0 = A'.1 30 0 := (hN.1 30 0 h1).symm
    have hb : A.1 2 0 = A'.1 2 0 := (hN.1 2 0 hn).symm
    rw [ha, hb]
    rw [e_PutZ W2 h1 rfl]
    have W3 : WF A' (sR (sW (sV σ 30 0 0 md) 40 (10 : Int32).toNatClampNeg) 30 1 0 (gL σ 40 + 2)) := WF_sR W2 (show gL σ 40 + 2 ≤ gL σ 40 + 1 + 1 by omega)
    have hA3 : Ag 30 σ (sR (sW (sV σ 30 0 0 md) 40 (10 : Int32).toNatClampNeg) 30 1 0 (gL σ 40 + 2)) := (hA1.sW (k := 30)).sR (Or.inl rfl)
    have hN3 : gN (sR (sW (sV σ 30 0 0 md) 40 (10 : Int32).toNatClampNeg) 30 1 0 (gL σ 40 + 2)) 40 (gL σ 40) = 10 := if_pos ⟨rfl, rfl⟩
    refine l_put_30 (n := 0) (j := gL σ 40) hA3 W3 h1 hn rfl (show gL σ 40 < gL σ 40 + 1 by omega) (Nat.lt_of_lt_of_eq (by decide) hN3.symm) (Nat.le_of_eq hN3.symm) (Nat.le_trans (Nat.le_of_eq hN3) (by decide)) (fun i hi => absurd hi (Nat.not_lt_zero _)) (fun τ W4 hL => kk A' τ W4 hx2 hN hL)
  · obtain ⟨j, hj⟩ : ∃ j, gR σ 30 1 0 = j + 2 := ⟨gR σ 30 1 0 - 2, by omega⟩
    rw [hj, Nat.add_sub_cancel] at h3 h5 h6 h7 h8
    rw [hj, show hrz A 40 (j + 2) = some (A.1 40 j) from rfl, e_Len (a := 4) hx W1 h5 rfl (by omega)]
    rw [show gN (sV σ 30 0 0 md) 40 j = gN σ 40 j from rfl]
    by_cases hcap : n = gN σ 40 j
    · rw [if_pos (by rw [← hcap]), e_Is W1 h1 rfl]
      unfold w_Jx4a65c_grow_d5877
      rw [e_GetI W1 h1 rfl, e_Is W1 h1 rfl, show gV (sV σ 30 0 0 md) 30 2 0 = nI n from h2, nI_1]
      unfold w_Jx4a65c_grow_92f84
      rw [e_GetZ 40 W1 h1 rfl, show gR (sV σ 30 0 0 md) 30 1 0 = j + 2 from hj, show hrz A 40 (j + 2) = some (A.1 40 j) from rfl, e_Len (a := 4) hx W1 h5 rfl (by omega)]
      rw [show gN (sV σ 30 0 0 md) 40 j = gN σ 40 j from rfl, ← hcap]
      rw [if_pos (show (0 : Int32) < nI n from nI_lt (a := 0) (by omega) (by omega))]
      unfold w_Jx4a65c_grow_92f84_b20
      rw [l_newLen (by omega) (by omega)]
      rw [e_GetZ 40 W1 h1 rfl, show gR (sV σ 30 0 0 md) 30 1 0 = j + 2 from hj, show hrz A 40 (j + 2) = some (A.1 40 j) from rfl]
      unfold w_J7_copyOf_1904c
      refine ⟨_, _, _, rfl, (hp_arr (σ := sV σ 30 0 0 md) (k := 40) W1 h5 rfl).trans (by rw [ha_Q (a := 4) rfl (by omega) (by omega)]), ?_⟩
      unfold w_J7_copyOf_6403c
      rw [if_pos rfl, nI_clamp (by omega)]
      refine ⟨nI_pos (by omega), by omega, ?_⟩
      refine e_NewQ 40 hx W1 rfl (fun A' W2 hx2 hN => ?_)
      have ha : A.1 30 0 = A'.1 30 0 := (hN.1 30 0 h1).symm
      have hb : A.1 2 n = A'.1 2 n := (hN.1 2 n hn).symm
      have hd : A.1 40 j = A'.1 40 j := (hN.1 40 j h5).symm
      have h5' : j < gL (sW (sV σ 30 0 0 md) 40 (n + n / 2)) 40 := show j < gL σ 40 + 1 by omega
      have hNj : gN (sW (sV σ 30 0 0 md) 40 (n + n / 2)) 40 j = n := (if_neg (fun z => by have : j = gL σ 40 := z.2; omega)).trans hcap.symm
      have hNm : gN (sW (sV σ 30 0 0 md) 40 (n + n / 2)) 40 (gL σ 40) = n + n / 2 := if_pos ⟨rfl, rfl⟩
      have hm' : gL σ 40 < gL (sW (sV σ 30 0 0 md) 40 (n + n / 2)) 40 := Nat.lt_succ_self _
      rw [ha, hb, hd, e_Len (a := 4) hx2 W2 h5' rfl (by omega), hNj]
      rw [show (if nI (n + n / 2) < nI n then nI (n + n / 2) else nI n) = nI n from if_neg (nI_nlt (by omega) (by omega))]
      refine e_CpyQ (m := gL σ 40) W2 h5' hm' rfl rfl (c' := 2) rfl (by omega) (by rw [hNj]; omega) (by rw [hNm]; omega) (by omega) ?_
      have hRj : ∀ f, gR (sW (sV σ 30 0 0 md) 40 (n + n / 2)) 40 f j = gR σ 40 f j := fun f => if_neg (fun z => by have : j = gL σ 40 := z.2; omega)
      have hRm : ∀ f, gR (sW (sV σ 30 0 0 md) 40 (n + n / 2)) 40 f (gL σ 40) = 0 := fun f => if_pos ⟨rfl, rfl⟩
      have W3 : WF A' (sG (sW (sV σ 30 0 0 md) 40 (n + n / 2)) 40 (gL σ 40) (fun f => if f < n then gR (sW (sV σ 30 0 0 md) 40 (n + n / 2)) 40 f j else gR (sW (sV σ 30 0 0 md) 40 (n + n / 2)) 40 f (gL σ 40))) := by
        refine WF_sG W2 (fun f => ?_)
        by_cases e : f < n
        · rw [if_pos e]; exact W2.2.2 40 f j h5'
        · rw [if_neg e, hRm]; omega
      dsimp only
      rw [e_PutZ W3 h1 rfl]
      have hA3 := ((hA1.sW (k := 30) (n := n + n / 2)).sG (m := gL σ 40) (F := fun f => if f < n then gR (sW (sV σ 30 0 0 md) 40 (n + n / 2)) 40 f j else gR (sW (sV σ 30 0 0 md) 40 (n + n / 2)) 40 f (gL σ 40))).sR (k1 := 30) (f := 1) (i := 0) (r := gL σ 40 + 2) (Or.inl rfl)
      refine l_put_30 (n := n) (j := gL σ 40) hA3 (WF_sR W3 (show gL σ 40 + 2 ≤ gL σ 40 + 1 + 1 by omega)) h1 hn rfl hm' (Nat.lt_of_lt_of_eq (show n < n + n / 2 by omega) hNm.symm) (Nat.le_trans (show 10 ≤ n + n / 2 by omega) (Nat.le_of_eq hNm.symm)) (Nat.le_trans (Nat.le_of_eq hNm) (by omega)) (fun i hi => ?_) (fun τ W4 hL => kk A' τ W4 hx2 hN hL)
      show (if 40 = 40 ∧ gL σ 40 = gL σ 40 then (if i < n then gR (sW (sV σ 30 0 0 md) 40 (n + n / 2)) 40 i j else gR (sW (sV σ 30 0 0 md) 40 (n + n / 2)) 40 i (gL σ 40)) else _) = i + 1
      rw [if_pos ⟨rfl, rfl⟩, if_pos hi, hRj]
      exact h3 i hi
    · rw [if_neg (fun z => hcap ((nI_eq (by omega) (by omega)).mp z))]
      exact l_put_30 hA1 W1 h1 hn hj h5 (show n < gN σ 40 j by omega) h7 h8 (fun i hi => h3 i hi) (fun τ W4 hL => kk A τ W4 hx ⟨fun _ _ _ => rfl, rfl⟩ hL)

theorem l_put_31 {σ0 : St} {post : GM → Prop} {j : Nat} (hA : Ag 31 σ0 σ) (W : WF A σ) (hk0 : 0 < gL σ 31) (hn : n < gL σ 3) (hR : gR σ 31 1 0 = j + 2) (hj : j < gL σ 41) (hc : n < gN σ 41 j) (h10 : 10 ≤ gN σ 41 j) (h44 : gN σ 41 j ≤ 44) (he : ∀ i, i < n → gR σ 41 i j = i + 1)
    (kk : ∀ τ, WF A (mx 31 σ0 τ) → Lst (mx 31 σ0 τ) 31 (n + 1) → post (hp A (mx 31 σ0 τ))) : w_Jx4a65c_add_72be8_b11 X post px (some (A.1 31 0)) (some (A.1 3 n)) (some (A.1 41 j)) (nI n) (hp A σ) := by
  unfold w_Jx4a65c_add_72be8_b11
  rw [e_Astq W hj rfl hn rfl (c' := 3) rfl (by omega), nI_clamp (by omega)]
  refine ⟨vp_in_nI hc (by omega), ?_⟩
  have W2 : WF A (sR σ 41 n j (n + 1)) := WF_sR W (show n + 1 ≤ gL σ 3 + 0 by omega)
  rw [e_PutI W2 hk0 rfl, nI_1]
  have hA2 := ((hA.sR (f := n) (i := j) (r := n + 1) (k1 := 41) (Or.inr rfl)).sV (f := 2) (i := 0) (x := nI (n + 1)))
  have := kk (sV (sR σ 41 n j (n + 1)) 31 2 0 (nI (n + 1)))
  rw [hA2.eq] at this
  refine this W2 ⟨hk0, rfl, fun i hi => ?_, Or.inr ⟨?_, ?_, ?_, ?_, ?_⟩⟩
  · have e0 : gR (sV (sR σ 41 n j (n + 1)) 31 2 0 (nI (n + 1))) 31 1 0 - 2 = j := show gR σ 31 1 0 - 2 = j by omega
    rw [e0]
    by_cases e : i = n
    · subst e; exact if_pos ⟨rfl, rfl, rfl⟩
    · exact (if_neg (fun z => e z.2.1)).trans (he i (by omega))
  · show 2 ≤ gR σ 31 1 0
    omega
  · show gR σ 31 1 0 - 2 < gL σ 41
    omega
  · show n + 1 ≤ gN σ 41 (gR σ 31 1 0 - 2)
    rw [hR, Nat.add_sub_cancel]; omega
  · show 10 ≤ gN σ 41 (gR σ 31 1 0 - 2)
    rw [hR, Nat.add_sub_cancel]; omega
  · show gN σ 41 (gR σ 31 1 0 - 2) ≤ 44
    rw [hR, Nat.add_sub_cancel]; omega
theorem l_add_31 {post : Int32 → GM → Prop} (hx : hX X A) (W : WF A σ) (h : Lst σ 31 n) (hn : n < gL σ 3) (h30 : n < 30)
    (kk : ∀ (A' : Ad) (τ : St), WF A' (mx 31 σ τ) → hX X A' → Nx A A' σ → Lst (mx 31 σ τ) 31 (n + 1) → post 1 (hp A' (mx 31 σ τ))) : w_Jx4a65c_add_9ea2d X post px (some (A.1 31 0)) (some (A.1 3 n)) (hp A σ) := by
  obtain ⟨h1, h2, h3, h4⟩ := h
  replace h3 : ∀ i, i < n → gR σ 41 i (gR σ 31 1 0 - 2) = i + 1 := h3
  replace h4 : gR σ 31 1 0 = 1 ∧ n = 0 ∨ 2 ≤ gR σ 31 1 0 ∧ gR σ 31 1 0 - 2 < gL σ 41 ∧ n ≤ gN σ 41 (gR σ 31 1 0 - 2) ∧ 10 ≤ gN σ 41 (gR σ 31 1 0 - 2) ∧ gN σ 41 (gR σ 31 1 0 - 2) ≤ 44 := h4
  unfold w_Jx4a65c_add_9ea2d
  rw [e_GetI W h1 rfl, e_PutI W h1 rfl]
  generalize hmod : gV σ 31 0 0 + 1 = md
  have W1 : WF A (sV σ 31 0 0 md) := W
  have hA1 : Ag 31 σ (sV σ 31 0 0 md) := Ag.rf.sV
  rw [e_GetZ 41 W1 h1 rfl, e_GetI W1 h1 rfl, e_Is W1 h1 rfl]
  rw [show gV (sV σ 31 0 0 md) 31 2 0 = nI n from h2, show gR (sV σ 31 0 0 md) 31 1 0 = gR σ 31 1 0 from rfl]
  unfold w_Jx4a65c_add_72be8
  rcases h4 with ⟨h4, rfl⟩ | ⟨h4, h5, h6, h7, h8⟩
  · rw [h4, show hrz A 41 1 = some (X.2.2.2 200) from congrArg some hx.2.1]
    refine Or.inr (Or.inl ⟨rfl, ?_⟩)
    dsimp only
    rw [if_pos (show nI 0 = 0 from rfl), e_Is W1 h1 rfl]
    unfold w_Jx4a65c_grow_d5877
    rw [e_GetI W1 h1 rfl, e_Is W1 h1 rfl, show gV (sV σ 31 0 0 md) 31 2 0 = nI 0 from h2]
    unfold w_Jx4a65c_grow_92f84
    rw [e_GetZ 41 W1 h1 rfl, show gR (sV σ 31 0 0 md) 31 1 0 = 1 from h4, show hrz A 41 1 = some (X.2.2.2 200) from congrArg some hx.2.1]
    refine Or.inr (Or.inl ⟨rfl, ?_⟩)
    dsimp only
    rw [if_neg (by decide), e_GetZ 41 W1 h1 rfl, show gR (sV σ 31 0 0 md) 31 1 0 = 1 from h4, show hrz A 41 1 = some (X.2.2.2 200) from congrArg some hx.2.1, if_pos rfl]
    rw [show (if (10 : Int32) < nI 0 + 1 then nI 0 + 1 else 10) = 10 from by decide]
    refine ⟨by decide, by decide, ?_⟩
    refine e_NewQ 41 hx W1 rfl (fun A' W2 hx2 hN => ?_)
    have ha : A.1 31 0 = A'.1 31 0 := (hN.1 31 0 h1).symm
    have hb : A.1 3 0 = A'.1 3 0 := (hN.1 3 0 hn).symm
    rw [ha, hb]
    rw [e_PutZ W2 h1 rfl]
    have W3 : WF A' (sR (sW (sV σ 31 0 0 md) 41 (10 : Int32).toNatClampNeg) 31 1 0 (gL σ 41 + 2)) := WF_sR W2 (show gL σ 41 + 2 ≤ gL σ 41 + 1 + 1 by omega)
    have hA3 : Ag 31 σ (sR (sW (sV σ 31 0 0 md) 41 (10 : Int32).toNatClampNeg) 31 1 0 (gL σ 41 + 2)) := (hA1.sW (k := 31)).sR (Or.inl rfl)
    have hN3 : gN (sR (sW (sV σ 31 0 0 md) 41 (10 : Int32).toNatClampNeg) 31 1 0 (gL σ 41 + 2)) 41 (gL σ 41) = 10 := if_pos ⟨rfl, rfl⟩
    refine l_put_31 (n := 0) (j := gL σ 41) hA3 W3 h1 hn rfl (show gL σ 41 < gL σ 41 + 1 by omega) (Nat.lt_of_lt_of_eq (by decide) hN3.symm) (Nat.le_of_eq hN3.symm) (Nat.le_trans (Nat.le_of_eq hN3) (by decide)) (fun i hi => absurd hi (Nat.not_lt_zero _)) (fun τ W4 hL => kk A' τ W4 hx2 hN hL)
  · obtain ⟨j, hj⟩ : ∃ j, gR σ 31 1 0 = j + 2 := ⟨gR σ 31 1 0 - 2, by omega⟩
    rw [hj, Nat.add_sub_cancel] at h3 h5 h6 h7 h8
    rw [hj, show hrz A 41 (j + 2) = some (A.1 41 j) from rfl, e_Len (a := 4) hx W1 h5 rfl (by omega)]
    rw [show gN (sV σ 31 0 0 md) 41 j = gN σ 41 j from rfl]
    by_cases hcap : n = gN σ 41 j
    · rw [if_pos (by rw [← hcap]), e_Is W1 h1 rfl]
      unfold w_Jx4a65c_grow_d5877
      rw [e_GetI W1 h1 rfl, e_Is W1 h1 rfl, show gV (sV σ 31 0 0 md) 31 2 0 = nI n from h2, nI_1]
      unfold w_Jx4a65c_grow_92f84
      rw [e_GetZ 41 W1 h1 rfl, show gR (sV σ 31 0 0 md) 31 1 0 = j + 2 from hj, show hrz A 41 (j + 2) = some (A.1 41 j) from rfl, e_Len (a := 4) hx W1 h5 rfl (by omega)]
      rw [show gN (sV σ 31 0 0 md) 41 j = gN σ 41 j from rfl, ← hcap]
      rw [if_pos (show (0 : Int32) < nI n from nI_lt (a := 0) (by omega) (by omega))]
      unfold w_Jx4a65c_grow_92f84_b20
      rw [l_newLen (by omega) (by omega)]
      rw [e_GetZ 41 W1 h1 rfl, show gR (sV σ 31 0 0 md) 31 1 0 = j + 2 from hj, show hrz A 41 (j + 2) = some (A.1 41 j) from rfl]
      unfold w_J7_copyOf_1904c
      refine ⟨_, _, _, rfl, (hp_arr (σ := sV σ 31 0 0 md) (k := 41) W1 h5 rfl).trans (by rw [ha_Q (a := 4) rfl (by omega) (by omega)]), ?_⟩
      unfold w_J7_copyOf_6403c
      rw [if_pos rfl, nI_clamp (by omega)]
      refine ⟨nI_pos (by omega), by omega, ?_⟩
      refine e_NewQ 41 hx W1 rfl (fun A' W2 hx2 hN => ?_)
      have ha : A.1 31 0 = A'.1 31 0 := (hN.1 31 0 h1).symm
      have hb : A.1 3 n = A'.1 3 n := (hN.1 3 n hn).symm
      have hd : A.1 41 j = A'.1 41 j := (hN.1 41 j h5).symm
      have h5' : j < gL (sW (sV σ 31 0 0 md) 41 (n + n / 2)) 41 := show j < gL σ 41 + 1 by omega
      have hNj : gN (sW (sV σ 31 0 0 md) 41 (n + n / 2)) 41 j = n := (if_neg (fun z => by have : j = gL σ 41 := z.2; omega)).trans hcap.symm
      have hNm : gN (sW (sV σ 31 0 0 md) 41 (n + n / 2)) 41 (gL σ 41) = n + n / 2 := if_pos ⟨rfl, rfl⟩
      have hm' : gL σ 41 < gL (sW (sV σ 31 0 0 md) 41 (n + n / 2)) 41 := Nat.lt_succ_self _
      rw [ha, hb, hd, e_Len (a := 4) hx2 W2 h5' rfl (by omega), hNj]
      rw [show (if nI (n + n / 2) < nI n then nI (n + n / 2) else nI n) = nI n from if_neg (nI_nlt (by omega) (by omega))]
      refine e_CpyQ (m := gL σ 41) W2 h5' hm' rfl rfl (c' := 3) rfl (by omega) (by rw [hNj]; omega) (by rw [hNm]; omega) (by omega) ?_
      have hRj : ∀ f, gR (sW (sV σ 31 0 0 md) 41 (n + n / 2)) 41 f j = gR σ 41 f j := fun f => if_neg (fun z => by have : j = gL σ 41 := z.2; omega)
      have hRm : ∀ f, gR (sW (sV σ 31 0 0 md) 41 (n + n / 2)) 41 f (gL σ 41) = 0 := fun f => if_pos ⟨rfl, rfl⟩
      have W3 : WF A' (sG (sW (sV σ 31 0 0 md) 41 (n + n / 2)) 41 (gL σ 41) (fun f => if f < n then gR (sW (sV σ 31 0 0 md) 41 (n + n / 2)) 41 f j else gR (sW (sV σ 31 0 0 md) 41 (n + n / 2)) 41 f (gL σ 41))) := by
        refine WF_sG W2 (fun f => ?_)
        by_cases e : f < n
        · rw [if_pos e]; exact W2.2.2 41 f j h5'
        · rw [if_neg e, hRm]; omega
      dsimp only
      rw [e_PutZ W3 h1 rfl]
      have hA3 := ((hA1.sW (k := 31) (n := n + n / 2)).sG (m := gL σ 41) (F := fun f => if f < n then gR (sW (sV σ 31 0 0 md) 41 (n + n / 2)) 41 f j else gR (sW (sV σ 31 0 0 md) 41 (n + n / 2)) 41 f (gL σ 41))).sR (k1 := 31) (f := 1) (i := 0) (r := gL σ 41 + 2) (Or.inl rfl)
      refine l_put_31 (n := n) (j := gL σ 41) hA3 (WF_sR W3 (show gL σ 41 + 2 ≤ gL σ 41 + 1 + 1 by omega)) h1 hn rfl hm' (Nat.lt_of_lt_of_eq (show n < n + n / 2 by omega) hNm.symm) (Nat.le_trans (show 10 ≤ n + n / 2 by omega) (Nat.le_of_eq hNm.symm)) (Nat.le_trans (Nat.le_of_eq hNm) (by omega)) (fun i hi => ?_) (fun τ W4 hL => kk A' τ W4 hx2 hN hL)
      show (if 41 = 41 ∧ gL σ 41 = gL σ 41 then (if i < n then gR (sW (sV σ 31 0 0 md) 41 (n + n / 2)) 41 i j else gR (sW (sV σ 31 0 0 md) 41 (n + n / 2)) 41 i (gL σ 41)) else _) = i + 1
      rw [if_pos ⟨rfl, rfl⟩, if_pos hi, hRj]
      exact h3 i hi
    · rw [if_neg (fun z => hcap ((nI_eq (by omega) (by omega)).mp z))]
      exact l_put_31 hA1 W1 h1 hn hj h5 (show n < gN σ 41 j by omega) h7 h8 (fun i hi => h3 i hi) (fun τ W4 hL => kk A τ W4 hx ⟨fun _ _ _ => rfl, rfl⟩ hL)

theorem l_put_32 {σ0 : St} {post : GM → Prop} {j : Nat} (hA : Ag 32 σ0 σ) (W : WF A σ) (hk0 : 0 < gL σ 32) (hn : n < gL σ 1) (hR : gR σ 32 1 0 = j + 2) (hj : j < gL σ 42) (hc : n < gN σ 42 j) (h10 : 10 ≤ gN σ 42 j) (h44 : gN σ 42 j ≤ 44) (he : ∀ i, i < n → gR σ 42 i j = i + 1)
    (kk : ∀ τ, WF A (mx 32 σ0 τ) → Lst (mx 32 σ0 τ) 32 (n + 1) → post (hp A (mx 32 σ0 τ))) : w_Jx4a65c_add_72be8_b11 X post px (some (A.1 32 0)) (some (A.1 1 n)) (some (A.1 42 j)) (nI n) (hp A σ) := by
  unfold w_Jx4a65c_add_72be8_b11
  rw [e_Astq W hj rfl hn rfl (c' := 1) rfl (by omega), nI_clamp (by omega)]
  refine ⟨vp_in_nI hc (by omega), ?_⟩
  have W2 : WF A (sR σ 42 n j (n + 1)) := WF_sR W (show n + 1 ≤ gL σ 1 + 0 by omega)
  rw [e_PutI W2 hk0 rfl, nI_1]
  have hA2 := ((hA.sR (f := n) (i := j) (r := n + 1) (k1 := 42) (Or.inr rfl)).sV (f := 2) (i := 0) (x := nI (n + 1)))
  have := kk (sV (sR σ 42 n j (n + 1)) 32 2 0 (nI (n + 1)))
  rw [hA2.eq] at this
  refine this W2 ⟨hk0, rfl, fun i hi => ?_, Or.inr ⟨?_, ?_, ?_, ?_, ?_⟩⟩
  · have e0 : gR (sV (sR σ 42 n j (n + 1)) 32 2 0 (nI (n + 1))) 32 1 0 - 2 = j := show gR σ 32 1 0 - 2 = j by omega
    rw [e0]
    by_cases e : i = n
    · subst e; exact if_pos ⟨rfl, rfl, rfl⟩
    · exact (if_neg (fun z => e z.2.1)).trans (he i (by omega))
  · show 2 ≤ gR σ 32 1 0
    omega
  · show gR σ 32 1 0 - 2 < gL σ 42
    omega
  · show n + 1 ≤ gN σ 42 (gR σ 32 1 0 - 2)
    rw [hR, Nat.add_sub_cancel]; omega
  · show 10 ≤ gN σ 42 (gR σ 32 1 0 - 2)
    rw [hR, Nat.add_sub_cancel]; omega
  · show gN σ 42 (gR σ 32 1 0 - 2) ≤ 44
    rw [hR, Nat.add_sub_cancel]; omega
theorem l_add_32 {post : Int32 → GM → Prop} (hx : hX X A) (W : WF A σ) (h : Lst σ 32 n) (hn : n < gL σ 1) (h30 : n < 30)
    (kk : ∀ (A' : Ad) (τ : St), WF A' (mx 32 σ τ) → hX X A' → Nx A A' σ → Lst (mx 32 σ τ) 32 (n + 1) → post 1 (hp A' (mx 32 σ τ))) : w_Jx4a65c_add_9ea2d X post px (some (A.1 32 0)) (some (A.1 1 n)) (hp A σ) := by
  obtain ⟨h1, h2, h3, h4⟩ := h
  replace h3 : ∀ i, i < n → gR σ 42 i (gR σ 32 1 0 - 2) = i + 1 := h3
  replace h4 : gR σ 32 1 0 = 1 ∧ n = 0 ∨ 2 ≤ gR σ 32 1 0 ∧ gR σ 32 1 0 - 2 < gL σ 42 ∧ n ≤ gN σ 42 (gR σ 32 1 0 - 2) ∧ 10 ≤ gN σ 42 (gR σ 32 1 0 - 2) ∧ gN σ 42 (gR σ 32 1 0 - 2) ≤ 44 := h4
  unfold w_Jx4a65c_add_9ea2d
  rw [e_GetI W h1 rfl, e_PutI W h1 rfl]
  generalize hmod : gV σ 32 0 0 + 1 = md
  have W1 : WF A (sV σ 32 0 0 md) := W
  have hA1 : Ag 32 σ (sV σ 32 0 0 md) := Ag.rf.sV
  rw [e_GetZ 42 W1 h1 rfl, e_GetI W1 h1 rfl, e_Is W1 h1 rfl]
  rw [show gV (sV σ 32 0 0 md) 32 2 0 = nI n from h2, show gR (sV σ 32 0 0 md) 32 1 0 = gR σ 32 1 0 from rfl]
  unfold w_Jx4a65c_add_72be8
  rcases h4 with ⟨h4, rfl⟩ | ⟨h4, h5, h6, h7, h8⟩
  · rw [h4, show hrz A 42 1 = some (X.2.2.2 200) from congrArg some hx.2.1]
    refine Or.inr (Or.inl ⟨rfl, ?_⟩)
    dsimp only
    rw [if_pos (show nI 0 = 0 from rfl), e_Is W1 h1 rfl]
    unfold w_Jx4a65c_grow_d5877
    rw [e_GetI W1 h1 rfl, e_Is W1 h1 rfl, show gV (sV σ 32 0 0 md) 32 2 0 = nI 0 from h2]
    unfold w_Jx4a65c_grow_92f84
    rw [e_GetZ 42 W1 h1 rfl, show gR (sV σ 32 0 0 md) 32 1 0 = 1 from h4, show hrz A 42 1 = some (X.2.2.2 200) from congrArg some hx.2.1]
    refine Or.inr (Or.inl ⟨rfl, ?_⟩)
    dsimp only
    rw [if_neg (by decide), e_GetZ 42 W1 h1 rfl, show gR (sV σ 32 0 0 md) 32 1 0 = 1 from h4, show hrz A 42 1 = some (X.2.2.2 200) from congrArg some hx.2.1, if_pos rfl]
    rw [show (if (10 : Int32) < nI 0 + 1 then nI 0 + 1 else 10) = 10 from by decide]
    refine ⟨by decide, by decide, ?_⟩
    refine e_NewQ 42 hx W1 rfl (fun A' W2 hx2 hN => ?_)
    have ha : A.1 32 0 = A'.1 32 0 := (hN.1 32 0 h1).symm
    have hb : A.1 1 0 = A'.1 1 0 := (hN.1 1 0 hn).symm
    rw [ha, hb]
    rw [e_PutZ W2 h1 rfl]
    have W3 : WF A' (sR (sW (sV σ 32 0 0 md) 42 (10 : Int32).toNatClampNeg) 32 1 0 (gL σ 42 + 2)) := WF_sR W2 (show gL σ 42 + 2 ≤ gL σ 42 + 1 + 1 by omega)
    have hA3 : Ag 32 σ (sR (sW (sV σ 32 0 0 md) 42 (10 : Int32).toNatClampNeg) 32 1 0 (gL σ 42 + 2)) := (hA1.sW (k := 32)).sR (Or.inl rfl)
    have hN3 : gN (sR (sW (sV σ 32 0 0 md) 42 (10 : Int32).toNatClampNeg) 32 1 0 (gL σ 42 + 2)) 42 (gL σ 42) = 10 := if_pos ⟨rfl, rfl⟩
    refine l_put_32 (n := 0) (j := gL σ 42) hA3 W3 h1 hn rfl (show gL σ 42 < gL σ 42 + 1 by omega) (Nat.lt_of_lt_of_eq (by decide) hN3.symm) (Nat.le_of_eq hN3.symm) (Nat.le_trans (Nat.le_of_eq hN3) (by decide)) (fun i hi => absurd hi (Nat.not_lt_zero _)) (fun τ W4 hL => kk A' τ W4 hx2 hN hL)
  · obtain ⟨j, hj⟩ : ∃ j, gR σ 32 1 0 = j + 2 := ⟨gR σ 32 1 0 - 2, by omega⟩
    rw [hj, Nat.add_sub_cancel] at h3 h5 h6 h7 h8
    rw [hj, show hrz A 42 (j + 2) = some (A.1 42 j) from rfl, e_Len (a := 4) hx W1 h5 rfl (by omega)]
    rw [show gN (sV σ 32 0 0 md) 42 j = gN σ 42 j from rfl]
    by_cases hcap : n = gN σ 42 j
    · rw [if_pos (by rw [← hcap]), e_Is W1 h1 rfl]
      unfold w_Jx4a65c_grow_d5877
      rw [e_GetI W1 h1 rfl, e_Is W1 h1 rfl, show gV (sV σ 32 0 0 md) 32 2 0 = nI n from h2, nI_1]
      unfold w_Jx4a65c_grow_92f84
      rw [e_GetZ 42 W1 h1 rfl, show gR (sV σ 32 0 0 md) 32 1 0 = j + 2 from hj, show hrz A 42 (j + 2) = some (A.1 42 j) from rfl, e_Len (a := 4) hx W1 h5 rfl (by omega)]
      rw [show gN (sV σ 32 0 0 md) 42 j = gN σ 42 j from rfl, ← hcap]
      rw [if_pos (show (0 : Int32) < nI n from nI_lt (a := 0) (by omega) (by omega))]
      unfold w_Jx4a65c_grow_92f84_b20
      rw [l_newLen (by omega) (by omega)]
      rw [e_GetZ 42 W1 h1 rfl, show gR (sV σ 32 0 0 md) 32 1 0 = j + 2 from hj, show hrz A 42 (j + 2) = some (A.1 42 j) from rfl]
      unfold w_J7_copyOf_1904c
      refine ⟨_, _, _, rfl, (hp_arr (σ := sV σ 32 0 0 md) (k := 42) W1 h5 rfl).trans (by rw [ha_Q (a := 4) rfl (by omega) (by omega)]), ?_⟩
      unfold w_J7_copyOf_6403c
      rw [if_pos rfl, nI_clamp (by omega)]
      refine ⟨nI_pos (by omega), by omega, ?_⟩
      refine e_NewQ 42 hx W1 rfl (fun A' W2 hx2 hN => ?_)
      have ha : A.1 32 0 = A'.1 32 0 := (hN.1 32 0 h1).symm
      have hb : A.1 1 n = A'.1 1 n := (hN.1 1 n hn).symm
      have hd : A.1 42 j = A'.1 42 j := (hN.1 42 j h5).symm
      have h5' : j < gL (sW (sV σ 32 0 0 md) 42 (n + n / 2)) 42 := show j < gL σ 42 + 1 by omega
      have hNj : gN (sW (sV σ 32 0 0 md) 42 (n + n / 2)) 42 j = n := (if_neg (fun z => by have : j = gL σ 42 := z.2; omega)).trans hcap.symm
      have hNm : gN (sW (sV σ 32 0 0 md) 42 (n + n / 2)) 42 (gL σ 42) = n + n / 2 := if_pos ⟨rfl, rfl⟩
      have hm' : gL σ 42 < gL (sW (sV σ 32 0 0 md) 42 (n + n / 2)) 42 := Nat.lt_succ_self _
      rw [ha, hb, hd, e_Len (a := 4) hx2 W2 h5' rfl (by omega), hNj]
      rw [show (if nI (n + n / 2) < nI n then nI (n + n / 2) else nI n) = nI n from if_neg (nI_nlt (by omega) (by omega))]
      refine e_CpyQ (m := gL σ 42) W2 h5' hm' rfl rfl (c' := 1) rfl (by omega) (by rw [hNj]; omega) (by rw [hNm]; omega) (by omega) ?_
      have hRj : ∀ f, gR (sW (sV σ 32 0 0 md) 42 (n + n / 2)) 42 f j = gR σ 42 f j := fun f => if_neg (fun z => by have : j = gL σ 42 := z.2; omega)
      have hRm : ∀ f, gR (sW (sV σ 32 0 0 md) 42 (n + n / 2)) 42 f (gL σ 42) = 0 := fun f => if_pos ⟨rfl, rfl⟩
      have W3 : WF A' (sG (sW (sV σ 32 0 0 md) 42 (n + n / 2)) 42 (gL σ 42) (fun f => if f < n then gR (sW (sV σ 32 0 0 md) 42 (n + n / 2)) 42 f j else gR (sW (sV σ 32 0 0 md) 42 (n + n / 2)) 42 f (gL σ 42))) := by
        refine WF_sG W2 (fun f => ?_)
        by_cases e : f < n
        · rw [if_pos e]; exact W2.2.2 42 f j h5'
        · rw [if_neg e, hRm]; omega
      dsimp only
      rw [e_PutZ W3 h1 rfl]
      have hA3 := ((hA1.sW (k := 32) (n := n + n / 2)).sG (m := gL σ 42) (F := fun f => if f < n then gR (sW (sV σ 32 0 0 md) 42 (n + n / 2)) 42 f j else gR (sW (sV σ 32 0 0 md) 42 (n + n / 2)) 42 f (gL σ 42))).sR (k1 := 32) (f := 1) (i := 0) (r := gL σ 42 + 2) (Or.inl rfl)
      refine l_put_32 (n := n) (j := gL σ 42) hA3 (WF_sR W3 (show gL σ 42 + 2 ≤ gL σ 42 + 1 + 1 by omega)) h1 hn rfl hm' (Nat.lt_of_lt_of_eq (show n < n + n / 2 by omega) hNm.symm) (Nat.le_trans (show 10 ≤ n + n / 2 by omega) (Nat.le_of_eq hNm.symm)) (Nat.le_trans (Nat.le_of_eq hNm) (by omega)) (fun i hi => ?_) (fun τ W4 hL => kk A' τ W4 hx2 hN hL)
      show (if 42 = 42 ∧ gL σ 42 = gL σ 42 then (if i < n then gR (sW (sV σ 32 0 0 md) 42 (n + n / 2)) 42 i j else gR (sW (sV σ 32 0 0 md) 42 (n + n / 2)) 42 i (gL σ 42)) else _) = i + 1
      rw [if_pos ⟨rfl, rfl⟩, if_pos hi, hRj]
      exact h3 i hi
    · rw [if_neg (fun z => hcap ((nI_eq (by omega) (by omega)).mp z))]
      exact l_put_32 hA1 W1 h1 hn hj h5 (show n < gN σ 42 j by omega) h7 h8 (fun i hi => h3 i hi) (fun τ W4 hL => kk A τ W4 hx ⟨fun _ _ _ => rfl, rfl⟩ hL)

theorem l_put_33 {σ0 : St} {post : GM → Prop} {j : Nat} (hA : Ag 33 σ0 σ) (W : WF A σ) (hk0 : 0 < gL σ 33) (hn : n < gL σ 4) (hR : gR σ 33 1 0 = j + 2) (hj : j < gL σ 43) (hc : n < gN σ 43 j) (h10 : 10 ≤ gN σ 43 j) (h44 : gN σ 43 j ≤ 44) (he : ∀ i, i < n → gR σ 43 i j = i + 1)
    (kk : ∀ τ, WF A (mx 33 σ0 τ) → Lst (mx 33 σ0 τ) 33 (n + 1) → post (hp A (mx 33 σ0 τ))) : w_Jx4a65c_add_72be8_b11 X post px (some (A.1 33 0)) (some (A.1 4 n)) (some (A.1 43 j)) (nI n) (hp A σ) := by
  unfold w_Jx4a65c_add_72be8_b11
  rw [e_Astq W hj rfl hn rfl (c' := 4) rfl (by omega), nI_clamp (by omega)]
  refine ⟨vp_in_nI hc (by omega), ?_⟩
  have W2 : WF A (sR σ 43 n j (n + 1)) := WF_sR W (show n + 1 ≤ gL σ 4 + 0 by omega)
  rw [e_PutI W2 hk0 rfl, nI_1]
  have hA2 := ((hA.sR (f := n) (i := j) (r := n + 1) (k1 := 43) (Or.inr rfl)).sV (f := 2) (i := 0) (x := nI (n + 1)))
  have := kk (sV (sR σ 43 n j (n + 1)) 33 2 0 (nI (n + 1)))
  rw [hA2.eq] at this
  refine this W2 ⟨hk0, rfl, fun i hi => ?_, Or.inr ⟨?_, ?_, ?_, ?_, ?_⟩⟩
  · have e0 : gR (sV (sR σ 43 n j (n + 1)) 33 2 0 (nI (n + 1))) 33 1 0 - 2 = j := show gR σ 33 1 0 - 2 = j by omega
    rw [e0]
    by_cases e : i = n
    · subst e; exact if_pos ⟨rfl, rfl, rfl⟩
    · exact (if_neg (fun z => e z.2.1)).trans (he i (by omega))
  · show 2 ≤ gR σ 33 1 0
    omega
  · show gR σ 33 1 0 - 2 < gL σ 43
    omega
  · show n + 1 ≤ gN σ 43 (gR σ 33 1 0 - 2)
    rw [hR, Nat.add_sub_cancel]; omega
  · show 10 ≤ gN σ 43 (gR σ 33 1 0 - 2)
    rw [hR, Nat.add_sub_cancel]; omega
  · show gN σ 43 (gR σ 33 1 0 - 2) ≤ 44
    rw [hR, Nat.add_sub_cancel]; omega
theorem l_add_33 {post : Int32 → GM → Prop} (hx : hX X A) (W : WF A σ) (h : Lst σ 33 n) (hn : n < gL σ 4) (h30 : n < 30)
    (kk : ∀ (A' : Ad) (τ : St), WF A' (mx 33 σ τ) → hX X A' → Nx A A' σ → Lst (mx 33 σ τ) 33 (n + 1) → post 1 (hp A' (mx 33 σ τ))) : w_Jx4a65c_add_9ea2d X post px (some (A.1 33 0)) (some (A.1 4 n)) (hp A σ) := by
  obtain ⟨h1, h2, h3, h4⟩ := h
  replace h3 : ∀ i, i < n → gR σ 43 i (gR σ 33 1 0 - 2) = i + 1 := h3
  replace h4 : gR σ 33 1 0 = 1 ∧ n = 0 ∨ 2 ≤ gR σ 33 1 0 ∧ gR σ 33 1 0 - 2 < gL σ 43 ∧ n ≤ gN σ 43 (gR σ 33 1 0 - 2) ∧ 10 ≤ gN σ 43 (gR σ 33 1 0 - 2) ∧ gN σ 43 (gR σ 33 1 0 - 2) ≤ 44 := h4
  unfold w_Jx4a65c_add_9ea2d
  rw [e_GetI W h1 rfl, e_PutI W h1 rfl]
  generalize hmod : gV σ 33 0 0 + 1 = md
  have W1 : WF A (sV σ 33 0 0 md) := W
  have hA1 : Ag 33 σ (sV σ 33 0 0 md) := Ag.rf.sV
  rw [e_GetZ 43 W1 h1 rfl, e_GetI W1 h1 rfl, e_Is W1 h1 rfl]
  rw [show gV (sV σ 33 0 0 md) 33 2 0 = nI n from h2, show gR (sV σ 33 0 0 md) 33 1 0 = gR σ 33 1 0 from rfl]
  unfold w_Jx4a65c_add_72be8
  rcases h4 with ⟨h4, rfl⟩ | ⟨h4, h5, h6, h7, h8⟩
  · rw [h4, show hrz A 43 1 = some (X.2.2.2 200) from congrArg some hx.2.1]
    refine Or.inr (Or.inl ⟨rfl, ?_⟩)
    dsimp only
    rw [if_pos (show nI 0 = 0 from rfl), e_Is W1 h1 rfl]
    unfold w_Jx4a65c_grow_d5877
    rw [e_GetI W1 h1 rfl, e_Is W1 h1 rfl, show gV (sV σ 33 0 0 md) 33 2 0 = nI 0 from h2]
    unfold w_Jx4a65c_grow_92f84
    rw [e_GetZ 43 W1 h1 rfl, show gR (sV σ 33 0 0 md) 33 1 0 = 1 from h4, show hrz A 43 1 = some (X.2.2.2 200) from congrArg some hx.2.1]
    refine Or.inr (Or.inl ⟨rfl, ?_⟩)
    dsimp only
    rw [if_neg (by decide), e_GetZ 43 W1 h1 rfl, show gR (sV σ 33 0 0 md) 33 1 0 = 1 from h4, show hrz A 43 1 = some (X.2.2.2 200) from congrArg some hx.2.1, if_pos rfl]
    rw [show (if (10 : Int32) < nI 0 + 1 then nI 0 + 1 else 10) = 10 from by decide]
    refine ⟨by decide, by decide, ?_⟩
    refine e_NewQ 43 hx W1 rfl (fun A' W2 hx2 hN => ?_)
    have ha : A.1 33 0 = A'.1 33 0 := (hN.1 33 0 h1).symm
    have hb : A.1 4 0 = A'.1 4 0 := (hN.1 4 0 hn).symm
    rw [ha, hb]
    rw [e_PutZ W2 h1 rfl]
    have W3 : WF A' (sR (sW (sV σ 33 0 0 md) 43 (10 : Int32).toNatClampNeg) 33 1 0 (gL σ 43 + 2)) := WF_sR W2 (show gL σ 43 + 2 ≤ gL σ 43 + 1 + 1 by omega)
    have hA3 : Ag 33 σ (sR (sW (sV σ 33 0 0 md) 43 (10 : Int32).toNatClampNeg) 33 1 0 (gL σ 43 + 2)) := (hA1.sW (k := 33)).sR (Or.inl rfl)
    have hN3 : gN (sR (sW (sV σ 33 0 0 md) 43 (10 : Int32).toNatClampNeg) 33 1 0 (gL σ 43 + 2)) 43 (gL σ 43) = 10 := if_pos ⟨rfl, rfl⟩
    refine l_put_33 (n := 0) (j := gL σ 43) hA3 W3 h1 hn rfl (show gL σ 43 < gL σ 43 + 1 by omega) (Nat.lt_of_lt_of_eq (by decide) hN3.symm) (Nat.le_of_eq hN3.symm) (Nat.le_trans (Nat.le_of_eq hN3) (by decide)) (fun i hi => absurd hi (Nat.not_lt_zero _)) (fun τ W4 hL => kk A' τ W4 hx2 hN hL)
  · obtain ⟨j, hj⟩ : ∃ j, gR σ 33 1 0 = j + 2 := ⟨gR σ 33 1 0 - 2, by omega⟩
    rw [hj, Nat.add_sub_cancel] at h3 h5 h6 h7 h8
    rw [hj, show hrz A 43 (j + 2) = some (A.1 43 j) from rfl, e_Len (a := 4) hx W1 h5 rfl (by omega)]
    rw [show gN (sV σ 33 0 0 md) 43 j = gN σ 43 j from rfl]
    by_cases hcap : n = gN σ 43 j
    · rw [if_pos (by rw [← hcap]), e_Is W1 h1 rfl]
      unfold w_Jx4a65c_grow_d5877
      rw [e_GetI W1 h1 rfl, e_Is W1 h1 rfl, show gV (sV σ 33 0 0 md) 33 2 0 = nI n from h2, nI_1]
      unfold w_Jx4a65c_grow_92f84
      rw [e_GetZ 43 W1 h1 rfl, show gR (sV σ 33 0 0 md) 33 1 0 = j + 2 from hj, show hrz A 43 (j + 2) = some (A.1 43 j) from rfl, e_Len (a := 4) hx W1 h5 rfl (by omega)]
      rw [show gN (sV σ 33 0 0 md) 43 j = gN σ 43 j from rfl, ← hcap]
      rw [if_pos (show (0 : Int32) < nI n from nI_lt (a := 0) (by omega) (by omega))]
      unfold w_Jx4a65c_grow_92f84_b20
      rw [l_newLen (by omega) (by omega)]
      rw [e_GetZ 43 W1 h1 rfl, show gR (sV σ 33 0 0 md) 33 1 0 = j + 2 from hj, show hrz A 43 (j + 2) = some (A.1 43 j) from rfl]
      unfold w_J7_copyOf_1904c
      refine ⟨_, _, _, rfl, (hp_arr (σ := sV σ 33 0 0 md) (k := 43) W1 h5 rfl).trans (by rw [ha_Q (a := 4) rfl (by omega) (by omega)]), ?_⟩
      unfold w_J7_copyOf_6403c
      rw [if_pos rfl, nI_clamp (by omega)]
      refine ⟨nI_pos (by omega), by omega, ?_⟩
      refine e_NewQ 43 hx W1 rfl (fun A' W2 hx2 hN => ?_)
      have ha : A.1 33 0 = A'.1 33 0 := (hN.1 33 0 h1).symm
      have hb : A.1 4 n = A'.1 4 n := (hN.1 4 n hn).symm
      have hd : A.1 43 j = A'.1 43 j := (hN.1 43 j h5).symm
      have h5' : j < gL (sW (sV σ 33 0 0 md) 43 (n + n / 2)) 43 := show j < gL σ 43 + 1 by omega
      have hNj : gN (sW (sV σ 33 0 0 md) 43 (n + n / 2)) 43 j = n := (if_neg (fun z => by have : j = gL σ 43 := z.2; omega)).trans hcap.symm
      have hNm : gN (sW (sV σ 33 0 0 md) 43 (n + n / 2)) 43 (gL σ 43) = n + n / 2 := if_pos ⟨rfl, rfl⟩
      have hm' : gL σ 43 < gL (sW (sV σ 33 0 0 md) 43 (n + n / 2)) 43 := Nat.lt_succ_self _
      rw [ha, hb, hd, e_Len (a := 4) hx2 W2 h5' rfl (by omega), hNj]
      rw [show (if nI (n + n / 2) < nI n then nI (n + n / 2) else nI n) = nI n from if_neg (nI_nlt (by omega) (by omega))]
      refine e_CpyQ (m := gL σ 43) W2 h5' hm' rfl rfl (c' := 4) rfl (by omega) (by rw [hNj]; omega) (by rw [hNm]; omega) (by omega) ?_
      have hRj : ∀ f, gR (sW (sV σ 33 0 0 md) 43 (n + n / 2)) 43 f j = gR σ 43 f j := fun f => if_neg (fun z => by have : j = gL σ 43 := z.2; omega)
      have hRm : ∀ f, gR (sW (sV σ 33 0 0 md) 43 (n + n / 2)) 43 f (gL σ 43) = 0 := fun f => if_pos ⟨rfl, rfl⟩
      have W3 : WF A' (sG (sW (sV σ 33 0 0 md) 43 (n + n / 2)) 43 (gL σ 43) (fun f => if f < n then gR (sW (sV σ 33 0 0 md) 43 (n + n / 2)) 43 f j else gR (sW (sV σ 33 0 0 md) 43 (n + n / 2)) 43 f (gL σ 43))) := by
        refine WF_sG W2 (fun f => ?_)
        by_cases e : f < n
        · rw [if_pos e]; exact W2.2.2 43 f j h5'
        · rw [if_neg e, hRm]; omega
      dsimp only
      rw [e_PutZ W3 h1 rfl]
      have hA3 := ((hA1.sW (k := 33) (n := n + n / 2)).sG (m := gL σ 43) (F := fun f => if f < n then gR (sW (sV σ 33 0 0 md) 43 (n + n / 2)) 43 f j else gR (sW (sV σ 33 0 0 md) 43 (n + n / 2)) 43 f (gL σ 43))).sR (k1 := 33) (f := 1) (i := 0) (r := gL σ 43 + 2) (Or.inl rfl)
      refine l_put_33 (n := n) (j := gL σ 43) hA3 (WF_sR W3 (show gL σ 43 + 2 ≤ gL σ 43 + 1 + 1 by omega)) h1 hn rfl hm' (Nat.lt_of_lt_of_eq (show n < n + n / 2 by omega) hNm.symm) (Nat.le_trans (show 10 ≤ n + n / 2 by omega) (Nat.le_of_eq hNm.symm)) (Nat.le_trans (Nat.le_of_eq hNm) (by omega)) (fun i hi => ?_) (fun τ W4 hL => kk A' τ W4 hx2 hN hL)
      show (if 43 = 43 ∧ gL σ 43 = gL σ 43 then (if i < n then gR (sW (sV σ 33 0 0 md) 43 (n + n / 2)) 43 i j else gR (sW (sV σ 33 0 0 md) 43 (n + n / 2)) 43 i (gL σ 43)) else _) = i + 1
      rw [if_pos ⟨rfl, rfl⟩, if_pos hi, hRj]
      exact h3 i hi
    · rw [if_neg (fun z => hcap ((nI_eq (by omega) (by omega)).mp z))]
      exact l_put_33 hA1 W1 h1 hn hj h5 (show n < gN σ 43 j by omega) h7 h8 (fun i hi => h3 i hi) (fun τ W4 hL => kk A τ W4 hx ⟨fun _ _ _ => rfl, rfl⟩ hL)
end LA
