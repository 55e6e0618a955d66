/-! LISTS: the four ArrayLists (kinds 30..33, their element arrays 40..43) -/
def lk (k : Nat) : Prop := k = 30 ∨ k = 31 ∨ k = 32 ∨ k = 33
def Lst (σ : St) (k n : Nat) : Prop := 0 < gL σ k ∧ gV σ k 2 0 = nI n ∧ (∀ i : Nat, i < n → gR σ (k + 10) i (gR σ k 1 0 - 2) = i + 1) ∧ (gR σ k 1 0 = 1 ∧ n = 0 ∨ 2 ≤ gR σ k 1 0 ∧ gR σ k 1 0 - 2 < gL σ (k + 10) ∧ n ≤ gN σ (k + 10) (gR σ k 1 0 - 2) ∧ 10 ≤ gN σ (k + 10) (gR σ k 1 0 - 2) ∧ gN σ (k + 10) (gR σ k 1 0 - 2) ≤ 44)
theorem Lst.z {σ : St} {k n : Nat} (h : Lst σ k n) : n ≤ 44 := by
  rcases h.2.2.2 with ⟨_, h⟩ | ⟨_, _, h, _, h2⟩ <;> omega
/-- the state with the kinds k and k + 10 taken from τ -/
def mx (k : Nat) (σ τ : St) : St := (fun k' => if k' = k + 10 then gL τ k' else gL σ k', fun k' f i => if k' = k ∨ k' = k + 10 then gV τ k' f i else gV σ k' f i, fun k' f i => if k' = k ∨ k' = k + 10 then gR τ k' f i else gR σ k' f i, fun k' i => if k' = k + 10 then gN τ k' i else gN σ k' i, gJ σ, gD σ)
section LI
variable {A : Ad} {σ : St} {k n i : Nat} {X : Cx} {px : String → GM → Prop}
theorem p_and {a b : Prop} (h : a) : (a ∧ b) = b := propext ⟨fun z => z.2, fun z => ⟨h, z⟩⟩
theorem l_size {post : Int32 → GM → Prop} (W : WF A σ) (hk : lk k) (h : Lst σ k n) : w_Jx4a65c_size_8abf5 X post px (some (A.1 k 0)) (hp A σ) = post (nI n) (hp A σ) := by
  unfold w_Jx4a65c_size_8abf5
  rcases hk with rfl | rfl | rfl | rfl <;> rw [e_GetI W h.1 rfl, h.2.1]
theorem l_get {post : Option Nat → GM → Prop} (W : WF A σ) (hk : lk k) (h : Lst σ k n) (hi : i < n) : w_Jx4a65c_get_915e3 X post px (some (A.1 k 0)) (nI i) (hp A σ) = post (some (A.1 (hE (k + 10)) i)) (hp A σ) := by
  have hz := h.z
  obtain ⟨h1, h2, h3, h4⟩ := h
  obtain ⟨j, hj, h5, h6⟩ : ∃ j, gR σ k 1 0 = j + 2 ∧ j < gL σ (k + 10) ∧ n ≤ gN σ (k + 10) j ∧ gN σ (k + 10) j ≤ 44 := by
    rcases h4 with ⟨_, h⟩ | ⟨g1, g2, g3, g4, g5⟩
    · omega
    · exact ⟨gR σ k 1 0 - 2, by omega, g2, g3, g5⟩
  have h7 := h3 i hi
  rw [hj] at h7
  have hv : vp_in (nI i) (gN σ (k + 10) j) := vp_in_nI (by omega) (by omega)
  unfold w_Jx4a65c_get_915e3 w_J15_checkIndex_7cf53 w_J3_checkIndex_8e157 w_Jx4a65c_elementData_915e3
  rcases hk with rfl | rfl | rfl | rfl
  · rw [e_GetI W h1 rfl, h2, if_neg (nI_pos (by omega)), if_pos (nI_lt hi (by omega))]
    dsimp only
    rw [e_Is W h1 rfl, e_GetZ 40 W h1 rfl, hj]
    rw [show hrz A 40 (j + 2) = some (A.1 40 j) from rfl, e_Aldq W h5 rfl (by omega) (by omega), p_and hv, nI_clamp (by omega)]
    rw [show gR σ 40 i j = i + 1 from h7]; rfl
  · rw [e_GetI W h1 rfl, h2, if_neg (nI_pos (by omega)), if_pos (nI_lt hi (by omega))]
    dsimp only
    rw [e_Is W h1 rfl, e_GetZ 41 W h1 rfl, hj]
    rw [show hrz A 41 (j + 2) = some (A.1 41 j) from rfl, e_Aldq W h5 rfl (by omega) (by omega), p_and hv, nI_clamp (by omega)]
    rw [show gR σ 41 i j = i + 1 from h7]; rfl
  · rw [e_GetI W h1 rfl, h2, if_neg (nI_pos (by omega)), if_pos (nI_lt hi (by omega))]
    dsimp only
    rw [e_Is W h1 rfl, e_GetZ 42 W h1 rfl, hj]
    rw [show hrz A 42 (j + 2) = some (A.1 42 j) from rfl, e_Aldq W h5 rfl (by omega) (by omega), p_and hv, nI_clamp (by omega)]
    rw [show gR σ 42 i j = i + 1 from h7]; rfl
  · rw [e_GetI W h1 rfl, h2, if_neg (nI_pos (by omega)), if_pos (nI_lt hi (by omega))]
    dsimp only
    rw [e_Is W h1 rfl, e_GetZ 43 W h1 rfl, hj]
    rw [show hrz A 43 (j + 2) = some (A.1 43 j) from rfl, e_Aldq W h5 rfl (by omega) (by omega), p_and hv, nI_clamp (by omega)]
    rw [show gR σ 43 i j = i + 1 from h7]; rfl
end LI
section LA
variable {A : Ad} {σ : St} {n : Nat} {X : Cx} {px : String → GM → Prop}
theorem nI_shr1 {c : Nat} (h : c < 2 ^ 31) : nI c >>> ((1 : Int32) &&& 31) = nI (c / 2) := pk_shrN h _ 1 (by decide)
theorem l_newLen {post : Int32 → GM → Prop} {g : GM} {c : Nat} (h0 : 10 ≤ c) (h1 : c ≤ 40) : w_J8_newLength_cabcc X post px (nI c) (nI (c + 1) - nI c) (nI c >>> ((1 : Int32) &&& 31)) g = post (nI (c + c / 2)) g := by
  unfold w_J8_newLength_cabcc
  rw [nI_shr1 (by omega), pk_sub (by omega), show c + 1 - c = 1 by omega]
  rw [if_pos (show nI 1 < nI (c / 2) from nI_lt (by omega) (by omega)), nI_add]
  rw [if_neg (show ¬ nI (c + c / 2) ≤ 0 from nI_nle (by omega) (by omega)), if_neg (show ¬ (2147483639 : Int32) < nI (c + c / 2) from nI_nlt (a := 2147483639) (b := c + c / 2) (by omega) (by omega))]
