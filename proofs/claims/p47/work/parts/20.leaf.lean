/-! leaves: known builds, devices, groups -/
theorem q_ix {n : Nat} (v : Int32) (hn : n ≤ 40) : (v < 0 ∨ nI n - 1 < v) ∨ ∃ j : Nat, j < n ∧ v = nI j := by
  rcases pk_ix v (n := n) (by omega) with h | h | h
  · exact Or.inl (Or.inl h)
  · refine Or.inl (Or.inr ?_)
    cases n with
    | zero => exact (Int32.lt_iff_toInt_lt.mpr (by have := Int32.le_iff_toInt_le.mp h; have e : (nI 0 - 1).toInt = -1 := by decide
                                                   have e2 : (nI 0).toInt = 0 := by decide
                                                   omega))
    | succ m =>
      rw [nI_pred]
      refine Int32.lt_iff_toInt_lt.mpr ?_
      have h' := Int32.le_iff_toInt_le.mp h
      rw [nI_toInt (by omega)] at h'
      rw [nI_toInt (by omega)]
      omega
  · exact Or.inr h
theorem q_nb {n j : Nat} (hj : j < n) (hn : n ≤ 40) : ¬ (nI j < 0 ∨ nI n - 1 < nI j) := by
  rintro (h | h)
  · exact nI_pos (by omega) h
  · obtain ⟨m, rfl⟩ : ∃ m, n = m + 1 := ⟨n - 1, by omega⟩
    rw [nI_pred] at h
    exact nI_nlt (by omega) (by omega) h
section KB
variable {A : Ad} {σ : St} {X : Cx} {px : String → GM → Prop} {post : Option Nat → GM → Prop} {v : Int32}
theorem q_kb (W : WF A σ) (Q : P0 σ) (hL : Lst σ 32 (gL σ 1)) (h10 : gL σ 1 ≤ 10) : w_X7_knownBuild X post px (some (A.1 7 0)) v (hp A σ) = if v < 0 ∨ nI (gL σ 1) - 1 < v then px "java/util/NoSuchElementException" (hp A σ) else post (some (A.1 1 v.toNatClampNeg)) (hp A σ) := by
  unfold w_X7_knownBuild
  rw [s7_2 W Q, e_Is W hL.1 rfl, l_size W (Or.inr (Or.inr (Or.inl rfl))) hL, q_out]
  rcases q_ix v (show gL σ 1 ≤ 40 by omega) with hc | ⟨j, hj, rfl⟩
  · rw [if_pos hc, if_pos hc]; rfl
  · have hc := q_nb hj (show gL σ 1 ≤ 40 by omega)
    rw [if_neg hc, if_neg hc, if_pos rfl, s7_2 W Q, e_Is W hL.1 rfl, l_get W (Or.inr (Or.inr (Or.inl rfl))) hL hj]
    rw [show hE (32 + 10) = 1 from rfl, e_Is W hj rfl, nI_clamp (by omega)]
theorem q_kd (W : WF A σ) (Q : P0 σ) (hL : Lst σ 30 (gL σ 2)) (h10 : gL σ 2 ≤ 12) : w_X7_knownDevice X post px (some (A.1 7 0)) v (hp A σ) = if v < 0 ∨ nI (gL σ 2) - 1 < v then px "java/util/NoSuchElementException" (hp A σ) else post (some (A.1 2 v.toNatClampNeg)) (hp A σ) := by
  unfold w_X7_knownDevice
  rw [s7_0 W Q, e_Is W hL.1 rfl, l_size W (Or.inl rfl) hL, q_out]
  rcases q_ix v (show gL σ 2 ≤ 40 by omega) with hc | ⟨j, hj, rfl⟩
  · rw [if_pos hc, if_pos hc]; rfl
  · have hc := q_nb hj (show gL σ 2 ≤ 40 by omega)
    rw [if_neg hc, if_neg hc, if_pos rfl, s7_0 W Q, e_Is W hL.1 rfl, l_get W (Or.inl rfl) hL hj]
    rw [show hE (30 + 10) = 2 from rfl, e_Is W hj rfl, nI_clamp (by omega)]
theorem q_kg (W : WF A σ) (Q : P0 σ) (hL : Lst σ 33 (gL σ 4)) (h10 : gL σ 4 ≤ 30) : w_X7_knownGroup X post px (some (A.1 7 0)) v (hp A σ) = if v < 0 ∨ nI (gL σ 4) - 1 < v then px "java/util/NoSuchElementException" (hp A σ) else post (some (A.1 4 v.toNatClampNeg)) (hp A σ) := by
  unfold w_X7_knownGroup
  rw [s7_3 W Q, e_Is W hL.1 rfl, l_size W (Or.inr (Or.inr (Or.inr rfl))) hL, q_out]
  rcases q_ix v (show gL σ 4 ≤ 40 by omega) with hc | ⟨j, hj, rfl⟩
  · rw [if_pos hc, if_pos hc]; rfl
  · have hc := q_nb hj (show gL σ 4 ≤ 40 by omega)
    rw [if_neg hc, if_neg hc, if_pos rfl, s7_3 W Q, e_Is W hL.1 rfl, l_get W (Or.inr (Or.inr (Or.inr rfl))) hL hj]
    rw [show hE (33 + 10) = 4 from rfl, e_Is W hj rfl, nI_clamp (by omega)]
theorem Lst_sV {k f i l n : Nat} {x : Int32} (h : (l = k) = False) : Lst (sV σ k f i x) l n = Lst σ l n := by
  unfold Lst
  rw [gL_sV, gV_sV, if_neg (fun z => h ▸ z.1)]
  rfl
theorem Lst_sJ {l n : Nat} {x : Int64} : Lst (sJ σ x) l n = Lst σ l n := Eq.trans rfl rfl
theorem Lst_sD {l n : Nat} {x : UInt64} : Lst (sD σ x) l n = Lst σ l n := Eq.trans rfl rfl
end KB
theorem nc_st {x : Int32} (h : stOk x) : narrow .char (.int x) = .int x := by
  rcases h with rfl | rfl | rfl | rfl <;> rfl
theorem nc_32 : narrow .char (.int 32) = .int 32 := rfl
