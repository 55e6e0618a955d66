/-! shares that are used -/
def bcE (v0 : Int32) : Int32 := ((((((((v0 - (((v0).toUInt32 >>> (((1 : Int32)).toUInt32 &&& Int32.toUInt32 31)).toInt32 &&& (1431655765 : Int32))) &&& (858993459 : Int32)) + ((((v0 - (((v0).toUInt32 >>> (((1 : Int32)).toUInt32 &&& Int32.toUInt32 31)).toInt32 &&& (1431655765 : Int32)))).toUInt32 >>> (((2 : Int32)).toUInt32 &&& Int32.toUInt32 31)).toInt32 &&& (858993459 : Int32))) + (((((v0 - (((v0).toUInt32 >>> (((1 : Int32)).toUInt32 &&& Int32.toUInt32 31)).toInt32 &&& (1431655765 : Int32))) &&& (858993459 : Int32)) + ((((v0 - (((v0).toUInt32 >>> (((1 : Int32)).toUInt32 &&& Int32.toUInt32 31)).toInt32 &&& (1431655765 : Int32)))).toUInt32 >>> (((2 : Int32)).toUInt32 &&& Int32.toUInt32 31)).toInt32 &&& (858993459 : Int32)))).toUInt32 >>> (((4 : Int32)).toUInt32 &&& Int32.toUInt32 31)).toInt32) &&& (252645135 : Int32)) + (((((((v0 - (((v0).toUInt32 >>> (((1 : Int32)).toUInt32 &&& Int32.toUInt32 31)).toInt32 &&& (1431655765 : Int32))) &&& (858993459 : Int32)) + ((((v0 - (((v0).toUInt32 >>> (((1 : Int32)).toUInt32 &&& Int32.toUInt32 31)).toInt32 &&& (1431655765 : Int32)))).toUInt32 >>> (((2 : Int32)).toUInt32 &&& Int32.toUInt32 31)).toInt32 &&& (858993459 : Int32))) + (((((v0 - (((v0).toUInt32 >>> (((1 : Int32)).toUInt32 &&& Int32.toUInt32 31)).toInt32 &&& (1431655765 : Int32))) &&& (858993459 : Int32)) + ((((v0 - (((v0).toUInt32 >>> (((1 : Int32)).toUInt32 &&& Int32.toUInt32 31)).toInt32 &&& (1431655765 : Int32)))).toUInt32 >>> (((2 : Int32)).toUInt32 &&& Int32.toUInt32 31)).toInt32 &&& (858993459 : Int32)))).toUInt32 >>> (((4 : Int32)).toUInt32 &&& Int32.toUInt32 31)).toInt32) &&& (252645135 : Int32))).toUInt32 >>> (((8 : Int32)).toUInt32 &&& Int32.toUInt32 31)).toInt32) + ((((((((v0 - (((v0).toUInt32 >>> (((1 : Int32)).toUInt32 &&& Int32.toUInt32 31)).toInt32 &&& (1431655765 : Int32))) &&& (858993459 : Int32)) + ((((v0 - (((v0).toUInt32 >>> (((1 : Int32)).toUInt32 &&& Int32.toUInt32 31)).toInt32 &&& (1431655765 : Int32)))).toUInt32 >>> (((2 : Int32)).toUInt32 &&& Int32.toUInt32 31)).toInt32 &&& (858993459 : Int32))) + (((((v0 - (((v0).toUInt32 >>> (((1 : Int32)).toUInt32 &&& Int32.toUInt32 31)).toInt32 &&& (1431655765 : Int32))) &&& (858993459 : Int32)) + ((((v0 - (((v0).toUInt32 >>> (((1 : Int32)).toUInt32 &&& Int32.toUInt32 31)).toInt32 &&& (1431655765 : Int32)))).toUInt32 >>> (((2 : Int32)).toUInt32 &&& Int32.toUInt32 31)).toInt32 &&& (858993459 : Int32)))).toUInt32 >>> (((4 : Int32)).toUInt32 &&& Int32.toUInt32 31)).toInt32) &&& (252645135 : Int32)) + (((((((v0 - (((v0).toUInt32 >>> (((1 : Int32)).toUInt32 &&& Int32.toUInt32 31)).toInt32 &&& (1431655765 : Int32))) &&& (858993459 : Int32)) + ((((v0 - (((v0).toUInt32 >>> (((1 : Int32)).toUInt32 &&& Int32.toUInt32 31)).toInt32 &&& (1431655765 : Int32)))).toUInt32 >>> (((2 : Int32)).toUInt32 &&& Int32.toUInt32 31)).toInt32 &&& (858993459 : Int32))) + (((((v0 - (((v0).toUInt32 >>> (((1 : Int32)).toUInt32 &&& Int32.toUInt32 31)).toInt32 &&& (1431655765 : Int32))) &&& (858993459 : Int32)) + ((((v0 - (((v0).toUInt32 >>> (((1 : Int32)).toUInt32 &&& Int32.toUInt32 31)).toInt32 &&& (1431655765 : Int32)))).toUInt32 >>> (((2 : Int32)).toUInt32 &&& Int32.toUInt32 31)).toInt32 &&& (858993459 : Int32)))).toUInt32 >>> (((4 : Int32)).toUInt32 &&& Int32.toUInt32 31)).toInt32) &&& (252645135 : Int32))).toUInt32 >>> (((8 : Int32)).toUInt32 &&& Int32.toUInt32 31)).toInt32)).toUInt32 >>> (((16 : Int32)).toUInt32 &&& Int32.toUInt32 31)).toInt32) &&& (63 : Int32))
def bs (v : Int32) : Int32 := sm (fun k => if (v >>> (nI k &&& 31)) &&& 1 = 1 then 1 else 0) 8
theorem bc_all : ∀ m : Fin 256, bcE (nI m.val) = bs (nI m.val) := by decide +kernel
theorem bc_nI (y : Int32) : y = nI y.toBitVec.toNat := by
  apply Int32.toBitVec_inj.mp
  unfold nI
  simp
theorem bc_and {m : Nat} (hm : m < 256) (x : Int32) : ∃ p, p < 256 ∧ nI m &&& x = nI p := by
  refine ⟨(nI m &&& x).toBitVec.toNat, ?_, bc_nI _⟩
  have e : (nI m &&& x).toBitVec.toNat = (nI m).toBitVec.toNat &&& x.toBitVec.toNat := by simp
  have e2 : (nI m).toBitVec.toNat = m := by
    unfold nI
    simp
    omega
  rw [e, e2]
  exact Nat.lt_of_le_of_lt Nat.and_le_left hm
def ub (σ : St) (d : Nat) : Int32 := if gR σ 2 3 d = 0 then 0 else gV σ 104 d 0 &&& gV σ 112 (gR σ 2 3 d - 1) 0
section BC
variable {A : Ad} {σ σ' : St} {X : Cx} {px : String → GM → Prop} {d : Nat}
theorem q_bc {post : Int32 → GM → Prop} {v : Int32} {g : GM} (h : ∃ m, m < 256 ∧ v = nI m) : w_J6_bitCount_0f7a4 X post px v g = post (bs v) g := by
  obtain ⟨m, hm, rfl⟩ := h
  rw [← bc_all ⟨m, hm⟩]
  rfl
theorem ub_256 (P : PI σ) : ∃ m, m < 256 ∧ ub σ d = nI m := by
  unfold ub
  by_cases z : gR σ 2 3 d = 0
  · rw [if_pos z]; exact ⟨0, by decide, rfl⟩
  · rw [if_neg z]
    obtain ⟨m, hm, e⟩ := P.2.2.1.2.2.1.2 d
    rw [e]
    exact bc_and hm _
theorem q_ub {post : Int32 → GM → Prop} (W : WF A σ) (P : PI σ) (hd : d < gL σ 2) : w_X2_usableItems X post px (some (A.1 2 d)) (hp A σ) = post (ub σ d) (hp A σ) := by
  unfold w_X2_usableItems w_X2_usableItems_b26 ub
  rw [eR_2_3 W hd]
  by_cases z : gR σ 2 3 d = 0
  · rw [if_pos (by rw [z]; rfl), if_pos z]
  · obtain ⟨m, hm⟩ : ∃ m, gR σ 2 3 d = m + 1 := ⟨gR σ 2 3 d - 1, by omega⟩
    have hml : m < gL σ 1 := by
      have h1 : gR σ 2 3 d ≤ gL σ 1 := W.2.2 2 3 d hd
      omega
    obtain ⟨o, hoo, hol, -, -, o3⟩ := q_offer W P hml
    rw [if_neg (hr_nn z), if_neg z, e_GetI W hd hok_2_5, eR_2_3 W hd, hm, hr_s, eR_1_2 W hml, hoo, hr_s, e_GetI W hol hok_5_2, o3, Nat.add_sub_cancel, (P.2.2.1.1 d hd).2.2.2.2.1]
theorem ub_b {k : Int32} (h : (ub σ d >>> (k &&& 31)) &&& 1 = 1) : (gV σ 104 d 0 >>> (k &&& 31)) &&& 1 = 1 := by
  unfold ub at h
  by_cases z : gR σ 2 3 d = 0
  · rw [if_pos z] at h
    have : ((0 : Int32) >>> (k &&& 31)) = 0 := Int32.toBitVec_inj.mp (by simp)
    rw [this] at h
    exact absurd h (by decide)
  · rw [if_neg z, band1] at h
    exact h.1
/-- the reference's inner loop -/
def uS (σ : St) (n : Nat) : Int32 := sm (fun d => bs (gV σ 104 d 0)) n
def uT (σ : St) (n : Nat) : Int32 := sm (fun d => bs (ub σ d)) n
theorem q_ucl {post : UInt32 → GM → Prop} (W : WF A σ) (P : PI σ) : ∀ (k f i : Nat), i + k = gL σ 2 → k < f → w_X7_usedShare_l6 X post px f (some (A.1 7 0)) (uS σ i) (uT σ i) (nI i) (hp A σ) = if uS σ (gL σ 2) = 0 then px "java/lang/ArithmeticException" (hp A σ) else vf_n32 (FP.fdiv (FP.i2f (uT σ (gL σ 2))) (FP.i2f (uS σ (gL σ 2)))) ∧ post (FP.fdiv (FP.i2f (uT σ (gL σ 2))) (FP.i2f (uS σ (gL σ 2)))) (hp A σ) := by
  have Q := P.1
  have h12 : gL σ 2 ≤ 12 := P.2.1.2.2.2.2.2.2.2.1
  have hL : Lst σ 30 (gL σ 2) := P.2.2.2.2.2.2.2.1
  intro k
  induction k with
  | zero =>
    intro f i hi hf
    obtain ⟨f, rfl⟩ : ∃ f', f = f' + 1 := ⟨f - 1, by omega⟩
    rw [w_X7_usedShare_l6, s7_0 W Q, e_Is' W hL.1 hcl_30, l_size W (Or.inl rfl) hL, if_pos (nI_le (by omega) (by omega)), show i = gL σ 2 by omega]
  | succ k ih =>
    intro f i hi hf
    obtain ⟨f, rfl⟩ : ∃ f', f = f' + 1 := ⟨f - 1, by omega⟩
    have hil : i < gL σ 2 := by omega
    have ih' := ih f (i + 1) (by omega) (by omega)
    have ho : ∃ m, m < 256 ∧ gV σ 2 5 i = nI m := by
      rw [(P.2.2.1.1 i hil).2.2.2.2.1]; exact P.2.2.1.2.2.1.2 i
    rw [w_X7_usedShare_l6, s7_0 W Q, e_Is' W hL.1 hcl_30, l_size W (Or.inl rfl) hL, if_neg (nI_ge (by omega) (by omega))]
    rw [s7_0 W Q, e_Is' W hL.1 hcl_30, l_get W (Or.inl rfl) hL hil]
    rw [show hE (30 + 10) = 2 from rfl, e_Is' W hil hcl_2, e_GetI W hil hok_2_5, q_bc ho, e_Is' W hil hcl_2, q_ub W P hil, q_bc (ub_256 P), nI_1, (P.2.2.1.1 i hil).2.2.2.2.1]
    exact ih'
end BC
section CS
variable {X : Cx} {xs : Nat → Int32} {Ls b i : Nat} {v1 v2 v3 v4 : Option Nat} {g : GM}
end CS
