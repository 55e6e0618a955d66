/-! shares that are used -/
def bcE (v0 : Int32) : Int32 := ((((((((v0 - (((v0).toUInt32 >>> (((1 : Int32)).toUInt32 &&& Int32.toUInt32 31)).toInt32 &&& (1431655765 : Int32))) &&& (858993459 : Int32)) + ((((v0 - (((v0).toUInt32 >>> (((1 : Int32)).toUInt32 &&& Int32.toUInt32 31)).toInt32 &&& (1431655765 : Int32)))).toUInt32 >>> (((2 : Int32)).toUInt32 &&& Int32.toUInt32 31)).toInt32 &&& (858993459 : Int32))) + (((((v0 - (((v0).toUInt32 >>> (((1 : Int32)).toUInt32 &&& Int32.toUInt32 31)).toInt32 &&& (1431655765 : Int32))) &&& (858993459 : Int32)) + ((((v0 - (((v0).toUInt32 >>> (((1 : Int32)).toUInt32 &&& Int32.toUInt32 31)).toInt32 &&& (1431655765 : Int32)))).toUInt32 >>> (((2 : Int32)).toUInt32 &&& Int32.toUInt32 31)).toInt32 &&& (858993459 : Int32)))).toUInt32 >>> (((4 : Int32)).toUInt32 &&& Int32.toUInt32 31)).toInt32) &&& (252645135 : Int32)) + (((((((v0 - (((v0).toUInt32 >>> (((1 : Int32)).toUInt32 &&& Int32.toUInt32 31)).toInt32 &&& (1431655765 : Int32))) &&& (858993459 : Int32)) + ((((v0 - (((v0).toUInt32 >>> (((1 : Int32)).toUInt32 &&& Int32.toUInt32 31)).toInt32 &&& (1431655765 : Int32)))).toUInt32 >>> (((2 : Int32)).toUInt32 &&& Int32.toUInt32 31)).toInt32 &&& (858993459 : Int32))) + (((((v0 - (((v0).toUInt32 >>> (((1 : Int32)).toUInt32 &&& Int32.toUInt32 31)).toInt32 &&& (1431655765 : Int32))) &&& (858993459 : Int32)) + ((((v0 - (((v0).toUInt32 >>> (((1 : Int32)).toUInt32 &&& Int32.toUInt32 31)).toInt32 &&& (1431655765 : Int32)))).toUInt32 >>> (((2 : Int32)).toUInt32 &&& Int32.toUInt32 31)).toInt32 &&& (858993459 : Int32)))).toUInt32 >>> (((4 : Int32)).toUInt32 &&& Int32.toUInt32 31)).toInt32) &&& (252645135 : Int32))).toUInt32 >>> (((8 : Int32)).toUInt32 &&& Int32.toUInt32 31)).toInt32) + ((((((((v0 - (((v0).toUInt32 >>> (((1 : Int32)).toUInt32 &&& Int32.toUInt32 31)).toInt32 &&& (1431655765 : Int32))) &&& (858993459 : Int32)) + ((((v0 - (((v0).toUInt32 >>> (((1 : Int32)).toUInt32 &&& Int32.toUInt32 31)).toInt32 &&& (1431655765 : Int32)))).toUInt32 >>> (((2 : Int32)).toUInt32 &&& Int32.toUInt32 31)).toInt32 &&& (858993459 : Int32))) + (((((v0 - (((v0).toUInt32 >>> (((1 : Int32)).toUInt32 &&& Int32.toUInt32 31)).toInt32 &&& (1431655765 : Int32))) &&& (858993459 : Int32)) + ((((v0 - (((v0).toUInt32 >>> (((1 : Int32)).toUInt32 &&& Int32.toUInt32 31)).toInt32 &&& (1431655765 : Int32)))).toUInt32 >>> (((2 : Int32)).toUInt32 &&& Int32.toUInt32 31)).toInt32 &&& (858993459 : Int32)))).toUInt32 >>> (((4 : Int32)).toUInt32 &&& Int32.toUInt32 31)).toInt32) &&& (252645135 : Int32)) + (((((((v0 - (((v0).toUInt32 >>> (((1 : Int32)).toUInt32 &&& Int32.toUInt32 31)).toInt32 &&& (1431655765 : Int32))) &&& (858993459 : Int32)) + ((((v0 - (((v0).toUInt32 >>> (((1 : Int32)).toUInt32 &&& Int32.toUInt32 31)).toInt32 &&& (1431655765 : Int32)))).toUInt32 >>> (((2 : Int32)).toUInt32 &&& Int32.toUInt32 31)).toInt32 &&& (858993459 : Int32))) + (((((v0 - (((v0).toUInt32 >>> (((1 : Int32)).toUInt32 &&& Int32.toUInt32 31)).toInt32 &&& (1431655765 : Int32))) &&& (858993459 : Int32)) + ((((v0 - (((v0).toUInt32 >>> (((1 : Int32)).toUInt32 &&& Int32.toUInt32 31)).toInt32 &&& (1431655765 : Int32)))).toUInt32 >>> (((2 : Int32)).toUInt32 &&& Int32.toUInt32 31)).toInt32 &&& (858993459 : Int32)))).toUInt32 >>> (((4 : Int32)).toUInt32 &&& Int32.toUInt32 31)).toInt32) &&& (252645135 : Int32))).toUInt32 >>> (((8 : Int32)).toUInt32 &&& Int32.toUInt32 31)).toInt32)).toUInt32 >>> (((16 : Int32)).toUInt32 &&& Int32.toUInt32 31)).toInt32) &&& (63 : Int32))
def bs (v : Int32) : Int32 := sm (fun k => if (v >>> (nI k &&& 31)) &&& 1 = 1 then 1 else 0) 8
theorem bc_all : ∀ m : Fin 256, bcE (nI m.val) = bs (nI m.val) := by decide +kernel
theorem bc_nI (y : Int32) : y = nI y.toBitVec.toNat := by
  apply Int32.toBitVec_inj.mp
  unfold nI
  simp
theorem bc_and {m : Nat} (hm : m < 256) (x : Int32) : ∃ p, p < 256 ∧ nI m &&& x = nI p := by
  refine ⟨(nI m &&& x).toBitVec.toNat, ?_, bc_nI _⟩
  have e : (nI m &&& x).toBitVec.toNat = (nI m).toBitVec.toNat &&& x.toBitVec.toNat := by simp
  have e2 : (nI m).toBitVec.toNat = m := by
    unfold nI
    simp
    omega
  rw [e, e2]
  exact Nat.lt_of_le_of_lt Nat.and_le_left hm
def ub (σ : St) (d : Nat) : Int32 := if gR σ 2 3 d = 0 then 0 else gV σ 104 d 0 &&& gV σ 112 (gR σ 2 3 d - 1) 0
section BC
variable {A : Ad} {σ σ' : St} {X : Cx} {px : String → GM → Prop} {d : Nat}
theorem q_bc {post : Int32 → GM → Prop} {v : Int32} {g : GM} (h : ∃ m, m < 256 ∧ v = nI m) : w_J6_bitCount_0f7a4 X post px v g = post (bs v) g := by
  obtain ⟨m, hm, rfl⟩ := h
  rw [← bc_all ⟨m, hm⟩]
  rfl
theorem ub_256 (P : PI σ) : ∃ m, m < 256 ∧ ub σ d = nI m := by
  unfold ub
  by_cases z : gR σ 2 3 d = 0
  · rw [if_pos z]; exact ⟨0, by decide, rfl⟩
  · rw [if_neg z]
    obtain ⟨m, hm, e⟩ := P.2.2.1.2.2.1.2 d
    rw [e]
    exact bc_and hm _
theorem q_ub {post : Int32 → GM → Prop} (W : WF A σ) (P : PI σ) (hd : d < gL σ 2) : w_X2_usableItems X post px (some (A.1 2 d)) (hp A σ) = post (ub σ d) (hp A σ) := by
  unfold w_X2_usableItems w_X2_usableItems_b26 ub
  rw [eR_2_3 W hd]
  by_cases z : gR σ 2 3 d = 0
  · rw [if_pos (by rw [z]; rfl), if_pos z]
  · obtain ⟨m, hm⟩ : ∃ m, gR σ 2 3 d = m + 1 := ⟨gR σ 2 3 d - 1, by omega⟩
    have hml : m < gL σ 1 := by
      have h1 : gR σ 2 3 d ≤ gL σ 1 := W.2.2 2 3 d hd
      omega
    obtain ⟨o, hoo, hol, -, -, o3⟩ := q_offer W P hml
    rw [if_neg (hr_nn z), if_neg z, e_GetI W hd hok_2_5, eR_2_3 W hd, hm, hr_s, eR_1_2 W hml, hoo, hr_s, e_GetI W hol hok_5_2, o3, Nat.add_sub_cancel, (P.2.2.1.1 d hd).2.2.2.2.1]
theorem q_sel {post : Int32 → GM → Prop} {k : Int32} (W0 : WF A σ) (P : PI σ) (M : MEq σ σ') (W : WF A σ') (Q : P0 σ') (hd : d < gL σ 2) (hb : (gV σ 104 d 0 >>> (k &&& 31)) &&& 1 = 1) : w_X8_sells X post px (some (A.1 8 0)) (nI d) k (hp A σ') = post (if (ub σ d >>> (k &&& 31)) &&& 1 = 1 then 1 else 0) (hp A σ') := by
  have h10 : gL σ 1 ≤ 10 := P.2.1.2.2.2.2.2.2.2.2.1
  have h12 : gL σ 2 ≤ 12 := P.2.1.2.2.2.2.2.2.2.1
  have hdv : vp_in (nI d) 12 := vp_in_nI (by omega) (by omega)
  have hdc : (nI d).toNatClampNeg = d := nI_clamp (by omega)
  have hz : ¬ ((0 : Int32) >>> (k &&& 31)) &&& 1 = 1 := by
    have : ((0 : Int32) >>> (k &&& 31)) = 0 := Int32.toBitVec_inj.mp (by simp)
    rw [this]; decide
  unfold w_X8_sells w_X8_sells_b32 w_X8_sells_b33 w_X8_has w_X8_has_b14 ub
  rw [s8_3 W Q, e_Ald W (sL_103 Q) hak_103 (by decide), sN_103 Q, p_and hdv, hdc, M.2.1 103 _ _ (by decide)]
  rcases q_has W0 P hd with ⟨hR, hm⟩ | ⟨q, hq, hR, hm⟩
  · rw [hm, if_pos rfl, p_and nb0, hR, if_pos rfl, if_neg hz]
  · have hqv : vp_in (nI q) 10 := vp_in_nI (by omega) (by omega)
    have hqc : (nI q).toNatClampNeg = q := nI_clamp (by omega)
    rw [hm, if_neg (fun z => (nI_nm1 (show q ≤ 40 by omega)).mp z), s8_12 W Q, s8_3 W Q, e_Ald W (sL_103 Q) hak_103 (by decide), sN_103 Q, p_and hdv, hdc, M.2.1 103 _ _ (by decide), hm, e_Ald W (sL_112 Q) hak_112 (by decide), sN_112 Q, p_and hqv, hqc, M.2.1 112 _ _ (by decide), hR, if_neg (Nat.succ_ne_zero q), Nat.add_sub_cancel]
    by_cases c : (gV σ 112 q 0 >>> (k &&& 31)) &&& 1 = 1
    · rw [if_pos c, p_and nb1]
      try dsimp only
      rw [if_neg (by decide), p_and nb1, if_pos (by rw [band1]; exact ⟨hb, c⟩)]
    · rw [if_neg c, p_and nb0]
      try dsimp only
      rw [if_pos rfl, p_and nb0, if_neg (by rw [band1]; exact fun z => c z.2)]
theorem ub_b {k : Int32} (h : (ub σ d >>> (k &&& 31)) &&& 1 = 1) : (gV σ 104 d 0 >>> (k &&& 31)) &&& 1 = 1 := by
  unfold ub at h
  by_cases z : gR σ 2 3 d = 0
  · rw [if_pos z] at h
    have : ((0 : Int32) >>> (k &&& 31)) = 0 := Int32.toBitVec_inj.mp (by simp)
    rw [this] at h
    exact absurd h (by decide)
  · rw [if_neg z, band1] at h
    exact h.1
/-- the reference's inner loop -/
theorem q_ui {post : UInt32 → GM → Prop} {K : Option Nat → Int32 → Int32 → Int32 → GM → Prop} {a c : Int32} (W0 : WF A σ) (P : PI σ) (M : MEq σ σ') (W : WF A σ') (Q : P0 σ') (hd : d < gL σ 2) : ∀ (n F k : Nat), k + n = 8 → n < F → w_X8_usedShare_l17 X post px K F (some (A.1 8 0)) (a + sm (fun k => if (gV σ 104 d 0 >>> (nI k &&& 31)) &&& 1 = 1 then 1 else 0) k) (c + sm (fun k => if (ub σ d >>> (nI k &&& 31)) &&& 1 = 1 then 1 else 0) k) (nI d) (nI k) (hp A σ') = K (some (A.1 8 0)) (a + bs (gV σ 104 d 0)) (c + bs (ub σ d)) (nI (d + 1)) (hp A σ') := by
  have h12 : gL σ 2 ≤ 12 := P.2.1.2.2.2.2.2.2.2.1
  have hdv : vp_in (nI d) 12 := vp_in_nI (by omega) (by omega)
  have hdc : (nI d).toNatClampNeg = d := nI_clamp (by omega)
  intro n
  induction n with
  | zero =>
    intro F k hk hF
    obtain ⟨F, rfl⟩ : ∃ F', F = F' + 1 := ⟨F - 1, by omega⟩
    have hk8 : k = 8 := by omega
    rw [w_X8_usedShare_l17, if_pos (show (8 : Int32) ≤ nI k from nI_le (a := 8) (b := k) (by omega) (by omega)), nI_1, hk8]
    rfl
  | succ n ih =>
    intro F k hk hF
    obtain ⟨F, rfl⟩ : ∃ F', F = F' + 1 := ⟨F - 1, by omega⟩
    have ih' := ih F (k + 1) (by omega) (by omega)
    rw [sm, sm] at ih'
    rw [w_X8_usedShare_l17, if_neg (show ¬ (8 : Int32) ≤ nI k from nI_ge (a := k) (b := 8) (by omega) (by omega)), s8_4 W Q, e_Ald W (sL_104 Q) hak_104 (by decide), sN_104 Q, p_and hdv, hdc, M.2.1 104 _ _ (by decide)]
    unfold w_X8_has w_X8_has_b14 w_X8_usedShare_b44 w_X8_usedShare_b75 w_X8_usedShare_b76 w_X8_has w_X8_has_b14
    by_cases b1 : (gV σ 104 d 0 >>> (nI k &&& 31)) &&& 1 = 1
    · rw [if_pos b1, p_and nb1]
      try dsimp only
      rw [if_neg (by decide), s8_4 W Q, e_Ald W (sL_104 Q) hak_104 (by decide), sN_104 Q, p_and hdv, hdc, M.2.1 104 _ _ (by decide), if_pos b1, p_and nb1]
      try dsimp only
      rw [if_neg (by decide), e_Is' W (sL_8 Q) hcl_8, q_sel W0 P M W Q hd b1]
      rw [if_pos b1] at ih'
      try dsimp only
      by_cases b2 : (ub σ d >>> (nI k &&& 31)) &&& 1 = 1
      · rw [if_pos b2] at ih' ⊢
        rw [if_neg (by decide), Int32.add_assoc, Int32.add_assoc, nI_1]
        exact ih'
      · rw [if_neg b2] at ih' ⊢
        rw [if_pos rfl, Int32.add_assoc, Int32.add_assoc, nI_1]
        exact ih'
    · have b2 : ¬ (ub σ d >>> (nI k &&& 31)) &&& 1 = 1 := fun z => b1 (ub_b z)
      rw [if_neg b1, if_neg b2] at ih'
      rw [if_neg b1, p_and nb0]
      try dsimp only
      rw [if_pos rfl, s8_4 W Q, e_Ald W (sL_104 Q) hak_104 (by decide), sN_104 Q, p_and hdv, hdc, M.2.1 104 _ _ (by decide), if_neg b1, p_and nb0]
      try dsimp only
      rw [if_pos rfl, Int32.add_assoc, Int32.add_assoc, nI_1]
      exact ih'
def uS (σ : St) (n : Nat) : Int32 := sm (fun d => bs (gV σ 104 d 0)) n
def uT (σ : St) (n : Nat) : Int32 := sm (fun d => bs (ub σ d)) n
theorem q_ucl {post : UInt32 → GM → Prop} (W : WF A σ) (P : PI σ) : ∀ (k f i : Nat), i + k = gL σ 2 → k < f → w_X7_usedShare_l6 X post px f (some (A.1 7 0)) (uS σ i) (uT σ i) (nI i) (hp A σ) = if uS σ (gL σ 2) = 0 then px "java/lang/ArithmeticException" (hp A σ) else vf_n32 (FP.fdiv (FP.i2f (uT σ (gL σ 2))) (FP.i2f (uS σ (gL σ 2)))) ∧ post (FP.fdiv (FP.i2f (uT σ (gL σ 2))) (FP.i2f (uS σ (gL σ 2)))) (hp A σ) := by
  have Q := P.1
  have h12 : gL σ 2 ≤ 12 := P.2.1.2.2.2.2.2.2.2.1
  have hL : Lst σ 30 (gL σ 2) := P.2.2.2.2.2.2.2.1
  intro k
  induction k with
  | zero =>
    intro f i hi hf
    obtain ⟨f, rfl⟩ : ∃ f', f = f' + 1 := ⟨f - 1, by omega⟩
    rw [w_X7_usedShare_l6, s7_0 W Q, e_Is' W hL.1 hcl_30, l_size W (Or.inl rfl) hL, if_pos (nI_le (by omega) (by omega)), show i = gL σ 2 by omega]
  | succ k ih =>
    intro f i hi hf
    obtain ⟨f, rfl⟩ : ∃ f', f = f' + 1 := ⟨f - 1, by omega⟩
    have hil : i < gL σ 2 := by omega
    have ih' := ih f (i + 1) (by omega) (by omega)
    have ho : ∃ m, m < 256 ∧ gV σ 2 5 i = nI m := by
      rw [(P.2.2.1.1 i hil).2.2.2.2.1]; exact P.2.2.1.2.2.1.2 i
    rw [w_X7_usedShare_l6, s7_0 W Q, e_Is' W hL.1 hcl_30, l_size W (Or.inl rfl) hL, if_neg (nI_ge (by omega) (by omega))]
    rw [s7_0 W Q, e_Is' W hL.1 hcl_30, l_get W (Or.inl rfl) hL hil]
    rw [show hE (30 + 10) = 2 from rfl, e_Is' W hil hcl_2, e_GetI W hil hok_2_5, q_bc ho, e_Is' W hil hcl_2, q_ub W P hil, q_bc (ub_256 P), nI_1, (P.2.2.1.1 i hil).2.2.2.2.1]
    exact ih'
theorem q_uml {post : UInt32 → GM → Prop} (W0 : WF A σ) (P : PI σ) (M : MEq σ σ') (W : WF A σ') (Q : P0 σ') : ∀ (k f i : Nat), i + k = gL σ 2 → k < f → w_X8_usedShare_l6 X post px f (some (A.1 8 0)) (uS σ i) (uT σ i) (nI i) (hp A σ') = if uS σ (gL σ 2) = 0 then w_X8_usedShare_b100 X post px (some (A.1 8 0)) (uS σ (gL σ 2)) (uT σ (gL σ 2)) (1 : Int32) (some (A.1 8 0)) (hp A σ') else w_X8_usedShare_b100 X post px (some (A.1 8 0)) (uS σ (gL σ 2)) (uT σ (gL σ 2)) (0 : Int32) (some (A.1 8 0)) (hp A σ') := by
  have h12 : gL σ 2 ≤ 12 := P.2.1.2.2.2.2.2.2.2.1
  have h6 : gV σ' 8 6 0 = nI (gL σ 2) := by rw [M.2.2 6 (by decide)]; exact P.2.1.1.1
  intro k
  induction k with
  | zero =>
    intro f i hi hf
    obtain ⟨f, rfl⟩ : ∃ f', f = f' + 1 := ⟨f - 1, by omega⟩
    rw [w_X8_usedShare_l6, e_GetI W (sL_8 Q) hok_8_6, h6, if_pos (nI_le (by omega) (by omega)), show i = gL σ 2 by omega]
  | succ k ih =>
    intro f i hi hf
    obtain ⟨f, rfl⟩ : ∃ f', f = f' + 1 := ⟨f - 1, by omega⟩
    have hil : i < gL σ 2 := by omega
    have ih' := ih f (i + 1) (by omega) (by omega)
    have hu := q_ui (X := X) (px := px) (post := post) (K := w_X8_usedShare_l6 X post px f) (a := uS σ i) (c := uT σ i) W0 P M W Q hil 8 3000 0 (by omega) (by omega)
    rw [sm, sm, Int32.add_zero, Int32.add_zero] at hu
    rw [w_X8_usedShare_l6, e_GetI W (sL_8 Q) hok_8_6, h6, if_neg (nI_ge (by omega) (by omega))]
    exact hu.trans ih'
end BC
section CS
variable {X : Cx} {xs : Nat → Int32} {Ls b i : Nat} {v1 v2 v3 v4 : Option Nat} {g : GM}
set_option maxHeartbeats 4000000 in
theorem p_43 (hin : ∀ j : Nat, j < 7 → vp_in (Int32.ofNat (7 * i) + Int32.ofNat j) Ls) (h : LIv X v1 v2 v3 v4 g) : w_law_43 X xs Ls b (LIv X v1 v2 v3 v4) v1 v2 v3 v4 (Int32.ofNat (7 * i)) g := by
  obtain ⟨A, σ, W, hx, P, rfl, rfl, rfl, rfl, rfl⟩ := h
  have Q := P.1
  have h12 : gL σ 2 ≤ 12 := P.2.1.2.2.2.2.2.2.2.1
  unfold w_law_43
  have ho := fun (px : String → GM → Prop) (post : UInt32 → GM → Prop) => q_ucl (X := X) (px := px) (post := post) W P (gL σ 2) 3000 0 (by omega) (by omega)
  have hm0 := fun (px : String → GM → Prop) (post : UInt32 → GM → Prop) => q_uml (X := X) (px := px) (post := post) (σ := σ) (σ' := σ) W P MEq.rf W Q (gL σ 2) 3000 0 (by omega) (by omega)
  have hm1 := fun (x : UInt64) (px : String → GM → Prop) (post : UInt32 → GM → Prop) => q_uml (X := X) (px := px) (post := post) (σ := σ) (σ' := sD σ x) W P MEq.rf.sD W Q (gL σ 2) 3000 0 (by omega) (by omega)
  have z1 : uS σ 0 = 0 := rfl
  have z2 : uT σ 0 = 0 := rfl
  rw [z1, z2, show nI 0 = 0 from rfl] at ho hm0 hm1
  by_cases h0 : uS σ (gL σ 2) = 0
  · simp (config := { maxSteps := 1000000 }) only [↓w_law_43.eq_1, ↓w_L_law_b2914.eq_1, ↓w_L_law_b2912.eq_1, ↓w_L_usedShare.eq_1, ↓w_X7_usedShare.eq_1, ↓w_X8_usedShare_b119.eq_1, ↓w_X8_usedShare_b100.eq_1, ↓w_X8_usedShare_b76.eq_1, ↓w_X8_usedShare_b75.eq_1, ↓w_X8_usedShare_b44.eq_1, ↓w_X8_usedShare.eq_1, ↓w_X8_thrown.eq_1, true_and, and_true, if_true, if_false, reduceIte, and_self, false_and, and_false, or_false, false_or, true_or, or_true, not_true_eq_false, not_false_eq_true, ne_eq, reduceCtorEq, Nat.reduceLT, Nat.reduceEqDiff, Nat.reduceLeDiff, Nat.reduceAdd, eq_self, ii_0_1, ii_0_2, ii_0_3, ii_0_4, ii_1_0, ii_1_2, ii_1_3, ii_1_4, il_1, ii_2_0, ii_2_1, ii_2_3, ii_2_4, il_2, ii_3_0, ii_3_1, ii_3_2, ii_3_4, il_3, ii_4_0, ii_4_1, ii_4_2, ii_4_3, il_4, il_0, ie_0_1, ie_0_2, ie_0_3, ie_0_4, ie_0_5, ie_1_0, ie_1_2, ie_1_3, ie_1_4, ie_1_5, ie_2_0, ie_2_1, ie_2_3, ie_2_4, ie_2_5, ie_3_0, ie_3_1, ie_3_2, ie_3_4, ie_3_5, ie_4_0, ie_4_1, ie_4_2, ie_4_3, ie_4_5, ie_5_0, ie_5_1, ie_5_2, ie_5_3, ie_5_4, ↓e_Is', ↓e_GetI, ↓e_GetF, ↓e_PutI, ↓e_PutF, ↓e_PutR, ↓e_Ald, ↓e_Ast, ↓e_Aldq, ↓e_AldJ, ↓e_AstJ, ↓e_AldD, ↓e_AstD, gL_sV, gV_sV, gR_sV, gN_sV, gJ_sV, gD_sV, gL_sR, gV_sR, gR_sR, gN_sR, gJ_sR, gD_sR, gL_sJ, gV_sJ, gR_sJ, gN_sJ, gJ_sJ, gL_sD, gV_sD, gR_sD, gN_sD, gD_sD, hr_0, hr_s, WF_sV, WF_sJ, WF_sD, gL_sF, gV_sF, gR_sF, gN_sF, gL_sG, gV_sG, gR_sG, gN_sG, WF_sF, ↓eR_1_2, ↓eR_1_5, ↓eR_1_6, ↓eR_2_3, ↓eR_3_2, ↓eR_4_1, ↓eR_6_0, ↓eR_8_34, ↓eR_9_0, ↓eR_20_0, ↓eR_22_0, sL_7, sL_8, sL_60, sL_61, sN_60, sN_61, ↓s7_0, ↓s7_1, ↓s7_2, ↓s7_3, ↓s7_4, ↓s7_5, ↓s7_6, sL_100, ↓s8_0, sN_100, sL_101, ↓s8_1, sN_101, sL_102, ↓s8_2, sN_102, sL_103, ↓s8_3, sN_103, sL_104, ↓s8_4, sN_104, sL_105, ↓s8_5, sN_105, sL_107, ↓s8_7, sN_107, sL_108, ↓s8_8, sN_108, sL_109, ↓s8_9, sN_109, sL_110, ↓s8_10, sN_110, sL_111, ↓s8_11, sN_111, sL_112, ↓s8_12, sN_112, sL_113, ↓s8_13, sN_113, sL_114, ↓s8_14, sN_114, sL_115, ↓s8_15, sN_115, sL_116, ↓s8_16, sN_116, sL_117, ↓s8_17, sN_117, sL_118, ↓s8_18, sN_118, sL_119, ↓s8_19, sN_119, sL_120, ↓s8_20, sN_120, sL_127, ↓s8_27, sN_127, sL_128, ↓s8_28, sN_128, sL_129, ↓s8_29, sN_129, sL_130, ↓s8_30, sN_130, sL_132, ↓s8_32, sN_132, P0_sV, P0_sJ, P0_sD, hcl_1, hok_1_0, hok_1_1, hok_1_2, hok_1_3, hok_1_4, hok_1_5, hok_1_6, hok_1_7, hok_1_8, hok_1_9, hok_1_10, hok_1_11, hok_1_12, hok_1_13, hok_1_14, hok_1_15, hcl_2, hok_2_0, hok_2_1, hok_2_2, hok_2_3, hok_2_4, hok_2_5, hcl_3, hok_3_0, hok_3_1, hok_3_2, hcl_4, hok_4_0, hok_4_1, hok_4_2, hok_4_3, hcl_5, hok_5_0, hok_5_1, hok_5_2, hcl_6, hok_6_0, hok_6_1, hcl_7, hok_7_0, hok_7_1, hok_7_2, hok_7_3, hok_7_4, hok_7_5, hok_7_6, hok_7_7, hok_7_8, hok_7_9, hok_7_10, hok_7_11, hok_7_12, hcl_8, hok_8_0, hok_8_1, hok_8_2, hok_8_3, hok_8_4, hok_8_5, hok_8_6, hok_8_7, hok_8_8, hok_8_9, hok_8_10, hok_8_11, hok_8_12, hok_8_13, hok_8_14, hok_8_15, hok_8_16, hok_8_17, hok_8_18, hok_8_19, hok_8_20, hok_8_21, hok_8_22, hok_8_23, hok_8_24, hok_8_25, hok_8_26, hok_8_27, hok_8_28, hok_8_29, hok_8_30, hok_8_31, hok_8_32, hok_8_33, hok_8_34, hok_8_35, hok_8_36, hcl_9, hok_9_0, hok_9_1, hok_9_2, hok_9_3, hcl_20, hok_20_0, hok_20_1, hcl_22, hok_22_0, hok_22_1, hcl_30, hok_30_0, hok_30_1, hok_30_2, hcl_31, hok_31_0, hok_31_1, hok_31_2, hcl_32, hok_32_0, hok_32_1, hok_32_2, hcl_33, hok_33_0, hok_33_1, hok_33_2, hak_16, hak_21, hak_23, hak_40, hak_41, hak_42, hak_43, hak_50, hak_60, hak_61, hak_205, hak_227, hak_100, hak_101, hak_102, hak_103, hak_104, hak_105, hak_107, hak_108, hak_109, hak_110, hak_111, hak_112, hak_113, hak_114, hak_115, hak_116, hak_117, hak_118, hak_119, hak_120, hak_127, hak_128, hak_129, hak_130, hak_132, ↓eL_16, ↓eL_21, ↓eL_23, ↓eL_50, W, Q, cmpS, nb0, nb1, ↓ho, ↓hm0, ↓hm1, ↓if_pos h0, h0]
    refine LIv_of ?_ hx ?_
    · exact W
    · exact P
  · have e0 := fl_div (a := uT σ (gL σ 2)) h0
    have e1 := fl_f2d (fl_fin (a := uT σ (gL σ 2)) h0)
    have e2 := fl_cmp (fl_fin (a := uT σ (gL σ 2)) h0)
    simp (config := { maxSteps := 1000000 }) only [↓w_law_43.eq_1, ↓w_L_law_b2914.eq_1, ↓w_L_law_b2912.eq_1, ↓w_L_usedShare.eq_1, ↓w_X7_usedShare.eq_1, ↓w_X8_usedShare_b119.eq_1, ↓w_X8_usedShare_b100.eq_1, ↓w_X8_usedShare_b76.eq_1, ↓w_X8_usedShare_b75.eq_1, ↓w_X8_usedShare_b44.eq_1, ↓w_X8_usedShare.eq_1, ↓w_X8_thrown.eq_1, true_and, and_true, if_true, if_false, reduceIte, and_self, false_and, and_false, or_false, false_or, true_or, or_true, not_true_eq_false, not_false_eq_true, ne_eq, reduceCtorEq, Nat.reduceLT, Nat.reduceEqDiff, Nat.reduceLeDiff, Nat.reduceAdd, eq_self, ii_0_1, ii_0_2, ii_0_3, ii_0_4, ii_1_0, ii_1_2, ii_1_3, ii_1_4, il_1, ii_2_0, ii_2_1, ii_2_3, ii_2_4, il_2, ii_3_0, ii_3_1, ii_3_2, ii_3_4, il_3, ii_4_0, ii_4_1, ii_4_2, ii_4_3, il_4, il_0, ie_0_1, ie_0_2, ie_0_3, ie_0_4, ie_0_5, ie_1_0, ie_1_2, ie_1_3, ie_1_4, ie_1_5, ie_2_0, ie_2_1, ie_2_3, ie_2_4, ie_2_5, ie_3_0, ie_3_1, ie_3_2, ie_3_4, ie_3_5, ie_4_0, ie_4_1, ie_4_2, ie_4_3, ie_4_5, ie_5_0, ie_5_1, ie_5_2, ie_5_3, ie_5_4, ↓e_Is', ↓e_GetI, ↓e_GetF, ↓e_PutI, ↓e_PutF, ↓e_PutR, ↓e_Ald, ↓e_Ast, ↓e_Aldq, ↓e_AldJ, ↓e_AstJ, ↓e_AldD, ↓e_AstD, gL_sV, gV_sV, gR_sV, gN_sV, gJ_sV, gD_sV, gL_sR, gV_sR, gR_sR, gN_sR, gJ_sR, gD_sR, gL_sJ, gV_sJ, gR_sJ, gN_sJ, gJ_sJ, gL_sD, gV_sD, gR_sD, gN_sD, gD_sD, hr_0, hr_s, WF_sV, WF_sJ, WF_sD, gL_sF, gV_sF, gR_sF, gN_sF, gL_sG, gV_sG, gR_sG, gN_sG, WF_sF, ↓eR_1_2, ↓eR_1_5, ↓eR_1_6, ↓eR_2_3, ↓eR_3_2, ↓eR_4_1, ↓eR_6_0, ↓eR_8_34, ↓eR_9_0, ↓eR_20_0, ↓eR_22_0, sL_7, sL_8, sL_60, sL_61, sN_60, sN_61, ↓s7_0, ↓s7_1, ↓s7_2, ↓s7_3, ↓s7_4, ↓s7_5, ↓s7_6, sL_100, ↓s8_0, sN_100, sL_101, ↓s8_1, sN_101, sL_102, ↓s8_2, sN_102, sL_103, ↓s8_3, sN_103, sL_104, ↓s8_4, sN_104, sL_105, ↓s8_5, sN_105, sL_107, ↓s8_7, sN_107, sL_108, ↓s8_8, sN_108, sL_109, ↓s8_9, sN_109, sL_110, ↓s8_10, sN_110, sL_111, ↓s8_11, sN_111, sL_112, ↓s8_12, sN_112, sL_113, ↓s8_13, sN_113, sL_114, ↓s8_14, sN_114, sL_115, ↓s8_15, sN_115, sL_116, ↓s8_16, sN_116, sL_117, ↓s8_17, sN_117, sL_118, ↓s8_18, sN_118, sL_119, ↓s8_19, sN_119, sL_120, ↓s8_20, sN_120, sL_127, ↓s8_27, sN_127, sL_128, ↓s8_28, sN_128, sL_129, ↓s8_29, sN_129, sL_130, ↓s8_30, sN_130, sL_132, ↓s8_32, sN_132, P0_sV, P0_sJ, P0_sD, hcl_1, hok_1_0, hok_1_1, hok_1_2, hok_1_3, hok_1_4, hok_1_5, hok_1_6, hok_1_7, hok_1_8, hok_1_9, hok_1_10, hok_1_11, hok_1_12, hok_1_13, hok_1_14, hok_1_15, hcl_2, hok_2_0, hok_2_1, hok_2_2, hok_2_3, hok_2_4, hok_2_5, hcl_3, hok_3_0, hok_3_1, hok_3_2, hcl_4, hok_4_0, hok_4_1, hok_4_2, hok_4_3, hcl_5, hok_5_0, hok_5_1, hok_5_2, hcl_6, hok_6_0, hok_6_1, hcl_7, hok_7_0, hok_7_1, hok_7_2, hok_7_3, hok_7_4, hok_7_5, hok_7_6, hok_7_7, hok_7_8, hok_7_9, hok_7_10, hok_7_11, hok_7_12, hcl_8, hok_8_0, hok_8_1, hok_8_2, hok_8_3, hok_8_4, hok_8_5, hok_8_6, hok_8_7, hok_8_8, hok_8_9, hok_8_10, hok_8_11, hok_8_12, hok_8_13, hok_8_14, hok_8_15, hok_8_16, hok_8_17, hok_8_18, hok_8_19, hok_8_20, hok_8_21, hok_8_22, hok_8_23, hok_8_24, hok_8_25, hok_8_26, hok_8_27, hok_8_28, hok_8_29, hok_8_30, hok_8_31, hok_8_32, hok_8_33, hok_8_34, hok_8_35, hok_8_36, hcl_9, hok_9_0, hok_9_1, hok_9_2, hok_9_3, hcl_20, hok_20_0, hok_20_1, hcl_22, hok_22_0, hok_22_1, hcl_30, hok_30_0, hok_30_1, hok_30_2, hcl_31, hok_31_0, hok_31_1, hok_31_2, hcl_32, hok_32_0, hok_32_1, hok_32_2, hcl_33, hok_33_0, hok_33_1, hok_33_2, hak_16, hak_21, hak_23, hak_40, hak_41, hak_42, hak_43, hak_50, hak_60, hak_61, hak_205, hak_227, hak_100, hak_101, hak_102, hak_103, hak_104, hak_105, hak_107, hak_108, hak_109, hak_110, hak_111, hak_112, hak_113, hak_114, hak_115, hak_116, hak_117, hak_118, hak_119, hak_120, hak_127, hak_128, hak_129, hak_130, hak_132, ↓eL_16, ↓eL_21, ↓eL_23, ↓eL_50, W, Q, cmpS, nb0, nb1, ↓ho, ↓hm0, ↓hm1, ↓if_neg h0, e0, e1, e2]
    refine LIv_of ?_ hx ?_
    · exact W
    · exact P
end CS
