/-! calls that change a store, 3: devices and builds are added, crashes -/
theorem cv_59 {σ τ : St} (hL : ∀ k, k ≠ 59 → gL τ k = gL σ k) (hV : ∀ k f i, k ≠ 59 → gV τ k f i = gV σ k f i) (hR : ∀ k f i, k ≠ 59 → gR τ k f i = gR σ k f i) : cv τ = cv σ := by
  have hk : ∀ k, vk k = true → k ≠ 59 := fun k h z => by rw [z] at h; exact absurd h (by decide)
  exact cv_of (fun k h => hL k (hk k h)) (fun k f i h => hV k f i (hk k h)) (fun k f i h => hR k f i (hk k h))
theorem cv_5 {σ τ : St} (hL : ∀ k, k ≠ 5 → gL τ k = gL σ k) (hV : ∀ k f i, k ≠ 5 → gV τ k f i = gV σ k f i) (hR : ∀ k f i, k ≠ 5 → gR τ k f i = gR σ k f i) : cv τ = cv σ := by
  have hk : ∀ k, vk k = true → k ≠ 5 := fun k h z => by rw [z] at h; exact absurd h (by decide)
  exact cv_of (fun k h => hL k (hk k h)) (fun k f i h => hV k f i (hk k h)) (fun k f i h => hR k f i (hk k h))
theorem P0_59 {σ : St} {m : Nat} (Q : P0 σ) : P0 (sW σ 59 m) := by
  refine ⟨Q.1, Q.2.1, fun f hf => ?_, Q.2.2.2⟩
  obtain ⟨q1, q2, q3⟩ := Q.2.2.1 f hf
  refine ⟨?_, q2, ?_⟩
  · rw [gL_sW, if_neg (by omega)]; exact q1
  · rw [gN_sW, if_neg (fun z => by omega)]; exact q3
theorem PI_59 {σ : St} {m : Nat} (P : PI σ) : PI (sW σ 59 m) := ⟨P0_59 P.1, P.2⟩
def ar4 (σ : St) (x0 x1 x2 x3 : Int32) : St := sV (sV (sV (sV (sW σ 59 4) 59 0 (gL σ 59) x0) 59 1 (gL σ 59) x1) 59 2 (gL σ 59) x2) 59 3 (gL σ 59) x3
def ar6 (σ : St) (x0 x1 x2 x3 x4 x5 : Int32) : St := sV (sV (sV (sV (sV (sV (sW σ 59 6) 59 0 (gL σ 59) x0) 59 1 (gL σ 59) x1) 59 2 (gL σ 59) x2) 59 3 (gL σ 59) x3) 59 4 (gL σ 59) x4) 59 5 (gL σ 59) x5
section AR
variable {σ : St} {A : Ad} {X : Cx} {o : Option Nat} {g : GM} {px : String → GM → Prop} {post : Int32 → GM → Prop} {n : Nat} {x0 x1 x2 x3 x4 x5 : Int32}
theorem PI_ar4 (P : PI σ) : PI (ar4 σ x0 x1 x2 x3) := ⟨(P0_59 (m := 4) P.1 : P0 (sW σ 59 4)), P.2⟩
theorem PI_ar6 (P : PI σ) : PI (ar6 σ x0 x1 x2 x3 x4 x5) := ⟨(P0_59 (m := 6) P.1 : P0 (sW σ 59 6)), P.2⟩
theorem cv_ar4 : cv (ar4 σ x0 x1 x2 x3) = cv σ := by
  refine cv_59 (fun k h => ?_) (fun k f i h => ?_) (fun k f i h => ?_)
  · show gL (sW σ 59 4) k = gL σ k
    rw [gL_sW, if_neg h]
  · unfold ar4
    simp only [gV_sV, gV_sW, h, false_and, if_false]
  · show gR (sW σ 59 4) k f i = gR σ k f i
    rw [gR_sW, if_neg (fun z => h z.1)]
theorem cv_ar6 : cv (ar6 σ x0 x1 x2 x3 x4 x5) = cv σ := by
  refine cv_59 (fun k h => ?_) (fun k f i h => ?_) (fun k f i h => ?_)
  · show gL (sW σ 59 6) k = gL σ k
    rw [gL_sW, if_neg h]
  · unfold ar6
    simp only [gV_sV, gV_sW, h, false_and, if_false]
  · show gR (sW σ 59 6) k f i = gR σ k f i
    rw [gR_sW, if_neg (fun z => h z.1)]
theorem ar_in {k m i : Nat} {x : Int32} (h : k < m) (hm : m < 100) (e : x = nI k) : vp_in x m := by rw [e]; exact vp_in_nI h (by omega)
theorem q_ar4 {F : Nat → GM → Prop} (S : SD X o σ g) (P : PI σ) (kk : ∀ (A : Ad) (i : Nat), WF A (ar4 σ x0 x1 x2 x3) → hX X A → o = some (A.1 7 0) → i < gL (ar4 σ x0 x1 x2 x3) 59 → gN (ar4 σ x0 x1 x2 x3) 59 i = 4 → gV (ar4 σ x0 x1 x2 x3) 59 0 i = x0 → gV (ar4 σ x0 x1 x2 x3) 59 1 i = x1 → gV (ar4 σ x0 x1 x2 x3) 59 2 i = x2 → gV (ar4 σ x0 x1 x2 x3) 59 3 i = x3 → F (A.1 59 i) (hp A (ar4 σ x0 x1 x2 x3))) :
    wNew X g (.inl (0, ((4 : Int32)).toNatClampNeg, .inl (fun _ => 0))) (fun q g1 => wAst g1 (some q) (0 : Int32) 0 x0 (fun g2 => wAst g2 (some q) (1 : Int32) 0 x1 (fun g3 => wAst g3 (some q) (2 : Int32) 0 x2 (fun g4 => wAst g4 (some q) (3 : Int32) 0 x3 (fun g5 => F q g5))))) := by
  obtain ⟨A, W, hx, rfl, rfl⟩ := S
  refine e_NewA 59 hx W rfl (by decide) (fun A1 W1 hx1 hN => ?_)
  rw [show ((4 : Int32)).toNatClampNeg = 4 from rfl] at W1 ⊢
  have hi : gL σ 59 < gL (sW σ 59 4) 59 := by rw [gL_sW, if_pos rfl]; omega
  have hn : gN (sW σ 59 4) 59 (gL σ 59) = 4 := by rw [gN_sW, if_pos ⟨rfl, rfl⟩]
  have v0 : vp_in (0 : Int32) 4 := vp_in_nI (n := 0) (by omega) (by omega)
  have v1 : vp_in (1 : Int32) 4 := vp_in_nI (n := 1) (by omega) (by omega)
  have v2 : vp_in (2 : Int32) 4 := vp_in_nI (n := 2) (by omega) (by omega)
  have v3 : vp_in (3 : Int32) 4 := vp_in_nI (n := 3) (by omega) (by omega)
  have c0 : (0 : Int32).toNatClampNeg = 0 := rfl
  have c1 : (1 : Int32).toNatClampNeg = 1 := rfl
  have c2 : (2 : Int32).toNatClampNeg = 2 := rfl
  have c3 : (3 : Int32).toNatClampNeg = 3 := rfl
  have W2 : WF A1 (sV (sW σ 59 4) 59 0 (gL σ 59) x0) := by rw [WF_sV]; exact W1
  have W3 : WF A1 (sV (sV (sW σ 59 4) 59 0 (gL σ 59) x0) 59 1 (gL σ 59) x1) := by rw [WF_sV, WF_sV]; exact W1
  have W4 : WF A1 (sV (sV (sV (sW σ 59 4) 59 0 (gL σ 59) x0) 59 1 (gL σ 59) x1) 59 2 (gL σ 59) x2) := by rw [WF_sV, WF_sV, WF_sV]; exact W1
  rw [e_Ast W1 hi hak_59 (by decide), hn, p_and v0, c0, e_Ast W2 hi hak_59 (by decide), show gN (sV (sW σ 59 4) 59 0 (gL σ 59) x0) 59 (gL σ 59) = 4 from hn, p_and v1, c1, e_Ast W3 hi hak_59 (by decide), show gN (sV (sV (sW σ 59 4) 59 0 (gL σ 59) x0) 59 1 (gL σ 59) x1) 59 (gL σ 59) = 4 from hn, p_and v2, c2, e_Ast W4 hi hak_59 (by decide), show gN (sV (sV (sV (sW σ 59 4) 59 0 (gL σ 59) x0) 59 1 (gL σ 59) x1) 59 2 (gL σ 59) x2) 59 (gL σ 59) = 4 from hn, p_and v3, c3]
  refine kk A1 (gL σ 59) W1 hx1 (by rw [hN.1 7 0 (sL_7 P.1)]) hi hn ?_ ?_ ?_ ?_ <;> unfold ar4 <;> simp (config := { maxSteps := 1000000 }) only [gV_sV, true_and, and_true, if_true, if_false, reduceIte, and_self, false_and, and_false, or_false, false_or, true_or, or_true, not_true_eq_false, not_false_eq_true, ne_eq, reduceCtorEq, Nat.reduceLT, Nat.reduceEqDiff, Nat.reduceLeDiff, Nat.reduceAdd, eq_self, ii_0_1, ii_0_2, ii_0_3, ii_0_4, ii_1_0, ii_1_2, ii_1_3, ii_1_4, il_1, ii_2_0, ii_2_1, ii_2_3, ii_2_4, il_2, ii_3_0, ii_3_1, ii_3_2, ii_3_4, il_3, ii_4_0, ii_4_1, ii_4_2, ii_4_3, il_4, il_0, ie_0_1, ie_0_2, ie_0_3, ie_0_4, ie_0_5, ie_1_0, ie_1_2, ie_1_3, ie_1_4, ie_1_5, ie_2_0, ie_2_1, ie_2_3, ie_2_4, ie_2_5, ie_3_0, ie_3_1, ie_3_2, ie_3_4, ie_3_5, ie_4_0, ie_4_1, ie_4_2, ie_4_3, ie_4_5, ie_5_0, ie_5_1, ie_5_2, ie_5_3, ie_5_4]
theorem q_ar6 {F : Nat → GM → Prop} (S : SD X o σ g) (P : PI σ) (kk : ∀ (A : Ad) (i : Nat), WF A (ar6 σ x0 x1 x2 x3 x4 x5) → hX X A → o = some (A.1 7 0) → i < gL (ar6 σ x0 x1 x2 x3 x4 x5) 59 → gN (ar6 σ x0 x1 x2 x3 x4 x5) 59 i = 6 → gV (ar6 σ x0 x1 x2 x3 x4 x5) 59 0 i = x0 → gV (ar6 σ x0 x1 x2 x3 x4 x5) 59 1 i = x1 → gV (ar6 σ x0 x1 x2 x3 x4 x5) 59 2 i = x2 → gV (ar6 σ x0 x1 x2 x3 x4 x5) 59 3 i = x3 → gV (ar6 σ x0 x1 x2 x3 x4 x5) 59 4 i = x4 → gV (ar6 σ x0 x1 x2 x3 x4 x5) 59 5 i = x5 → F (A.1 59 i) (hp A (ar6 σ x0 x1 x2 x3 x4 x5))) :
    wNew X g (.inl (0, ((6 : Int32)).toNatClampNeg, .inl (fun _ => 0))) (fun q g1 => wAst g1 (some q) (0 : Int32) 0 x0 (fun g2 => wAst g2 (some q) (1 : Int32) 0 x1 (fun g3 => wAst g3 (some q) (2 : Int32) 0 x2 (fun g4 => wAst g4 (some q) (3 : Int32) 0 x3 (fun g5 => wAst g5 (some q) (4 : Int32) 0 x4 (fun g6 => wAst g6 (some q) (5 : Int32) 0 x5 (fun g7 => F q g7))))))) := by
  obtain ⟨A, W, hx, rfl, rfl⟩ := S
  refine e_NewA 59 hx W rfl (by decide) (fun A1 W1 hx1 hN => ?_)
  rw [show ((6 : Int32)).toNatClampNeg = 6 from rfl] at W1 ⊢
  have hi : gL σ 59 < gL (sW σ 59 6) 59 := by rw [gL_sW, if_pos rfl]; omega
  have hn : gN (sW σ 59 6) 59 (gL σ 59) = 6 := by rw [gN_sW, if_pos ⟨rfl, rfl⟩]
  have v0 : vp_in (0 : Int32) 6 := vp_in_nI (n := 0) (by omega) (by omega)
  have v1 : vp_in (1 : Int32) 6 := vp_in_nI (n := 1) (by omega) (by omega)
  have v2 : vp_in (2 : Int32) 6 := vp_in_nI (n := 2) (by omega) (by omega)
  have v3 : vp_in (3 : Int32) 6 := vp_in_nI (n := 3) (by omega) (by omega)
  have v4 : vp_in (4 : Int32) 6 := vp_in_nI (n := 4) (by omega) (by omega)
  have v5 : vp_in (5 : Int32) 6 := vp_in_nI (n := 5) (by omega) (by omega)
  have c0 : (0 : Int32).toNatClampNeg = 0 := rfl
  have c1 : (1 : Int32).toNatClampNeg = 1 := rfl
  have c2 : (2 : Int32).toNatClampNeg = 2 := rfl
  have c3 : (3 : Int32).toNatClampNeg = 3 := rfl
  have c4 : (4 : Int32).toNatClampNeg = 4 := rfl
  have c5 : (5 : Int32).toNatClampNeg = 5 := rfl
  have W2 : WF A1 (sV (sW σ 59 6) 59 0 (gL σ 59) x0) := by rw [WF_sV]; exact W1
  have W3 : WF A1 (sV (sV (sW σ 59 6) 59 0 (gL σ 59) x0) 59 1 (gL σ 59) x1) := by rw [WF_sV, WF_sV]; exact W1
  have W4 : WF A1 (sV (sV (sV (sW σ 59 6) 59 0 (gL σ 59) x0) 59 1 (gL σ 59) x1) 59 2 (gL σ 59) x2) := by rw [WF_sV, WF_sV, WF_sV]; exact W1
  have W5 : WF A1 (sV (sV (sV (sV (sW σ 59 6) 59 0 (gL σ 59) x0) 59 1 (gL σ 59) x1) 59 2 (gL σ 59) x2) 59 3 (gL σ 59) x3) := by rw [WF_sV, WF_sV, WF_sV, WF_sV]; exact W1
  have W6 : WF A1 (sV (sV (sV (sV (sV (sW σ 59 6) 59 0 (gL σ 59) x0) 59 1 (gL σ 59) x1) 59 2 (gL σ 59) x2) 59 3 (gL σ 59) x3) 59 4 (gL σ 59) x4) := by rw [WF_sV, WF_sV, WF_sV, WF_sV, WF_sV]; exact W1
  rw [e_Ast W1 hi hak_59 (by decide), hn, p_and v0, c0, e_Ast W2 hi hak_59 (by decide), show gN (sV (sW σ 59 6) 59 0 (gL σ 59) x0) 59 (gL σ 59) = 6 from hn, p_and v1, c1, e_Ast W3 hi hak_59 (by decide), show gN (sV (sV (sW σ 59 6) 59 0 (gL σ 59) x0) 59 1 (gL σ 59) x1) 59 (gL σ 59) = 6 from hn, p_and v2, c2, e_Ast W4 hi hak_59 (by decide), show gN (sV (sV (sV (sW σ 59 6) 59 0 (gL σ 59) x0) 59 1 (gL σ 59) x1) 59 2 (gL σ 59) x2) 59 (gL σ 59) = 6 from hn, p_and v3, c3, e_Ast W5 hi hak_59 (by decide), show gN (sV (sV (sV (sV (sW σ 59 6) 59 0 (gL σ 59) x0) 59 1 (gL σ 59) x1) 59 2 (gL σ 59) x2) 59 3 (gL σ 59) x3) 59 (gL σ 59) = 6 from hn, p_and v4, c4, e_Ast W6 hi hak_59 (by decide), show gN (sV (sV (sV (sV (sV (sW σ 59 6) 59 0 (gL σ 59) x0) 59 1 (gL σ 59) x1) 59 2 (gL σ 59) x2) 59 3 (gL σ 59) x3) 59 4 (gL σ 59) x4) 59 (gL σ 59) = 6 from hn, p_and v5, c5]
  refine kk A1 (gL σ 59) W1 hx1 (by rw [hN.1 7 0 (sL_7 P.1)]) hi hn ?_ ?_ ?_ ?_ ?_ ?_ <;> unfold ar6 <;> simp (config := { maxSteps := 1000000 }) only [gV_sV, true_and, and_true, if_true, if_false, reduceIte, and_self, false_and, and_false, or_false, false_or, true_or, or_true, not_true_eq_false, not_false_eq_true, ne_eq, reduceCtorEq, Nat.reduceLT, Nat.reduceEqDiff, Nat.reduceLeDiff, Nat.reduceAdd, eq_self, ii_0_1, ii_0_2, ii_0_3, ii_0_4, ii_1_0, ii_1_2, ii_1_3, ii_1_4, il_1, ii_2_0, ii_2_1, ii_2_3, ii_2_4, il_2, ii_3_0, ii_3_1, ii_3_2, ii_3_4, il_3, ii_4_0, ii_4_1, ii_4_2, ii_4_3, il_4, il_0, ie_0_1, ie_0_2, ie_0_3, ie_0_4, ie_0_5, ie_1_0, ie_1_2, ie_1_3, ie_1_4, ie_1_5, ie_2_0, ie_2_1, ie_2_3, ie_2_4, ie_2_5, ie_3_0, ie_3_1, ie_3_2, ie_3_4, ie_3_5, ie_4_0, ie_4_1, ie_4_2, ie_4_3, ie_4_5, ie_5_0, ie_5_1, ie_5_2, ie_5_3, ie_5_4]
/-- the law's build() over an array of four or six -/
theorem r_lb4 {i : Nat} (hx : hX X A) (W : WF A σ) (P : PI σ) (hi : i < gL σ 59) (hn : gN σ 59 i = 4) (e0 : gV σ 59 0 i = x0) (e1 : gV σ 59 1 i = x1) (e2 : gV σ 59 2 i = x2) (e3 : gV σ 59 3 i = x3) : w_L_build X post px (some (A.1 7 0)) (some (A.1 59 i)) (hp A σ) = w_X7_addFix X post (fun E g9 => if E = "java/util/NoSuchElementException" then post (-1001 : Int32) g9 else (if E = "java/lang/IllegalArgumentException" then post (-1002 : Int32) g9 else (if E = "java/lang/IllegalStateException" then post (-1003 : Int32) g9 else (False)))) (some (A.1 7 0)) x0 x1 x2 x3 (hp A σ) := by
  have Q := P.1
  have v0 : vp_in (0 : Int32) 4 := vp_in_nI (n := 0) (by omega) (by omega)
  have v1 : vp_in (1 : Int32) 4 := vp_in_nI (n := 1) (by omega) (by omega)
  have v2 : vp_in (2 : Int32) 4 := vp_in_nI (n := 2) (by omega) (by omega)
  have v3 : vp_in (3 : Int32) 4 := vp_in_nI (n := 3) (by omega) (by omega)
  unfold w_L_build
  rw [eL_59 hx W hi, hn, if_pos (show nI 4 = 4 from rfl), e_Ald W hi hak_59 (by decide), hn, p_and v0, show (0 : Int32).toNatClampNeg = 0 from rfl, e0, e_Ald W hi hak_59 (by decide), hn, p_and v1, show (1 : Int32).toNatClampNeg = 1 from rfl, e1, e_Ald W hi hak_59 (by decide), hn, p_and v2, show (2 : Int32).toNatClampNeg = 2 from rfl, e2, e_Ald W hi hak_59 (by decide), hn, p_and v3, show (3 : Int32).toNatClampNeg = 3 from rfl, e3, e_Is' W (sL_7 Q) hcl_7]
  rfl
theorem r_lb6 {i : Nat} (hx : hX X A) (W : WF A σ) (P : PI σ) (hi : i < gL σ 59) (hn : gN σ 59 i = 6) (e0 : gV σ 59 0 i = x0) (e1 : gV σ 59 1 i = x1) (e2 : gV σ 59 2 i = x2) (e3 : gV σ 59 3 i = x3) (e4 : gV σ 59 4 i = x4) (e5 : gV σ 59 5 i = x5) : w_L_build X post px (some (A.1 7 0)) (some (A.1 59 i)) (hp A σ) = w_X7_addBuild X post (fun E g9 => if E = "java/util/NoSuchElementException" then post (-1001 : Int32) g9 else (if E = "java/lang/IllegalArgumentException" then post (-1002 : Int32) g9 else (if E = "java/lang/IllegalStateException" then post (-1003 : Int32) g9 else (False)))) (some (A.1 7 0)) x0 x1 x2 x3 x4 x5 (hp A σ) := by
  have Q := P.1
  have v0 : vp_in (0 : Int32) 6 := vp_in_nI (n := 0) (by omega) (by omega)
  have v1 : vp_in (1 : Int32) 6 := vp_in_nI (n := 1) (by omega) (by omega)
  have v2 : vp_in (2 : Int32) 6 := vp_in_nI (n := 2) (by omega) (by omega)
  have v3 : vp_in (3 : Int32) 6 := vp_in_nI (n := 3) (by omega) (by omega)
  have v4 : vp_in (4 : Int32) 6 := vp_in_nI (n := 4) (by omega) (by omega)
  have v5 : vp_in (5 : Int32) 6 := vp_in_nI (n := 5) (by omega) (by omega)
  unfold w_L_build
  rw [eL_59 hx W hi, hn, if_neg (show ¬ nI 6 = 4 by decide), e_Ald W hi hak_59 (by decide), hn, p_and v0, show (0 : Int32).toNatClampNeg = 0 from rfl, e0, e_Ald W hi hak_59 (by decide), hn, p_and v1, show (1 : Int32).toNatClampNeg = 1 from rfl, e1, e_Ald W hi hak_59 (by decide), hn, p_and v2, show (2 : Int32).toNatClampNeg = 2 from rfl, e2, e_Ald W hi hak_59 (by decide), hn, p_and v3, show (3 : Int32).toNatClampNeg = 3 from rfl, e3, e_Ald W hi hak_59 (by decide), hn, p_and v4, show (4 : Int32).toNatClampNeg = 4 from rfl, e4, e_Ald W hi hak_59 (by decide), hn, p_and v5, show (5 : Int32).toNatClampNeg = 5 from rfl, e5, e_Is' W (sL_7 Q) hcl_7]
  rfl
/-- a draft added: what more holds -/
theorem RN_bd {κ τ : St} {p r : Nat} {v z q : Int32} (P : PI σ) (R : RN n σ) (H : BdH σ κ p r v z q) (l1 : gL τ 1 = gL κ 1) (l4 : gL τ 4 = gL κ 4) (a : ∀ k f i, rk k = true → gV τ k f i = gV κ k f i) : RN n τ := by
  obtain ⟨hn, EL, EV, ER, EN, h8, ⟨l1', l20, l21⟩, b0, b1, b3, b4, b7, b8, b9, b10, b11, b12, b13, b14, b15, c2, c5, c6, c20, n21, v20, v21⟩ := H
  have g20 : gL σ 20 = gL σ 1 := P.2.2.2.2.2.1.1.1
  refine ⟨fun b hb => ?_, fun b hb hne => ?_, fun gg hg => ?_, ?_, ?_, ?_⟩
  · rw [a 1 12 b rfl, a 20 1 b rfl, b12, v20, g20]
    by_cases e : b = gL σ 1
    · rw [if_pos e, if_pos e]
      exact ⟨0, 0, rfl, rfl, by omega, by omega⟩
    · rw [if_neg e, if_neg e]
      exact R.1 b (by rw [l1, l1'] at hb; omega)
  · rw [a 1 10 b rfl, b10] at hne
    rw [a 1 7 b rfl, b7]
    by_cases e : b = gL σ 1
    · rw [if_pos e] at hne; exact absurd rfl hne
    · rw [if_neg e] at hne ⊢
      exact R.2.1 b (by rw [l1, l1'] at hb; omega) hne
  · rw [l4, EL 4 (by decide)] at hg
    obtain ⟨m, qq, e1, e2, e3, e4, e5, e6⟩ := R.2.2.1 gg hg
    refine ⟨m, qq, ?_, e2, e3, ?_, e5, ?_⟩
    · rw [a 4 2 gg rfl, EV 4 (by decide)]; exact e1
    · rw [a 4 3 gg rfl, EV 4 (by decide)]; exact e4
    · rw [l1, l1', Nat.pow_succ]; omega
  · rw [a 7 7 0 rfl, EV 7 (by decide)]; exact R.2.2.2.1
  · rw [a 7 8 0 rfl, EV 7 (by decide)]; exact R.2.2.2.2.1
  · rw [a 7 12 0 rfl, EV 7 (by decide)]; exact R.2.2.2.2.2
theorem BdF_rk {κ : St} {m l t v z q y : Int32} {k f i : Nat} (h : rk k = true) : gV (BdF σ κ m l t v z q y) k f i = gV κ k f i := by
  have hk : k < 60 ∧ k ≠ 8 := by
    unfold rk at h
    simpa only [Bool.and_eq_true, decide_eq_true_eq] using h
  unfold BdF
  simp only [gV_sV]
  rw [if_neg (by omega), if_neg (by omega), if_neg (by omega), if_neg (by omega), if_neg (by omega), if_neg (by omega), if_neg (by omega), if_neg (by omega), if_neg (by omega)]

set_option maxHeartbeats 8000000 in
theorem o_fix {w v z q : Int32} (hx : hX X A) (W : WF A σ) (P : PI σ) (R : RN n σ) (kf : ∀ r : Int32, r = -1001 ∨ r = -1002 ∨ r = -1003 → post r (hp A σ)) (ks : ∀ (τ : St) (g' : GM), SD X (some (A.1 7 0)) τ g' → PI τ → RN n τ → gL τ 1 = gL σ 1 + 1 → gV τ 1 7 (gL σ 1) = 100 → post (nI (gL σ 1)) g') : w_X7_addFix X post (fun E g9 => if E = "java/util/NoSuchElementException" then post (-1001 : Int32) g9 else (if E = "java/lang/IllegalArgumentException" then post (-1002 : Int32) g9 else (if E = "java/lang/IllegalStateException" then post (-1003 : Int32) g9 else (False)))) (some (A.1 7 0)) w v z q (hp A σ) := by
  have Q := P.1
  have hL := P.2.2.2.2.2.2.2.2.2.1
  have h10 : gL σ 1 ≤ 10 := P.2.1.2.2.2.2.2.2.2.2.1
  have hL0 := P.2.2.2.2.2.2.2.1
  have h12 : gL σ 2 ≤ 12 := P.2.1.2.2.2.2.2.2.2.1
  have hL3 := P.2.2.2.2.2.2.2.2.2.2
  have h30 : gL σ 4 ≤ 30 := P.2.1.2.2.2.2.2.2.2.2.2
  rcases q_ix w (show gL σ 1 ≤ 40 by omega) with hc | ⟨j, hj, rfl⟩
  · simp (config := { maxSteps := 1000000 }) only [↓w_X7_addFix.eq_1, jj_0_1, jj_0_2, jj_0_3, jj_0_4, jj_0_5, jj_0_6, jj_0_7, jj_0_8, jj_1_0, jj_1_2, jj_1_3, jj_1_4, jj_1_5, jj_1_6, jj_1_7, jj_1_8, jj_2_0, jj_2_1, jj_2_3, jj_2_4, jj_2_5, jj_2_6, jj_2_7, jj_2_8, jj_3_0, jj_3_1, jj_3_2, jj_3_4, jj_3_5, jj_3_6, jj_3_7, jj_3_8, jj_4_0, jj_4_1, jj_4_2, jj_4_3, jj_4_5, jj_4_6, jj_4_7, jj_4_8, jj_5_0, jj_5_1, jj_5_2, jj_5_3, jj_5_4, jj_5_6, jj_5_7, jj_5_8, jj_6_0, jj_6_1, jj_6_2, jj_6_3, jj_6_4, jj_6_5, jj_6_7, jj_6_8, jj_7_0, jj_7_1, jj_7_2, jj_7_3, jj_7_4, jj_7_5, jj_7_6, jj_7_8, jj_8_0, jj_8_1, jj_8_2, jj_8_3, jj_8_4, jj_8_5, jj_8_6, jj_8_7, jj_9_0, jj_9_1, jj_9_2, jj_9_3, jj_9_4, jj_9_5, jj_9_6, jj_9_7, jj_9_8, jj_98_99, jj_98_100, jj_98_111, jj_98_112, jj_98_114, jj_98_115, jj_98_116, jj_98_117, jj_99_98, jj_99_100, jj_99_111, jj_99_112, jj_99_114, jj_99_115, jj_99_116, jj_99_117, jj_100_98, jj_100_99, jj_100_111, jj_100_112, jj_100_114, jj_100_115, jj_100_116, jj_100_117, jj_111_98, jj_111_99, jj_111_100, jj_111_112, jj_111_114, jj_111_115, jj_111_116, jj_111_117, jj_112_98, jj_112_99, jj_112_100, jj_112_111, jj_112_114, jj_112_115, jj_112_116, jj_112_117, jj_114_98, jj_114_99, jj_114_100, jj_114_111, jj_114_112, jj_114_115, jj_114_116, jj_114_117, jj_115_98, jj_115_99, jj_115_100, jj_115_111, jj_115_112, jj_115_114, jj_115_116, jj_115_117, jj_116_98, jj_116_99, jj_116_100, jj_116_111, jj_116_112, jj_116_114, jj_116_115, jj_116_117, jj_117_98, jj_117_99, jj_117_100, jj_117_111, jj_117_112, jj_117_114, jj_117_115, jj_117_116, jj_0_m1, jj_0_m2, jj_0_m3, jj_0_m9, jj_m1_m2, jj_m1_m3, jj_m1_m9, jj_m2_m1, jj_m2_m3, jj_m2_m9, jj_m3_m1, jj_m3_m2, jj_m3_m9, jj_6_m1, jj_6_m2, jj_6_m3, jj_6_m9, jj_m9_m1, jj_m9_m2, jj_m9_m3, ↓q_kb, ↓q_kd, ↓q_kg, ↓q_out, true_and, and_true, if_true, if_false, reduceIte, and_self, false_and, and_false, or_false, false_or, true_or, or_true, not_true_eq_false, not_false_eq_true, ne_eq, reduceCtorEq, Nat.reduceLT, Nat.reduceEqDiff, Nat.reduceLeDiff, Nat.reduceAdd, eq_self, ii_0_1, ii_0_2, ii_0_3, ii_0_4, ii_1_0, ii_1_2, ii_1_3, ii_1_4, il_1, ii_2_0, ii_2_1, ii_2_3, ii_2_4, il_2, ii_3_0, ii_3_1, ii_3_2, ii_3_4, il_3, ii_4_0, ii_4_1, ii_4_2, ii_4_3, il_4, il_0, ie_0_1, ie_0_2, ie_0_3, ie_0_4, ie_0_5, ie_1_0, ie_1_2, ie_1_3, ie_1_4, ie_1_5, ie_2_0, ie_2_1, ie_2_3, ie_2_4, ie_2_5, ie_3_0, ie_3_1, ie_3_2, ie_3_4, ie_3_5, ie_4_0, ie_4_1, ie_4_2, ie_4_3, ie_4_5, ie_5_0, ie_5_1, ie_5_2, ie_5_3, ie_5_4, ↓e_Is', ↓e_GetI, ↓e_GetF, ↓e_PutI, ↓e_PutF, ↓e_PutR, ↓e_Ald, ↓e_Ast, ↓e_Aldq, gL_sV, gV_sV, gR_sV, gN_sV, gJ_sV, gD_sV, gL_sR, gV_sR, gR_sR, gN_sR, gJ_sR, gD_sR, gL_sJ, gV_sJ, gR_sJ, gN_sJ, gJ_sJ, gL_sD, gV_sD, gR_sD, gN_sD, gD_sD, hr_0, hr_s, WF_sV, WF_sJ, WF_sD, gL_sF, gV_sF, gR_sF, gN_sF, gL_sG, gV_sG, gR_sG, gN_sG, WF_sF, ↓eR_1_2, ↓eR_1_5, ↓eR_1_6, ↓eR_2_3, ↓eR_3_2, ↓eR_4_1, ↓eR_6_0, ↓eR_9_0, ↓eR_20_0, ↓eR_22_0, sL_7, ↓s7_0, ↓s7_1, ↓s7_2, ↓s7_3, ↓s7_4, ↓s7_5, ↓s7_6, P0_sV, P0_sJ, P0_sD, hcl_1, hok_1_0, hok_1_1, hok_1_2, hok_1_3, hok_1_4, hok_1_5, hok_1_6, hok_1_7, hok_1_8, hok_1_9, hok_1_10, hok_1_11, hok_1_12, hok_1_13, hok_1_14, hok_1_15, hcl_2, hok_2_0, hok_2_1, hok_2_2, hok_2_3, hok_2_4, hok_2_5, hcl_3, hok_3_0, hok_3_1, hok_3_2, hcl_4, hok_4_0, hok_4_1, hok_4_2, hok_4_3, hcl_5, hok_5_0, hok_5_1, hok_5_2, hcl_6, hok_6_0, hok_6_1, hcl_7, hok_7_0, hok_7_1, hok_7_2, hok_7_3, hok_7_4, hok_7_5, hok_7_6, hok_7_7, hok_7_8, hok_7_9, hok_7_10, hok_7_11, hok_7_12, hcl_9, hok_9_0, hok_9_1, hok_9_2, hok_9_3, hcl_20, hok_20_0, hok_20_1, hcl_22, hok_22_0, hok_22_1, hcl_30, hok_30_0, hok_30_1, hok_30_2, hcl_31, hok_31_0, hok_31_1, hok_31_2, hcl_32, hok_32_0, hok_32_1, hok_32_2, hcl_33, hok_33_0, hok_33_1, hok_33_2, hak_16, hak_21, hak_23, hak_40, hak_41, hak_42, hak_43, hak_50, hak_59, ↓eL_16, ↓eL_21, ↓eL_23, ↓eL_50, ↓eL_59, W, Q, hL, h10, hL0, h12, hL3, h30, nb0, nb1, ↓if_pos hc]
    exact kf _ (by decide)
  · have hc := q_nb hj (show gL σ 1 ≤ 40 by omega)
    have hcl : (nI j).toNatClampNeg = j := nI_clamp (by omega)
    obtain ⟨p, hp1, h0, o1, o2, o3⟩ := q_offer W P hj
    by_cases hb : (v < 1 ∨ 999 < v) ∨ (z < 1 ∨ 500 < z) ∨ (q < 0 ∨ 15 < q)
    · have ha := fun (px : String → GM → Prop) (post : Int32 → GM → Prop) (l0 l2 l5 : Option Nat) (g : GM) => q_adf (X := X) (px := px) (post := post) (l0 := l0) (l2 := l2) (l5 := l5) (g := g) hb
      simp (config := { maxSteps := 1000000 }) only [↓w_X7_addFix.eq_1, jj_0_1, jj_0_2, jj_0_3, jj_0_4, jj_0_5, jj_0_6, jj_0_7, jj_0_8, jj_1_0, jj_1_2, jj_1_3, jj_1_4, jj_1_5, jj_1_6, jj_1_7, jj_1_8, jj_2_0, jj_2_1, jj_2_3, jj_2_4, jj_2_5, jj_2_6, jj_2_7, jj_2_8, jj_3_0, jj_3_1, jj_3_2, jj_3_4, jj_3_5, jj_3_6, jj_3_7, jj_3_8, jj_4_0, jj_4_1, jj_4_2, jj_4_3, jj_4_5, jj_4_6, jj_4_7, jj_4_8, jj_5_0, jj_5_1, jj_5_2, jj_5_3, jj_5_4, jj_5_6, jj_5_7, jj_5_8, jj_6_0, jj_6_1, jj_6_2, jj_6_3, jj_6_4, jj_6_5, jj_6_7, jj_6_8, jj_7_0, jj_7_1, jj_7_2, jj_7_3, jj_7_4, jj_7_5, jj_7_6, jj_7_8, jj_8_0, jj_8_1, jj_8_2, jj_8_3, jj_8_4, jj_8_5, jj_8_6, jj_8_7, jj_9_0, jj_9_1, jj_9_2, jj_9_3, jj_9_4, jj_9_5, jj_9_6, jj_9_7, jj_9_8, jj_98_99, jj_98_100, jj_98_111, jj_98_112, jj_98_114, jj_98_115, jj_98_116, jj_98_117, jj_99_98, jj_99_100, jj_99_111, jj_99_112, jj_99_114, jj_99_115, jj_99_116, jj_99_117, jj_100_98, jj_100_99, jj_100_111, jj_100_112, jj_100_114, jj_100_115, jj_100_116, jj_100_117, jj_111_98, jj_111_99, jj_111_100, jj_111_112, jj_111_114, jj_111_115, jj_111_116, jj_111_117, jj_112_98, jj_112_99, jj_112_100, jj_112_111, jj_112_114, jj_112_115, jj_112_116, jj_112_117, jj_114_98, jj_114_99, jj_114_100, jj_114_111, jj_114_112, jj_114_115, jj_114_116, jj_114_117, jj_115_98, jj_115_99, jj_115_100, jj_115_111, jj_115_112, jj_115_114, jj_115_116, jj_115_117, jj_116_98, jj_116_99, jj_116_100, jj_116_111, jj_116_112, jj_116_114, jj_116_115, jj_116_117, jj_117_98, jj_117_99, jj_117_100, jj_117_111, jj_117_112, jj_117_114, jj_117_115, jj_117_116, jj_0_m1, jj_0_m2, jj_0_m3, jj_0_m9, jj_m1_m2, jj_m1_m3, jj_m1_m9, jj_m2_m1, jj_m2_m3, jj_m2_m9, jj_m3_m1, jj_m3_m2, jj_m3_m9, jj_6_m1, jj_6_m2, jj_6_m3, jj_6_m9, jj_m9_m1, jj_m9_m2, jj_m9_m3, ↓q_kb, ↓q_kd, ↓q_kg, ↓q_out, true_and, and_true, if_true, if_false, reduceIte, and_self, false_and, and_false, or_false, false_or, true_or, or_true, not_true_eq_false, not_false_eq_true, ne_eq, reduceCtorEq, Nat.reduceLT, Nat.reduceEqDiff, Nat.reduceLeDiff, Nat.reduceAdd, eq_self, ii_0_1, ii_0_2, ii_0_3, ii_0_4, ii_1_0, ii_1_2, ii_1_3, ii_1_4, il_1, ii_2_0, ii_2_1, ii_2_3, ii_2_4, il_2, ii_3_0, ii_3_1, ii_3_2, ii_3_4, il_3, ii_4_0, ii_4_1, ii_4_2, ii_4_3, il_4, il_0, ie_0_1, ie_0_2, ie_0_3, ie_0_4, ie_0_5, ie_1_0, ie_1_2, ie_1_3, ie_1_4, ie_1_5, ie_2_0, ie_2_1, ie_2_3, ie_2_4, ie_2_5, ie_3_0, ie_3_1, ie_3_2, ie_3_4, ie_3_5, ie_4_0, ie_4_1, ie_4_2, ie_4_3, ie_4_5, ie_5_0, ie_5_1, ie_5_2, ie_5_3, ie_5_4, ↓e_Is', ↓e_GetI, ↓e_GetF, ↓e_PutI, ↓e_PutF, ↓e_PutR, ↓e_Ald, ↓e_Ast, ↓e_Aldq, gL_sV, gV_sV, gR_sV, gN_sV, gJ_sV, gD_sV, gL_sR, gV_sR, gR_sR, gN_sR, gJ_sR, gD_sR, gL_sJ, gV_sJ, gR_sJ, gN_sJ, gJ_sJ, gL_sD, gV_sD, gR_sD, gN_sD, gD_sD, hr_0, hr_s, WF_sV, WF_sJ, WF_sD, gL_sF, gV_sF, gR_sF, gN_sF, gL_sG, gV_sG, gR_sG, gN_sG, WF_sF, ↓eR_1_2, ↓eR_1_5, ↓eR_1_6, ↓eR_2_3, ↓eR_3_2, ↓eR_4_1, ↓eR_6_0, ↓eR_9_0, ↓eR_20_0, ↓eR_22_0, sL_7, ↓s7_0, ↓s7_1, ↓s7_2, ↓s7_3, ↓s7_4, ↓s7_5, ↓s7_6, P0_sV, P0_sJ, P0_sD, hcl_1, hok_1_0, hok_1_1, hok_1_2, hok_1_3, hok_1_4, hok_1_5, hok_1_6, hok_1_7, hok_1_8, hok_1_9, hok_1_10, hok_1_11, hok_1_12, hok_1_13, hok_1_14, hok_1_15, hcl_2, hok_2_0, hok_2_1, hok_2_2, hok_2_3, hok_2_4, hok_2_5, hcl_3, hok_3_0, hok_3_1, hok_3_2, hcl_4, hok_4_0, hok_4_1, hok_4_2, hok_4_3, hcl_5, hok_5_0, hok_5_1, hok_5_2, hcl_6, hok_6_0, hok_6_1, hcl_7, hok_7_0, hok_7_1, hok_7_2, hok_7_3, hok_7_4, hok_7_5, hok_7_6, hok_7_7, hok_7_8, hok_7_9, hok_7_10, hok_7_11, hok_7_12, hcl_9, hok_9_0, hok_9_1, hok_9_2, hok_9_3, hcl_20, hok_20_0, hok_20_1, hcl_22, hok_22_0, hok_22_1, hcl_30, hok_30_0, hok_30_1, hok_30_2, hcl_31, hok_31_0, hok_31_1, hok_31_2, hcl_32, hok_32_0, hok_32_1, hok_32_2, hcl_33, hok_33_0, hok_33_1, hok_33_2, hak_16, hak_21, hak_23, hak_40, hak_41, hak_42, hak_43, hak_50, hak_59, ↓eL_16, ↓eL_21, ↓eL_23, ↓eL_50, ↓eL_59, W, Q, hL, h10, hL0, h12, hL3, h30, nb0, nb1, ↓if_neg hc, hcl, hj, hp1, ↓ha]
      exact kf _ (by decide)
    · have hv : ¬ (v < 1 ∨ 999 < v) := fun y => hb (Or.inl y)
      have hz : ¬ (z < 1 ∨ 500 < z) := fun y => hb (Or.inr (Or.inl y))
      have hq : ¬ (q < 0 ∨ 15 < q) := fun y => hb (Or.inr (Or.inr y))
      unfold w_X7_addFix
      rw [e_Is' W (sL_7 Q) hcl_7, q_kb W Q hL h10, if_neg hc, hcl]
      try dsimp only
      rw [eR_1_2 W hj, hp1, hr_s, e_Is' W (sL_7 Q) hcl_7]
      by_cases hex : ∃ j, j < gL σ 1 ∧ gV σ 1 1 j = v
      · rw [q_ads W Q hL h10 hv hz hq (Or.inl hex)]
        simp (config := { maxSteps := 1000000 }) only [true_and, and_true, if_true, if_false, reduceIte, and_self, false_and, and_false, or_false, false_or, true_or, or_true, not_true_eq_false, not_false_eq_true, ne_eq, reduceCtorEq, Nat.reduceLT, Nat.reduceEqDiff, Nat.reduceLeDiff, Nat.reduceAdd, eq_self, ii_0_1, ii_0_2, ii_0_3, ii_0_4, ii_1_0, ii_1_2, ii_1_3, ii_1_4, il_1, ii_2_0, ii_2_1, ii_2_3, ii_2_4, il_2, ii_3_0, ii_3_1, ii_3_2, ii_3_4, il_3, ii_4_0, ii_4_1, ii_4_2, ii_4_3, il_4, il_0, ie_0_1, ie_0_2, ie_0_3, ie_0_4, ie_0_5, ie_1_0, ie_1_2, ie_1_3, ie_1_4, ie_1_5, ie_2_0, ie_2_1, ie_2_3, ie_2_4, ie_2_5, ie_3_0, ie_3_1, ie_3_2, ie_3_4, ie_3_5, ie_4_0, ie_4_1, ie_4_2, ie_4_3, ie_4_5, ie_5_0, ie_5_1, ie_5_2, ie_5_3, ie_5_4]
        exact kf _ (by decide)
      · have hno : ∀ j, j < gL σ 1 → ¬ gV σ 1 1 j = v := fun j hj e => hex ⟨j, hj, e⟩
        by_cases hn : gL σ 1 < 10
        · refine q_adr (r := (j + 1)) hx W Q hL hn hv hz hq h0 (show j + 1 ≤ gL σ 1 by omega) hno (fun A' κ W' hx' hN QK H0 kk1 => ?_)
          have H := H0 0
          have P' : PI (BdF σ (sV (sJ κ 0) 8 36 0 0) (gV σ 108 j 0) (gV σ 109 j 0) (gV σ 112 j 0) v z q (nI j)) := pi_bd (y := nI j) (m := gV σ 108 j 0) (l := gV σ 109 j 0) (t := gV σ 112 j 0) W P H hv h0 (show j + 1 ≤ gL σ 1 by omega) hno o1 o2 o3 (nI_pred j).symm (fun _ => ⟨rfl, rfl⟩)
          refine ks (BdF σ (sV (sJ κ 0) 8 36 0 0) (gV σ 108 j 0) (gV σ 109 j 0) (gV σ 112 j 0) v z q (nI j)) _ (SD.gh (κ := sV (sJ κ 0) 8 36 0 0) (SD.gV (k := 8) (f := 36) (i := 0) (x := 0) (SD.gJ (x := 0) ⟨A', W', hx', by rw [hN.1], rfl⟩) rfl) (fun _ => rfl) (fun k f i hk => BdF_rk hk) (fun _ _ _ => rfl) (fun _ _ => rfl)) P' (RN_bd P R H rfl rfl (fun k f i hk => BdF_rk hk)) H.2.2.2.2.2.2.1.1 ?_
          rw [BdF_rk rfl, H.2.2.2.2.2.2.2.2.2.2.2.1, if_pos rfl]
        · rw [q_ads W Q hL h10 hv hz hq (Or.inr ⟨hno, hn⟩)]
          simp (config := { maxSteps := 1000000 }) only [true_and, and_true, if_true, if_false, reduceIte, and_self, false_and, and_false, or_false, false_or, true_or, or_true, not_true_eq_false, not_false_eq_true, ne_eq, reduceCtorEq, Nat.reduceLT, Nat.reduceEqDiff, Nat.reduceLeDiff, Nat.reduceAdd, eq_self, ii_0_1, ii_0_2, ii_0_3, ii_0_4, ii_1_0, ii_1_2, ii_1_3, ii_1_4, il_1, ii_2_0, ii_2_1, ii_2_3, ii_2_4, il_2, ii_3_0, ii_3_1, ii_3_2, ii_3_4, il_3, ii_4_0, ii_4_1, ii_4_2, ii_4_3, il_4, il_0, ie_0_1, ie_0_2, ie_0_3, ie_0_4, ie_0_5, ie_1_0, ie_1_2, ie_1_3, ie_1_4, ie_1_5, ie_2_0, ie_2_1, ie_2_3, ie_2_4, ie_2_5, ie_3_0, ie_3_1, ie_3_2, ie_3_4, ie_3_5, ie_4_0, ie_4_1, ie_4_2, ie_4_3, ie_4_5, ie_5_0, ie_5_1, ie_5_2, ie_5_3, ie_5_4]
          exact kf _ (by decide)
theorem cv_of5 {m l t : Int32} : cv (ofS σ m l t) = cv σ := by
  unfold ofS
  refine cv_5 (fun k h => ?_) (fun k f i h => ?_) (fun k f i h => ?_)
  · simp only [gL_sV, gL_sW, h, if_false]
  · simp only [gV_sV, gV_sW, h, false_and, if_false]
  · simp only [gR_sV, gR_sW, h, false_and, if_false]
set_option maxHeartbeats 8000000 in
theorem o_build {v m l z q t : Int32} (hx : hX X A) (W : WF A σ) (P : PI σ) (R : RN n σ) (kf : ∀ (τ : St) (g' : GM) (r : Int32), r = -1002 ∨ r = -1003 → SD X (some (A.1 7 0)) τ g' → PI τ → cv τ = cv σ → post r g') (ks : ∀ (τ : St) (g' : GM), SD X (some (A.1 7 0)) τ g' → PI τ → RN n τ → gL τ 1 = gL σ 1 + 1 → gV τ 1 7 (gL σ 1) = 100 → post (nI (gL σ 1)) g') : w_X7_addBuild X post (fun E g9 => if E = "java/util/NoSuchElementException" then post (-1001 : Int32) g9 else (if E = "java/lang/IllegalArgumentException" then post (-1002 : Int32) g9 else (if E = "java/lang/IllegalStateException" then post (-1003 : Int32) g9 else (False)))) (some (A.1 7 0)) v m l z q t (hp A σ) := by
  have Q := P.1
  have hL := P.2.2.2.2.2.2.2.2.2.1
  have h10 : gL σ 1 ≤ 10 := P.2.1.2.2.2.2.2.2.2.2.1
  have hL0 := P.2.2.2.2.2.2.2.1
  have h12 : gL σ 2 ≤ 12 := P.2.1.2.2.2.2.2.2.2.1
  have hL3 := P.2.2.2.2.2.2.2.2.2.2
  have h30 : gL σ 4 ≤ 30 := P.2.1.2.2.2.2.2.2.2.2.2
  by_cases hm : m < 1 ∨ 63 < m
  · simp (config := { maxSteps := 1000000 }) only [↓w_X7_addBuild_b32.eq_1, ↓w_X7_addBuild.eq_1, jj_0_1, jj_0_2, jj_0_3, jj_0_4, jj_0_5, jj_0_6, jj_0_7, jj_0_8, jj_1_0, jj_1_2, jj_1_3, jj_1_4, jj_1_5, jj_1_6, jj_1_7, jj_1_8, jj_2_0, jj_2_1, jj_2_3, jj_2_4, jj_2_5, jj_2_6, jj_2_7, jj_2_8, jj_3_0, jj_3_1, jj_3_2, jj_3_4, jj_3_5, jj_3_6, jj_3_7, jj_3_8, jj_4_0, jj_4_1, jj_4_2, jj_4_3, jj_4_5, jj_4_6, jj_4_7, jj_4_8, jj_5_0, jj_5_1, jj_5_2, jj_5_3, jj_5_4, jj_5_6, jj_5_7, jj_5_8, jj_6_0, jj_6_1, jj_6_2, jj_6_3, jj_6_4, jj_6_5, jj_6_7, jj_6_8, jj_7_0, jj_7_1, jj_7_2, jj_7_3, jj_7_4, jj_7_5, jj_7_6, jj_7_8, jj_8_0, jj_8_1, jj_8_2, jj_8_3, jj_8_4, jj_8_5, jj_8_6, jj_8_7, jj_9_0, jj_9_1, jj_9_2, jj_9_3, jj_9_4, jj_9_5, jj_9_6, jj_9_7, jj_9_8, jj_98_99, jj_98_100, jj_98_111, jj_98_112, jj_98_114, jj_98_115, jj_98_116, jj_98_117, jj_99_98, jj_99_100, jj_99_111, jj_99_112, jj_99_114, jj_99_115, jj_99_116, jj_99_117, jj_100_98, jj_100_99, jj_100_111, jj_100_112, jj_100_114, jj_100_115, jj_100_116, jj_100_117, jj_111_98, jj_111_99, jj_111_100, jj_111_112, jj_111_114, jj_111_115, jj_111_116, jj_111_117, jj_112_98, jj_112_99, jj_112_100, jj_112_111, jj_112_114, jj_112_115, jj_112_116, jj_112_117, jj_114_98, jj_114_99, jj_114_100, jj_114_111, jj_114_112, jj_114_115, jj_114_116, jj_114_117, jj_115_98, jj_115_99, jj_115_100, jj_115_111, jj_115_112, jj_115_114, jj_115_116, jj_115_117, jj_116_98, jj_116_99, jj_116_100, jj_116_111, jj_116_112, jj_116_114, jj_116_115, jj_116_117, jj_117_98, jj_117_99, jj_117_100, jj_117_111, jj_117_112, jj_117_114, jj_117_115, jj_117_116, jj_0_m1, jj_0_m2, jj_0_m3, jj_0_m9, jj_m1_m2, jj_m1_m3, jj_m1_m9, jj_m2_m1, jj_m2_m3, jj_m2_m9, jj_m3_m1, jj_m3_m2, jj_m3_m9, jj_6_m1, jj_6_m2, jj_6_m3, jj_6_m9, jj_m9_m1, jj_m9_m2, jj_m9_m3, ↓q_kb, ↓q_kd, ↓q_kg, ↓q_out, true_and, and_true, if_true, if_false, reduceIte, and_self, false_and, and_false, or_false, false_or, true_or, or_true, not_true_eq_false, not_false_eq_true, ne_eq, reduceCtorEq, Nat.reduceLT, Nat.reduceEqDiff, Nat.reduceLeDiff, Nat.reduceAdd, eq_self, ii_0_1, ii_0_2, ii_0_3, ii_0_4, ii_1_0, ii_1_2, ii_1_3, ii_1_4, il_1, ii_2_0, ii_2_1, ii_2_3, ii_2_4, il_2, ii_3_0, ii_3_1, ii_3_2, ii_3_4, il_3, ii_4_0, ii_4_1, ii_4_2, ii_4_3, il_4, il_0, ie_0_1, ie_0_2, ie_0_3, ie_0_4, ie_0_5, ie_1_0, ie_1_2, ie_1_3, ie_1_4, ie_1_5, ie_2_0, ie_2_1, ie_2_3, ie_2_4, ie_2_5, ie_3_0, ie_3_1, ie_3_2, ie_3_4, ie_3_5, ie_4_0, ie_4_1, ie_4_2, ie_4_3, ie_4_5, ie_5_0, ie_5_1, ie_5_2, ie_5_3, ie_5_4, ↓e_Is', ↓e_GetI, ↓e_GetF, ↓e_PutI, ↓e_PutF, ↓e_PutR, ↓e_Ald, ↓e_Ast, ↓e_Aldq, gL_sV, gV_sV, gR_sV, gN_sV, gJ_sV, gD_sV, gL_sR, gV_sR, gR_sR, gN_sR, gJ_sR, gD_sR, gL_sJ, gV_sJ, gR_sJ, gN_sJ, gJ_sJ, gL_sD, gV_sD, gR_sD, gN_sD, gD_sD, hr_0, hr_s, WF_sV, WF_sJ, WF_sD, gL_sF, gV_sF, gR_sF, gN_sF, gL_sG, gV_sG, gR_sG, gN_sG, WF_sF, ↓eR_1_2, ↓eR_1_5, ↓eR_1_6, ↓eR_2_3, ↓eR_3_2, ↓eR_4_1, ↓eR_6_0, ↓eR_9_0, ↓eR_20_0, ↓eR_22_0, sL_7, ↓s7_0, ↓s7_1, ↓s7_2, ↓s7_3, ↓s7_4, ↓s7_5, ↓s7_6, P0_sV, P0_sJ, P0_sD, hcl_1, hok_1_0, hok_1_1, hok_1_2, hok_1_3, hok_1_4, hok_1_5, hok_1_6, hok_1_7, hok_1_8, hok_1_9, hok_1_10, hok_1_11, hok_1_12, hok_1_13, hok_1_14, hok_1_15, hcl_2, hok_2_0, hok_2_1, hok_2_2, hok_2_3, hok_2_4, hok_2_5, hcl_3, hok_3_0, hok_3_1, hok_3_2, hcl_4, hok_4_0, hok_4_1, hok_4_2, hok_4_3, hcl_5, hok_5_0, hok_5_1, hok_5_2, hcl_6, hok_6_0, hok_6_1, hcl_7, hok_7_0, hok_7_1, hok_7_2, hok_7_3, hok_7_4, hok_7_5, hok_7_6, hok_7_7, hok_7_8, hok_7_9, hok_7_10, hok_7_11, hok_7_12, hcl_9, hok_9_0, hok_9_1, hok_9_2, hok_9_3, hcl_20, hok_20_0, hok_20_1, hcl_22, hok_22_0, hok_22_1, hcl_30, hok_30_0, hok_30_1, hok_30_2, hcl_31, hok_31_0, hok_31_1, hok_31_2, hcl_32, hok_32_0, hok_32_1, hok_32_2, hcl_33, hok_33_0, hok_33_1, hok_33_2, hak_16, hak_21, hak_23, hak_40, hak_41, hak_42, hak_43, hak_50, hak_59, ↓eL_16, ↓eL_21, ↓eL_23, ↓eL_50, ↓eL_59, W, Q, hL, h10, hL0, h12, hL3, h30, nb0, nb1, ↓if_pos hm]
    exact kf _ _ _ (by decide) (SD.mk W hx) P rfl
  by_cases hl : l < 1 ∨ 7 < l
  · simp (config := { maxSteps := 1000000 }) only [↓w_X7_addBuild_b32.eq_1, ↓w_X7_addBuild.eq_1, jj_0_1, jj_0_2, jj_0_3, jj_0_4, jj_0_5, jj_0_6, jj_0_7, jj_0_8, jj_1_0, jj_1_2, jj_1_3, jj_1_4, jj_1_5, jj_1_6, jj_1_7, jj_1_8, jj_2_0, jj_2_1, jj_2_3, jj_2_4, jj_2_5, jj_2_6, jj_2_7, jj_2_8, jj_3_0, jj_3_1, jj_3_2, jj_3_4, jj_3_5, jj_3_6, jj_3_7, jj_3_8, jj_4_0, jj_4_1, jj_4_2, jj_4_3, jj_4_5, jj_4_6, jj_4_7, jj_4_8, jj_5_0, jj_5_1, jj_5_2, jj_5_3, jj_5_4, jj_5_6, jj_5_7, jj_5_8, jj_6_0, jj_6_1, jj_6_2, jj_6_3, jj_6_4, jj_6_5, jj_6_7, jj_6_8, jj_7_0, jj_7_1, jj_7_2, jj_7_3, jj_7_4, jj_7_5, jj_7_6, jj_7_8, jj_8_0, jj_8_1, jj_8_2, jj_8_3, jj_8_4, jj_8_5, jj_8_6, jj_8_7, jj_9_0, jj_9_1, jj_9_2, jj_9_3, jj_9_4, jj_9_5, jj_9_6, jj_9_7, jj_9_8, jj_98_99, jj_98_100, jj_98_111, jj_98_112, jj_98_114, jj_98_115, jj_98_116, jj_98_117, jj_99_98, jj_99_100, jj_99_111, jj_99_112, jj_99_114, jj_99_115, jj_99_116, jj_99_117, jj_100_98, jj_100_99, jj_100_111, jj_100_112, jj_100_114, jj_100_115, jj_100_116, jj_100_117, jj_111_98, jj_111_99, jj_111_100, jj_111_112, jj_111_114, jj_111_115, jj_111_116, jj_111_117, jj_112_98, jj_112_99, jj_112_100, jj_112_111, jj_112_114, jj_112_115, jj_112_116, jj_112_117, jj_114_98, jj_114_99, jj_114_100, jj_114_111, jj_114_112, jj_114_115, jj_114_116, jj_114_117, jj_115_98, jj_115_99, jj_115_100, jj_115_111, jj_115_112, jj_115_114, jj_115_116, jj_115_117, jj_116_98, jj_116_99, jj_116_100, jj_116_111, jj_116_112, jj_116_114, jj_116_115, jj_116_117, jj_117_98, jj_117_99, jj_117_100, jj_117_111, jj_117_112, jj_117_114, jj_117_115, jj_117_116, jj_0_m1, jj_0_m2, jj_0_m3, jj_0_m9, jj_m1_m2, jj_m1_m3, jj_m1_m9, jj_m2_m1, jj_m2_m3, jj_m2_m9, jj_m3_m1, jj_m3_m2, jj_m3_m9, jj_6_m1, jj_6_m2, jj_6_m3, jj_6_m9, jj_m9_m1, jj_m9_m2, jj_m9_m3, ↓q_kb, ↓q_kd, ↓q_kg, ↓q_out, true_and, and_true, if_true, if_false, reduceIte, and_self, false_and, and_false, or_false, false_or, true_or, or_true, not_true_eq_false, not_false_eq_true, ne_eq, reduceCtorEq, Nat.reduceLT, Nat.reduceEqDiff, Nat.reduceLeDiff, Nat.reduceAdd, eq_self, ii_0_1, ii_0_2, ii_0_3, ii_0_4, ii_1_0, ii_1_2, ii_1_3, ii_1_4, il_1, ii_2_0, ii_2_1, ii_2_3, ii_2_4, il_2, ii_3_0, ii_3_1, ii_3_2, ii_3_4, il_3, ii_4_0, ii_4_1, ii_4_2, ii_4_3, il_4, il_0, ie_0_1, ie_0_2, ie_0_3, ie_0_4, ie_0_5, ie_1_0, ie_1_2, ie_1_3, ie_1_4, ie_1_5, ie_2_0, ie_2_1, ie_2_3, ie_2_4, ie_2_5, ie_3_0, ie_3_1, ie_3_2, ie_3_4, ie_3_5, ie_4_0, ie_4_1, ie_4_2, ie_4_3, ie_4_5, ie_5_0, ie_5_1, ie_5_2, ie_5_3, ie_5_4, ↓e_Is', ↓e_GetI, ↓e_GetF, ↓e_PutI, ↓e_PutF, ↓e_PutR, ↓e_Ald, ↓e_Ast, ↓e_Aldq, gL_sV, gV_sV, gR_sV, gN_sV, gJ_sV, gD_sV, gL_sR, gV_sR, gR_sR, gN_sR, gJ_sR, gD_sR, gL_sJ, gV_sJ, gR_sJ, gN_sJ, gJ_sJ, gL_sD, gV_sD, gR_sD, gN_sD, gD_sD, hr_0, hr_s, WF_sV, WF_sJ, WF_sD, gL_sF, gV_sF, gR_sF, gN_sF, gL_sG, gV_sG, gR_sG, gN_sG, WF_sF, ↓eR_1_2, ↓eR_1_5, ↓eR_1_6, ↓eR_2_3, ↓eR_3_2, ↓eR_4_1, ↓eR_6_0, ↓eR_9_0, ↓eR_20_0, ↓eR_22_0, sL_7, ↓s7_0, ↓s7_1, ↓s7_2, ↓s7_3, ↓s7_4, ↓s7_5, ↓s7_6, P0_sV, P0_sJ, P0_sD, hcl_1, hok_1_0, hok_1_1, hok_1_2, hok_1_3, hok_1_4, hok_1_5, hok_1_6, hok_1_7, hok_1_8, hok_1_9, hok_1_10, hok_1_11, hok_1_12, hok_1_13, hok_1_14, hok_1_15, hcl_2, hok_2_0, hok_2_1, hok_2_2, hok_2_3, hok_2_4, hok_2_5, hcl_3, hok_3_0, hok_3_1, hok_3_2, hcl_4, hok_4_0, hok_4_1, hok_4_2, hok_4_3, hcl_5, hok_5_0, hok_5_1, hok_5_2, hcl_6, hok_6_0, hok_6_1, hcl_7, hok_7_0, hok_7_1, hok_7_2, hok_7_3, hok_7_4, hok_7_5, hok_7_6, hok_7_7, hok_7_8, hok_7_9, hok_7_10, hok_7_11, hok_7_12, hcl_9, hok_9_0, hok_9_1, hok_9_2, hok_9_3, hcl_20, hok_20_0, hok_20_1, hcl_22, hok_22_0, hok_22_1, hcl_30, hok_30_0, hok_30_1, hok_30_2, hcl_31, hok_31_0, hok_31_1, hok_31_2, hcl_32, hok_32_0, hok_32_1, hok_32_2, hcl_33, hok_33_0, hok_33_1, hok_33_2, hak_16, hak_21, hak_23, hak_40, hak_41, hak_42, hak_43, hak_50, hak_59, ↓eL_16, ↓eL_21, ↓eL_23, ↓eL_50, ↓eL_59, W, Q, hL, h10, hL0, h12, hL3, h30, nb0, nb1, ↓if_neg hm, ↓if_pos hl]
    exact kf _ _ _ (by decide) (SD.mk W hx) P rfl
  by_cases ht : t < 0 ∨ 255 < t
  · simp (config := { maxSteps := 1000000 }) only [↓w_X7_addBuild_b32.eq_1, ↓w_X7_addBuild.eq_1, jj_0_1, jj_0_2, jj_0_3, jj_0_4, jj_0_5, jj_0_6, jj_0_7, jj_0_8, jj_1_0, jj_1_2, jj_1_3, jj_1_4, jj_1_5, jj_1_6, jj_1_7, jj_1_8, jj_2_0, jj_2_1, jj_2_3, jj_2_4, jj_2_5, jj_2_6, jj_2_7, jj_2_8, jj_3_0, jj_3_1, jj_3_2, jj_3_4, jj_3_5, jj_3_6, jj_3_7, jj_3_8, jj_4_0, jj_4_1, jj_4_2, jj_4_3, jj_4_5, jj_4_6, jj_4_7, jj_4_8, jj_5_0, jj_5_1, jj_5_2, jj_5_3, jj_5_4, jj_5_6, jj_5_7, jj_5_8, jj_6_0, jj_6_1, jj_6_2, jj_6_3, jj_6_4, jj_6_5, jj_6_7, jj_6_8, jj_7_0, jj_7_1, jj_7_2, jj_7_3, jj_7_4, jj_7_5, jj_7_6, jj_7_8, jj_8_0, jj_8_1, jj_8_2, jj_8_3, jj_8_4, jj_8_5, jj_8_6, jj_8_7, jj_9_0, jj_9_1, jj_9_2, jj_9_3, jj_9_4, jj_9_5, jj_9_6, jj_9_7, jj_9_8, jj_98_99, jj_98_100, jj_98_111, jj_98_112, jj_98_114, jj_98_115, jj_98_116, jj_98_117, jj_99_98, jj_99_100, jj_99_111, jj_99_112, jj_99_114, jj_99_115, jj_99_116, jj_99_117, jj_100_98, jj_100_99, jj_100_111, jj_100_112, jj_100_114, jj_100_115, jj_100_116, jj_100_117, jj_111_98, jj_111_99, jj_111_100, jj_111_112, jj_111_114, jj_111_115, jj_111_116, jj_111_117, jj_112_98, jj_112_99, jj_112_100, jj_112_111, jj_112_114, jj_112_115, jj_112_116, jj_112_117, jj_114_98, jj_114_99, jj_114_100, jj_114_111, jj_114_112, jj_114_115, jj_114_116, jj_114_117, jj_115_98, jj_115_99, jj_115_100, jj_115_111, jj_115_112, jj_115_114, jj_115_116, jj_115_117, jj_116_98, jj_116_99, jj_116_100, jj_116_111, jj_116_112, jj_116_114, jj_116_115, jj_116_117, jj_117_98, jj_117_99, jj_117_100, jj_117_111, jj_117_112, jj_117_114, jj_117_115, jj_117_116, jj_0_m1, jj_0_m2, jj_0_m3, jj_0_m9, jj_m1_m2, jj_m1_m3, jj_m1_m9, jj_m2_m1, jj_m2_m3, jj_m2_m9, jj_m3_m1, jj_m3_m2, jj_m3_m9, jj_6_m1, jj_6_m2, jj_6_m3, jj_6_m9, jj_m9_m1, jj_m9_m2, jj_m9_m3, ↓q_kb, ↓q_kd, ↓q_kg, ↓q_out, true_and, and_true, if_true, if_false, reduceIte, and_self, false_and, and_false, or_false, false_or, true_or, or_true, not_true_eq_false, not_false_eq_true, ne_eq, reduceCtorEq, Nat.reduceLT, Nat.reduceEqDiff, Nat.reduceLeDiff, Nat.reduceAdd, eq_self, ii_0_1, ii_0_2, ii_0_3, ii_0_4, ii_1_0, ii_1_2, ii_1_3, ii_1_4, il_1, ii_2_0, ii_2_1, ii_2_3, ii_2_4, il_2, ii_3_0, ii_3_1, ii_3_2, ii_3_4, il_3, ii_4_0, ii_4_1, ii_4_2, ii_4_3, il_4, il_0, ie_0_1, ie_0_2, ie_0_3, ie_0_4, ie_0_5, ie_1_0, ie_1_2, ie_1_3, ie_1_4, ie_1_5, ie_2_0, ie_2_1, ie_2_3, ie_2_4, ie_2_5, ie_3_0, ie_3_1, ie_3_2, ie_3_4, ie_3_5, ie_4_0, ie_4_1, ie_4_2, ie_4_3, ie_4_5, ie_5_0, ie_5_1, ie_5_2, ie_5_3, ie_5_4, ↓e_Is', ↓e_GetI, ↓e_GetF, ↓e_PutI, ↓e_PutF, ↓e_PutR, ↓e_Ald, ↓e_Ast, ↓e_Aldq, gL_sV, gV_sV, gR_sV, gN_sV, gJ_sV, gD_sV, gL_sR, gV_sR, gR_sR, gN_sR, gJ_sR, gD_sR, gL_sJ, gV_sJ, gR_sJ, gN_sJ, gJ_sJ, gL_sD, gV_sD, gR_sD, gN_sD, gD_sD, hr_0, hr_s, WF_sV, WF_sJ, WF_sD, gL_sF, gV_sF, gR_sF, gN_sF, gL_sG, gV_sG, gR_sG, gN_sG, WF_sF, ↓eR_1_2, ↓eR_1_5, ↓eR_1_6, ↓eR_2_3, ↓eR_3_2, ↓eR_4_1, ↓eR_6_0, ↓eR_9_0, ↓eR_20_0, ↓eR_22_0, sL_7, ↓s7_0, ↓s7_1, ↓s7_2, ↓s7_3, ↓s7_4, ↓s7_5, ↓s7_6, P0_sV, P0_sJ, P0_sD, hcl_1, hok_1_0, hok_1_1, hok_1_2, hok_1_3, hok_1_4, hok_1_5, hok_1_6, hok_1_7, hok_1_8, hok_1_9, hok_1_10, hok_1_11, hok_1_12, hok_1_13, hok_1_14, hok_1_15, hcl_2, hok_2_0, hok_2_1, hok_2_2, hok_2_3, hok_2_4, hok_2_5, hcl_3, hok_3_0, hok_3_1, hok_3_2, hcl_4, hok_4_0, hok_4_1, hok_4_2, hok_4_3, hcl_5, hok_5_0, hok_5_1, hok_5_2, hcl_6, hok_6_0, hok_6_1, hcl_7, hok_7_0, hok_7_1, hok_7_2, hok_7_3, hok_7_4, hok_7_5, hok_7_6, hok_7_7, hok_7_8, hok_7_9, hok_7_10, hok_7_11, hok_7_12, hcl_9, hok_9_0, hok_9_1, hok_9_2, hok_9_3, hcl_20, hok_20_0, hok_20_1, hcl_22, hok_22_0, hok_22_1, hcl_30, hok_30_0, hok_30_1, hok_30_2, hcl_31, hok_31_0, hok_31_1, hok_31_2, hcl_32, hok_32_0, hok_32_1, hok_32_2, hcl_33, hok_33_0, hok_33_1, hok_33_2, hak_16, hak_21, hak_23, hak_40, hak_41, hak_42, hak_43, hak_50, hak_59, ↓eL_16, ↓eL_21, ↓eL_23, ↓eL_50, ↓eL_59, W, Q, hL, h10, hL0, h12, hL3, h30, nb0, nb1, ↓if_neg hm, ↓if_neg hl, ↓if_pos ht]
    exact kf _ _ _ (by decide) (SD.mk W hx) P rfl
  unfold w_X7_addBuild
  rw [q_out, if_neg hm]
  try dsimp only
  rw [if_pos rfl, q_out, if_neg hl]
  try dsimp only
  rw [if_pos rfl, q_out, if_neg ht]
  try dsimp only
  rw [if_pos rfl]
  refine q_off hx W P (fun A1 σ1 p W2 hx1 hN P2 h0 o1 o2 o3 e5 => ?_)
  rw [← hN.1] at kf ks ⊢
  have c5 : cv σ1 = cv σ := by rw [e5]; exact cv_of5
  have R2 : RN n σ1 := RN_eq c5 R
  have e1 : gL σ1 1 = gL σ 1 := cv_L c5 rfl
  have eV : ∀ j, gV σ1 1 1 j = gV σ 1 1 j := fun j => cv_V c5 rfl
  have kf' : ∀ (r : Int32), r = -1002 ∨ r = -1003 → post r (hp A1 σ1) := fun r hr => kf _ _ r hr (SD.mk W2 hx1) P2 c5
  rw [← e1] at ks
  clear hL h10 hL0 h12 hL3 h30
  have Q := P2.1
  have hL := P2.2.2.2.2.2.2.2.2.2.1
  have h10 : gL σ1 1 ≤ 10 := P2.2.1.2.2.2.2.2.2.2.2.1
  rw [e_Is' W2 (sL_7 Q) hcl_7]
  by_cases hb : (v < 1 ∨ 999 < v) ∨ (z < 1 ∨ 500 < z) ∨ (q < 0 ∨ 15 < q)
  · rw [q_adf hb]
    simp (config := { maxSteps := 1000000 }) only [true_and, and_true, if_true, if_false, reduceIte, and_self, false_and, and_false, or_false, false_or, true_or, or_true, not_true_eq_false, not_false_eq_true, ne_eq, reduceCtorEq, Nat.reduceLT, Nat.reduceEqDiff, Nat.reduceLeDiff, Nat.reduceAdd, eq_self, ii_0_1, ii_0_2, ii_0_3, ii_0_4, ii_1_0, ii_1_2, ii_1_3, ii_1_4, il_1, ii_2_0, ii_2_1, ii_2_3, ii_2_4, il_2, ii_3_0, ii_3_1, ii_3_2, ii_3_4, il_3, ii_4_0, ii_4_1, ii_4_2, ii_4_3, il_4, il_0, ie_0_1, ie_0_2, ie_0_3, ie_0_4, ie_0_5, ie_1_0, ie_1_2, ie_1_3, ie_1_4, ie_1_5, ie_2_0, ie_2_1, ie_2_3, ie_2_4, ie_2_5, ie_3_0, ie_3_1, ie_3_2, ie_3_4, ie_3_5, ie_4_0, ie_4_1, ie_4_2, ie_4_3, ie_4_5, ie_5_0, ie_5_1, ie_5_2, ie_5_3, ie_5_4]
    exact kf' _ (by decide)
  · have hv : ¬ (v < 1 ∨ 999 < v) := fun y => hb (Or.inl y)
    have hz : ¬ (z < 1 ∨ 500 < z) := fun y => hb (Or.inr (Or.inl y))
    have hq : ¬ (q < 0 ∨ 15 < q) := fun y => hb (Or.inr (Or.inr y))
    by_cases hex : ∃ j, j < gL σ1 1 ∧ gV σ1 1 1 j = v
    · rw [q_ads W2 Q hL h10 hv hz hq (Or.inl hex)]
      simp (config := { maxSteps := 1000000 }) only [true_and, and_true, if_true, if_false, reduceIte, and_self, false_and, and_false, or_false, false_or, true_or, or_true, not_true_eq_false, not_false_eq_true, ne_eq, reduceCtorEq, Nat.reduceLT, Nat.reduceEqDiff, Nat.reduceLeDiff, Nat.reduceAdd, eq_self, ii_0_1, ii_0_2, ii_0_3, ii_0_4, ii_1_0, ii_1_2, ii_1_3, ii_1_4, il_1, ii_2_0, ii_2_1, ii_2_3, ii_2_4, il_2, ii_3_0, ii_3_1, ii_3_2, ii_3_4, il_3, ii_4_0, ii_4_1, ii_4_2, ii_4_3, il_4, il_0, ie_0_1, ie_0_2, ie_0_3, ie_0_4, ie_0_5, ie_1_0, ie_1_2, ie_1_3, ie_1_4, ie_1_5, ie_2_0, ie_2_1, ie_2_3, ie_2_4, ie_2_5, ie_3_0, ie_3_1, ie_3_2, ie_3_4, ie_3_5, ie_4_0, ie_4_1, ie_4_2, ie_4_3, ie_4_5, ie_5_0, ie_5_1, ie_5_2, ie_5_3, ie_5_4]
      exact kf' _ (by decide)
    · have hno : ∀ j, j < gL σ1 1 → ¬ gV σ1 1 1 j = v := fun j hj e => hex ⟨j, hj, e⟩
      by_cases hn : gL σ1 1 < 10
      · have hq1 := q_adr (X := X) (px := (fun E g9 => if E = "java/util/NoSuchElementException" then post (-1001 : Int32) g9 else (if E = "java/lang/IllegalArgumentException" then post (-1002 : Int32) g9 else (if E = "java/lang/IllegalStateException" then post (-1003 : Int32) g9 else (False))))) (post := post) (p := p) (r := 0) hx1 W2 Q hL hn hv hz hq h0 (Nat.zero_le _) hno (fun A' κ W' hx' hN' QK H0 kk1 => by
          have H := H0 0
          have P' : PI (BdF σ1 (sV (sJ κ 0) 8 36 0 0) m l t v z q (-1)) := pi_bd (y := -1) (m := m) (l := l) (t := t) W2 P2 H hv h0 (Nat.zero_le _) hno o1 o2 o3 (by decide) (fun y => absurd rfl y)
          refine ks (BdF σ1 (sV (sJ κ 0) 8 36 0 0) m l t v z q (-1)) _ (SD.gh (κ := sV (sJ κ 0) 8 36 0 0) (SD.gV (k := 8) (f := 36) (i := 0) (x := 0) (SD.gJ (x := 0) ⟨A', W', hx', by rw [hN'.1], rfl⟩) rfl) (fun _ => rfl) (fun k f i hk => BdF_rk hk) (fun _ _ _ => rfl) (fun _ _ => rfl)) P' (RN_bd P2 R2 H rfl rfl (fun k f i hk => BdF_rk hk)) H.2.2.2.2.2.2.1.1 ?_
          rw [BdF_rk rfl, H.2.2.2.2.2.2.2.2.2.2.2.1, if_pos rfl])
        exact hq1
      · rw [q_ads W2 Q hL h10 hv hz hq (Or.inr ⟨hno, hn⟩)]
        simp (config := { maxSteps := 1000000 }) only [true_and, and_true, if_true, if_false, reduceIte, and_self, false_and, and_false, or_false, false_or, true_or, or_true, not_true_eq_false, not_false_eq_true, ne_eq, reduceCtorEq, Nat.reduceLT, Nat.reduceEqDiff, Nat.reduceLeDiff, Nat.reduceAdd, eq_self, ii_0_1, ii_0_2, ii_0_3, ii_0_4, ii_1_0, ii_1_2, ii_1_3, ii_1_4, il_1, ii_2_0, ii_2_1, ii_2_3, ii_2_4, il_2, ii_3_0, ii_3_1, ii_3_2, ii_3_4, il_3, ii_4_0, ii_4_1, ii_4_2, ii_4_3, il_4, il_0, ie_0_1, ie_0_2, ie_0_3, ie_0_4, ie_0_5, ie_1_0, ie_1_2, ie_1_3, ie_1_4, ie_1_5, ie_2_0, ie_2_1, ie_2_3, ie_2_4, ie_2_5, ie_3_0, ie_3_1, ie_3_2, ie_3_4, ie_3_5, ie_4_0, ie_4_1, ie_4_2, ie_4_3, ie_4_5, ie_5_0, ie_5_1, ie_5_2, ie_5_3, ie_5_4]
        exact kf' _ (by decide)
theorem DvF_rk {κ : St} {m l u : Int32} {x : Int64} {k f i : Nat} (h : rk k = true) : gV (DvF σ κ m l u x) k f i = gV κ k f i := by
  have hk : k < 60 ∧ k ≠ 8 := by
    unfold rk at h
    simpa only [Bool.and_eq_true, decide_eq_true_eq] using h
  unfold DvF
  simp only [gV_sV, gV_sJ]
  rw [if_neg (by omega), if_neg (by omega), if_neg (by omega), if_neg (by omega), if_neg (by omega), if_neg (by omega)]
set_option maxHeartbeats 8000000 in
theorem o_dev {m l u : Int32} (S : SD X o σ g) (P : PI σ) (R : RN n σ) (kf : ∀ r : Int32, r = -1002 ∨ r = -1003 → post r g) (ks : ∀ (τ : St) (g' : GM), SD X o τ g' → PI τ → RN n τ → post (nI (gL σ 2)) g') : w_L_three X post px o 100 m l u g := by
  obtain ⟨A, W, hx, rfl, rfl⟩ := S
  have Q := P.1
  have hL := P.2.2.2.2.2.2.2.2.2.1
  have h10 : gL σ 1 ≤ 10 := P.2.1.2.2.2.2.2.2.2.2.1
  have hL0 := P.2.2.2.2.2.2.2.1
  have h12 : gL σ 2 ≤ 12 := P.2.1.2.2.2.2.2.2.2.1
  have hL3 := P.2.2.2.2.2.2.2.2.2.2
  have h30 : gL σ 4 ≤ 30 := P.2.1.2.2.2.2.2.2.2.2.2
  by_cases hm : m < 0 ∨ 5 < m
  · simp (config := { maxSteps := 1000000 }) only [↓w_L_three_b25.eq_1, ↓w_L_three.eq_1, ↓w_X7_addDevice_b28.eq_1, ↓w_X7_addDevice.eq_1, jj_0_1, jj_0_2, jj_0_3, jj_0_4, jj_0_5, jj_0_6, jj_0_7, jj_0_8, jj_1_0, jj_1_2, jj_1_3, jj_1_4, jj_1_5, jj_1_6, jj_1_7, jj_1_8, jj_2_0, jj_2_1, jj_2_3, jj_2_4, jj_2_5, jj_2_6, jj_2_7, jj_2_8, jj_3_0, jj_3_1, jj_3_2, jj_3_4, jj_3_5, jj_3_6, jj_3_7, jj_3_8, jj_4_0, jj_4_1, jj_4_2, jj_4_3, jj_4_5, jj_4_6, jj_4_7, jj_4_8, jj_5_0, jj_5_1, jj_5_2, jj_5_3, jj_5_4, jj_5_6, jj_5_7, jj_5_8, jj_6_0, jj_6_1, jj_6_2, jj_6_3, jj_6_4, jj_6_5, jj_6_7, jj_6_8, jj_7_0, jj_7_1, jj_7_2, jj_7_3, jj_7_4, jj_7_5, jj_7_6, jj_7_8, jj_8_0, jj_8_1, jj_8_2, jj_8_3, jj_8_4, jj_8_5, jj_8_6, jj_8_7, jj_9_0, jj_9_1, jj_9_2, jj_9_3, jj_9_4, jj_9_5, jj_9_6, jj_9_7, jj_9_8, jj_98_99, jj_98_100, jj_98_111, jj_98_112, jj_98_114, jj_98_115, jj_98_116, jj_98_117, jj_99_98, jj_99_100, jj_99_111, jj_99_112, jj_99_114, jj_99_115, jj_99_116, jj_99_117, jj_100_98, jj_100_99, jj_100_111, jj_100_112, jj_100_114, jj_100_115, jj_100_116, jj_100_117, jj_111_98, jj_111_99, jj_111_100, jj_111_112, jj_111_114, jj_111_115, jj_111_116, jj_111_117, jj_112_98, jj_112_99, jj_112_100, jj_112_111, jj_112_114, jj_112_115, jj_112_116, jj_112_117, jj_114_98, jj_114_99, jj_114_100, jj_114_111, jj_114_112, jj_114_115, jj_114_116, jj_114_117, jj_115_98, jj_115_99, jj_115_100, jj_115_111, jj_115_112, jj_115_114, jj_115_116, jj_115_117, jj_116_98, jj_116_99, jj_116_100, jj_116_111, jj_116_112, jj_116_114, jj_116_115, jj_116_117, jj_117_98, jj_117_99, jj_117_100, jj_117_111, jj_117_112, jj_117_114, jj_117_115, jj_117_116, jj_0_m1, jj_0_m2, jj_0_m3, jj_0_m9, jj_m1_m2, jj_m1_m3, jj_m1_m9, jj_m2_m1, jj_m2_m3, jj_m2_m9, jj_m3_m1, jj_m3_m2, jj_m3_m9, jj_6_m1, jj_6_m2, jj_6_m3, jj_6_m9, jj_m9_m1, jj_m9_m2, jj_m9_m3, ↓q_kb, ↓q_kd, ↓q_kg, ↓q_out, true_and, and_true, if_true, if_false, reduceIte, and_self, false_and, and_false, or_false, false_or, true_or, or_true, not_true_eq_false, not_false_eq_true, ne_eq, reduceCtorEq, Nat.reduceLT, Nat.reduceEqDiff, Nat.reduceLeDiff, Nat.reduceAdd, eq_self, ii_0_1, ii_0_2, ii_0_3, ii_0_4, ii_1_0, ii_1_2, ii_1_3, ii_1_4, il_1, ii_2_0, ii_2_1, ii_2_3, ii_2_4, il_2, ii_3_0, ii_3_1, ii_3_2, ii_3_4, il_3, ii_4_0, ii_4_1, ii_4_2, ii_4_3, il_4, il_0, ie_0_1, ie_0_2, ie_0_3, ie_0_4, ie_0_5, ie_1_0, ie_1_2, ie_1_3, ie_1_4, ie_1_5, ie_2_0, ie_2_1, ie_2_3, ie_2_4, ie_2_5, ie_3_0, ie_3_1, ie_3_2, ie_3_4, ie_3_5, ie_4_0, ie_4_1, ie_4_2, ie_4_3, ie_4_5, ie_5_0, ie_5_1, ie_5_2, ie_5_3, ie_5_4, ↓e_Is', ↓e_GetI, ↓e_GetF, ↓e_PutI, ↓e_PutF, ↓e_PutR, ↓e_Ald, ↓e_Ast, ↓e_Aldq, gL_sV, gV_sV, gR_sV, gN_sV, gJ_sV, gD_sV, gL_sR, gV_sR, gR_sR, gN_sR, gJ_sR, gD_sR, gL_sJ, gV_sJ, gR_sJ, gN_sJ, gJ_sJ, gL_sD, gV_sD, gR_sD, gN_sD, gD_sD, hr_0, hr_s, WF_sV, WF_sJ, WF_sD, gL_sF, gV_sF, gR_sF, gN_sF, gL_sG, gV_sG, gR_sG, gN_sG, WF_sF, ↓eR_1_2, ↓eR_1_5, ↓eR_1_6, ↓eR_2_3, ↓eR_3_2, ↓eR_4_1, ↓eR_6_0, ↓eR_9_0, ↓eR_20_0, ↓eR_22_0, sL_7, ↓s7_0, ↓s7_1, ↓s7_2, ↓s7_3, ↓s7_4, ↓s7_5, ↓s7_6, P0_sV, P0_sJ, P0_sD, hcl_1, hok_1_0, hok_1_1, hok_1_2, hok_1_3, hok_1_4, hok_1_5, hok_1_6, hok_1_7, hok_1_8, hok_1_9, hok_1_10, hok_1_11, hok_1_12, hok_1_13, hok_1_14, hok_1_15, hcl_2, hok_2_0, hok_2_1, hok_2_2, hok_2_3, hok_2_4, hok_2_5, hcl_3, hok_3_0, hok_3_1, hok_3_2, hcl_4, hok_4_0, hok_4_1, hok_4_2, hok_4_3, hcl_5, hok_5_0, hok_5_1, hok_5_2, hcl_6, hok_6_0, hok_6_1, hcl_7, hok_7_0, hok_7_1, hok_7_2, hok_7_3, hok_7_4, hok_7_5, hok_7_6, hok_7_7, hok_7_8, hok_7_9, hok_7_10, hok_7_11, hok_7_12, hcl_9, hok_9_0, hok_9_1, hok_9_2, hok_9_3, hcl_20, hok_20_0, hok_20_1, hcl_22, hok_22_0, hok_22_1, hcl_30, hok_30_0, hok_30_1, hok_30_2, hcl_31, hok_31_0, hok_31_1, hok_31_2, hcl_32, hok_32_0, hok_32_1, hok_32_2, hcl_33, hok_33_0, hok_33_1, hok_33_2, hak_16, hak_21, hak_23, hak_40, hak_41, hak_42, hak_43, hak_50, hak_59, ↓eL_16, ↓eL_21, ↓eL_23, ↓eL_50, ↓eL_59, W, Q, hL, h10, hL0, h12, hL3, h30, nb0, nb1, ↓if_pos hm]
    exact kf _ (by decide)
  by_cases hl : l < 0 ∨ 2 < l
  · simp (config := { maxSteps := 1000000 }) only [↓w_L_three_b25.eq_1, ↓w_L_three.eq_1, ↓w_X7_addDevice_b28.eq_1, ↓w_X7_addDevice.eq_1, jj_0_1, jj_0_2, jj_0_3, jj_0_4, jj_0_5, jj_0_6, jj_0_7, jj_0_8, jj_1_0, jj_1_2, jj_1_3, jj_1_4, jj_1_5, jj_1_6, jj_1_7, jj_1_8, jj_2_0, jj_2_1, jj_2_3, jj_2_4, jj_2_5, jj_2_6, jj_2_7, jj_2_8, jj_3_0, jj_3_1, jj_3_2, jj_3_4, jj_3_5, jj_3_6, jj_3_7, jj_3_8, jj_4_0, jj_4_1, jj_4_2, jj_4_3, jj_4_5, jj_4_6, jj_4_7, jj_4_8, jj_5_0, jj_5_1, jj_5_2, jj_5_3, jj_5_4, jj_5_6, jj_5_7, jj_5_8, jj_6_0, jj_6_1, jj_6_2, jj_6_3, jj_6_4, jj_6_5, jj_6_7, jj_6_8, jj_7_0, jj_7_1, jj_7_2, jj_7_3, jj_7_4, jj_7_5, jj_7_6, jj_7_8, jj_8_0, jj_8_1, jj_8_2, jj_8_3, jj_8_4, jj_8_5, jj_8_6, jj_8_7, jj_9_0, jj_9_1, jj_9_2, jj_9_3, jj_9_4, jj_9_5, jj_9_6, jj_9_7, jj_9_8, jj_98_99, jj_98_100, jj_98_111, jj_98_112, jj_98_114, jj_98_115, jj_98_116, jj_98_117, jj_99_98, jj_99_100, jj_99_111, jj_99_112, jj_99_114, jj_99_115, jj_99_116, jj_99_117, jj_100_98, jj_100_99, jj_100_111, jj_100_112, jj_100_114, jj_100_115, jj_100_116, jj_100_117, jj_111_98, jj_111_99, jj_111_100, jj_111_112, jj_111_114, jj_111_115, jj_111_116, jj_111_117, jj_112_98, jj_112_99, jj_112_100, jj_112_111, jj_112_114, jj_112_115, jj_112_116, jj_112_117, jj_114_98, jj_114_99, jj_114_100, jj_114_111, jj_114_112, jj_114_115, jj_114_116, jj_114_117, jj_115_98, jj_115_99, jj_115_100, jj_115_111, jj_115_112, jj_115_114, jj_115_116, jj_115_117, jj_116_98, jj_116_99, jj_116_100, jj_116_111, jj_116_112, jj_116_114, jj_116_115, jj_116_117, jj_117_98, jj_117_99, jj_117_100, jj_117_111, jj_117_112, jj_117_114, jj_117_115, jj_117_116, jj_0_m1, jj_0_m2, jj_0_m3, jj_0_m9, jj_m1_m2, jj_m1_m3, jj_m1_m9, jj_m2_m1, jj_m2_m3, jj_m2_m9, jj_m3_m1, jj_m3_m2, jj_m3_m9, jj_6_m1, jj_6_m2, jj_6_m3, jj_6_m9, jj_m9_m1, jj_m9_m2, jj_m9_m3, ↓q_kb, ↓q_kd, ↓q_kg, ↓q_out, true_and, and_true, if_true, if_false, reduceIte, and_self, false_and, and_false, or_false, false_or, true_or, or_true, not_true_eq_false, not_false_eq_true, ne_eq, reduceCtorEq, Nat.reduceLT, Nat.reduceEqDiff, Nat.reduceLeDiff, Nat.reduceAdd, eq_self, ii_0_1, ii_0_2, ii_0_3, ii_0_4, ii_1_0, ii_1_2, ii_1_3, ii_1_4, il_1, ii_2_0, ii_2_1, ii_2_3, ii_2_4, il_2, ii_3_0, ii_3_1, ii_3_2, ii_3_4, il_3, ii_4_0, ii_4_1, ii_4_2, ii_4_3, il_4, il_0, ie_0_1, ie_0_2, ie_0_3, ie_0_4, ie_0_5, ie_1_0, ie_1_2, ie_1_3, ie_1_4, ie_1_5, ie_2_0, ie_2_1, ie_2_3, ie_2_4, ie_2_5, ie_3_0, ie_3_1, ie_3_2, ie_3_4, ie_3_5, ie_4_0, ie_4_1, ie_4_2, ie_4_3, ie_4_5, ie_5_0, ie_5_1, ie_5_2, ie_5_3, ie_5_4, ↓e_Is', ↓e_GetI, ↓e_GetF, ↓e_PutI, ↓e_PutF, ↓e_PutR, ↓e_Ald, ↓e_Ast, ↓e_Aldq, gL_sV, gV_sV, gR_sV, gN_sV, gJ_sV, gD_sV, gL_sR, gV_sR, gR_sR, gN_sR, gJ_sR, gD_sR, gL_sJ, gV_sJ, gR_sJ, gN_sJ, gJ_sJ, gL_sD, gV_sD, gR_sD, gN_sD, gD_sD, hr_0, hr_s, WF_sV, WF_sJ, WF_sD, gL_sF, gV_sF, gR_sF, gN_sF, gL_sG, gV_sG, gR_sG, gN_sG, WF_sF, ↓eR_1_2, ↓eR_1_5, ↓eR_1_6, ↓eR_2_3, ↓eR_3_2, ↓eR_4_1, ↓eR_6_0, ↓eR_9_0, ↓eR_20_0, ↓eR_22_0, sL_7, ↓s7_0, ↓s7_1, ↓s7_2, ↓s7_3, ↓s7_4, ↓s7_5, ↓s7_6, P0_sV, P0_sJ, P0_sD, hcl_1, hok_1_0, hok_1_1, hok_1_2, hok_1_3, hok_1_4, hok_1_5, hok_1_6, hok_1_7, hok_1_8, hok_1_9, hok_1_10, hok_1_11, hok_1_12, hok_1_13, hok_1_14, hok_1_15, hcl_2, hok_2_0, hok_2_1, hok_2_2, hok_2_3, hok_2_4, hok_2_5, hcl_3, hok_3_0, hok_3_1, hok_3_2, hcl_4, hok_4_0, hok_4_1, hok_4_2, hok_4_3, hcl_5, hok_5_0, hok_5_1, hok_5_2, hcl_6, hok_6_0, hok_6_1, hcl_7, hok_7_0, hok_7_1, hok_7_2, hok_7_3, hok_7_4, hok_7_5, hok_7_6, hok_7_7, hok_7_8, hok_7_9, hok_7_10, hok_7_11, hok_7_12, hcl_9, hok_9_0, hok_9_1, hok_9_2, hok_9_3, hcl_20, hok_20_0, hok_20_1, hcl_22, hok_22_0, hok_22_1, hcl_30, hok_30_0, hok_30_1, hok_30_2, hcl_31, hok_31_0, hok_31_1, hok_31_2, hcl_32, hok_32_0, hok_32_1, hok_32_2, hcl_33, hok_33_0, hok_33_1, hok_33_2, hak_16, hak_21, hak_23, hak_40, hak_41, hak_42, hak_43, hak_50, hak_59, ↓eL_16, ↓eL_21, ↓eL_23, ↓eL_50, ↓eL_59, W, Q, hL, h10, hL0, h12, hL3, h30, nb0, nb1, ↓if_neg hm, ↓if_pos hl]
    exact kf _ (by decide)
  by_cases hu : u < 0 ∨ 99 < u
  · simp (config := { maxSteps := 1000000 }) only [↓w_L_three_b25.eq_1, ↓w_L_three.eq_1, ↓w_X7_addDevice_b28.eq_1, ↓w_X7_addDevice.eq_1, jj_0_1, jj_0_2, jj_0_3, jj_0_4, jj_0_5, jj_0_6, jj_0_7, jj_0_8, jj_1_0, jj_1_2, jj_1_3, jj_1_4, jj_1_5, jj_1_6, jj_1_7, jj_1_8, jj_2_0, jj_2_1, jj_2_3, jj_2_4, jj_2_5, jj_2_6, jj_2_7, jj_2_8, jj_3_0, jj_3_1, jj_3_2, jj_3_4, jj_3_5, jj_3_6, jj_3_7, jj_3_8, jj_4_0, jj_4_1, jj_4_2, jj_4_3, jj_4_5, jj_4_6, jj_4_7, jj_4_8, jj_5_0, jj_5_1, jj_5_2, jj_5_3, jj_5_4, jj_5_6, jj_5_7, jj_5_8, jj_6_0, jj_6_1, jj_6_2, jj_6_3, jj_6_4, jj_6_5, jj_6_7, jj_6_8, jj_7_0, jj_7_1, jj_7_2, jj_7_3, jj_7_4, jj_7_5, jj_7_6, jj_7_8, jj_8_0, jj_8_1, jj_8_2, jj_8_3, jj_8_4, jj_8_5, jj_8_6, jj_8_7, jj_9_0, jj_9_1, jj_9_2, jj_9_3, jj_9_4, jj_9_5, jj_9_6, jj_9_7, jj_9_8, jj_98_99, jj_98_100, jj_98_111, jj_98_112, jj_98_114, jj_98_115, jj_98_116, jj_98_117, jj_99_98, jj_99_100, jj_99_111, jj_99_112, jj_99_114, jj_99_115, jj_99_116, jj_99_117, jj_100_98, jj_100_99, jj_100_111, jj_100_112, jj_100_114, jj_100_115, jj_100_116, jj_100_117, jj_111_98, jj_111_99, jj_111_100, jj_111_112, jj_111_114, jj_111_115, jj_111_116, jj_111_117, jj_112_98, jj_112_99, jj_112_100, jj_112_111, jj_112_114, jj_112_115, jj_112_116, jj_112_117, jj_114_98, jj_114_99, jj_114_100, jj_114_111, jj_114_112, jj_114_115, jj_114_116, jj_114_117, jj_115_98, jj_115_99, jj_115_100, jj_115_111, jj_115_112, jj_115_114, jj_115_116, jj_115_117, jj_116_98, jj_116_99, jj_116_100, jj_116_111, jj_116_112, jj_116_114, jj_116_115, jj_116_117, jj_117_98, jj_117_99, jj_117_100, jj_117_111, jj_117_112, jj_117_114, jj_117_115, jj_117_116, jj_0_m1, jj_0_m2, jj_0_m3, jj_0_m9, jj_m1_m2, jj_m1_m3, jj_m1_m9, jj_m2_m1, jj_m2_m3, jj_m2_m9, jj_m3_m1, jj_m3_m2, jj_m3_m9, jj_6_m1, jj_6_m2, jj_6_m3, jj_6_m9, jj_m9_m1, jj_m9_m2, jj_m9_m3, ↓q_kb, ↓q_kd, ↓q_kg, ↓q_out, true_and, and_true, if_true, if_false, reduceIte, and_self, false_and, and_false, or_false, false_or, true_or, or_true, not_true_eq_false, not_false_eq_true, ne_eq, reduceCtorEq, Nat.reduceLT, Nat.reduceEqDiff, Nat.reduceLeDiff, Nat.reduceAdd, eq_self, ii_0_1, ii_0_2, ii_0_3, ii_0_4, ii_1_0, ii_1_2, ii_1_3, ii_1_4, il_1, ii_2_0, ii_2_1, ii_2_3, ii_2_4, il_2, ii_3_0, ii_3_1, ii_3_2, ii_3_4, il_3, ii_4_0, ii_4_1, ii_4_2, ii_4_3, il_4, il_0, ie_0_1, ie_0_2, ie_0_3, ie_0_4, ie_0_5, ie_1_0, ie_1_2, ie_1_3, ie_1_4, ie_1_5, ie_2_0, ie_2_1, ie_2_3, ie_2_4, ie_2_5, ie_3_0, ie_3_1, ie_3_2, ie_3_4, ie_3_5, ie_4_0, ie_4_1, ie_4_2, ie_4_3, ie_4_5, ie_5_0, ie_5_1, ie_5_2, ie_5_3, ie_5_4, ↓e_Is', ↓e_GetI, ↓e_GetF, ↓e_PutI, ↓e_PutF, ↓e_PutR, ↓e_Ald, ↓e_Ast, ↓e_Aldq, gL_sV, gV_sV, gR_sV, gN_sV, gJ_sV, gD_sV, gL_sR, gV_sR, gR_sR, gN_sR, gJ_sR, gD_sR, gL_sJ, gV_sJ, gR_sJ, gN_sJ, gJ_sJ, gL_sD, gV_sD, gR_sD, gN_sD, gD_sD, hr_0, hr_s, WF_sV, WF_sJ, WF_sD, gL_sF, gV_sF, gR_sF, gN_sF, gL_sG, gV_sG, gR_sG, gN_sG, WF_sF, ↓eR_1_2, ↓eR_1_5, ↓eR_1_6, ↓eR_2_3, ↓eR_3_2, ↓eR_4_1, ↓eR_6_0, ↓eR_9_0, ↓eR_20_0, ↓eR_22_0, sL_7, ↓s7_0, ↓s7_1, ↓s7_2, ↓s7_3, ↓s7_4, ↓s7_5, ↓s7_6, P0_sV, P0_sJ, P0_sD, hcl_1, hok_1_0, hok_1_1, hok_1_2, hok_1_3, hok_1_4, hok_1_5, hok_1_6, hok_1_7, hok_1_8, hok_1_9, hok_1_10, hok_1_11, hok_1_12, hok_1_13, hok_1_14, hok_1_15, hcl_2, hok_2_0, hok_2_1, hok_2_2, hok_2_3, hok_2_4, hok_2_5, hcl_3, hok_3_0, hok_3_1, hok_3_2, hcl_4, hok_4_0, hok_4_1, hok_4_2, hok_4_3, hcl_5, hok_5_0, hok_5_1, hok_5_2, hcl_6, hok_6_0, hok_6_1, hcl_7, hok_7_0, hok_7_1, hok_7_2, hok_7_3, hok_7_4, hok_7_5, hok_7_6, hok_7_7, hok_7_8, hok_7_9, hok_7_10, hok_7_11, hok_7_12, hcl_9, hok_9_0, hok_9_1, hok_9_2, hok_9_3, hcl_20, hok_20_0, hok_20_1, hcl_22, hok_22_0, hok_22_1, hcl_30, hok_30_0, hok_30_1, hok_30_2, hcl_31, hok_31_0, hok_31_1, hok_31_2, hcl_32, hok_32_0, hok_32_1, hok_32_2, hcl_33, hok_33_0, hok_33_1, hok_33_2, hak_16, hak_21, hak_23, hak_40, hak_41, hak_42, hak_43, hak_50, hak_59, ↓eL_16, ↓eL_21, ↓eL_23, ↓eL_50, ↓eL_59, W, Q, hL, h10, hL0, h12, hL3, h30, nb0, nb1, ↓if_neg hm, ↓if_neg hl, ↓if_pos hu]
    exact kf _ (by decide)
  by_cases hn : gL σ 2 < 12
  · unfold w_L_three
    rw [if_pos rfl, e_Is' W (sL_7 Q) hcl_7]
    refine q_add hx W P hm hl hu hn (fun A' τ j W' hx' hN hL3 hj c1 c2 => ?_) (fun A' τ τ' W' hx' hN hL3 hL5 hno => ?_)
    · have P' := pi_dv1 (x := 0) P hn hL3 hj c1 c2
      exact ks (DvF σ (chS (mx 30 (dv σ m l u) τ) 22 (j + 1) u 1) m l u 0) _ (SD.gh ⟨A', W', hx', by rw [hN.1], rfl⟩ (fun _ => rfl) (fun k f i hk => DvF_rk hk) (fun _ _ _ => rfl) (fun _ _ => rfl)) P' R
    · have P' := pi_dv2 (x := 0) (j := 0) P hn hL3 hL5 hno
      exact ks (DvF σ (chS (mx 31 (nk (mx 30 (dv σ m l u) τ) m l) τ') 22 (gL σ 3 + 1) u 1) m l u 0) _ (SD.gh ⟨A', W', hx', by rw [hN.1], rfl⟩ (fun _ => rfl) (fun k f i hk => DvF_rk hk) (fun _ _ _ => rfl) (fun _ _ => rfl)) P' R
  · have hne : (nI (gL σ 2) < 12) = False := eq_false (by rw [show gL σ 2 = 12 by omega]; decide)
    simp (config := { maxSteps := 1000000 }) only [↓w_L_three_b25.eq_1, ↓w_L_three.eq_1, ↓w_X7_addDevice_b28.eq_1, ↓w_X7_addDevice.eq_1, jj_0_1, jj_0_2, jj_0_3, jj_0_4, jj_0_5, jj_0_6, jj_0_7, jj_0_8, jj_1_0, jj_1_2, jj_1_3, jj_1_4, jj_1_5, jj_1_6, jj_1_7, jj_1_8, jj_2_0, jj_2_1, jj_2_3, jj_2_4, jj_2_5, jj_2_6, jj_2_7, jj_2_8, jj_3_0, jj_3_1, jj_3_2, jj_3_4, jj_3_5, jj_3_6, jj_3_7, jj_3_8, jj_4_0, jj_4_1, jj_4_2, jj_4_3, jj_4_5, jj_4_6, jj_4_7, jj_4_8, jj_5_0, jj_5_1, jj_5_2, jj_5_3, jj_5_4, jj_5_6, jj_5_7, jj_5_8, jj_6_0, jj_6_1, jj_6_2, jj_6_3, jj_6_4, jj_6_5, jj_6_7, jj_6_8, jj_7_0, jj_7_1, jj_7_2, jj_7_3, jj_7_4, jj_7_5, jj_7_6, jj_7_8, jj_8_0, jj_8_1, jj_8_2, jj_8_3, jj_8_4, jj_8_5, jj_8_6, jj_8_7, jj_9_0, jj_9_1, jj_9_2, jj_9_3, jj_9_4, jj_9_5, jj_9_6, jj_9_7, jj_9_8, jj_98_99, jj_98_100, jj_98_111, jj_98_112, jj_98_114, jj_98_115, jj_98_116, jj_98_117, jj_99_98, jj_99_100, jj_99_111, jj_99_112, jj_99_114, jj_99_115, jj_99_116, jj_99_117, jj_100_98, jj_100_99, jj_100_111, jj_100_112, jj_100_114, jj_100_115, jj_100_116, jj_100_117, jj_111_98, jj_111_99, jj_111_100, jj_111_112, jj_111_114, jj_111_115, jj_111_116, jj_111_117, jj_112_98, jj_112_99, jj_112_100, jj_112_111, jj_112_114, jj_112_115, jj_112_116, jj_112_117, jj_114_98, jj_114_99, jj_114_100, jj_114_111, jj_114_112, jj_114_115, jj_114_116, jj_114_117, jj_115_98, jj_115_99, jj_115_100, jj_115_111, jj_115_112, jj_115_114, jj_115_116, jj_115_117, jj_116_98, jj_116_99, jj_116_100, jj_116_111, jj_116_112, jj_116_114, jj_116_115, jj_116_117, jj_117_98, jj_117_99, jj_117_100, jj_117_111, jj_117_112, jj_117_114, jj_117_115, jj_117_116, jj_0_m1, jj_0_m2, jj_0_m3, jj_0_m9, jj_m1_m2, jj_m1_m3, jj_m1_m9, jj_m2_m1, jj_m2_m3, jj_m2_m9, jj_m3_m1, jj_m3_m2, jj_m3_m9, jj_6_m1, jj_6_m2, jj_6_m3, jj_6_m9, jj_m9_m1, jj_m9_m2, jj_m9_m3, ↓q_kb, ↓q_kd, ↓q_kg, ↓q_out, true_and, and_true, if_true, if_false, reduceIte, and_self, false_and, and_false, or_false, false_or, true_or, or_true, not_true_eq_false, not_false_eq_true, ne_eq, reduceCtorEq, Nat.reduceLT, Nat.reduceEqDiff, Nat.reduceLeDiff, Nat.reduceAdd, eq_self, ii_0_1, ii_0_2, ii_0_3, ii_0_4, ii_1_0, ii_1_2, ii_1_3, ii_1_4, il_1, ii_2_0, ii_2_1, ii_2_3, ii_2_4, il_2, ii_3_0, ii_3_1, ii_3_2, ii_3_4, il_3, ii_4_0, ii_4_1, ii_4_2, ii_4_3, il_4, il_0, ie_0_1, ie_0_2, ie_0_3, ie_0_4, ie_0_5, ie_1_0, ie_1_2, ie_1_3, ie_1_4, ie_1_5, ie_2_0, ie_2_1, ie_2_3, ie_2_4, ie_2_5, ie_3_0, ie_3_1, ie_3_2, ie_3_4, ie_3_5, ie_4_0, ie_4_1, ie_4_2, ie_4_3, ie_4_5, ie_5_0, ie_5_1, ie_5_2, ie_5_3, ie_5_4, ↓e_Is', ↓e_GetI, ↓e_GetF, ↓e_PutI, ↓e_PutF, ↓e_PutR, ↓e_Ald, ↓e_Ast, ↓e_Aldq, gL_sV, gV_sV, gR_sV, gN_sV, gJ_sV, gD_sV, gL_sR, gV_sR, gR_sR, gN_sR, gJ_sR, gD_sR, gL_sJ, gV_sJ, gR_sJ, gN_sJ, gJ_sJ, gL_sD, gV_sD, gR_sD, gN_sD, gD_sD, hr_0, hr_s, WF_sV, WF_sJ, WF_sD, gL_sF, gV_sF, gR_sF, gN_sF, gL_sG, gV_sG, gR_sG, gN_sG, WF_sF, ↓eR_1_2, ↓eR_1_5, ↓eR_1_6, ↓eR_2_3, ↓eR_3_2, ↓eR_4_1, ↓eR_6_0, ↓eR_9_0, ↓eR_20_0, ↓eR_22_0, sL_7, ↓s7_0, ↓s7_1, ↓s7_2, ↓s7_3, ↓s7_4, ↓s7_5, ↓s7_6, P0_sV, P0_sJ, P0_sD, hcl_1, hok_1_0, hok_1_1, hok_1_2, hok_1_3, hok_1_4, hok_1_5, hok_1_6, hok_1_7, hok_1_8, hok_1_9, hok_1_10, hok_1_11, hok_1_12, hok_1_13, hok_1_14, hok_1_15, hcl_2, hok_2_0, hok_2_1, hok_2_2, hok_2_3, hok_2_4, hok_2_5, hcl_3, hok_3_0, hok_3_1, hok_3_2, hcl_4, hok_4_0, hok_4_1, hok_4_2, hok_4_3, hcl_5, hok_5_0, hok_5_1, hok_5_2, hcl_6, hok_6_0, hok_6_1, hcl_7, hok_7_0, hok_7_1, hok_7_2, hok_7_3, hok_7_4, hok_7_5, hok_7_6, hok_7_7, hok_7_8, hok_7_9, hok_7_10, hok_7_11, hok_7_12, hcl_9, hok_9_0, hok_9_1, hok_9_2, hok_9_3, hcl_20, hok_20_0, hok_20_1, hcl_22, hok_22_0, hok_22_1, hcl_30, hok_30_0, hok_30_1, hok_30_2, hcl_31, hok_31_0, hok_31_1, hok_31_2, hcl_32, hok_32_0, hok_32_1, hok_32_2, hcl_33, hok_33_0, hok_33_1, hok_33_2, hak_16, hak_21, hak_23, hak_40, hak_41, hak_42, hak_43, hak_50, hak_59, ↓eL_16, ↓eL_21, ↓eL_23, ↓eL_50, ↓eL_59, W, Q, hL, h10, hL0, h12, hL3, h30, nb0, nb1, ↓if_neg hm, ↓if_neg hl, ↓if_neg hu, l_size W (Or.inl rfl) hL0, hL0.1, hne]
    exact kf _ (by decide)
theorem fin_rk {s : St} {m b k f i : Nat} (h : rk k = true) : gV (finS s m b) k f i = gV s k f i := fin_V ⟨fun z => by rw [z] at h; exact absurd h (by decide), fun z => by rw [z] at h; exact absurd h (by decide), fun z => by rw [z] at h; exact absurd h (by decide)⟩
theorem nwT_rk {s : St} {m n k f i : Nat} (h : rk k = true) : gV (nwT s m n) k f i = gV s k f i := nwT_V ⟨fun z => by rw [z] at h; exact absurd h (by decide), fun z => by rw [z] at h; exact absurd h (by decide), fun z => by rw [z] at h; exact absurd h (by decide)⟩
theorem rfX_rk {κ : St} {x : Int64} {k f i : Nat} (h : rk k = true) : gV (rfX κ x) k f i = gV κ k f i := rfX_V (fun z => by rw [z] at h; exact absurd h (by decide))
theorem cv_cr {m : Nat} : cv (sV (crS σ m) 8 33 0 0) = cv σ := by
  have H : CrH σ (crS σ m) m := crS_H
  refine cv_of (fun k _ => H.1 k) (fun k f i hk => ?_) (fun k f i _ => H.2.1 k f i)
  have y1 : k ≠ 8 := fun z => by rw [z] at hk; exact absurd hk (by decide)
  rw [gV_sV, if_neg (fun z => y1 z.1)]
  exact H.2.2.2.1 k f i ⟨fun z => by rw [z] at hk; exact absurd hk (by decide), fun z => by rw [z] at hk; exact absurd hk (by decide)⟩
theorem or_nI (a b : Nat) : nI a ||| nI b = nI (a ||| b) := Int32.toBitVec_inj.1 (by
  show BitVec.ofNat 32 a ||| BitVec.ofNat 32 b = BitVec.ofNat 32 (a ||| b)
  exact (BitVec.ofNat_or ..).symm)
theorem or_pw {q b m : Nat} (hq : q < 2 ^ m) (hb : b < m) (hm : m ≤ 10) : ∃ p, 1 ≤ p ∧ p < 2 ^ m ∧ nI q ||| ((1 : Int32) <<< (nI b &&& 31)) = nI p := by
  have h1 : (1 : Int32) <<< (nI b &&& 31) = nI (2 ^ b) := pw2 ⟨b, by omega⟩
  refine ⟨q ||| 2 ^ b, ?_, Nat.or_lt_two_pow hq (Nat.pow_lt_pow_right (by omega) hb), ?_⟩
  · have : 2 ^ b ≤ q ||| 2 ^ b := Nat.right_le_or
    have h2 : 1 ≤ 2 ^ b := Nat.one_le_two_pow
    omega
  · rw [h1]
    have hq' : q < 2 ^ 31 := Nat.lt_trans hq (by have := pw2_lt hm; omega)
    exact or_nI q (2 ^ b)
section FZ
variable {κ : St} {x : Int64} {a q m k f i : Nat}
theorem fz_L : gL (finS (rfX (oldS κ a q) x) a q) k = gL κ k := rfl
theorem fz_L2 : gL (finS (rfX (oldS κ a q) x) a q) k = gL (oldS κ a q) k := rfl
theorem fz_R : gR (finS (rfX (oldS κ a q) x) a q) k f i = gR (oldS κ a q) k f i := rfl
theorem fz_N : gN (finS (rfX (oldS κ a q) x) a q) k i = gN (oldS κ a q) k i := rfl
theorem fy_L : gL (finS (nwT (rfX (oldS κ a q) x) a m) a q) k = gL κ k := rfl
theorem fy_L2 : gL (finS (nwT (rfX (oldS κ a q) x) a m) a q) k = gL (oldS κ a q) k := rfl
theorem fy_R : gR (finS (nwT (rfX (oldS κ a q) x) a m) a q) k f i = gR (oldS κ a q) k f i := rfl
theorem fy_N : gN (finS (nwT (rfX (oldS κ a q) x) a m) a q) k i = gN (oldS κ a q) k i := rfl
end FZ
set_option maxHeartbeats 8000000 in
theorem o_crash {v : Int32} (S : SD X o σ g) (P : PI σ) (R : RN n σ) (hn1000 : n ≤ 1000) (kf : ∀ (τ : St) (g' : GM) (r : Int32), r = -1001 ∨ r = -1003 → SD X o τ g' → PI τ → cv τ = cv σ → gV τ 6 1 0 = 0 → post r g') (ks : ∀ (τ : St) (g' : GM) (t : Nat), ¬ gV σ 6 1 0 = 0 → SD X o τ g' → PI τ → RN (n + 1) τ → t ≤ gL σ 4 → gL σ 4 ≤ gL τ 4 → gL τ 4 ≤ 30 → gV τ 6 1 0 = 0 → post (nI t) g') : w_L_device X post px o v 3 g := by
  obtain ⟨A, W, hx, rfl, rfl⟩ := S
  have Q := P.1
  have hL := P.2.2.2.2.2.2.2.2.2.1
  have h10 : gL σ 1 ≤ 10 := P.2.1.2.2.2.2.2.2.2.2.1
  have hL0 := P.2.2.2.2.2.2.2.1
  have h12 : gL σ 2 ≤ 12 := P.2.1.2.2.2.2.2.2.2.1
  have hL3 := P.2.2.2.2.2.2.2.2.2.2
  have h30 : gL σ 4 ≤ 30 := P.2.1.2.2.2.2.2.2.2.2.2
  obtain ⟨m, hn6, e61, e33, hty⟩ := P.2.2.2.2.1.2.2.2.1
  have hty1 : ∀ j, j < m → gV σ 16 j 0 = gV σ 132 j 0 := fun j hj => (hty j hj).1
  have hch : ∀ j, j < m → ∃ c, c < 65536 ∧ gV σ 16 j 0 = nI c := fun j hj => by
    obtain ⟨y1, c, y2, y3⟩ := hty j hj
    exact ⟨c, y2, y1.trans y3⟩
  have Wc : WF A (crS σ m) := by rw [crS_W]; exact W
  have Qc : P0 (crS σ m) := by rw [crS_0]; exact Q
  have Pc := pi_cr0 (n := m) P trivial
  have kf' : ∀ (r : Int32), r = -1001 ∨ r = -1003 → post r (hp A (crS σ m)) := fun r hr => kf (sV (crS σ m) 8 33 0 0) _ r hr (SD.gV (k := 8) (f := 33) (i := 0) (x := 0) (SD.mk Wc hx) rfl) Pc cv_cr (crS_H (σ := σ) (n := m)).2.2.2.2.1
  unfold w_L_device
  rw [if_neg (by decide), if_neg (by decide), if_neg (by decide), e_Is' W (sL_7 Q) hcl_7, q_crh hx W P e61 hn6 hch]
  rcases q_ix v (show gL σ 2 ≤ 40 by omega) with hv | ⟨d, hd, rfl⟩
  · rw [crT_1 W P hv]
    try dsimp only
    rw [if_pos rfl]
    exact kf' _ (by decide)
  · rcases q_has W P hd with ⟨hR, hm⟩ | ⟨q, hq, hR, hm⟩
    · rw [crT_2 W P hd hR]
      try dsimp only
      rw [if_neg (by decide), if_pos rfl]
      exact kf' _ (by decide)
    · rw [crT_3 W P hd hR]
      rcases Nat.eq_zero_or_pos m with hn0 | hn1
      · have h00 : nI m = 0 := by rw [hn0]; rfl
        rw [if_pos h00]
        try dsimp only
        rw [if_neg (by decide), if_pos rfl]
        exact kf' _ (by decide)
      · have h01 : ¬ nI m = 0 := nI_ne0 (by omega) (by omega)
        rw [if_neg h01]
        have h610 : ¬ gV σ 6 1 0 = 0 := by rw [e61]; exact h01
        have hgc := fun (px : String → GM → Prop) (post : Option Nat → GM → Prop) => q_gc (A := A) (X := X) (px := px) (post := post) Wc Qc P crS_H (crL P).2 hn6 hty1
        have b4 : gL (crS σ m) 4 = gL σ 4 := crS_H.1 4
        have b1 : gL (crS σ m) 1 = gL σ 1 := crS_H.1 1
        have v10 : gV (crS σ m) 1 0 q = nI q := (crS_H.2.2.2.1 1 0 q (by decide)).trans (P.2.2.2.1.1 q hq).1
        by_cases hw : nw_ σ m
        · rw [(hgc _ _).1 hw]
          by_cases hm30 : gL σ 4 < 30
          · have h6' := P.2.2.2.2.1.1
            obtain ⟨t4, t5⟩ := h6'.2.2 1 (by omega)
            have v61 : gV (crS σ m) 6 1 1 = nI m := crS_H.2.2.2.2.2.1
            have v16 : ∀ j, j < m → gV (crS σ m) 16 j 1 = gV σ 16 j 0 := crS_H.2.2.2.2.2.2.2.1
            refine q_b30 (n := m) hx Wc Qc (by rw [b4]; exact (crL P).2) (by rw [crS_H.1, crS_H.1]; exact h6'.1) (by rw [crS_H.1, crS_H.1]; exact h6'.2.1) (by rw [b4]; exact hm30) (by rw [crS_H.2.1]; exact t4) (by rw [crS_H.2.2.1]; exact t5) v61 hn6 (fun j hj => by rw [v16 j hj]; exact hch j hj) (fun A' κ' W' hx' hN hB G => ?_)
            rw [b4] at G ⊢
            have k4 : gL σ 4 < gL κ' 4 := by rw [G.2.2.2.2.1.1]; omega
            have k1 : q < gL κ' 1 := by rw [G.1 1 (by decide), b1]; exact hq
            have e40 : gV κ' 4 0 (gL σ 4) = nI (gL σ 4) := by rw [G.2.2.2.2.2.1, if_pos rfl]
            have e10 : gV κ' 1 0 q = nI q := by rw [G.2.1 1 (by decide)]; exact v10
            rw [← hB q (by rw [b1]; exact hq), crU_o W' k4 k1 e40 e10]
            have Wk : WF A' (oldS κ' (gL σ 4) q) := by rw [old_W]; exact W'
            have P' := pi_cr2 (x := 0) P crS_H G hn1 hn6 hm30 hq hty
            have aV : ∀ k f i, rk k = true → gV (finS (nwT (rfX (oldS κ' (gL σ 4) q) 0) (gL σ 4) m) (gL σ 4) q) k f i = gV (oldS κ' (gL σ 4) q) k f i := fun k f i hk => (fin_rk hk).trans ((nwT_rk hk).trans (rfX_rk hk))
            have aL : ∀ k, gL (finS (nwT (rfX (oldS κ' (gL σ 4) q) 0) (gL σ 4) m) (gL σ 4) q) k = gL κ' k := fun k => fy_L
            have EV := G.2.1
            have cV : ∀ k f i, k ≠ 6 ∧ k ≠ 16 → gV (crS σ m) k f i = gV σ k f i := crS_H.2.2.2.1
            have dV : ∀ k f i, rk k = true → k ≠ 4 ∧ k ≠ 1 ∧ k ≠ 6 ∧ k ≠ 16 ∧ k ≠ 33 ∧ k ≠ 43 → gV (finS (nwT (rfX (oldS κ' (gL σ 4) q) 0) (gL σ 4) m) (gL σ 4) q) k f i = gV σ k f i := fun k f i hk h => by
              rw [aV k f i hk, old_V ⟨h.1, h.2.1⟩, EV k (by simp only [List.mem_cons, List.not_mem_nil, or_false]; omega), cV k f i ⟨h.2.2.1, h.2.2.2.1⟩]
            have d1 : ∀ f i, f ≠ 13 → gV (finS (nwT (rfX (oldS κ' (gL σ 4) q) 0) (gL σ 4) m) (gL σ 4) q) 1 f i = gV σ 1 f i := fun f i h => by
              rw [aV 1 f i rfl, old_1 h, EV 1 (by decide), cV 1 f i (by decide)]
            have l1 : gL κ' 1 = gL σ 1 := (G.1 1 (by decide)).trans b1
            refine ks (finS (nwT (rfX (oldS κ' (gL σ 4) q) 0) (gL σ 4) m) (gL σ 4) q) _ (gL σ 4) h610 (SD.gh ⟨A', Wk, hx', by rw [hN.1], rfl⟩ (fun _ => fy_L2) aV (fun _ _ _ => fy_R) (fun _ _ => fy_N)) P' ?_ (Nat.le_refl _) (by rw [aL, G.2.2.2.2.1.1]; omega) (by rw [aL, G.2.2.2.2.1.1]; omega) ?_
            · refine ⟨fun b hb => ?_, fun b hb hne => ?_, fun gg hg => ?_, ?_, ?_, ?_⟩
              · rw [d1 12 b (by decide), dV 20 1 b rfl (by decide)]
                rw [aL, l1] at hb
                obtain ⟨m', t, a1, a2, a3, a4⟩ := R.1 b hb
                exact ⟨m', t, a1, a2, a3, by omega⟩
              · rw [d1 10 b (by decide)] at hne
                rw [d1 7 b (by decide)]
                rw [aL, l1] at hb
                exact R.2.1 b hb hne
              · rw [aL, G.2.2.2.2.1.1] at hg
                have f2 : gV (finS (nwT (rfX (oldS κ' (gL σ 4) q) 0) (gL σ 4) m) (gL σ 4) q) 4 2 gg = if gg = gL σ 4 then 1 else gV σ 4 2 gg := by
                  rw [aV 4 2 gg rfl]
                  unfold oldS
                  simp (config := { maxSteps := 1000000 }) only [gV_sV, true_and, and_true, if_true, if_false, reduceIte, and_self, false_and, and_false, or_false, false_or, true_or, or_true, not_true_eq_false, not_false_eq_true, ne_eq, reduceCtorEq, Nat.reduceLT, Nat.reduceEqDiff, Nat.reduceLeDiff, Nat.reduceAdd, eq_self, ii_0_1, ii_0_2, ii_0_3, ii_0_4, ii_1_0, ii_1_2, ii_1_3, ii_1_4, il_1, ii_2_0, ii_2_1, ii_2_3, ii_2_4, il_2, ii_3_0, ii_3_1, ii_3_2, ii_3_4, il_3, ii_4_0, ii_4_1, ii_4_2, ii_4_3, il_4, il_0, ie_0_1, ie_0_2, ie_0_3, ie_0_4, ie_0_5, ie_1_0, ie_1_2, ie_1_3, ie_1_4, ie_1_5, ie_2_0, ie_2_1, ie_2_3, ie_2_4, ie_2_5, ie_3_0, ie_3_1, ie_3_2, ie_3_4, ie_3_5, ie_4_0, ie_4_1, ie_4_2, ie_4_3, ie_4_5, ie_5_0, ie_5_1, ie_5_2, ie_5_3, ie_5_4]
                  rw [G.2.2.2.2.2.2.1, G.2.2.2.2.2.2.1, if_pos rfl]
                  by_cases e : gg = gL σ 4
                  · rw [if_pos e, if_pos e]; rfl
                  · rw [if_neg e, if_neg e, if_neg e]; exact cV 4 2 gg (by decide)
                have f3 : gV (finS (nwT (rfX (oldS κ' (gL σ 4) q) 0) (gL σ 4) m) (gL σ 4) q) 4 3 gg = if gg = gL σ 4 then nI 0 ||| (1 : Int32) <<< (nI q &&& 31) else gV σ 4 3 gg := by
                  rw [aV 4 3 gg rfl]
                  unfold oldS
                  simp (config := { maxSteps := 1000000 }) only [gV_sV, true_and, and_true, if_true, if_false, reduceIte, and_self, false_and, and_false, or_false, false_or, true_or, or_true, not_true_eq_false, not_false_eq_true, ne_eq, reduceCtorEq, Nat.reduceLT, Nat.reduceEqDiff, Nat.reduceLeDiff, Nat.reduceAdd, eq_self, ii_0_1, ii_0_2, ii_0_3, ii_0_4, ii_1_0, ii_1_2, ii_1_3, ii_1_4, il_1, ii_2_0, ii_2_1, ii_2_3, ii_2_4, il_2, ii_3_0, ii_3_1, ii_3_2, ii_3_4, il_3, ii_4_0, ii_4_1, ii_4_2, ii_4_3, il_4, il_0, ie_0_1, ie_0_2, ie_0_3, ie_0_4, ie_0_5, ie_1_0, ie_1_2, ie_1_3, ie_1_4, ie_1_5, ie_2_0, ie_2_1, ie_2_3, ie_2_4, ie_2_5, ie_3_0, ie_3_1, ie_3_2, ie_3_4, ie_3_5, ie_4_0, ie_4_1, ie_4_2, ie_4_3, ie_4_5, ie_5_0, ie_5_1, ie_5_2, ie_5_3, ie_5_4]
                  rw [G.2.2.2.2.2.2.2.1, G.2.2.2.2.2.2.2.1, if_pos rfl]
                  by_cases e : gg = gL σ 4
                  · rw [if_pos e, if_pos e]; rfl
                  · rw [if_neg e, if_neg e, if_neg e]; exact cV 4 3 gg (by decide)
                rw [f2, f3, aL, l1]
                by_cases e : gg = gL σ 4
                · rw [if_pos e, if_pos e]
                  obtain ⟨p, p1, p2, p3⟩ := or_pw (q := 0) (b := q) (m := gL σ 1) (Nat.two_pow_pos _) hq h10
                  exact ⟨1, p, rfl, by omega, by omega, p3, p1, p2⟩
                · rw [if_neg e, if_neg e]
                  obtain ⟨m', t, a1, a2, a3, a4⟩ := R.2.2.1 gg (by omega)
                  exact ⟨m', t, a1, a2, by omega, a4⟩
              · rw [dV 7 7 0 rfl (by decide)]; exact R.2.2.2.1
              · rw [dV 7 8 0 rfl (by decide)]; exact R.2.2.2.2.1
              · rw [dV 7 12 0 rfl (by decide)]; exact R.2.2.2.2.2
            · rw [aV 6 1 0 rfl, old_V (by decide), G.2.2.2.2.2.2.2.2.2.2.2.1, if_neg (by omega)]
              exact crS_H.2.2.2.2.1
          · have hL33 := (crL (n := m) P).2
            have hge : ¬ nI (gL σ 4) < 30 := nI_nlt (a := gL σ 4) (b := 30) (by omega) (by omega)
            unfold w_X7_groupOfCrash_b30
            rw [s7_3 Wc Qc, e_Is' Wc hL33.1 hcl_33, l_size Wc (Or.inr (Or.inr (Or.inr rfl))) hL33, if_neg hge]
            try dsimp only
            rw [if_neg (by decide), if_pos rfl]
            exact kf' _ (by decide)
        · rw [(hgc _ _).2 hw]
          have hne0 : ¬ (ng_ σ m (gL σ 4)).1 = 0 := fun z => hw (Or.inl z)
          have hle := ng_le σ m (gL σ 4)
          obtain ⟨t, htt⟩ : ∃ t, (ng_ σ m (gL σ 4)).1 - 1 = t := ⟨_, rfl⟩
          have ht : t < gL σ 4 := by omega
          rw [htt]
          have e40 : gV (crS σ m) 4 0 t = nI t := (crS_H.2.2.2.1 4 0 t (by decide)).trans (P.2.2.2.2.1.2.1 t ht).1
          rw [crU_o Wc (by rw [b4]; exact ht) (by rw [b1]; exact hq) e40 v10]
          have Wk : WF A (oldS (crS σ m) t q) := by rw [old_W]; exact Wc
          have P' := pi_cr1 (x := 0) (n := m) P crS_H ht hq
          have aV : ∀ k f i, rk k = true → gV (finS (rfX (oldS (crS σ m) t q) 0) t q) k f i = gV (oldS (crS σ m) t q) k f i := fun k f i hk => (fin_rk hk).trans (rfX_rk hk)
          have aL : ∀ k, gL (finS (rfX (oldS (crS σ m) t q) 0) t q) k = gL (crS σ m) k := fun k => fz_L
          have cV : ∀ k f i, k ≠ 6 ∧ k ≠ 16 → gV (crS σ m) k f i = gV σ k f i := crS_H.2.2.2.1
          have dV : ∀ k f i, rk k = true → k ≠ 4 ∧ k ≠ 1 ∧ k ≠ 6 ∧ k ≠ 16 → gV (finS (rfX (oldS (crS σ m) t q) 0) t q) k f i = gV σ k f i := fun k f i hk h => by
            rw [aV k f i hk, old_V ⟨h.1, h.2.1⟩, cV k f i h.2.2]
          have d1 : ∀ f i, f ≠ 13 → gV (finS (rfX (oldS (crS σ m) t q) 0) t q) 1 f i = gV σ 1 f i := fun f i h => by
            rw [aV 1 f i rfl, old_1 h, cV 1 f i (by decide)]
          refine ks (finS (rfX (oldS (crS σ m) t q) 0) t q) _ t h610 (SD.gh (SD.mk Wk hx) (fun _ => fz_L2) aV (fun _ _ _ => fz_R) (fun _ _ => fz_N)) P' ?_ (by omega) (by rw [aL, b4]; omega) (by rw [aL, b4]; exact h30) ?_
          · refine ⟨fun b hb => ?_, fun b hb hne => ?_, fun gg hg => ?_, ?_, ?_, ?_⟩
            · rw [d1 12 b (by decide), dV 20 1 b rfl (by decide)]
              rw [aL, b1] at hb
              obtain ⟨m', t, a1, a2, a3, a4⟩ := R.1 b hb
              exact ⟨m', t, a1, a2, a3, by omega⟩
            · rw [d1 10 b (by decide)] at hne
              rw [d1 7 b (by decide)]
              rw [aL, b1] at hb
              exact R.2.1 b hb hne
            · rw [aL, b4] at hg
              have f2 : gV (finS (rfX (oldS (crS σ m) t q) 0) t q) 4 2 gg = if gg = t then gV σ 4 2 t + 1 else gV σ 4 2 gg := by
                rw [aV 4 2 gg rfl]
                unfold oldS
                simp (config := { maxSteps := 1000000 }) only [gV_sV, true_and, and_true, if_true, if_false, reduceIte, and_self, false_and, and_false, or_false, false_or, true_or, or_true, not_true_eq_false, not_false_eq_true, ne_eq, reduceCtorEq, Nat.reduceLT, Nat.reduceEqDiff, Nat.reduceLeDiff, Nat.reduceAdd, eq_self, ii_0_1, ii_0_2, ii_0_3, ii_0_4, ii_1_0, ii_1_2, ii_1_3, ii_1_4, il_1, ii_2_0, ii_2_1, ii_2_3, ii_2_4, il_2, ii_3_0, ii_3_1, ii_3_2, ii_3_4, il_3, ii_4_0, ii_4_1, ii_4_2, ii_4_3, il_4, il_0, ie_0_1, ie_0_2, ie_0_3, ie_0_4, ie_0_5, ie_1_0, ie_1_2, ie_1_3, ie_1_4, ie_1_5, ie_2_0, ie_2_1, ie_2_3, ie_2_4, ie_2_5, ie_3_0, ie_3_1, ie_3_2, ie_3_4, ie_3_5, ie_4_0, ie_4_1, ie_4_2, ie_4_3, ie_4_5, ie_5_0, ie_5_1, ie_5_2, ie_5_3, ie_5_4]
                rw [cV 4 2 t (by decide), cV 4 2 gg (by decide)]
              have f3 : gV (finS (rfX (oldS (crS σ m) t q) 0) t q) 4 3 gg = if gg = t then gV σ 4 3 t ||| (1 : Int32) <<< (nI q &&& 31) else gV σ 4 3 gg := by
                rw [aV 4 3 gg rfl]
                unfold oldS
                simp (config := { maxSteps := 1000000 }) only [gV_sV, true_and, and_true, if_true, if_false, reduceIte, and_self, false_and, and_false, or_false, false_or, true_or, or_true, not_true_eq_false, not_false_eq_true, ne_eq, reduceCtorEq, Nat.reduceLT, Nat.reduceEqDiff, Nat.reduceLeDiff, Nat.reduceAdd, eq_self, ii_0_1, ii_0_2, ii_0_3, ii_0_4, ii_1_0, ii_1_2, ii_1_3, ii_1_4, il_1, ii_2_0, ii_2_1, ii_2_3, ii_2_4, il_2, ii_3_0, ii_3_1, ii_3_2, ii_3_4, il_3, ii_4_0, ii_4_1, ii_4_2, ii_4_3, il_4, il_0, ie_0_1, ie_0_2, ie_0_3, ie_0_4, ie_0_5, ie_1_0, ie_1_2, ie_1_3, ie_1_4, ie_1_5, ie_2_0, ie_2_1, ie_2_3, ie_2_4, ie_2_5, ie_3_0, ie_3_1, ie_3_2, ie_3_4, ie_3_5, ie_4_0, ie_4_1, ie_4_2, ie_4_3, ie_4_5, ie_5_0, ie_5_1, ie_5_2, ie_5_3, ie_5_4]
                rw [cV 4 3 t (by decide), cV 4 3 gg (by decide)]
              rw [f2, f3, aL, b1]
              obtain ⟨m', t', a1, a2, a3, a4, a5, a6⟩ := R.2.2.1 gg hg
              by_cases e : gg = t
              · rw [if_pos e, if_pos e, ← e, a1, a4]
                obtain ⟨p, p1, p2, p3⟩ := or_pw (q := t') (b := q) (m := gL σ 1) a6 hq h10
                exact ⟨m' + 1, p, by rw [nI_1], by omega, by omega, p3, p1, p2⟩
              · rw [if_neg e, if_neg e]
                exact ⟨m', t', a1, a2, by omega, a4, a5, a6⟩
            · rw [dV 7 7 0 rfl (by decide)]; exact R.2.2.2.1
            · rw [dV 7 8 0 rfl (by decide)]; exact R.2.2.2.2.1
            · rw [dV 7 12 0 rfl (by decide)]; exact R.2.2.2.2.2
          · rw [aV 6 1 0 rfl, old_V (by decide)]
            exact crS_H.2.2.2.2.1
end AR
