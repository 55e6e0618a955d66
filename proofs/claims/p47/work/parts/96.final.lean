/-! THE END of the law: every refusal is answered as it was told, and the sum has not changed -/
section ZF
variable {X : Cx} {px : String → GM → Prop} {post : Int32 → GM → Prop} {o : Option Nat} {σ τ : St} {g g' : GM} {l3 : Int64} {l5 l6 l7 : Int32}
/-- what stands at the end: the invariant, and the sum and the numbers that were read -/
def ZI (X : Cx) (o : Option Nat) (l3 : Int64) (l5 l6 l7 : Int32) (σ : St) (g : GM) : Prop := SD X o σ g ∧ PI σ ∧ SUM σ = l3 ∧ l5 = nI (gL σ 1) ∧ l6 = nI (gL σ 2) ∧ l7 = nI (gL σ 4)
theorem ZI.mv (I : ZI X o l3 l5 l6 l7 σ g) (S : SD X o τ g') (P : PI τ) (c : cv τ = cv σ) : ZI X o l3 l5 l6 l7 τ g' := ⟨S, P, (SUM_eq c).trans I.2.2.1, by rw [cv_L c rfl]; exact I.2.2.2.1, by rw [cv_L c rfl]; exact I.2.2.2.2.1, by rw [cv_L c rfl]; exact I.2.2.2.2.2⟩
theorem zc_1 : (Op.cmpValue (FP.fcmp (3212836864 : UInt32) (3212836864 : UInt32)) .l) = 0 := by decide +kernel
theorem zc_2 : (Op.cmpValue (FP.dcmp (13830554455654793216 : UInt64) (13830554455654793216 : UInt64)) .l) = 0 := by decide +kernel
theorem oF_out2 {n : Nat} {F : Nat → Nat → UInt32} (h : n ≤ 40) : oF n 0 (fun g => oF n (nI n) (F g)) = 3212836864 := by
  unfold oF
  by_cases c : (0 : Int32) < 0 ∨ nI n - 1 < 0
  · rw [if_pos c]
  · rw [if_neg c]
    exact if_pos (out_n h)
theorem z_2054 (I : ZI X o l3 l5 l6 l7 σ g) (kk : ∀ g, post 1 g) : w_L_law_b2054 X post px o l3 l5 l7 g := by
  obtain ⟨S, P, e3, rfl, rfl, rfl⟩ := I
  have h10 := P.b1
  have h30 := P.b4
  unfold w_L_law_b2054 w_L_law_b2146
  rw [sd_lk S P _ _ (eq_false (by decide)), oF_out (out_n (by omega)), if_pos zc_1]
  rw [sd_lk S P _ _ (nI_m9 (by omega)), oF_out2 (by omega), if_pos zc_1]
  rw [sd_cr S P, oF_out (out_n (by omega)), if_pos zc_1]
  rw [sd_rt S P, if_pos (out_n (by omega)), if_pos zc_2]
  rw [sd_rb S P, if_pos (Or.inl (by decide)), if_pos ((lgc_iff _ _).mpr rfl)]
  rw [sd_l1 S P, if_pos rfl]
  rw [sd_sum S P, if_pos ((lgc_iff _ _).mpr e3)]
  exact kk g
theorem z_1855 (I : ZI X o l3 l5 l6 l7 σ g) (kk : ∀ g, post 1 g) : w_L_law_b1855 X post px o l3 l5 l7 g := by
  have J := I
  obtain ⟨S, P, e3, rfl, rfl, rfl⟩ := I
  have h30 := P.b4
  unfold w_L_law_b1855
  rw [f_size (v := 0) S P (by decide), if_pos rfl, f_size (v := 501) S P (by decide), if_pos rfl, f_bar (v := 16) S P (by decide), if_pos rfl, f_bnd (v := 1001) S P (by decide), if_pos rfl, f_rli (v := 10000) S P (by decide), if_pos rfl, f_day (w := 0) S P (by decide), if_pos rfl, f_day (w := 100) S P (by decide), if_pos rfl, f_ty (w := 123) S P (by decide) (by decide), if_pos rfl, f_ty (w := 90) S P (by decide) (by decide), if_pos rfl]
  rw [sd_g1 S P _ (nI_m9 (by omega)), oi_out (out_n (by omega)), if_pos rfl, sd_g2 S P _ (eq_false (by decide)), oi_out (Or.inl (by decide)), if_pos rfl, sd_go S P _ (nI_m9 (by omega)) (out_n (by omega)), if_pos rfl]
  refine ite_i (fun _ => z_2054 J kk) (fun h => ?_)
  have h0 : 0 < gL σ 4 := by
    refine Nat.pos_of_ne_zero (fun z => h ?_)
    rw [z]
    rfl
  rw [sd_g6 S P h0, if_pos rfl, sd_g3 S P h0, if_pos rfl]
  exact z_2054 J kk
theorem oi_z {n : Nat} {F : Nat → Int32} (hj : 0 < n) (hn : n ≤ 40) : oi n 0 F = F 0 := oi_in (j := 0) hj hn
theorem z_1820 (I : ZI X o l3 l5 l6 l7 σ g) (kk : ∀ g, post 1 g) : w_L_law_b1820 X post px o l3 l5 l7 g := by
  have J := I
  obtain ⟨S, P, e3, rfl, rfl, rfl⟩ := I
  have h10 := P.b1
  unfold w_L_law_b1820
  rw [sd_p S P, oi_out (out_n (by omega)), if_pos rfl]
  refine ite_i (fun _ => z_1855 J kk) (fun h => ?_)
  rw [sd_p S P, oi_z (nle_pos h) (by omega), show v_aft σ 100 0 = -1002 from if_pos (by decide), if_pos rfl]
  exact z_1855 J kk
theorem z_1800 (I : ZI X o l3 l5 l6 l7 σ g) (kk : ∀ g, post 1 g) : w_L_law_b1800 X post px o l3 l5 l6 l7 g := by
  have J := I
  obtain ⟨S, P, e3, rfl, rfl, rfl⟩ := I
  have h12 := P.b2
  unfold w_L_law_b1800
  refine ite_i (fun _ => z_1820 J kk) (fun h => ?_)
  rw [sd_u S P, oi_z (nle_pos h) (by omega), show v_use σ 8 0 = -1002 from if_pos (by decide), if_pos rfl]
  exact z_1820 J kk
theorem z_1781 (I : ZI X o l3 l5 l6 l7 σ g) (kk : ∀ g, post 1 g) : w_L_law_b1781 X post px o l3 l5 l6 l7 g := by
  have J := I
  obtain ⟨S, P, e3, rfl, rfl, rfl⟩ := I
  have h12 := P.b2
  unfold w_L_law_b1781
  refine ite_i (fun _ => z_1800 J kk) (fun h => ?_)
  rw [sd_o S P, oi_z (nle_pos h) (by omega), show v_own σ (-1) 0 = -1002 from if_pos (by decide), if_pos rfl]
  exact z_1800 J kk
theorem z_1745 (I : ZI X o l3 l5 l6 l7 σ g) (kk : ∀ g, post 1 g) : w_L_law_b1745 X post px o l3 l5 l6 l7 g := by
  have J := I
  obtain ⟨S, P, e3, rfl, rfl, rfl⟩ := I
  have h12 := P.b2
  unfold w_L_law_b1745
  rw [f_bu1 (w := 9) S P (out_n (by omega)), if_pos rfl]
  refine ite_i (fun _ => z_1781 J kk) (fun h => ?_)
  rw [show (0 : Int32) = nI 0 from rfl, f_bu2 (w := 8) S P (nle_pos h) (by decide), if_pos rfl]
  exact z_1781 J kk
theorem z_1639e {f : Nat} (I : ZI X o l3 l5 l6 l7 σ g) (kk : ∀ g, post 1 g) : w_L_law_l1639 X post px (f + 1) o l3 l5 l6 l7 4 g := by
  have J := I
  obtain ⟨S, P, e3, rfl, rfl, rfl⟩ := I
  have h12 := P.b2
  have h10 := P.b1
  rw [w_L_law_l1639, if_pos (by decide)]
  rw [sd_c S P, oi_out (out_n (by omega)), if_pos rfl]
  rw [sd_c S P, show oi (gL σ 2) 0 (fun d => oi (gL σ 1) (nI (gL σ 1)) (fun b => cu_op σ b d)) = -1001 by
    unfold oi
    by_cases c : (0 : Int32) < 0 ∨ nI (gL σ 2) - 1 < 0
    · rw [if_pos c]
    · exact (if_neg c).trans (if_pos (out_n (n := gL σ 1) (by omega))), if_pos rfl]
  rw [f_rt1 (w := 0) S P (out_n (by omega)), if_pos rfl]
  refine ite_i (fun _ => z_1745 J kk) (fun h => ?_)
  have e := f_rt2 (X := X) (px := fun _ _ => False) (post := fun (i155 : Int32) (g154 : GM) => if i155 = (-1002 : Int32) then w_L_law_b1745 X post px o l3 (nI (gL σ 1)) (nI (gL σ 2)) (nI (gL σ 4)) g154 else w_L_law_b1982 X post px g154) (j := 0) (w := 6) S P (nle_pos h) (by decide)
  refine Eq.mpr e ?_
  rw [if_pos rfl]
  exact z_1745 J kk
theorem z_1639 (I : ZI X o l3 l5 l6 l7 σ g) (kk : ∀ g, post 1 g) : w_L_law_l1639 X post px 5 o l3 l5 l6 l7 0 g := by
  have J := I
  obtain ⟨S, P, e3, rfl, rfl, rfl⟩ := I
  have h12 := P.b2
  rw [w_L_law_l1639, if_neg (by decide), sd_d0 S P, oi_out (out_n (by omega)), if_pos rfl, sd_d0 S P, oi_out (Or.inl (by decide)), if_pos rfl, i_0]
  rw [w_L_law_l1639, if_neg (by decide), f_upd S P (out_n (by omega)), if_pos rfl, f_upd S P (Or.inl (by decide)), if_pos rfl, i_1]
  rw [w_L_law_l1639, if_neg (by decide), sd_d2 S P, oi_out (out_n (by omega)), if_pos rfl, sd_d2 S P, oi_out (Or.inl (by decide)), if_pos rfl, i_2]
  rw [w_L_law_l1639, if_neg (by decide)]
  refine f_cra S P (out_n (by omega)) (fun τ g' S' P' c => ?_)
  rw [if_pos rfl]
  refine f_cra S' P' (Or.inl (by decide)) (fun τ2 g2 S2 P2' c2 => ?_)
  rw [if_pos rfl, i_3]
  exact z_1639e (J.mv S2 P2' (c2.trans c)) kk
theorem z_1594 (I : ZI X o l3 l5 l6 l7 σ g) (kk : ∀ g, post 1 g) : ∀ (k f i : Nat), i + k = 10 → k < f → w_L_law_l1594 X post px f o l3 l5 l6 l7 (nI i) g := by
  have J := I
  obtain ⟨S, P, e3, rfl, rfl, rfl⟩ := I
  have h10 := P.b1
  intro k
  induction k with
  | zero =>
    intro f i hi hf
    obtain ⟨f, rfl⟩ : ∃ f', f = f' + 1 := ⟨f - 1, by omega⟩
    have he : i = 10 := by omega
    subst he
    rw [w_L_law_l1594, if_pos (show (10 : Int32) ≤ nI 10 by decide)]
    exact z_1639 J kk
  | succ k ih =>
    intro f i hi hf
    obtain ⟨f, rfl⟩ : ∃ f', f = f' + 1 := ⟨f - 1, by omega⟩
    rw [w_L_law_l1594, if_neg (show ¬ (10 : Int32) ≤ nI i from nI_ge (a := i) (b := 10) (by omega) (by omega)), sd_ofo S P (out_n (by omega)), if_pos rfl, sd_ofo S P (Or.inl (by decide)), if_pos rfl, nI_1]
    exact ih f (i + 1) (by omega) (by omega)
theorem z_1591 (I : ZI X o l3 l5 l6 l7 σ g) (kk : ∀ g, post 1 g) : w_L_law_b1591 X post px o l3 l5 l6 l7 g := by
  unfold w_L_law_b1591
  exact z_1594 I kk 10 11 0 (by omega) (by omega)
theorem z_1568 (I : ZI X o l3 l5 l6 l7 σ g) (kk : ∀ g, post 1 g) : w_L_law_b1568 X post px o l3 l5 l6 l7 g := by
  have J := I
  obtain ⟨S, P, e3, rfl, rfl, rfl⟩ := I
  unfold w_L_law_b1568
  refine ite_i (fun _ => z_1591 J kk) (fun h => ?_)
  refine Eq.mpr (f_st3 (j := 0) (w := 1) (z := 101) S P (nle_pos h) (by decide) (by decide)) ?_
  rw [if_pos rfl]
  exact z_1591 J kk
theorem z_1547 (I : ZI X o l3 l5 l6 l7 σ g) (kk : ∀ g, post 1 g) : w_L_law_b1547 X post px o l3 l5 l6 l7 g := by
  have J := I
  obtain ⟨S, P, e3, rfl, rfl, rfl⟩ := I
  unfold w_L_law_b1547
  refine ite_i (fun _ => z_1568 J kk) (fun h => ?_)
  refine Eq.mpr (f_st2 (j := 0) (w := 101) (z := 0) S P (nle_pos h) (by decide)) ?_
  rw [if_pos rfl]
  exact z_1568 J kk
theorem z_1511 (I : ZI X o l3 l5 l6 l7 σ g) (kk : ∀ g, post 1 g) : w_L_law_b1511 X post px o l3 l5 l6 l7 g := by
  have J := I
  obtain ⟨S, P, e3, rfl, rfl, rfl⟩ := I
  have h10 := P.b1
  unfold w_L_law_b1511
  rw [f_st1 (w := 0) (z := 0) S P (out_n (by omega)), if_pos rfl]
  refine ite_i (fun _ => z_1547 J kk) (fun h => ?_)
  refine Eq.mpr (f_st2 (j := 0) (w := 0) (z := 0) S P (nle_pos h) (by decide)) ?_
  rw [if_pos rfl]
  exact z_1547 J kk
/-- a build of its own that is refused for what it is given -/
theorem z_six {K : GM → Prop} {v m l z q t : Int32} (I : ZI X o l3 l5 l6 l7 σ g) (hb : (m < 1 ∨ 63 < m) ∨ (l < 1 ∨ 7 < l) ∨ (t < 0 ∨ 255 < t) ∨ ((v < 1 ∨ 999 < v) ∨ (z < 1 ∨ 500 < z) ∨ (q < 0 ∨ 15 < q))) (kk : ∀ (τ : St) (g' : GM), ZI X o l3 l5 l6 l7 τ g' → K g') :
    (¬ (6 : Int32) < 0 ∧ ((6 : Int32)).toNatClampNeg ≤ 6 ∧ wNew X g (.inl (0, ((6 : Int32)).toNatClampNeg, .inl (fun _ => 0))) (fun q24 g25 => wAst g25 (some q24) (0 : Int32) 0 v (fun g26 => wAst g26 (some q24) (1 : Int32) 0 m (fun g27 => wAst g27 (some q24) (2 : Int32) 0 l (fun g28 => wAst g28 (some q24) (3 : Int32) 0 z (fun g29 => wAst g29 (some q24) (4 : Int32) 0 q (fun g30 => wAst g30 (some q24) (5 : Int32) 0 t (fun g31 => w_L_build X (fun (i33 : Int32) (g32 : GM) => (if i33 = (-1002 : Int32) then K g32 else w_L_law_b1589 X post px g32)) (fun _ _ => False) o (some q24) g31)))))))) := by
  refine ⟨by decide, by decide, ?_⟩
  have J := I
  obtain ⟨S, P, -⟩ := I
  refine q_ar6 S P (fun A i W hx e hi hn e0 e1 e2 e3 e4 e5 => ?_)
  subst e
  have P' := PI_ar6 (x0 := v) (x1 := m) (x2 := l) (x3 := z) (x4 := q) (x5 := t) P
  have J' : ZI X (some (A.1 7 0)) l3 l5 l6 l7 (ar6 σ v m l z q t) (hp A (ar6 σ v m l z q t)) := J.mv (SD.mk W hx) P' cv_ar6
  rw [r_lb6 hx W P' hi hn e0 e1 e2 e3 e4 e5]
  by_cases hm : m < 1 ∨ 63 < m
  · rw [f_bd1 W P' hm, if_pos rfl]
    exact kk _ _ J'
  by_cases hl : l < 1 ∨ 7 < l
  · rw [f_bd2 W P' hm hl, if_pos rfl]
    exact kk _ _ J'
  by_cases ht : t < 0 ∨ 255 < t
  · rw [f_bd3 W P' hm hl ht, if_pos rfl]
    exact kk _ _ J'
  refine f_bd4 hx W P' hm hl ht (((hb.resolve_left hm).resolve_left hl).resolve_left ht) (fun τ g' S' P2 c => ?_)
  rw [if_pos rfl]
  exact kk _ _ (J'.mv S' P2 c)
/-- a fix of no build -/
theorem z_four1 {K : GM → Prop} {w v z q : Int32} (I : ZI X o l3 l5 l6 l7 σ g) (hc : w < 0 ∨ nI (gL σ 1) - 1 < w) (kk : ∀ (τ : St) (g' : GM), ZI X o l3 l5 l6 l7 τ g' → K g') :
    (¬ (4 : Int32) < 0 ∧ ((4 : Int32)).toNatClampNeg ≤ 4 ∧ wNew X g (.inl (0, ((4 : Int32)).toNatClampNeg, .inl (fun _ => 0))) (fun q84 g85 => wAst g85 (some q84) (0 : Int32) 0 w (fun g86 => wAst g86 (some q84) (1 : Int32) 0 v (fun g87 => wAst g87 (some q84) (2 : Int32) 0 z (fun g88 => wAst g88 (some q84) (3 : Int32) 0 q (fun g89 => w_L_build X (fun (i91 : Int32) (g90 : GM) => (if i91 = (-1001 : Int32) then K g90 else w_L_law_b1589 X post px g90)) (fun _ _ => False) o (some q84) g89)))))) := by
  refine ⟨by decide, by decide, ?_⟩
  have J := I
  obtain ⟨S, P, -⟩ := I
  refine q_ar4 S P (fun A i W hx e hi hn e0 e1 e2 e3 => ?_)
  subst e
  have P' := PI_ar4 (x0 := w) (x1 := v) (x2 := z) (x3 := q) P
  have J' : ZI X (some (A.1 7 0)) l3 l5 l6 l7 (ar4 σ w v z q) (hp A (ar4 σ w v z q)) := J.mv (SD.mk W hx) P' cv_ar4
  rw [r_lb4 hx W P' hi hn e0 e1 e2 e3, f_fx1 W P' hc, if_pos rfl]
  exact kk _ _ J'
/-- a fix that is refused for what it is given -/
theorem z_four2 {K : GM → Prop} {v z q : Int32} (I : ZI X o l3 l5 l6 l7 σ g) (hj : 0 < gL σ 1) (hb : (v < 1 ∨ 999 < v) ∨ (z < 1 ∨ 500 < z) ∨ (q < 0 ∨ 15 < q)) (kk : ∀ (τ : St) (g' : GM), ZI X o l3 l5 l6 l7 τ g' → K g') :
    (¬ (4 : Int32) < 0 ∧ ((4 : Int32)).toNatClampNeg ≤ 4 ∧ wNew X g (.inl (0, ((4 : Int32)).toNatClampNeg, .inl (fun _ => 0))) (fun q84 g85 => wAst g85 (some q84) (0 : Int32) 0 (0 : Int32) (fun g86 => wAst g86 (some q84) (1 : Int32) 0 v (fun g87 => wAst g87 (some q84) (2 : Int32) 0 z (fun g88 => wAst g88 (some q84) (3 : Int32) 0 q (fun g89 => w_L_build X (fun (i91 : Int32) (g90 : GM) => (if i91 = (-1002 : Int32) then K g90 else w_L_law_b1589 X post px g90)) (fun _ _ => False) o (some q84) g89)))))) := by
  refine ⟨by decide, by decide, ?_⟩
  have J := I
  obtain ⟨S, P, -⟩ := I
  refine q_ar4 S P (fun A i W hx e hi hn e0 e1 e2 e3 => ?_)
  subst e
  have P' := PI_ar4 (x0 := 0) (x1 := v) (x2 := z) (x3 := q) P
  have J' : ZI X (some (A.1 7 0)) l3 l5 l6 l7 (ar4 σ 0 v z q) (hp A (ar4 σ 0 v z q)) := J.mv (SD.mk W hx) P' cv_ar4
  rw [r_lb4 hx W P' hi hn e0 e1 e2 e3]
  refine Eq.mpr (f_fx2 (j := 0) W P' hj hb) ?_
  rw [if_pos rfl]
  exact kk _ _ J'
end ZF
