/-! THE LAW'S LOOP -/
section SL
variable {X : Cx} {px : String → GM → Prop} {post : Int32 → GM → Prop} {o l0 : Option Nat} {σ : St} {g : GM} {n : Nat} {K : Option Nat → Option Nat → Int32 → Int32 → GM → Prop} {l2 l3 l4 l5 l6 l7 l8 : Int32} {l9 : Int64}
theorem s_review (S : SD X o σ g) (P : PI σ) (R : RN n σ) (h : SE X post px K l0 o l2 l3 l8 l9 n σ) : w_L_asked X (fun (i243 : Int32) (g242 : GM) => w_L_asked X (fun (i245 : Int32) (g244 : GM) => (if i243 = (-1003 : Int32) then w_L_law_b450 X post px K l0 o l2 l3 l8 l9 i245 i243 (1 : Int32) g244 else w_L_law_b450 X post px K l0 o l2 l3 l8 l9 i245 i243 (0 : Int32) g244)) (fun _ _ => False) o (1 : Int32) g242) (fun _ _ => False) o (0 : Int32) g := by
  rw [sd_a0 S P]
  unfold w_L_law_b450 w_L_law_b463 w_L_law_b492 w_L_law_b497
  refine o_review S P R (fun h0 => ?_) (fun τ g' r S' P' R' h1 h2 e => ?_)
  · rw [if_pos h0, if_pos rfl, if_pos rfl, if_pos (by rw [h0]; decide)]
    exact h.f S P R _
  · have hs : w_L_law_b1076 X post px K l0 o l2 l3 l8 l9 r g' := h τ g' r S' P' (RN_le (Nat.le_succ n) R') (fun z => absurd h2 z)
    by_cases h0 : v_next σ = -1003
    · rw [h0, oi_out (Or.inl (by decide))] at e
      by_cases c : r = 45
      · rw [if_pos c] at e
        exact absurd e (by decide)
      · rw [if_neg c] at e
        exact absurd e (by decide)
    · rw [if_neg h0, if_neg h1, if_pos rfl]
      refine ite_i (fun _ => hs) (fun _ => ?_)
      rw [sd_of2 S' P']
      by_cases c : r = 45
      · rw [if_pos c] at e ⊢
        rw [if_pos e]
        exact hs
      · rw [if_neg c] at e ⊢
        rw [if_pos e]
        exact hs
theorem s_build {x0 x1 x2 x3 x4 x5 : Int32} (S : SD X o σ g) (P : PI σ) (R : RN n σ) (h : SE X post px K l0 o l2 l3 l8 l9 n σ) : wNew X g (.inl (0, ((6 : Int32)).toNatClampNeg, .inl (fun _ => 0))) (fun q260 g261 => wAst g261 (some q260) (0 : Int32) 0 x0 (fun g262 => wAst g262 (some q260) (1 : Int32) 0 x1 (fun g263 => wAst g263 (some q260) (2 : Int32) 0 x2 (fun g264 => wAst g264 (some q260) (3 : Int32) 0 x3 (fun g265 => wAst g265 (some q260) (4 : Int32) 0 x4 (fun g266 => wAst g266 (some q260) (5 : Int32) 0 x5 (fun g267 => w_L_build X (fun (i269 : Int32) (g268 : GM) => (if i269 < 0 then w_L_law_b1076 X post px K l0 o l2 l3 l8 l9 i269 g268 else w_L_ofq X (fun (i271 : Int32) (g270 : GM) => (if i271 = (100 : Int32) then w_L_ofq X (fun (i273 : Int32) (g272 : GM) => (if i273 = 0 then w_L_law_b1076 X post px K l0 o l2 l3 l8 l9 i269 g272 else w_L_law_b317 X post px g272)) (fun _ _ => False) o i269 (5 : Int32) g270 else w_L_law_b317 X post px g270)) (fun _ _ => False) o i269 (2 : Int32) g268)) (fun _ _ => False) o (some q260) g267))))))) := by
  refine q_ar6 S P (fun A i W hx e hi hn e0 e1 e2 e3 e4 e5 => ?_)
  subst e
  have P' := PI_ar6 (x0 := x0) (x1 := x1) (x2 := x2) (x3 := x3) (x4 := x4) (x5 := x5) P
  have R' : RN n (ar6 σ x0 x1 x2 x3 x4 x5) := RN_eq cv_ar6 R
  have h10 := P.b1
  rw [r_lb6 hx W P' hi hn e0 e1 e2 e3 e4 e5]
  refine o_build hx W P' R' (fun τ g' r hr S2 P2 c => ?_) (fun τ g' S2 P2 R2 e6 e7 => ?_)
  · rw [if_pos (by rcases hr with rfl | rfl <;> decide)]
    exact h τ g' r S2 P2 (RN_le (Nat.le_succ n) (RN_eq (c.trans cv_ar6) R)) (fun _ => c.trans cv_ar6)
  · have hL : gL (ar6 σ x0 x1 x2 x3 x4 x5) 1 = gL σ 1 := cv_L cv_ar6 rfl
    rw [hL] at e6 e7 ⊢
    have h10' := P2.b1
    have hj : gL σ 1 < gL τ 1 := by rw [e6]; exact Nat.lt_succ_self _
    rw [if_neg (l_nn (by omega)), sd_of2 S2 P2, oi_in hj (by omega), if_pos e7, sd_of5 S2 P2, oi_in hj (by omega), if_pos (reach_z (by unfold rl; rw [e7, if_neg (by decide)]))]
    exact h.s S2 P2 R2 (l_nn (by omega))
theorem s_fix {x0 x1 x2 x3 : Int32} (S : SD X o σ g) (P : PI σ) (R : RN n σ) (h : SE X post px K l0 o l2 l3 l8 l9 n σ) : wNew X g (.inl (0, ((4 : Int32)).toNatClampNeg, .inl (fun _ => 0))) (fun q252 g253 => wAst g253 (some q252) (0 : Int32) 0 x0 (fun g254 => wAst g254 (some q252) (1 : Int32) 0 x1 (fun g255 => wAst g255 (some q252) (2 : Int32) 0 x2 (fun g256 => wAst g256 (some q252) (3 : Int32) 0 x3 (fun g257 => w_L_build X (fun (i259 : Int32) (g258 : GM) => w_L_law_b1076 X post px K l0 o l2 l3 l8 l9 i259 g258) (fun _ _ => False) o (some q252) g257))))) := by
  refine q_ar4 S P (fun A i W hx e hi hn e0 e1 e2 e3 => ?_)
  subst e
  have P' := PI_ar4 (x0 := x0) (x1 := x1) (x2 := x2) (x3 := x3) P
  have R' : RN n (ar4 σ x0 x1 x2 x3) := RN_eq cv_ar4 R
  have h10 := P.b1
  have hL : gL (ar4 σ x0 x1 x2 x3) 1 = gL σ 1 := cv_L cv_ar4 rfl
  rw [r_lb4 hx W P' hi hn e0 e1 e2 e3]
  refine o_fix hx W P' R' (fun r hr => ?_) (fun τ g' S2 P2 R2 e6 e7 => ?_)
  · exact h _ _ r (SD.mk W hx) P' (RN_le (Nat.le_succ n) R') (fun _ => cv_ar4)
  · rw [hL]
    exact h.s S2 P2 R2 (l_nn (by omega))
set_option maxHeartbeats 4000000 in
theorem s_163 {t0 : Int32} (S : SD X o σ g) (P : PI σ) (R : RN n σ) (hn : n + 1 ≤ 1000) (h : SE X post px K l0 o l2 l3 l8 l9 n σ) (h5 : ∃ m, m < 2 ^ 31 ∧ l5 = nI m) : w_L_law_b163 X post px K l0 o l2 l3 l5 l6 l7 l8 l9 t0 g := by
  have h12 := P.b2
  unfold w_L_law_b163
  refine ite_i (fun _ => ite_i (fun _ => ite_i (fun _ => ite_i (fun _ => ite_i (fun _ => ite_i (fun _ => ite_i (fun _ => ite_i (fun _ => ite_i (fun _ => ite_i (fun _ => ite_i (fun _ => ite_i (fun _ => ite_i (fun _ => ?buy) (fun _ => ?rat)) (fun _ => ?bnd)) (fun _ => ?cra)) (fun _ => ?upd)) (fun _ => ?day)) (fun _ => ?stg)) (fun _ => ?siz)) (fun _ => ?app)) (fun _ => ?rev)) (fun _ => ?sub)) (fun _ => ?fix)) (fun _ => ?bld)) (fun _ => ?dev)
  case buy => exact ⟨by decide, by decide, k_buy S P R h⟩
  case rat => exact ⟨by decide, by decide, k_rate S P R h⟩
  case bnd =>
    exact ⟨by decide, ite_i (fun _ => ⟨by decide, by decide, o_bound S P R (fun r _ => s_942 h S P R (fun _ => rfl)) (fun τ g' r S' P' R' hr => s_942 h S' P' R' (fun z => absurd z hr))⟩) (fun _ => ⟨by decide, by decide, o_rlim S P R (fun r _ => s_942 h S P R (fun _ => rfl)) (fun τ g' r S' P' R' hr => s_942 h S' P' R' (fun z => absurd z hr))⟩)⟩
  case cra =>
    obtain ⟨m, hm, rfl⟩ := h5
    refine ⟨by decide, ?_⟩
    rw [show irem (nI m) (6 : Int32) = nI (m % 6 + 1) - 1 from (irem_nI hm (by decide) (by decide) : irem (nI m) (nI 6) = nI (m % 6)).trans (nI_pred (m % 6)).symm]
    exact k_typing R hn h 7 (m % 6 + 1) σ g (by omega) (by omega) S P rfl
  case upd => exact k_update S P R (by omega) h
  case day => exact ⟨by decide, k_days S P R h⟩
  case stg => exact ⟨by decide, by decide, by decide, by decide, k_stage trivial S P R h⟩
  case siz =>
    unfold w_L_law_b581
    exact ⟨by decide, ite_i (fun _ => ⟨by decide, by decide, o_size S P R (fun r _ => h.f S P R r) (fun τ g' r S' P' R' hr => h.s S' P' R' hr)⟩) (fun _ => ⟨by decide, by decide, o_barred S P R (fun r _ => h.f S P R r) (fun τ g' r S' P' R' hr => h.s S' P' R' hr)⟩)⟩
  case app =>
    refine o_appeal S P R (fun r hr => ?_) (fun τ g' r S' P' R' hr e => ?_)
    · rw [if_pos (by rcases hr with rfl | rfl <;> decide)]
      exact h.f S P R r
    · rw [if_neg hr, o_appeal2 S' P' R' e, if_pos rfl]
      exact h.s S' P' R' hr
  case rev => exact s_review S P R h
  case sub =>
    refine o_submit S P R (fun r hr => ?_) (fun τ g' r S' P' R' hr e => ?_)
    · rw [if_pos (by rcases hr with rfl | rfl <;> decide)]
      exact h.f S P R r
    · rw [if_neg hr, sd_of2 S' P', if_pos e]
      exact h.s S' P' R' hr
  case fix =>
    refine ⟨by decide, by decide, ?_⟩
    simp only [show ((7 : Int32) = 0) = False from eq_false (by decide), show ((70 : Int32) = 0) = False from eq_false (by decide), show ((11 : Int32) = 0) = False from eq_false (by decide), show ((260 : Int32) = 0) = False from eq_false (by decide), show ((17 : Int32) = 0) = False from eq_false (by decide), show ((3 : Int32) = 0) = False from eq_false (by decide), not_false_eq_true, true_and]
    exact s_fix S P R h
  case bld =>
    refine ⟨by decide, by decide, ?_⟩
    simp only [show ((60 : Int32) = 0) = False from eq_false (by decide), show ((63 : Int32) = 0) = False from eq_false (by decide), show ((7 : Int32) = 0) = False from eq_false (by decide), show ((11 : Int32) = 0) = False from eq_false (by decide), show ((260 : Int32) = 0) = False from eq_false (by decide), show ((17 : Int32) = 0) = False from eq_false (by decide), show ((3 : Int32) = 0) = False from eq_false (by decide), show ((23 : Int32) = 0) = False from eq_false (by decide), show ((256 : Int32) = 0) = False from eq_false (by decide), not_false_eq_true, true_and]
    exact s_build S P R h
  case dev =>
    refine ⟨by decide, by decide, by decide, by decide, by decide, ?_⟩
    exact o_dev S P R (fun r _ => h.f S P R r) (fun τ g' S' P' R' => h.s S' P' R' (l_nn (by omega)))
theorem s_101 {t0 : Int64} (S : SD X o σ g) (P : PI σ) (R : RN n σ) (hn : n + 1 ≤ 1000) (h : SE X post px K l0 o l2 l3 l8 t0 n σ) (h5 : ∃ m, m < 2 ^ 31 ∧ l5 = nI m) : w_L_law_b101 X post px K l0 o l2 l3 l4 l5 l6 l7 l8 t0 g := by
  unfold w_L_law_b101
  exact ite_i (fun _ => ite_i (fun _ => ite_i (fun _ => ite_i (fun _ => ite_i (fun _ => ⟨by decide, s_163 S P R hn h h5⟩) (fun _ => s_163 S P R hn h h5)) (fun _ => s_163 S P R hn h h5)) (fun _ => s_163 S P R hn h h5)) (fun _ => s_163 S P R hn h h5)) (fun _ => s_163 S P R hn h h5)
theorem s_86 {t0 : Int32} (S : SD X o σ g) (P : PI σ) (R : RN n σ) (hn : n + 1 ≤ 1000) (h5 : ∃ m, m < 2 ^ 31 ∧ l5 = nI m) (kk : ∀ (τ : St) (g' : GM), SD X o τ g' → PI τ → RN (n + 1) τ → K l0 o l2 (l3 + 1) g') : w_L_law_b86 X post px K l0 o l2 l3 l4 l5 l6 l7 t0 g := by
  unfold w_L_law_b86
  refine ite_i (fun h0 => s_101 S P R hn (SE_of hn (Or.inl h0) kk) h5) (fun _ => ?_)
  rw [sd_sum S P]
  exact s_101 S P R hn (SE_of hn (Or.inr rfl) kk) h5
theorem mx_ne {m : Nat} (h : m ≤ 1000) : ¬ (if (1 : Int32) < nI m then nI m else (1 : Int32)) = 0 := by
  by_cases c : (1 : Int32) < nI m
  · rw [if_pos c]
    refine nI_ne0 (Nat.pos_of_ne_zero (fun z => ?_)) (by omega)
    rw [z] at c
    exact absurd c (by decide)
  · rw [if_neg c]; decide
end SL
section PL
variable {X : Cx} {px : String → GM → Prop} {post : Int32 → GM → Prop} {o : Option Nat}
set_option maxHeartbeats 4000000 in
theorem p_fin {σ : St} {g : GM} {n k : Nat} {f : Nat} {nn : Nat} (S : SD X o σ g) (P : PI σ) (R : RN n σ) (hn : n ≤ 1000) (hk : nn ≤ k) (hk2 : k ≤ 1000) (kk : ∀ g, post 1 g) {l0 : Option Nat} : w_L_law_l21 X post px (f + 1) l0 o (nI nn) (nI k) g := by
  rw [w_L_law_l21, if_pos (nI_le hk (by omega))]
  refine sd_sound S P R hn (fun τ g' S' P' c => ?_)
  rw [if_neg (by decide), sd_sum S' P', sd_bs S' P', sd_ds S' P', sd_gr S' P']
  have I : ZI X o (SUM τ) (nI (gL τ 1)) (nI (gL τ 2)) (nI (gL τ 4)) τ g' := ⟨S', P', rfl, rfl, rfl, rfl⟩
  rw [f_dev1 (m := 6) S' P' (by decide), if_pos rfl, f_dev2 (m := 0) (l := 3) S' P' (by decide) (by decide), if_pos rfl, f_dev3 (m := 0) (l := 0) (u := 100) S' P' (by decide) (by decide) (by decide), if_pos rfl]
  refine z_six I (by decide) (fun τ1 g1 I1 => ?_)
  refine z_six I1 (by decide) (fun τ2 g2 I2 => ?_)
  refine z_six I2 (by decide) (fun τ3 g3 I3 => ?_)
  refine z_six I3 (by decide) (fun τ4 g4 I4 => ?_)
  refine z_six I4 (by decide) (fun τ5 g5 I5 => ?_)
  refine z_six I5 (by decide) (fun τ6 g6 I6 => ?_)
  have hb := P'.b1
  refine z_four1 I6 (by rw [← (show gL τ 1 = gL τ6 1 from (nI_eq (by omega) (by have := I6.2.1.b1; omega)).mp I6.2.2.2.1)]; exact out_n (by omega)) (fun τ7 g7 I7 => ?_)
  refine ite_i (fun _ => z_1511 I7 kk) (fun h => ?_)
  refine z_four2 I7 (by rw [← (show gL τ 1 = gL τ7 1 from (nI_eq (by omega) (by have := I7.2.1.b1; omega)).mp I7.2.2.2.1)]; exact nle_pos h) (by decide) (fun τ8 g8 I8 => ?_)
  exact z_1511 I8 kk
theorem p_21 (hL : X.2.2.2 205 ≤ 260) {nn : Nat} (hnn : nn ≤ 57) (kk : ∀ g, post 1 g) : ∀ (f k : Nat) (σ : St) (g : GM), k ≤ nn → nn - k < f → SD X o σ g → PI σ → RN k σ → w_L_law_l21 X post px f (some (X.2.2.2 204)) o (nI nn) (nI k) g := by
  intro f
  induction f with
  | zero => intro k σ g _ h; omega
  | succ f ih =>
    intro k σ g hk hf S P R
    by_cases c : nn ≤ k
    · exact p_fin S P R (by omega) c (by omega) kk
    · rw [w_L_law_l21, if_neg (nI_ge (by omega) (by omega)), show (1 : Int32) + nI k = nI (1 + k) from nI_add 1 k]
      refine w_at (by omega) hL (fun v => ?_)
      refine w_some 100000000 rfl (by decide) (by decide) (fun m hm => ?_)
      refine ⟨by decide, ?_⟩
      have h10 := P.b1
      have h12 := P.b2
      rw [sd_bs S P]
      refine ⟨mx_ne (by omega), by decide, ?_⟩
      rw [sd_ds S P]
      refine ⟨mx_ne (by omega), by decide, ?_⟩
      have h5 : ∃ m', m' < 2 ^ 31 ∧ nI m / (40 : Int32) = nI m' := ⟨m / 40, by omega, pk_div (by omega) (by decide) (by decide)⟩
      have key : ∀ (τ : St) (g' : GM), SD X o τ g' → PI τ → RN (k + 1) τ → w_L_law_l21 X post px f (some (X.2.2.2 204)) o (nI nn) (nI k + 1) g' := fun τ g' S' P' R' => by
        rw [nI_1]
        exact ih (k + 1) τ g' (by omega) (by omega) S' P' R'
      exact ite_i (fun _ => s_86 S P R (by omega) h5 key) (fun _ => s_86 S P R (by omega) h5 key)
theorem p_law (X : Cx) (h0 : X.2.2.2 200 < X.2.2.1 ∧ ∀ j : Nat, j < gLen.length → X.2.2.2 (100 + j) < X.2.2.1) (hL : X.2.2.2 205 ≤ 260) : w_L_law X (fun v _ => v = 1) (fun _ _ => False) (fun _ => none) := by
  unfold w_L_law
  refine p_entry X h0 (K := fun o g3 => w_L_at X (fun (i5 : Int32) (g4 : GM) => w_L_some X (fun (i7 : Int32) (g6 : GM) => w_L_law_l21 X (fun v _ => v = 1) (fun _ _ => False) 58 (some (X.2.2.2 204)) o i7 (0 : Int32) g6) (fun _ _ => False) i5 (58 : Int32) g4) (fun _ _ => False) (some (X.2.2.2 204)) (0 : Int32) g3) (fun A σ W hx P R => ?_)
  refine w_at (k := 0) (by decide) hL (fun v => ?_)
  refine w_some 58 rfl (by decide) (by decide) (fun m hm => ?_)
  exact p_21 hL (by omega) (fun _ => rfl) 58 0 σ _ (by omega) (by omega) (SD.mk W hx) P R
end PL
