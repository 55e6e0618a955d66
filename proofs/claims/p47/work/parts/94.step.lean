theorem irem_nI {a n : Nat} (ha : a < 2 ^ 31) (h0 : 0 < n) (hn : n < 2 ^ 31) : irem (nI a) (nI n) = nI (a % n) := pk_rem ha h0 hn
theorem irem_neg {v : Int32} {a n : Nat} (hv : v.toInt = -(a : Int)) (ha : a ≤ 2 ^ 31) (h0 : 0 < n) (hn : n < 2 ^ 31) : (irem v (nI n)).toInt = -((a % n : Nat) : Int) := by
  have hd := nI_toInt hn
  have hq : (v / nI n).toInt = -((a / n : Nat) : Int) := by
    have hle := Nat.div_le_self a n
    rw [Int32.toInt_div, hd, hv, Int.neg_tdiv, Int.tdiv_eq_ediv_of_nonneg (by omega), ← Int.natCast_ediv]
    generalize a / n = q at hle ⊢
    rw [Int.bmod_eq_of_le (by omega) (by omega)]
  have hle := Nat.div_mul_le_self a n
  have hp : (v / nI n * nI n).toInt = -((a / n * n : Nat) : Int) := by
    rw [Int32.toInt_mul, hq, hd, Int.neg_mul, ← Int.natCast_mul, Int.bmod_eq_of_le (by omega) (by omega)]
  have hm := Nat.div_add_mod' a n
  have hlt := Nat.mod_lt a h0
  unfold irem
  rw [Int32.toInt_sub, hp, hv, Int.bmod_eq_of_le (by omega) (by omega)]
  omega
theorem w_some {X : Cx} {px : String → GM → Prop} {g : GM} {post : Int32 → GM → Prop} {v d : Int32} (n : Nat) (hd : d = nI n) (h0 : 0 < n) (hn : n < 2 ^ 31) (kk : ∀ m, m < n → post (nI m) g) : w_L_some X post px v d g := by
  subst hd
  unfold w_L_some w_L_some_b15
  refine ⟨nI_ne0 h0 hn, ?_⟩
  have hd := nI_toInt hn
  have b1 := Int32.le_toInt v
  by_cases hv : v < 0
  · have hv' : v.toInt < 0 := Int32.lt_iff_toInt_lt.mp hv
    obtain ⟨a, ha⟩ : ∃ a : Nat, v.toInt = -(a : Int) := ⟨(-v.toInt).toNat, by omega⟩
    have hr := irem_neg ha (by omega) h0 hn
    have hlt := Nat.mod_lt a h0
    by_cases z : a % n = 0
    · have e : irem v (nI n) = nI 0 := Int32.toInt_inj.mp (by rw [hr, z]; rfl)
      rw [e, if_pos (by decide)]
      exact kk 0 h0
    · have e : irem v (nI n) + nI n = nI (n - a % n) := Int32.toInt_inj.mp (by rw [Int32.toInt_add, hr, hd, nI_toInt (by omega), Int.bmod_eq_of_le (by omega) (by omega)]; omega)
      rw [if_neg (fun h => by
        have h' := Int32.le_iff_toInt_le.mp h
        rw [hr] at h'
        have h2 : (0 : Int32).toInt = 0 := rfl
        omega), e]
      exact kk _ (by omega)
  · obtain ⟨m, hm, rfl⟩ := nI_of hv
    rw [irem_nI hm h0 hn, if_pos (show (0 : Int32) ≤ nI (m % n) from nI_le (a := 0) (Nat.zero_le _) (Nat.lt_trans (Nat.mod_lt m h0) hn))]
    exact kk _ (Nat.mod_lt m h0)
theorem l_nn {m : Nat} (h : m ≤ 1000) : ¬ nI m < 0 := nI_nlt (b := 0) (Nat.zero_le m) (by omega)
theorem nn_le {r : Int32} (h : ¬ r < 0) : (-1000 : Int32) ≤ r := by
  rw [Int32.lt_iff_toInt_lt] at h
  rw [Int32.le_iff_toInt_le]
  have h1 : (-1000 : Int32).toInt = -1000 := rfl
  have h2 : (0 : Int32).toInt = 0 := rfl
  omega
theorem ite_i {c : Prop} [Decidable c] {a b : Prop} (h1 : c → a) (h2 : ¬ c → b) : if c then a else b := by
  by_cases h : c
  · rw [if_pos h]; exact h1 h
  · rw [if_neg h]; exact h2 h
/-- reading the script -/
theorem w_at {X : Cx} {px : String → GM → Prop} {g : GM} {post : Int32 → GM → Prop} {k : Nat} (hk : k < 1000) (hL : X.2.2.2 205 ≤ 260) (kk : ∀ v, post v g) : w_L_at X post px (some (X.2.2.2 204)) (nI k) g := by
  unfold w_L_at w_L_at_b13 wScl wSca
  refine ⟨rfl, ite_i (fun _ => kk _) (fun h => ⟨rfl, vp_in_nI ?_ (by omega), kk _⟩)⟩
  exact Nat.not_le.mp (fun h2 => h (nI_le h2 (by omega)))
/-! ONE STEP of the law: every kind keeps the invariant and what the law has of it -/
section ST
variable {X : Cx} {px : String → GM → Prop} {post : Int32 → GM → Prop} {o l0 : Option Nat} {σ : St} {g : GM} {n : Nat} {K : Option Nat → Option Nat → Int32 → Int32 → GM → Prop} {l2 l3 l5 l6 l7 l8 : Int32} {l9 : Int64}
theorem PI.b1 (P : PI σ) : gL σ 1 ≤ 10 := P.2.1.2.2.2.2.2.2.2.2.1
theorem PI.b2 (P : PI σ) : gL σ 2 ≤ 12 := P.2.1.2.2.2.2.2.2.2.1
theorem PI.b4 (P : PI σ) : gL σ 4 ≤ 30 := P.2.1.2.2.2.2.2.2.2.2.2
theorem s_1099 (S : SD X o σ g) (P : PI σ) (R : RN n σ) (hn : n ≤ 1000) (kk : ∀ (τ : St) (g' : GM), SD X o τ g' → PI τ → RN n τ → K l0 o l2 (l3 + 1) g') : w_L_law_b1099 X post px K l0 o l2 l3 g := by
  unfold w_L_law_b1099 w_L_law_b1117
  refine ⟨by decide, ite_i (fun _ => ?_) (fun _ => kk σ g S P R)⟩
  refine sd_sound S P R hn (fun τ g' S' P' c => ?_)
  rw [if_neg (by decide)]
  exact kk τ g' S' P' (RN_eq c R)
theorem s_1076 {r : Int32} (S : SD X o σ g) (P : PI σ) (R : RN n σ) (hn : n ≤ 1000) (h9 : ¬ (-1000 : Int32) ≤ r → l8 = 0 ∨ SUM σ = l9) (kk : ∀ (τ : St) (g' : GM), SD X o τ g' → PI τ → RN n τ → K l0 o l2 (l3 + 1) g') : w_L_law_b1076 X post px K l0 o l2 l3 l8 l9 r g := by
  unfold w_L_law_b1076
  refine ite_i (fun _ => s_1099 S P R hn kk) (fun h => ite_i (fun _ => s_1099 S P R hn kk) (fun h8 => ?_))
  rw [sd_sum S P, if_pos ((lgc_iff _ _).mpr ((h9 h).resolve_left h8))]
  exact s_1099 S P R hn kk
end ST
section SK
variable {X : Cx} {px : String → GM → Prop} {post : Int32 → GM → Prop} {o l0 : Option Nat} {σ : St} {g : GM} {n : Nat} {K : Option Nat → Option Nat → Int32 → Int32 → GM → Prop} {l2 l3 l5 l6 l7 l8 : Int32} {l9 : Int64}
/-- how a step ends: any answer that is no refusal in any state with the invariant; a refusal where nothing that is read has changed -/
def SE (X : Cx) (post : Int32 → GM → Prop) (px : String → GM → Prop) (K : Option Nat → Option Nat → Int32 → Int32 → GM → Prop) (l0 o : Option Nat) (l2 l3 l8 : Int32) (l9 : Int64) (n : Nat) (σ : St) : Prop := ∀ (τ : St) (g' : GM) (r : Int32), SD X o τ g' → PI τ → RN (n + 1) τ → (¬ (-1000 : Int32) ≤ r → cv τ = cv σ) → w_L_law_b1076 X post px K l0 o l2 l3 l8 l9 r g'
theorem SE_of (hn : n + 1 ≤ 1000) (h9 : l8 = 0 ∨ SUM σ = l9) (kk : ∀ (τ : St) (g' : GM), SD X o τ g' → PI τ → RN (n + 1) τ → K l0 o l2 (l3 + 1) g') : SE X post px K l0 o l2 l3 l8 l9 n σ := fun τ g' r S P R hc => s_1076 S P R hn (fun h => h9.elim Or.inl (fun e => Or.inr ((SUM_eq (hc h)).trans e))) kk
theorem SE.f (h : SE X post px K l0 o l2 l3 l8 l9 n σ) (S : SD X o σ g) (P : PI σ) (R : RN n σ) (r : Int32) : w_L_law_b1076 X post px K l0 o l2 l3 l8 l9 r g := h σ g r S P (RN_le (Nat.le_succ n) R) (fun _ => rfl)
theorem SE.s (h : SE X post px K l0 o l2 l3 l8 l9 n σ) {τ : St} {g' : GM} {r : Int32} (S : SD X o τ g') (P : PI τ) (R : RN n τ) (hr : ¬ r < 0) : w_L_law_b1076 X post px K l0 o l2 l3 l8 l9 r g' := h τ g' r S P (RN_le (Nat.le_succ n) R) (fun z => absurd (nn_le hr) z)
theorem s_942 (h : SE X post px K l0 o l2 l3 l8 l9 n σ) {τ : St} {g' : GM} {r : Int32} (S : SD X o τ g') (P : PI τ) (R : RN n τ) (hc : r < 0 → cv τ = cv σ) : w_L_law_b942 X post px K l0 o l2 l3 l8 l9 r g' := by
  unfold w_L_law_b942 w_L_law_b955
  exact ite_i (fun z => h τ g' r S P (RN_le (Nat.le_succ n) R) (fun _ => hc z)) (fun z => h τ g' 0 S P (RN_le (Nat.le_succ n) R) (fun y => absurd (by decide) y))
/-- a purchase -/
theorem k_buy {w : Int32} (S : SD X o σ g) (P : PI σ) (R : RN n σ) (h : SE X post px K l0 o l2 l3 l8 l9 n σ) : w_L_both X (fun (i187 : Int32) (g186 : GM) => (if i187 < 0 then w_L_law_b1076 X post px K l0 o l2 l3 l8 l9 i187 g186 else ¬ (5 : Int32) = 0 ∧ ¬ (8 : Int32) = 0 ∧ w_L_both X (fun (i193 : Int32) (g192 : GM) => (if i193 = (1 : Int32) then ¬ (5 : Int32) = 0 ∧ ¬ (8 : Int32) = 0 ∧ w_L_both X (fun (i195 : Int32) (g194 : GM) => (if i195 = (1 : Int32) then w_L_law_b1076 X post px K l0 o l2 l3 l8 l9 i187 g194 else w_L_law_b1074 X post px g194)) (fun _ _ => False) o (117 : Int32) l7 w g192 else w_L_law_b1074 X post px g192)) (fun _ _ => False) o (111 : Int32) l7 w g186)) (fun _ _ => False) o (98 : Int32) l7 w g := by
  refine o_buy S P R (fun r hr => ?_) (fun τ g' r S' P' R' hr h1 h2 => ?_)
  · rw [if_pos (by rcases hr with rfl | rfl | rfl | rfl <;> decide)]
    exact h.f S P R r
  · rw [if_neg hr]
    refine ⟨by decide, by decide, ?_⟩
    rw [sd_o S' P', if_pos h1]
    refine ⟨by decide, by decide, ?_⟩
    rw [sd_u S' P', if_pos h2]
    exact h.s S' P' R' hr
/-- stars -/
theorem k_rate {w : Int32} (S : SD X o σ g) (P : PI σ) (R : RN n σ) (h : SE X post px K l0 o l2 l3 l8 l9 n σ) : w_L_both X (fun (i197 : Int32) (g196 : GM) => (if i197 < 0 then w_L_law_b1011 X post px K l0 o l2 l3 l8 l9 i197 g196 else w_L_both X (fun (i199 : Int32) (g198 : GM) => (if i199 = w then w_L_law_b1011 X post px K l0 o l2 l3 l8 l9 i197 g198 else False)) (fun _ _ => False) o (114 : Int32) l7 w g196)) (fun _ _ => False) o (114 : Int32) l7 w g := by
  unfold w_L_law_b1011
  refine o_rate S P R (fun r hr _ => ?_) (fun τ g' j hv hj S' P' R' hp hw l2' hr2 e => ?_)
  · rw [if_pos (by rcases hr with rfl | rfl | rfl <;> decide)]
    exact h.f S P R r
  · rw [if_neg hp]
    have hj' : j < gL τ 2 := by rw [l2']; exact hj
    have h12 := P'.b2
    refine o_rate S' P' R' (fun r hr hc => ?_) (fun τ2 g2 j2 hv2 hj2 S2 P2' R2 hp2 hw2 l22 hr22 e2 => ?_)
    · rcases hc with hc | hc | ⟨j3, hv3, hj3, hc⟩
      · exact absurd (by rw [hv] at hc; exact hc) (q_nb hj' (by omega))
      · exact absurd hc hw
      · have : j = j3 := (nI_eq (by omega) (by omega)).mp (hv.symm.trans hv3)
        rw [← this] at hc
        exact absurd hc hr2
    · have : j = j2 := (nI_eq (by omega) (by omega)).mp (hv.symm.trans hv2)
      rw [← this, if_pos e]
      exact h.s S2 P2' R2 hp
/-- a build's stage -/
theorem k_stage {w z : Int32} {c : Prop} (hc : c) (S : SD X o σ g) (P : PI σ) (R : RN n σ) (h : SE X post px K l0 o l2 l3 l8 l9 n σ) : w_L_three X (fun (i231 : Int32) (g230 : GM) => (if i231 < 0 then w_L_law_b1076 X post px K l0 o l2 l3 l8 l9 i231 g230 else w_L_ofq X (fun (i233 : Int32) (g232 : GM) => ¬ (7 : Int32) = 0 ∧ ¬ (100 : Int32) = 0 ∧ (if i233 = w then w_L_law_b1076 X post px K l0 o l2 l3 l8 l9 i231 g232 else False)) (fun _ _ => False) o l6 (3 : Int32) g230)) (fun _ _ => False) o (115 : Int32) l6 w z g := by
  refine o_stage S P R (fun r hr => ?_) (fun τ g' r S' P' R' hr e => ?_)
  · rw [if_pos (by rcases hr with rfl | rfl | rfl | rfl <;> decide)]
    exact h.f S P R r
  · rw [if_neg hr, sd_of3 S' P']
    refine ⟨by decide, by decide, ?_⟩
    rw [if_pos e]
    exact h.s S' P' R' hr
/-- days -/
theorem k_days {w : Int32} (S : SD X o σ g) (P : PI σ) (R : RN n σ) (h : SE X post px K l0 o l2 l3 l8 l9 n σ) : w_L_both X (fun (i225 : Int32) (g224 : GM) => w_L_sets X (fun (i227 : Int32) (g226 : GM) => (if i227 < 0 then w_L_law_b710 X post px K l0 o l2 l3 l8 l9 i227 g226 else (if i225 < 0 then w_L_law_b710 X post px K l0 o l2 l3 l8 l9 i227 g226 else w_L_ofq X (fun (i229 : Int32) (g228 : GM) => (if i229 = i225 then w_L_law_b710 X post px K l0 o l2 l3 l8 l9 i227 g228 else False)) (fun _ _ => False) o l6 (3 : Int32) g226))) (fun _ _ => False) o (100 : Int32) w g224) (fun _ _ => False) o (112 : Int32) l6 w g := by
  unfold w_L_law_b710
  rw [sd_p S P]
  refine o_pass S P R (fun r hr => ?_) (fun τ g' r S' P' R' hr e1 e => ?_)
  · rw [if_pos (by rcases hr with rfl | rfl <;> decide)]
    exact h.f S P R r
  · rw [if_neg hr]
    refine ite_i (fun _ => h.s S' P' R' hr) (fun hd => ?_)
    rw [sd_of3 S' P', if_pos ?_]
    · exact h.s S' P' R' hr
    · have h10 := P.b1
      unfold oi at hd ⊢
      rw [e1]
      by_cases c : l6 < 0 ∨ nI (gL σ 1) - 1 < l6
      · rw [if_pos c] at hd
        exact absurd (by decide) hd
      · rw [if_neg c] at hd ⊢
        rw [if_neg c]
        obtain ⟨j, hj, hj2⟩ := (q_ix l6 (show gL σ 1 ≤ 40 by omega)).resolve_left c
        subst hj2
        rw [nI_clamp (by omega)] at hd ⊢
        rw [e j hj]
        unfold v_aft at hd ⊢
        by_cases c2 : w < 1 ∨ 99 < w
        · rw [if_pos c2] at hd
          exact absurd (by decide) hd
        · rw [if_neg c2]
/-- an update -/
theorem k_update (S : SD X o σ g) (P : PI σ) (R : RN n σ) (hn : n ≤ 1000) (h : SE X post px K l0 o l2 l3 l8 l9 n σ) : w_L_device X (fun (i215 : Int32) (g214 : GM) => (if 0 ≤ i215 then w_L_ofq X (fun (i217 : Int32) (g216 : GM) => w_L_law_b746 X post px K l0 o l2 l3 l7 l8 l9 i215 i217 g216) (fun _ _ => False) o i215 (8 : Int32) g214 else w_L_law_b746 X post px K l0 o l2 l3 l7 l8 l9 i215 (0 : Int32) g214)) (fun _ _ => False) o l7 (0 : Int32) g := by
  rw [sd_d0 S P]
  have h12 := P.b2
  have h10 := P.b1
  have key : ∀ t0 : Int32, (∀ r : Nat, r < gL σ 1 → oi (gL σ 2) l7 (v_off σ) = nI r → t0 = gV σ 1 12 r) → w_L_law_b746 X post px K l0 o l2 l3 l7 l8 l9 (oi (gL σ 2) l7 (v_off σ)) t0 g := by
    intro t0 ht
    unfold w_L_law_b746 w_L_law_b798
    refine o_update S P R hn (fun r hr hr0 => ?_) (fun τ g' d r hv hd hr ho S' P' R' e1 e2 e3 e4 => ?_)
    · rw [if_pos hr, if_pos hr0]
      exact h.f S P R r
    · have ho' : oi (gL σ 2) l7 (v_off σ) = nI r := by rw [hv, oi_in hd (by omega), ho]
      rw [if_pos ho'.symm, if_neg (l_nn (by omega)), sd_d2 S' P', hv, oi_in (by rw [e2]; exact hd) (by omega), if_pos (by unfold v_has; rw [if_neg (by rw [e3]; omega), e3]; rfl), sd_of8 S' P', oi_in (by rw [e1]; exact hr) (by have := P'.b1; omega), if_pos (by rw [e4, ht r hr ho'])]
      exact h τ g' _ S' P' R' (fun z => absurd (nn_le (l_nn (by omega))) z)
  by_cases c : 0 ≤ oi (gL σ 2) l7 (v_off σ)
  · rw [if_pos c, sd_of8 S P]
    refine key _ (fun r hr e => ?_)
    rw [e, oi_in hr (by omega)]
  · rw [if_neg c]
    refine key _ (fun r hr e => ?_)
    rw [e] at c
    exact absurd (nI_le (a := 0) (Nat.zero_le r) (by omega)) c
/-- crashes -/
theorem k_crash2 {τ : St} {g' : GM} {r : Int32} (S : SD X o τ g') (P : PI τ) (R : RN (n + 1) τ) (hn : n + 1 ≤ 1000) (h6 : gV τ 6 1 0 = 0) (hc : ¬ (-1000 : Int32) ≤ r → cv τ = cv σ) (h : SE X post px K l0 o l2 l3 l8 l9 n σ) : w_L_law_b882 X post px K l0 o l2 l3 l7 l8 l9 r g' := by
  unfold w_L_law_b882
  refine o_crash S P R hn (fun τ2 g2 r2 hr2 S2 P2' c2 _ => ?_) (fun τ2 g2 t hne => absurd h6 hne)
  rw [if_pos (by rcases hr2 with rfl | rfl <;> decide)]
  exact h τ2 g2 r S2 P2' (RN_eq c2 R) (fun z => c2.trans (hc z))
theorem k_crash {τ : St} {g' : GM} (S : SD X o τ g') (P : PI τ) (c0 : cv τ = cv σ) (R : RN n σ) (hn : n + 1 ≤ 1000) (h : SE X post px K l0 o l2 l3 l8 l9 n σ) : wIs g' o 7 (w_X7_groups X (fun (i205 : Int32) (g204 : GM) => w_L_device X (fun (i207 : Int32) (g206 : GM) => (if i207 < 0 then w_L_law_b882 X post px K l0 o l2 l3 l7 l8 l9 i207 g206 else (if i205 < i207 then w_L_law_b892 X post px g206 else wIs g206 o 7 (w_X7_groups X (fun (i211 : Int32) (g210 : GM) => (if i211 < i205 then w_L_law_b892 X post px g210 else w_L_law_b882 X post px K l0 o l2 l3 l7 l8 l9 i207 g210)) (fun _ _ => False) o g206)))) (fun _ _ => False) o l7 (3 : Int32) g204) (fun _ _ => False) o g') := by
  have R1 : RN n τ := RN_eq c0 R
  have h30 := P.b4
  rw [sd_gr S P]
  refine o_crash S P R1 (by omega) (fun τ2 g2 r2 hr2 S2 P2' c2 h6 => ?_) (fun τ2 g2 t _ S2 P2' R2 ht hg hg30 h6 => ?_)
  · rw [if_pos (by rcases hr2 with rfl | rfl <;> decide)]
    exact k_crash2 S2 P2' (RN_le (Nat.le_succ n) (RN_eq c2 R1)) hn h6 (fun _ => c2.trans c0) h
  · rw [if_neg (l_nn (by omega)), if_neg (nI_nlt ht (by omega)), sd_gr S2 P2', if_neg (nI_nlt hg (by omega))]
    exact k_crash2 S2 P2' R2 hn h6 (fun z => absurd (nn_le (l_nn (by omega))) z) h
theorem sub1 (x : Int32) : x + (-1 : Int32) = x - 1 := by rw [Int32.sub_eq_add_neg]
theorem k_typing (R : RN n σ) (hn : n + 1 ≤ 1000) (h : SE X post px K l0 o l2 l3 l8 l9 n σ) : ∀ (f m : Nat) (τ : St) (g' : GM), m < f → m ≤ 6 → SD X o τ g' → PI τ → cv τ = cv σ → w_L_law_l815 X post px K f l0 o l2 l3 l5 l7 l8 l9 (nI m - 1) g' := by
  intro f
  induction f with
  | zero => intro m τ g' hm; omega
  | succ f ih =>
    intro m τ g' hm h6 S P c
    rw [w_L_law_l815]
    cases m with
    | zero =>
      rw [if_pos (by decide)]
      exact k_crash S P c R hn h
    | succ m =>
      rw [nI_pred, if_neg (l_nn (by omega))]
      refine o_type S P (fun r _ => ?_) (fun τ2 g2 r S2 P2' c2 => ?_)
      · rw [sub1]
        exact ih m τ g' (by omega) (by omega) S P c
      · rw [sub1]
        exact ih m τ2 g2 (by omega) (by omega) S2 P2' (c2.trans c)
end SK
