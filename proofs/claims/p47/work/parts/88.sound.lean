/-! isSound: every check of it holds -/
theorem oF_z {n : Nat} {F : Nat → UInt32} (hj : 0 < n) (hn : n ≤ 40) : oF n 0 F = F 0 := oF_in (j := 0) hj hn
theorem rt_c1 : ¬ 0 < (Op.cmpValue (FP.dcmp (13835058055282163712 : UInt64) (4617315517961601024 : UInt64)) .l) := by decide +kernel
theorem rt_c2 : ¬ 0 ≤ (Op.cmpValue (FP.dcmp (13835058055282163712 : UInt64) FP.dconst1) .g) := by decide +kernel
theorem rt_c3 : (Op.cmpValue (FP.dcmp (13835058055282163712 : UInt64) (13835058055282163712 : UInt64)) .l) = 0 := by decide +kernel
section SO
variable {A : Ad} {σ : St} {X : Cx} {px : String → GM → Prop} {post : Int32 → GM → Prop}
theorem q_i27 {K : Option Nat → Int32 → Int32 → Int32 → Int32 → GM → Prop} {l1 w : Int32} {b : Nat} (hx : hX X A) (W : WF A σ) (P : PI σ) (hb : b < gL σ 1) (h : w_L_isSound_l27 X post px K 1 (some (A.1 7 0)) l1 (nI (gL σ 2)) w (nI b) (v_reach σ b) (nI (gL σ 2)) (hp A σ)) : ∀ (k f i : Nat), i + k = gL σ 2 → k < f → w_L_isSound_l27 X post px K f (some (A.1 7 0)) l1 (nI (gL σ 2)) w (nI b) (sm (fun d => cu_op σ b d) i) (nI i) (hp A σ) := by
  have h12 : gL σ 2 ≤ 12 := P.2.1.2.2.2.2.2.2.2.1
  have h10 : gL σ 1 ≤ 10 := P.2.1.2.2.2.2.2.2.2.2.1
  intro k
  induction k with
  | zero =>
    intro f i hi hf
    obtain ⟨f, rfl⟩ : ∃ f', f = f' + 1 := ⟨f - 1, by omega⟩
    have he : i = gL σ 2 := by omega
    subst he
    have hle : nI (gL σ 2) ≤ nI (gL σ 2) := nI_le (Nat.le_refl _) (by omega)
    rw [w_L_isSound_l27, if_pos hle] at h ⊢
    exact h
  | succ k ih =>
    intro f i hi hf
    obtain ⟨f, rfl⟩ : ∃ f', f = f' + 1 := ⟨f - 1, by omega⟩
    rw [w_L_isSound_l27, if_neg (nI_ge (by omega) (by omega)), r_c hx W P, oi_in (show i < gL σ 2 by omega) (by omega), oi_in hb (by omega), nI_1]
    exact ih f (i + 1) (by omega) (by omega)
theorem q_ib {n : Nat} {K : Option Nat → Int32 → Int32 → Int32 → Int32 → GM → Prop} {l1 w : Int32} {b : Nat} (hx : hX X A) (W : WF A σ) (P : PI σ) (R : RN n σ) (hn : n ≤ 1000) (hb : b < gL σ 1)
    (kk : ∀ (A' : Ad) (τ : St), WF A' τ → hX X A' → A'.1 7 0 = A.1 7 0 → PI τ → cv τ = cv σ → K (some (A'.1 7 0)) l1 (nI (gL σ 2)) (w + gV σ 20 1 b) (nI (b + 1)) (hp A' τ)) : w_L_isSound_l27 X post px K 1 (some (A.1 7 0)) l1 (nI (gL σ 2)) w (nI b) (v_reach σ b) (nI (gL σ 2)) (hp A σ) := by
  have h12 : gL σ 2 ≤ 12 := P.2.1.2.2.2.2.2.2.2.1
  have h10 : gL σ 1 ≤ 10 := P.2.1.2.2.2.2.2.2.2.2.1
  have h40 : gL σ 1 ≤ 40 := by omega
  have hle : nI (gL σ 2) ≤ nI (gL σ 2) := nI_le (Nat.le_refl _) (by omega)
  rw [w_L_isSound_l27, if_pos hle, r_of4 hx W P, oi_in hb h40]
  try dsimp only
  rw [r_of3 hx W P, oi_in hb h40]
  try dsimp only
  rw [r_of7 hx W P, oi_in hb h40]
  try dsimp only
  rw [r_of5 hx W P, oi_in hb h40]
  try dsimp only
  rw [if_pos rfl, r_of6 hx W P, oi_in hb h40]
  try dsimp only
  rw [if_pos rfl]
  have g300 : ∀ (A' : Ad) (τ : St) (t : Int32), WF A' τ → hX X A' → A'.1 7 0 = A.1 7 0 → PI τ → cv τ = cv σ → (∀ (px : String → GM → Prop) (post : Int32 → GM → Prop), w_L_group X post px (some (A'.1 7 0)) (-9) 0 (hp A' τ) = post 118 (hp A' τ)) → w_L_isSound_b300 X post px K (some (A'.1 7 0)) l1 (nI (gL σ 2)) (w + gV σ 20 1 b) (nI b) t t (hp A' τ) := by
    intro A' τ t W' hx' h7 P' c' hl
    unfold w_L_isSound_b300
    rw [if_pos rfl, hl, if_pos rfl, nI_1]
    exact kk A' τ W' hx' h7 P' c'
  have g187 : w_L_isSound_b187 X post px K (some (A.1 7 0)) l1 (nI (gL σ 2)) (w + gV σ 20 1 b) (nI b) (gV σ 1 10 b) (hp A σ) := by
    obtain ⟨m, t, e1, e2, h1, h2⟩ := R.1 b hb
    unfold w_L_isSound_b187
    rw [r_of7 hx W P, oi_in hb h40]
    try dsimp only
    rw [r_of8 hx W P, oi_in hb h40]
    try dsimp only
    rw [if_neg (by rw [e1, e2]; exact nI_nlt (by omega) (by omega)), r_p hx W P, oi_in hb h40]
    try dsimp only
    rw [if_neg (aft_ge P hb)]
    refine q_of9 hx W P hb (fun A' τ len W' hx' h7 P' c' l10 l30 hl => ?_)
    rw [if_pos (show (10 : Int32) ≤ nI len from nI_le (a := 10) l10 (by omega)), ← h7]
    have hb' : b < gL τ 1 := by rw [cv_L c' (by decide)]; exact hb
    have h10' : gL τ 1 ≤ 10 := P'.2.1.2.2.2.2.2.2.2.2.1
    have hc' := q_nb hb' (show gL τ 1 ≤ 40 by omega)
    have hcl : (nI b).toNatClampNeg = b := nI_clamp (by omega)
    rw [r_rt hx' W' P', if_neg hc', hcl]
    try dsimp only
    rcases v_rt_ok P' hb' with ⟨z0, z1, z2⟩ | ⟨z1, z2⟩
    · rw [z1, if_neg rt_c1, if_neg rt_c2, if_pos rt_c3]
      unfold w_L_isSound_b268
      rw [if_pos rt_c3]
      unfold w_L_isSound_b282
      rw [r_rb hx' W' P', if_neg hc', hcl, z2]
      try dsimp only
      rw [if_pos (cmpS _)]
      exact g300 A' τ 1 W' hx' h7 P' c' hl
    · unfold rtOk at z1
      simp only [Bool.and_eq_true, decide_eq_true_eq] at z1
      obtain ⟨⟨⟨y1, y2⟩, y3⟩, y4⟩ := z1
      rw [if_neg y1, if_pos y2]
      unfold w_L_isSound_b268
      rw [if_neg y3]
      unfold w_L_isSound_b282
      rw [r_rb hx' W' P', if_neg hc', hcl, z2]
      try dsimp only
      rw [if_neg (fun z => y4 ((lgc_iff _ _).mp z))]
      exact g300 A' τ 0 W' hx' h7 P' c' hl
  have g163 : w_L_isSound_b163 X post px K (some (A.1 7 0)) l1 (nI (gL σ 2)) (w + gV σ 20 1 b) (nI b) (gV σ 1 10 b) (hp A σ) := by
    obtain ⟨p, hp, e⟩ := pc_rng P hb
    unfold w_L_isSound_b163
    rw [if_neg (by rw [e]; exact nI_nlt (a := 100) (b := p) (by omega) (by omega))]
    by_cases c : gV σ 1 10 b ≤ 0
    · rw [if_pos c]; exact g187
    · rw [if_neg c, r_of2 hx W P, oi_in hb h40]
      try dsimp only
      rw [if_pos (R.2.1 b hb (fun z => c (by rw [z]; decide)))]
      exact g187
  have g153 : w_L_isSound_b153 X post px K (some (A.1 7 0)) l1 (nI (gL σ 2)) (w + gV σ 20 1 b) (nI b) (v_reach σ b) (gV σ 1 10 b) (hp A σ) := by
    unfold w_L_isSound_b153
    by_cases c : gV σ 1 10 b = 0
    · rw [if_pos c, if_neg (by rw [reach_z (rl_pc c)]; decide)]
      exact g163
    · rw [if_neg c]
      exact g163
  have g138 : ∀ t, w_L_isSound_b138 X post px K (some (A.1 7 0)) l1 (nI (gL σ 2)) (w + gV σ 20 1 b) (nI b) (v_reach σ b) (v_hold σ b) (gV σ 1 10 b) t t (hp A σ) := by
    intro t
    unfold w_L_isSound_b138
    rw [if_pos rfl]
    by_cases c : v_hold σ b = 45
    · rw [if_pos c]; exact g153
    · rw [if_neg c, if_neg (by rw [reach_z (rl_hold c)]; decide)]
      exact g153
  by_cases h97 : gV σ 1 7 b = 97
  · rw [if_neg (fun z => (v_hold_1003 b).mp z h97)]
    unfold w_L_isSound_b121
    rw [r_of2 hx W P, oi_in hb h40]
    try dsimp only
    rw [if_pos h97]
    exact g138 0
  · rw [if_pos ((v_hold_1003 b).mpr h97)]
    unfold w_L_isSound_b121
    rw [r_of2 hx W P, oi_in hb h40]
    try dsimp only
    rw [if_neg h97]
    exact g138 1
theorem q_i15 {n nb nd : Nat} (hn : n ≤ 1000) : ∀ (k f i : Nat) (A : Ad) (σ : St), WF A σ → hX X A → PI σ → RN n σ → gL σ 1 = nb → gL σ 2 = nd → i + k = nb → k < f →
    (∀ (A' : Ad) (τ : St), WF A' τ → hX X A' → A'.1 7 0 = A.1 7 0 → PI τ → cv τ = cv σ → w_L_isSound_l329 X post px 13 (some (A'.1 7 0)) (nI nb) (nI nd) (sm (fun b => gV σ 20 1 b) nb) 0 0 (hp A' τ)) → w_L_isSound_l15 X post px f (some (A.1 7 0)) (nI nb) (nI nd) (sm (fun b => gV σ 20 1 b) i) (nI i) (hp A σ) := by
  intro k
  induction k with
  | zero =>
    intro f i A σ W hx P R hnb hnd hi hf kk
    have h10 : gL σ 1 ≤ 10 := P.2.1.2.2.2.2.2.2.2.2.1
    obtain ⟨f, rfl⟩ : ∃ f', f = f' + 1 := ⟨f - 1, by omega⟩
    rw [w_L_isSound_l15, if_pos (nI_le (by omega) (by omega)), show i = nb by omega]
    exact kk A σ W hx rfl P rfl
  | succ k ih =>
    intro f i A σ W hx P R hnb hnd hi hf kk
    have h10 : gL σ 1 ≤ 10 := P.2.1.2.2.2.2.2.2.2.2.1
    have h12 : gL σ 2 ≤ 12 := P.2.1.2.2.2.2.2.2.2.1
    obtain ⟨f, rfl⟩ : ∃ f', f = f' + 1 := ⟨f - 1, by omega⟩
    rw [w_L_isSound_l15, if_neg (nI_ge (by omega) (by omega))]
    subst hnd
    refine q_i27 hx W P (show i < gL σ 1 by omega) ?_ (gL σ 2) 13 0 (by omega) (by omega)
    refine q_ib hx W P R hn (show i < gL σ 1 by omega) (fun A' τ W' hx' h7 P' c' => ?_)
    have e20 : (fun b => gV τ 20 1 b) = fun b => gV σ 20 1 b := funext fun b => cv_V c' (by decide)
    have := ih f (i + 1) A' τ W' hx' P' (RN_eq c' R) ((cv_L c' (by decide)).trans hnb) (cv_L c' (by decide)) (by omega) (by omega) (fun A'' τ' W'' hx'' h7' P'' c'' => by
      rw [e20]
      exact kk A'' τ' W'' hx'' (h7'.trans h7) P'' (c''.trans c'))
    rw [e20] at this
    exact this
theorem q_i399 {K : Option Nat → Int32 → Int32 → Int32 → Int32 → Int32 → GM → Prop} {l1 l2 l3 l4 : Int32} {d : Nat} (hx : hX X A) (W : WF A σ) (P : PI σ) (hd : d < gL σ 2) (kk : K (some (A.1 7 0)) l1 l2 l3 l4 (nI (d + 1)) (hp A σ)) : ∀ (k f i : Nat), i + k = 8 → k < f → w_L_isSound_l399 X post px K f (some (A.1 7 0)) l1 l2 l3 l4 (nI d) (nI i) (hp A σ) := by
  have h40 : gL σ 2 ≤ 40 := by have : gL σ 2 ≤ 12 := P.2.1.2.2.2.2.2.2.2.1; omega
  intro k
  induction k with
  | zero =>
    intro f i hi hf
    obtain ⟨f, rfl⟩ : ∃ f', f = f' + 1 := ⟨f - 1, by omega⟩
    rw [w_L_isSound_l399, if_pos (show (8 : Int32) ≤ nI i from nI_le (a := 8) (by omega) (by omega)), nI_1]
    exact kk
  | succ k ih =>
    intro f i hi hf
    obtain ⟨f, rfl⟩ : ∃ f', f = f' + 1 := ⟨f - 1, by omega⟩
    rw [w_L_isSound_l399, if_neg (show ¬ (8 : Int32) ≤ nI i from nI_ge (a := i) (b := 8) (by omega) (by omega)), r_u hx W P, oi_in hd h40]
    try dsimp only
    rw [r_o hx W P, oi_in hd h40]
    try dsimp only
    have hle : v_use σ (nI i) d ≤ v_own σ (nI i) d := by
      have hk : ¬ (nI i < 0 ∨ 7 < nI i) := by
        rintro (z | z)
        · exact nI_pos (by omega) z
        · exact nI_nlt (a := 7) (b := i) (by omega) (by omega) z
      unfold v_use v_own
      rw [if_neg hk, if_neg hk]
      by_cases c : (ub σ d >>> (nI i &&& 31)) &&& 1 = 1
      · have c2 := ub_b c
        rw [← (P.2.2.1.1 d hd).2.2.2.2.1] at c2
        rw [if_pos c, if_pos c2]; decide
      · rw [if_neg c]
        by_cases c2 : (gV σ 2 5 d >>> (nI i &&& 31)) &&& 1 = 1
        · rw [if_pos c2]; decide
        · rw [if_neg c2]; decide
    rw [if_pos hle, nI_1]
    exact ih f (i + 1) (by omega) (by omega)
theorem q_i329 {l1 l3 : Int32} (hx : hX X A) (W : WF A σ) (P : PI σ) (kk : w_L_isSound_l449 X post px 31 (some (A.1 7 0)) l1 l3 (sm (fun d => if gR σ 2 3 d = 0 then (0 : Int32) else 1) (gL σ 2)) 0 0 (hp A σ)) : ∀ (k f i : Nat), i + k = gL σ 2 → k < f → w_L_isSound_l329 X post px f (some (A.1 7 0)) l1 (nI (gL σ 2)) l3 (sm (fun d => if gR σ 2 3 d = 0 then (0 : Int32) else 1) i) (nI i) (hp A σ) := by
  have h12 : gL σ 2 ≤ 12 := P.2.1.2.2.2.2.2.2.2.1
  have h10 : gL σ 1 ≤ 10 := P.2.1.2.2.2.2.2.2.2.2.1
  intro k
  induction k with
  | zero =>
    intro f i hi hf
    obtain ⟨f, rfl⟩ : ∃ f', f = f' + 1 := ⟨f - 1, by omega⟩
    have he : i = gL σ 2 := by omega
    rw [w_L_isSound_l329, if_pos (nI_le (by omega) (by omega)), he]
    exact kk
  | succ k ih =>
    intro f i hi hf
    obtain ⟨f, rfl⟩ : ∃ f', f = f' + 1 := ⟨f - 1, by omega⟩
    have hd : i < gL σ 2 := by omega
    rw [w_L_isSound_l329, if_neg (nI_ge (by omega) (by omega)), r_d0 hx W P, oi_in hd (by omega)]
    try dsimp only
    rw [r_d2 hx W P, oi_in hd (by omega)]
    try dsimp only
    have g396 : ∀ t, t = (if gR σ 2 3 i = 0 then (0 : Int32) else 1) → w_L_isSound_b396 X post px (w_L_isSound_l329 X post px f) (some (A.1 7 0)) l1 (nI (gL σ 2)) l3 (sm (fun d => if gR σ 2 3 d = 0 then (0 : Int32) else 1) i + t) (nI i) (hp A σ) := by
      intro t ht
      unfold w_L_isSound_b396
      rw [ht]
      refine q_i399 hx W P hd ?_ 8 9 0 (by omega) (by omega)
      exact ih f (i + 1) (by omega) (by omega)
    have g365 : ∀ t, t = (if gR σ 2 3 i = 0 then (0 : Int32) else 1) → w_L_isSound_b365 X post px (w_L_isSound_l329 X post px f) (some (A.1 7 0)) l1 (nI (gL σ 2)) l3 (nI i) (v_off σ i) (v_has σ i) t (sm (fun d => if gR σ 2 3 d = 0 then (0 : Int32) else 1) i) (hp A σ) := by
      intro t ht
      unfold w_L_isSound_b365
      by_cases c : v_off σ i < 0
      · rw [if_pos c]; exact g396 t ht
      · rw [if_neg c]
        have hz : ¬ cf_at σ i (gL σ 1) = 0 := fun z => c (by unfold v_off; rw [if_pos z]; decide)
        have hle := cf_le σ i (gL σ 1)
        obtain ⟨r, hr⟩ : ∃ r, cf_at σ i (gL σ 1) = r + 1 := ⟨cf_at σ i (gL σ 1) - 1, by omega⟩
        have hok : cf_ok σ i r := by
          have := cf_is σ i (gL σ 1) hz
          rwa [hr, Nat.add_sub_cancel] at this
        have ev : v_off σ i = nI r := by unfold v_off; rw [if_neg hz, hr, Nat.add_sub_cancel]
        rw [ev, r_c hx W P, oi_in hd (by omega), oi_in (show r < gL σ 1 by omega) (by omega), hok.2]
        try dsimp only
        rw [if_pos rfl]
        have hne : ¬ nI r = v_has σ i := by
          intro z
          unfold v_has at z
          have h1 := hok.1
          unfold cf_nw at h1
          by_cases y : gR σ 2 3 i = 0
          · rw [if_pos y] at z
            have : (nI r).toInt = (-1003 : Int32).toInt := by rw [z]
            rw [nI_toInt (by omega)] at this
            have h2 : (-1003 : Int32).toInt = -1003 := by decide
            omega
          · rw [if_neg y] at z h1
            have hle2 : gR σ 2 3 i ≤ gL σ 1 := W.2.2 2 3 i hd
            have e := (nI_eq (by omega) (by omega)).mp z
            rw [← e, if_pos (Int32.le_refl _)] at h1
            exact absurd h1 (by decide)
        rw [if_neg hne]
        exact g396 t ht
    by_cases c : v_has σ i < 0
    · rw [if_pos c]
      refine g365 0 ?_
      by_cases y : gR σ 2 3 i = 0
      · rw [if_pos y]
      · refine absurd c ?_
        unfold v_has
        rw [if_neg y]
        have hle2 : gR σ 2 3 i ≤ gL σ 1 := W.2.2 2 3 i hd
        exact nI_pos (by omega)
    · rw [if_neg c]
      refine g365 1 ?_
      rw [if_neg (fun y => c (by unfold v_has; rw [if_pos y]; decide))]
theorem q_i590 (hx : hX X A) (W : WF A σ) (P : PI σ) (kk : post 1 (hp A σ)) : w_L_isSound_b590 X post px (some (A.1 7 0)) (hp A σ) := by
  unfold w_L_isSound_b590
  rw [r_us hx W P]
  try dsimp only
  rw [if_neg (v_us_ok P)]
  unfold w_L_isSound_b604
  exact ⟨nb1, kk⟩
theorem q_i449 {n : Nat} {l3 : Int32} (hx : hX X A) (W : WF A σ) (P : PI σ) (R : RN n σ) (hn : n ≤ 1000) (kk : post 1 (hp A σ)) : ∀ (k f i : Nat), i + k = gL σ 4 → k < f → w_L_isSound_l449 X post px f (some (A.1 7 0)) (nI (gL σ 1)) l3 l3 (mxg (fun g => gV σ 4 2 g) i) (nI i) (hp A σ) := by
  have h30 : gL σ 4 ≤ 30 := P.2.1.2.2.2.2.2.2.2.2.2
  have h10 : gL σ 1 ≤ 10 := P.2.1.2.2.2.2.2.2.2.2.1
  intro k
  induction k with
  | zero =>
    intro f i hi hf
    obtain ⟨f, rfl⟩ : ∃ f', f = f' + 1 := ⟨f - 1, by omega⟩
    have he : i = gL σ 4 := by omega
    rw [w_L_isSound_l449, q_gr W P, if_pos (nI_le (by omega) (by omega)), if_pos rfl, q_gr W P, he]
    by_cases z : gL σ 4 = 0
    · have z' : nI (gL σ 4) = 0 := by rw [z]; rfl
      rw [if_pos z', r_a2 hx W P]
      try dsimp only
      rw [if_pos (show v_worst σ = -1003 from if_pos z)]
      exact q_i590 hx W P kk
    · rw [if_neg (nI_ne0 (by omega) (by omega)), r_a2 hx W P]
      try dsimp only
      obtain ⟨m, hm⟩ : ∃ m, gL σ 4 = m + 1 := ⟨gL σ 4 - 1, by omega⟩
      have hw := wg_le (fun x => gV σ 4 2 x) m
      rw [← hm] at hw
      have hwl : wg (fun x => gV σ 4 2 x) (gL σ 4) < gL σ 4 := by omega
      rw [show v_worst σ = nI (wg (fun x => gV σ 4 2 x) (gL σ 4)) from if_neg z, r_g1 hx W P _ (nI_m9 (by omega)), oi_in hwl (by omega)]
      try dsimp only
      have hmx : gV σ 4 2 (wg (fun x => gV σ 4 2 x) (gL σ 4)) = mxg (fun g => gV σ 4 2 g) (gL σ 4) := by
        rw [hm]
        refine (mxg_wg (F := fun g => gV σ 4 2 g) (fun _ => Or.inr trivial) (fun _ _ => ?_) m).symm
        obtain ⟨a, q, e, a1, a2, -⟩ := R.2.2.1 0 (by omega)
        show 0 < gV σ 4 2 0
        rw [e]
        exact nI_lt (a := 0) (by omega) (by omega)
      rw [if_pos hmx]
      exact q_i590 hx W P kk
  | succ k ih =>
    intro f i hi hf
    obtain ⟨f, rfl⟩ : ∃ f', f = f' + 1 := ⟨f - 1, by omega⟩
    have hg : i < gL σ 4 := by omega
    have h0 : 0 < gL σ 4 := by omega
    obtain ⟨a, q, e1, a1, a2, e2, a3, a4⟩ := R.2.2.1 i hg
    have hq : q < 2000 := Nat.lt_trans a4 (pw2_lt h10)
    have h9 := nI_m9 (j := i) (by omega)
    rw [w_L_isSound_l449, q_gr W P, if_neg (nI_ge (by omega) (by omega)), r_g1 hx W P _ h9, oi_in hg (by omega)]
    try dsimp only
    rw [r_g1 hx W P _ h9, oi_in hg (by omega)]
    try dsimp only
    rw [if_neg (by rw [e1]; exact nI_nlt (a := a) (b := 1) (by omega) (by omega)) , r_g2 hx W P _ h9, oi_in hg (by omega)]
    try dsimp only
    rw [if_neg (by rw [e2]; exact nI_nlt (a := q) (b := 1) (by omega) (by omega)), r_g2 hx W P _ h9, oi_in hg (by omega)]
    try dsimp only
    rw [if_neg (by rw [e2, show (1 : Int32) <<< (nI (gL σ 1) &&& 31) = nI (2 ^ gL σ 1) from pw2 ⟨gL σ 1, by omega⟩]; exact nI_ge a4 (by have := pw2_lt h10; omega)), r_lk hx W P _ _ h9, oF_in hg (by omega), oF_in hg (by omega)]
    try dsimp only
    have z9 : ((0 : Int32) = (-9 : Int32)) = False := eq_false (by decide)
    rw [if_pos (lk_self P hg), r_lk hx W P _ _ z9, oF_in hg (by omega), oF_z h0 (by omega)]
    try dsimp only
    rw [r_lk hx W P _ _ h9, oF_z h0 (by omega), oF_in hg (by omega)]
    try dsimp only
    rw [if_pos (lk_cmp P hg h0), nI_1]
    exact ih f (i + 1) (by omega) (by omega)
theorem q_sound {n : Nat} (hx : hX X A) (W : WF A σ) (P : PI σ) (R : RN n σ) (hn : n ≤ 1000)
    (kk : ∀ (A' : Ad) (τ : St), WF A' τ → hX X A' → A'.1 7 0 = A.1 7 0 → PI τ → cv τ = cv σ → post 1 (hp A' τ)) : w_L_isSound X post px (some (A.1 7 0)) (hp A σ) := by
  have h10 : gL σ 1 ≤ 10 := P.2.1.2.2.2.2.2.2.2.2.1
  have h12 : gL σ 2 ≤ 12 := P.2.1.2.2.2.2.2.2.2.1
  unfold w_L_isSound
  rw [q_bs hx W P]
  try dsimp only
  rw [q_ds hx W P]
  try dsimp only
  refine q_i15 (n := n) (nb := gL σ 1) (nd := gL σ 2) hn (gL σ 1) 11 0 A σ W hx P R rfl rfl (by omega) (by omega) (fun A' τ W' hx' h7 P' c' => ?_)
  have e1 : gL τ 1 = gL σ 1 := cv_L c' (by decide)
  have e2 : gL τ 2 = gL σ 2 := cv_L c' (by decide)
  have e3 : sm (fun b => gV σ 20 1 b) (gL σ 1) = sm (fun d => if gR τ 2 3 d = 0 then (0 : Int32) else 1) (gL τ 2) := by
    rw [← tot_sum P' W', e1]
    exact congrArg (fun F => sm F (gL σ 1)) (funext fun b => (cv_V c' (by decide)).symm)
  rw [e3, ← e2, ← e1]
  refine q_i329 hx' W' P' ?_ (gL τ 2) 13 0 (by omega) (by have : gL τ 2 ≤ 12 := P'.2.1.2.2.2.2.2.2.2.1; omega)
  exact q_i449 (n := n) hx' W' P' (RN_eq c' R) hn (kk A' τ W' hx' h7 P' c') (gL τ 4) 31 0 (by omega) (by have : gL τ 4 ≤ 30 := P'.2.1.2.2.2.2.2.2.2.2.2; omega)
end SO
