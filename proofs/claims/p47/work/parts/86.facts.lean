/-! FACTS on numbers that the law's checks want -/
theorem sm_le2 {f g : Nat → Int32} {M : Nat} : ∀ {n : Nat}, (∀ i, i < n → ∃ a b, f i = nI a ∧ g i = nI b ∧ a ≤ b ∧ b ≤ M) → ∃ a b, sm f n = nI a ∧ sm g n = nI b ∧ a ≤ b ∧ b ≤ n * M
  | 0, _ => ⟨0, 0, rfl, rfl, Nat.le_refl _, by omega⟩
  | n + 1, h => by
    obtain ⟨a, b, h1, h2, h3, h4⟩ := sm_le2 (n := n) (fun i hi => h i (by omega))
    obtain ⟨a', b', k1, k2, k3, k4⟩ := h n (by omega)
    refine ⟨a + a', b + b', ?_, ?_, by omega, ?_⟩
    · rw [sm, h1, k1, nI_add]
    · rw [sm, h2, k2, nI_add]
    · rw [Nat.succ_mul]; omega
/-- stars and ratings: each rating has 1 to 5 stars -/
theorem sm_rate {f : Nat → Int32} (h : ∀ d, ∃ m, m ≤ 5 ∧ f d = nI m) : ∀ n : Nat, ∃ s c, sm f n = nI s ∧ sm (fun d => if 0 < f d then (1 : Int32) else 0) n = nI c ∧ c ≤ s ∧ s ≤ 5 * c ∧ c ≤ n
  | 0 => ⟨0, 0, rfl, rfl, by omega, by omega, by omega⟩
  | n + 1 => by
    obtain ⟨s, c, h1, h2, h3, h4, h5⟩ := sm_rate h n
    obtain ⟨m, hm, e⟩ := h n
    rcases Nat.eq_zero_or_pos m with hz | hp
    · refine ⟨s, c, ?_, ?_, h3, h4, by omega⟩
      · rw [sm, h1, e, hz]
        exact Int32.add_zero _
      · rw [sm, h2, e, hz, if_neg (by decide)]
        exact Int32.add_zero _
    · refine ⟨s + m, c + 1, ?_, ?_, by omega, by omega, by omega⟩
      · rw [sm, h1, e, nI_add]
      · rw [sm, h2, e, if_pos (show (0 : Int32) < nI m from nI_lt (a := 0) (by omega) (by omega)), nI_1]
def rtOk (z : UInt64) : Bool := decide (¬ 0 < (Op.cmpValue (FP.dcmp z (4617315517961601024 : UInt64)) .l)) && decide (0 ≤ (Op.cmpValue (FP.dcmp z FP.dconst1) .g)) && decide (¬ (Op.cmpValue (FP.dcmp z (13835058055282163712 : UInt64)) .l) = 0) && decide (¬ z.toInt64 = -1006)
def rtc (c : Nat) : Nat → Bool
  | 0 => true
  | k + 1 => rtOk (FP.ddiv (FP.i2d (nI (c + k))) (FP.i2d (nI c))) && rtc c k
theorem rtc_at {c m : Nat} : ∀ {k : Nat}, rtc c k = true → m < k → rtOk (FP.ddiv (FP.i2d (nI (c + m))) (FP.i2d (nI c))) = true
  | 0, _, h => absurd h (Nat.not_lt_zero _)
  | k + 1, h, hm => by
    rw [rtc, Bool.and_eq_true] at h
    by_cases e : m = k
    · rw [e]; exact h.1
    · exact rtc_at h.2 (by omega)
theorem rtc_all : (rtc 1 5 && rtc 2 9 && rtc 3 13 && rtc 4 17 && rtc 5 21 && rtc 6 25 && rtc 7 29 && rtc 8 33 && rtc 9 37 && rtc 10 41 && rtc 11 45 && rtc 12 49) = true := by decide +kernel
theorem rt_ok {c s : Nat} (h0 : 1 ≤ c) (h : c ≤ 12) (h1 : c ≤ s) (h5 : s ≤ 5 * c) : rtOk (FP.ddiv (FP.i2d (nI s)) (FP.i2d (nI c))) = true := by
  have r := rtc_all
  simp only [Bool.and_eq_true] at r
  obtain ⟨⟨⟨⟨⟨⟨⟨⟨⟨⟨⟨r1, r2⟩, r3⟩, r4⟩, r5⟩, r6⟩, r7⟩, r8⟩, r9⟩, r10⟩, r11⟩, r12⟩ := r
  obtain ⟨m, rfl⟩ : ∃ m, s = c + m := ⟨s - c, by omega⟩
  match c, h0, h with
  | 1, _, _ => exact rtc_at r1 (by omega)
  | 2, _, _ => exact rtc_at r2 (by omega)
  | 3, _, _ => exact rtc_at r3 (by omega)
  | 4, _, _ => exact rtc_at r4 (by omega)
  | 5, _, _ => exact rtc_at r5 (by omega)
  | 6, _, _ => exact rtc_at r6 (by omega)
  | 7, _, _ => exact rtc_at r7 (by omega)
  | 8, _, _ => exact rtc_at r8 (by omega)
  | 9, _, _ => exact rtc_at r9 (by omega)
  | 10, _, _ => exact rtc_at r10 (by omega)
  | 11, _, _ => exact rtc_at r11 (by omega)
  | 12, _, _ => exact rtc_at r12 (by omega)
/-- shares -/
def shOk (x : UInt32) : Bool := decide (¬ 0 < (Op.cmpValue (FP.fcmp x FP.fconst1) .g))
def shr (s : Nat) : Nat → Bool
  | 0 => true
  | k + 1 => shOk (FP.fdiv (FP.i2f (nI k)) (FP.i2f (nI s))) && shr s k
theorem shr_at {s m : Nat} : ∀ {k : Nat}, shr s k = true → m < k → shOk (FP.fdiv (FP.i2f (nI m)) (FP.i2f (nI s))) = true
  | 0, _, h => absurd h (Nat.not_lt_zero _)
  | k + 1, h, hm => by
    rw [shr, Bool.and_eq_true] at h
    by_cases e : m = k
    · rw [e]; exact h.1
    · exact shr_at h.2 (by omega)
def sha : Nat → Bool
  | 0 => true
  | k + 1 => shr (k + 1) (k + 2) && sha k
theorem sha_at {s : Nat} : ∀ {k : Nat}, sha k = true → s < k → shr (s + 1) (s + 2) = true
  | 0, _, h => absurd h (Nat.not_lt_zero _)
  | k + 1, h, hm => by
    rw [sha, Bool.and_eq_true] at h
    by_cases e : s = k
    · rw [e]; exact h.1
    · exact sha_at h.2 (by omega)
theorem sha_all : sha 96 = true := by decide +kernel
theorem sh_ok {t s : Nat} (h0 : 1 ≤ s) (h : s ≤ 96) (ht : t ≤ s) : shOk (FP.fdiv (FP.i2f (nI t)) (FP.i2f (nI s))) = true := by
  obtain ⟨q, rfl⟩ : ∃ q, s = q + 1 := ⟨s - 1, by omega⟩
  exact shr_at (sha_at sha_all (by omega)) (by omega)
theorem sh_m1 : shOk 3212836864 = true := by decide +kernel
theorem bs_le {m : Nat} (hm : m < 256) (x : Int32) : ∃ a b, bs (nI m &&& x) = nI a ∧ bs (nI m) = nI b ∧ a ≤ b ∧ b ≤ 8 := by
  obtain ⟨a, b, h1, h2, h3, h4⟩ := sm_le2 (n := 8) (M := 1) (f := fun k => if ((nI m &&& x) >>> (nI k &&& 31)) &&& 1 = 1 then 1 else 0) (g := fun k => if (nI m >>> (nI k &&& 31)) &&& 1 = 1 then 1 else 0) (fun i _ => by
    by_cases c : (nI m >>> (nI i &&& 31)) &&& 1 = 1
    · by_cases c2 : ((nI m &&& x) >>> (nI i &&& 31)) &&& 1 = 1
      · exact ⟨1, 1, if_pos c2, if_pos c, by omega, by omega⟩
      · exact ⟨0, 1, if_neg c2, if_pos c, by omega, by omega⟩
    · exact ⟨0, 0, if_neg (fun z => by rw [band1] at z; exact c z.1), if_neg c, by omega, by omega⟩)
  exact ⟨a, b, h1, h2, h3, by omega⟩
section FA
variable {σ : St} {A : Ad}
theorem us_le (P : PI σ) : ∃ t s, uT σ (gL σ 2) = nI t ∧ uS σ (gL σ 2) = nI s ∧ t ≤ s ∧ s ≤ 96 := by
  have h12 : gL σ 2 ≤ 12 := P.2.1.2.2.2.2.2.2.2.1
  obtain ⟨a, b, h1, h2, h3, h4⟩ := sm_le2 (n := gL σ 2) (M := 8) (f := fun d => bs (ub σ d)) (g := fun d => bs (gV σ 104 d 0)) (fun d _ => by
    obtain ⟨m, hm, e⟩ := P.2.2.1.2.2.1.2 d
    have hu : ub σ d = nI m &&& (if gR σ 2 3 d = 0 then 0 else gV σ 112 (gR σ 2 3 d - 1) 0) := by
      unfold ub
      rw [e]
      by_cases z : gR σ 2 3 d = 0
      · rw [if_pos z, if_pos z]
        exact Int32.toBitVec_inj.mp (by simp)
      · rw [if_neg z, if_neg z]
    obtain ⟨a, b, k1, k2, k3, k4⟩ := bs_le hm (if gR σ 2 3 d = 0 then 0 else gV σ 112 (gR σ 2 3 d - 1) 0)
    exact ⟨a, b, by rw [hu, k1], by rw [e, k2], k3, k4⟩)
  exact ⟨a, b, h1, h2, h3, by omega⟩
theorem v_us_ok (P : PI σ) : ¬ 0 < (Op.cmpValue (FP.fcmp (v_us σ) FP.fconst1) .g) := by
  have h : shOk (v_us σ) = true := by
    unfold v_us
    obtain ⟨t, s, e1, e2, h3, h4⟩ := us_le P
    by_cases z : uS σ (gL σ 2) = 0
    · rw [if_pos z]; exact sh_m1
    · rw [if_neg z, e1, e2]
      refine sh_ok ?_ h4 h3
      rcases Nat.eq_zero_or_pos s with hz | hp
      · exact absurd (by rw [e2, hz]; rfl) z
      · exact hp
  exact of_decide_eq_true h
/-- ratings -/
theorem v_rt_ok (P : PI σ) {b : Nat} (hb : b < gL σ 1) : (gV σ 1 14 b = 0 ∧ v_rt σ b = 13835058055282163712 ∧ v_rb σ b = -1006) ∨ (rtOk (v_rt σ b) = true ∧ v_rb σ b = (v_rt σ b).toInt64) := by
  have h12 : gL σ 2 ≤ 12 := P.2.1.2.2.2.2.2.2.2.1
  by_cases z : gV σ 1 14 b = 0
  · exact Or.inl ⟨z, if_pos z, if_pos z⟩
  · refine Or.inr ?_
    unfold v_rt v_rb
    rw [if_neg z, if_neg z]
    obtain ⟨r1, r2⟩ := P.2.2.2.1.2.2.2.1 b hb
    obtain ⟨s, c, e1, e2, h3, h4, h5⟩ := sm_rate (f := fun d => gV σ 205 b d) (fun d => P.2.2.1.2.2.2.2.2 d b) (gL σ 2)
    rw [r1, r2, e1, e2]
    refine ⟨rt_ok ?_ (by omega) h3 h4, rfl⟩
    rcases Nat.eq_zero_or_pos c with hz | hp
    · exact absurd (by rw [r1, e2, hz]; rfl) z
    · exact hp
theorem hld_ne (b : Nat) : ¬ hld σ b = -1003 := by
  have h3 : ∀ c s, hld3 c s = 45 ∨ hld3 c s = 116 := fun c s => by
    unfold hld3
    by_cases h : c < 3
    · exact Or.inl (if_pos h)
    · rw [if_neg h]
      by_cases h2 : 0 ≤ Op.cmpValue (FP.dcmp (FP.ddiv (FP.i2d s) (FP.i2d c)) (4612811918334230528 : UInt64)) .g
      · exact Or.inl (if_pos h2)
      · exact Or.inr (if_neg h2)
  have h2 : ∀ n c r x, (x = 45 ∨ x = 116) → ¬ hld2 n c r x = -1003 := fun n c r x hx => by
    unfold hld2
    by_cases h : n < 3
    · rw [if_pos h]; rcases hx with rfl | rfl <;> decide
    · rw [if_neg h]
      by_cases h2 : Op.cmpValue (FP.fcmp (FP.fdiv (FP.i2f c) (FP.i2f n)) r) .l ≤ 0
      · rw [if_pos h2]; rcases hx with rfl | rfl <;> decide
      · rw [if_neg h2]; decide
  unfold hld
  by_cases h : gV σ 1 3 b ≤ gV σ 7 7 0
  · rw [if_pos h]
    by_cases h' : gV σ 1 4 b &&& gV σ 7 8 0 = 0
    · rw [if_pos h']; exact h2 _ _ _ _ (h3 _ _)
    · rw [if_neg h']; decide
  · rw [if_neg h]; decide
theorem v_hold_1003 (b : Nat) : v_hold σ b = -1003 ↔ ¬ gV σ 1 7 b = 97 := by
  unfold v_hold
  by_cases h : gV σ 1 7 b = 97
  · rw [if_pos h]; exact ⟨fun z => absurd z (hld_ne b), fun z => absurd h z⟩
  · rw [if_neg h]; exact ⟨fun _ => h, fun _ => rfl⟩
theorem reach_z {b : Nat} (h : rl σ b = 0) : v_reach σ b = 0 := by
  unfold v_reach
  rw [← sm_z (n := gL σ 2)]
  refine sm_cong (fun d _ => ?_)
  unfold cu_op
  rw [if_pos h]
theorem rl_hold {b : Nat} (h : ¬ v_hold σ b = 45) : rl σ b = 0 := by
  unfold rl
  unfold v_hold at h
  by_cases h1 : gV σ 1 7 b = 97
  · rw [if_pos h1] at h ⊢
    by_cases h2 : gV σ 1 10 b ≤ 0
    · exact if_pos h2
    · rw [if_neg h2, if_neg h]
  · exact if_neg h1
theorem rl_pc {b : Nat} (h : gV σ 1 10 b = 0) : rl σ b = 0 := by
  unfold rl
  by_cases h1 : gV σ 1 7 b = 97
  · rw [if_pos h1, if_pos (by rw [h]; decide)]
  · exact if_neg h1
theorem pc_rng (P : PI σ) {b : Nat} (hb : b < gL σ 1) : ∃ p, p ≤ 100 ∧ gV σ 1 10 b = nI p := by
  obtain ⟨⟨p, hp0, hpc⟩, -⟩ := P.2.2.2.1.2.2.2.2.2.1 b hb
  exact ⟨p, hp0, (P.2.2.2.1.2.2.1 b hb).2.2.2.2.1.trans hpc⟩
theorem st_rng (P : PI σ) {b : Nat} (hb : b < gL σ 1) : ∃ p, p ≤ 100 ∧ gV σ 1 11 b = nI p := by
  obtain ⟨-, p, hp0, hpc⟩ := P.2.2.2.1.2.2.2.2.2.1 b hb
  exact ⟨p, hp0, (P.2.2.2.1.2.2.1 b hb).2.2.2.2.2.1.trans hpc⟩
theorem aft_ge (P : PI σ) {b : Nat} (hb : b < gL σ 1) : ¬ v_aft σ 1 b < gV σ 1 10 b := by
  obtain ⟨p, hp, e⟩ := pc_rng P hb
  obtain ⟨q, hq, e2⟩ := st_rng P hb
  unfold v_aft pg
  rw [if_neg (by decide)]
  by_cases h : rl σ b = 0
  · rw [if_pos h, e]; exact nI_nlt (by omega) (by omega)
  · rw [if_neg h, e, e2, Int32.mul_one, nI_add]
    by_cases c : nI (p + q) < 100
    · rw [if_pos c]; exact nI_nlt (by omega) (by omega)
    · rw [if_neg c]; exact nI_nlt (a := 100) (b := p) (by omega) (by omega)
/-- devices that have a build -/
theorem tot_sum (P : PI σ) (W : WF A σ) : sm (fun b => gV σ 20 1 b) (gL σ 1) = sm (fun d => if gR σ 2 3 d = 0 then (0 : Int32) else 1) (gL σ 2) := by
  have e1 : sm (fun b => gV σ 20 1 b) (gL σ 1) = sm (fun b => sm (fun d => if gR σ 2 3 d = b + 1 then (1 : Int32) else 0) (gL σ 2)) (gL σ 1) := sm_cong (fun b hb => (P.2.2.2.2.2.1.2.1 b hb).2.2.1)
  rw [e1, sm_swap]
  refine sm_cong (fun d hd => ?_)
  have hle : gR σ 2 3 d ≤ gL σ 1 := W.2.2 2 3 d hd
  by_cases z : gR σ 2 3 d = 0
  · rw [if_pos z]
    exact (sm_cong (f := fun _ => (0 : Int32)) (f' := fun b => if gR σ 2 3 d = b + 1 then (1 : Int32) else 0) (fun b _ => if_neg (by omega))).trans sm_z
  · obtain ⟨q, hq⟩ : ∃ q, gR σ 2 3 d = q + 1 := ⟨gR σ 2 3 d - 1, by omega⟩
    rw [if_neg z, sm_one (j := q) (by omega) (fun i _ hne => if_neg (by omega)), if_pos hq]
/-- likeness -/
theorem al_self (a : Nat → Int32) : ∀ k p, al a a k p = p + k
  | 0, p => rfl
  | k + 1, p => by rw [al, if_pos rfl, al_self a k (p + 1)]; omega
theorem al_sym (a b : Nat → Int32) : ∀ k p, al a b k p = al b a k p
  | 0, _ => rfl
  | k + 1, p => by
    rw [al, al]
    by_cases h : a p = b p
    · rw [if_pos h, if_pos h.symm, al_sym a b k (p + 1)]
    · rw [if_neg h, if_neg (fun z => h z.symm)]
theorem one_f : ∀ n : Fin 6, (Op.cmpValue (FP.fcmp (FP.fdiv (FP.i2f (nI (n.val + 1))) (FP.i2f (nI (n.val + 1)))) FP.fconst1) .l) = 0 := by decide +kernel
theorem lk_len (P : PI σ) {g : Nat} (hg : g < gL σ 4) : ∃ n, 1 ≤ n ∧ n ≤ 6 ∧ (gV σ 6 1 (g + 2)).toNatClampNeg = n := by
  obtain ⟨m, m1, m2, m3, -⟩ := P.2.2.2.2.1.2.2.1 g hg
  exact ⟨m, m1, m2, by rw [m3, nI_clamp (by omega)]⟩
theorem lk_self (P : PI σ) {g : Nat} (hg : g < gL σ 4) : (Op.cmpValue (FP.fcmp (v_lk σ g g) FP.fconst1) .l) = 0 := by
  obtain ⟨n, h1, h2, e⟩ := lk_len P hg
  unfold v_lk lkv
  rw [e, Nat.min_self, Nat.max_self, al_self, Nat.zero_add]
  obtain ⟨q, rfl⟩ : ∃ q, n = q + 1 := ⟨n - 1, by omega⟩
  exact one_f ⟨q, by omega⟩
theorem lk_sym (g h : Nat) : v_lk σ g h = v_lk σ h g := by
  unfold v_lk lkv
  rw [al_sym, Nat.min_comm, Nat.max_comm]
theorem lk_cmp (P : PI σ) {g h : Nat} (hg : g < gL σ 4) (hh : h < gL σ 4) : (Op.cmpValue (FP.fcmp (v_lk σ g h) (v_lk σ h g)) .l) = 0 := by
  rw [lk_sym h g]
  obtain ⟨n, h1, h2, e⟩ := lk_len P hg
  obtain ⟨m, k1, k2, e2⟩ := lk_len P hh
  refine fl_fcmp ?_
  unfold v_lk lkv
  refine fl_fin ?_
  rw [e, e2]
  exact nI_nz (by omega) (by omega)
/-- the worst group has the most -/
def mxg (F : Nat → Int32) : Nat → Int32
  | 0 => 0
  | i + 1 => if mxg F i < F i then F i else mxg F i
theorem mxg_wg {F : Nat → Int32} (h : ∀ i, 0 < F i ∨ True) (hp : ∀ n, 0 < n → 0 < F 0) : ∀ i, mxg F (i + 1) = F (wg F (i + 1))
  | 0 => by
    rw [mxg, mxg, wg, if_pos rfl, if_pos (hp 1 (by omega))]
  | i + 1 => by
    have ih := mxg_wg h hp i
    have e : wg F (i + 1 + 1) = if F (i + 1) ≤ F (wg F (i + 1)) then wg F (i + 1) else i + 1 := if_neg (Nat.succ_ne_zero i)
    rw [show mxg F (i + 1 + 1) = if mxg F (i + 1) < F (i + 1) then F (i + 1) else mxg F (i + 1) from rfl, ih, e]
    by_cases c : F (i + 1) ≤ F (wg F (i + 1))
    · rw [if_pos c, if_neg (le_lt.mp c)]
    · rw [if_neg c, if_pos (by
        have := Int32.not_le.mp c
        exact this)]
theorem pw2 : ∀ n : Fin 11, (1 : Int32) <<< (nI n.val &&& 31) = nI (2 ^ n.val) := by decide +kernel
theorem pw2_lt {n : Nat} (h : n ≤ 10) : 2 ^ n < 2000 := Nat.lt_of_le_of_lt (Nat.pow_le_pow_right (by omega) h) (by decide)
end FA
