/-! bits of floats -/
def n64b (r : UInt64) : Bool := decide (r.toNat % 2 ^ 63 ≤ 9218868437227405312)
theorem n64_of {r : UInt64} (h : n64b r = true) : vf_n64 r := fl_n64 (of_decide_eq_true h)
/-- halving -/
def dbd : Nat → UInt64 → Int64 → Option (UInt64 × Int64)
  | 0, _, _ => none
  | f + 1, a, e => if (Op.cmpValue (FP.dcmp a (4611686018427387904 : UInt64)) .l) < 0 then some (a, e) else if n64b (FP.ddiv a (4611686018427387904 : UInt64)) = true then dbd f (FP.ddiv a (4611686018427387904 : UInt64)) (e + 1) else none
/-- doubling -/
def dbu : Nat → UInt64 → Int64 → Option (UInt64 × Int64)
  | 0, _, _ => none
  | f + 1, a, e => if 0 ≤ (Op.cmpValue (FP.dcmp a FP.dconst1) .g) then some (a, e) else if n64b (FP.dmul a (4611686018427387904 : UInt64)) = true then dbu f (FP.dmul a (4611686018427387904 : UInt64)) (e - 1) else none
def dbz : Option (UInt64 × Int64) → Option Int64
  | none => none
  | some (a, e) => if n64b (FP.dsub a FP.dconst1) = true then (if n64b (FP.dmul (FP.dsub a FP.dconst1) (4841369599423283200 : UInt64)) = true then some ((e <<< (((52 : Int32)).toInt64 &&& 63)) ||| (FP.d2l (FP.dmul (FP.dsub a FP.dconst1) (4841369599423283200 : UInt64)))) else none) else none
def dby : Option (UInt64 × Int64) → Option Int64
  | none => none
  | some (a, e) => dbz (dbu 40 a e)
def dbx (v : UInt64) : Option Int64 := if 0 < (Op.cmpValue (FP.dcmp v FP.dconst0) .g) then dby (dbd 40 v (1023 : Int64)) else some 0
def fbr (y : Int64) : Int32 := (((((y).toUInt64 >>> (((52 : Int32)).toInt64.toUInt64 &&& Int64.toUInt64 63)).toInt64).toInt32 - (1023 : Int32)) + (127 : Int32)) <<< ((23 : Int32) &&& 31) ||| ((((y).toUInt64 >>> (((29 : Int32)).toInt64.toUInt64 &&& Int64.toUInt64 63)).toInt64).toInt32 &&& (8388607 : Int32))
def fby (r : Option Int64) (x : Int32) : Bool := match r with
  | none => false
  | some y => decide (fbr y = x)
def fbx (v : UInt32) : Bool := if 0 < (Op.cmpValue (FP.fcmp v FP.fconst0) .g) then n64b (FP.f2d v) && fby (dbx (FP.f2d v)) v.toInt32 else decide (v.toInt32 = 0)
def fall (n : Nat) : Nat → Bool
  | 0 => true
  | k + 1 => fbx (thB (n + k)) && fall n k
theorem fall_at {n m : Nat} : ∀ {k : Nat}, fall n k = true → m < k → fbx (thB (n + m)) = true
  | 0, _, h => absurd h (Nat.not_lt_zero _)
  | k + 1, h, hm => by
    rw [fall, Bool.and_eq_true] at h
    by_cases e : m = k
    · rw [e]; exact h.1
    · exact fall_at h.2 (by omega)
theorem fall_0 : fall 0 1000 = true := by decide +kernel
theorem fall_1 : fall 1000 1000 = true := by decide +kernel
theorem fall_2 : fall 2000 1000 = true := by decide +kernel
theorem fall_3 : fall 3000 1000 = true := by decide +kernel
theorem fall_4 : fall 4000 1000 = true := by decide +kernel
theorem fall_5 : fall 5000 1000 = true := by decide +kernel
theorem fall_6 : fall 6000 1000 = true := by decide +kernel
theorem fall_7 : fall 7000 1000 = true := by decide +kernel
theorem fall_8 : fall 8000 1000 = true := by decide +kernel
theorem fall_9 : fall 9000 1000 = true := by decide +kernel
theorem fb_all {t : Nat} (h : t ≤ 9999) : fbx (thB t) = true := by
  obtain ⟨q, m, hm, rfl⟩ : ∃ q m, m < 1000 ∧ t = 1000 * q + m := ⟨t / 1000, t % 1000, Nat.mod_lt _ (by decide), by omega⟩
  have hq : q < 10 := by omega
  match q, hq with
  | 0, _ => exact fall_at (n := 0) fall_0 hm
  | 1, _ => exact fall_at (n := 1000) fall_1 hm
  | 2, _ => exact fall_at (n := 2000) fall_2 hm
  | 3, _ => exact fall_at (n := 3000) fall_3 hm
  | 4, _ => exact fall_at (n := 4000) fall_4 hm
  | 5, _ => exact fall_at (n := 5000) fall_5 hm
  | 6, _ => exact fall_at (n := 6000) fall_6 hm
  | 7, _ => exact fall_at (n := 7000) fall_7 hm
  | 8, _ => exact fall_at (n := 8000) fall_8 hm
  | 9, _ => exact fall_at (n := 9000) fall_9 hm
  | q + 10, h => omega
def rall (c : Nat) : Nat → Bool
  | 0 => true
  | k + 1 => decide (dbx (FP.ddiv (FP.i2d (nI k)) (FP.i2d (nI c))) = some (FP.ddiv (FP.i2d (nI k)) (FP.i2d (nI c))).toInt64) && rall c k
theorem rall_at {c m : Nat} : ∀ {k : Nat}, rall c k = true → m < k → dbx (FP.ddiv (FP.i2d (nI m)) (FP.i2d (nI c))) = some (FP.ddiv (FP.i2d (nI m)) (FP.i2d (nI c))).toInt64
  | 0, _, h => absurd h (Nat.not_lt_zero _)
  | k + 1, h, hm => by
    rw [rall, Bool.and_eq_true] at h
    by_cases e : m = k
    · rw [e]; exact of_decide_eq_true h.1
    · exact rall_at h.2 (by omega)
theorem rall_61 : (rall 1 61 && rall 2 61 && rall 3 61 && rall 4 61 && rall 5 61 && rall 6 61 && rall 7 61 && rall 8 61 && rall 9 61 && rall 10 61 && rall 11 61 && rall 12 61) = true := by decide +kernel
theorem rb_all {c s : Nat} (h0 : c ≠ 0) (h : c ≤ 12) (hs : s ≤ 60) : dbx (FP.ddiv (FP.i2d (nI s)) (FP.i2d (nI c))) = some (FP.ddiv (FP.i2d (nI s)) (FP.i2d (nI c))).toInt64 := by
  have r := rall_61
  simp only [Bool.and_eq_true] at r
  obtain ⟨⟨⟨⟨⟨⟨⟨⟨⟨⟨⟨r1, r2⟩, r3⟩, r4⟩, r5⟩, r6⟩, r7⟩, r8⟩, r9⟩, r10⟩, r11⟩, r12⟩ := r
  match c, h0, h with
  | 1, _, _ => exact rall_at r1 (by omega)
  | 2, _, _ => exact rall_at r2 (by omega)
  | 3, _, _ => exact rall_at r3 (by omega)
  | 4, _, _ => exact rall_at r4 (by omega)
  | 5, _, _ => exact rall_at r5 (by omega)
  | 6, _, _ => exact rall_at r6 (by omega)
  | 7, _, _ => exact rall_at r7 (by omega)
  | 8, _, _ => exact rall_at r8 (by omega)
  | 9, _, _ => exact rall_at r9 (by omega)
  | 10, _, _ => exact rall_at r10 (by omega)
  | 11, _, _ => exact rall_at r11 (by omega)
  | 12, _, _ => exact rall_at r12 (by omega)
  | c + 13, _, h => omega
section DB
variable {X : Cx} {px : String → GM → Prop} {g : GM}
theorem q_dbu {post : Int64 → GM → Prop} {a : UInt64} {e : Int64} : ∀ (f k F : Nat) (l2 : UInt64) (l4 : Int64), dbu f l2 l4 = some (a, e) → k + f ≤ 1100 → f < F → w_X7_doubleBits_l55 X post px F l2 l4 (nI k) g = w_X7_doubleBits_b87 X post px a e g := by
  intro f
  induction f with
  | zero => intro k F l2 l4 h; rw [dbu] at h; cases h
  | succ f ih =>
    intro k F l2 l4 h hk hF
    obtain ⟨F, rfl⟩ : ∃ F', F = F' + 1 := ⟨F - 1, by omega⟩
    rw [w_X7_doubleBits_l55, if_neg (show ¬ (1100 : Int32) ≤ nI k from nI_ge (a := k) (b := 1100) (by omega) (by omega))]
    rw [dbu] at h
    by_cases c : 0 ≤ (Op.cmpValue (FP.dcmp l2 FP.dconst1) .g)
    · rw [if_pos c] at h ⊢
      cases h
      rfl
    · rw [if_neg c] at h ⊢
      by_cases c2 : n64b (FP.dmul l2 (4611686018427387904 : UInt64)) = true
      · rw [if_pos c2] at h
        rw [p_and (n64_of c2), nI_1]
        exact ih (k + 1) F _ _ h (by omega) (by omega)
      · rw [if_neg c2] at h
        cases h
theorem q_dbd {post : Int64 → GM → Prop} {a : UInt64} {e : Int64} : ∀ (f k F : Nat) (l2 : UInt64) (l4 : Int64), dbd f l2 l4 = some (a, e) → k + f ≤ 1100 → f < F → w_X7_doubleBits_l18 X post px F l2 l4 (nI k) g = w_X7_doubleBits_b52 X post px a e g := by
  intro f
  induction f with
  | zero => intro k F l2 l4 h; rw [dbd] at h; cases h
  | succ f ih =>
    intro k F l2 l4 h hk hF
    obtain ⟨F, rfl⟩ : ∃ F', F = F' + 1 := ⟨F - 1, by omega⟩
    rw [w_X7_doubleBits_l18, if_neg (show ¬ (1100 : Int32) ≤ nI k from nI_ge (a := k) (b := 1100) (by omega) (by omega))]
    rw [dbd] at h
    by_cases c : (Op.cmpValue (FP.dcmp l2 (4611686018427387904 : UInt64)) .l) < 0
    · rw [if_pos c] at h ⊢
      cases h
      rfl
    · rw [if_neg c] at h ⊢
      by_cases c2 : n64b (FP.ddiv l2 (4611686018427387904 : UInt64)) = true
      · rw [if_pos c2] at h
        rw [p_and (n64_of c2), nI_1]
        exact ih (k + 1) F _ _ h (by omega) (by omega)
      · rw [if_neg c2] at h
        cases h
theorem q_dbz {post : Int64 → GM → Prop} {a : UInt64} {e y : Int64} (h : dbz (some (a, e)) = some y) : w_X7_doubleBits_b87 X post px a e g = post y g := by
  unfold dbz at h
  unfold w_X7_doubleBits_b87
  by_cases c1 : n64b (FP.dsub a FP.dconst1) = true
  · by_cases c2 : n64b (FP.dmul (FP.dsub a FP.dconst1) (4841369599423283200 : UInt64)) = true
    · dsimp only at h
      rw [if_pos c1, if_pos c2] at h
      cases h
      rw [p_and (n64_of c1), p_and (n64_of c2)]
    · dsimp only at h
      rw [if_pos c1, if_neg c2] at h
      cases h
  · dsimp only at h
    rw [if_neg c1] at h
    cases h
theorem q_db {post : Int64 → GM → Prop} {v : UInt64} {y : Int64} (h : dbx v = some y) : w_X7_doubleBits X post px v g = post y g := by
  unfold dbx at h
  unfold w_X7_doubleBits
  by_cases c : 0 < (Op.cmpValue (FP.dcmp v FP.dconst0) .g)
  · rw [if_pos c] at h ⊢
    cases h1 : dbd 40 v (1023 : Int64) with
    | none => rw [h1] at h; cases h
    | some p1 =>
      obtain ⟨a, e⟩ := p1
      rw [h1] at h
      have h' : dbz (dbu 40 a e) = some y := h
      rw [show (0 : Int32) = nI 0 from rfl, q_dbd 40 0 3000 v 1023 h1 (by omega) (by omega)]
      unfold w_X7_doubleBits_b52
      cases h2 : dbu 40 a e with
      | none => rw [h2] at h'; cases h'
      | some p2 =>
        obtain ⟨a2, e2⟩ := p2
        rw [h2] at h'
        rw [show (0 : Int32) = nI 0 from rfl, q_dbu 40 0 3000 a e h2 (by omega) (by omega)]
        exact q_dbz h'
  · rw [if_neg c] at h ⊢
    cases h
    rfl
theorem q_fb {post : Int32 → GM → Prop} {t : Nat} (ht : t ≤ 9999) : w_X7_floatBits X post px (thB t) g = post (thB t).toInt32 g := by
  have h := fb_all ht
  generalize thB t = v at h
  unfold fbx at h
  unfold w_X7_floatBits
  by_cases c : 0 < (Op.cmpValue (FP.fcmp v FP.fconst0) .g)
  · rw [if_pos c] at h ⊢
    rw [Bool.and_eq_true] at h
    rw [p_and (n64_of h.1)]
    have h2 := h.2
    cases hd : dbx (FP.f2d v) with
    | none => rw [hd] at h2; cases h2
    | some y =>
      rw [hd] at h2
      have h3 : fbr y = v.toInt32 := of_decide_eq_true h2
      rw [q_db hd, ← h3]
      rfl
  · rw [if_neg c] at h ⊢
    rw [of_decide_eq_true h]
end DB
theorem th_1000 : (1148846080 : UInt32) = FP.i2f 1000 := by decide +kernel
theorem th_fin (w : Int32) : Jvm.FP.Core.FFin (FP.fdiv (FP.i2f w) 1148846080) := by
  rw [th_1000]; exact fl_fin (by decide)
theorem th_n (w : Int32) : vf_n32 (FP.fdiv (FP.i2f w) 1148846080) := by
  rw [th_1000]; exact fl_div (by decide)
theorem fl_fcmp {q : UInt32} (h : Jvm.FP.Core.FFin q) : Op.cmpValue (FP.fcmp q q) .l = 0 := by
  rw [show FP.fcmp q q = some .eq from Jvm.FP.Core.fcmp_self (Jvm.FP.Core.FFin.ne_nan h)]
  rfl
theorem th_i (x : UInt32) : x.toInt32.toUInt32 = x := rfl
section CS
variable {X : Cx} {xs : Nat → Int32} {Ls b i : Nat} {v1 v2 v3 v4 : Option Nat} {g : GM}
set_option maxHeartbeats 4000000 in
theorem p_29 (hin : ∀ j : Nat, j < 7 → vp_in (Int32.ofNat (7 * i) + Int32.ofNat j) Ls) (h : LIv X v1 v2 v3 v4 g) : w_law_29 X xs Ls b (LIv X v1 v2 v3 v4) v1 v2 v3 v4 (Int32.ofNat (7 * i)) g := by
  obtain ⟨A, σ, W, hx, P, rfl, rfl, rfl, rfl, rfl⟩ := h
  have Q := P.1
  have u1 : vp_in (Int32.ofNat (7 * i) + 1) Ls := hin 1 (by decide)
  obtain ⟨eq8, t0, ht0, e7⟩ := P.2.1.2.2.2.2.1
  unfold w_law_29
  generalize xs (Int32.ofNat (7 * i) + 1).toNatClampNeg = w
  by_cases hw : w < 0 ∨ 1000 < w
  · simp (config := { maxSteps := 1000000 }) only [↓w_law_29.eq_1, ↓w_L_law_b2071.eq_1, ↓w_L_setBound.eq_1, ↓w_X7_setBound.eq_1, ↓w_X8_setBound_b17.eq_1, ↓w_X8_setBound.eq_1, ↓w_X8_thrown.eq_1, u1, ↓q_in, ↓q_out, ↓if_pos hw, true_and, and_true, if_true, if_false, reduceIte, and_self, false_and, and_false, or_false, false_or, true_or, or_true, not_true_eq_false, not_false_eq_true, ne_eq, reduceCtorEq, Nat.reduceLT, Nat.reduceEqDiff, Nat.reduceLeDiff, Nat.reduceAdd, eq_self, ii_0_1, ii_0_2, ii_0_3, ii_0_4, ii_1_0, ii_1_2, ii_1_3, ii_1_4, il_1, ii_2_0, ii_2_1, ii_2_3, ii_2_4, il_2, ii_3_0, ii_3_1, ii_3_2, ii_3_4, il_3, ii_4_0, ii_4_1, ii_4_2, ii_4_3, il_4, il_0, ie_0_1, ie_0_2, ie_0_3, ie_0_4, ie_0_5, ie_1_0, ie_1_2, ie_1_3, ie_1_4, ie_1_5, ie_2_0, ie_2_1, ie_2_3, ie_2_4, ie_2_5, ie_3_0, ie_3_1, ie_3_2, ie_3_4, ie_3_5, ie_4_0, ie_4_1, ie_4_2, ie_4_3, ie_4_5, ie_5_0, ie_5_1, ie_5_2, ie_5_3, ie_5_4, ↓e_Is', ↓e_GetI, ↓e_GetF, ↓e_PutI, ↓e_PutF, ↓e_PutR, ↓e_Ald, ↓e_Ast, ↓e_Aldq, ↓e_AldJ, ↓e_AstJ, ↓e_AldD, ↓e_AstD, gL_sV, gV_sV, gR_sV, gN_sV, gJ_sV, gD_sV, gL_sR, gV_sR, gR_sR, gN_sR, gJ_sR, gD_sR, gL_sJ, gV_sJ, gR_sJ, gN_sJ, gJ_sJ, gL_sD, gV_sD, gR_sD, gN_sD, gD_sD, hr_0, hr_s, WF_sV, WF_sJ, WF_sD, gL_sF, gV_sF, gR_sF, gN_sF, gL_sG, gV_sG, gR_sG, gN_sG, WF_sF, ↓eR_1_2, ↓eR_1_5, ↓eR_1_6, ↓eR_2_3, ↓eR_3_2, ↓eR_4_1, ↓eR_6_0, ↓eR_8_34, ↓eR_9_0, ↓eR_20_0, ↓eR_22_0, sL_7, sL_8, sL_60, sL_61, sN_60, sN_61, ↓s7_0, ↓s7_1, ↓s7_2, ↓s7_3, ↓s7_4, ↓s7_5, ↓s7_6, sL_100, ↓s8_0, sN_100, sL_101, ↓s8_1, sN_101, sL_102, ↓s8_2, sN_102, sL_103, ↓s8_3, sN_103, sL_104, ↓s8_4, sN_104, sL_105, ↓s8_5, sN_105, sL_107, ↓s8_7, sN_107, sL_108, ↓s8_8, sN_108, sL_109, ↓s8_9, sN_109, sL_110, ↓s8_10, sN_110, sL_111, ↓s8_11, sN_111, sL_112, ↓s8_12, sN_112, sL_113, ↓s8_13, sN_113, sL_114, ↓s8_14, sN_114, sL_115, ↓s8_15, sN_115, sL_116, ↓s8_16, sN_116, sL_117, ↓s8_17, sN_117, sL_118, ↓s8_18, sN_118, sL_119, ↓s8_19, sN_119, sL_120, ↓s8_20, sN_120, sL_127, ↓s8_27, sN_127, sL_128, ↓s8_28, sN_128, sL_129, ↓s8_29, sN_129, sL_130, ↓s8_30, sN_130, sL_132, ↓s8_32, sN_132, P0_sV, P0_sJ, P0_sD, hcl_1, hok_1_0, hok_1_1, hok_1_2, hok_1_3, hok_1_4, hok_1_5, hok_1_6, hok_1_7, hok_1_8, hok_1_9, hok_1_10, hok_1_11, hok_1_12, hok_1_13, hok_1_14, hok_1_15, hcl_2, hok_2_0, hok_2_1, hok_2_2, hok_2_3, hok_2_4, hok_2_5, hcl_3, hok_3_0, hok_3_1, hok_3_2, hcl_4, hok_4_0, hok_4_1, hok_4_2, hok_4_3, hcl_5, hok_5_0, hok_5_1, hok_5_2, hcl_6, hok_6_0, hok_6_1, hcl_7, hok_7_0, hok_7_1, hok_7_2, hok_7_3, hok_7_4, hok_7_5, hok_7_6, hok_7_7, hok_7_8, hok_7_9, hok_7_10, hok_7_11, hok_7_12, hcl_8, hok_8_0, hok_8_1, hok_8_2, hok_8_3, hok_8_4, hok_8_5, hok_8_6, hok_8_7, hok_8_8, hok_8_9, hok_8_10, hok_8_11, hok_8_12, hok_8_13, hok_8_14, hok_8_15, hok_8_16, hok_8_17, hok_8_18, hok_8_19, hok_8_20, hok_8_21, hok_8_22, hok_8_23, hok_8_24, hok_8_25, hok_8_26, hok_8_27, hok_8_28, hok_8_29, hok_8_30, hok_8_31, hok_8_32, hok_8_33, hok_8_34, hok_8_35, hok_8_36, hcl_9, hok_9_0, hok_9_1, hok_9_2, hok_9_3, hcl_20, hok_20_0, hok_20_1, hcl_22, hok_22_0, hok_22_1, hcl_30, hok_30_0, hok_30_1, hok_30_2, hcl_31, hok_31_0, hok_31_1, hok_31_2, hcl_32, hok_32_0, hok_32_1, hok_32_2, hcl_33, hok_33_0, hok_33_1, hok_33_2, hak_16, hak_21, hak_23, hak_40, hak_41, hak_42, hak_43, hak_50, hak_60, hak_61, hak_205, hak_227, hak_100, hak_101, hak_102, hak_103, hak_104, hak_105, hak_107, hak_108, hak_109, hak_110, hak_111, hak_112, hak_113, hak_114, hak_115, hak_116, hak_117, hak_118, hak_119, hak_120, hak_127, hak_128, hak_129, hak_130, hak_132, ↓eL_16, ↓eL_21, ↓eL_23, ↓eL_50, W, Q, cmpS, nb0, nb1]
    refine LIv_of ?_ hx ?_
    · exact W
    · exact P
  · obtain ⟨t, ht, rfl⟩ := q_rng (n := 1000) hw (by decide) (by decide)
    have hfb := fun (px : String → GM → Prop) (post : Int32 → GM → Prop) (g : GM) => q_fb (X := X) (px := px) (post := post) (g := g) (t := t0) (by omega)
    have hn := th_n (nI t)
    have hcm : Op.cmpValue (FP.fcmp (thB t0) (thB t0)) .l = 0 := fl_fcmp (th_fin (nI t0))
    simp (config := { maxSteps := 1000000 }) only [↓w_law_29.eq_1, ↓w_L_law_b2071.eq_1, ↓w_L_setBound.eq_1, ↓w_X7_setBound.eq_1, ↓w_X8_setBound_b17.eq_1, ↓w_X8_setBound.eq_1, ↓w_X8_thrown.eq_1, ↓w_Jxf58ca_floatToIntBits_5c35a.eq_1, ↓w_Jxf58ca_isNaN_12338_b11.eq_1, ↓w_Jxf58ca_isNaN_12338.eq_1, u1, ↓q_in, ↓q_out, ↓if_neg hw, true_and, and_true, if_true, if_false, reduceIte, and_self, false_and, and_false, or_false, false_or, true_or, or_true, not_true_eq_false, not_false_eq_true, ne_eq, reduceCtorEq, Nat.reduceLT, Nat.reduceEqDiff, Nat.reduceLeDiff, Nat.reduceAdd, eq_self, ii_0_1, ii_0_2, ii_0_3, ii_0_4, ii_1_0, ii_1_2, ii_1_3, ii_1_4, il_1, ii_2_0, ii_2_1, ii_2_3, ii_2_4, il_2, ii_3_0, ii_3_1, ii_3_2, ii_3_4, il_3, ii_4_0, ii_4_1, ii_4_2, ii_4_3, il_4, il_0, ie_0_1, ie_0_2, ie_0_3, ie_0_4, ie_0_5, ie_1_0, ie_1_2, ie_1_3, ie_1_4, ie_1_5, ie_2_0, ie_2_1, ie_2_3, ie_2_4, ie_2_5, ie_3_0, ie_3_1, ie_3_2, ie_3_4, ie_3_5, ie_4_0, ie_4_1, ie_4_2, ie_4_3, ie_4_5, ie_5_0, ie_5_1, ie_5_2, ie_5_3, ie_5_4, ↓e_Is', ↓e_GetI, ↓e_GetF, ↓e_PutI, ↓e_PutF, ↓e_PutR, ↓e_Ald, ↓e_Ast, ↓e_Aldq, ↓e_AldJ, ↓e_AstJ, ↓e_AldD, ↓e_AstD, gL_sV, gV_sV, gR_sV, gN_sV, gJ_sV, gD_sV, gL_sR, gV_sR, gR_sR, gN_sR, gJ_sR, gD_sR, gL_sJ, gV_sJ, gR_sJ, gN_sJ, gJ_sJ, gL_sD, gV_sD, gR_sD, gN_sD, gD_sD, hr_0, hr_s, WF_sV, WF_sJ, WF_sD, gL_sF, gV_sF, gR_sF, gN_sF, gL_sG, gV_sG, gR_sG, gN_sG, WF_sF, ↓eR_1_2, ↓eR_1_5, ↓eR_1_6, ↓eR_2_3, ↓eR_3_2, ↓eR_4_1, ↓eR_6_0, ↓eR_8_34, ↓eR_9_0, ↓eR_20_0, ↓eR_22_0, sL_7, sL_8, sL_60, sL_61, sN_60, sN_61, ↓s7_0, ↓s7_1, ↓s7_2, ↓s7_3, ↓s7_4, ↓s7_5, ↓s7_6, sL_100, ↓s8_0, sN_100, sL_101, ↓s8_1, sN_101, sL_102, ↓s8_2, sN_102, sL_103, ↓s8_3, sN_103, sL_104, ↓s8_4, sN_104, sL_105, ↓s8_5, sN_105, sL_107, ↓s8_7, sN_107, sL_108, ↓s8_8, sN_108, sL_109, ↓s8_9, sN_109, sL_110, ↓s8_10, sN_110, sL_111, ↓s8_11, sN_111, sL_112, ↓s8_12, sN_112, sL_113, ↓s8_13, sN_113, sL_114, ↓s8_14, sN_114, sL_115, ↓s8_15, sN_115, sL_116, ↓s8_16, sN_116, sL_117, ↓s8_17, sN_117, sL_118, ↓s8_18, sN_118, sL_119, ↓s8_19, sN_119, sL_120, ↓s8_20, sN_120, sL_127, ↓s8_27, sN_127, sL_128, ↓s8_28, sN_128, sL_129, ↓s8_29, sN_129, sL_130, ↓s8_30, sN_130, sL_132, ↓s8_32, sN_132, P0_sV, P0_sJ, P0_sD, hcl_1, hok_1_0, hok_1_1, hok_1_2, hok_1_3, hok_1_4, hok_1_5, hok_1_6, hok_1_7, hok_1_8, hok_1_9, hok_1_10, hok_1_11, hok_1_12, hok_1_13, hok_1_14, hok_1_15, hcl_2, hok_2_0, hok_2_1, hok_2_2, hok_2_3, hok_2_4, hok_2_5, hcl_3, hok_3_0, hok_3_1, hok_3_2, hcl_4, hok_4_0, hok_4_1, hok_4_2, hok_4_3, hcl_5, hok_5_0, hok_5_1, hok_5_2, hcl_6, hok_6_0, hok_6_1, hcl_7, hok_7_0, hok_7_1, hok_7_2, hok_7_3, hok_7_4, hok_7_5, hok_7_6, hok_7_7, hok_7_8, hok_7_9, hok_7_10, hok_7_11, hok_7_12, hcl_8, hok_8_0, hok_8_1, hok_8_2, hok_8_3, hok_8_4, hok_8_5, hok_8_6, hok_8_7, hok_8_8, hok_8_9, hok_8_10, hok_8_11, hok_8_12, hok_8_13, hok_8_14, hok_8_15, hok_8_16, hok_8_17, hok_8_18, hok_8_19, hok_8_20, hok_8_21, hok_8_22, hok_8_23, hok_8_24, hok_8_25, hok_8_26, hok_8_27, hok_8_28, hok_8_29, hok_8_30, hok_8_31, hok_8_32, hok_8_33, hok_8_34, hok_8_35, hok_8_36, hcl_9, hok_9_0, hok_9_1, hok_9_2, hok_9_3, hcl_20, hok_20_0, hok_20_1, hcl_22, hok_22_0, hok_22_1, hcl_30, hok_30_0, hok_30_1, hok_30_2, hcl_31, hok_31_0, hok_31_1, hok_31_2, hcl_32, hok_32_0, hok_32_1, hok_32_2, hcl_33, hok_33_0, hok_33_1, hok_33_2, hak_16, hak_21, hak_23, hak_40, hak_41, hak_42, hak_43, hak_50, hak_60, hak_61, hak_205, hak_227, hak_100, hak_101, hak_102, hak_103, hak_104, hak_105, hak_107, hak_108, hak_109, hak_110, hak_111, hak_112, hak_113, hak_114, hak_115, hak_116, hak_117, hak_118, hak_119, hak_120, hak_127, hak_128, hak_129, hak_130, hak_132, ↓eL_16, ↓eL_21, ↓eL_23, ↓eL_50, W, Q, cmpS, nb0, nb1, eq8, e7, th_i, ↓hfb, hn, hcm]
    refine LIv_of ?_ hx ?_
    · exact W
    · obtain ⟨p11, p12, p13, p14, p15, p16, p17⟩ := P.2.1
      exact ⟨P.1, ⟨p11, p12, p13, p14, ⟨rfl, ⟨t, ht, rfl⟩⟩, p16, p17⟩, P.2.2⟩
set_option maxHeartbeats 4000000 in
theorem p_32 (hin : ∀ j : Nat, j < 7 → vp_in (Int32.ofNat (7 * i) + Int32.ofNat j) Ls) (h : LIv X v1 v2 v3 v4 g) : w_law_32 X xs Ls b (LIv X v1 v2 v3 v4) v1 v2 v3 v4 (Int32.ofNat (7 * i)) g := by
  obtain ⟨A, σ, W, hx, P, rfl, rfl, rfl, rfl, rfl⟩ := h
  have Q := P.1
  have u1 : vp_in (Int32.ofNat (7 * i) + 1) Ls := hin 1 (by decide)
  obtain ⟨eq8, t0, ht0, e7⟩ := P.2.1.2.2.2.2.2.1
  unfold w_law_32
  generalize xs (Int32.ofNat (7 * i) + 1).toNatClampNeg = w
  by_cases hw : w < 0 ∨ 9999 < w
  · simp (config := { maxSteps := 1000000 }) only [↓w_law_32.eq_1, ↓w_L_law_b2227.eq_1, ↓w_L_setRate.eq_1, ↓w_X7_setRate.eq_1, ↓w_X8_setRate_b17.eq_1, ↓w_X8_setRate.eq_1, ↓w_X8_thrown.eq_1, u1, ↓q_in, ↓q_out, ↓if_pos hw, true_and, and_true, if_true, if_false, reduceIte, and_self, false_and, and_false, or_false, false_or, true_or, or_true, not_true_eq_false, not_false_eq_true, ne_eq, reduceCtorEq, Nat.reduceLT, Nat.reduceEqDiff, Nat.reduceLeDiff, Nat.reduceAdd, eq_self, ii_0_1, ii_0_2, ii_0_3, ii_0_4, ii_1_0, ii_1_2, ii_1_3, ii_1_4, il_1, ii_2_0, ii_2_1, ii_2_3, ii_2_4, il_2, ii_3_0, ii_3_1, ii_3_2, ii_3_4, il_3, ii_4_0, ii_4_1, ii_4_2, ii_4_3, il_4, il_0, ie_0_1, ie_0_2, ie_0_3, ie_0_4, ie_0_5, ie_1_0, ie_1_2, ie_1_3, ie_1_4, ie_1_5, ie_2_0, ie_2_1, ie_2_3, ie_2_4, ie_2_5, ie_3_0, ie_3_1, ie_3_2, ie_3_4, ie_3_5, ie_4_0, ie_4_1, ie_4_2, ie_4_3, ie_4_5, ie_5_0, ie_5_1, ie_5_2, ie_5_3, ie_5_4, ↓e_Is', ↓e_GetI, ↓e_GetF, ↓e_PutI, ↓e_PutF, ↓e_PutR, ↓e_Ald, ↓e_Ast, ↓e_Aldq, ↓e_AldJ, ↓e_AstJ, ↓e_AldD, ↓e_AstD, gL_sV, gV_sV, gR_sV, gN_sV, gJ_sV, gD_sV, gL_sR, gV_sR, gR_sR, gN_sR, gJ_sR, gD_sR, gL_sJ, gV_sJ, gR_sJ, gN_sJ, gJ_sJ, gL_sD, gV_sD, gR_sD, gN_sD, gD_sD, hr_0, hr_s, WF_sV, WF_sJ, WF_sD, gL_sF, gV_sF, gR_sF, gN_sF, gL_sG, gV_sG, gR_sG, gN_sG, WF_sF, ↓eR_1_2, ↓eR_1_5, ↓eR_1_6, ↓eR_2_3, ↓eR_3_2, ↓eR_4_1, ↓eR_6_0, ↓eR_8_34, ↓eR_9_0, ↓eR_20_0, ↓eR_22_0, sL_7, sL_8, sL_60, sL_61, sN_60, sN_61, ↓s7_0, ↓s7_1, ↓s7_2, ↓s7_3, ↓s7_4, ↓s7_5, ↓s7_6, sL_100, ↓s8_0, sN_100, sL_101, ↓s8_1, sN_101, sL_102, ↓s8_2, sN_102, sL_103, ↓s8_3, sN_103, sL_104, ↓s8_4, sN_104, sL_105, ↓s8_5, sN_105, sL_107, ↓s8_7, sN_107, sL_108, ↓s8_8, sN_108, sL_109, ↓s8_9, sN_109, sL_110, ↓s8_10, sN_110, sL_111, ↓s8_11, sN_111, sL_112, ↓s8_12, sN_112, sL_113, ↓s8_13, sN_113, sL_114, ↓s8_14, sN_114, sL_115, ↓s8_15, sN_115, sL_116, ↓s8_16, sN_116, sL_117, ↓s8_17, sN_117, sL_118, ↓s8_18, sN_118, sL_119, ↓s8_19, sN_119, sL_120, ↓s8_20, sN_120, sL_127, ↓s8_27, sN_127, sL_128, ↓s8_28, sN_128, sL_129, ↓s8_29, sN_129, sL_130, ↓s8_30, sN_130, sL_132, ↓s8_32, sN_132, P0_sV, P0_sJ, P0_sD, hcl_1, hok_1_0, hok_1_1, hok_1_2, hok_1_3, hok_1_4, hok_1_5, hok_1_6, hok_1_7, hok_1_8, hok_1_9, hok_1_10, hok_1_11, hok_1_12, hok_1_13, hok_1_14, hok_1_15, hcl_2, hok_2_0, hok_2_1, hok_2_2, hok_2_3, hok_2_4, hok_2_5, hcl_3, hok_3_0, hok_3_1, hok_3_2, hcl_4, hok_4_0, hok_4_1, hok_4_2, hok_4_3, hcl_5, hok_5_0, hok_5_1, hok_5_2, hcl_6, hok_6_0, hok_6_1, hcl_7, hok_7_0, hok_7_1, hok_7_2, hok_7_3, hok_7_4, hok_7_5, hok_7_6, hok_7_7, hok_7_8, hok_7_9, hok_7_10, hok_7_11, hok_7_12, hcl_8, hok_8_0, hok_8_1, hok_8_2, hok_8_3, hok_8_4, hok_8_5, hok_8_6, hok_8_7, hok_8_8, hok_8_9, hok_8_10, hok_8_11, hok_8_12, hok_8_13, hok_8_14, hok_8_15, hok_8_16, hok_8_17, hok_8_18, hok_8_19, hok_8_20, hok_8_21, hok_8_22, hok_8_23, hok_8_24, hok_8_25, hok_8_26, hok_8_27, hok_8_28, hok_8_29, hok_8_30, hok_8_31, hok_8_32, hok_8_33, hok_8_34, hok_8_35, hok_8_36, hcl_9, hok_9_0, hok_9_1, hok_9_2, hok_9_3, hcl_20, hok_20_0, hok_20_1, hcl_22, hok_22_0, hok_22_1, hcl_30, hok_30_0, hok_30_1, hok_30_2, hcl_31, hok_31_0, hok_31_1, hok_31_2, hcl_32, hok_32_0, hok_32_1, hok_32_2, hcl_33, hok_33_0, hok_33_1, hok_33_2, hak_16, hak_21, hak_23, hak_40, hak_41, hak_42, hak_43, hak_50, hak_60, hak_61, hak_205, hak_227, hak_100, hak_101, hak_102, hak_103, hak_104, hak_105, hak_107, hak_108, hak_109, hak_110, hak_111, hak_112, hak_113, hak_114, hak_115, hak_116, hak_117, hak_118, hak_119, hak_120, hak_127, hak_128, hak_129, hak_130, hak_132, ↓eL_16, ↓eL_21, ↓eL_23, ↓eL_50, W, Q, cmpS, nb0, nb1]
    refine LIv_of ?_ hx ?_
    · exact W
    · exact P
  · obtain ⟨t, ht, rfl⟩ := q_rng (n := 9999) hw (by decide) (by decide)
    have hfb := fun (px : String → GM → Prop) (post : Int32 → GM → Prop) (g : GM) => q_fb (X := X) (px := px) (post := post) (g := g) (t := t0) (by omega)
    have hn := th_n (nI t)
    have hcm : Op.cmpValue (FP.fcmp (thB t0) (thB t0)) .l = 0 := fl_fcmp (th_fin (nI t0))
    simp (config := { maxSteps := 1000000 }) only [↓w_law_32.eq_1, ↓w_L_law_b2227.eq_1, ↓w_L_setRate.eq_1, ↓w_X7_setRate.eq_1, ↓w_X8_setRate_b17.eq_1, ↓w_X8_setRate.eq_1, ↓w_X8_thrown.eq_1, ↓w_Jxf58ca_floatToIntBits_5c35a.eq_1, ↓w_Jxf58ca_isNaN_12338_b11.eq_1, ↓w_Jxf58ca_isNaN_12338.eq_1, u1, ↓q_in, ↓q_out, ↓if_neg hw, true_and, and_true, if_true, if_false, reduceIte, and_self, false_and, and_false, or_false, false_or, true_or, or_true, not_true_eq_false, not_false_eq_true, ne_eq, reduceCtorEq, Nat.reduceLT, Nat.reduceEqDiff, Nat.reduceLeDiff, Nat.reduceAdd, eq_self, ii_0_1, ii_0_2, ii_0_3, ii_0_4, ii_1_0, ii_1_2, ii_1_3, ii_1_4, il_1, ii_2_0, ii_2_1, ii_2_3, ii_2_4, il_2, ii_3_0, ii_3_1, ii_3_2, ii_3_4, il_3, ii_4_0, ii_4_1, ii_4_2, ii_4_3, il_4, il_0, ie_0_1, ie_0_2, ie_0_3, ie_0_4, ie_0_5, ie_1_0, ie_1_2, ie_1_3, ie_1_4, ie_1_5, ie_2_0, ie_2_1, ie_2_3, ie_2_4, ie_2_5, ie_3_0, ie_3_1, ie_3_2, ie_3_4, ie_3_5, ie_4_0, ie_4_1, ie_4_2, ie_4_3, ie_4_5, ie_5_0, ie_5_1, ie_5_2, ie_5_3, ie_5_4, ↓e_Is', ↓e_GetI, ↓e_GetF, ↓e_PutI, ↓e_PutF, ↓e_PutR, ↓e_Ald, ↓e_Ast, ↓e_Aldq, ↓e_AldJ, ↓e_AstJ, ↓e_AldD, ↓e_AstD, gL_sV, gV_sV, gR_sV, gN_sV, gJ_sV, gD_sV, gL_sR, gV_sR, gR_sR, gN_sR, gJ_sR, gD_sR, gL_sJ, gV_sJ, gR_sJ, gN_sJ, gJ_sJ, gL_sD, gV_sD, gR_sD, gN_sD, gD_sD, hr_0, hr_s, WF_sV, WF_sJ, WF_sD, gL_sF, gV_sF, gR_sF, gN_sF, gL_sG, gV_sG, gR_sG, gN_sG, WF_sF, ↓eR_1_2, ↓eR_1_5, ↓eR_1_6, ↓eR_2_3, ↓eR_3_2, ↓eR_4_1, ↓eR_6_0, ↓eR_8_34, ↓eR_9_0, ↓eR_20_0, ↓eR_22_0, sL_7, sL_8, sL_60, sL_61, sN_60, sN_61, ↓s7_0, ↓s7_1, ↓s7_2, ↓s7_3, ↓s7_4, ↓s7_5, ↓s7_6, sL_100, ↓s8_0, sN_100, sL_101, ↓s8_1, sN_101, sL_102, ↓s8_2, sN_102, sL_103, ↓s8_3, sN_103, sL_104, ↓s8_4, sN_104, sL_105, ↓s8_5, sN_105, sL_107, ↓s8_7, sN_107, sL_108, ↓s8_8, sN_108, sL_109, ↓s8_9, sN_109, sL_110, ↓s8_10, sN_110, sL_111, ↓s8_11, sN_111, sL_112, ↓s8_12, sN_112, sL_113, ↓s8_13, sN_113, sL_114, ↓s8_14, sN_114, sL_115, ↓s8_15, sN_115, sL_116, ↓s8_16, sN_116, sL_117, ↓s8_17, sN_117, sL_118, ↓s8_18, sN_118, sL_119, ↓s8_19, sN_119, sL_120, ↓s8_20, sN_120, sL_127, ↓s8_27, sN_127, sL_128, ↓s8_28, sN_128, sL_129, ↓s8_29, sN_129, sL_130, ↓s8_30, sN_130, sL_132, ↓s8_32, sN_132, P0_sV, P0_sJ, P0_sD, hcl_1, hok_1_0, hok_1_1, hok_1_2, hok_1_3, hok_1_4, hok_1_5, hok_1_6, hok_1_7, hok_1_8, hok_1_9, hok_1_10, hok_1_11, hok_1_12, hok_1_13, hok_1_14, hok_1_15, hcl_2, hok_2_0, hok_2_1, hok_2_2, hok_2_3, hok_2_4, hok_2_5, hcl_3, hok_3_0, hok_3_1, hok_3_2, hcl_4, hok_4_0, hok_4_1, hok_4_2, hok_4_3, hcl_5, hok_5_0, hok_5_1, hok_5_2, hcl_6, hok_6_0, hok_6_1, hcl_7, hok_7_0, hok_7_1, hok_7_2, hok_7_3, hok_7_4, hok_7_5, hok_7_6, hok_7_7, hok_7_8, hok_7_9, hok_7_10, hok_7_11, hok_7_12, hcl_8, hok_8_0, hok_8_1, hok_8_2, hok_8_3, hok_8_4, hok_8_5, hok_8_6, hok_8_7, hok_8_8, hok_8_9, hok_8_10, hok_8_11, hok_8_12, hok_8_13, hok_8_14, hok_8_15, hok_8_16, hok_8_17, hok_8_18, hok_8_19, hok_8_20, hok_8_21, hok_8_22, hok_8_23, hok_8_24, hok_8_25, hok_8_26, hok_8_27, hok_8_28, hok_8_29, hok_8_30, hok_8_31, hok_8_32, hok_8_33, hok_8_34, hok_8_35, hok_8_36, hcl_9, hok_9_0, hok_9_1, hok_9_2, hok_9_3, hcl_20, hok_20_0, hok_20_1, hcl_22, hok_22_0, hok_22_1, hcl_30, hok_30_0, hok_30_1, hok_30_2, hcl_31, hok_31_0, hok_31_1, hok_31_2, hcl_32, hok_32_0, hok_32_1, hok_32_2, hcl_33, hok_33_0, hok_33_1, hok_33_2, hak_16, hak_21, hak_23, hak_40, hak_41, hak_42, hak_43, hak_50, hak_60, hak_61, hak_205, hak_227, hak_100, hak_101, hak_102, hak_103, hak_104, hak_105, hak_107, hak_108, hak_109, hak_110, hak_111, hak_112, hak_113, hak_114, hak_115, hak_116, hak_117, hak_118, hak_119, hak_120, hak_127, hak_128, hak_129, hak_130, hak_132, ↓eL_16, ↓eL_21, ↓eL_23, ↓eL_50, W, Q, cmpS, nb0, nb1, eq8, e7, th_i, ↓hfb, hn, hcm]
    refine LIv_of ?_ hx ?_
    · exact W
    · obtain ⟨p11, p12, p13, p14, p15, p16, p17⟩ := P.2.1
      exact ⟨P.1, ⟨p11, p12, p13, p14, p15, ⟨rfl, ⟨t, ht, rfl⟩⟩, p17⟩, P.2.2⟩
/-- sums of stars -/
theorem sm_stars {f : Nat → Int32} (h : ∀ d, ∃ m, m ≤ 5 ∧ f d = nI m) : ∀ n : Nat, n ≤ 12 → (∃ s, s ≤ 5 * n ∧ sm f n = nI s) ∧ ∃ c, c ≤ n ∧ sm (fun d => if 0 < f d then 1 else 0) n = nI c
  | 0, _ => ⟨⟨0, by omega, rfl⟩, ⟨0, by omega, rfl⟩⟩
  | n + 1, hn => by
    obtain ⟨⟨s, hs, e1⟩, c, hc, e2⟩ := sm_stars h n (by omega)
    obtain ⟨m, hm, e3⟩ := h n
    refine ⟨⟨s + m, by omega, by rw [sm, e1, e3, nI_add]⟩, ?_⟩
    rw [sm, e2]
    by_cases z : 0 < f n
    · exact ⟨c + 1, by omega, by rw [if_pos z]; exact nI_1 c⟩
    · exact ⟨c, by omega, by rw [if_neg z, Int32.add_zero]⟩
set_option maxHeartbeats 4000000 in
theorem p_36 (hin : ∀ j : Nat, j < 7 → vp_in (Int32.ofNat (7 * i) + Int32.ofNat j) Ls) (h : LIv X v1 v2 v3 v4 g) : w_law_36 X xs Ls b (LIv X v1 v2 v3 v4) v1 v2 v3 v4 (Int32.ofNat (7 * i)) g := by
  obtain ⟨A, σ, W, hx, P, rfl, rfl, rfl, rfl, rfl⟩ := h
  have Q := P.1
  have u1 : vp_in (Int32.ofNat (7 * i) + 1) Ls := hin 1 (by decide)
  have hL := P.2.2.2.2.2.2.2.2.2.1
  have h21 : gV σ 8 21 0 = nI (gL σ 1) := P.2.1.1.2.1
  have h6 : gV σ 8 6 0 = nI (gL σ 2) := P.2.1.1.1
  have h10 : gL σ 1 ≤ 10 := P.2.1.2.2.2.2.2.2.2.2.1
  have h12 : gL σ 2 ≤ 12 := P.2.1.2.2.2.2.2.2.2.1
  unfold w_law_36
  generalize xs (Int32.ofNat (7 * i) + 1).toNatClampNeg = v
  rcases q_ix v (show gL σ 1 ≤ 40 by omega) with hc | ⟨j, hj, rfl⟩
  · simp (config := { maxSteps := 1000000 }) only [↓w_law_36.eq_1, ↓w_L_law_b2505.eq_1, ↓w_L_ratingBits.eq_1, ↓w_X7_ratingBits.eq_1, ↓w_X7_ratedBuild.eq_1, ↓w_X8_ratingBits_b21.eq_1, ↓w_X8_ratingBits.eq_1, ↓w_X8_rating_b43.eq_1, ↓w_X8_rating_b24.eq_1, ↓w_X8_rating.eq_1, ↓w_X8_thrown.eq_1, ↓w_X8_noBuild_b29.eq_1, ↓w_X8_noBuild_b14.eq_1, ↓w_X8_noBuild.eq_1, ↓w_X8_isBuild.eq_1, u1, ↓q_kb, ↓q_in, ↓if_pos hc, true_and, and_true, if_true, if_false, reduceIte, and_self, false_and, and_false, or_false, false_or, true_or, or_true, not_true_eq_false, not_false_eq_true, ne_eq, reduceCtorEq, Nat.reduceLT, Nat.reduceEqDiff, Nat.reduceLeDiff, Nat.reduceAdd, eq_self, ii_0_1, ii_0_2, ii_0_3, ii_0_4, ii_1_0, ii_1_2, ii_1_3, ii_1_4, il_1, ii_2_0, ii_2_1, ii_2_3, ii_2_4, il_2, ii_3_0, ii_3_1, ii_3_2, ii_3_4, il_3, ii_4_0, ii_4_1, ii_4_2, ii_4_3, il_4, il_0, ie_0_1, ie_0_2, ie_0_3, ie_0_4, ie_0_5, ie_1_0, ie_1_2, ie_1_3, ie_1_4, ie_1_5, ie_2_0, ie_2_1, ie_2_3, ie_2_4, ie_2_5, ie_3_0, ie_3_1, ie_3_2, ie_3_4, ie_3_5, ie_4_0, ie_4_1, ie_4_2, ie_4_3, ie_4_5, ie_5_0, ie_5_1, ie_5_2, ie_5_3, ie_5_4, ↓e_Is', ↓e_GetI, ↓e_GetF, ↓e_PutI, ↓e_PutF, ↓e_PutR, ↓e_Ald, ↓e_Ast, ↓e_Aldq, ↓e_AldJ, ↓e_AstJ, ↓e_AldD, ↓e_AstD, gL_sV, gV_sV, gR_sV, gN_sV, gJ_sV, gD_sV, gL_sR, gV_sR, gR_sR, gN_sR, gJ_sR, gD_sR, gL_sJ, gV_sJ, gR_sJ, gN_sJ, gJ_sJ, gL_sD, gV_sD, gR_sD, gN_sD, gD_sD, hr_0, hr_s, WF_sV, WF_sJ, WF_sD, gL_sF, gV_sF, gR_sF, gN_sF, gL_sG, gV_sG, gR_sG, gN_sG, WF_sF, ↓eR_1_2, ↓eR_1_5, ↓eR_1_6, ↓eR_2_3, ↓eR_3_2, ↓eR_4_1, ↓eR_6_0, ↓eR_8_34, ↓eR_9_0, ↓eR_20_0, ↓eR_22_0, sL_7, sL_8, sL_60, sL_61, sN_60, sN_61, ↓s7_0, ↓s7_1, ↓s7_2, ↓s7_3, ↓s7_4, ↓s7_5, ↓s7_6, sL_100, ↓s8_0, sN_100, sL_101, ↓s8_1, sN_101, sL_102, ↓s8_2, sN_102, sL_103, ↓s8_3, sN_103, sL_104, ↓s8_4, sN_104, sL_105, ↓s8_5, sN_105, sL_107, ↓s8_7, sN_107, sL_108, ↓s8_8, sN_108, sL_109, ↓s8_9, sN_109, sL_110, ↓s8_10, sN_110, sL_111, ↓s8_11, sN_111, sL_112, ↓s8_12, sN_112, sL_113, ↓s8_13, sN_113, sL_114, ↓s8_14, sN_114, sL_115, ↓s8_15, sN_115, sL_116, ↓s8_16, sN_116, sL_117, ↓s8_17, sN_117, sL_118, ↓s8_18, sN_118, sL_119, ↓s8_19, sN_119, sL_120, ↓s8_20, sN_120, sL_127, ↓s8_27, sN_127, sL_128, ↓s8_28, sN_128, sL_129, ↓s8_29, sN_129, sL_130, ↓s8_30, sN_130, sL_132, ↓s8_32, sN_132, P0_sV, P0_sJ, P0_sD, hcl_1, hok_1_0, hok_1_1, hok_1_2, hok_1_3, hok_1_4, hok_1_5, hok_1_6, hok_1_7, hok_1_8, hok_1_9, hok_1_10, hok_1_11, hok_1_12, hok_1_13, hok_1_14, hok_1_15, hcl_2, hok_2_0, hok_2_1, hok_2_2, hok_2_3, hok_2_4, hok_2_5, hcl_3, hok_3_0, hok_3_1, hok_3_2, hcl_4, hok_4_0, hok_4_1, hok_4_2, hok_4_3, hcl_5, hok_5_0, hok_5_1, hok_5_2, hcl_6, hok_6_0, hok_6_1, hcl_7, hok_7_0, hok_7_1, hok_7_2, hok_7_3, hok_7_4, hok_7_5, hok_7_6, hok_7_7, hok_7_8, hok_7_9, hok_7_10, hok_7_11, hok_7_12, hcl_8, hok_8_0, hok_8_1, hok_8_2, hok_8_3, hok_8_4, hok_8_5, hok_8_6, hok_8_7, hok_8_8, hok_8_9, hok_8_10, hok_8_11, hok_8_12, hok_8_13, hok_8_14, hok_8_15, hok_8_16, hok_8_17, hok_8_18, hok_8_19, hok_8_20, hok_8_21, hok_8_22, hok_8_23, hok_8_24, hok_8_25, hok_8_26, hok_8_27, hok_8_28, hok_8_29, hok_8_30, hok_8_31, hok_8_32, hok_8_33, hok_8_34, hok_8_35, hok_8_36, hcl_9, hok_9_0, hok_9_1, hok_9_2, hok_9_3, hcl_20, hok_20_0, hok_20_1, hcl_22, hok_22_0, hok_22_1, hcl_30, hok_30_0, hok_30_1, hok_30_2, hcl_31, hok_31_0, hok_31_1, hok_31_2, hcl_32, hok_32_0, hok_32_1, hok_32_2, hcl_33, hok_33_0, hok_33_1, hok_33_2, hak_16, hak_21, hak_23, hak_40, hak_41, hak_42, hak_43, hak_50, hak_60, hak_61, hak_205, hak_227, hak_100, hak_101, hak_102, hak_103, hak_104, hak_105, hak_107, hak_108, hak_109, hak_110, hak_111, hak_112, hak_113, hak_114, hak_115, hak_116, hak_117, hak_118, hak_119, hak_120, hak_127, hak_128, hak_129, hak_130, hak_132, ↓eL_16, ↓eL_21, ↓eL_23, ↓eL_50, W, Q, cmpS, hL, h21, h10, nb0, nb1]
    refine LIv_of ?_ hx ?_
    · exact W
    · exact P
  · have hc := q_nb hj (show gL σ 1 ≤ 40 by omega)
    have hcl : (nI j).toNatClampNeg = j := nI_clamp (by omega)
    have hj10 : j < 10 := by omega
    obtain ⟨r1, r2⟩ := P.2.2.2.1.2.2.2.1 j hj
    have s1 := r1.symm
    have s2 := r2.symm
    by_cases h0 : gV σ 1 14 j = 0
    · simp (config := { maxSteps := 1000000 }) only [↓w_law_36.eq_1, ↓w_L_law_b2505.eq_1, ↓w_L_ratingBits.eq_1, ↓w_X7_ratingBits.eq_1, ↓w_X7_ratedBuild.eq_1, ↓w_X8_ratingBits_b21.eq_1, ↓w_X8_ratingBits.eq_1, ↓w_X8_rating_b43.eq_1, ↓w_X8_rating_b24.eq_1, ↓w_X8_rating.eq_1, ↓w_X8_thrown.eq_1, ↓w_X8_noBuild_b29.eq_1, ↓w_X8_noBuild_b14.eq_1, ↓w_X8_noBuild.eq_1, ↓w_X8_isBuild.eq_1, u1, ↓q_kb, ↓q_in, ↓if_neg hc, true_and, and_true, if_true, if_false, reduceIte, and_self, false_and, and_false, or_false, false_or, true_or, or_true, not_true_eq_false, not_false_eq_true, ne_eq, reduceCtorEq, Nat.reduceLT, Nat.reduceEqDiff, Nat.reduceLeDiff, Nat.reduceAdd, eq_self, ii_0_1, ii_0_2, ii_0_3, ii_0_4, ii_1_0, ii_1_2, ii_1_3, ii_1_4, il_1, ii_2_0, ii_2_1, ii_2_3, ii_2_4, il_2, ii_3_0, ii_3_1, ii_3_2, ii_3_4, il_3, ii_4_0, ii_4_1, ii_4_2, ii_4_3, il_4, il_0, ie_0_1, ie_0_2, ie_0_3, ie_0_4, ie_0_5, ie_1_0, ie_1_2, ie_1_3, ie_1_4, ie_1_5, ie_2_0, ie_2_1, ie_2_3, ie_2_4, ie_2_5, ie_3_0, ie_3_1, ie_3_2, ie_3_4, ie_3_5, ie_4_0, ie_4_1, ie_4_2, ie_4_3, ie_4_5, ie_5_0, ie_5_1, ie_5_2, ie_5_3, ie_5_4, ↓e_Is', ↓e_GetI, ↓e_GetF, ↓e_PutI, ↓e_PutF, ↓e_PutR, ↓e_Ald, ↓e_Ast, ↓e_Aldq, ↓e_AldJ, ↓e_AstJ, ↓e_AldD, ↓e_AstD, gL_sV, gV_sV, gR_sV, gN_sV, gJ_sV, gD_sV, gL_sR, gV_sR, gR_sR, gN_sR, gJ_sR, gD_sR, gL_sJ, gV_sJ, gR_sJ, gN_sJ, gJ_sJ, gL_sD, gV_sD, gR_sD, gN_sD, gD_sD, hr_0, hr_s, WF_sV, WF_sJ, WF_sD, gL_sF, gV_sF, gR_sF, gN_sF, gL_sG, gV_sG, gR_sG, gN_sG, WF_sF, ↓eR_1_2, ↓eR_1_5, ↓eR_1_6, ↓eR_2_3, ↓eR_3_2, ↓eR_4_1, ↓eR_6_0, ↓eR_8_34, ↓eR_9_0, ↓eR_20_0, ↓eR_22_0, sL_7, sL_8, sL_60, sL_61, sN_60, sN_61, ↓s7_0, ↓s7_1, ↓s7_2, ↓s7_3, ↓s7_4, ↓s7_5, ↓s7_6, sL_100, ↓s8_0, sN_100, sL_101, ↓s8_1, sN_101, sL_102, ↓s8_2, sN_102, sL_103, ↓s8_3, sN_103, sL_104, ↓s8_4, sN_104, sL_105, ↓s8_5, sN_105, sL_107, ↓s8_7, sN_107, sL_108, ↓s8_8, sN_108, sL_109, ↓s8_9, sN_109, sL_110, ↓s8_10, sN_110, sL_111, ↓s8_11, sN_111, sL_112, ↓s8_12, sN_112, sL_113, ↓s8_13, sN_113, sL_114, ↓s8_14, sN_114, sL_115, ↓s8_15, sN_115, sL_116, ↓s8_16, sN_116, sL_117, ↓s8_17, sN_117, sL_118, ↓s8_18, sN_118, sL_119, ↓s8_19, sN_119, sL_120, ↓s8_20, sN_120, sL_127, ↓s8_27, sN_127, sL_128, ↓s8_28, sN_128, sL_129, ↓s8_29, sN_129, sL_130, ↓s8_30, sN_130, sL_132, ↓s8_32, sN_132, P0_sV, P0_sJ, P0_sD, hcl_1, hok_1_0, hok_1_1, hok_1_2, hok_1_3, hok_1_4, hok_1_5, hok_1_6, hok_1_7, hok_1_8, hok_1_9, hok_1_10, hok_1_11, hok_1_12, hok_1_13, hok_1_14, hok_1_15, hcl_2, hok_2_0, hok_2_1, hok_2_2, hok_2_3, hok_2_4, hok_2_5, hcl_3, hok_3_0, hok_3_1, hok_3_2, hcl_4, hok_4_0, hok_4_1, hok_4_2, hok_4_3, hcl_5, hok_5_0, hok_5_1, hok_5_2, hcl_6, hok_6_0, hok_6_1, hcl_7, hok_7_0, hok_7_1, hok_7_2, hok_7_3, hok_7_4, hok_7_5, hok_7_6, hok_7_7, hok_7_8, hok_7_9, hok_7_10, hok_7_11, hok_7_12, hcl_8, hok_8_0, hok_8_1, hok_8_2, hok_8_3, hok_8_4, hok_8_5, hok_8_6, hok_8_7, hok_8_8, hok_8_9, hok_8_10, hok_8_11, hok_8_12, hok_8_13, hok_8_14, hok_8_15, hok_8_16, hok_8_17, hok_8_18, hok_8_19, hok_8_20, hok_8_21, hok_8_22, hok_8_23, hok_8_24, hok_8_25, hok_8_26, hok_8_27, hok_8_28, hok_8_29, hok_8_30, hok_8_31, hok_8_32, hok_8_33, hok_8_34, hok_8_35, hok_8_36, hcl_9, hok_9_0, hok_9_1, hok_9_2, hok_9_3, hcl_20, hok_20_0, hok_20_1, hcl_22, hok_22_0, hok_22_1, hcl_30, hok_30_0, hok_30_1, hok_30_2, hcl_31, hok_31_0, hok_31_1, hok_31_2, hcl_32, hok_32_0, hok_32_1, hok_32_2, hcl_33, hok_33_0, hok_33_1, hok_33_2, hak_16, hak_21, hak_23, hak_40, hak_41, hak_42, hak_43, hak_50, hak_60, hak_61, hak_205, hak_227, hak_100, hak_101, hak_102, hak_103, hak_104, hak_105, hak_107, hak_108, hak_109, hak_110, hak_111, hak_112, hak_113, hak_114, hak_115, hak_116, hak_117, hak_118, hak_119, hak_120, hak_127, hak_128, hak_129, hak_130, hak_132, ↓eL_16, ↓eL_21, ↓eL_23, ↓eL_50, W, Q, cmpS, hL, h21, h6, h10, h12, nb0, nb1, hcl, hj, hj10, ↓q_rat, ↓q_rof, s1, s2, ↓if_pos h0]
      refine LIv_of ?_ hx ?_
      · exact W
      · exact P
    · have e0 := fl_ddiv (a := gV σ 1 15 j) h0
      have e1 := fl_dcmp (fl_dfin (a := gV σ 1 15 j) h0)
      obtain ⟨⟨s, hs, es⟩, c, hcc, ec⟩ := sm_stars (f := fun d => gV σ 205 j d) (fun d => P.2.2.1.2.2.2.2.2 d j) (gL σ 2) h12
      have hdb : dbx (FP.ddiv (FP.i2d (gV σ 1 15 j)) (FP.i2d (gV σ 1 14 j))) = some (FP.ddiv (FP.i2d (gV σ 1 15 j)) (FP.i2d (gV σ 1 14 j))).toInt64 := by
        have hc0 : c ≠ 0 := fun z => h0 (by rw [r1, ec, z]; rfl)
        rw [r1, r2, es, ec]
        exact rb_all hc0 (by omega) (by omega)
      have hq := fun (px : String → GM → Prop) (post : Int64 → GM → Prop) (g : GM) => q_db (X := X) (px := px) (post := post) (g := g) hdb
      simp (config := { maxSteps := 1000000 }) only [↓w_law_36.eq_1, ↓w_L_law_b2505.eq_1, ↓w_L_ratingBits.eq_1, ↓w_X7_ratingBits.eq_1, ↓w_X7_ratedBuild.eq_1, ↓w_X1_meanStars_b22.eq_1, ↓w_X1_meanStars.eq_1, ↓w_X8_ratingBits_b21.eq_1, ↓w_X8_ratingBits.eq_1, ↓w_X8_rating_b43.eq_1, ↓w_X8_rating_b24.eq_1, ↓w_X8_rating.eq_1, ↓w_X8_thrown.eq_1, ↓w_X8_noBuild_b29.eq_1, ↓w_X8_noBuild_b14.eq_1, ↓w_X8_noBuild.eq_1, ↓w_X8_isBuild.eq_1, ↓w_Jxe99ae_doubleToLongBits_ccdee.eq_1, ↓w_Jxe99ae_isNaN_b9ae7_b11.eq_1, ↓w_Jxe99ae_isNaN_b9ae7.eq_1, u1, ↓q_kb, ↓q_in, ↓if_neg hc, true_and, and_true, if_true, if_false, reduceIte, and_self, false_and, and_false, or_false, false_or, true_or, or_true, not_true_eq_false, not_false_eq_true, ne_eq, reduceCtorEq, Nat.reduceLT, Nat.reduceEqDiff, Nat.reduceLeDiff, Nat.reduceAdd, eq_self, ii_0_1, ii_0_2, ii_0_3, ii_0_4, ii_1_0, ii_1_2, ii_1_3, ii_1_4, il_1, ii_2_0, ii_2_1, ii_2_3, ii_2_4, il_2, ii_3_0, ii_3_1, ii_3_2, ii_3_4, il_3, ii_4_0, ii_4_1, ii_4_2, ii_4_3, il_4, il_0, ie_0_1, ie_0_2, ie_0_3, ie_0_4, ie_0_5, ie_1_0, ie_1_2, ie_1_3, ie_1_4, ie_1_5, ie_2_0, ie_2_1, ie_2_3, ie_2_4, ie_2_5, ie_3_0, ie_3_1, ie_3_2, ie_3_4, ie_3_5, ie_4_0, ie_4_1, ie_4_2, ie_4_3, ie_4_5, ie_5_0, ie_5_1, ie_5_2, ie_5_3, ie_5_4, ↓e_Is', ↓e_GetI, ↓e_GetF, ↓e_PutI, ↓e_PutF, ↓e_PutR, ↓e_Ald, ↓e_Ast, ↓e_Aldq, ↓e_AldJ, ↓e_AstJ, ↓e_AldD, ↓e_AstD, gL_sV, gV_sV, gR_sV, gN_sV, gJ_sV, gD_sV, gL_sR, gV_sR, gR_sR, gN_sR, gJ_sR, gD_sR, gL_sJ, gV_sJ, gR_sJ, gN_sJ, gJ_sJ, gL_sD, gV_sD, gR_sD, gN_sD, gD_sD, hr_0, hr_s, WF_sV, WF_sJ, WF_sD, gL_sF, gV_sF, gR_sF, gN_sF, gL_sG, gV_sG, gR_sG, gN_sG, WF_sF, ↓eR_1_2, ↓eR_1_5, ↓eR_1_6, ↓eR_2_3, ↓eR_3_2, ↓eR_4_1, ↓eR_6_0, ↓eR_8_34, ↓eR_9_0, ↓eR_20_0, ↓eR_22_0, sL_7, sL_8, sL_60, sL_61, sN_60, sN_61, ↓s7_0, ↓s7_1, ↓s7_2, ↓s7_3, ↓s7_4, ↓s7_5, ↓s7_6, sL_100, ↓s8_0, sN_100, sL_101, ↓s8_1, sN_101, sL_102, ↓s8_2, sN_102, sL_103, ↓s8_3, sN_103, sL_104, ↓s8_4, sN_104, sL_105, ↓s8_5, sN_105, sL_107, ↓s8_7, sN_107, sL_108, ↓s8_8, sN_108, sL_109, ↓s8_9, sN_109, sL_110, ↓s8_10, sN_110, sL_111, ↓s8_11, sN_111, sL_112, ↓s8_12, sN_112, sL_113, ↓s8_13, sN_113, sL_114, ↓s8_14, sN_114, sL_115, ↓s8_15, sN_115, sL_116, ↓s8_16, sN_116, sL_117, ↓s8_17, sN_117, sL_118, ↓s8_18, sN_118, sL_119, ↓s8_19, sN_119, sL_120, ↓s8_20, sN_120, sL_127, ↓s8_27, sN_127, sL_128, ↓s8_28, sN_128, sL_129, ↓s8_29, sN_129, sL_130, ↓s8_30, sN_130, sL_132, ↓s8_32, sN_132, P0_sV, P0_sJ, P0_sD, hcl_1, hok_1_0, hok_1_1, hok_1_2, hok_1_3, hok_1_4, hok_1_5, hok_1_6, hok_1_7, hok_1_8, hok_1_9, hok_1_10, hok_1_11, hok_1_12, hok_1_13, hok_1_14, hok_1_15, hcl_2, hok_2_0, hok_2_1, hok_2_2, hok_2_3, hok_2_4, hok_2_5, hcl_3, hok_3_0, hok_3_1, hok_3_2, hcl_4, hok_4_0, hok_4_1, hok_4_2, hok_4_3, hcl_5, hok_5_0, hok_5_1, hok_5_2, hcl_6, hok_6_0, hok_6_1, hcl_7, hok_7_0, hok_7_1, hok_7_2, hok_7_3, hok_7_4, hok_7_5, hok_7_6, hok_7_7, hok_7_8, hok_7_9, hok_7_10, hok_7_11, hok_7_12, hcl_8, hok_8_0, hok_8_1, hok_8_2, hok_8_3, hok_8_4, hok_8_5, hok_8_6, hok_8_7, hok_8_8, hok_8_9, hok_8_10, hok_8_11, hok_8_12, hok_8_13, hok_8_14, hok_8_15, hok_8_16, hok_8_17, hok_8_18, hok_8_19, hok_8_20, hok_8_21, hok_8_22, hok_8_23, hok_8_24, hok_8_25, hok_8_26, hok_8_27, hok_8_28, hok_8_29, hok_8_30, hok_8_31, hok_8_32, hok_8_33, hok_8_34, hok_8_35, hok_8_36, hcl_9, hok_9_0, hok_9_1, hok_9_2, hok_9_3, hcl_20, hok_20_0, hok_20_1, hcl_22, hok_22_0, hok_22_1, hcl_30, hok_30_0, hok_30_1, hok_30_2, hcl_31, hok_31_0, hok_31_1, hok_31_2, hcl_32, hok_32_0, hok_32_1, hok_32_2, hcl_33, hok_33_0, hok_33_1, hok_33_2, hak_16, hak_21, hak_23, hak_40, hak_41, hak_42, hak_43, hak_50, hak_60, hak_61, hak_205, hak_227, hak_100, hak_101, hak_102, hak_103, hak_104, hak_105, hak_107, hak_108, hak_109, hak_110, hak_111, hak_112, hak_113, hak_114, hak_115, hak_116, hak_117, hak_118, hak_119, hak_120, hak_127, hak_128, hak_129, hak_130, hak_132, ↓eL_16, ↓eL_21, ↓eL_23, ↓eL_50, W, Q, cmpS, hL, h21, h6, h10, h12, nb0, nb1, hcl, hj, hj10, ↓q_rat, ↓q_rof, s1, s2, ↓if_neg h0, e0, e1, ↓hq]
      refine LIv_of ?_ hx ?_
      · exact W
      · exact P
end CS
