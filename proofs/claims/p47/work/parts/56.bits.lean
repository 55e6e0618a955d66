/-! bits of floats -/
def n64b (r : UInt64) : Bool := decide (r.toNat % 2 ^ 63 ≤ 9218868437227405312)
theorem n64_of {r : UInt64} (h : n64b r = true) : vf_n64 r := fl_n64 (of_decide_eq_true h)
/-- halving -/
def dbd : Nat → UInt64 → Int64 → Option (UInt64 × Int64)
  | 0, _, _ => none
  | f + 1, a, e => if (Op.cmpValue (FP.dcmp a (4611686018427387904 : UInt64)) .l) < 0 then some (a, e) else if n64b (FP.ddiv a (4611686018427387904 : UInt64)) = true then dbd f (FP.ddiv a (4611686018427387904 : UInt64)) (e + 1) else none
/-- doubling -/
def dbu : Nat → UInt64 → Int64 → Option (UInt64 × Int64)
  | 0, _, _ => none
  | f + 1, a, e => if 0 ≤ (Op.cmpValue (FP.dcmp a FP.dconst1) .g) then some (a, e) else if n64b (FP.dmul a (4611686018427387904 : UInt64)) = true then dbu f (FP.dmul a (4611686018427387904 : UInt64)) (e - 1) else none
def dbz : Option (UInt64 × Int64) → Option Int64
  | none => none
  | some (a, e) => if n64b (FP.dsub a FP.dconst1) = true then (if n64b (FP.dmul (FP.dsub a FP.dconst1) (4841369599423283200 : UInt64)) = true then some ((e <<< (((52 : Int32)).toInt64 &&& 63)) ||| (FP.d2l (FP.dmul (FP.dsub a FP.dconst1) (4841369599423283200 : UInt64)))) else none) else none
def dby : Option (UInt64 × Int64) → Option Int64
  | none => none
  | some (a, e) => dbz (dbu 40 a e)
def dbx (v : UInt64) : Option Int64 := if 0 < (Op.cmpValue (FP.dcmp v FP.dconst0) .g) then dby (dbd 40 v (1023 : Int64)) else some 0
def fbr (y : Int64) : Int32 := (((((y).toUInt64 >>> (((52 : Int32)).toInt64.toUInt64 &&& Int64.toUInt64 63)).toInt64).toInt32 - (1023 : Int32)) + (127 : Int32)) <<< ((23 : Int32) &&& 31) ||| ((((y).toUInt64 >>> (((29 : Int32)).toInt64.toUInt64 &&& Int64.toUInt64 63)).toInt64).toInt32 &&& (8388607 : Int32))
def fby (r : Option Int64) (x : Int32) : Bool := match r with
  | none => false
  | some y => decide (fbr y = x)
def fbx (v : UInt32) : Bool := if 0 < (Op.cmpValue (FP.fcmp v FP.fconst0) .g) then n64b (FP.f2d v) && fby (dbx (FP.f2d v)) v.toInt32 else decide (v.toInt32 = 0)
def fall (n : Nat) : Nat → Bool
  | 0 => true
  | k + 1 => fbx (thB (n + k)) && fall n k
theorem fall_at {n m : Nat} : ∀ {k : Nat}, fall n k = true → m < k → fbx (thB (n + m)) = true
  | 0, _, h => absurd h (Nat.not_lt_zero _)
  | k + 1, h, hm => by
    rw [fall, Bool.and_eq_true] at h
    by_cases e : m = k
    · rw [e]; exact h.1
    · exact fall_at h.2 (by omega)
theorem fall_0 : fall 0 1000 = true := by decide +kernel
theorem fall_1 : fall 1000 1000 = true := by decide +kernel
theorem fall_2 : fall 2000 1000 = true := by decide +kernel
theorem fall_3 : fall 3000 1000 = true := by decide +kernel
theorem fall_4 : fall 4000 1000 = true := by decide +kernel
theorem fall_5 : fall 5000 1000 = true := by decide +kernel
theorem fall_6 : fall 6000 1000 = true := by decide +kernel
theorem fall_7 : fall 7000 1000 = true := by decide +kernel
theorem fall_8 : fall 8000 1000 = true := by decide +kernel
theorem fall_9 : fall 9000 1000 = true := by decide +kernel
theorem fb_all {t : Nat} (h : t ≤ 9999) : fbx (thB t) = true := by
  obtain ⟨q, m, hm, rfl⟩ : ∃ q m, m < 1000 ∧ t = 1000 * q + m := ⟨t / 1000, t % 1000, Nat.mod_lt _ (by decide), by omega⟩
  have hq : q < 10 := by omega
  match q, hq with
  | 0, _ => exact fall_at (n := 0) fall_0 hm
  | 1, _ => exact fall_at (n := 1000) fall_1 hm
  | 2, _ => exact fall_at (n := 2000) fall_2 hm
  | 3, _ => exact fall_at (n := 3000) fall_3 hm
  | 4, _ => exact fall_at (n := 4000) fall_4 hm
  | 5, _ => exact fall_at (n := 5000) fall_5 hm
  | 6, _ => exact fall_at (n := 6000) fall_6 hm
  | 7, _ => exact fall_at (n := 7000) fall_7 hm
  | 8, _ => exact fall_at (n := 8000) fall_8 hm
  | 9, _ => exact fall_at (n := 9000) fall_9 hm
  | q + 10, h => omega
def rall (c : Nat) : Nat → Bool
  | 0 => true
  | k + 1 => decide (dbx (FP.ddiv (FP.i2d (nI k)) (FP.i2d (nI c))) = some (FP.ddiv (FP.i2d (nI k)) (FP.i2d (nI c))).toInt64) && rall c k
theorem rall_at {c m : Nat} : ∀ {k : Nat}, rall c k = true → m < k → dbx (FP.ddiv (FP.i2d (nI m)) (FP.i2d (nI c))) = some (FP.ddiv (FP.i2d (nI m)) (FP.i2d (nI c))).toInt64
  | 0, _, h => absurd h (Nat.not_lt_zero _)
  | k + 1, h, hm => by
    rw [rall, Bool.and_eq_true] at h
    by_cases e : m = k
    · rw [e]; exact of_decide_eq_true h.1
    · exact rall_at h.2 (by omega)
theorem rall_61 : (rall 1 61 && rall 2 61 && rall 3 61 && rall 4 61 && rall 5 61 && rall 6 61 && rall 7 61 && rall 8 61 && rall 9 61 && rall 10 61 && rall 11 61 && rall 12 61) = true := by decide +kernel
theorem rb_all {c s : Nat} (h0 : c ≠ 0) (h : c ≤ 12) (hs : s ≤ 60) : dbx (FP.ddiv (FP.i2d (nI s)) (FP.i2d (nI c))) = some (FP.ddiv (FP.i2d (nI s)) (FP.i2d (nI c))).toInt64 := by
  have r := rall_61
  simp only [Bool.and_eq_true] at r
  obtain ⟨⟨⟨⟨⟨⟨⟨⟨⟨⟨⟨r1, r2⟩, r3⟩, r4⟩, r5⟩, r6⟩, r7⟩, r8⟩, r9⟩, r10⟩, r11⟩, r12⟩ := r
  match c, h0, h with
  | 1, _, _ => exact rall_at r1 (by omega)
  | 2, _, _ => exact rall_at r2 (by omega)
  | 3, _, _ => exact rall_at r3 (by omega)
  | 4, _, _ => exact rall_at r4 (by omega)
  | 5, _, _ => exact rall_at r5 (by omega)
  | 6, _, _ => exact rall_at r6 (by omega)
  | 7, _, _ => exact rall_at r7 (by omega)
  | 8, _, _ => exact rall_at r8 (by omega)
  | 9, _, _ => exact rall_at r9 (by omega)
  | 10, _, _ => exact rall_at r10 (by omega)
  | 11, _, _ => exact rall_at r11 (by omega)
  | 12, _, _ => exact rall_at r12 (by omega)
  | c + 13, _, h => omega
section DB
variable {X : Cx} {px : String → GM → Prop} {g : GM}
theorem q_dbu {post : Int64 → GM → Prop} {a : UInt64} {e : Int64} : ∀ (f k F : Nat) (l2 : UInt64) (l4 : Int64), dbu f l2 l4 = some (a, e) → k + f ≤ 1100 → f < F → w_X7_doubleBits_l55 X post px F l2 l4 (nI k) g = w_X7_doubleBits_b87 X post px a e g := by
  intro f
  induction f with
  | zero => intro k F l2 l4 h; rw [dbu] at h; cases h
  | succ f ih =>
    intro k F l2 l4 h hk hF
    obtain ⟨F, rfl⟩ : ∃ F', F = F' + 1 := ⟨F - 1, by omega⟩
    rw [w_X7_doubleBits_l55, if_neg (show ¬ (1100 : Int32) ≤ nI k from nI_ge (a := k) (b := 1100) (by omega) (by omega))]
    rw [dbu] at h
    by_cases c : 0 ≤ (Op.cmpValue (FP.dcmp l2 FP.dconst1) .g)
    · rw [if_pos c] at h ⊢
      cases h
      rfl
    · rw [if_neg c] at h ⊢
      by_cases c2 : n64b (FP.dmul l2 (4611686018427387904 : UInt64)) = true
      · rw [if_pos c2] at h
        rw [p_and (n64_of c2), nI_1]
        exact ih (k + 1) F _ _ h (by omega) (by omega)
      · rw [if_neg c2] at h
        cases h
theorem q_dbd {post : Int64 → GM → Prop} {a : UInt64} {e : Int64} : ∀ (f k F : Nat) (l2 : UInt64) (l4 : Int64), dbd f l2 l4 = some (a, e) → k + f ≤ 1100 → f < F → w_X7_doubleBits_l18 X post px F l2 l4 (nI k) g = w_X7_doubleBits_b52 X post px a e g := by
  intro f
  induction f with
  | zero => intro k F l2 l4 h; rw [dbd] at h; cases h
  | succ f ih =>
    intro k F l2 l4 h hk hF
    obtain ⟨F, rfl⟩ : ∃ F', F = F' + 1 := ⟨F - 1, by omega⟩
    rw [w_X7_doubleBits_l18, if_neg (show ¬ (1100 : Int32) ≤ nI k from nI_ge (a := k) (b := 1100) (by omega) (by omega))]
    rw [dbd] at h
    by_cases c : (Op.cmpValue (FP.dcmp l2 (4611686018427387904 : UInt64)) .l) < 0
    · rw [if_pos c] at h ⊢
      cases h
      rfl
    · rw [if_neg c] at h ⊢
      by_cases c2 : n64b (FP.ddiv l2 (4611686018427387904 : UInt64)) = true
      · rw [if_pos c2] at h
        rw [p_and (n64_of c2), nI_1]
        exact ih (k + 1) F _ _ h (by omega) (by omega)
      · rw [if_neg c2] at h
        cases h
theorem q_dbz {post : Int64 → GM → Prop} {a : UInt64} {e y : Int64} (h : dbz (some (a, e)) = some y) : w_X7_doubleBits_b87 X post px a e g = post y g := by
  unfold dbz at h
  unfold w_X7_doubleBits_b87
  by_cases c1 : n64b (FP.dsub a FP.dconst1) = true
  · by_cases c2 : n64b (FP.dmul (FP.dsub a FP.dconst1) (4841369599423283200 : UInt64)) = true
    · dsimp only at h
      rw [if_pos c1, if_pos c2] at h
      cases h
      rw [p_and (n64_of c1), p_and (n64_of c2)]
    · dsimp only at h
      rw [if_pos c1, if_neg c2] at h
      cases h
  · dsimp only at h
    rw [if_neg c1] at h
    cases h
theorem q_db {post : Int64 → GM → Prop} {v : UInt64} {y : Int64} (h : dbx v = some y) : w_X7_doubleBits X post px v g = post y g := by
  unfold dbx at h
  unfold w_X7_doubleBits
  by_cases c : 0 < (Op.cmpValue (FP.dcmp v FP.dconst0) .g)
  · rw [if_pos c] at h ⊢
    cases h1 : dbd 40 v (1023 : Int64) with
    | none => rw [h1] at h; cases h
    | some p1 =>
      obtain ⟨a, e⟩ := p1
      rw [h1] at h
      have h' : dbz (dbu 40 a e) = some y := h
      rw [show (0 : Int32) = nI 0 from rfl, q_dbd 40 0 3000 v 1023 h1 (by omega) (by omega)]
      unfold w_X7_doubleBits_b52
      cases h2 : dbu 40 a e with
      | none => rw [h2] at h'; cases h'
      | some p2 =>
        obtain ⟨a2, e2⟩ := p2
        rw [h2] at h'
        rw [show (0 : Int32) = nI 0 from rfl, q_dbu 40 0 3000 a e h2 (by omega) (by omega)]
        exact q_dbz h'
  · rw [if_neg c] at h ⊢
    cases h
    rfl
theorem q_fb {post : Int32 → GM → Prop} {t : Nat} (ht : t ≤ 9999) : w_X7_floatBits X post px (thB t) g = post (thB t).toInt32 g := by
  have h := fb_all ht
  generalize thB t = v at h
  unfold fbx at h
  unfold w_X7_floatBits
  by_cases c : 0 < (Op.cmpValue (FP.fcmp v FP.fconst0) .g)
  · rw [if_pos c] at h ⊢
    rw [Bool.and_eq_true] at h
    rw [p_and (n64_of h.1)]
    have h2 := h.2
    cases hd : dbx (FP.f2d v) with
    | none => rw [hd] at h2; cases h2
    | some y =>
      rw [hd] at h2
      have h3 : fbr y = v.toInt32 := of_decide_eq_true h2
      rw [q_db hd, ← h3]
      rfl
  · rw [if_neg c] at h ⊢
    rw [of_decide_eq_true h]
end DB
theorem th_1000 : (1148846080 : UInt32) = FP.i2f 1000 := by decide +kernel
theorem th_fin (w : Int32) : Jvm.FP.Core.FFin (FP.fdiv (FP.i2f w) 1148846080) := by
  rw [th_1000]; exact fl_fin (by decide)
theorem th_n (w : Int32) : vf_n32 (FP.fdiv (FP.i2f w) 1148846080) := by
  rw [th_1000]; exact fl_div (by decide)
theorem fl_fcmp {q : UInt32} (h : Jvm.FP.Core.FFin q) : Op.cmpValue (FP.fcmp q q) .l = 0 := by
  rw [show FP.fcmp q q = some .eq from Jvm.FP.Core.fcmp_self (Jvm.FP.Core.FFin.ne_nan h)]
  rfl
theorem th_i (x : UInt32) : x.toInt32.toUInt32 = x := rfl
section CS
variable {X : Cx} {xs : Nat → Int32} {Ls b i : Nat} {v1 v2 v3 v4 : Option Nat} {g : GM}
/-- sums of stars -/
theorem sm_stars {f : Nat → Int32} (h : ∀ d, ∃ m, m ≤ 5 ∧ f d = nI m) : ∀ n : Nat, n ≤ 12 → (∃ s, s ≤ 5 * n ∧ sm f n = nI s) ∧ ∃ c, c ≤ n ∧ sm (fun d => if 0 < f d then 1 else 0) n = nI c
  | 0, _ => ⟨⟨0, by omega, rfl⟩, ⟨0, by omega, rfl⟩⟩
  | n + 1, hn => by
    obtain ⟨⟨s, hs, e1⟩, c, hc, e2⟩ := sm_stars h n (by omega)
    obtain ⟨m, hm, e3⟩ := h n
    refine ⟨⟨s + m, by omega, by rw [sm, e1, e3, nI_add]⟩, ?_⟩
    rw [sm, e2]
    by_cases z : 0 < f n
    · exact ⟨c + 1, by omega, by rw [if_pos z]; exact nI_1 c⟩
    · exact ⟨c, by omega, by rw [if_neg z, Int32.add_zero]⟩
end CS
