/-! THE GENERIC HEAP: roles (kind, index), their addresses, and the state they hold -/
/-- live roles by kind; ints; coded references (0: none, j + 1: role j); lengths; the law's two result cells -/
abbrev St : Type := (Nat → Nat) × (Nat → Nat → Nat → Int32) × (Nat → Nat → Nat → Nat) × (Nat → Nat → Nat) × (Nat → Int64) × (Nat → UInt64)
/-- addresses of roles, roles of addresses, what else there is, the first free address, the empty element array -/
abbrev Ad : Type := (Nat → Nat → Nat) × (Nat → Option (Nat × Nat)) × GM × Nat × Nat
def gL (σ : St) (k : Nat) : Nat := σ.1 k
def gV (σ : St) (k f i : Nat) : Int32 := σ.2.1 k f i
def gR (σ : St) (k f i : Nat) : Nat := σ.2.2.1 k f i
def gN (σ : St) (k i : Nat) : Nat := σ.2.2.2.1 k i
def gJ (σ : St) : Nat → Int64 := σ.2.2.2.2.1
def gD (σ : St) : Nat → UInt64 := σ.2.2.2.2.2
def sV (σ : St) (k f i : Nat) (x : Int32) : St := (σ.1, fun k' f' i' => if k' = k ∧ f' = f ∧ i' = i then x else gV σ k' f' i', σ.2.2)
def sR (σ : St) (k f i : Nat) (r : Nat) : St := (σ.1, σ.2.1, fun k' f' i' => if k' = k ∧ f' = f ∧ i' = i then r else gR σ k' f' i', σ.2.2.2)
def sJ (σ : St) (x : Int64) : St := (σ.1, σ.2.1, σ.2.2.1, σ.2.2.2.1, (fun j => if j = 0 then x else gJ σ j), gD σ)
def sD (σ : St) (x : UInt64) : St := (σ.1, σ.2.1, σ.2.2.1, σ.2.2.2.1, gJ σ, (fun j => if j = 0 then x else gD σ j))
def sW (σ : St) (k n : Nat) : St := (fun k' => if k' = k then gL σ k + 1 else gL σ k', fun k' f' i' => if k' = k ∧ i' = gL σ k then 0 else gV σ k' f' i', fun k' f' i' => if k' = k ∧ i' = gL σ k then 0 else gR σ k' f' i', fun k' i' => if k' = k ∧ i' = gL σ k then n else gN σ k' i', gJ σ, gD σ)
/-- class of the objects of a kind; 99: arrays -/
def hC : Nat → Nat
  | 1 => 1 | 2 => 2 | 3 => 3 | 4 => 4 | 5 => 5 | 6 => 6 | 7 => 7 | 8 => 8 | 9 => 9 | 20 => 0 | 22 => 0 | 30 => 10 | 31 => 10 | 32 => 10 | 33 => 10 | _ => 99
/-- fields of the objects of a class -/
def hFn : Nat → Nat
  | 0 => 2 | 1 => 16 | 2 => 6 | 3 => 3 | 4 => 4 | 5 => 3 | 6 => 2 | 7 => 13 | 8 => 37 | 9 => 4 | 10 => 3 | _ => 0
/-- a field's type: 0 int, 1 float, t + 2 a reference to kind t, t + 1000 an element array of kind t, or the empty one -/
def hT (k f : Nat) : Nat :=
  if k = 1 then (if f = 2 then 7 else if f = 5 then 3 else if f = 6 then 22 else 0)
  else if k = 2 then (if f = 3 then 3 else 0)
  else if k = 3 then (if f = 2 then 24 else 0)
  else if k = 4 then (if f = 1 then 8 else 0)
  else if k = 6 then (if f = 0 then 18 else 0)
  else if k = 7 then (if f < 4 then 32 + f else if f < 6 then 8 else if f = 6 then 11 else if f = 10 ∨ f = 11 then 1 else 0)
  else if k = 8 then (if f < 6 then 102 + f else if 7 ≤ f ∧ f < 21 then 102 + f else if f = 25 ∨ f = 26 then 1 else if 27 ≤ f ∧ f < 31 then 102 + f else if f = 32 then 134 else if f = 34 then 11 else 0)
  else if k = 9 then (if f = 0 then 52 else 0)
  else if k = 20 then (if f = 0 then 23 else 0)
  else if k = 22 then (if f = 0 then 25 else 0)
  else if 30 ≤ k ∧ k < 34 then (if f = 1 then 1010 + k else 0)
  else 0
/-- kind of the arrays -/
def hA (k : Nat) : Nat :=
  if k = 16 ∨ k = 114 ∨ k = 132 ∨ k = 227 then 1 else if k = 50 then 2 else if k = 116 then 3 else if 40 ≤ k ∧ k < 44 then 4 else if k = 105 then 5 else if k = 127 then 6 else if k = 60 then 7 else if k = 61 then 8 else 0
/-- what the references of an array of a kind point to -/
def hE (k : Nat) : Nat :=
  if k = 40 then 2 else if k = 41 then 3 else if k = 42 then 1 else if k = 43 then 4 else if k = 105 then 205 else if k = 127 then 227 else 0
/-- target kind of a reference, wherever it stands -/
def hG (k f : Nat) : Nat := if hC k = 99 then hE k else if hT k f < 1000 then hT k f - 2 else hT k f - 1000
def hS (k f : Nat) : Nat := if hC k = 99 then 0 else if hT k f < 1000 then 0 else 1
def hr (A : Ad) (t : Nat) : Nat → Option Nat
  | 0 => none
  | j + 1 => some (A.1 t j)
def hrz (A : Ad) (t : Nat) : Nat → Option Nat
  | 0 => none
  | 1 => some A.2.2.2.2
  | j + 2 => some (A.1 t j)
def hv (A : Ad) (T : Nat) (x : Int32) (r : Nat) : Value :=
  if T = 0 then .int x else if T = 1 then .float x.toUInt32 else if T < 1000 then va_rf (hr A (T - 2) r) else va_rf (hrz A (T - 1000) r)
def hf (A : Ad) (σ : St) (k i : Nat) : List Value := (List.range (hFn (hC k))).map (fun f => hv A (hT k f) (gV σ k f i) (gR σ k f i))
def ha (A : Ad) (σ : St) (k i : Nat) : vp_A := (gN σ k i, if hA k < 4 then .inl (fun j => gV σ k j i) else if hA k < 7 then .inr (.inr (.inr (.inr (fun j => hr A (hE k) (gR σ k j i))))) else if hA k = 7 then .inr (.inl (fun j => if i = 0 then gJ σ j else 0)) else .inr (.inr (.inr (.inl (fun j => if i = 0 then gD σ j else 0)))))
def hc (A : Ad) (σ : St) (k i : Nat) : GE := if hC k = 99 then .inl (hA k, ha A σ k i) else .inr (hC k, hf A σ k i)
def hp (A : Ad) (σ : St) : GM := fun q => match A.2.1 q with
  | some r => some (hc A σ r.1 r.2)
  | none => A.2.2.1 q
/-- the kinds that stand in the heap; the others (8, 60 and on) are a ghost beside it: the columns of a reference that isn't there -/
def rk (k : Nat) : Bool := decide (k < 60) && decide (k ≠ 8)
def WF (A : Ad) (σ : St) : Prop := (∀ k i, rk k = true → i < gL σ k → A.2.1 (A.1 k i) = some (k, i) ∧ A.2.2.2.1 ≤ A.1 k i) ∧ (∀ q k i, A.2.1 q = some (k, i) → A.1 k i = q ∧ i < gL σ k ∧ rk k = true) ∧ ∀ k f i, i < gL σ k → gR σ k f i ≤ gL σ (hG k f) + hS k f
/-! accessors of updates -/
theorem gL_sV {σ : St} {k f i : Nat} {x : Int32} {k' : Nat} : gL (sV σ k f i x) k' = gL σ k' := Eq.trans rfl rfl
theorem gV_sV {σ : St} {k f i : Nat} {x : Int32} {k' f' i' : Nat} : gV (sV σ k f i x) k' f' i' = if k' = k ∧ f' = f ∧ i' = i then x else gV σ k' f' i' := Eq.trans rfl rfl
theorem gR_sV {σ : St} {k f i : Nat} {x : Int32} {k' f' i' : Nat} : gR (sV σ k f i x) k' f' i' = gR σ k' f' i' := Eq.trans rfl rfl
theorem gN_sV {σ : St} {k f i : Nat} {x : Int32} {k' i' : Nat} : gN (sV σ k f i x) k' i' = gN σ k' i' := Eq.trans rfl rfl
theorem gJ_sV {σ : St} {k f i : Nat} {x : Int32} : gJ (sV σ k f i x) = gJ σ := Eq.trans rfl rfl
theorem gD_sV {σ : St} {k f i : Nat} {x : Int32} : gD (sV σ k f i x) = gD σ := Eq.trans rfl rfl
theorem gL_sR {σ : St} {k f i : Nat} {x : Nat} {k' : Nat} : gL (sR σ k f i x) k' = gL σ k' := Eq.trans rfl rfl
theorem gV_sR {σ : St} {k f i : Nat} {x : Nat} {k' f' i' : Nat} : gV (sR σ k f i x) k' f' i' = gV σ k' f' i' := Eq.trans rfl rfl
theorem gR_sR {σ : St} {k f i : Nat} {x : Nat} {k' f' i' : Nat} : gR (sR σ k f i x) k' f' i' = if k' = k ∧ f' = f ∧ i' = i then x else gR σ k' f' i' := Eq.trans rfl rfl
theorem gN_sR {σ : St} {k f i : Nat} {x : Nat} {k' i' : Nat} : gN (sR σ k f i x) k' i' = gN σ k' i' := Eq.trans rfl rfl
theorem gJ_sR {σ : St} {k f i : Nat} {x : Nat} : gJ (sR σ k f i x) = gJ σ := Eq.trans rfl rfl
theorem gD_sR {σ : St} {k f i : Nat} {x : Nat} : gD (sR σ k f i x) = gD σ := Eq.trans rfl rfl
theorem gL_sJ {σ : St} {x : Int64} {k' : Nat} : gL (sJ σ x) k' = gL σ k' := Eq.trans rfl rfl
theorem gV_sJ {σ : St} {x : Int64} {k' f' i' : Nat} : gV (sJ σ x) k' f' i' = gV σ k' f' i' := Eq.trans rfl rfl
theorem gR_sJ {σ : St} {x : Int64} {k' f' i' : Nat} : gR (sJ σ x) k' f' i' = gR σ k' f' i' := Eq.trans rfl rfl
theorem gN_sJ {σ : St} {x : Int64} {k' i' : Nat} : gN (sJ σ x) k' i' = gN σ k' i' := Eq.trans rfl rfl
theorem gJ_sJ {σ : St} {x : Int64} : gJ (sJ σ x) 0 = x := Eq.trans rfl rfl
theorem gL_sD {σ : St} {x : UInt64} {k' : Nat} : gL (sD σ x) k' = gL σ k' := Eq.trans rfl rfl
theorem gV_sD {σ : St} {x : UInt64} {k' f' i' : Nat} : gV (sD σ x) k' f' i' = gV σ k' f' i' := Eq.trans rfl rfl
theorem gR_sD {σ : St} {x : UInt64} {k' f' i' : Nat} : gR (sD σ x) k' f' i' = gR σ k' f' i' := Eq.trans rfl rfl
theorem gN_sD {σ : St} {x : UInt64} {k' i' : Nat} : gN (sD σ x) k' i' = gN σ k' i' := Eq.trans rfl rfl
theorem gD_sD {σ : St} {x : UInt64} : gD (sD σ x) 0 = x := Eq.trans rfl rfl
theorem gL_sW {σ : St} {k n k' : Nat} : gL (sW σ k n) k' = if k' = k then gL σ k + 1 else gL σ k' := Eq.trans rfl rfl
theorem gV_sW {σ : St} {k n k' f' i' : Nat} : gV (sW σ k n) k' f' i' = if k' = k ∧ i' = gL σ k then 0 else gV σ k' f' i' := Eq.trans rfl rfl
theorem gR_sW {σ : St} {k n k' f' i' : Nat} : gR (sW σ k n) k' f' i' = if k' = k ∧ i' = gL σ k then 0 else gR σ k' f' i' := Eq.trans rfl rfl
theorem gN_sW {σ : St} {k n k' i' : Nat} : gN (sW σ k n) k' i' = if k' = k ∧ i' = gL σ k then n else gN σ k' i' := Eq.trans rfl rfl
theorem gJ_sW {σ : St} {k n : Nat} : gJ (sW σ k n) = gJ σ := Eq.trans rfl rfl
theorem gD_sW {σ : St} {k n : Nat} : gD (sW σ k n) = gD σ := Eq.trans rfl rfl
theorem hr_0 {A : Ad} {t : Nat} : hr A t 0 = none := Eq.trans rfl rfl
theorem hr_s {A : Ad} {t j : Nat} : hr A t (j + 1) = some (A.1 t j) := Eq.trans rfl rfl
theorem WF_sV {A : Ad} {σ : St} {k f i : Nat} {x : Int32} : WF A (sV σ k f i x) = WF A σ := Eq.trans rfl rfl
theorem WF_sJ {A : Ad} {σ : St} {x : Int64} : WF A (sJ σ x) = WF A σ := Eq.trans rfl rfl
theorem WF_sD {A : Ad} {σ : St} {x : UInt64} : WF A (sD σ x) = WF A σ := Eq.trans rfl rfl
theorem WF_sR {A : Ad} {σ : St} {k f i r : Nat} (W : WF A σ) (h : r ≤ gL σ (hG k f) + hS k f) : WF A (sR σ k f i r) := by
  refine ⟨W.1, W.2.1, fun k' f' i' hi => ?_⟩
  rw [gR_sR]
  by_cases e : k' = k ∧ f' = f ∧ i' = i
  · rw [if_pos e, e.1, e.2.1]; exact h
  · rw [if_neg e]; exact W.2.2 k' f' i' hi
theorem hp_at {A : Ad} {σ : St} {k i : Nat} (W : WF A σ) (h0 : rk k = true) (hi : i < gL σ k) : hp A σ (A.1 k i) = some (hc A σ k i) := by
  unfold hp; rw [(W.1 k i h0 hi).1]
theorem hc_obj {A : Ad} {σ : St} {k i c : Nat} (h : hC k = c) (h2 : c ≠ 99) : hc A σ k i = .inr (c, hf A σ k i) := by
  unfold hc; rw [if_neg (by rw [h]; exact h2), h]
theorem hc_arr {A : Ad} {σ : St} {k i : Nat} (h : hC k = 99) : hc A σ k i = .inl (hA k, ha A σ k i) := by
  unfold hc; rw [if_pos h]
theorem hf_at {A : Ad} {σ : St} {k i f : Nat} (h : f < hFn (hC k)) : (hf A σ k i)[f]? = some (hv A (hT k f) (gV σ k f i) (gR σ k f i)) := by
  unfold hf; rw [List.getElem?_map, List.getElem?_range h]; rfl
/-- the heap after a change at one role -/
theorem hp_up {A : Ad} {σ σ' : St} {k i : Nat} {e : GE} (W : WF A σ) (h0 : rk k = true) (hi : i < gL σ k) (h1 : hc A σ' k i = e) (h2 : ∀ k' i', ¬ (k' = k ∧ i' = i) → hc A σ' k' i' = hc A σ k' i') : gup (hp A σ) (A.1 k i) e = hp A σ' := by
  funext q
  unfold gup hp
  by_cases hq : q = A.1 k i
  · rw [if_pos hq, hq, (W.1 k i h0 hi).1, ← h1]
  · rw [if_neg hq]
    cases hr : A.2.1 q with
    | none => rfl
    | some r =>
      obtain ⟨k', i'⟩ := r
      show some (hc A σ k' i') = some (hc A σ' k' i')
      rw [h2 k' i' (fun z => hq (by rw [← z.1, ← z.2]; exact (W.2.1 q k' i' hr).1.symm))]
theorem hc_sV_ne {A : Ad} {σ : St} {k f i : Nat} {x : Int32} {k' i' : Nat} (h : ¬ (k' = k ∧ i' = i)) : hc A (sV σ k f i x) k' i' = hc A σ k' i' := by
  have hV : ∀ f', gV (sV σ k f i x) k' f' i' = gV σ k' f' i' := fun f' => by rw [gV_sV, if_neg (fun z => h ⟨z.1, z.2.2⟩)]
  unfold hc hf ha
  simp only [hV, gR_sV, gN_sV, gJ_sV, gD_sV]
theorem hc_sR_ne {A : Ad} {σ : St} {k f i : Nat} {x : Nat} {k' i' : Nat} (h : ¬ (k' = k ∧ i' = i)) : hc A (sR σ k f i x) k' i' = hc A σ k' i' := by
  have hV : ∀ f', gR (sR σ k f i x) k' f' i' = gR σ k' f' i' := fun f' => by rw [gR_sR, if_neg (fun z => h ⟨z.1, z.2.2⟩)]
  unfold hc hf ha
  simp only [hV, gV_sR, gN_sR, gJ_sR, gD_sR]
theorem hf_sV {A : Ad} {σ : St} {k f i : Nat} {x : Int32} : hf A (sV σ k f i x) k i = (hf A σ k i).set f (hv A (hT k f) x (gR σ k f i)) := by
  apply List.ext_getElem?
  intro j
  unfold hf
  rw [List.getElem?_set]
  by_cases hj : j < hFn (hC k)
  · rw [List.getElem?_map, List.getElem?_range hj, List.length_map, List.length_range]
    by_cases e : f = j
    · subst e
      rw [if_pos rfl, if_pos hj]
      show some (hv A (hT k f) (gV (sV σ k f i x) k f i) (gR σ k f i)) = _
      rw [gV_sV, if_pos ⟨rfl, rfl, rfl⟩]
    · rw [if_neg e, List.getElem?_map, List.getElem?_range hj]
      show some (hv A (hT k j) (gV (sV σ k f i x) k j i) (gR σ k j i)) = some (hv A (hT k j) (gV σ k j i) (gR σ k j i))
      rw [gV_sV, if_neg (fun z => e z.2.1.symm)]
  · rw [List.getElem?_eq_none (by simp; omega), List.length_map, List.length_range]
    by_cases e : f = j
    · subst e; rw [if_pos rfl, if_neg hj]
    · rw [if_neg e, List.getElem?_eq_none (by simp; omega)]
theorem hf_sR {A : Ad} {σ : St} {k f i : Nat} {x : Nat} : hf A (sR σ k f i x) k i = (hf A σ k i).set f (hv A (hT k f) (gV σ k f i) x) := by
  apply List.ext_getElem?
  intro j
  unfold hf
  rw [List.getElem?_set]
  by_cases hj : j < hFn (hC k)
  · rw [List.getElem?_map, List.getElem?_range hj, List.length_map, List.length_range]
    by_cases e : f = j
    · subst e
      rw [if_pos rfl, if_pos hj]
      show some (hv A (hT k f) (gV σ k f i) (gR (sR σ k f i x) k f i)) = _
      rw [gR_sR, if_pos ⟨rfl, rfl, rfl⟩]
    · rw [if_neg e, List.getElem?_map, List.getElem?_range hj]
      show some (hv A (hT k j) (gV σ k j i) (gR (sR σ k f i x) k j i)) = some (hv A (hT k j) (gV σ k j i) (gR σ k j i))
      rw [gR_sR, if_neg (fun z => e z.2.1.symm)]
  · rw [List.getElem?_eq_none (by simp; omega), List.length_map, List.length_range]
    by_cases e : f = j
    · subst e; rw [if_pos rfl, if_neg hj]
    · rw [if_neg e, List.getElem?_eq_none (by simp; omega)]
/-! objects -/
def hok (k c f t : Nat) : Bool := rk k && (decide (hC k = c) && decide (c ≠ 99) && decide (f < hFn c) && decide (hT k f = t))
theorem hok_rk {k c f t : Nat} (h : hok k c f t = true) : rk k = true := by
  unfold hok at h
  exact (Bool.and_eq_true_iff.mp h).1
theorem hok_spec {k c f t : Nat} (h : hok k c f t = true) : hC k = c ∧ c ≠ 99 ∧ f < hFn c ∧ hT k f = t := by
  unfold hok at h
  replace h := (Bool.and_eq_true_iff.mp h).2
  simp only [Bool.and_eq_true, decide_eq_true_eq] at h
  exact ⟨h.1.1.1, h.1.1.2, h.1.2, h.2⟩
section HP
variable {A : Ad} {σ : St} {k i c f : Nat}
def hcl (k c : Nat) : Bool := rk k && (decide (hC k = c) && decide (c ≠ 99))
theorem e_Is' {P : Prop} (W : WF A σ) (hi : i < gL σ k) (h : hcl k c = true) : wIs (hp A σ) (some (A.1 k i)) c P = P := by
  unfold hcl at h
  obtain ⟨h0, h⟩ := Bool.and_eq_true_iff.mp h
  simp only [Bool.and_eq_true, decide_eq_true_eq] at h
  exact propext ⟨fun ⟨a, fs, _, _, h⟩ => h, fun h9 => ⟨_, _, rfl, (hp_at W h0 hi).trans (by rw [hc_obj h.1 h.2]), h9⟩⟩
theorem e_Is {P : Prop} (W : WF A σ) (hi : i < gL σ k) (h : hok k c 0 (hT k 0) = true) : wIs (hp A σ) (some (A.1 k i)) c P = P := by
  obtain ⟨h1, h2, -, -⟩ := hok_spec h
  have h0 := hok_rk h
  exact propext ⟨fun ⟨a, fs, _, _, h⟩ => h, fun h => ⟨_, _, rfl, (hp_at W h0 hi).trans (by rw [hc_obj h1 h2]), h⟩⟩
theorem e_Get {K : Value → Prop} {t : Nat} (W : WF A σ) (hi : i < gL σ k) (h : hok k c f t = true) : wGet (hp A σ) (some (A.1 k i)) c f K = K (hv A t (gV σ k f i) (gR σ k f i)) := by
  obtain ⟨h1, h2, h3, h4⟩ := hok_spec h
  have e : hp A σ (A.1 k i) = some (.inr (c, hf A σ k i)) := (hp_at W (hok_rk h) hi).trans (by rw [hc_obj h1 h2])
  have e2 : (hf A σ k i)[f]? = some (hv A t (gV σ k f i) (gR σ k f i)) := by rw [hf_at (by rw [h1]; exact h3), h4]
  refine propext ⟨?_, fun h => ⟨_, _, _, rfl, e, e2, h⟩⟩
  rintro ⟨a, fs, v, ha, h5, h6, h7⟩
  cases ha
  cases e.symm.trans h5
  cases e2.symm.trans h6
  exact h7
theorem e_GetI {K : Int32 → Prop} (W : WF A σ) (hi : i < gL σ k) (h : hok k c f 0 = true) : wGetI (hp A σ) (some (A.1 k i)) c f K = K (gV σ k f i) := by
  unfold wGetI
  rw [e_Get W hi h]
  exact propext ⟨fun ⟨x, h1, h2⟩ => by cases h1; exact h2, fun h => ⟨_, rfl, h⟩⟩
theorem e_GetF {K : UInt32 → Prop} (W : WF A σ) (hi : i < gL σ k) (h : hok k c f 1 = true) : wGetF (hp A σ) (some (A.1 k i)) c f K = K (gV σ k f i).toUInt32 := by
  unfold wGetF
  rw [e_Get W hi h]
  exact propext ⟨fun ⟨x, h1, h2⟩ => by cases h1; exact h2, fun h => ⟨_, rfl, h⟩⟩
theorem va_rf_inj {r r' : Option Nat} (h : va_rf r = va_rf r') : r = r' := by
  cases r <;> cases r' <;> first | rfl | (cases h; done) | (cases h; rfl)
theorem hv_Z {t : Nat} {x : Int32} {r : Nat} : hv A (t + 1000) x r = va_rf (hrz A t r) := by
  unfold hv; rw [if_neg (by omega), if_neg (by omega), if_neg (by omega), Nat.add_sub_cancel]
theorem e_GetR {K : Option Nat → Prop} (t : Nat) (W : WF A σ) (hi : i < gL σ k) (h : hok k c f (t + 2) = true) (ht : t < 998) : wGetR (hp A σ) (some (A.1 k i)) c f K = K (hr A t (gR σ k f i)) := by
  unfold wGetR
  rw [e_Get W hi h]
  have e : hv A (t + 2) (gV σ k f i) (gR σ k f i) = va_rf (hr A t (gR σ k f i)) := by
    unfold hv; rw [if_neg (by omega), if_neg (by omega), if_pos (by omega)]; rfl
  rw [e]
  exact propext ⟨fun ⟨x, h1, h2⟩ => by rw [va_rf_inj h1]; exact h2, fun h => ⟨_, rfl, h⟩⟩
theorem e_GetZ {K : Option Nat → Prop} (t : Nat) (W : WF A σ) (hi : i < gL σ k) (h : hok k c f (t + 1000) = true) : wGetR (hp A σ) (some (A.1 k i)) c f K = K (hrz A t (gR σ k f i)) := by
  unfold wGetR
  rw [e_Get W hi h]
  have e : hv A (t + 1000) (gV σ k f i) (gR σ k f i) = va_rf (hrz A t (gR σ k f i)) := by
    exact hv_Z
  rw [e]
  exact propext ⟨fun ⟨x, h1, h2⟩ => by rw [va_rf_inj h1]; exact h2, fun h => ⟨_, rfl, h⟩⟩
theorem e_Put {K : GM → Prop} {v : Value} {σ' : St} {t : Nat} (W : WF A σ) (hi : i < gL σ k) (h : hok k c f t = true) (h1 : hf A σ' k i = (hf A σ k i).set f v) (h2 : ∀ k' i', ¬ (k' = k ∧ i' = i) → hc A σ' k' i' = hc A σ k' i') : wPut (hp A σ) (some (A.1 k i)) c f v K = K (hp A σ') := by
  obtain ⟨g1, g2, g3, g4⟩ := hok_spec h
  have e : hp A σ (A.1 k i) = some (.inr (c, hf A σ k i)) := (hp_at W (hok_rk h) hi).trans (by rw [hc_obj g1 g2])
  have hl : f < (hf A σ k i).length := by unfold hf; rw [List.length_map, List.length_range, g1]; exact g3
  have e2 : gup (hp A σ) (A.1 k i) (.inr (c, (hf A σ k i).set f v)) = hp A σ' := hp_up W (hok_rk h) hi (by rw [hc_obj g1 g2, h1]) h2
  refine propext ⟨?_, fun h => ⟨_, _, rfl, e, hl, by rw [e2]; exact h⟩⟩
  rintro ⟨a, fs, ha, h5, -, h7⟩
  cases ha
  cases e.symm.trans h5
  rwa [e2] at h7
theorem e_PutI {K : GM → Prop} {x : Int32} (W : WF A σ) (hi : i < gL σ k) (h : hok k c f 0 = true) : wPut (hp A σ) (some (A.1 k i)) c f (.int x) K = K (hp A (sV σ k f i x)) := by
  refine e_Put W hi h ?_ (fun k' i' => hc_sV_ne)
  rw [hf_sV, (hok_spec h).2.2.2]; rfl
theorem e_PutF {K : GM → Prop} {x : UInt32} (W : WF A σ) (hi : i < gL σ k) (h : hok k c f 1 = true) : wPut (hp A σ) (some (A.1 k i)) c f (.float x) K = K (hp A (sV σ k f i x.toInt32)) := by
  refine e_Put W hi h ?_ (fun k' i' => hc_sV_ne)
  rw [hf_sV, (hok_spec h).2.2.2]; rfl
theorem e_PutR {K : GM → Prop} {t j : Nat} (W : WF A σ) (hi : i < gL σ k) (h : hok k c f (t + 2) = true) (ht : t < 998) : wPut (hp A σ) (some (A.1 k i)) c f (va_rf (some (A.1 t j))) K = K (hp A (sR σ k f i (j + 1))) := by
  refine e_Put W hi h ?_ (fun k' i' => hc_sR_ne)
  rw [hf_sR, (hok_spec h).2.2.2]
  unfold hv
  rw [if_neg (by omega), if_neg (by omega), if_pos (by omega)]; rfl
theorem e_Put0 {K : GM → Prop} (t : Nat) (W : WF A σ) (hi : i < gL σ k) (h : hok k c f (t + 2) = true) (ht : t < 998) : wPut (hp A σ) (some (A.1 k i)) c f (va_rf none) K = K (hp A (sR σ k f i 0)) := by
  refine e_Put W hi h ?_ (fun k' i' => hc_sR_ne)
  rw [hf_sR, (hok_spec h).2.2.2]
  unfold hv
  rw [if_neg (by omega), if_neg (by omega), if_pos (by omega)]; rfl
theorem e_PutZ {K : GM → Prop} {t j : Nat} (W : WF A σ) (hi : i < gL σ k) (h : hok k c f (t + 1000) = true) : wPut (hp A σ) (some (A.1 k i)) c f (va_rf (some (A.1 t j))) K = K (hp A (sR σ k f i (j + 2))) := by
  refine e_Put W hi h ?_ (fun k' i' => hc_sR_ne)
  rw [hf_sR, (hok_spec h).2.2.2]
  rw [hv_Z]; rfl
theorem e_PutE {K : GM → Prop} (t : Nat) (W : WF A σ) (hi : i < gL σ k) (h : hok k c f (t + 1000) = true) : wPut (hp A σ) (some (A.1 k i)) c f (va_rf (some A.2.2.2.2)) K = K (hp A (sR σ k f i 1)) := by
  refine e_Put W hi h ?_ (fun k' i' => hc_sR_ne)
  rw [hf_sR, (hok_spec h).2.2.2]
  rw [hv_Z]; rfl
/-! arrays -/
def hak (k a : Nat) : Bool := rk k && (decide (hC k = 99) && decide (hA k = a))
theorem hak_rk {k a : Nat} (h : hak k a = true) : rk k = true := by
  unfold hak at h
  exact (Bool.and_eq_true_iff.mp h).1
theorem hak_spec {k a : Nat} (h : hak k a = true) : hC k = 99 ∧ hA k = a := by
  unfold hak at h
  replace h := (Bool.and_eq_true_iff.mp h).2
  simp only [Bool.and_eq_true, decide_eq_true_eq] at h
  exact h
theorem hp_arr {a : Nat} (W : WF A σ) (hi : i < gL σ k) (h : hak k a = true) : hp A σ (A.1 k i) = some (.inl (a, ha A σ k i)) := by
  obtain ⟨h1, h2⟩ := hak_spec h
  rw [hp_at W (hak_rk h) hi, hc_arr h1, h2]
theorem ha_I {a : Nat} (h : hak k a = true) (h4 : a < 4) : ha A σ k i = (gN σ k i, .inl (fun j => gV σ k j i)) := by
  unfold ha; rw [(hak_spec h).2, if_pos h4]
theorem ha_Q {a : Nat} (h : hak k a = true) (h4 : ¬ a < 4) (h7 : a < 7) : ha A σ k i = (gN σ k i, .inr (.inr (.inr (.inr (fun j => hr A (hE k) (gR σ k j i)))))) := by
  unfold ha; rw [(hak_spec h).2, if_neg h4, if_pos h7]
theorem e_Ald {a : Nat} {x : Int32} {K : Int32 → Prop} (W : WF A σ) (hi : i < gL σ k) (h : hak k a = true) (h4 : a < 4) : wAld (hp A σ) (some (A.1 k i)) x a K = (vp_in x (gN σ k i) ∧ K (gV σ k x.toNatClampNeg i)) := by
  have e := (hp_arr W hi h).trans (by rw [ha_I h h4])
  refine propext ⟨?_, fun z => ⟨_, _, _, rfl, e, z.1, z.2⟩⟩
  rintro ⟨b, n, f, h1, h2, h3, h5⟩
  cases h1
  cases e.symm.trans h2
  exact ⟨h3, h5⟩
theorem e_Ast {a : Nat} {x y : Int32} {K : GM → Prop} (W : WF A σ) (hi : i < gL σ k) (h : hak k a = true) (h4 : a < 4) : wAst (hp A σ) (some (A.1 k i)) x a y K = (vp_in x (gN σ k i) ∧ K (hp A (sV σ k x.toNatClampNeg i y))) := by
  have e := (hp_arr W hi h).trans (by rw [ha_I h h4])
  have e2 : gup (hp A σ) (A.1 k i) (.inl (a, gN σ k i, .inl (upd (fun j => gV σ k j i) x.toNatClampNeg y))) = hp A (sV σ k x.toNatClampNeg i y) := by
    refine hp_up W (hak_rk h) hi ?_ (fun k' i' => hc_sV_ne)
    rw [hc_arr (hak_spec h).1, ha_I h h4, (hak_spec h).2, gN_sV]
    have : (fun j => gV (sV σ k x.toNatClampNeg i y) k j i) = upd (fun j => gV σ k j i) x.toNatClampNeg y := by
      funext j; rw [gV_sV, upd]; simp
    rw [this]
  refine propext ⟨?_, fun z => ⟨_, _, _, rfl, e, z.1, by rw [e2]; exact z.2⟩⟩
  rintro ⟨b, n, f, h1, h2, h3, h5⟩
  cases h1
  cases e.symm.trans h2
  rw [e2] at h5
  exact ⟨h3, h5⟩
theorem e_Aldq {a : Nat} {x : Int32} {K : Option Nat → Prop} (W : WF A σ) (hi : i < gL σ k) (h : hak k a = true) (h4 : ¬ a < 4) (h7 : a < 7) : wAldq (hp A σ) (some (A.1 k i)) x a K = (vp_in x (gN σ k i) ∧ K (hr A (hE k) (gR σ k x.toNatClampNeg i))) := by
  have e := (hp_arr W hi h).trans (by rw [ha_Q h h4 h7])
  refine propext ⟨?_, fun z => ⟨_, _, _, rfl, e, z.1, z.2⟩⟩
  rintro ⟨b, n, f, h1, h2, h3, h5⟩
  cases h1
  cases e.symm.trans h2
  exact ⟨h3, h5⟩
theorem e_Astq {x : Int32} {K : GM → Prop} {t j c' : Nat} (W : WF A σ) (hi : i < gL σ k) (h : hak k 4 = true) (hj : j < gL σ t) (ht : hE k = t) (hc' : hok t c' 0 (hT t 0) = true) (h11 : c' < 11) : wAstq (hp A σ) (some (A.1 k i)) x (some (A.1 t j)) K = (vp_in x (gN σ k i) ∧ K (hp A (sR σ k x.toNatClampNeg i (j + 1)))) := by
  have e := (hp_arr W hi h).trans (by rw [ha_Q h (by omega) (by omega)])
  obtain ⟨g1, g2, -, -⟩ := hok_spec hc'
  have e3 : hp A σ (A.1 t j) = some (.inr (c', hf A σ t j)) := (hp_at W (hok_rk hc') hj).trans (by rw [hc_obj g1 g2])
  have e2 : gup (hp A σ) (A.1 k i) (.inl (4, gN σ k i, .inr (.inr (.inr (.inr (va_up (fun j => hr A (hE k) (gR σ k j i)) x.toNatClampNeg (some (A.1 t j)))))))) = hp A (sR σ k x.toNatClampNeg i (j + 1)) := by
    refine hp_up W (hak_rk h) hi ?_ (fun k' i' => hc_sR_ne)
    rw [hc_arr (hak_spec h).1, ha_Q h (by omega) (by omega), (hak_spec h).2, gN_sR]
    have : (fun j' => hr A (hE k) (gR (sR σ k x.toNatClampNeg i (j + 1)) k j' i)) = va_up (fun j => hr A (hE k) (gR σ k j i)) x.toNatClampNeg (some (A.1 t j)) := by
      funext j'; rw [gR_sR, va_up]
      by_cases z : j' = x.toNatClampNeg
      · rw [if_pos z, if_pos ⟨rfl, z, rfl⟩, ht]; rfl
      · rw [if_neg z, if_neg (fun y => z y.2.1)]
    rw [this]
  refine propext ⟨?_, fun z => ⟨_, _, _, _, _, _, rfl, e, rfl, e3, h11, z.1, by rw [e2]; exact z.2⟩⟩
  rintro ⟨b, n, y, ci, fs, f, h1, h2, h3, h4, h5, h6, h7⟩
  cases h1
  cases e.symm.trans h2
  cases h3
  rw [e2] at h7
  exact ⟨h6, h7⟩
theorem vp_in0 {n : Nat} : vp_in 0 n ↔ 0 < n := by
  constructor
  · exact fun h => Nat.not_le.mp fun w => h (Or.inr w)
  · intro h w
    rcases w with w | w
    · exact absurd w (by decide)
    · exact absurd h (Nat.not_lt.mpr w)
/-- addresses of constants lie ahead of all roles -/
def hX (X : Cx) (A : Ad) : Prop := A.2.2.2.1 = X.2.2.1 ∧ A.2.2.2.2 = X.2.2.2 200 ∧ X.2.2.2 200 < X.2.2.1 ∧ ∀ j : Nat, j < gLen.length → X.2.2.2 (100 + j) < X.2.2.1
theorem e_Len {a : Nat} {X : Cx} {K : Int32 → Prop} (hx : hX X A) (W : WF A σ) (hi : i < gL σ k) (h : hak k a = true) (h9 : a < 9) : wLen X (hp A σ) (some (A.1 k i)) K = K (nI (gN σ k i)) := by
  have e := hp_arr W hi h
  have hb : X.2.2.1 ≤ A.1 k i := by rw [← hx.1]; exact (W.1 k i (hak_rk h) hi).2
  refine propext ⟨?_, fun z => Or.inl ⟨_, _, _, rfl, e, h9, z⟩⟩
  rintro (⟨b, kd, x, h1, h2, h3, h4⟩ | ⟨h1, -⟩ | ⟨j, h0, h1, -⟩)
  · cases h1
    cases e.symm.trans h2
    exact h4
  · have := hx.2.2.1
    have h2 : A.1 k i = X.2.2.2 200 := Option.some.inj h1
    omega
  · have := hx.2.2.2 j h0
    have h2 : A.1 k i = X.2.2.2 (100 + j) := Option.some.inj h1
    omega
/-! new roles -/
def hz (k : Nat) : List Value := (List.range (hFn (hC k))).map (fun f => if hT k f = 0 then .int 0 else if hT k f = 1 then .float 0 else .null)
def Nx (A A' : Ad) (σ : St) : Prop := (∀ k i, i < gL σ k → A'.1 k i = A.1 k i) ∧ A'.2.2.2 = A.2.2.2
def Aw (A : Ad) (σ : St) (k q : Nat) : Ad := (fun k' i' => if k' = k ∧ i' = gL σ k then q else A.1 k' i', fun q' => if q' = q then some (k, gL σ k) else A.2.1 q', A.2.2)
theorem hp_none {q : Nat} (h : hp A σ q = none) : A.2.1 q = none := by
  unfold hp at h
  cases hr : A.2.1 q with
  | none => rfl
  | some r => rw [hr] at h; cases h
theorem Aw_Nx {q : Nat} : Nx A (Aw A σ k q) σ := ⟨fun k' i' hi => if_neg (fun z => by rw [z.1, z.2] at hi; exact Nat.lt_irrefl _ hi), rfl⟩
theorem WF_Aw {q n : Nat} (h0 : rk k = true) (W : WF A σ) (hq : A.2.1 q = none) (hb : A.2.2.2.1 ≤ q) : WF (Aw A σ k q) (sW σ k n) := by
  have hne : ∀ k' i', i' < gL σ k' → ¬ (k' = k ∧ i' = gL σ k) := fun k' i' hi z => by rw [z.1, z.2] at hi; exact Nat.lt_irrefl _ hi
  refine ⟨fun k' i' hr' hi => ?_, fun q' k' i' h => ?_, fun k' f i' hi => ?_⟩
  · by_cases e : k' = k ∧ i' = gL σ k
    · obtain ⟨rfl, rfl⟩ := e
      refine ⟨?_, ?_⟩
      · show (if (Aw A σ k' q).1 k' (gL σ k') = q then _ else _) = _
        rw [show (Aw A σ k' q).1 k' (gL σ k') = q from if_pos ⟨rfl, rfl⟩, if_pos rfl]
      · show A.2.2.2.1 ≤ (Aw A σ k' q).1 k' (gL σ k')
        rw [show (Aw A σ k' q).1 k' (gL σ k') = q from if_pos ⟨rfl, rfl⟩]
        exact hb
    · have hi2 : i' < gL σ k' := by
        rw [gL_sW] at hi
        by_cases e1 : k' = k
        · subst e1
          rw [if_pos rfl] at hi
          have : i' ≠ gL σ k' := fun z => e ⟨rfl, z⟩
          omega
        · rwa [if_neg e1] at hi
      have h1 := W.1 k' i' hr' hi2
      have ha : (Aw A σ k q).1 k' i' = A.1 k' i' := if_neg e
      refine ⟨?_, ?_⟩
      · rw [ha]
        show (if A.1 k' i' = q then _ else _) = _
        rw [if_neg (fun z => by rw [z, hq] at h1; cases h1.1)]
        exact h1.1
      · rw [ha]; exact h1.2
  · have h' : (if q' = q then some (k, gL σ k) else A.2.1 q') = some (k', i') := h
    by_cases e : q' = q
    · rw [if_pos e] at h'
      cases h'
      refine ⟨?_, ?_, h0⟩
      · rw [e]; exact if_pos ⟨rfl, rfl⟩
      · rw [gL_sW, if_pos rfl]; omega
    · rw [if_neg e] at h'
      obtain ⟨h1, h2, h9⟩ := W.2.1 q' k' i' h'
      refine ⟨?_, ?_, h9⟩
      · rw [show (Aw A σ k q).1 k' i' = A.1 k' i' from if_neg (hne k' i' h2)]; exact h1
      · rw [gL_sW]
        by_cases e1 : k' = k
        · rw [if_pos e1, ← e1]; omega
        · rw [if_neg e1]; exact h2
  · rw [gR_sW]
    by_cases e : k' = k ∧ i' = gL σ k
    · rw [if_pos e]; omega
    · rw [if_neg e]
      have hi2 : i' < gL σ k' := by
        rw [gL_sW] at hi
        by_cases e1 : k' = k
        · subst e1
          rw [if_pos rfl] at hi
          have : i' ≠ gL σ k' := fun z => e ⟨rfl, z⟩
          omega
        · rwa [if_neg e1] at hi
      have h1 := W.2.2 k' f i' hi2
      rw [gL_sW]
      by_cases e1 : hG k' f = k
      · rw [if_pos e1, ← e1]; omega
      · rw [if_neg e1]; exact h1
theorem hr_Nx {A' : Ad} (h : Nx A A' σ) {t r : Nat} (hr' : r ≤ gL σ t) : hr A' t r = hr A t r := by
  cases r with
  | zero => rfl
  | succ j => exact congrArg some (h.1 t j (by omega))
theorem hrz_Nx {A' : Ad} (h : Nx A A' σ) {t r : Nat} (hr' : r ≤ gL σ t + 1) : hrz A' t r = hrz A t r := by
  match r with
  | 0 => rfl
  | 1 => exact congrArg (fun z : Nat × Nat => some z.2) h.2
  | j + 2 => exact congrArg some (h.1 t j (by omega))
/-- what a live role holds doesn't change with new roles -/
theorem hc_Nx {A' : Ad} {n : Nat} (W : WF A σ) (h : Nx A A' σ) {k' i' : Nat} (hi : i' < gL σ k') : hc A' (sW σ k n) k' i' = hc A σ k' i' := by
  have hne : ¬ (k' = k ∧ i' = gL σ k) := fun z => by rw [z.1, z.2] at hi; exact Nat.lt_irrefl _ hi
  have eV : ∀ f, gV (sW σ k n) k' f i' = gV σ k' f i' := fun f => by rw [gV_sW, if_neg hne]
  have eR : ∀ f, gR (sW σ k n) k' f i' = gR σ k' f i' := fun f => by rw [gR_sW, if_neg hne]
  have eN : gN (sW σ k n) k' i' = gN σ k' i' := by rw [gN_sW, if_neg hne]
  unfold hc
  by_cases h1 : hC k' = 99
  · rw [if_pos h1, if_pos h1]
    unfold ha
    rw [eN, gJ_sW, gD_sW]
    simp only [eV, eR]
    have : (fun j => hr A' (hE k') (gR σ k' j i')) = (fun j => hr A (hE k') (gR σ k' j i')) := by
      funext j
      refine hr_Nx h ?_
      have := W.2.2 k' j i' hi
      unfold hG hS at this
      rwa [if_pos h1, if_pos h1] at this
    rw [this]
  · rw [if_neg h1, if_neg h1]
    unfold hf
    have : (List.range (hFn (hC k'))).map (fun f => hv A' (hT k' f) (gV (sW σ k n) k' f i') (gR (sW σ k n) k' f i')) = (List.range (hFn (hC k'))).map (fun f => hv A (hT k' f) (gV σ k' f i') (gR σ k' f i')) := by
      refine List.map_congr_left (fun f _ => ?_)
      rw [eV, eR]
      have hw := W.2.2 k' f i' hi
      unfold hG hS at hw
      rw [if_neg h1, if_neg h1] at hw
      unfold hv
      by_cases t0 : hT k' f = 0
      · rw [if_pos t0, if_pos t0]
      · rw [if_neg t0, if_neg t0]
        by_cases t1 : hT k' f = 1
        · rw [if_pos t1, if_pos t1]
        · rw [if_neg t1, if_neg t1]
          by_cases t2 : hT k' f < 1000
          · rw [if_pos t2, if_pos t2] at hw
            rw [if_pos t2, if_pos t2, hr_Nx h hw]
          · rw [if_neg t2, if_neg t2] at hw
            rw [if_neg t2, if_neg t2, hrz_Nx h hw]
    rw [this]
theorem hp_Aw {q n : Nat} {e : GE} (W : WF A σ) (hq : A.2.1 q = none) (he : hc (Aw A σ k q) (sW σ k n) k (gL σ k) = e) : gup (hp A σ) q e = hp (Aw A σ k q) (sW σ k n) := by
  funext b
  unfold gup hp
  by_cases e1 : b = q
  · rw [if_pos e1, show (Aw A σ k q).2.1 b = some (k, gL σ k) from if_pos e1, ← he]
  · rw [if_neg e1, show (Aw A σ k q).2.1 b = A.2.1 b from if_neg e1]
    cases hr : A.2.1 b with
    | none => rfl
    | some r =>
      obtain ⟨k', i'⟩ := r
      show some (hc A σ k' i') = some (hc (Aw A σ k q) (sW σ k n) k' i')
      rw [hc_Nx W Aw_Nx (W.2.1 b k' i' hr).2.1]
theorem hc_new_obj {q c : Nat} (h : hC k = c) (h2 : c ≠ 99) : hc (Aw A σ k q) (sW σ k 0) k (gL σ k) = .inr (c, hz k) := by
  rw [hc_obj h h2]
  unfold hf hz
  congr 2
  refine List.map_congr_left (fun f _ => ?_)
  rw [gV_sW, gR_sW, if_pos ⟨rfl, rfl⟩, if_pos ⟨rfl, rfl⟩]
  unfold hv
  by_cases t0 : hT k f = 0
  · rw [if_pos t0, if_pos t0]
  · rw [if_neg t0, if_neg t0]
    by_cases t1 : hT k f = 1
    · rw [if_pos t1, if_pos t1]; rfl
    · rw [if_neg t1, if_neg t1]
      by_cases t2 : hT k f < 1000
      · rw [if_pos t2]; rfl
      · rw [if_neg t2]; rfl
/-- a new object -/
theorem e_New {X : Cx} {c : Nat} {fs : List Value} {K : Nat → GM → Prop} (k : Nat) (hx : hX X A) (W : WF A σ) (h : hok k c 0 (hT k 0) = true) (hfs : hz k = fs) (kk : ∀ A' : Ad, WF A' (sW σ k 0) → hX X A' → Nx A A' σ → K (A'.1 k (gL σ k)) (hp A' (sW σ k 0))) : wNew X (hp A σ) (.inr (c, fs)) K := by
  intro q hq hb
  obtain ⟨h1, h2, -, -⟩ := hok_spec h
  have hq' := hp_none hq
  rw [hp_Aw W hq' ((hc_new_obj h1 h2).trans (by rw [hfs]))]
  have := kk (Aw A σ k q) (WF_Aw (hok_rk h) W hq' (by rw [hx.1]; exact hb)) hx Aw_Nx
  rwa [show (Aw A σ k q).1 k (gL σ k) = q from if_pos ⟨rfl, rfl⟩] at this
/-- a new array of ints (chars, bytes, booleans) -/
theorem e_NewA {X : Cx} {a n : Nat} {K : Nat → GM → Prop} (k : Nat) (hx : hX X A) (W : WF A σ) (h : hak k a = true) (h4 : a < 4) (kk : ∀ A' : Ad, WF A' (sW σ k n) → hX X A' → Nx A A' σ → K (A'.1 k (gL σ k)) (hp A' (sW σ k n))) : wNew X (hp A σ) (.inl (a, n, .inl (fun _ => 0))) K := by
  intro q hq hb
  have hq' := hp_none hq
  have he : hc (Aw A σ k q) (sW σ k n) k (gL σ k) = .inl (a, n, .inl (fun _ => 0)) := by
    rw [hc_arr (hak_spec h).1, ha_I h h4, (hak_spec h).2, gN_sW, if_pos ⟨rfl, rfl⟩]
    simp only [gV_sW, and_self, if_true]
  rw [hp_Aw W hq' he]
  have := kk (Aw A σ k q) (WF_Aw (hak_rk h) W hq' (by rw [hx.1]; exact hb)) hx Aw_Nx
  rwa [show (Aw A σ k q).1 k (gL σ k) = q from if_pos ⟨rfl, rfl⟩] at this
/-- a new array of references -/
theorem e_NewQ {X : Cx} {n : Nat} {K : Nat → GM → Prop} (k : Nat) (hx : hX X A) (W : WF A σ) (h : hak k 4 = true) (kk : ∀ A' : Ad, WF A' (sW σ k n) → hX X A' → Nx A A' σ → K (A'.1 k (gL σ k)) (hp A' (sW σ k n))) : wNew X (hp A σ) (.inl (4, n, .inr (.inr (.inr (.inr (fun _ => none)))))) K := by
  intro q hq hb
  have hq' := hp_none hq
  have he : hc (Aw A σ k q) (sW σ k n) k (gL σ k) = .inl (4, n, .inr (.inr (.inr (.inr (fun _ => none))))) := by
    rw [hc_arr (hak_spec h).1, ha_Q h (by omega) (by omega), (hak_spec h).2, gN_sW, if_pos ⟨rfl, rfl⟩]
    simp only [gR_sW, and_self, if_true]
    rfl
  rw [hp_Aw W hq' he]
  have := kk (Aw A σ k q) (WF_Aw (hak_rk h) W hq' (by rw [hx.1]; exact hb)) hx Aw_Nx
  rwa [show (Aw A σ k q).1 k (gL σ k) = q from if_pos ⟨rfl, rfl⟩] at this
end HP
/-- a ghost column may be set at will -/
theorem hp_gV {A : Ad} {σ : St} {k f i : Nat} {x : Int32} (W : WF A σ) (h : rk k = false) : hp A (sV σ k f i x) = hp A σ := by
  funext q
  unfold hp
  cases hr : A.2.1 q with
  | none => rfl
  | some r =>
    obtain ⟨k', i'⟩ := r
    have h9 := (W.2.1 q k' i' hr).2.2
    have hne : ¬ (k' = k ∧ i' = i) := fun z => by rw [z.1, h] at h9; cases h9
    show some (hc A (sV σ k f i x) k' i') = some (hc A σ k' i')
    rw [hc_sV_ne hne]
