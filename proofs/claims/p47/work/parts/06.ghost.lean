/-! THE GHOST HEAP: a map from addresses to what the cells hold; rows over it -/
abbrev GE : Type := (Nat × vp_A) ⊕ (Nat × List Value)
abbrev GM : Type := Nat → Option GE
/-- the classes whose objects the map holds -/
abbrev gCl : List vw_C := [(RX0, TX0, 2), (RX1, TX1, 16), (RX2, TX2, 6), (RX3, TX3, 3), (RX4, TX4, 4), (RX5, TX5, 3), (RX6, TX6, 2), (RX7, TX7, 13), (RX7, TX7, 13), (RJ4, TJ4, 4), (RJx4a65c, TJx4a65c, 3)]
/-- kinds of arrays: 0 int, 1 char, 2 byte, 4 Object; 3, 5 to 8 are not used here -/
abbrev gTys (dA : Nat → ClassId) : List (ClassId × FieldType) := [(dA 0, .int), (dA 1, .char), (dA 2, .byte), (dA 3, .int), (dA 4, .object "java/lang/Object"), (dA 5, .int), (dA 6, .int), (dA 7, .int), (dA 8, .int)]
/-- words on private methods of AbstractStringBuilder, selected in a StringBuilder: no row of the tables, but they follow -/
def gExY : List MethodName := [⟨"java/lang/AbstractStringBuilder", "newCapacity", "(I)I"⟩, ⟨"java/lang/AbstractStringBuilder", "ensureCapacityInternal", "(I)V"⟩, ⟨"java/lang/AbstractStringBuilder", "inflateIfNeededFor", "(Ljava/lang/String;)V"⟩, ⟨"java/lang/AbstractStringBuilder", "putStringAt", "(ILjava/lang/String;)V"⟩]
def gExtra : List Cond := gExY.map (fun y => Cond.selects "java/lang/StringBuilder" y y)
/-- the words that all methods share -/
def TBL : List Cond := (lw_tbl ++ gExtra).filter goodWord
theorem TBL_mem {w : Cond} (i : Nat) (h : lw_tbl[i]? = some w) (g : goodWord w = true) : w ∈ TBL := List.mem_filter.mpr ⟨List.mem_append_left _ (List.mem_of_getElem? h), g⟩
theorem TBL_ex {w : Cond} (i : Nat) (h : gExtra[i]? = some w) (g : goodWord w = true) : w ∈ TBL := List.mem_filter.mpr ⟨List.mem_append_right _ (List.mem_of_getElem? h), g⟩
theorem TBL_of {w : Cond} (h : w ∈ lw_tbl) (g : goodWord w = true) : w ∈ TBL := List.mem_filter.mpr ⟨List.mem_append_left _ h, g⟩
theorem gx_sel {C : String} {y z : MethodName} {s : State} {args : Array Value} (hy : y.cls ≠ "java/lang/invoke/MethodHandle" ∧ y.cls ≠ "java/lang/invoke/VarHandle") (hz : (Cond.selects C z z).before args s = true) (hzy : z.cls = y.cls) (hpriv : (Cond.privateMethod y).before args s = true) (hinst : (Cond.instanceMethod y).before args s = true) : (Cond.selects C y y).before args s = true := by
  obtain ⟨mk, methM, hnamed, hmethM, -, -⟩ := Cond.instanceMethod_spec hinst
  have hfound : s.methodFound? y.cls y.name y.desc = some mk := State.methodFound?_of_named hnamed hy
  obtain ⟨c, r, mz, e1, e2, e3, e4, mk', e5, e6⟩ := Cond.selects_spec hz
  have hcls : mz.cls = mk.cls := by
    have h1 := findClass_of_methodNamed e3
    have h2 := findClass_of_methodNamed hnamed
    rw [hzy] at h1
    exact Option.some.inj (h1.symm.trans h2)
  have hsel : selectMethod {} s.vm c mk = .method mk := selectMethod_private hmethM (Cond.privateMethod_at hpriv mk methM hnamed hmethM)
  rw [hcls] at e5
  simp [Cond.before, Cond.holds, Cond.value, e1, hfound, hnamed, hsel, e5, e6]
theorem TBL_good {w : Cond} (h : w ∈ TBL) : goodWord w = true := (List.mem_filter.mp h).2
theorem TBL_in {ws : List Cond} (h : ∀ w ∈ ws, w ∈ TBL) : GoodIn TBL ws := fun w hw => ⟨h w hw, good_of_word (TBL_good (h w hw))⟩
/-- locals by their places -/
abbrev GL : Type := List (Option Value)
def gl (ls : Array Slot) (n : Nat) (L : GL) : Prop := ls.size = n ∧ lv_wf ls ∧ ∀ (i : Nat) (v : Value), L[i]? = some (some v) → ls[i]? = some (.val v)
def gll : Nat → GL → List (Nat × Value)
  | _, [] => []
  | k, none :: t => gll (k + 1) t
  | k, some v :: t => (k, v) :: gll (k + 1) t
theorem gll_mem : ∀ (L : GL) (k : Nat) (q : Nat × Value), q ∈ gll k L ↔ k ≤ q.1 ∧ L[q.1 - k]? = some (some q.2)
  | [], k, q => by simp [gll]
  | none :: t, k, q => by
    rw [gll, gll_mem t (k + 1) q]
    constructor
    · rintro ⟨h1, h2⟩
      refine ⟨by omega, ?_⟩
      rw [show q.1 - k = (q.1 - (k + 1)) + 1 by omega, List.getElem?_cons_succ]
      exact h2
    · rintro ⟨h1, h2⟩
      rcases Nat.eq_or_lt_of_le h1 with e | e
      · rw [← e, Nat.sub_self, List.getElem?_cons_zero] at h2
        cases h2
      · refine ⟨e, ?_⟩
        rw [show q.1 - k = (q.1 - (k + 1)) + 1 by omega, List.getElem?_cons_succ] at h2
        exact h2
  | some v :: t, k, q => by
    rw [gll, List.mem_cons, gll_mem t (k + 1) q]
    constructor
    · rintro (h | ⟨h1, h2⟩)
      · subst h
        exact ⟨Nat.le_refl _, by simp⟩
      · refine ⟨by omega, ?_⟩
        rw [show q.1 - k = (q.1 - (k + 1)) + 1 by omega, List.getElem?_cons_succ]
        exact h2
    · rintro ⟨h1, h2⟩
      rcases Nat.eq_or_lt_of_le h1 with e | e
      · rw [← e, Nat.sub_self, List.getElem?_cons_zero] at h2
        cases h2
        exact Or.inl (by rw [e])
      · refine Or.inr ⟨e, ?_⟩
        rw [show q.1 - k = (q.1 - (k + 1)) + 1 by omega, List.getElem?_cons_succ] at h2
        exact h2
theorem gl.has {ls : Array Slot} {n : Nat} {L : GL} (h : gl ls n L) : lv_has ls n (gll 0 L) :=
  ⟨h.1, h.2.1, fun q hq => h.2.2 q.1 q.2 (by have := (gll_mem L 0 q).mp hq; simpa using this.2)⟩
theorem gl.of {ls : Array Slot} {n : Nat} {l : List (Nat × Value)} (h : lv_has ls n l) {L : GL} (hL : ∀ (i : Nat) (v : Value), L[i]? = some (some v) → (i, v) ∈ l) : gl ls n L :=
  ⟨h.1, h.2.1, fun i v hi => h.2.2 (i, v) (hL i v hi)⟩
theorem gl.at {ls : Array Slot} {n : Nat} {L : GL} (h : gl ls n L) {i : Nat} {v : Value} (hi : L[i]? = some (some v)) : ls[i]? = some (.val v) := h.2.2 i v hi
/-- fewer locals -/
theorem gl.sub {ls : Array Slot} {n : Nat} {L L' : GL} (h : gl ls n L) (hL : ∀ (i : Nat) (v : Value), L'[i]? = some (some v) → L[i]? = some (some v)) : gl ls n L' := ⟨h.1, h.2.1, fun i v hi => h.2.2 i v (hL i v hi)⟩
def gsub : GL → GL → Prop
  | _, [] => True
  | [], _ :: _ => False
  | _ :: t, none :: t' => gsub t t'
  | a :: t, some v :: t' => a = some v ∧ gsub t t'
theorem gsub.at : ∀ {L L' : GL}, gsub L L' → ∀ (i : Nat) (v : Value), L'[i]? = some (some v) → L[i]? = some (some v)
  | _, [], _, i, v, h => by simp at h
  | [], _ :: _, h, _, _, _ => h.elim
  | a :: t, none :: t', h, 0, v, hv => by simp at hv
  | a :: t, some w :: t', h, 0, v, hv => by
    simp at hv
    subst hv
    simp [h.1]
  | a :: t, none :: t', h, i + 1, v, hv => by
    rw [List.getElem?_cons_succ] at hv ⊢
    exact gsub.at (L := t) (L' := t') h i v hv
  | a :: t, some w :: t', h, i + 1, v, hv => by
    rw [List.getElem?_cons_succ] at hv ⊢
    exact gsub.at h.2 i v hv
def gpre (L : GL) (i : Nat) : Prop := i = 0 ∨ L[i - 1]? = some none ∨ ∃ w, L[i - 1]? = some (some w) ∧ w.category = 1
theorem gcat (r : Option Nat) : (va_rf r).category = 1 := by cases r <;> rfl
theorem gl.store1 {ls' : Array Slot} {n i : Nat} {L L' : GL} {v : Value} (hp : gpre L i) (hL : L.set i (some v) = L')
    (h : lv_has ls' n ((i, v) :: (gll 0 L).filter (fun q => !(q.1 == i) && !(q.1 + 1 == i && q.2.category == 2)))) : gl ls' n L' := by
  subst hL
  refine gl.of h fun j w hj => ?_
  by_cases e : j = i
  · subst e
    have hl : j < L.length := by
      have := (List.getElem?_eq_some_iff.mp hj).1
      simpa using this
    rw [List.getElem?_set_self hl] at hj
    cases hj
    exact List.mem_cons_self
  · rw [List.getElem?_set_ne (Ne.symm e)] at hj
    refine List.mem_cons_of_mem _ (List.mem_filter.mpr ⟨(gll_mem L 0 (j, w)).mpr ⟨Nat.zero_le _, by simpa using hj⟩, ?_⟩)
    by_cases e1 : j + 1 = i
    · have e2 : i - 1 = j := by omega
      rcases hp with h0 | h0 | ⟨w', h0, hc⟩
      · omega
      · rw [e2, hj] at h0; cases h0
      · rw [e2, hj] at h0; cases h0
        simp [e, hc]
    · simp [e, e1]
theorem gl.store2 {ls' : Array Slot} {n i : Nat} {L L' : GL} {v : Value} (hp : gpre L i) (hL : (L.set i (some v)).set (i + 1) none = L')
    (h : lv_has ls' n ((i, v) :: (gll 0 L).filter (fun q => !(q.1 == i) && (!(q.1 == i + 1) && !(q.1 + 1 == i && q.2.category == 2))))) : gl ls' n L' := by
  subst hL
  refine gl.of h fun j w hj => ?_
  by_cases e3 : j = i + 1
  · subst e3
    have hl : i + 1 < (L.set i (some v)).length := by
      have := (List.getElem?_eq_some_iff.mp hj).1
      simpa using this
    rw [List.getElem?_set_self hl] at hj
    cases hj
  rw [List.getElem?_set_ne (Ne.symm e3)] at hj
  by_cases e : j = i
  · subst e
    have hl : j < L.length := by
      have := (List.getElem?_eq_some_iff.mp hj).1
      simpa using this
    rw [List.getElem?_set_self hl] at hj
    cases hj
    exact List.mem_cons_self
  · rw [List.getElem?_set_ne (Ne.symm e)] at hj
    refine List.mem_cons_of_mem _ (List.mem_filter.mpr ⟨(gll_mem L 0 (j, w)).mpr ⟨Nat.zero_le _, by simpa using hj⟩, ?_⟩)
    by_cases e1 : j + 1 = i
    · have e2 : i - 1 = j := by omega
      rcases hp with h0 | h0 | ⟨w', h0, hc⟩
      · omega
      · rw [e2, hj] at h0; cases h0
      · rw [e2, hj] at h0; cases h0
        simp [e, e3, hc]
    · simp [e, e1, e3]
