/-! CONTEXT AND GOALS over the ghost heap -/
abbrev Cx : Type := va_G × (Nat → ClassId) × Nat × (Nat → Nat)
def gA (X : Cx) : Nat → Prop := fun q => X.2.2.1 ≤ q
def gE (dA : Nat → ClassId) : GE → va_E
  | .inl a => .inl (dA a.1, a.2)
  | .inr o => .inr o
def gP (X : Cx) (g : GM) (H : Heap) : Prop := ∃ ws : va_W, (∀ a e, g a = some e → ∃ k : Nat, ws[k]? = some (a, gE X.2.1 e)) ∧ va_P X.1 gCl ws H ∧ va_D (gA X) ws
def gup (g : GM) (a : Nat) (e : GE) : GM := fun b => if b = a then some e else g b
theorem gup_self (g : GM) (a : Nat) (e : GE) : gup g a e a = some e := if_pos rfl
theorem gup_ne (g : GM) {a b : Nat} (e : GE) (h : b ≠ a) : gup g a e b = g b := if_neg h
/-- string constants that are read: lengths and bytes -/
def gLen : List Nat := [5, 5, 5, 7, 7, 8, 14, 15, 15]
def gByt : List (List Int32) := [[32, 102, 105, 120, 32], [32, 97, 112, 112, 32], [100, 114, 97, 102, 116], [119, 97, 105, 116, 105, 110, 103], [114, 101, 102, 117, 115, 101, 100], [97, 112, 112, 114, 111, 118, 101, 100], [104, 101, 108, 100, 32, 98, 121, 32, 114, 101, 118, 105, 101, 119], [104, 101, 108, 100, 32, 98, 121, 32, 99, 114, 97, 115, 104, 101, 115], [104, 101, 108, 100, 32, 98, 121, 32, 114, 97, 116, 105, 110, 103, 115]]
/-- string constants: class, index, text, number -/
def gStr : List (String × Nat × String × Nat) := [("Releasetrain", 69, "a number is out of range", 20), ("Releasetrain", 80, "there are 12 devices", 21), ("Releasetrain", 129, "it is no draft", 22), ("Releasetrain", 153, "it is not refused, or was appealed", 23), ("Releasetrain", 155, "the size is out of range", 24), ("Releasetrain", 157, "the number is out of range", 25), ("Releasetrain", 159, "it is not approved", 26), ("Releasetrain", 166, "the percentage is less than the one before", 27), ("Releasetrain", 176, "the day would be greater than 999", 28), ("Releasetrain", 240, "it is not from 'a' to 'z'", 29), ("Releasetrain", 245, "the text has 6 letters", 30), ("Releasetrain", 258, "the text is empty", 31), ("Releasetrain", 283, "there is no such place", 32), ("Releasetrain", 303, "there is no group", 33), ("Releasetrain", 309, "the stars are out of range", 34), ("Releasetrain", 338, "it owns the item", 35), ("Releasetrain", 343, "its build does not sell it", 36), ("Releasetrain", 355, "they own none", 37), ("Releasetrain", 373, " fix ", 0), ("Releasetrain", 375, " app ", 1), ("Releasetrain", 386, "there is no such character", 38), ("Releasetrain", 394, "there is no such device", 39), ("Releasetrain", 397, "there is no such build", 40), ("Releasetrain", 399, "there is no such group", 41), ("Releasetrain", 401, "it has no ratings", 42), ("Releasetrain", 403, "it has no build", 43), ("Releasetrain", 405, "there is no such item", 44), ("Releasetrain", 413, "a build has this version, or there are 10 builds", 45), ("Releasetrain", 424, "none waits", 46), ("Releasetrain", 450, "it is given none", 47), ("Releasetrain", 455, "there would be more than 30 groups", 48), ("Releasetrain", 460, "draft", 2), ("Releasetrain", 462, "waiting", 3), ("Releasetrain", 464, "refused", 4), ("Releasetrain", 469, "held by review", 6), ("Releasetrain", 471, "held by crashes", 7), ("Releasetrain", 473, "held by ratings", 8), ("Releasetrain", 475, "approved", 5)]
def gTens : Nat → Int32 := fun j => Int32.ofNat (48 + j / 10)
def gOnes : Nat → Int32 := fun j => Int32.ofNat (48 + j % 10)
def gBad : List Cond := [Cond.castable "Releasetrain$BucketCounts" "java/lang/Object", Cond.castable "Releasetrain$Build" "java/lang/Object", Cond.castable "Releasetrain$Device" "java/lang/Object", Cond.castable "Releasetrain$DeviceKind" "java/lang/Object", Cond.castable "Releasetrain$Group" "java/lang/Object", Cond.castable "Releasetrain$Offer" "java/lang/Object", Cond.castable "Releasetrain$Stack" "java/lang/Object", Cond.castable "Releasetrain" "java/lang/Object", Cond.castable "java/lang/StringBuilder" "java/lang/Object", Cond.castable "java/util/ArrayList" "java/lang/Object", Cond.castable "java/lang/IllegalArgumentException" "java/lang/IllegalArgumentException", Cond.castable "java/lang/IllegalStateException" "java/lang/IllegalStateException", Cond.castable "java/util/NoSuchElementException" "java/util/NoSuchElementException", Cond.castable "java/lang/UnsupportedOperationException" "java/lang/UnsupportedOperationException", Cond.castable "java/lang/IndexOutOfBoundsException" "java/lang/IndexOutOfBoundsException", Cond.castable "java/lang/ArithmeticException" "java/lang/ArithmeticException", Cond.declares ⟨"java/lang/Exception", "<init>", "()V"⟩, Cond.declares ⟨"java/lang/Exception", "<init>", "(Ljava/lang/String;)V"⟩, Cond.declares ⟨"java/lang/IndexOutOfBoundsException", "<init>", "()V"⟩, Cond.declares ⟨"java/lang/IndexOutOfBoundsException", "<init>", "(Ljava/lang/String;)V"⟩, Cond.declares ⟨"java/lang/Object", "getClass", "()Ljava/lang/Class;"⟩, Cond.declares ⟨"java/lang/RuntimeException", "<init>", "()V"⟩, Cond.declares ⟨"java/lang/RuntimeException", "<init>", "(Ljava/lang/String;)V"⟩, Cond.declares ⟨"java/lang/Throwable", "<init>", "()V"⟩, Cond.declares ⟨"java/lang/Throwable", "<init>", "(Ljava/lang/String;)V"⟩, Cond.methodLinkNest "Releasetrain" 27 ⟨"Releasetrain$Stack", "<init>", "()V"⟩ "Releasetrain", Cond.methodLinkNest "Releasetrain$BucketCounts" 19 ⟨"Releasetrain", "outside", "(III)Z"⟩ "Releasetrain", Cond.methodLinkNest "Releasetrain$Build" 11 ⟨"Releasetrain$BucketCounts", "<init>", "()V"⟩ "Releasetrain", Cond.methodLinkNest "Releasetrain$DeviceKind" 9 ⟨"Releasetrain$BucketCounts", "<init>", "()V"⟩ "Releasetrain", Cond.methodLinkNest "Releasetrain$Group" 9 ⟨"Releasetrain$Stack", "<init>", "()V"⟩ "Releasetrain", Cond.methodLinkNest "Releasetrain$Offer" 19 ⟨"Releasetrain", "isIn", "(II)Z"⟩ "Releasetrain"]
def gNc : List (String × String) := [("java/lang/IllegalStateException", "java/util/NoSuchElementException"), ("java/lang/IllegalArgumentException", "java/util/NoSuchElementException"), ("java/lang/UnsupportedOperationException", "java/util/NoSuchElementException"), ("java/lang/ArithmeticException", "java/util/NoSuchElementException"), ("java/lang/IndexOutOfBoundsException", "java/util/NoSuchElementException"), ("java/util/NoSuchElementException", "java/lang/IllegalArgumentException"), ("java/lang/IllegalStateException", "java/lang/IllegalArgumentException"), ("java/lang/UnsupportedOperationException", "java/lang/IllegalArgumentException"), ("java/lang/ArithmeticException", "java/lang/IllegalArgumentException"), ("java/lang/IndexOutOfBoundsException", "java/lang/IllegalArgumentException"), ("java/util/NoSuchElementException", "java/lang/IllegalStateException"), ("java/lang/IllegalArgumentException", "java/lang/IllegalStateException"), ("java/lang/UnsupportedOperationException", "java/lang/IllegalStateException"), ("java/lang/ArithmeticException", "java/lang/IllegalStateException"), ("java/lang/IndexOutOfBoundsException", "java/lang/IllegalStateException"), ("java/util/NoSuchElementException", "java/lang/UnsupportedOperationException"), ("java/lang/IllegalStateException", "java/lang/UnsupportedOperationException"), ("java/lang/IllegalArgumentException", "java/lang/UnsupportedOperationException"), ("java/lang/ArithmeticException", "java/lang/UnsupportedOperationException"), ("java/lang/IndexOutOfBoundsException", "java/lang/UnsupportedOperationException"), ("java/util/NoSuchElementException", "java/lang/IndexOutOfBoundsException"), ("java/lang/IllegalStateException", "java/lang/IndexOutOfBoundsException"), ("java/lang/IllegalArgumentException", "java/lang/IndexOutOfBoundsException"), ("java/lang/UnsupportedOperationException", "java/lang/IndexOutOfBoundsException"), ("java/lang/ArithmeticException", "java/lang/IndexOutOfBoundsException"), ("java/util/NoSuchElementException", "java/lang/ArithmeticException"), ("java/lang/IllegalStateException", "java/lang/ArithmeticException"), ("java/lang/IllegalArgumentException", "java/lang/ArithmeticException"), ("java/lang/UnsupportedOperationException", "java/lang/ArithmeticException"), ("java/lang/IndexOutOfBoundsException", "java/lang/ArithmeticException")]
def gBadOk : Cond → Bool
  | .methodLinkNest .. | .castable .. | .declares _ => true
  | _ => false
theorem gBad_ok : ∀ w ∈ gBad, gBadOk w = true := by decide +kernel
theorem gBad_go {w : Cond} (h : gBadOk w = true) {s U : State} (hW : s.WarmedH U.vm) (hw : va_Nw w s) : va_Nw w U := by
  cases w <;> first | exact va_Nw.warmM hW hw | exact va_Nw.warmC hW hw | exact va_Nw.warmD hW hw | (cases h)
theorem gBad_use {w : Cond} (h : gBadOk w = true) {s : State} (hw : va_Nw w s) (args : Array Value) : w.before args s = true := by
  cases w <;> first | exact va_Nw.use rfl hw | (cases h)
def gSt (X : Cx) (U : State) (H : Heap) : Prop := ∀ i : Nat, i < gLen.length → va_O "java/lang/String" (X.2.2.2 i) (gA X) U H ∧ va_OF "java/lang/String" "coder" "B" (.int 0) (X.2.2.2 i) (gA X) U H ∧ va_OF "java/lang/String" "value" "[B" (.ref (X.2.2.2 (100 + i))) (X.2.2.2 i) (gA X) U H ∧ va_T .byte (X.2.2.2 (100 + i)) (gLen.getD i 0) (fun j => .int ((gByt.getD i []).getD j 0)) (gA X) U H
theorem gSt.moved {X : Cx} {u U : State} {H : Heap} (hvm : u.vm.Alike U.vm) (h : gSt X u H) : gSt X U H := fun i hi => ⟨va_O.moved hvm (h i hi).1, va_OF.moved hvm (h i hi).2.1, va_OF.moved hvm (h i hi).2.2.1, va_T.moved hvm (h i hi).2.2.2⟩
theorem gSt.kept {X : Cx} {U : State} {H H1 : Heap} (h : gSt X U H) (hq : ∀ a : Nat, a < H.size → ¬ gA X a → H1[a]? = H[a]?) : gSt X U H1 := fun i hi => ⟨va_O.kept (h i hi).1 hq, va_OF.kept (h i hi).2.1 hq, va_OF.kept (h i hi).2.2.1 hq, va_T.kept (h i hi).2.2.2 hq⟩
def gX (X : Cx) (U : State) (H : Heap) : Prop :=
  va_K X.1 gCl (gTys X.2.1) U ∧ (∀ q ∈ gStr, vk_R q.1 q.2.1 q.2.2.1 (X.2.2.2 q.2.2.2) U) ∧ gSt X U H ∧ va_Z "java/lang/String" "COMPACT_STRINGS" "Z" (.int 1) (gA X) U H ∧ (va_Z "java/util/ArrayList" "DEFAULTCAPACITY_EMPTY_ELEMENTDATA" "[Ljava/lang/Object;" (.ref (X.2.2.2 200)) (gA X) U H ∧ va_T (.object "java/lang/Object") (X.2.2.2 200) 0 (fun _ => .null) (gA X) U H) ∧ (va_Z "java/lang/Integer" "DigitTens" "[B" (.ref (X.2.2.2 201)) (gA X) U H ∧ va_T .byte (X.2.2.2 201) 100 (fun j => .int (gTens j)) (gA X) U H) ∧ (va_Z "java/lang/Integer" "DigitOnes" "[B" (.ref (X.2.2.2 202)) (gA X) U H ∧ va_T .byte (X.2.2.2 202) 100 (fun j => .int (gOnes j)) (gA X) U H) ∧ va_Mi "[Ljava/lang/Object;" (X.2.2.2 203) U ∧ va_Zq "jdk/internal/util/Preconditions" "SIOOBE_FORMATTER" "Ljava/util/function/BiFunction;" (gA X) U H ∧ (va_AO "java/lang/Object" U ∧ va_T .int (X.2.2.2 204) (X.2.2.2 205) (fun j => .int (Int32.ofNat (X.2.2.2 (1000 + j)))) (gA X) U H) ∧ vx_Zq Bundle.tN "UNASSIGNED_STACK" Bundle.steD (gA X) U H ∧ vx_Zq Bundle.tN "SUPPRESSED_SENTINEL" Bundle.listD (gA X) U H ∧ (∀ w ∈ gBad, va_Nw w U) ∧ ∀ q ∈ gNc, va_Nc q.1 q.2 U
theorem gX.go {X : Cx} {s U : State} {H : Heap} (h : gX X s H) (hW : s.WarmedH U.vm) {H1 : Heap} (hq : ∀ a : Nat, a < H.size → ¬ gA X a → H1[a]? = H[a]?) : gX X U H1 := by
  obtain ⟨h1, h2, h3, h4, ⟨h5, h5'⟩, ⟨h6, h6'⟩, ⟨h7, h7'⟩, h8, h13, h9, h10, h11, h12, h14⟩ := h
  have hA := hW.alike
  exact ⟨h1.moved hA, fun q hq => vk_R.warm hW (h2 q hq), (h3.kept hq).moved hA, (h4.kept hq).moved hA, ⟨(h5.kept hq).moved hA, (h5'.kept hq).moved hA⟩, ⟨(h6.kept hq).moved hA, (h6'.kept hq).moved hA⟩, ⟨(h7.kept hq).moved hA, (h7'.kept hq).moved hA⟩, h8.moved hA, (h13.kept hq).moved hA, ⟨h9.1.moved hA, (h9.2.kept hq).moved hA⟩, (h10.kept hq).moved hA, (h11.kept hq).moved hA, fun w hw => gBad_go (gBad_ok w hw) hW (h12 w hw), fun q hq => (h14 q hq).moved hA⟩
/-- a frame of a method: what holds from its entry on -/
def FC (X : Cx) (p : Program) (l : Launch) (s : State) (m : MethodId) (args : Array Value) (meth : Method) (c : Code) (cc : ByteArray) (nL : Nat) (own : String) : Prop :=
  CallFix p m c cc nL s args TBL own ∧ gX X s s.heap ∧ meth.locks = false ∧ l.stackTraces = false ∧ X.2.2.1 ≤ s.heap.size
def GG (X : Cx) (p : Program) (l : Launch) (e : Env) (R : Room) (s : State) (m : MethodId) (args : Array Value) (below : List Frame) (meth : Method) (c : Code) (nL : Nat) (Q : State → Prop) (k n pc : Nat) (L : GL) (st : List Value) (g : GM) : Prop :=
  ∀ (H : Heap) (locs : List Loc) (ls : Array Slot), gP X g H → va_S (gA X) s.heap H locs → gl ls nL L → W p l e R s m args below meth c H locs k n Q (F0 m pc ls st)
/-- the same frame, with an exception of the class E thrown over it -/
def GX (X : Cx) (p : Program) (l : Launch) (e : Env) (R : Room) (s : State) (m : MethodId) (args : Array Value) (below : List Frame) (meth : Method) (c : Code) (nL : Nat) (Q : State → Prop) (k n pc : Nat) (L : GL) (st : List Value) (g : GM) (E : String) : Prop :=
  ∀ (H : Heap) (locs : List Loc) (ls : Array Slot) (q : Addr) (ce : Cell), gP X g H → va_S (gA X) s.heap H locs → gl ls nL L → H[q]? = some ce → ce.vm = .none → s.vm.findClass E = some ce.cls → vx_W p l e R s m args below meth c H locs k n Q (F0 m pc ls st) q
abbrev gB (X : Cx) : GM → State → Prop := fun g t => gP X g t.heap
def gXC (X : Cx) (px : String → GM → Prop) : String → State → State → Prop := vx_X (fun _ : GM => True) (fun E g t => px E g ∧ gP X g t.heap) (gA X)
def gPc (X : Cx) (As : List Value) (g : GM) : Array Value → State → Prop := va_Pc As (fun U => gP X g U.heap ∧ gX X U U.heap ∧ X.2.2.1 ≤ U.heap.size)
abbrev gws (y : MethodName) (b : ByteArray) (maxL : Nat) (ret : Option FieldType) : List Cond := .code y b maxL ret :: TBL
abbrev gMet (X : Cx) (l : Launch) (y : MethodName) (b : ByteArray) (maxL : Nat) (ret : Option FieldType) (rm : Room) (As : List Value) (g : GM) (Qc : Array Value → State → Outcome → State → Prop) (px : String → GM → Prop) : Prop :=
  vx_Met l y (gws y b maxL ret) rm (gPc X As g) Qc (gXC X px) rm.cells rm.slots (gA X)
abbrev qI (X : Cx) (post : Int32 → GM → Prop) := va_Qi post (gB X) (gA X)
abbrev qL (X : Cx) (post : Int64 → GM → Prop) := va_Ql post (gB X) (gA X)
abbrev qF (X : Cx) (post : UInt32 → GM → Prop) := va_Qf post (gB X) (gA X)
abbrev qD (X : Cx) (post : UInt64 → GM → Prop) := va_Qd post (gB X) (gA X)
abbrev qV (X : Cx) (post : GM → Prop) := va_Qv post (gB X) (gA X)
abbrev qR (X : Cx) (post : Option Nat → GM → Prop) := va_Qq post (gB X) (gA X)
theorem gPc_blind (X : Cx) (As : List Value) (g : GM) : FrameBlind (gPc X As g) := fun a U f mk h => ⟨h.1, h.2.1, gX.go (U := U.calling f mk a) h.2.2.1 (show U.WarmedH U.vm from State.WarmedH.refl U) (fun _ _ _ => rfl), h.2.2.2⟩
theorem gP.put {X : Cx} {g : GM} {ws : va_W} {H1 : Heap} {a k : Nat} {e : GE} {e0 : va_E} (hg : ∀ a e, g a = some e → ∃ k : Nat, ws[k]? = some (a, gE X.2.1 e)) (hk : ws[k]? = some (a, e0)) (hD0 : va_D (gA X) ws) {e1 : va_E} (he : e1 = gE X.2.1 e) (hP : va_P X.1 gCl (ws.set k (a, e1)) H1) (hD : va_D (gA X) (ws.set k (a, e1))) : gP X (gup g a e) H1 := by
  subst he
  refine ⟨_, fun b eb hb => ?_, hP, hD⟩
  have hl := (List.getElem?_eq_some_iff.mp hk).1
  by_cases hba : b = a
  · subst hba
    rw [gup_self] at hb
    cases hb
    exact ⟨k, by rw [List.getElem?_set_self hl]⟩
  · rw [gup_ne g e hba] at hb
    obtain ⟨j, hj⟩ := hg b eb hb
    refine ⟨j, ?_⟩
    rw [List.getElem?_set_ne, hj]
    intro hkj
    subst hkj
    rw [hk] at hj
    cases hj
    exact hba rfl
theorem gP.push {X : Cx} {g : GM} {ws : va_W} {H1 : Heap} {q : Nat} {e : GE} {e1 : va_E} (hg : ∀ a e, g a = some e → ∃ k : Nat, ws[k]? = some (a, gE X.2.1 e)) (he : e1 = gE X.2.1 e) (hP : va_P X.1 gCl (ws ++ [(q, e1)]) H1) (hD : va_D (gA X) (ws ++ [(q, e1)])) : gP X (gup g q e) H1 ∧ g q = none := by
  subst he
  have hfresh : g q = none := by
    cases hq : g q with
    | none => rfl
    | some e0 =>
      obtain ⟨j, hj⟩ := hg q e0 hq
      have hl := (List.getElem?_eq_some_iff.mp hj).1
      have h1 : (ws ++ [(q, gE X.2.1 e)])[j]? = some (q, gE X.2.1 e0) := by rw [List.getElem?_append_left hl]; exact hj
      have h2 : (ws ++ [(q, gE X.2.1 e)])[ws.length]? = some (q, gE X.2.1 e) := by simp
      have := hD.1 j ws.length _ _ h1 h2 rfl
      omega
  refine ⟨⟨_, fun b eb hb => ?_, hP, hD⟩, hfresh⟩
  by_cases hba : b = q
  · subst hba
    rw [gup_self] at hb
    cases hb
    exact ⟨ws.length, by simp⟩
  · rw [gup_ne g e hba] at hb
    obtain ⟨j, hj⟩ := hg b eb hb
    exact ⟨j, by rw [List.getElem?_append_left (List.getElem?_eq_some_iff.mp hj).1]; exact hj⟩

theorem va_RA_inj {U : State} {c1 c2 : ClassId} {ty : FieldType} (h1 : va_RA U c1 ty) (h2 : va_RA U c2 ty) : c1 = c2 := by
  cases ty with
  | object C =>
    obtain ⟨_, _, -, -, -, e1⟩ := h1
    obtain ⟨_, _, -, -, -, e2⟩ := h2
    exact Option.some.inj (e1.symm.trans e2)
  | _ => exact Option.some.inj ((show U.vm.findClass _ = some c1 from h1).symm.trans (show U.vm.findClass _ = some c2 from h2))

section GR
variable {X : Cx} {p : Program} {l : Launch} {e : Env} {R : Room} {s : State} {m : MethodId} {args : Array Value} {below : List Frame} {meth : Method} {c : Code} {nL : Nat} {Q : State → Prop} {k n pc : Nat} {L : GL} {st : List Value} {g : GM} {cc : ByteArray} {own : String}

theorem gg_sub {L' : GL} (h : gsub L L') (kk : GG X p l e R s m args below meth c nL Q (k) (n) (pc) (L') (st) (g)) : GG X p l e R s m args below meth c nL Q (k) (n) (pc) (L) (st) (g) := fun H locs ls hP hS hl => kk H locs ls hP hS (hl.sub (gsub.at h))
theorem gg_widen {k' n' : Nat} (h1 : k ≤ k') (h2 : n ≤ n') (kk : GG X p l e R s m args below meth c nL Q (k') (n') (pc) (L) (st) (g)) : GG X p l e R s m args below meth c nL Q (k) (n) (pc) (L) (st) (g) := fun H locs ls hP hS hl => W.widen h1 h2 (kk H locs ls hP hS hl)
theorem gg_pc {pc' : Nat} (h : pc' = pc) (kk : GG X p l e R s m args below meth c nL Q (k) (n) (pc') (L) (st) (g)) : GG X p l e R s m args below meth c nL Q (k) (n) (pc) (L) (st) (g) := h ▸ kk

theorem gg_iload {i : Nat} {x : Int32} (C : FC X p l s m args meth c cc nL own) (d : decode cc pc = .ok (.iload i, 2)) (hi : L[i]? = some (some (.int x))) (kk : GG X p l e R s m args below meth c nL Q (k) (n) (pc + 2) (L) (.int x :: st) (g)) : GG X p l e R s m args below meth c nL Q (k) (n) (pc) (L) (st) (g) :=
  fun H locs ls hP hS hl => lv_iload C.1.1 C.1.2.1 d (hl.at hi) (kk H locs ls hP hS hl)
theorem gg_iload_n {i : Fin 4} {x : Int32} (C : FC X p l s m args meth c cc nL own) (d : decode cc pc = .ok (.iload_n i, 1)) (hi : L[(i : Nat)]? = some (some (.int x))) (kk : GG X p l e R s m args below meth c nL Q (k) (n) (pc + 1) (L) (.int x :: st) (g)) : GG X p l e R s m args below meth c nL Q (k) (n) (pc) (L) (st) (g) :=
  fun H locs ls hP hS hl => lv_iload_n C.1.1 C.1.2.1 d rfl (hl.at hi) (kk H locs ls hP hS hl)
theorem gg_istore {i : Nat} {x : Int32} {L' : GL} (C : FC X p l s m args meth c cc nL own) (d : decode cc pc = .ok (.istore i, 2)) (hp : gpre L i) (hn : i < nL) (hL : L.set i (some (.int x)) = L') (kk : GG X p l e R s m args below meth c nL Q (k) (n) (pc + 2) (L') (st) (g)) : GG X p l e R s m args below meth c nL Q (k) (n) (pc) (L) (.int x :: st) (g) :=
  fun H locs ls hP hS hl => lv_istore C.1.1 C.1.2.1 d hl.has hn rfl (fun ls' h' => kk H locs ls' hP hS (gl.store1 hp hL h'))
theorem gg_istore_n {i : Fin 4} {x : Int32} {L' : GL} (C : FC X p l s m args meth c cc nL own) (d : decode cc pc = .ok (.istore_n i, 1)) (hp : gpre L (i : Nat)) (hn : (i : Nat) < nL) (hL : L.set (i : Nat) (some (.int x)) = L') (kk : GG X p l e R s m args below meth c nL Q (k) (n) (pc + 1) (L') (st) (g)) : GG X p l e R s m args below meth c nL Q (k) (n) (pc) (L) (.int x :: st) (g) :=
  fun H locs ls hP hS hl => lv_istore_n C.1.1 C.1.2.1 d rfl hl.has hn rfl (fun ls' h' => kk H locs ls' hP hS (gl.store1 hp hL h'))
theorem gg_lload {i : Nat} {x : Int64} (C : FC X p l s m args meth c cc nL own) (d : decode cc pc = .ok (.lload i, 2)) (hi : L[i]? = some (some (.long x))) (kk : GG X p l e R s m args below meth c nL Q (k) (n) (pc + 2) (L) (.long x :: st) (g)) : GG X p l e R s m args below meth c nL Q (k) (n) (pc) (L) (st) (g) :=
  fun H locs ls hP hS hl => lv_lload C.1.1 C.1.2.1 d (hl.at hi) (kk H locs ls hP hS hl)
theorem gg_lload_n {i : Fin 4} {x : Int64} (C : FC X p l s m args meth c cc nL own) (d : decode cc pc = .ok (.lload_n i, 1)) (hi : L[(i : Nat)]? = some (some (.long x))) (kk : GG X p l e R s m args below meth c nL Q (k) (n) (pc + 1) (L) (.long x :: st) (g)) : GG X p l e R s m args below meth c nL Q (k) (n) (pc) (L) (st) (g) :=
  fun H locs ls hP hS hl => lv_lload_n C.1.1 C.1.2.1 d rfl (hl.at hi) (kk H locs ls hP hS hl)
theorem gg_lstore {i : Nat} {x : Int64} {L' : GL} (C : FC X p l s m args meth c cc nL own) (d : decode cc pc = .ok (.lstore i, 2)) (hp : gpre L i) (hn : i + 1 < nL) (hL : (L.set i (some (.long x))).set (i + 1) none = L') (kk : GG X p l e R s m args below meth c nL Q (k) (n) (pc + 2) (L') (st) (g)) : GG X p l e R s m args below meth c nL Q (k) (n) (pc) (L) (.long x :: st) (g) :=
  fun H locs ls hP hS hl => lv_lstore C.1.1 C.1.2.1 d hl.has hn rfl (fun ls' h' => kk H locs ls' hP hS (gl.store2 hp hL h'))
theorem gg_lstore_n {i : Fin 4} {x : Int64} {L' : GL} (C : FC X p l s m args meth c cc nL own) (d : decode cc pc = .ok (.lstore_n i, 1)) (hp : gpre L (i : Nat)) (hn : (i : Nat) + 1 < nL) (hL : (L.set (i : Nat) (some (.long x))).set ((i : Nat) + 1) none = L') (kk : GG X p l e R s m args below meth c nL Q (k) (n) (pc + 1) (L') (st) (g)) : GG X p l e R s m args below meth c nL Q (k) (n) (pc) (L) (.long x :: st) (g) :=
  fun H locs ls hP hS hl => lv_lstore_n C.1.1 C.1.2.1 d rfl hl.has hn rfl (fun ls' h' => kk H locs ls' hP hS (gl.store2 hp hL h'))
theorem gg_fload {i : Nat} {x : UInt32} (C : FC X p l s m args meth c cc nL own) (d : decode cc pc = .ok (.fload i, 2)) (hi : L[i]? = some (some (.float x))) (kk : GG X p l e R s m args below meth c nL Q (k) (n) (pc + 2) (L) (.float x :: st) (g)) : GG X p l e R s m args below meth c nL Q (k) (n) (pc) (L) (st) (g) :=
  fun H locs ls hP hS hl => lv_fload C.1.1 C.1.2.1 d (hl.at hi) (kk H locs ls hP hS hl)
theorem gg_fload_n {i : Fin 4} {x : UInt32} (C : FC X p l s m args meth c cc nL own) (d : decode cc pc = .ok (.fload_n i, 1)) (hi : L[(i : Nat)]? = some (some (.float x))) (kk : GG X p l e R s m args below meth c nL Q (k) (n) (pc + 1) (L) (.float x :: st) (g)) : GG X p l e R s m args below meth c nL Q (k) (n) (pc) (L) (st) (g) :=
  fun H locs ls hP hS hl => lv_fload_n C.1.1 C.1.2.1 d rfl (hl.at hi) (kk H locs ls hP hS hl)
theorem gg_fstore {i : Nat} {x : UInt32} {L' : GL} (C : FC X p l s m args meth c cc nL own) (d : decode cc pc = .ok (.fstore i, 2)) (hp : gpre L i) (hn : i < nL) (hL : L.set i (some (.float x)) = L') (kk : GG X p l e R s m args below meth c nL Q (k) (n) (pc + 2) (L') (st) (g)) : GG X p l e R s m args below meth c nL Q (k) (n) (pc) (L) (.float x :: st) (g) :=
  fun H locs ls hP hS hl => lv_fstore C.1.1 C.1.2.1 d hl.has hn rfl (fun ls' h' => kk H locs ls' hP hS (gl.store1 hp hL h'))
theorem gg_fstore_n {i : Fin 4} {x : UInt32} {L' : GL} (C : FC X p l s m args meth c cc nL own) (d : decode cc pc = .ok (.fstore_n i, 1)) (hp : gpre L (i : Nat)) (hn : (i : Nat) < nL) (hL : L.set (i : Nat) (some (.float x)) = L') (kk : GG X p l e R s m args below meth c nL Q (k) (n) (pc + 1) (L') (st) (g)) : GG X p l e R s m args below meth c nL Q (k) (n) (pc) (L) (.float x :: st) (g) :=
  fun H locs ls hP hS hl => lv_fstore_n C.1.1 C.1.2.1 d rfl hl.has hn rfl (fun ls' h' => kk H locs ls' hP hS (gl.store1 hp hL h'))
theorem gg_dload {i : Nat} {x : UInt64} (C : FC X p l s m args meth c cc nL own) (d : decode cc pc = .ok (.dload i, 2)) (hi : L[i]? = some (some (.double x))) (kk : GG X p l e R s m args below meth c nL Q (k) (n) (pc + 2) (L) (.double x :: st) (g)) : GG X p l e R s m args below meth c nL Q (k) (n) (pc) (L) (st) (g) :=
  fun H locs ls hP hS hl => lv_dload C.1.1 C.1.2.1 d (hl.at hi) (kk H locs ls hP hS hl)
theorem gg_dload_n {i : Fin 4} {x : UInt64} (C : FC X p l s m args meth c cc nL own) (d : decode cc pc = .ok (.dload_n i, 1)) (hi : L[(i : Nat)]? = some (some (.double x))) (kk : GG X p l e R s m args below meth c nL Q (k) (n) (pc + 1) (L) (.double x :: st) (g)) : GG X p l e R s m args below meth c nL Q (k) (n) (pc) (L) (st) (g) :=
  fun H locs ls hP hS hl => lv_dload_n C.1.1 C.1.2.1 d rfl (hl.at hi) (kk H locs ls hP hS hl)
theorem gg_dstore {i : Nat} {x : UInt64} {L' : GL} (C : FC X p l s m args meth c cc nL own) (d : decode cc pc = .ok (.dstore i, 2)) (hp : gpre L i) (hn : i + 1 < nL) (hL : (L.set i (some (.double x))).set (i + 1) none = L') (kk : GG X p l e R s m args below meth c nL Q (k) (n) (pc + 2) (L') (st) (g)) : GG X p l e R s m args below meth c nL Q (k) (n) (pc) (L) (.double x :: st) (g) :=
  fun H locs ls hP hS hl => lv_dstore C.1.1 C.1.2.1 d hl.has hn rfl (fun ls' h' => kk H locs ls' hP hS (gl.store2 hp hL h'))
theorem gg_dstore_n {i : Fin 4} {x : UInt64} {L' : GL} (C : FC X p l s m args meth c cc nL own) (d : decode cc pc = .ok (.dstore_n i, 1)) (hp : gpre L (i : Nat)) (hn : (i : Nat) + 1 < nL) (hL : (L.set (i : Nat) (some (.double x))).set ((i : Nat) + 1) none = L') (kk : GG X p l e R s m args below meth c nL Q (k) (n) (pc + 1) (L') (st) (g)) : GG X p l e R s m args below meth c nL Q (k) (n) (pc) (L) (.double x :: st) (g) :=
  fun H locs ls hP hS hl => lv_dstore_n C.1.1 C.1.2.1 d rfl hl.has hn rfl (fun ls' h' => kk H locs ls' hP hS (gl.store2 hp hL h'))
theorem gg_aload {i : Nat} {x : Option Nat} (C : FC X p l s m args meth c cc nL own) (d : decode cc pc = .ok (.aload i, 2)) (hi : L[i]? = some (some (va_rf x))) (kk : GG X p l e R s m args below meth c nL Q (k) (n) (pc + 2) (L) (va_rf x :: st) (g)) : GG X p l e R s m args below meth c nL Q (k) (n) (pc) (L) (st) (g) :=
  fun H locs ls hP hS hl => by
    cases x with
    | none => exact lv_aloadN C.1.1 C.1.2.1 d (hl.at hi) (kk H locs ls hP hS hl)
    | some a => exact lv_aload C.1.1 C.1.2.1 d (hl.at hi) (kk H locs ls hP hS hl)
theorem gg_astore {i : Nat} {x : Option Nat} {L' : GL} (C : FC X p l s m args meth c cc nL own) (d : decode cc pc = .ok (.astore i, 2)) (hp : gpre L i) (hn : i < nL) (hL : L.set i (some (va_rf x)) = L') (kk : GG X p l e R s m args below meth c nL Q (k) (n) (pc + 2) (L') (st) (g)) : GG X p l e R s m args below meth c nL Q (k) (n) (pc) (L) (va_rf x :: st) (g) :=
  fun H locs ls hP hS hl => by
    cases x with
    | none => exact lv_astoreN C.1.1 C.1.2.1 d hl.has hn rfl (fun ls' h' => kk H locs ls' hP hS (gl.store1 hp hL h'))
    | some a => exact lv_astore C.1.1 C.1.2.1 d hl.has hn rfl (fun ls' h' => kk H locs ls' hP hS (gl.store1 hp hL h'))
theorem gg_aload_n {i : Fin 4} {x : Option Nat} (C : FC X p l s m args meth c cc nL own) (d : decode cc pc = .ok (.aload_n i, 1)) (hi : L[(i : Nat)]? = some (some (va_rf x))) (kk : GG X p l e R s m args below meth c nL Q (k) (n) (pc + 1) (L) (va_rf x :: st) (g)) : GG X p l e R s m args below meth c nL Q (k) (n) (pc) (L) (st) (g) :=
  fun H locs ls hP hS hl => by
    cases x with
    | none => exact lv_aload_nN C.1.1 C.1.2.1 d rfl (hl.at hi) (kk H locs ls hP hS hl)
    | some a => exact lv_aload_n C.1.1 C.1.2.1 d rfl (hl.at hi) (kk H locs ls hP hS hl)
theorem gg_astore_n {i : Fin 4} {x : Option Nat} {L' : GL} (C : FC X p l s m args meth c cc nL own) (d : decode cc pc = .ok (.astore_n i, 1)) (hp : gpre L (i : Nat)) (hn : (i : Nat) < nL) (hL : L.set (i : Nat) (some (va_rf x)) = L') (kk : GG X p l e R s m args below meth c nL Q (k) (n) (pc + 1) (L') (st) (g)) : GG X p l e R s m args below meth c nL Q (k) (n) (pc) (L) (va_rf x :: st) (g) :=
  fun H locs ls hP hS hl => by
    cases x with
    | none => exact lv_astore_nN C.1.1 C.1.2.1 d rfl hl.has hn rfl (fun ls' h' => kk H locs ls' hP hS (gl.store1 hp hL h'))
    | some a => exact lv_astore_n C.1.1 C.1.2.1 d rfl hl.has hn rfl (fun ls' h' => kk H locs ls' hP hS (gl.store1 hp hL h'))
theorem gg_iinc {i : Nat} {z : Int} {x v : Int32} {L' : GL} (C : FC X p l s m args meth c cc nL own) (d : decode cc pc = .ok (.iinc i z, 3)) (hi : L[i]? = some (some (.int x))) (hv : x + Int32.ofInt z = v) (hp : gpre L i) (hn : i < nL) (hL : L.set i (some (.int v)) = L') (kk : GG X p l e R s m args below meth c nL Q (k) (n) (pc + 3) (L') (st) (g)) : GG X p l e R s m args below meth c nL Q (k) (n) (pc) (L) (st) (g) :=
  fun H locs ls hP hS hl => by
    obtain ⟨j, hj⟩ := List.getElem?_of_mem ((gll_mem L 0 (i, .int x)).mpr ⟨Nat.zero_le _, by simpa using hi⟩)
    exact lv_iinc C.1.1 C.1.2.1 d hl.has hj hv hn rfl (fun ls' h' => kk H locs ls' hP hS (gl.store1 hp hL h'))
theorem gg_iconst {z : Int} {v : Int32} (C : FC X p l s m args meth c cc nL own) (d : decode cc pc = .ok (.iconst z, 1)) (hv : Int32.ofInt z = v) (kk : GG X p l e R s m args below meth c nL Q (k) (n) (pc + 1) (L) (.int v :: st) (g)) : GG X p l e R s m args below meth c nL Q (k) (n) (pc) (L) (st) (g) :=
  fun H locs ls hP hS hl => lv_iconst C.1.1 C.1.2.1 d hv (kk H locs ls hP hS hl)
theorem gg_bipush {z : Int} {v : Int32} (C : FC X p l s m args meth c cc nL own) (d : decode cc pc = .ok (.bipush z, 2)) (hv : (Int8.ofInt z).toInt32 = v) (kk : GG X p l e R s m args below meth c nL Q (k) (n) (pc + 2) (L) (.int v :: st) (g)) : GG X p l e R s m args below meth c nL Q (k) (n) (pc) (L) (st) (g) :=
  fun H locs ls hP hS hl => lv_bipush C.1.1 C.1.2.1 d hv (kk H locs ls hP hS hl)
theorem gg_sipush {z : Int} {v : Int32} (C : FC X p l s m args meth c cc nL own) (d : decode cc pc = .ok (.sipush z, 3)) (hv : (Int16.ofInt z).toInt32 = v) (kk : GG X p l e R s m args below meth c nL Q (k) (n) (pc + 3) (L) (.int v :: st) (g)) : GG X p l e R s m args below meth c nL Q (k) (n) (pc) (L) (st) (g) :=
  fun H locs ls hP hS hl => lv_sipush C.1.1 C.1.2.1 d hv (kk H locs ls hP hS hl)
theorem gg_lconst {z : Fin 2} {v : Int64} (C : FC X p l s m args meth c cc nL own) (d : decode cc pc = .ok (.lconst z, 1)) (hv : Int64.ofNat (z : Nat) = v) (kk : GG X p l e R s m args below meth c nL Q (k) (n) (pc + 1) (L) (.long v :: st) (g)) : GG X p l e R s m args below meth c nL Q (k) (n) (pc) (L) (st) (g) :=
  fun H locs ls hP hS hl => lv_lconst C.1.1 C.1.2.1 d hv (kk H locs ls hP hS hl)
theorem gg_fconst0  (C : FC X p l s m args meth c cc nL own) (d : decode cc pc = .ok (.fconst 0, 1)) (kk : GG X p l e R s m args below meth c nL Q (k) (n) (pc + 1) (L) (.float FP.fconst0 :: st) (g)) : GG X p l e R s m args below meth c nL Q (k) (n) (pc) (L) (st) (g) :=
  fun H locs ls hP hS hl => lv_fconst0 C.1.1 C.1.2.1 d (kk H locs ls hP hS hl)
theorem gg_fconst1  (C : FC X p l s m args meth c cc nL own) (d : decode cc pc = .ok (.fconst 1, 1)) (kk : GG X p l e R s m args below meth c nL Q (k) (n) (pc + 1) (L) (.float FP.fconst1 :: st) (g)) : GG X p l e R s m args below meth c nL Q (k) (n) (pc) (L) (st) (g) :=
  fun H locs ls hP hS hl => lv_fconst1 C.1.1 C.1.2.1 d (kk H locs ls hP hS hl)
theorem gg_dconst0  (C : FC X p l s m args meth c cc nL own) (d : decode cc pc = .ok (.dconst 0, 1)) (kk : GG X p l e R s m args below meth c nL Q (k) (n) (pc + 1) (L) (.double FP.dconst0 :: st) (g)) : GG X p l e R s m args below meth c nL Q (k) (n) (pc) (L) (st) (g) :=
  fun H locs ls hP hS hl => lv_dconst0 C.1.1 C.1.2.1 d (kk H locs ls hP hS hl)
theorem gg_dconst1  (C : FC X p l s m args meth c cc nL own) (d : decode cc pc = .ok (.dconst 1, 1)) (kk : GG X p l e R s m args below meth c nL Q (k) (n) (pc + 1) (L) (.double FP.dconst1 :: st) (g)) : GG X p l e R s m args below meth c nL Q (k) (n) (pc) (L) (st) (g) :=
  fun H locs ls hP hS hl => lv_dconst1 C.1.1 C.1.2.1 d (kk H locs ls hP hS hl)
theorem gg_null  (C : FC X p l s m args meth c cc nL own) (d : decode cc pc = .ok (.aconst_null, 1)) (kk : GG X p l e R s m args below meth c nL Q (k) (n) (pc + 1) (L) (va_rf none :: st) (g)) : GG X p l e R s m args below meth c nL Q (k) (n) (pc) (L) (st) (g) :=
  fun H locs ls hP hS hl => lv_null C.1.1 C.1.2.1 d (kk H locs ls hP hS hl)
theorem gg_iadd {x y : Int32} (C : FC X p l s m args meth c cc nL own) (d : decode cc pc = .ok (.iadd, 1)) (kk : GG X p l e R s m args below meth c nL Q (k) (n) (pc + 1) (L) (.int (x + y) :: st) (g)) : GG X p l e R s m args below meth c nL Q (k) (n) (pc) (L) (.int y :: .int x :: st) (g) :=
  fun H locs ls hP hS hl => lv_iadd C.1.1 C.1.2.1 d (kk H locs ls hP hS hl)
theorem gg_isub {x y : Int32} (C : FC X p l s m args meth c cc nL own) (d : decode cc pc = .ok (.isub, 1)) (kk : GG X p l e R s m args below meth c nL Q (k) (n) (pc + 1) (L) (.int (x - y) :: st) (g)) : GG X p l e R s m args below meth c nL Q (k) (n) (pc) (L) (.int y :: .int x :: st) (g) :=
  fun H locs ls hP hS hl => lv_isub C.1.1 C.1.2.1 d (kk H locs ls hP hS hl)
theorem gg_imul {x y : Int32} (C : FC X p l s m args meth c cc nL own) (d : decode cc pc = .ok (.imul, 1)) (kk : GG X p l e R s m args below meth c nL Q (k) (n) (pc + 1) (L) (.int (x * y) :: st) (g)) : GG X p l e R s m args below meth c nL Q (k) (n) (pc) (L) (.int y :: .int x :: st) (g) :=
  fun H locs ls hP hS hl => lv_imul C.1.1 C.1.2.1 d (kk H locs ls hP hS hl)
theorem gg_iand {x y : Int32} (C : FC X p l s m args meth c cc nL own) (d : decode cc pc = .ok (.iand, 1)) (kk : GG X p l e R s m args below meth c nL Q (k) (n) (pc + 1) (L) (.int (x &&& y) :: st) (g)) : GG X p l e R s m args below meth c nL Q (k) (n) (pc) (L) (.int y :: .int x :: st) (g) :=
  fun H locs ls hP hS hl => lv_iand C.1.1 C.1.2.1 d (kk H locs ls hP hS hl)
theorem gg_ior {x y : Int32} (C : FC X p l s m args meth c cc nL own) (d : decode cc pc = .ok (.ior, 1)) (kk : GG X p l e R s m args below meth c nL Q (k) (n) (pc + 1) (L) (.int (x ||| y) :: st) (g)) : GG X p l e R s m args below meth c nL Q (k) (n) (pc) (L) (.int y :: .int x :: st) (g) :=
  fun H locs ls hP hS hl => lv_ior C.1.1 C.1.2.1 d (kk H locs ls hP hS hl)
theorem gg_ixor {x y : Int32} (C : FC X p l s m args meth c cc nL own) (d : decode cc pc = .ok (.ixor, 1)) (kk : GG X p l e R s m args below meth c nL Q (k) (n) (pc + 1) (L) (.int (x ^^^ y) :: st) (g)) : GG X p l e R s m args below meth c nL Q (k) (n) (pc) (L) (.int y :: .int x :: st) (g) :=
  fun H locs ls hP hS hl => lv_ixor C.1.1 C.1.2.1 d (kk H locs ls hP hS hl)
theorem gg_ishl {x y : Int32} (C : FC X p l s m args meth c cc nL own) (d : decode cc pc = .ok (.ishl, 1)) (kk : GG X p l e R s m args below meth c nL Q (k) (n) (pc + 1) (L) (.int (x <<< (y &&& 31)) :: st) (g)) : GG X p l e R s m args below meth c nL Q (k) (n) (pc) (L) (.int y :: .int x :: st) (g) :=
  fun H locs ls hP hS hl => lv_ishl C.1.1 C.1.2.1 d (kk H locs ls hP hS hl)
theorem gg_ishr {x y : Int32} (C : FC X p l s m args meth c cc nL own) (d : decode cc pc = .ok (.ishr, 1)) (kk : GG X p l e R s m args below meth c nL Q (k) (n) (pc + 1) (L) (.int (x >>> (y &&& 31)) :: st) (g)) : GG X p l e R s m args below meth c nL Q (k) (n) (pc) (L) (.int y :: .int x :: st) (g) :=
  fun H locs ls hP hS hl => lv_ishr C.1.1 C.1.2.1 d (kk H locs ls hP hS hl)
theorem gg_idiv {x y : Int32} (C : FC X p l s m args meth c cc nL own) (d : decode cc pc = .ok (.idiv, 1)) (hne : ¬ y = 0) (kk : GG X p l e R s m args below meth c nL Q (k) (n) (pc + 1) (L) (.int (x / y) :: st) (g)) : GG X p l e R s m args below meth c nL Q (k) (n) (pc) (L) (.int y :: .int x :: st) (g) :=
  fun H locs ls hP hS hl => lv_idiv C.1.1 C.1.2.1 d hne (kk H locs ls hP hS hl)
theorem gg_ineg {x : Int32} (C : FC X p l s m args meth c cc nL own) (d : decode cc pc = .ok (.ineg, 1)) (kk : GG X p l e R s m args below meth c nL Q (k) (n) (pc + 1) (L) (.int (-x) :: st) (g)) : GG X p l e R s m args below meth c nL Q (k) (n) (pc) (L) (.int x :: st) (g) :=
  fun H locs ls hP hS hl => lv_ineg C.1.1 C.1.2.1 d (kk H locs ls hP hS hl)
theorem gg_iushr {x y : Int32} (C : FC X p l s m args meth c cc nL own) (d : decode cc pc = .ok (.iushr, 1)) (kk : GG X p l e R s m args below meth c nL Q (k) (n) (pc + 1) (L) (.int ((x.toUInt32 >>> (y.toUInt32 &&& Int32.toUInt32 31)).toInt32) :: st) (g)) : GG X p l e R s m args below meth c nL Q (k) (n) (pc) (L) (.int y :: .int x :: st) (g) :=
  fun H locs ls hP hS hl => lv_iushr C.1.1 C.1.2.1 d rfl (kk H locs ls hP hS hl)
theorem gg_lushr {x : Int64} {y : Int32} (C : FC X p l s m args meth c cc nL own) (d : decode cc pc = .ok (.lushr, 1)) (kk : GG X p l e R s m args below meth c nL Q (k) (n) (pc + 1) (L) (.long ((x.toUInt64 >>> (y.toInt64.toUInt64 &&& Int64.toUInt64 63)).toInt64) :: st) (g)) : GG X p l e R s m args below meth c nL Q (k) (n) (pc) (L) (.int y :: .long x :: st) (g) :=
  fun H locs ls hP hS hl => lv_lushr C.1.1 C.1.2.1 d rfl (kk H locs ls hP hS hl)
theorem gg_lshl {x : Int64} {y : Int32} (C : FC X p l s m args meth c cc nL own) (d : decode cc pc = .ok (.lshl, 1)) (kk : GG X p l e R s m args below meth c nL Q (k) (n) (pc + 1) (L) (.long (x <<< (y.toInt64 &&& 63)) :: st) (g)) : GG X p l e R s m args below meth c nL Q (k) (n) (pc) (L) (.int y :: .long x :: st) (g) :=
  fun H locs ls hP hS hl => lv_lshl C.1.1 C.1.2.1 d rfl (kk H locs ls hP hS hl)
theorem gg_ladd {x y : Int64} (C : FC X p l s m args meth c cc nL own) (d : decode cc pc = .ok (.ladd, 1)) (kk : GG X p l e R s m args below meth c nL Q (k) (n) (pc + 1) (L) (.long (x + y) :: st) (g)) : GG X p l e R s m args below meth c nL Q (k) (n) (pc) (L) (.long y :: .long x :: st) (g) :=
  fun H locs ls hP hS hl => lv_ladd C.1.1 C.1.2.1 d (kk H locs ls hP hS hl)
theorem gg_lsub {x y : Int64} (C : FC X p l s m args meth c cc nL own) (d : decode cc pc = .ok (.lsub, 1)) (kk : GG X p l e R s m args below meth c nL Q (k) (n) (pc + 1) (L) (.long (x - y) :: st) (g)) : GG X p l e R s m args below meth c nL Q (k) (n) (pc) (L) (.long y :: .long x :: st) (g) :=
  fun H locs ls hP hS hl => lv_lsub C.1.1 C.1.2.1 d (kk H locs ls hP hS hl)
theorem gg_lor {x y : Int64} (C : FC X p l s m args meth c cc nL own) (d : decode cc pc = .ok (.lor, 1)) (kk : GG X p l e R s m args below meth c nL Q (k) (n) (pc + 1) (L) (.long (x ||| y) :: st) (g)) : GG X p l e R s m args below meth c nL Q (k) (n) (pc) (L) (.long y :: .long x :: st) (g) :=
  fun H locs ls hP hS hl => lv_lor C.1.1 C.1.2.1 d (kk H locs ls hP hS hl)
theorem gg_lcmp {x y : Int64} (C : FC X p l s m args meth c cc nL own) (d : decode cc pc = .ok (.lcmp, 1)) (kk : GG X p l e R s m args below meth c nL Q (k) (n) (pc + 1) (L) (.int (lg_cmp x y) :: st) (g)) : GG X p l e R s m args below meth c nL Q (k) (n) (pc) (L) (.long y :: .long x :: st) (g) :=
  fun H locs ls hP hS hl => W.lcmp C.1.1 C.1.2.1 d (kk H locs ls hP hS hl)
theorem gg_i2l {x : Int32} (C : FC X p l s m args meth c cc nL own) (d : decode cc pc = .ok (.i2l, 1)) (kk : GG X p l e R s m args below meth c nL Q (k) (n) (pc + 1) (L) (.long x.toInt64 :: st) (g)) : GG X p l e R s m args below meth c nL Q (k) (n) (pc) (L) (.int x :: st) (g) :=
  fun H locs ls hP hS hl => lv_i2l C.1.1 C.1.2.1 d rfl (kk H locs ls hP hS hl)
theorem gg_l2i {x : Int64} (C : FC X p l s m args meth c cc nL own) (d : decode cc pc = .ok (.l2i, 1)) (kk : GG X p l e R s m args below meth c nL Q (k) (n) (pc + 1) (L) (.int x.toInt32 :: st) (g)) : GG X p l e R s m args below meth c nL Q (k) (n) (pc) (L) (.long x :: st) (g) :=
  fun H locs ls hP hS hl => lv_l2i C.1.1 C.1.2.1 d rfl (kk H locs ls hP hS hl)
theorem gg_i2b {x : Int32} (C : FC X p l s m args meth c cc nL own) (d : decode cc pc = .ok (.i2b, 1)) (kk : GG X p l e R s m args below meth c nL Q (k) (n) (pc + 1) (L) (.int x.toInt8.toInt32 :: st) (g)) : GG X p l e R s m args below meth c nL Q (k) (n) (pc) (L) (.int x :: st) (g) :=
  fun H locs ls hP hS hl => lv_i2b C.1.1 C.1.2.1 d rfl (kk H locs ls hP hS hl)
theorem gg_i2c {x : Int32} (C : FC X p l s m args meth c cc nL own) (d : decode cc pc = .ok (.i2c, 1)) (kk : GG X p l e R s m args below meth c nL Q (k) (n) (pc + 1) (L) (.int (x.toUInt32 % 65536).toInt32 :: st) (g)) : GG X p l e R s m args below meth c nL Q (k) (n) (pc) (L) (.int x :: st) (g) :=
  fun H locs ls hP hS hl => lv_i2c C.1.1 C.1.2.1 d rfl (kk H locs ls hP hS hl)
theorem gg_i2f {x : Int32} (C : FC X p l s m args meth c cc nL own) (d : decode cc pc = .ok (.i2f, 1)) (kk : GG X p l e R s m args below meth c nL Q (k) (n) (pc + 1) (L) (.float (FP.i2f x) :: st) (g)) : GG X p l e R s m args below meth c nL Q (k) (n) (pc) (L) (.int x :: st) (g) :=
  fun H locs ls hP hS hl => lv_i2f C.1.1 C.1.2.1 d (kk H locs ls hP hS hl)
theorem gg_i2d {x : Int32} (C : FC X p l s m args meth c cc nL own) (d : decode cc pc = .ok (.i2d, 1)) (kk : GG X p l e R s m args below meth c nL Q (k) (n) (pc + 1) (L) (.double (FP.i2d x) :: st) (g)) : GG X p l e R s m args below meth c nL Q (k) (n) (pc) (L) (.int x :: st) (g) :=
  fun H locs ls hP hS hl => lv_i2d C.1.1 C.1.2.1 d (kk H locs ls hP hS hl)
theorem gg_d2l {x : UInt64} (C : FC X p l s m args meth c cc nL own) (d : decode cc pc = .ok (.d2l, 1)) (kk : GG X p l e R s m args below meth c nL Q (k) (n) (pc + 1) (L) (.long (FP.d2l x) :: st) (g)) : GG X p l e R s m args below meth c nL Q (k) (n) (pc) (L) (.double x :: st) (g) :=
  fun H locs ls hP hS hl => lv_d2l C.1.1 C.1.2.1 d (kk H locs ls hP hS hl)
theorem gg_f2d {x : UInt32} (C : FC X p l s m args meth c cc nL own) (d : decode cc pc = .ok (.f2d, 1)) (hne : vf_n64 (FP.f2d x)) (kk : GG X p l e R s m args below meth c nL Q (k) (n) (pc + 1) (L) (.double (FP.f2d x) :: st) (g)) : GG X p l e R s m args below meth c nL Q (k) (n) (pc) (L) (.float x :: st) (g) :=
  fun H locs ls hP hS hl => lv_f2d C.1.1 C.1.2.1 d hne (kk H locs ls hP hS hl)
theorem gg_fdiv {x y : UInt32} (C : FC X p l s m args meth c cc nL own) (d : decode cc pc = .ok (.fdiv, 1)) (hne : vf_n32 (FP.fdiv x y)) (kk : GG X p l e R s m args below meth c nL Q (k) (n) (pc + 1) (L) (.float (FP.fdiv x y) :: st) (g)) : GG X p l e R s m args below meth c nL Q (k) (n) (pc) (L) (.float y :: .float x :: st) (g) :=
  fun H locs ls hP hS hl => lv_fdiv C.1.1 C.1.2.1 d hne (kk H locs ls hP hS hl)
theorem gg_ddiv {x y : UInt64} (C : FC X p l s m args meth c cc nL own) (d : decode cc pc = .ok (.ddiv, 1)) (hne : vf_n64 (FP.ddiv x y)) (kk : GG X p l e R s m args below meth c nL Q (k) (n) (pc + 1) (L) (.double (FP.ddiv x y) :: st) (g)) : GG X p l e R s m args below meth c nL Q (k) (n) (pc) (L) (.double y :: .double x :: st) (g) :=
  fun H locs ls hP hS hl => lv_ddiv C.1.1 C.1.2.1 d hne (kk H locs ls hP hS hl)
theorem gg_dmul {x y : UInt64} (C : FC X p l s m args meth c cc nL own) (d : decode cc pc = .ok (.dmul, 1)) (hne : vf_n64 (FP.dmul x y)) (kk : GG X p l e R s m args below meth c nL Q (k) (n) (pc + 1) (L) (.double (FP.dmul x y) :: st) (g)) : GG X p l e R s m args below meth c nL Q (k) (n) (pc) (L) (.double y :: .double x :: st) (g) :=
  fun H locs ls hP hS hl => lv_dmul C.1.1 C.1.2.1 d hne (kk H locs ls hP hS hl)
theorem gg_dsub {x y : UInt64} (C : FC X p l s m args meth c cc nL own) (d : decode cc pc = .ok (.dsub, 1)) (hne : vf_n64 (FP.dsub x y)) (kk : GG X p l e R s m args below meth c nL Q (k) (n) (pc + 1) (L) (.double (FP.dsub x y) :: st) (g)) : GG X p l e R s m args below meth c nL Q (k) (n) (pc) (L) (.double y :: .double x :: st) (g) :=
  fun H locs ls hP hS hl => lv_dsub C.1.1 C.1.2.1 d hne (kk H locs ls hP hS hl)
theorem gg_fcmp {x y : UInt32} {o : CmpOp} (C : FC X p l s m args meth c cc nL own) (d : decode cc pc = .ok (.fcmp o, 1)) (kk : GG X p l e R s m args below meth c nL Q (k) (n) (pc + 1) (L) (.int (Op.cmpValue (FP.fcmp x y) o) :: st) (g)) : GG X p l e R s m args below meth c nL Q (k) (n) (pc) (L) (.float y :: .float x :: st) (g) :=
  fun H locs ls hP hS hl => lv_fcmp C.1.1 C.1.2.1 d (kk H locs ls hP hS hl)
theorem gg_dcmp {x y : UInt64} {o : CmpOp} (C : FC X p l s m args meth c cc nL own) (d : decode cc pc = .ok (.dcmp o, 1)) (kk : GG X p l e R s m args below meth c nL Q (k) (n) (pc + 1) (L) (.int (Op.cmpValue (FP.dcmp x y) o) :: st) (g)) : GG X p l e R s m args below meth c nL Q (k) (n) (pc) (L) (.double y :: .double x :: st) (g) :=
  fun H locs ls hP hS hl => lv_dcmp C.1.1 C.1.2.1 d (kk H locs ls hP hS hl)
theorem gg_dup {u : Value} (C : FC X p l s m args meth c cc nL own) (d : decode cc pc = .ok (.dup, 1)) (hu : u.category = 1) (kk : GG X p l e R s m args below meth c nL Q (k) (n) (pc + 1) (L) (u :: u :: st) (g)) : GG X p l e R s m args below meth c nL Q (k) (n) (pc) (L) (u :: st) (g) :=
  fun H locs ls hP hS hl => lv_dup C.1.1 C.1.2.1 d hu (kk H locs ls hP hS hl)
theorem gg_pop {u : Value} (C : FC X p l s m args meth c cc nL own) (d : decode cc pc = .ok (.pop, 1)) (hu : u.category = 1) (kk : GG X p l e R s m args below meth c nL Q (k) (n) (pc + 1) (L) (st) (g)) : GG X p l e R s m args below meth c nL Q (k) (n) (pc) (L) (u :: st) (g) :=
  fun H locs ls hP hS hl => lv_pop C.1.1 C.1.2.1 d hu (kk H locs ls hP hS hl)
theorem gg_dup_x1 {u v : Value} (C : FC X p l s m args meth c cc nL own) (d : decode cc pc = .ok (.dup_x1, 1)) (hu : u.category = 1) (hv : v.category = 1) (kk : GG X p l e R s m args below meth c nL Q (k) (n) (pc + 1) (L) (u :: v :: u :: st) (g)) : GG X p l e R s m args below meth c nL Q (k) (n) (pc) (L) (u :: v :: st) (g) :=
  fun H locs ls hP hS hl => lv_dup_x1 C.1.1 C.1.2.1 d hu hv (kk H locs ls hP hS hl)
theorem gg_dup2 {u v : Value} (C : FC X p l s m args meth c cc nL own) (d : decode cc pc = .ok (.dup2, 1)) (hu : u.category = 1) (hv : v.category = 1) (kk : GG X p l e R s m args below meth c nL Q (k) (n) (pc + 1) (L) (u :: v :: u :: v :: st) (g)) : GG X p l e R s m args below meth c nL Q (k) (n) (pc) (L) (u :: v :: st) (g) :=
  fun H locs ls hP hS hl => lv_dup2_11 C.1.1 C.1.2.1 d hu hv (kk H locs ls hP hS hl)
theorem gg_ldc {v : Int32} {i : Nat} (C : FC X p l s m args meth c cc nL own) (d : decode cc pc = .ok (.ldc i, 2)) (hw : Cond.constant own i v ∈ TBL) (kk : GG X p l e R s m args below meth c nL Q (k) (n) (pc + 2) (L) (.int v :: st) (g)) : GG X p l e R s m args below meth c nL Q (k) (n) (pc) (L) (st) (g) :=
  fun H locs ls hP hS hl => lv_ldc C.1.1 C.1.2.1 C.1.2.2.2.1 (C.1.2.2.2.2 _ hw) d (kk H locs ls hP hS hl)
theorem gg_ldcf {v : UInt32} {i : Nat} (C : FC X p l s m args meth c cc nL own) (d : decode cc pc = .ok (.ldc i, 2)) (hw : Cond.constantFloat own i v ∈ TBL) (kk : GG X p l e R s m args below meth c nL Q (k) (n) (pc + 2) (L) (.float v :: st) (g)) : GG X p l e R s m args below meth c nL Q (k) (n) (pc) (L) (st) (g) :=
  fun H locs ls hP hS hl => lv_ldcf C.1.1 C.1.2.1 C.1.2.2.2.1 (C.1.2.2.2.2 _ hw) d (kk H locs ls hP hS hl)
theorem gg_ldcw {v : Int32} {i : Nat} (C : FC X p l s m args meth c cc nL own) (d : decode cc pc = .ok (.ldc_w i, 3)) (hw : Cond.constant own i v ∈ TBL) (kk : GG X p l e R s m args below meth c nL Q (k) (n) (pc + 3) (L) (.int v :: st) (g)) : GG X p l e R s m args below meth c nL Q (k) (n) (pc) (L) (st) (g) :=
  fun H locs ls hP hS hl => lv_ldcw C.1.1 C.1.2.1 C.1.2.2.2.1 (C.1.2.2.2.2 _ hw) d (kk H locs ls hP hS hl)
theorem gg_ldc2 {v : Int64} {i : Nat} (C : FC X p l s m args meth c cc nL own) (d : decode cc pc = .ok (.ldc2_w i, 3)) (hw : Cond.constantLong own i v ∈ TBL) (kk : GG X p l e R s m args below meth c nL Q (k) (n) (pc + 3) (L) (.long v :: st) (g)) : GG X p l e R s m args below meth c nL Q (k) (n) (pc) (L) (st) (g) :=
  fun H locs ls hP hS hl => lv_ldc2 C.1.1 C.1.2.1 C.1.2.2.2.1 (C.1.2.2.2.2 _ hw) d (kk H locs ls hP hS hl)
theorem gg_ldc2d {v : UInt64} {i : Nat} (C : FC X p l s m args meth c cc nL own) (d : decode cc pc = .ok (.ldc2_w i, 3)) (hw : Cond.constantDouble own i v ∈ TBL) (kk : GG X p l e R s m args below meth c nL Q (k) (n) (pc + 3) (L) (.double v :: st) (g)) : GG X p l e R s m args below meth c nL Q (k) (n) (pc) (L) (st) (g) :=
  fun H locs ls hP hS hl => lv_ldc2d C.1.1 C.1.2.1 C.1.2.2.2.1 (C.1.2.2.2.2 _ hw) d (kk H locs ls hP hS hl)
theorem gg_ldcS {i j : Nat} {tx : String} (C : FC X p l s m args meth c cc nL own) (d : decode cc pc = .ok (.ldc i, 2)) (hw : (own, i, tx, j) ∈ gStr) (kk : GG X p l e R s m args below meth c nL Q (k) (n) (pc + 2) (L) (va_rf (some (X.2.2.2 j)) :: st) (g)) : GG X p l e R s m args below meth c nL Q (k) (n) (pc) (L) (st) (g) :=
  fun H locs ls hP hS hl => va_ldcS C.1.1 C.1.2.1 C.1.2.2.2.1 (C.2.1.2.1 _ hw) d (kk H locs ls hP hS hl)
theorem gg_ldcM {i : Nat} (C : FC X p l s m args meth c cc nL own) (d : decode cc pc = .ok (.ldc i, 2)) (hw : Cond.classLink own i "[Ljava/lang/Object;" ∈ TBL) (kk : GG X p l e R s m args below meth c nL Q (k) (n) (pc + 2) (L) (va_rf (some (X.2.2.2 203)) :: st) (g)) : GG X p l e R s m args below meth c nL Q (k) (n) (pc) (L) (st) (g) :=
  fun H locs ls hP hS hl => va_ldcM C.1.1 C.1.2.1 C.1.2.2.2.1 (C.1.2.2.2.2 _ hw) C.2.1.2.2.2.2.2.2.2.1 d (kk H locs ls hP hS hl)
theorem gg_ldcfw {v : UInt32} {i : Nat} (C : FC X p l s m args meth c cc nL own) (d : decode cc pc = .ok (.ldc_w i, 3)) (hw : Cond.constantFloat own i v ∈ TBL) (kk : GG X p l e R s m args below meth c nL Q (k) (n) (pc + 3) (L) (.float v :: st) (g)) : GG X p l e R s m args below meth c nL Q (k) (n) (pc) (L) (st) (g) := by
  intro H locs ls hP hS hl T hT X9
  obtain ⟨t, a, b⟩ := kk H locs ls hP hS hl T hT X9
  obtain ⟨k9, cf, hk, hcf, hcp⟩ := Cond.constantFloat_spec C.1.2.2.2.1 (C.1.2.2.2.2 _ hw)
  obtain ⟨k', hk', he⟩ := X9.warmed.alike.2.2 _ _ hk
  refine ⟨t, ?_, b⟩
  have d' : decode c.code (F0 m pc ls st).pc = .ok (.ldc_w i, 3) := by rw [C.1.2.1]; exact d
  have hx := C.1.1
  jvm_step X9.here [X9.here.top, hx, d', ldc_w.wp_float (s := T) (f := F0 m pc ls st) X9.here.top hk' (by rw [he]; exact hcf) hcp]
  exact a
theorem gg_ldcSW {i j : Nat} {tx : String} (C : FC X p l s m args meth c cc nL own) (d : decode cc pc = .ok (.ldc_w i, 3)) (hw : (own, i, tx, j) ∈ gStr) (kk : GG X p l e R s m args below meth c nL Q (k) (n) (pc + 3) (L) (va_rf (some (X.2.2.2 j)) :: st) (g)) : GG X p l e R s m args below meth c nL Q (k) (n) (pc) (L) (st) (g) := by
  intro H locs ls hP hS hl T hT X9
  obtain ⟨t, a1, b1⟩ := kk H locs ls hP hS hl T hT X9
  have hZ := C.2.1.2.1 _ hw
  exact ⟨t, X9.ldcStringW C.1.1 C.1.2.2.2.1 (text := tx) (a := X.2.2.2 j) hZ.1 hZ.2 (g := F0 m pc ls st) rfl (by rw [C.1.2.1]; exact d) t a1, b1⟩
theorem gg_goto {off : Int} {tgt : Nat} (C : FC X p l s m args meth c cc nL own) (d : decode cc pc = .ok (.goto off, 3)) (ht : (pc : Int) + off = (tgt : Int)) (kk : GG X p l e R s m args below meth c nL Q (k) (n) (tgt) (L) (st) (g)) : GG X p l e R s m args below meth c nL Q (k) (n) (pc) (L) (st) (g) :=
  fun H locs ls hP hS hl => lv_goto C.1.1 C.1.2.1 d ht (kk H locs ls hP hS hl)
theorem gg_if_eq {x : Int32} {off : Int} {tgt : Nat} {A B : Prop} (C : FC X p l s m args meth c cc nL own) (d : decode cc pc = .ok (.ifCond .eq off, 3)) (ht : (pc : Int) + off = (tgt : Int)) (hf : if x = 0 then A else B) (kt : A → GG X p l e R s m args below meth c nL Q (k) (n) (tgt) (L) (st) (g)) (kf : B → GG X p l e R s m args below meth c nL Q (k) (n) (pc + 3) (L) (st) (g)) : GG X p l e R s m args below meth c nL Q (k) (n) (pc) (L) (.int x :: st) (g) :=
  fun H locs ls hP hS hl => lv_if_eq C.1.1 C.1.2.1 d ht (fun h => kt (by rwa [if_pos h] at hf) H locs ls hP hS hl) (fun h => kf (by rwa [if_neg h] at hf) H locs ls hP hS hl)
theorem gg_icmp_eq {x y : Int32} {off : Int} {tgt : Nat} {A B : Prop} (C : FC X p l s m args meth c cc nL own) (d : decode cc pc = .ok (.if_icmp .eq off, 3)) (ht : (pc : Int) + off = (tgt : Int)) (hf : if x = y then A else B) (kt : A → GG X p l e R s m args below meth c nL Q (k) (n) (tgt) (L) (st) (g)) (kf : B → GG X p l e R s m args below meth c nL Q (k) (n) (pc + 3) (L) (st) (g)) : GG X p l e R s m args below meth c nL Q (k) (n) (pc) (L) (.int y :: .int x :: st) (g) :=
  fun H locs ls hP hS hl => lv_icmp_eq C.1.1 C.1.2.1 d ht (fun h => kt (by rwa [if_pos h] at hf) H locs ls hP hS hl) (fun h => kf (by rwa [if_neg h] at hf) H locs ls hP hS hl)
theorem gg_if_lt {x : Int32} {off : Int} {tgt : Nat} {A B : Prop} (C : FC X p l s m args meth c cc nL own) (d : decode cc pc = .ok (.ifCond .lt off, 3)) (ht : (pc : Int) + off = (tgt : Int)) (hf : if x < 0 then A else B) (kt : A → GG X p l e R s m args below meth c nL Q (k) (n) (tgt) (L) (st) (g)) (kf : B → GG X p l e R s m args below meth c nL Q (k) (n) (pc + 3) (L) (st) (g)) : GG X p l e R s m args below meth c nL Q (k) (n) (pc) (L) (.int x :: st) (g) :=
  fun H locs ls hP hS hl => lv_if_lt C.1.1 C.1.2.1 d ht (fun h => kt (by rwa [if_pos h] at hf) H locs ls hP hS hl) (fun h => kf (by rwa [if_neg h] at hf) H locs ls hP hS hl)
theorem gg_icmp_lt {x y : Int32} {off : Int} {tgt : Nat} {A B : Prop} (C : FC X p l s m args meth c cc nL own) (d : decode cc pc = .ok (.if_icmp .lt off, 3)) (ht : (pc : Int) + off = (tgt : Int)) (hf : if x < y then A else B) (kt : A → GG X p l e R s m args below meth c nL Q (k) (n) (tgt) (L) (st) (g)) (kf : B → GG X p l e R s m args below meth c nL Q (k) (n) (pc + 3) (L) (st) (g)) : GG X p l e R s m args below meth c nL Q (k) (n) (pc) (L) (.int y :: .int x :: st) (g) :=
  fun H locs ls hP hS hl => lv_icmp_lt C.1.1 C.1.2.1 d ht (fun h => kt (by rwa [if_pos h] at hf) H locs ls hP hS hl) (fun h => kf (by rwa [if_neg h] at hf) H locs ls hP hS hl)
theorem gg_if_ge {x : Int32} {off : Int} {tgt : Nat} {A B : Prop} (C : FC X p l s m args meth c cc nL own) (d : decode cc pc = .ok (.ifCond .ge off, 3)) (ht : (pc : Int) + off = (tgt : Int)) (hf : if 0 ≤ x then A else B) (kt : A → GG X p l e R s m args below meth c nL Q (k) (n) (tgt) (L) (st) (g)) (kf : B → GG X p l e R s m args below meth c nL Q (k) (n) (pc + 3) (L) (st) (g)) : GG X p l e R s m args below meth c nL Q (k) (n) (pc) (L) (.int x :: st) (g) :=
  fun H locs ls hP hS hl => lv_if_ge C.1.1 C.1.2.1 d ht (fun h => kt (by rwa [if_pos h] at hf) H locs ls hP hS hl) (fun h => kf (by rwa [if_neg h] at hf) H locs ls hP hS hl)
theorem gg_icmp_ge {x y : Int32} {off : Int} {tgt : Nat} {A B : Prop} (C : FC X p l s m args meth c cc nL own) (d : decode cc pc = .ok (.if_icmp .ge off, 3)) (ht : (pc : Int) + off = (tgt : Int)) (hf : if y ≤ x then A else B) (kt : A → GG X p l e R s m args below meth c nL Q (k) (n) (tgt) (L) (st) (g)) (kf : B → GG X p l e R s m args below meth c nL Q (k) (n) (pc + 3) (L) (st) (g)) : GG X p l e R s m args below meth c nL Q (k) (n) (pc) (L) (.int y :: .int x :: st) (g) :=
  fun H locs ls hP hS hl => lv_icmp_ge C.1.1 C.1.2.1 d ht (fun h => kt (by rwa [if_pos h] at hf) H locs ls hP hS hl) (fun h => kf (by rwa [if_neg h] at hf) H locs ls hP hS hl)
theorem gg_if_gt {x : Int32} {off : Int} {tgt : Nat} {A B : Prop} (C : FC X p l s m args meth c cc nL own) (d : decode cc pc = .ok (.ifCond .gt off, 3)) (ht : (pc : Int) + off = (tgt : Int)) (hf : if 0 < x then A else B) (kt : A → GG X p l e R s m args below meth c nL Q (k) (n) (tgt) (L) (st) (g)) (kf : B → GG X p l e R s m args below meth c nL Q (k) (n) (pc + 3) (L) (st) (g)) : GG X p l e R s m args below meth c nL Q (k) (n) (pc) (L) (.int x :: st) (g) :=
  fun H locs ls hP hS hl => lv_if_gt C.1.1 C.1.2.1 d ht (fun h => kt (by rwa [if_pos h] at hf) H locs ls hP hS hl) (fun h => kf (by rwa [if_neg h] at hf) H locs ls hP hS hl)
theorem gg_icmp_gt {x y : Int32} {off : Int} {tgt : Nat} {A B : Prop} (C : FC X p l s m args meth c cc nL own) (d : decode cc pc = .ok (.if_icmp .gt off, 3)) (ht : (pc : Int) + off = (tgt : Int)) (hf : if y < x then A else B) (kt : A → GG X p l e R s m args below meth c nL Q (k) (n) (tgt) (L) (st) (g)) (kf : B → GG X p l e R s m args below meth c nL Q (k) (n) (pc + 3) (L) (st) (g)) : GG X p l e R s m args below meth c nL Q (k) (n) (pc) (L) (.int y :: .int x :: st) (g) :=
  fun H locs ls hP hS hl => lv_icmp_gt C.1.1 C.1.2.1 d ht (fun h => kt (by rwa [if_pos h] at hf) H locs ls hP hS hl) (fun h => kf (by rwa [if_neg h] at hf) H locs ls hP hS hl)
theorem gg_if_le {x : Int32} {off : Int} {tgt : Nat} {A B : Prop} (C : FC X p l s m args meth c cc nL own) (d : decode cc pc = .ok (.ifCond .le off, 3)) (ht : (pc : Int) + off = (tgt : Int)) (hf : if x ≤ 0 then A else B) (kt : A → GG X p l e R s m args below meth c nL Q (k) (n) (tgt) (L) (st) (g)) (kf : B → GG X p l e R s m args below meth c nL Q (k) (n) (pc + 3) (L) (st) (g)) : GG X p l e R s m args below meth c nL Q (k) (n) (pc) (L) (.int x :: st) (g) :=
  fun H locs ls hP hS hl => lv_if_le C.1.1 C.1.2.1 d ht (fun h => kt (by rwa [if_pos h] at hf) H locs ls hP hS hl) (fun h => kf (by rwa [if_neg h] at hf) H locs ls hP hS hl)
theorem gg_icmp_le {x y : Int32} {off : Int} {tgt : Nat} {A B : Prop} (C : FC X p l s m args meth c cc nL own) (d : decode cc pc = .ok (.if_icmp .le off, 3)) (ht : (pc : Int) + off = (tgt : Int)) (hf : if x ≤ y then A else B) (kt : A → GG X p l e R s m args below meth c nL Q (k) (n) (tgt) (L) (st) (g)) (kf : B → GG X p l e R s m args below meth c nL Q (k) (n) (pc + 3) (L) (st) (g)) : GG X p l e R s m args below meth c nL Q (k) (n) (pc) (L) (.int y :: .int x :: st) (g) :=
  fun H locs ls hP hS hl => lv_icmp_le C.1.1 C.1.2.1 d ht (fun h => kt (by rwa [if_pos h] at hf) H locs ls hP hS hl) (fun h => kf (by rwa [if_neg h] at hf) H locs ls hP hS hl)
theorem gg_if_ne {x : Int32} {off : Int} {tgt : Nat} {A B : Prop} (C : FC X p l s m args meth c cc nL own) (d : decode cc pc = .ok (.ifCond .ne off, 3)) (ht : (pc : Int) + off = (tgt : Int)) (hf : if x = 0 then B else A) (kt : A → GG X p l e R s m args below meth c nL Q (k) (n) (tgt) (L) (st) (g)) (kf : B → GG X p l e R s m args below meth c nL Q (k) (n) (pc + 3) (L) (st) (g)) : GG X p l e R s m args below meth c nL Q (k) (n) (pc) (L) (.int x :: st) (g) :=
  fun H locs ls hP hS hl => lv_if_ne C.1.1 C.1.2.1 d ht (fun h => kt (by rwa [if_neg h] at hf) H locs ls hP hS hl) (fun h => kf (by rwa [if_pos (by first | exact h | exact Classical.not_not.mp h)] at hf) H locs ls hP hS hl)
theorem gg_icmp_ne {x y : Int32} {off : Int} {tgt : Nat} {A B : Prop} (C : FC X p l s m args meth c cc nL own) (d : decode cc pc = .ok (.if_icmp .ne off, 3)) (ht : (pc : Int) + off = (tgt : Int)) (hf : if x = y then B else A) (kt : A → GG X p l e R s m args below meth c nL Q (k) (n) (tgt) (L) (st) (g)) (kf : B → GG X p l e R s m args below meth c nL Q (k) (n) (pc + 3) (L) (st) (g)) : GG X p l e R s m args below meth c nL Q (k) (n) (pc) (L) (.int y :: .int x :: st) (g) :=
  fun H locs ls hP hS hl => lv_icmp_ne C.1.1 C.1.2.1 d ht (fun h => kt (by rwa [if_neg h] at hf) H locs ls hP hS hl) (fun h => kf (by rwa [if_pos (by first | exact h | exact Classical.not_not.mp h)] at hf) H locs ls hP hS hl)
theorem gg_acmp_eq {x y : Option Nat} {off : Int} {tgt : Nat} {A B : Prop} (C : FC X p l s m args meth c cc nL own) (d : decode cc pc = .ok (.if_acmp .eq off, 3)) (ht : (pc : Int) + off = (tgt : Int)) (hf : if x = y then A else B) (kt : A → GG X p l e R s m args below meth c nL Q (k) (n) (tgt) (L) (st) (g)) (kf : B → GG X p l e R s m args below meth c nL Q (k) (n) (pc + 3) (L) (st) (g)) : GG X p l e R s m args below meth c nL Q (k) (n) (pc) (L) (va_rf y :: va_rf x :: st) (g) :=
  fun H locs ls hP hS hl => lv_acmp_eq C.1.1 C.1.2.1 d ht (fun h => kt (by rwa [if_pos h] at hf) H locs ls hP hS hl) (fun h => kf (by rwa [if_neg h] at hf) H locs ls hP hS hl)
theorem gg_acmp_ne {x y : Option Nat} {off : Int} {tgt : Nat} {A B : Prop} (C : FC X p l s m args meth c cc nL own) (d : decode cc pc = .ok (.if_acmp .ne off, 3)) (ht : (pc : Int) + off = (tgt : Int)) (hf : if x = y then B else A) (kt : A → GG X p l e R s m args below meth c nL Q (k) (n) (tgt) (L) (st) (g)) (kf : B → GG X p l e R s m args below meth c nL Q (k) (n) (pc + 3) (L) (st) (g)) : GG X p l e R s m args below meth c nL Q (k) (n) (pc) (L) (va_rf y :: va_rf x :: st) (g) :=
  fun H locs ls hP hS hl => lv_acmp_ne C.1.1 C.1.2.1 d ht (fun h => kt (by rwa [if_neg h] at hf) H locs ls hP hS hl) (fun h => kf (by rwa [if_pos h] at hf) H locs ls hP hS hl)
theorem gg_ifnull {x : Option Nat} {off : Int} {tgt : Nat} {A B : Prop} (C : FC X p l s m args meth c cc nL own) (d : decode cc pc = .ok (.ifnull off, 3)) (ht : (pc : Int) + off = (tgt : Int)) (hf : if x = none then A else B) (kt : A → GG X p l e R s m args below meth c nL Q (k) (n) (tgt) (L) (st) (g)) (kf : B → GG X p l e R s m args below meth c nL Q (k) (n) (pc + 3) (L) (st) (g)) : GG X p l e R s m args below meth c nL Q (k) (n) (pc) (L) (va_rf x :: st) (g) :=
  fun H locs ls hP hS hl => by
    cases x with
    | none => exact lv_ifnullN C.1.1 C.1.2.1 d ht (kt (by rwa [if_pos rfl] at hf) H locs ls hP hS hl)
    | some a => exact lv_ifnull C.1.1 C.1.2.1 d (kf (by rwa [if_neg (by simp)] at hf) H locs ls hP hS hl)
theorem gg_ifnonnull {x : Option Nat} {off : Int} {tgt : Nat} {A B : Prop} (C : FC X p l s m args meth c cc nL own) (d : decode cc pc = .ok (.ifnonnull off, 3)) (ht : (pc : Int) + off = (tgt : Int)) (hf : if x = none then B else A) (kt : A → GG X p l e R s m args below meth c nL Q (k) (n) (tgt) (L) (st) (g)) (kf : B → GG X p l e R s m args below meth c nL Q (k) (n) (pc + 3) (L) (st) (g)) : GG X p l e R s m args below meth c nL Q (k) (n) (pc) (L) (va_rf x :: st) (g) :=
  fun H locs ls hP hS hl => by
    cases x with
    | none => exact lv_ifnonnullN C.1.1 C.1.2.1 d (kf (by rwa [if_pos rfl] at hf) H locs ls hP hS hl)
    | some a => exact lv_ifnonnull C.1.1 C.1.2.1 d ht (kt (by rwa [if_neg (by simp)] at hf) H locs ls hP hS hl)
/-- the field k of the objects of the class ci, by an index of own's pool -/
def gLk (own : String) (idx ci k : Nat) : Prop := ∃ (C : String) (T : u_T) (N : Nat), gCl[ci]? = some (C, T, N) ∧ (∀ w ∈ u_ws C T N, w ∈ TBL) ∧ k < N ∧ ∃ ref : String, Cond.fieldLink own idx ref (T k).2.1 (T k).2.2.1 ∈ TBL ∧ (ref = (T k).1 ∨ Cond.sameField ref (T k).1 (T k).2.1 (T k).2.2.1 ∈ TBL)
def gPk (own : String) (idx ci k : Nat) (ty : FieldType) (fin : Bool) : Prop := ∃ (C : String) (T : u_T) (N : Nat) (ty0 : Nat → FieldType), gCl[ci]? = some (C, T, N) ∧ (∀ w ∈ u_ws C T N, w ∈ TBL) ∧ k < N ∧ (∃ ref : String, Cond.fieldLink own idx ref (T k).2.1 (T k).2.2.1 ∈ TBL ∧ (ref = (T k).1 ∨ Cond.sameField ref (T k).1 (T k).2.1 (T k).2.2.1 ∈ TBL)) ∧ (∀ k, k < N → parseFieldDescriptor (T k).2.2.1 = some (ty0 k)) ∧ (∀ a, a < N → ∀ b, b < N → a ≠ b → (T a).2.1 ≠ (T b).2.1) ∧ parseFieldDescriptor (T k).2.2.1 = some ty ∧ (T k).2.2.2 = fin ∧ (fin = true → (T k).1 = own)
def wGet (g : GM) (r : Option Nat) (ci k : Nat) (K : Value → Prop) : Prop := ∃ (a : Nat) (fs : List Value) (v : Value), r = some a ∧ g a = some (.inr (ci, fs)) ∧ fs[k]? = some v ∧ K v
def wGetI (g : GM) (r : Option Nat) (ci k : Nat) (K : Int32 → Prop) : Prop := wGet g r ci k (fun v => ∃ i, v = .int i ∧ K i)
def wGetF (g : GM) (r : Option Nat) (ci k : Nat) (K : UInt32 → Prop) : Prop := wGet g r ci k (fun v => ∃ i, v = .float i ∧ K i)
def wGetR (g : GM) (r : Option Nat) (ci k : Nat) (K : Option Nat → Prop) : Prop := wGet g r ci k (fun v => ∃ i, v = va_rf i ∧ K i)
def wPut (g : GM) (r : Option Nat) (ci k : Nat) (v : Value) (K : GM → Prop) : Prop := ∃ (a : Nat) (fs : List Value), r = some a ∧ g a = some (.inr (ci, fs)) ∧ k < fs.length ∧ K (gup g a (.inr (ci, fs.set k v)))
def gNar (ty : FieldType) (v : Value) : Prop := narrow ty v = v ∧ fits ty v = true
theorem gNar_int (x : Int32) : gNar .int (.int x) := ⟨rfl, rfl⟩
theorem gNar_float (x : UInt32) : gNar .float (.float x) := ⟨rfl, rfl⟩
theorem gNar_obj (C : String) (r : Option Nat) : gNar (.object C) (va_rf r) := by cases r <;> exact ⟨rfl, rfl⟩
theorem gNar_arr (t : FieldType) (r : Option Nat) : gNar (.array t) (va_rf r) := by cases r <;> exact ⟨rfl, rfl⟩
theorem gSame {ref : String} {q : String × String × String × Bool} (hts : ∀ w ∈ TBL, w.before args s = true) (h : ref = q.1 ∨ Cond.sameField ref q.1 q.2.1 q.2.2.1 ∈ TBL) : ∀ x, s.fieldFound? q.1 q.2.1 q.2.2.1 = some x → s.fieldFound? ref q.2.1 q.2.2.1 = some x := by
  intro x hx
  rcases h with rfl | h
  · exact hx
  · exact u_same (hts _ h) x hx
theorem gg_get {idx ci i : Nat} {r : Option Nat} {K : Value → Prop} (C : FC X p l s m args meth c cc nL own) (d : decode cc pc = .ok (.getfield idx, 3)) (hk : gLk own idx ci i) (hf : wGet g r ci i K) (kk : ∀ v, K v → GG X p l e R s m args below meth c nL Q (k) (n) (pc + 3) (L) (v :: st) (g)) : GG X p l e R s m args below meth c nL Q (k) (n) (pc) (L) (va_rf r :: st) (g) := by
  intro H locs ls hP hS hl
  obtain ⟨a, fs, v, rfl, hg, hv, hK⟩ := hf
  obtain ⟨Cn, T, N, h1, h2, h3, ref, h4, h4b⟩ := hk
  obtain ⟨ws, w1, w2, w3⟩ := id hP
  obtain ⟨j, hj⟩ := w1 a _ hg
  exact va_get C.1.1 C.1.2.1 C.1.2.2.2.2 h2 C.1.2.2.2.1 C.2.1.1 w2 j hj h1 i h3 (C.1.2.2.2.2 _ h4) (gSame C.1.2.2.2.2 h4b) hv d (kk v hK H locs ls hP hS hl)
theorem gg_getI {idx ci i : Nat} {r : Option Nat} {K : Int32 → Prop} (C : FC X p l s m args meth c cc nL own) (d : decode cc pc = .ok (.getfield idx, 3)) (hk : gLk own idx ci i) (hf : wGetI g r ci i K) (kk : ∀ v, K v → GG X p l e R s m args below meth c nL Q (k) (n) (pc + 3) (L) (.int v :: st) (g)) : GG X p l e R s m args below meth c nL Q (k) (n) (pc) (L) (va_rf r :: st) (g) := gg_get C d hk hf (by rintro v ⟨i, rfl, h⟩; exact kk i h)
theorem gg_getF {idx ci i : Nat} {r : Option Nat} {K : UInt32 → Prop} (C : FC X p l s m args meth c cc nL own) (d : decode cc pc = .ok (.getfield idx, 3)) (hk : gLk own idx ci i) (hf : wGetF g r ci i K) (kk : ∀ v, K v → GG X p l e R s m args below meth c nL Q (k) (n) (pc + 3) (L) (.float v :: st) (g)) : GG X p l e R s m args below meth c nL Q (k) (n) (pc) (L) (va_rf r :: st) (g) := gg_get C d hk hf (by rintro v ⟨i, rfl, h⟩; exact kk i h)
theorem gg_getR {idx ci i : Nat} {r : Option Nat} {K : Option Nat → Prop} (C : FC X p l s m args meth c cc nL own) (d : decode cc pc = .ok (.getfield idx, 3)) (hk : gLk own idx ci i) (hf : wGetR g r ci i K) (kk : ∀ v, K v → GG X p l e R s m args below meth c nL Q (k) (n) (pc + 3) (L) (va_rf v :: st) (g)) : GG X p l e R s m args below meth c nL Q (k) (n) (pc) (L) (va_rf r :: st) (g) := gg_get C d hk hf (by rintro v ⟨i, rfl, h⟩; exact kk i h)
theorem gg_put {idx ci i : Nat} {r : Option Nat} {v : Value} {ty : FieldType} {K : GM → Prop} (C : FC X p l s m args meth c cc nL own) (d : decode cc pc = .ok (.putfield idx, 3)) (hk : gPk own idx ci i ty false) (hn : gNar ty v) (hf : wPut g r ci i v K) (kk : ∀ g', K g' → GG X p l e R s m args below meth c nL Q (k) (n) (pc + 3) (L) (st) (g')) : GG X p l e R s m args below meth c nL Q (k) (n) (pc) (L) (v :: va_rf r :: st) (g) := by
  intro H locs ls hP hS hl
  obtain ⟨a, fs, rfl, hg, hv, hK⟩ := hf
  obtain ⟨Cn, T, N, ty0, h1, h2, h3, ⟨ref, h4, h4b⟩, h5, h6, h7, h8, h9⟩ := hk
  obtain ⟨ws, w1, w2, w3⟩ := id hP
  obtain ⟨j, hj⟩ := w1 a _ hg
  exact va_put C.1.1 C.1.2.1 C.1.2.2.2.2 h2 ty0 h5 h6 C.1.2.2.2.1 C.2.1.1 w2 w3 hS j hj h1 i h3 (C.1.2.2.2.2 _ h4) (gSame C.1.2.2.2.2 h4b) h8 h7 hn.1 hn.2 hv d (fun H1 locs1 q1 q2 q3 => kk _ hK H1 locs1 ls (gP.put w1 hj w3 rfl q1 q2) q3 hl)
theorem gg_putF {idx ci i : Nat} {r : Option Nat} {v : Value} {ty : FieldType} {K : GM → Prop} (C : FC X p l s m args meth c cc nL own) (d : decode cc pc = .ok (.putfield idx, 3)) (hm : meth.name = "<init>") (hk : gPk own idx ci i ty true) (hn : gNar ty v) (hf : wPut g r ci i v K) (kk : ∀ g', K g' → GG X p l e R s m args below meth c nL Q (k) (n) (pc + 3) (L) (st) (g')) : GG X p l e R s m args below meth c nL Q (k) (n) (pc) (L) (v :: va_rf r :: st) (g) := by
  intro H locs ls hP hS hl
  obtain ⟨a, fs, rfl, hg, hv, hK⟩ := hf
  obtain ⟨Cn, T, N, ty0, h1, h2, h3, ⟨ref, h4, h4b⟩, h5, h6, h7, h8, h9⟩ := hk
  obtain ⟨ws, w1, w2, w3⟩ := id hP
  obtain ⟨j, hj⟩ := w1 a _ hg
  exact va_putF C.1.1 C.1.2.1 C.1.2.2.2.2 h2 ty0 h5 h6 C.1.2.2.2.1 C.2.1.1 w2 w3 hS j hj h1 i h3 (C.1.2.2.2.2 _ h4) (gSame C.1.2.2.2.2 h4b) h8 hm (h9 rfl) h7 hn.1 hn.2 hv d (fun H1 locs1 q1 q2 q3 => kk _ hK H1 locs1 ls (gP.put w1 hj w3 rfl q1 q2) q3 hl)
def wAld (g : GM) (r : Option Nat) (i : Int32) (kd : Nat) (K : Int32 → Prop) : Prop := ∃ (a n : Nat) (f : Nat → Int32), r = some a ∧ g a = some (.inl (kd, n, .inl f)) ∧ vp_in i n ∧ K (f i.toNatClampNeg)
def wAst (g : GM) (r : Option Nat) (i : Int32) (kd : Nat) (x : Int32) (K : GM → Prop) : Prop := ∃ (a n : Nat) (f : Nat → Int32), r = some a ∧ g a = some (.inl (kd, n, .inl f)) ∧ vp_in i n ∧ K (gup g a (.inl (kd, n, .inl (upd f i.toNatClampNeg x))))
def wAldJ (g : GM) (r : Option Nat) (i : Int32) (K : Int64 → Prop) : Prop := ∃ (a n : Nat) (f : Nat → Int64), r = some a ∧ g a = some (.inl (7, n, .inr (.inl f))) ∧ vp_in i n ∧ K (f i.toNatClampNeg)
def wAstJ (g : GM) (r : Option Nat) (i : Int32) (x : Int64) (K : GM → Prop) : Prop := ∃ (a n : Nat) (f : Nat → Int64), r = some a ∧ g a = some (.inl (7, n, .inr (.inl f))) ∧ vp_in i n ∧ K (gup g a (.inl (7, n, .inr (.inl (vp_updL f i.toNatClampNeg x)))))
def wAldD (g : GM) (r : Option Nat) (i : Int32) (K : UInt64 → Prop) : Prop := ∃ (a n : Nat) (f : Nat → UInt64), r = some a ∧ g a = some (.inl (8, n, .inr (.inr (.inr (.inl f))))) ∧ vp_in i n ∧ K (f i.toNatClampNeg)
def wAstD (g : GM) (r : Option Nat) (i : Int32) (x : UInt64) (K : GM → Prop) : Prop := ∃ (a n : Nat) (f : Nat → UInt64), r = some a ∧ g a = some (.inl (8, n, .inr (.inr (.inr (.inl f))))) ∧ vp_in i n ∧ K (gup g a (.inl (8, n, .inr (.inr (.inr (.inl (vf_upd f i.toNatClampNeg x)))))))
def wAldq (g : GM) (r : Option Nat) (i : Int32) (kd : Nat) (K : Option Nat → Prop) : Prop := ∃ (a n : Nat) (f : Nat → Option Nat), r = some a ∧ g a = some (.inl (kd, n, .inr (.inr (.inr (.inr f))))) ∧ vp_in i n ∧ K (f i.toNatClampNeg)
def wAstq (g : GM) (r : Option Nat) (i : Int32) (v : Option Nat) (K : GM → Prop) : Prop := ∃ (a n y ci : Nat) (fs : List Value) (f : Nat → Option Nat), r = some a ∧ g a = some (.inl (4, n, .inr (.inr (.inr (.inr f))))) ∧ v = some y ∧ g y = some (.inr (ci, fs)) ∧ ci < 11 ∧ vp_in i n ∧ K (gup g a (.inl (4, n, .inr (.inr (.inr (.inr (va_up f i.toNatClampNeg (some y))))))))
def wLen (X : Cx) (g : GM) (r : Option Nat) (K : Int32 → Prop) : Prop := (∃ (a kd : Nat) (x : vp_A), r = some a ∧ g a = some (.inl (kd, x)) ∧ kd < 9 ∧ K (Int32.ofNat x.1)) ∨ (r = some (X.2.2.2 200) ∧ K 0) ∨ ∃ i : Nat, i < gLen.length ∧ r = some (X.2.2.2 (100 + i)) ∧ K (Int32.ofNat (gLen.getD i 0))
def wTab (t : Nat) (r : Option Nat) (i : Int32) (f : Nat → Int32) (K : Int32 → Prop) : Prop := r = some t ∧ vp_in i 100 ∧ K (f i.toNatClampNeg)
theorem gg_iald {i : Int32} {r : Option Nat} {K : Int32 → Prop} (C : FC X p l s m args meth c cc nL own) (d : decode cc pc = .ok (.iaload, 1)) (hf : wAld g r i 0 K) (kk : ∀ v, K v → GG X p l e R s m args below meth c nL Q (k) (n) (pc + 1) (L) (.int v :: st) (g)) : GG X p l e R s m args below meth c nL Q (k) (n) (pc) (L) (.int i :: va_rf r :: st) (g) := by
  intro H locs ls hP hS hl
  obtain ⟨a, N, f, rfl, hg, hin, hK⟩ := hf
  obtain ⟨ws, w1, w2, w3⟩ := id hP
  obtain ⟨j, hj⟩ := w1 a _ hg
  exact va_iald C.1.1 C.1.2.1 C.2.1.1 w2 j 0 hj rfl hin d (kk _ hK H locs ls hP hS hl)
theorem gg_cald {i : Int32} {r : Option Nat} {K : Int32 → Prop} (C : FC X p l s m args meth c cc nL own) (d : decode cc pc = .ok (.caload, 1)) (hf : wAld g r i 1 K) (kk : ∀ v, K v → GG X p l e R s m args below meth c nL Q (k) (n) (pc + 1) (L) (.int v :: st) (g)) : GG X p l e R s m args below meth c nL Q (k) (n) (pc) (L) (.int i :: va_rf r :: st) (g) := by
  intro H locs ls hP hS hl
  obtain ⟨a, N, f, rfl, hg, hin, hK⟩ := hf
  obtain ⟨ws, w1, w2, w3⟩ := id hP
  obtain ⟨j, hj⟩ := w1 a _ hg
  exact va_cald C.1.1 C.1.2.1 C.2.1.1 w2 j 1 hj rfl hin d (kk _ hK H locs ls hP hS hl)
theorem gg_bald {i : Int32} {r : Option Nat} {K : Int32 → Prop} (C : FC X p l s m args meth c cc nL own) (d : decode cc pc = .ok (.baload, 1)) (hf : wAld g r i 2 K) (kk : ∀ v, K v → GG X p l e R s m args below meth c nL Q (k) (n) (pc + 1) (L) (.int v :: st) (g)) : GG X p l e R s m args below meth c nL Q (k) (n) (pc) (L) (.int i :: va_rf r :: st) (g) := by
  intro H locs ls hP hS hl
  obtain ⟨a, N, f, rfl, hg, hin, hK⟩ := hf
  obtain ⟨ws, w1, w2, w3⟩ := id hP
  obtain ⟨j, hj⟩ := w1 a _ hg
  exact va_bald C.1.1 C.1.2.1 C.2.1.1 w2 j 2 hj rfl hin d (kk _ hK H locs ls hP hS hl)
theorem gg_iast {i x : Int32} {r : Option Nat} {K : GM → Prop} (C : FC X p l s m args meth c cc nL own) (d : decode cc pc = .ok (.iastore, 1)) (hf : wAst g r i 0 x K) (kk : ∀ g', K g' → GG X p l e R s m args below meth c nL Q (k) (n) (pc + 1) (L) (st) (g')) : GG X p l e R s m args below meth c nL Q (k) (n) (pc) (L) (.int x :: .int i :: va_rf r :: st) (g) := by
  intro H locs ls hP hS hl
  obtain ⟨a, N, f, rfl, hg, hin, hK⟩ := hf
  obtain ⟨ws, w1, w2, w3⟩ := id hP
  obtain ⟨j, hj⟩ := w1 a _ hg
  exact va_iast C.1.1 C.1.2.1 C.2.1.1 w2 w3 hS j 0 hj rfl hin d (fun H1 locs1 q1 q2 q3 => kk _ hK H1 locs1 ls (gP.put w1 hj w3 rfl q1 q2) q3 hl)
theorem gg_cast {i x : Int32} {r : Option Nat} {K : GM → Prop} (C : FC X p l s m args meth c cc nL own) (d : decode cc pc = .ok (.castore, 1)) (hf : wAst g r i 1 (vp_nar .char x) K) (kk : ∀ g', K g' → GG X p l e R s m args below meth c nL Q (k) (n) (pc + 1) (L) (st) (g')) : GG X p l e R s m args below meth c nL Q (k) (n) (pc) (L) (.int x :: .int i :: va_rf r :: st) (g) := by
  intro H locs ls hP hS hl
  obtain ⟨a, N, f, rfl, hg, hin, hK⟩ := hf
  obtain ⟨ws, w1, w2, w3⟩ := id hP
  obtain ⟨j, hj⟩ := w1 a _ hg
  exact va_cast C.1.1 C.1.2.1 C.2.1.1 w2 w3 hS j 1 hj rfl hin d (fun H1 locs1 q1 q2 q3 => kk _ hK H1 locs1 ls (gP.put w1 hj w3 rfl q1 q2) q3 hl)
theorem gg_bast {i x : Int32} {r : Option Nat} {K : GM → Prop} (C : FC X p l s m args meth c cc nL own) (d : decode cc pc = .ok (.bastore, 1)) (hf : wAst g r i 2 (vp_nar .byte x) K) (kk : ∀ g', K g' → GG X p l e R s m args below meth c nL Q (k) (n) (pc + 1) (L) (st) (g')) : GG X p l e R s m args below meth c nL Q (k) (n) (pc) (L) (.int x :: .int i :: va_rf r :: st) (g) := by
  intro H locs ls hP hS hl
  obtain ⟨a, N, f, rfl, hg, hin, hK⟩ := hf
  obtain ⟨ws, w1, w2, w3⟩ := id hP
  obtain ⟨j, hj⟩ := w1 a _ hg
  exact va_bast C.1.1 C.1.2.1 C.2.1.1 w2 w3 hS j 2 hj rfl hin d (fun H1 locs1 q1 q2 q3 => kk _ hK H1 locs1 ls (gP.put w1 hj w3 rfl q1 q2) q3 hl)
theorem gg_aaload {kd : Nat} {ty : FieldType} {i : Int32} {r : Option Nat} {K : Option Nat → Prop} (C : FC X p l s m args meth c cc nL own) (d : decode cc pc = .ok (.aaload, 1)) (ht : (gTys X.2.1)[kd]? = some (X.2.1 kd, ty)) (hr : ty.isReference = true) (hf : wAldq g r i kd K) (kk : ∀ v, K v → GG X p l e R s m args below meth c nL Q (k) (n) (pc + 1) (L) (va_rf v :: st) (g)) : GG X p l e R s m args below meth c nL Q (k) (n) (pc) (L) (.int i :: va_rf r :: st) (g) := by
  intro H locs ls hP hS hl
  obtain ⟨a, N, f, rfl, hg, hin, hK⟩ := hf
  obtain ⟨ws, w1, w2, w3⟩ := id hP
  obtain ⟨j, hj⟩ := w1 a _ hg
  have hlt : i.toNatClampNeg < N := Nat.not_le.mp fun q => hin (Or.inr q)
  exact W.aald (v := va_rf (f i.toNatClampNeg)) (ty := ty) C.1.1 C.1.2.1 (w2 j _ hj) ((C.2.1.1.2 kd _ ht).1 N (fun j => va_rf (f j))) hr (fun q => by cases q) (by show ¬ (i < 0 ∨ (arrV _ _ _).slots.size ≤ _); rw [arrV_size]; exact hin) (by show (arrV _ _ _).slots[_]? = _; rw [arrV_read _ _ hlt]) rfl rfl d (kk _ hK H locs ls hP hS hl)
theorem gCl_obj : ∀ ci : Nat, ci < 11 → ∃ q : vw_C, gCl[ci]? = some q ∧ Cond.castable q.1 "java/lang/Object" ∈ gBad := by
  intro ci h
  rcases (show ci = 0 ∨ ci = 1 ∨ ci = 2 ∨ ci = 3 ∨ ci = 4 ∨ ci = 5 ∨ ci = 6 ∨ ci = 7 ∨ ci = 8 ∨ ci = 9 ∨ ci = 10 by omega) with rfl | rfl | rfl | rfl | rfl | rfl | rfl | rfl | rfl | rfl | rfl <;> exact ⟨_, rfl, by decide +kernel⟩
theorem gg_any {H : Heap} (C : FC X p l s m args meth c cc nL own) (hP : gP X g H) {y ci : Nat} {fs : List Value} (hy : g y = some (.inr (ci, fs))) (hc : ci < 11) : va_Any "java/lang/Object" s H y := by
  obtain ⟨ws, w1, w2, w3⟩ := hP
  obtain ⟨j, hj⟩ := w1 y _ hy
  obtain ⟨q, h1, h2⟩ := gCl_obj ci hc
  refine va_rAny C.2.1.1 w2 hj h1 fun comp c0 e1 e2 => ?_
  obtain ⟨c3, c4, hc3, hc4, hasg⟩ := Cond.castable_spec (gBad_use rfl (C.2.1.2.2.2.2.2.2.2.2.2.2.2.2.1 _ h2) args)
  rw [Option.some.inj (e2.symm.trans hc3), Option.some.inj (e1.symm.trans hc4)]
  exact hasg
theorem gg_aastore {i : Int32} {r v : Option Nat} {K : GM → Prop} (C : FC X p l s m args meth c cc nL own) (d : decode cc pc = .ok (.aastore, 1)) (hf : wAstq g r i v K) (kk : ∀ g', K g' → GG X p l e R s m args below meth c nL Q (k) (n) (pc + 1) (L) (st) (g')) : GG X p l e R s m args below meth c nL Q (k) (n) (pc) (L) (va_rf v :: .int i :: va_rf r :: st) (g) := by
  intro H locs ls hP hS hl
  obtain ⟨a, N, y, ci, fs, f, rfl, hg, rfl, hy, hc, hin, hK⟩ := hf
  have hany := gg_any C hP hy hc
  obtain ⟨ws, w1, w2, w3⟩ := id hP
  obtain ⟨j, hj⟩ := w1 a _ hg
  exact va_astqM C.1.1 C.1.2.1 C.2.1.1 w2 w3 hS j 4 hj rfl hany hin d (fun H1 locs1 q1 q2 q3 => kk _ hK H1 locs1 ls (gP.put w1 hj w3 rfl q1 q2) q3 hl)
theorem gg_alen {r : Option Nat} {K : Int32 → Prop} (C : FC X p l s m args meth c cc nL own) (d : decode cc pc = .ok (.arraylength, 1)) (hf : wLen X g r K) (kk : ∀ v, K v → GG X p l e R s m args below meth c nL Q (k) (n) (pc + 1) (L) (.int v :: st) (g)) : GG X p l e R s m args below meth c nL Q (k) (n) (pc) (L) (va_rf r :: st) (g) := by
  intro H locs ls hP hS hl
  rcases hf with ⟨a, kd, x, rfl, hg, hkd, hK⟩ | ⟨rfl, hK⟩ | ⟨i, hi, rfl, hK⟩
  · obtain ⟨ws, w1, w2, w3⟩ := id hP
    obtain ⟨j, hj⟩ := w1 a _ hg
    obtain ⟨ty, ht⟩ : ∃ ty, (gTys X.2.1)[kd]? = some (X.2.1 kd, ty) := by
      rcases (show kd = 0 ∨ kd = 1 ∨ kd = 2 ∨ kd = 3 ∨ kd = 4 ∨ kd = 5 ∨ kd = 6 ∨ kd = 7 ∨ kd = 8 by omega) with rfl | rfl | rfl | rfl | rfl | rfl | rfl | rfl | rfl <;> exact ⟨_, rfl⟩
    exact va_alen C.1.1 C.1.2.1 C.2.1.1 w2 j kd hj ht rfl d (kk _ hK H locs ls hP hS hl)
  · exact va_tlen C.1.1 C.1.2.1 C.2.1.2.2.2.2.1.2 hS rfl d (kk _ hK H locs ls hP hS hl)
  · exact va_tlen C.1.1 C.1.2.1 (C.2.1.2.2.1 i hi).2.2.2 hS rfl d (kk _ hK H locs ls hP hS hl)
theorem gg_tens {i : Int32} {r : Option Nat} {K : Int32 → Prop} (C : FC X p l s m args meth c cc nL own) (d : decode cc pc = .ok (.baload, 1)) (hf : wTab (X.2.2.2 201) r i gTens K) (kk : ∀ v, K v → GG X p l e R s m args below meth c nL Q (k) (n) (pc + 1) (L) (.int v :: st) (g)) : GG X p l e R s m args below meth c nL Q (k) (n) (pc) (L) (.int i :: va_rf r :: st) (g) := by
  intro H locs ls hP hS hl
  obtain ⟨rfl, hin, hK⟩ := hf
  exact va_tb C.1.1 C.1.2.1 C.2.1.2.2.2.2.2.1.2 hS hin rfl d (kk _ hK H locs ls hP hS hl)
theorem gg_ones {i : Int32} {r : Option Nat} {K : Int32 → Prop} (C : FC X p l s m args meth c cc nL own) (d : decode cc pc = .ok (.baload, 1)) (hf : wTab (X.2.2.2 202) r i gOnes K) (kk : ∀ v, K v → GG X p l e R s m args below meth c nL Q (k) (n) (pc + 1) (L) (.int v :: st) (g)) : GG X p l e R s m args below meth c nL Q (k) (n) (pc) (L) (.int i :: va_rf r :: st) (g) := by
  intro H locs ls hP hS hl
  obtain ⟨rfl, hin, hK⟩ := hf
  exact va_tb C.1.1 C.1.2.1 C.2.1.2.2.2.2.2.2.1.2 hS hin rfl d (kk _ hK H locs ls hP hS hl)
theorem gg_s_compact {idx : Nat} (C : FC X p l s m args meth c cc nL own) (d : decode cc pc = .ok (.getstatic idx, 3)) (hw : Cond.fieldLink own idx "java/lang/String" "COMPACT_STRINGS" "Z" ∈ TBL) (kk : GG X p l e R s m args below meth c nL Q (k) (n) (pc + 3) (L) (.int 1 :: st) (g)) : GG X p l e R s m args below meth c nL Q (k) (n) (pc) (L) (st) (g) :=
  fun H locs ls hP hS hl => va_gets C.1.1 C.1.2.1 C.2.1.2.2.2.1 hS C.1.2.2.2.1 (C.1.2.2.2.2 _ hw) (fun _ h => h) d (kk H locs ls hP hS hl)
theorem gg_s_empty {idx : Nat} (C : FC X p l s m args meth c cc nL own) (d : decode cc pc = .ok (.getstatic idx, 3)) (hw : Cond.fieldLink own idx "java/util/ArrayList" "DEFAULTCAPACITY_EMPTY_ELEMENTDATA" "[Ljava/lang/Object;" ∈ TBL) (kk : GG X p l e R s m args below meth c nL Q (k) (n) (pc + 3) (L) (va_rf (some (X.2.2.2 200)) :: st) (g)) : GG X p l e R s m args below meth c nL Q (k) (n) (pc) (L) (st) (g) :=
  fun H locs ls hP hS hl => va_gets C.1.1 C.1.2.1 C.2.1.2.2.2.2.1.1 hS C.1.2.2.2.1 (C.1.2.2.2.2 _ hw) (fun _ h => h) d (kk H locs ls hP hS hl)
theorem gg_s_gtens {idx : Nat} (C : FC X p l s m args meth c cc nL own) (d : decode cc pc = .ok (.getstatic idx, 3)) (hw : Cond.fieldLink own idx "java/lang/Integer" "DigitTens" "[B" ∈ TBL) (kk : GG X p l e R s m args below meth c nL Q (k) (n) (pc + 3) (L) (va_rf (some (X.2.2.2 201)) :: st) (g)) : GG X p l e R s m args below meth c nL Q (k) (n) (pc) (L) (st) (g) :=
  fun H locs ls hP hS hl => va_gets C.1.1 C.1.2.1 C.2.1.2.2.2.2.2.1.1 hS C.1.2.2.2.1 (C.1.2.2.2.2 _ hw) (fun _ h => h) d (kk H locs ls hP hS hl)
theorem gg_s_gones {idx : Nat} (C : FC X p l s m args meth c cc nL own) (d : decode cc pc = .ok (.getstatic idx, 3)) (hw : Cond.fieldLink own idx "java/lang/Integer" "DigitOnes" "[B" ∈ TBL) (kk : GG X p l e R s m args below meth c nL Q (k) (n) (pc + 3) (L) (va_rf (some (X.2.2.2 202)) :: st) (g)) : GG X p l e R s m args below meth c nL Q (k) (n) (pc) (L) (st) (g) :=
  fun H locs ls hP hS hl => va_gets C.1.1 C.1.2.1 C.2.1.2.2.2.2.2.2.1.1 hS C.1.2.2.2.1 (C.1.2.2.2.2 _ hw) (fun _ h => h) d (kk H locs ls hP hS hl)
theorem gg_s_any {idx : Nat} (C : FC X p l s m args meth c cc nL own) (d : decode cc pc = .ok (.getstatic idx, 3)) (hw : Cond.fieldLink own idx "jdk/internal/util/Preconditions" "SIOOBE_FORMATTER" "Ljava/util/function/BiFunction;" ∈ TBL) (kk : ∀ r : Option Nat, GG X p l e R s m args below meth c nL Q (k) (n) (pc + 3) (L) (va_rf r :: st) (g)) : GG X p l e R s m args below meth c nL Q (k) (n) (pc) (L) (st) (g) := by
  intro H locs ls hP hS hl
  rcases C.2.1.2.2.2.2.2.2.2.2.1 with h | ⟨t, h⟩
  · exact va_gets C.1.1 C.1.2.1 h hS C.1.2.2.2.1 (C.1.2.2.2.2 _ hw) (fun _ h => h) d (kk none H locs ls hP hS hl)
  · exact va_gets C.1.1 C.1.2.1 h hS C.1.2.2.2.1 (C.1.2.2.2.2 _ hw) (fun _ h => h) d (kk (some t) H locs ls hP hS hl)
def wStr (X : Cx) (r : Option Nat) (K : Nat → Prop) : Prop := ∃ i : Nat, i < gLen.length ∧ r = some (X.2.2.2 i) ∧ K i
theorem gg_strValue {idx : Nat} {r : Option Nat} {K : Nat → Prop} (C : FC X p l s m args meth c cc nL own) (d : decode cc pc = .ok (.getfield idx, 3)) (hw : Cond.fieldLink own idx "java/lang/String" "value" "[B" ∈ TBL) (hf : wStr X r K) (kk : ∀ i, K i → GG X p l e R s m args below meth c nL Q (k) (n) (pc + 3) (L) (va_rf (some (X.2.2.2 (100 + i))) :: st) (g)) : GG X p l e R s m args below meth c nL Q (k) (n) (pc) (L) (va_rf r :: st) (g) := by
  intro H locs ls hP hS hl
  obtain ⟨i, hi, rfl, hK⟩ := hf
  exact vk_getf C.1.1 C.1.2.1 (C.2.1.2.2.1 i hi).2.2.1 hS C.1.2.2.2.1 (C.1.2.2.2.2 _ hw) (fun _ h => h) d (kk i hK H locs ls hP hS hl)
theorem gg_strCoder {idx : Nat} {r : Option Nat} {K : Prop} (C : FC X p l s m args meth c cc nL own) (d : decode cc pc = .ok (.getfield idx, 3)) (hw : Cond.fieldLink own idx "java/lang/String" "coder" "B" ∈ TBL) (hf : wStr X r (fun _ => K)) (kk : K → GG X p l e R s m args below meth c nL Q (k) (n) (pc + 3) (L) (.int 0 :: st) (g)) : GG X p l e R s m args below meth c nL Q (k) (n) (pc) (L) (va_rf r :: st) (g) := by
  intro H locs ls hP hS hl
  obtain ⟨i, hi, rfl, hK⟩ := hf
  exact vk_getf C.1.1 C.1.2.1 (C.2.1.2.2.1 i hi).2.1 hS C.1.2.2.2.1 (C.1.2.2.2.2 _ hw) (fun _ h => h) d (kk hK H locs ls hP hS hl)
def gNk (own : String) (idx ci N : Nat) (fs : List Value) : Prop := ∃ (C : String) (T : u_T) (ty : Nat → FieldType), gCl[ci]? = some (C, T, N) ∧ (∀ w ∈ u_ws C T N, w ∈ TBL) ∧ (∀ k, k < N → parseFieldDescriptor (T k).2.2.1 = some (ty k)) ∧ Cond.classLink own idx C ∈ TBL ∧ Cond.instantiable C N ∈ TBL ∧ Cond.initialized C ∈ TBL ∧ ∀ j, j < N → defaultValue (ty j) = vp_V fs j
def wNew (X : Cx) (g : GM) (e : GE) (K : Nat → GM → Prop) : Prop := ∀ q : Nat, g q = none → X.2.2.1 ≤ q → K q (gup g q e)
theorem gg_new {idx ci N k' n' : Nat} {fs : List Value} {K : Nat → GM → Prop} (C : FC X p l s m args meth c cc nL own) (d : decode cc pc = .ok (.new idx, 3)) (hk : gNk own idx ci N fs) (h1 : k + 1 ≤ R.cells) (h2 : n + N ≤ R.slots) (e1 : k + 1 = k') (e2 : n + N = n') (hf : wNew X g (.inr (ci, fs)) K) (kk : ∀ q g', K q g' → GG X p l e R s m args below meth c nL Q (k') (n') (pc + 3) (L) (va_rf (some q) :: st) (g')) : GG X p l e R s m args below meth c nL Q (k) (n) (pc) (L) (st) (g) := by
  intro H locs ls hP hS hl
  subst e1 e2
  obtain ⟨Cn, T, ty, a1, a2, a3, a4, a5, a6, a7⟩ := hk
  obtain ⟨ws, w1, w2, w3⟩ := id hP
  refine va_new C.1.1 C.1.2.1 C.1.2.2.2.2 a2 ty a3 C.1.2.2.2.1 (C.1.2.2.2.2 _ a4) (C.1.2.2.2.2 _ a5) (C.1.2.2.2.2 _ a6) C.2.1.1 w2 w3 hS (fun q h => Nat.le_trans C.2.2.2.2 h) a1 a7 h1 h2 d (fun q H1 q1 q2 q3 => ?_)
  obtain ⟨b1, b2⟩ := gP.push (e := .inr (ci, fs)) w1 rfl q1 q2
  exact kk q _ (hf q b2 (q2.2 ws.length (q, .inr (ci, fs)) (by simp))) H1 locs ls b1 q3 hl
theorem gg_newarr {at' : ArrayType} {kd cap k' n' : Nat} {ty : FieldType} {x : Nat → vp_A} {len : Int32} {K : Nat → GM → Prop} (C : FC X p l s m args meth c cc nL own) (d : decode cc pc = .ok (.newarray at', 2)) (hw : Cond.arrayClass (newarray.typeOf at') ∈ TBL) (hty : newarray.typeOf at' = ty) (ht : (gTys X.2.1)[kd]? = some (X.2.1 kd, ty)) (hx : ∀ (N : Nat) (cA : ClassId), vp_cell cA (x N) = arrV cA N (fun _ => defaultValue ty)) (hb : cap * componentBytes ty ≤ 536870912) (h1 : k + 1 ≤ R.cells) (h2 : n + cap ≤ R.slots) (e1 : k + 1 = k') (e2 : n + cap = n')
    (hf : ¬ len < 0 ∧ len.toNatClampNeg ≤ cap ∧ ∀ q : Nat, g q = none → X.2.2.1 ≤ q → K q (gup g q (.inl (kd, x len.toNatClampNeg)))) (kk : ∀ q g', K q g' → GG X p l e R s m args below meth c nL Q (k') (n') (pc + 2) (L) (va_rf (some q) :: st) (g')) : GG X p l e R s m args below meth c nL Q (k) (n) (pc) (L) (.int len :: st) (g) := by
  intro H locs ls hP hS hl
  subst e1 e2
  obtain ⟨f1, f2, f3⟩ := hf
  obtain ⟨ws, w1, w2, w3⟩ := id hP
  refine va_newa C.1.1 C.1.2.1 (C.1.2.2.2.2 _ hw) hty C.2.1.1 w2 w3 hS (fun q h => Nat.le_trans C.2.2.2.2 h) (a0 := x len.toNatClampNeg) (hx _) f1 rfl (Nat.le_trans (Nat.mul_le_mul_right _ f2) hb) h1 (by omega) d (fun q cA H1 q0 q1 q2 q3 => ?_)
  have hcA : cA = X.2.1 kd := va_RA_inj (q0.2 (gTys X.2.1).length (cA, ty) (by simp [gTys])).2 (C.2.1.1.2 kd _ ht).2
  subst hcA
  obtain ⟨b1, b2⟩ := gP.push (e := .inl (kd, x len.toNatClampNeg)) w1 rfl q1 q2
  exact W.widen (Nat.le_refl _) (by omega) (kk q _ (f3 q b2 (q2.2 ws.length (q, _) List.getElem?_concat_length)) H1 locs ls b1 q3 hl)
theorem gg_newobj {idx cap k' n' : Nat} {len : Int32} {K : Nat → GM → Prop} (C : FC X p l s m args meth c cc nL own) (d : decode cc pc = .ok (.anewarray idx, 3)) (hw : Cond.classLink own idx "java/lang/Object" ∈ TBL) (hb : cap * 4 ≤ 536870912) (h1 : k + 1 ≤ R.cells) (h2 : n + cap ≤ R.slots) (e1 : k + 1 = k') (e2 : n + cap = n')
    (hf : ¬ len < 0 ∧ len.toNatClampNeg ≤ cap ∧ ∀ q : Nat, g q = none → X.2.2.1 ≤ q → K q (gup g q (.inl (4, len.toNatClampNeg, .inr (.inr (.inr (.inr (fun _ => none)))))))) (kk : ∀ q g', K q g' → GG X p l e R s m args below meth c nL Q (k') (n') (pc + 3) (L) (va_rf (some q) :: st) (g')) : GG X p l e R s m args below meth c nL Q (k) (n) (pc) (L) (.int len :: st) (g) := by
  intro H locs ls hP hS hl
  subst e1 e2
  obtain ⟨f1, f2, f3⟩ := hf
  obtain ⟨ws, w1, w2, w3⟩ := id hP
  refine va_newq C.1.1 C.1.2.1 C.1.2.2.2.1 (C.1.2.2.2.2 _ hw) C.2.1.2.2.2.2.2.2.2.2.2.1.1 C.2.1.1 w2 w3 hS (fun q h => Nat.le_trans C.2.2.2.2 h) f1 rfl (by omega) h1 (by omega) d (fun q cA H1 q0 q1 q2 q3 => ?_)
  have hcA : cA = X.2.1 4 := va_RA_inj (q0.2 (gTys X.2.1).length (cA, .object "java/lang/Object") (by simp [gTys])).2 (C.2.1.1.2 4 _ rfl).2
  subst hcA
  obtain ⟨b1, b2⟩ := gP.push (e := .inl (4, len.toNatClampNeg, .inr (.inr (.inr (.inr (fun _ => none)))))) w1 rfl q1 q2
  exact W.widen (Nat.le_refl _) (by omega) (kk q _ (f3 q b2 (q2.2 ws.length (q, _) List.getElem?_concat_length)) H1 locs ls b1 q3 hl)
def wIs (g : GM) (r : Option Nat) (ci : Nat) (K : Prop) : Prop := ∃ (a : Nat) (fs : List Value), r = some a ∧ g a = some (.inr (ci, fs)) ∧ K
theorem gg_recv {H : Heap} (C : FC X p l s m args meth c cc nL own) (hP : gP X g H) {a ci : Nat} {fs : List Value} {q : vw_C} (hg : g a = some (.inr (ci, fs))) (hc : gCl[ci]? = some q) : ∃ cell : Cell, H[a]? = some cell ∧ cell.vm.isStatics = false ∧ s.vm.findClass q.1 = some cell.cls := by
  obtain ⟨ws, w1, w2, w3⟩ := hP
  obtain ⟨j, hj⟩ := w1 a _ hg
  exact va_recv C.2.1.1 w2 hc hj
theorem gg_ccast {idx ci : Nat} {q : vw_C} {r : Option Nat} {K : Prop} (C : FC X p l s m args meth c cc nL own) (d : decode cc pc = .ok (.checkcast idx, 3)) (hc : gCl[ci]? = some q) (hw : Cond.classLink own idx q.1 ∈ TBL) (hf : wIs g r ci K) (kk : K → GG X p l e R s m args below meth c nL Q (k) (n) (pc + 3) (L) (va_rf r :: st) (g)) : GG X p l e R s m args below meth c nL Q (k) (n) (pc) (L) (va_rf r :: st) (g) := by
  intro H locs ls hP hS hl
  obtain ⟨a, fs, rfl, hg, hK⟩ := hf
  exact va_castS C.1.1 C.1.2.1 C.1.2.2.2.1 (C.1.2.2.2.2 _ hw) (C.2.1.1.1 ci _ hc).2 (gg_recv C hP hg hc) d (kk hK H locs ls hP hS hl)
theorem gg_getClass {idx : Nat} {r : Option Nat} {K : Prop} (C : FC X p l s m args meth c cc nL own) (d : decode cc pc = .ok (.invokevirtual idx, 3)) (hw : Cond.methodLink own idx ⟨"java/lang/Object", "getClass", "()Ljava/lang/Class;"⟩ ∈ TBL) (hw2 : Cond.declares ⟨"java/lang/Object", "getClass", "()Ljava/lang/Class;"⟩ ∈ gBad) (hw3 : Cond.selects "[Ljava/lang/Object;" ⟨"java/lang/Object", "getClass", "()Ljava/lang/Class;"⟩ ⟨"java/lang/Object", "getClass", "()Ljava/lang/Class;"⟩ ∈ TBL) (hw4 : Cond.instanceMethod ⟨"java/lang/Object", "getClass", "()Ljava/lang/Class;"⟩ ∈ TBL) (hw5 : Cond.native ⟨"java/lang/Object", "getClass", "()Ljava/lang/Class;"⟩ ∈ TBL) (hR1 : 1 ≤ R.frames) (hR2 : (st.map fun v => v.category).sum + 14 ≤ R.locals)
    (hf : ∃ (a N : Nat) (f : Nat → Option Nat), r = some a ∧ g a = some (.inl (4, N, .inr (.inr (.inr (.inr f))))) ∧ K) (kk : K → GG X p l e R s m args below meth c nL Q (k) (n) (pc + 3) (L) (va_rf (some (X.2.2.2 203)) :: st) (g)) : GG X p l e R s m args below meth c nL Q (k) (n) (pc) (L) (va_rf r :: st) (g) := by
  intro H locs ls hP hS hl
  obtain ⟨a, N, f, rfl, hg, hK⟩ := hf
  obtain ⟨ws, w1, w2, w3⟩ := id hP
  obtain ⟨j, hj⟩ := w1 a _ hg
  have hra := (C.2.1.1.2 4 _ rfl).2
  obtain ⟨_, _, -, -, -, e4⟩ := hra
  exact va_getC C.1.1 C.1.2.1 (C.1.2.2.1.trans hl.1.symm) C.1.2.2.2.1 (C.1.2.2.2.2 _ hw) (gBad_use rfl (C.2.1.2.2.2.2.2.2.2.2.2.2.2.2.1 _ hw2) args) (C.1.2.2.2.2 _ hw3) (C.1.2.2.2.2 _ hw4) (C.1.2.2.2.2 _ hw5) C.2.1.2.2.2.2.2.2.2.1 ⟨_, w2 j _ hj, rfl, (by rw [show ("[Ljava/lang/Object;" : String) = "[" ++ (FieldType.object "java/lang/Object").toString by decide +kernel]; exact e4)⟩ hR1 hR2 d (kk hK H locs ls hP hS hl)
def wCpyB (g : GM) (src : Option Nat) (sp : Int32) (dst : Option Nat) (dp n : Int32) (K : GM → Prop) : Prop := ∃ (a0 n0 a1 n1 : Nat) (f f1 : Nat → Int32), src = some a0 ∧ g a0 = some (.inl (2, n0, .inl f)) ∧ dst = some a1 ∧ g a1 = some (.inl (2, n1, .inl f1)) ∧ ¬ sp < 0 ∧ ¬ dp < 0 ∧ ¬ n < 0 ∧ sp.toNatClampNeg + n.toNatClampNeg ≤ n0 ∧ dp.toNatClampNeg + n.toNatClampNeg ≤ n1 ∧ (∀ i, i < n.toNatClampNeg → fits .byte (.int (f (sp.toNatClampNeg + i))) = true) ∧ K (gup g a1 (.inl (2, n1, .inl (va_cpy f f1 sp.toNatClampNeg dp.toNatClampNeg n.toNatClampNeg))))
def wCpyQ (g : GM) (src : Option Nat) (sp : Int32) (dst : Option Nat) (dp n : Int32) (K : GM → Prop) : Prop := ∃ (a0 n0 a1 n1 : Nat) (f f1 : Nat → Option Nat), src = some a0 ∧ g a0 = some (.inl (4, n0, .inr (.inr (.inr (.inr f))))) ∧ dst = some a1 ∧ g a1 = some (.inl (4, n1, .inr (.inr (.inr (.inr f1))))) ∧ ¬ sp < 0 ∧ ¬ dp < 0 ∧ ¬ n < 0 ∧ sp.toNatClampNeg + n.toNatClampNeg ≤ n0 ∧ dp.toNatClampNeg + n.toNatClampNeg ≤ n1 ∧ (∀ i, i < n.toNatClampNeg → ∀ y, f (sp.toNatClampNeg + i) = some y → ∃ (ci : Nat) (fs : List Value), g y = some (.inr (ci, fs)) ∧ ci < 11) ∧ K (gup g a1 (.inl (4, n1, .inr (.inr (.inr (.inr (va_cpy f f1 sp.toNatClampNeg dp.toNatClampNeg n.toNatClampNeg)))))))
def wCpyS (X : Cx) (g : GM) (src : Option Nat) (sp : Int32) (dst : Option Nat) (dp n : Int32) (K : GM → Prop) : Prop := ∃ (j a1 n1 : Nat) (f1 : Nat → Int32), src = some (X.2.2.2 (100 + j)) ∧ j < gLen.length ∧ dst = some a1 ∧ g a1 = some (.inl (2, n1, .inl f1)) ∧ ¬ sp < 0 ∧ ¬ dp < 0 ∧ ¬ n < 0 ∧ sp.toNatClampNeg + n.toNatClampNeg ≤ gLen.getD j 0 ∧ dp.toNatClampNeg + n.toNatClampNeg ≤ n1 ∧ (∀ i, i < n.toNatClampNeg → fits .byte (.int ((gByt.getD j []).getD (sp.toNatClampNeg + i) 0)) = true) ∧ K (gup g a1 (.inl (2, n1, .inl (va_cpy (fun i => (gByt.getD j []).getD i 0) f1 sp.toNatClampNeg dp.toNatClampNeg n.toNatClampNeg))))
theorem gg_cpyB {idx : Nat} {src dst : Option Nat} {sp dp z : Int32} {K : GM → Prop} (C : FC X p l s m args meth c cc nL own) (d : decode cc pc = .ok (.invokestatic idx, 3)) (hw : Cond.methodLink own idx arraycopyName ∈ TBL) (hw2 : Cond.native arraycopyName ∈ TBL) (hw3 : Cond.static arraycopyName ∈ TBL) (hw4 : Cond.initialized "java/lang/System" ∈ TBL) (hR1 : 1 ≤ R.frames) (hR2 : (st.map fun v => v.category).sum + (nativeFrameWords "java/lang/System" "arraycopy" 5 + 11) ≤ R.locals) (hf : wCpyB g src sp dst dp z K) (kk : ∀ g', K g' → GG X p l e R s m args below meth c nL Q (k) (n) (pc + 3) (L) (st) (g')) : GG X p l e R s m args below meth c nL Q (k) (n) (pc) (L) (.int z :: .int dp :: va_rf dst :: .int sp :: va_rf src :: st) (g) := by
  intro H locs ls hP hS hl
  obtain ⟨a0, n0, a1, n1, f, f1, rfl, h0, rfl, h1, b1, b2, b3, b4, b5, b6, hK⟩ := hf
  obtain ⟨ws, w1, w2, w3⟩ := id hP
  obtain ⟨j0, hj0⟩ := w1 a0 _ h0
  obtain ⟨j1, hj1⟩ := w1 a1 _ h1
  exact va_copyi C.1.1 C.1.2.1 (C.1.2.2.1.trans hl.1.symm) C.1.2.2.2.1 (C.1.2.2.2.2 _ hw) (C.1.2.2.2.2 _ hw2) (C.1.2.2.2.2 _ hw3) (C.1.2.2.2.2 _ hw4) C.2.1.1 w2 w3 hS j0 j1 2 2 hj0 hj1 rfl rfl rfl b1 b2 b3 b4 b5 b6 hR1 hR2 d (fun H1 locs1 q1 q2 q3 => kk _ hK H1 locs1 ls (gP.put w1 hj1 w3 rfl q1 q2) q3 hl)
theorem gg_cpyQ {idx : Nat} {src dst : Option Nat} {sp dp z : Int32} {K : GM → Prop} (C : FC X p l s m args meth c cc nL own) (d : decode cc pc = .ok (.invokestatic idx, 3)) (hw : Cond.methodLink own idx arraycopyName ∈ TBL) (hw2 : Cond.native arraycopyName ∈ TBL) (hw3 : Cond.static arraycopyName ∈ TBL) (hw4 : Cond.initialized "java/lang/System" ∈ TBL) (hR1 : 1 ≤ R.frames) (hR2 : (st.map fun v => v.category).sum + (nativeFrameWords "java/lang/System" "arraycopy" 5 + 11) ≤ R.locals) (hf : wCpyQ g src sp dst dp z K) (kk : ∀ g', K g' → GG X p l e R s m args below meth c nL Q (k) (n) (pc + 3) (L) (st) (g')) : GG X p l e R s m args below meth c nL Q (k) (n) (pc) (L) (.int z :: .int dp :: va_rf dst :: .int sp :: va_rf src :: st) (g) := by
  intro H locs ls hP hS hl
  obtain ⟨a0, n0, a1, n1, f, f1, rfl, h0, rfl, h1, b1, b2, b3, b4, b5, b6, hK⟩ := hf
  have hany : ∀ i : Nat, i < z.toNatClampNeg → ∀ y : Nat, f (sp.toNatClampNeg + i) = some y → va_Any "java/lang/Object" s H y := fun i hi y hy => by
    obtain ⟨ci, fs, e1, e2⟩ := b6 i hi y hy
    exact gg_any C hP e1 e2
  obtain ⟨ws, w1, w2, w3⟩ := id hP
  obtain ⟨j0, hj0⟩ := w1 a0 _ h0
  obtain ⟨j1, hj1⟩ := w1 a1 _ h1
  exact va_copyM C.1.1 C.1.2.1 (C.1.2.2.1.trans hl.1.symm) C.1.2.2.2.1 (C.1.2.2.2.2 _ hw) (C.1.2.2.2.2 _ hw2) (C.1.2.2.2.2 _ hw3) (C.1.2.2.2.2 _ hw4) C.2.1.1 w2 w3 hS j0 j1 4 4 hj0 hj1 rfl rfl b1 b2 b3 b4 b5 hany hR1 hR2 d (fun H1 locs1 q1 q2 q3 => kk _ hK H1 locs1 ls (gP.put w1 hj1 w3 rfl q1 q2) q3 hl)
theorem gg_cpyS {idx : Nat} {src dst : Option Nat} {sp dp z : Int32} {K : GM → Prop} (C : FC X p l s m args meth c cc nL own) (d : decode cc pc = .ok (.invokestatic idx, 3)) (hw : Cond.methodLink own idx arraycopyName ∈ TBL) (hw2 : Cond.native arraycopyName ∈ TBL) (hw3 : Cond.static arraycopyName ∈ TBL) (hw4 : Cond.initialized "java/lang/System" ∈ TBL) (hR1 : 1 ≤ R.frames) (hR2 : (st.map fun v => v.category).sum + (nativeFrameWords "java/lang/System" "arraycopy" 5 + 11) ≤ R.locals) (hf : wCpyS X g src sp dst dp z K) (kk : ∀ g', K g' → GG X p l e R s m args below meth c nL Q (k) (n) (pc + 3) (L) (st) (g')) : GG X p l e R s m args below meth c nL Q (k) (n) (pc) (L) (.int z :: .int dp :: va_rf dst :: .int sp :: va_rf src :: st) (g) := by
  intro H locs ls hP hS hl
  obtain ⟨j, a1, n1, f1, rfl, hjl, rfl, h1, b1, b2, b3, b4, b5, b6, hK⟩ := hf
  obtain ⟨ws, w1, w2, w3⟩ := id hP
  obtain ⟨j1, hj1⟩ := w1 a1 _ h1
  exact vk_copyt C.1.1 C.1.2.1 (C.1.2.2.1.trans hl.1.symm) C.1.2.2.2.1 (C.1.2.2.2.2 _ hw) (C.1.2.2.2.2 _ hw2) (C.1.2.2.2.2 _ hw3) (C.1.2.2.2.2 _ hw4) C.2.1.1 w2 w3 hS (f := fun i => (gByt.getD j []).getD i 0) (C.2.1.2.2.1 j hjl).2.2.2 j1 2 hj1 rfl b1 b2 b3 b4 b5 b6 hR1 hR2 d (fun H1 locs1 q1 q2 q3 => kk _ hK H1 locs1 ls (gP.put w1 hj1 w3 rfl q1 q2) q3 hl)
theorem gg_f2raw {idx : Nat} {b : UInt32} (C : FC X p l s m args meth c cc nL own) (d : decode cc pc = .ok (.invokestatic idx, 3)) (hw : Cond.methodLink own idx ⟨"java/lang/Float", "floatToRawIntBits", "(F)I"⟩ ∈ TBL) (hw2 : Cond.native ⟨"java/lang/Float", "floatToRawIntBits", "(F)I"⟩ ∈ TBL) (hw3 : Cond.static ⟨"java/lang/Float", "floatToRawIntBits", "(F)I"⟩ ∈ TBL) (hw4 : Cond.initialized "java/lang/Float" ∈ TBL) (hR1 : 1 ≤ R.frames) (hR2 : (st.map fun v => v.category).sum + 15 ≤ R.locals) (kk : GG X p l e R s m args below meth c nL Q (k) (n) (pc + 3) (L) (.int b.toInt32 :: st) (g)) : GG X p l e R s m args below meth c nL Q (k) (n) (pc) (L) (.float b :: st) (g) :=
  fun H locs ls hP hS hl => vn_f2i C.1.1 C.1.2.1 (C.1.2.2.1.trans hl.1.symm) C.1.2.2.2.1 (C.1.2.2.2.2 _ hw) (C.1.2.2.2.2 _ hw2) (C.1.2.2.2.2 _ hw3) (C.1.2.2.2.2 _ hw4) hR1 hR2 d (kk H locs ls hP hS hl)
theorem gg_d2raw {idx : Nat} {b : UInt64} (C : FC X p l s m args meth c cc nL own) (d : decode cc pc = .ok (.invokestatic idx, 3)) (hw : Cond.methodLink own idx ⟨"java/lang/Double", "doubleToRawLongBits", "(D)J"⟩ ∈ TBL) (hw2 : Cond.native ⟨"java/lang/Double", "doubleToRawLongBits", "(D)J"⟩ ∈ TBL) (hw3 : Cond.static ⟨"java/lang/Double", "doubleToRawLongBits", "(D)J"⟩ ∈ TBL) (hw4 : Cond.initialized "java/lang/Double" ∈ TBL) (hR1 : 1 ≤ R.frames) (hR2 : (st.map fun v => v.category).sum + 15 ≤ R.locals) (kk : GG X p l e R s m args below meth c nL Q (k) (n) (pc + 3) (L) (.long b.toInt64 :: st) (g)) : GG X p l e R s m args below meth c nL Q (k) (n) (pc) (L) (.double b :: st) (g) :=
  fun H locs ls hP hS hl => vn_d2l C.1.1 C.1.2.1 (C.1.2.2.1.trans hl.1.symm) C.1.2.2.2.1 (C.1.2.2.2.2 _ hw) (C.1.2.2.2.2 _ hw2) (C.1.2.2.2.2 _ hw3) (C.1.2.2.2.2 _ hw4) hR1 hR2 d (kk H locs ls hP hS hl)
def gRun (X : Cx) (p : Program) (l : Launch) (e : Env) (R : Room) (s : State) (m : MethodId) (args : Array Value) (below : List Frame) (meth : Method) (c : Code) (nL : Nat) (k n mc ms pc : Nat) (L : GL) (st0 rest : List Value) (g : GM) (Qa : State → Outcome → State → Prop) (px : String → GM → Prop) : Prop :=
  ∀ (H : Heap) (locs : List Loc) (ls : Array Slot), gP X g H → va_S (gA X) s.heap H locs → gl ls nL L → vx_Run p l e R s m args below meth c H locs k n mc ms (F0 m pc ls st0) rest Qa (gXC X px) (gA X)
theorem gP.pre {H : Heap} {locs : List Loc} (C : FC X p l s m args meth c cc nL own) (hP : gP X g H) (hS : va_S (gA X) s.heap H locs) (As : List Value) : ∀ U : State, U.heap = H → s.WarmedH U.vm → gPc X As g As.toArray U := by
  intro U hU hW
  subst hU
  exact ⟨rfl, hP, C.2.1.go hW hS.2.1, Nat.le_trans C.2.2.2.2 hS.1⟩
abbrev gDesc (y : MethodName) (nA : Nat) : Prop := y.cls ≠ "java/lang/invoke/MethodHandle" ∧ y.cls ≠ "java/lang/invoke/VarHandle" ∧ (parseMethodDescriptor y.desc).map (fun d => d.parameters.length) = some nA
theorem gk_V {y : MethodName} {b : ByteArray} {maxL idx nA : Nat} {ret : Option FieldType} {rm : Room} {Qc : Array Value → State → Outcome → State → Prop} {px : String → GM → Prop} {As rest : List Value} {ci : Nat} {q : vw_C} {r : Option Nat} {K : Prop} (C : FC X p l s m args meth c cc nL own) (d : decode cc pc = .ok (.invokevirtual idx, 3)) (hc : gCl[ci]? = some q) (hq : q.1 = y.cls) (w1 : Cond.methodLink own idx y ∈ TBL) (w2 : Cond.instanceMethod y ∈ TBL) (w3 : Cond.selects y.cls y y ∈ TBL) (w4 : Cond.initialized y.cls ∈ TBL) (w5 : Cond.code y b maxL ret ∈ TBL) (hd : gDesc y nA) (hn : As.length = nA) (hR : rm.frames + 1 ≤ R.frames ∧ 8 + (maxL + 11) + rm.locals ≤ R.locals) (hW : (rest.map fun v => v.category).sum ≤ 8) (hb : k + rm.cells ≤ R.cells ∧ n + rm.slots ≤ R.slots) (hf : wIs g r ci K) (hM : K → gMet X l y b maxL ret rm (va_rf r :: As) g Qc px) : gRun X p l e R s m args below meth c nL k n rm.cells rm.slots pc L (As.reverse ++ va_rf r :: rest) rest g (Qc (va_rf r :: As).toArray) px := by
  intro H locs ls hP hS hl
  obtain ⟨a, fs, rfl, hg, hK⟩ := hf
  exact vx_runV (C := y.cls) (b := a) C.1 (hM hK) (cwV nA C.1.2.2.2.2 (TBL_in (by intro w hw; simp only [wsV, gws, List.cons_append, List.nil_append, List.mem_cons] at hw; rcases hw with rfl | rfl | rfl | rfl | rfl | hw <;> assumption)) rfl rfl rfl ⟨rfl, hd.1, hd.2.1, hd.2.2⟩ hR) ⟨gPc_blind _ _ _, hq ▸ gg_recv C hP hg hc, gP.pre C hP hS _⟩ rfl hn hl.1 rfl (lv_room hW) d hb
theorem gk_VS {y : MethodName} {b : ByteArray} {maxL idx nA : Nat} {ret : Option FieldType} {rm : Room} {Qc : Array Value → State → Outcome → State → Prop} {px : String → GM → Prop} {As rest : List Value} {r : Option Nat} {K : Nat → Prop} (C : FC X p l s m args meth c cc nL own) (d : decode cc pc = .ok (.invokevirtual idx, 3)) (hq : y.cls = "java/lang/String") (w1 : Cond.methodLink own idx y ∈ TBL) (w2 : Cond.instanceMethod y ∈ TBL) (w3 : Cond.selects y.cls y y ∈ TBL) (w4 : Cond.initialized y.cls ∈ TBL) (w5 : Cond.code y b maxL ret ∈ TBL) (hd : gDesc y nA) (hn : As.length = nA) (hR : rm.frames + 1 ≤ R.frames ∧ 8 + (maxL + 11) + rm.locals ≤ R.locals) (hW : (rest.map fun v => v.category).sum ≤ 8) (hb : k + rm.cells ≤ R.cells ∧ n + rm.slots ≤ R.slots) (hf : wStr X r K) (hM : (i : Nat) → K i → gMet X l y b maxL ret rm (va_rf r :: As) g Qc px) : gRun X p l e R s m args below meth c nL k n rm.cells rm.slots pc L (As.reverse ++ va_rf r :: rest) rest g (Qc (va_rf r :: As).toArray) px := by
  intro H locs ls hP hS hl
  obtain ⟨i, hi, rfl, hK⟩ := hf
  refine vx_runV (C := y.cls) (b := X.2.2.2 i) C.1 (hM i hK) (cwV nA C.1.2.2.2.2 (TBL_in (by intro w hw; simp only [wsV, gws, List.cons_append, List.nil_append, List.mem_cons] at hw; rcases hw with rfl | rfl | rfl | rfl | rfl | hw <;> assumption)) rfl rfl rfl ⟨rfl, hd.1, hd.2.1, hd.2.2⟩ hR) ⟨gPc_blind _ _ _, ?_, gP.pre C hP hS _⟩ rfl hn hl.1 rfl (lv_room hW) d hb
  have ho := (C.2.1.2.2.1 i hi).1
  obtain ⟨cell, o1, o2, o3, o4⟩ := ho.kept hS.2.1
  exact ⟨cell, o1, o2, by rw [hq]; exact o3⟩
theorem gk_S {y : MethodName} {b : ByteArray} {maxL idx nA : Nat} {ret : Option FieldType} {rm : Room} {Qc : Array Value → State → Outcome → State → Prop} {px : String → GM → Prop} {As rest : List Value} (C : FC X p l s m args meth c cc nL own) (d : decode cc pc = .ok (.invokestatic idx, 3)) (w1 : Cond.methodLink own idx y ∈ TBL) (w2 : Cond.static y ∈ TBL) (w4 : Cond.initialized y.cls ∈ TBL) (w5 : Cond.code y b maxL ret ∈ TBL) (hd : gDesc y nA) (hn : As.length = nA) (hR : rm.frames + 1 ≤ R.frames ∧ 8 + (maxL + 11) + rm.locals ≤ R.locals) (hW : (rest.map fun v => v.category).sum ≤ 8) (hb : k + rm.cells ≤ R.cells ∧ n + rm.slots ≤ R.slots) (hM : gMet X l y b maxL ret rm As g Qc px) : gRun X p l e R s m args below meth c nL k n rm.cells rm.slots pc L (As.reverse ++ rest) rest g (Qc (As).toArray) px := by
  intro H locs ls hP hS hl
  exact vx_runS C.1 hM (va_cwS nA C.1.2.2.2.2 (TBL_in (by intro w hw; simp only [va_wsS, gws, List.cons_append, List.nil_append, List.mem_cons] at hw; rcases hw with rfl | rfl | rfl | rfl | hw <;> assumption)) rfl rfl rfl hd hR) ⟨gPc_blind _ _ _, gP.pre C hP hS _⟩ rfl hn hl.1 rfl (lv_room hW) d hb
theorem gk_SN {host : String} {y : MethodName} {b : ByteArray} {maxL idx nA : Nat} {ret : Option FieldType} {rm : Room} {Qc : Array Value → State → Outcome → State → Prop} {px : String → GM → Prop} {As rest : List Value} (C : FC X p l s m args meth c cc nL own) (d : decode cc pc = .ok (.invokestatic idx, 3)) (w1 : Cond.methodLinkNest own idx y host ∈ gBad) (w2 : Cond.static y ∈ TBL) (w4 : Cond.initialized y.cls ∈ TBL) (w5 : Cond.code y b maxL ret ∈ TBL) (hd : gDesc y nA) (hn : As.length = nA) (hR : rm.frames + 1 ≤ R.frames ∧ 8 + (maxL + 11) + rm.locals ≤ R.locals) (hW : (rest.map fun v => v.category).sum ≤ 8) (hb : k + rm.cells ≤ R.cells ∧ n + rm.slots ≤ R.slots) (hM : gMet X l y b maxL ret rm As g Qc px) : gRun X p l e R s m args below meth c nL k n rm.cells rm.slots pc L (As.reverse ++ rest) rest g (Qc (As).toArray) px := by
  intro H locs ls hP hS hl
  exact vx_runSN C.1 hM ⟨va_cnB nA C.1.2.2.2.2 (TBL_in (by intro w hw; simp only [gws, List.mem_cons] at hw; rcases hw with rfl | hw <;> assumption)) rfl rfl rfl (C.2.1.2.2.2.2.2.2.2.2.2.2.2.2.1 _ w1) (C.1.2.2.2.2 _ w4) hd hR, C.1.2.2.2.2 _ w2, trivial⟩ ⟨gPc_blind _ _ _, gP.pre C hP hS _⟩ rfl hn hl.1 rfl (lv_room hW) d hb
theorem gk_I {y : MethodName} {b : ByteArray} {maxL idx nA : Nat} {rm : Room} {Qc : Array Value → State → Outcome → State → Prop} {px : String → GM → Prop} {As rest : List Value} {a : Nat} (C : FC X p l s m args meth c cc nL own) (d : decode cc pc = .ok (.invokespecial idx, 3)) (hy : y.name = "<init>") (w1 : Cond.methodLink own idx y ∈ TBL) (w2 : Cond.instanceMethod y ∈ TBL) (w4 : Cond.initialized y.cls ∈ TBL) (w5 : Cond.code y b maxL none ∈ TBL) (hd : gDesc y nA) (hn : As.length = nA) (hR : rm.frames + 1 ≤ R.frames ∧ 8 + (maxL + 11) + rm.locals ≤ R.locals) (hW : (rest.map fun v => v.category).sum ≤ 8) (hb : k + rm.cells ≤ R.cells ∧ n + rm.slots ≤ R.slots) (hM : gMet X l y b maxL none rm (va_rf (some a) :: As) g Qc px) : gRun X p l e R s m args below meth c nL k n rm.cells rm.slots pc L (As.reverse ++ va_rf (some a) :: rest) rest g (Qc (va_rf (some a) :: As).toArray) px := by
  intro H locs ls hP hS hl
  exact vx_runI (b := a) C.1 hM (cwI nA C.1.2.2.2.2 (TBL_in (by intro w hw; simp only [gws, List.mem_cons] at hw; rcases hw with rfl | hw <;> assumption)) rfl rfl rfl (C.1.2.2.2.2 _ w4) (C.1.2.2.2.2 _ w1) (C.1.2.2.2.2 _ w2) hy hd hR) ⟨gPc_blind _ _ _, gP.pre C hP hS _⟩ rfl hn hl.1 rfl (lv_room hW) d hb
theorem gk_IN {host : String} {y : MethodName} {b : ByteArray} {maxL idx nA : Nat} {rm : Room} {Qc : Array Value → State → Outcome → State → Prop} {px : String → GM → Prop} {As rest : List Value} {a : Nat} (C : FC X p l s m args meth c cc nL own) (d : decode cc pc = .ok (.invokespecial idx, 3)) (hy : y.name = "<init>") (w1 : Cond.methodLinkNest own idx y host ∈ gBad) (w2 : Cond.instanceMethod y ∈ TBL) (w4 : Cond.initialized y.cls ∈ TBL) (w5 : Cond.code y b maxL none ∈ TBL) (hd : gDesc y nA) (hn : As.length = nA) (hR : rm.frames + 1 ≤ R.frames ∧ 8 + (maxL + 11) + rm.locals ≤ R.locals) (hW : (rest.map fun v => v.category).sum ≤ 8) (hb : k + rm.cells ≤ R.cells ∧ n + rm.slots ≤ R.slots) (hM : gMet X l y b maxL none rm (va_rf (some a) :: As) g Qc px) : gRun X p l e R s m args below meth c nL k n rm.cells rm.slots pc L (As.reverse ++ va_rf (some a) :: rest) rest g (Qc (va_rf (some a) :: As).toArray) px := by
  intro H locs ls hP hS hl
  exact vx_runIN (b := a) C.1 hM ⟨va_cnB nA C.1.2.2.2.2 (TBL_in (by intro w hw; simp only [gws, List.mem_cons] at hw; rcases hw with rfl | hw <;> assumption)) rfl rfl rfl (C.2.1.2.2.2.2.2.2.2.2.2.2.2.2.1 _ w1) (C.1.2.2.2.2 _ w4) hd hR, hy, C.1.2.2.2.2 _ w2⟩ ⟨gPc_blind _ _ _, gP.pre C hP hS _⟩ rfl hn hl.1 rfl (lv_room hW) d hb
theorem gk_U {y : MethodName} {b : ByteArray} {maxL idx nA : Nat} {ret : Option FieldType} {rm : Room} {Qc : Array Value → State → Outcome → State → Prop} {px : String → GM → Prop} {As rest : List Value} {x : MethodName} {owner Cn : String} {ci : Nat} {q : vw_C} {r : Option Nat} {K : Prop} (C : FC X p l s m args meth c cc nL own) (d : decode cc pc = .ok (.invokevirtual idx, 3)) (hc : gCl[ci]? = some q) (hq : q.1 = Cn) (w1 : Cond.methodLink own idx x ∈ TBL) (w6 : Cond.sameMethod x.cls owner x.name x.desc ∈ TBL) (w2 : Cond.instanceMethod y ∈ TBL) (w3 : Cond.selects Cn x y ∈ TBL) (w4 : Cond.initialized y.cls ∈ TBL) (w5 : Cond.code y b maxL ret ∈ TBL) (hyx : y = ⟨owner, x.name, x.desc⟩) (hd : owner ≠ "java/lang/invoke/MethodHandle" ∧ owner ≠ "java/lang/invoke/VarHandle" ∧ (parseMethodDescriptor x.desc).map (fun d => d.parameters.length) = some nA) (hn : As.length = nA) (hR : rm.frames + 1 ≤ R.frames ∧ 8 + (maxL + 11) + rm.locals ≤ R.locals) (hW : (rest.map fun v => v.category).sum ≤ 8) (hb : k + rm.cells ≤ R.cells ∧ n + rm.slots ≤ R.slots) (hf : wIs g r ci K) (hM : K → gMet X l y b maxL ret rm (va_rf r :: As) g Qc px) : gRun X p l e R s m args below meth c nL k n rm.cells rm.slots pc L (As.reverse ++ va_rf r :: rest) rest g (Qc (va_rf r :: As).toArray) px := by
  intro H locs ls hP hS hl
  obtain ⟨a, fs, rfl, hg, hK⟩ := hf
  exact vx_runU (C := Cn) (b := a) C.1 (hM hK) (va_cwU nA C.1.2.2.2.2 (TBL_in (by intro w hw; simp only [va_wsU, gws, List.cons_append, List.nil_append, List.mem_cons] at hw; rcases hw with rfl | rfl | rfl | rfl | rfl | rfl | hw <;> assumption)) rfl rfl rfl hyx hd hR) ⟨gPc_blind _ _ _, hq ▸ gg_recv C hP hg hc, gP.pre C hP hS _⟩ rfl hn hl.1 rfl (lv_room hW) d hb
theorem gk_SU {y : MethodName} {b : ByteArray} {maxL idx nA : Nat} {ret : Option FieldType} {rm : Room} {Qc : Array Value → State → Outcome → State → Prop} {px : String → GM → Prop} {As rest : List Value} {ci : Nat} {q : vw_C} {r : Option Nat} {K : Prop} (C : FC X p l s m args meth c cc nL own) (d : decode cc pc = .ok (.invokespecial idx, 3)) (hc : gCl[ci]? = some q) (w1 : Cond.methodLink own idx y ∈ TBL) (w6 : Cond.sameMethod y.cls y.cls y.name y.desc ∈ TBL) (w7 : Cond.superclass own y.cls ∈ TBL) (w2 : Cond.instanceMethod y ∈ TBL) (w4 : Cond.initialized y.cls ∈ TBL) (w5 : Cond.code y b maxL ret ∈ TBL) (hd : y.name ≠ "<init>" ∧ (parseMethodDescriptor y.desc).map (fun d => d.parameters.length) = some nA) (hn : As.length = nA) (hR : rm.frames + 1 ≤ R.frames ∧ 8 + (maxL + 11) + rm.locals ≤ R.locals) (hW : (rest.map fun v => v.category).sum ≤ 8) (hb : k + rm.cells ≤ R.cells ∧ n + rm.slots ≤ R.slots) (hf : wIs g r ci K) (hM : K → gMet X l y b maxL ret rm (va_rf r :: As) g Qc px) : gRun X p l e R s m args below meth c nL k n rm.cells rm.slots pc L (As.reverse ++ va_rf r :: rest) rest g (Qc (va_rf r :: As).toArray) px := by
  intro H locs ls hP hS hl
  obtain ⟨a, fs, rfl, hg, hK⟩ := hf
  exact vx_runSU (C := q.1) (b := a) (C.2.1.1.1 ci _ hc).2 C.1 (hM hK) (va_cwSU nA C.1.2.2.2.2 (TBL_in (by intro w hw; simp only [va_wsSU, gws, List.cons_append, List.nil_append, List.mem_cons] at hw; rcases hw with rfl | rfl | rfl | rfl | rfl | rfl | hw <;> assumption)) rfl rfl rfl hd hR) ⟨gPc_blind _ _ _, gg_recv C hP hg hc, gP.pre C hP hS _⟩ rfl hn hl.1 rfl (lv_room hW) d hb
theorem gr_I {st0 rest : List Value} {mc ms k' n' : Nat} {a : Array Value} {post : Int32 → GM → Prop} {px : String → GM → Prop} (hr : gRun X p l e R s m args below meth c nL k n mc ms pc L st0 rest g (qI X post a) px) (e1 : k + mc = k') (e2 : n + ms = n') (kx : ∀ E g', px E g' → GX X p l e R s m args below meth c nL Q k' n' pc L rest g' E) (kk : ∀ v g', post v g' → GG X p l e R s m args below meth c nL Q (k') (n') (pc + 3) (L) (.int v :: rest) (g')) : GG X p l e R s m args below meth c nL Q (k) (n) (pc) (L) (st0) (g) := by
  subst e1 e2
  exact fun H locs ls hP hS hl => vx_calli (hr H locs ls hP hS hl) hS (fun q _ h => h) (fun q h => h) (fun q _ h => h) (fun E ce q9 u t H1 locs1 ht hvm _ hB hz hk hS1 h1 h2 h3 => kx E u hB.1 H1 locs1 ls q9 ce (ht ▸ hB.2) hS1 hl h1 h2 h3) (fun v u t H1 locs1 ht hvm hp hB hz hk hS1 => kk v u hp H1 locs1 ls (ht ▸ hB) hS1 hl)
theorem gr_L {st0 rest : List Value} {mc ms k' n' : Nat} {a : Array Value} {post : Int64 → GM → Prop} {px : String → GM → Prop} (hr : gRun X p l e R s m args below meth c nL k n mc ms pc L st0 rest g (qL X post a) px) (e1 : k + mc = k') (e2 : n + ms = n') (kx : ∀ E g', px E g' → GX X p l e R s m args below meth c nL Q k' n' pc L rest g' E) (kk : ∀ v g', post v g' → GG X p l e R s m args below meth c nL Q (k') (n') (pc + 3) (L) (.long v :: rest) (g')) : GG X p l e R s m args below meth c nL Q (k) (n) (pc) (L) (st0) (g) := by
  subst e1 e2
  exact fun H locs ls hP hS hl => vx_calll (hr H locs ls hP hS hl) hS (fun q _ h => h) (fun q h => h) (fun q _ h => h) (fun E ce q9 u t H1 locs1 ht hvm _ hB hz hk hS1 h1 h2 h3 => kx E u hB.1 H1 locs1 ls q9 ce (ht ▸ hB.2) hS1 hl h1 h2 h3) (fun v u t H1 locs1 ht hvm hp hB hz hk hS1 => kk v u hp H1 locs1 ls (ht ▸ hB) hS1 hl)
theorem gr_F {st0 rest : List Value} {mc ms k' n' : Nat} {a : Array Value} {post : UInt32 → GM → Prop} {px : String → GM → Prop} (hr : gRun X p l e R s m args below meth c nL k n mc ms pc L st0 rest g (qF X post a) px) (e1 : k + mc = k') (e2 : n + ms = n') (kx : ∀ E g', px E g' → GX X p l e R s m args below meth c nL Q k' n' pc L rest g' E) (kk : ∀ v g', post v g' → GG X p l e R s m args below meth c nL Q (k') (n') (pc + 3) (L) (.float v :: rest) (g')) : GG X p l e R s m args below meth c nL Q (k) (n) (pc) (L) (st0) (g) := by
  subst e1 e2
  exact fun H locs ls hP hS hl => vx_callf (hr H locs ls hP hS hl) hS (fun q _ h => h) (fun q h => h) (fun q _ h => h) (fun E ce q9 u t H1 locs1 ht hvm _ hB hz hk hS1 h1 h2 h3 => kx E u hB.1 H1 locs1 ls q9 ce (ht ▸ hB.2) hS1 hl h1 h2 h3) (fun v u t H1 locs1 ht hvm hp hB hz hk hS1 => kk v u hp H1 locs1 ls (ht ▸ hB) hS1 hl)
theorem gr_D {st0 rest : List Value} {mc ms k' n' : Nat} {a : Array Value} {post : UInt64 → GM → Prop} {px : String → GM → Prop} (hr : gRun X p l e R s m args below meth c nL k n mc ms pc L st0 rest g (qD X post a) px) (e1 : k + mc = k') (e2 : n + ms = n') (kx : ∀ E g', px E g' → GX X p l e R s m args below meth c nL Q k' n' pc L rest g' E) (kk : ∀ v g', post v g' → GG X p l e R s m args below meth c nL Q (k') (n') (pc + 3) (L) (.double v :: rest) (g')) : GG X p l e R s m args below meth c nL Q (k) (n) (pc) (L) (st0) (g) := by
  subst e1 e2
  exact fun H locs ls hP hS hl => vx_calld (hr H locs ls hP hS hl) hS (fun q _ h => h) (fun q h => h) (fun q _ h => h) (fun E ce q9 u t H1 locs1 ht hvm _ hB hz hk hS1 h1 h2 h3 => kx E u hB.1 H1 locs1 ls q9 ce (ht ▸ hB.2) hS1 hl h1 h2 h3) (fun v u t H1 locs1 ht hvm hp hB hz hk hS1 => kk v u hp H1 locs1 ls (ht ▸ hB) hS1 hl)
theorem gr_R {st0 rest : List Value} {mc ms k' n' : Nat} {a : Array Value} {post : Option Nat → GM → Prop} {px : String → GM → Prop} (hr : gRun X p l e R s m args below meth c nL k n mc ms pc L st0 rest g (qR X post a) px) (e1 : k + mc = k') (e2 : n + ms = n') (kx : ∀ E g', px E g' → GX X p l e R s m args below meth c nL Q k' n' pc L rest g' E) (kk : ∀ v g', post v g' → GG X p l e R s m args below meth c nL Q (k') (n') (pc + 3) (L) (va_rf v :: rest) (g')) : GG X p l e R s m args below meth c nL Q (k) (n) (pc) (L) (st0) (g) := by
  subst e1 e2
  exact fun H locs ls hP hS hl => vx_callq (hr H locs ls hP hS hl) hS (fun q _ h => h) (fun q h => h) (fun q _ h => h) (fun E ce q9 u t H1 locs1 ht hvm _ hB hz hk hS1 h1 h2 h3 => kx E u hB.1 H1 locs1 ls q9 ce (ht ▸ hB.2) hS1 hl h1 h2 h3) (fun v u t H1 locs1 ht hvm hp hB hz hk hS1 => kk v u hp H1 locs1 ls (ht ▸ hB) hS1 hl)
theorem gr_V {st0 rest : List Value} {mc ms k' n' : Nat} {a : Array Value} {post : GM → Prop} {px : String → GM → Prop} (hr : gRun X p l e R s m args below meth c nL k n mc ms pc L st0 rest g (qV X post a) px) (e1 : k + mc = k') (e2 : n + ms = n') (kx : ∀ E g', px E g' → GX X p l e R s m args below meth c nL Q k' n' pc L rest g' E) (kk : ∀ g', post g' → GG X p l e R s m args below meth c nL Q (k') (n') (pc + 3) (L) (rest) (g')) : GG X p l e R s m args below meth c nL Q (k) (n) (pc) (L) (st0) (g) := by
  subst e1 e2
  exact fun H locs ls hP hS hl => vx_callv (hr H locs ls hP hS hl) hS (fun q _ h => h) (fun q h => h) (fun q _ h => h) (fun E ce q9 u t H1 locs1 ht hvm _ hB hz hk hS1 h1 h2 h3 => kx E u hB.1 H1 locs1 ls q9 ce (ht ▸ hB.2) hS1 hl h1 h2 h3) (fun u t H1 locs1 ht hvm hp hB hz hk hS1 => kk u hp H1 locs1 ls (ht ▸ hB) hS1 hl)
theorem gg_objInit {idx : Nat} {r : Option Nat} {K : Prop} (C : FC X p l s m args meth c cc nL own) (d : decode cc pc = .ok (.invokespecial idx, 3)) (w1 : Cond.methodLink own idx objectInit ∈ TBL) (w2 : Cond.instanceMethod objectInit ∈ TBL) (w3 : Cond.code objectInit ⟨#[0xb1]⟩ 1 none ∈ TBL) (h1 : 1 ≤ R.frames) (h2 : (st.map fun v => v.category).sum + 12 ≤ R.locals) (hf : ∃ a, r = some a ∧ K) (kk : K → GG X p l e R s m args below meth c nL Q (k) (n) (pc + 3) (L) (st) (g)) : GG X p l e R s m args below meth c nL Q (k) (n) (pc) (L) (va_rf r :: st) (g) := by
  intro H locs ls hP hS hl
  obtain ⟨a, rfl, hK⟩ := hf
  exact W.objInit C.1.1 C.1.2.1 C.1.2.2.2.1 (C.1.2.2.2.2 _ w1) (C.1.2.2.2.2 _ w2) (C.1.2.2.2.2 _ w3) rfl (by rw [C.1.2.2.1]; exact hl.1) rfl d h1 (by have h0 : (F0 m pc ls (va_rf (some a) :: st)).monitorRoom = 0 := rfl; omega) (kk hK H locs ls hP hS hl)
end GR
section GE9
variable {X : Cx} {p : Program} {l : Launch} {e : Env} {R : Room} {s : State} {m : MethodId} {args : Array Value} {below : List Frame} {meth : Method} {c : Code} {nL : Nat} {k n pc : Nat} {L : GL} {st : List Value} {g : GM} {cc : ByteArray} {own : String} {mc ms : Nat} {px : String → GM → Prop}
theorem gP.kept {H H1 : Heap} (hP : gP X g H) (hq : ∀ a : Nat, a < H.size → H1[a]? = H[a]?) : gP X g H1 := by
  obtain ⟨ws, w1, w2, w3⟩ := hP
  exact ⟨ws, w1, w2.kept (fun k x hx => hq x.1 ((w2 k x hx).lt)), w3⟩
theorem gg_lret {v : Int64} {post : Int64 → GM → Prop} (C : FC X p l s m args meth c cc nL own) (hr : meth.sig.returnType = some .long) (h1 : k ≤ mc) (h2 : n ≤ ms) (d : decode cc pc = .ok (.lreturn, 1)) (hf : post v g) : GG X p l e R s m args below meth c nL (vx_MQ below (qL X post) (gXC X px) args s mc ms (gA X)) k n pc L [.long v] g :=
  fun H locs ls hP hS hl => vx_ret (W.widen h1 h2 (W.lret C.1.1 C.1.2.1 hr (fun t ht hW => ⟨⟨v, g, rfl, hf, by rw [gB, ht]; exact hP⟩, hS.F ht⟩) hS.2.2 d C.2.2.1))
theorem gg_fret {v : UInt32} {post : UInt32 → GM → Prop} (C : FC X p l s m args meth c cc nL own) (hr : meth.sig.returnType = some .float) (h1 : k ≤ mc) (h2 : n ≤ ms) (d : decode cc pc = .ok (.freturn, 1)) (hf : post v g) : GG X p l e R s m args below meth c nL (vx_MQ below (qF X post) (gXC X px) args s mc ms (gA X)) k n pc L [.float v] g :=
  fun H locs ls hP hS hl => vx_ret (W.widen h1 h2 (W.fret C.1.1 C.1.2.1 hr (fun t ht hW => ⟨⟨v, g, rfl, hf, by rw [gB, ht]; exact hP⟩, hS.F ht⟩) hS.2.2 d C.2.2.1))
theorem gg_dret {v : UInt64} {post : UInt64 → GM → Prop} (C : FC X p l s m args meth c cc nL own) (hr : meth.sig.returnType = some .double) (h1 : k ≤ mc) (h2 : n ≤ ms) (d : decode cc pc = .ok (.dreturn, 1)) (hf : post v g) : GG X p l e R s m args below meth c nL (vx_MQ below (qD X post) (gXC X px) args s mc ms (gA X)) k n pc L [.double v] g :=
  fun H locs ls hP hS hl => vx_ret (W.widen h1 h2 (W.dret C.1.1 C.1.2.1 hr (fun t ht hW => ⟨⟨v, g, rfl, hf, by rw [gB, ht]; exact hP⟩, hS.F ht⟩) hS.2.2 d C.2.2.1))
theorem gg_iret {v : Int32} {ty : FieldType} {post : Int32 → GM → Prop} (C : FC X p l s m args meth c cc nL own) (hr : meth.sig.returnType = some ty) (h1 : k ≤ mc) (h2 : n ≤ ms) (d : decode cc pc = .ok (.ireturn, 1)) (hn : narrow ty (.int v) = .int v) (hf : post v g) : GG X p l e R s m args below meth c nL (vx_MQ below (qI X post) (gXC X px) args s mc ms (gA X)) k n pc L [.int v] g :=
  fun H locs ls hP hS hl => vx_ret (W.widen h1 h2 (W.zret C.1.1 C.1.2.1 hr hn (fun t ht hW => ⟨⟨v, g, rfl, hf, by rw [gB, ht]; exact hP⟩, hS.F ht⟩) hS.2.2 d C.2.2.1))
theorem gg_vret {post : GM → Prop} (C : FC X p l s m args meth c cc nL own) (hr : meth.sig.returnType = none) (h1 : k ≤ mc) (h2 : n ≤ ms) (d : decode cc pc = .ok (.return_, 1)) (hf : post g) : GG X p l e R s m args below meth c nL (vx_MQ below (qV X post) (gXC X px) args s mc ms (gA X)) k n pc L [] g :=
  fun H locs ls hP hS hl => vx_ret (W.widen h1 h2 (W.vret C.1.1 C.1.2.1 hr (fun t ht hW => ⟨⟨g, rfl, hf, by rw [gB, ht]; exact hP⟩, hS.F ht⟩) hS.2.2 d C.2.2.1))
theorem gg_aret {v : Option Nat} {rt : FieldType} {post : Option Nat → GM → Prop} (C : FC X p l s m args meth c cc nL own) (hr : meth.sig.returnType = some rt) (hrt : (∃ n, rt = .object n) ∨ ∃ t, rt = .array t) (h1 : k ≤ mc) (h2 : n ≤ ms) (d : decode cc pc = .ok (.areturn, 1)) (hf : post v g) : GG X p l e R s m args below meth c nL (vx_MQ below (qR X post) (gXC X px) args s mc ms (gA X)) k n pc L [va_rf v] g :=
  fun H locs ls hP hS hl => vx_ret (W.widen h1 h2 (W.aret C.1.1 C.1.2.1 hr hrt (va_rf_or v) (fun t ht hW => ⟨⟨v, g, rfl, hf, by rw [gB, ht]; exact hP⟩, hS.F ht⟩) hS.2.2 d C.2.2.1))
theorem gx_out {Qc : Array Value → State → Outcome → State → Prop} {E : String} (C : FC X p l s m args meth c cc nL own) (ht : ∀ x ∈ c.exceptionTable.toList, covers x pc = false) (h1 : k ≤ mc) (h2 : n ≤ ms) (hf : px E g) : GX X p l e R s m args below meth c nL (vx_MQ below Qc (gXC X px) args s mc ms (gA X)) k n pc L st g E :=
  fun H locs ls q ce hP hS hl hce hv hcl => vx_out ht C.2.2.1 hce hv hcl (fun t ht hW => ⟨g, trivial, ⟨hf, by rw [ht]; exact hP⟩, hS.F ht⟩) hS.2.2 h1 h2
theorem gg_thrX {own : String} {ic : Nat} {cls : String} {names : List String} {ik : Nat} (hat : ∀ w ∈ vx_atS own ic cls names, w ∈ TBL ∨ w ∈ gBad) (w1 : Cond.classLink own ik cls ∈ TBL) (w2 : Cond.initialized cls ∈ TBL) : ∀ w ∈ Cond.classLink own ik cls :: Cond.initialized cls :: vx_atS own ic cls names, vx_ot w = true := by
  have hT : ∀ w ∈ TBL, vx_ot w = true := fun w h => by unfold vx_ot; rw [TBL_good h, Bool.or_true]
  intro w hw
  rcases List.mem_cons.mp hw with rfl | hw
  · exact hT _ w1
  rcases List.mem_cons.mp hw with rfl | hw
  · exact hT _ w2
  rcases hat w hw with h | h
  · exact hT _ h
  · have := gBad_ok w h
    cases w <;> first | rfl | cases this
theorem gg_throw {Qc : Array Value → State → Outcome → State → Prop} {cls text : String} {names : List String} {ik is ic j : Nat} (C : FC X p l s m args meth c cc nL own) (hcls : Bundle.fit cls = true) (hnames : ∀ n ∈ names, Bundle.fit n = true) (w1 : Cond.classLink own ik cls ∈ TBL) (w2 : Cond.initialized cls ∈ TBL) (hat : ∀ w ∈ vx_atS own ic cls names, w ∈ TBL ∨ w ∈ gBad) (hs : (own, is, text, j) ∈ gStr)
    (d0 : decode cc pc = .ok (.new ik, 3)) (d3 : decode cc (pc + 3) = .ok (.dup, 1)) (d4 : decode cc (pc + 4) = .ok (.ldc is, 2)) (d6 : decode cc (pc + 6) = .ok (.invokespecial ic, 3)) (d9 : decode cc (pc + 9) = .ok (.athrow, 1)) (ht : ∀ x ∈ c.exceptionTable.toList, covers x (pc + 9) = false)
    (r1 : names.length + 3 < R.frames) (r2 : (st.map fun v => v.category).sum + (13 * (names.length + 1) + 43) ≤ R.locals) (r3 : k + 1 ≤ R.cells) (r4 : n + 6 ≤ R.slots) (h1 : k + 1 ≤ mc) (h2 : n + 6 ≤ ms) (hf : px cls g) : GG X p l e R s m args below meth c nL (vx_MQ below Qc (gXC X px) args s mc ms (gA X)) k n pc L st g := by
  intro H locs ls hP hS hl
  refine vx_throwS C.1.1 C.1.2.1 C.2.2.2.1 C.1.2.2.2.1 hcls hnames (C.1.2.2.2.2 _ w1) (C.1.2.2.2.2 _ w2) (C.2.1.2.1 _ hs) (fun w hw => ?_) (gg_thrX hat w1 w2) C.2.1.2.2.2.2.2.2.2.2.2.2.1 C.2.1.2.2.2.2.2.2.2.2.2.2.2.1 hS (hl.1.trans C.1.2.2.1.symm) d0 d3 d4 d6 d9 ht r1 r2 r3 r4 C.2.2.1 (fun t hvm hz hk => ⟨g, trivial, ⟨hf, hP.kept hk⟩, ⟨Nat.le_trans hS.1 hz, fun q q1 q2 => (hk q (Nat.lt_of_lt_of_le q1 hS.1)).trans (hS.2.1 q q1 q2)⟩⟩) hS.2.2 h1 h2
  rcases hat w hw with h | h
  · exact C.1.2.2.2.2 _ h
  · exact gBad_use (gBad_ok w h) (C.2.1.2.2.2.2.2.2.2.2.2.2.2.2.1 _ h) args
theorem gg_throwW {Qc : Array Value → State → Outcome → State → Prop} {cls text : String} {names : List String} {ik is ic j : Nat} (C : FC X p l s m args meth c cc nL own) (hcls : Bundle.fit cls = true) (hnames : ∀ n ∈ names, Bundle.fit n = true) (w1 : Cond.classLink own ik cls ∈ TBL) (w2 : Cond.initialized cls ∈ TBL) (hat : ∀ w ∈ vx_atS own ic cls names, w ∈ TBL ∨ w ∈ gBad) (hs : (own, is, text, j) ∈ gStr)
    (d0 : decode cc pc = .ok (.new ik, 3)) (d3 : decode cc (pc + 3) = .ok (.dup, 1)) (d4 : decode cc (pc + 4) = .ok (.ldc_w is, 3)) (d6 : decode cc (pc + 7) = .ok (.invokespecial ic, 3)) (d9 : decode cc (pc + 10) = .ok (.athrow, 1)) (ht : ∀ x ∈ c.exceptionTable.toList, covers x (pc + 10) = false)
    (r1 : names.length + 3 < R.frames) (r2 : (st.map fun v => v.category).sum + (13 * (names.length + 1) + 43) ≤ R.locals) (r3 : k + 1 ≤ R.cells) (r4 : n + 6 ≤ R.slots) (h1 : k + 1 ≤ mc) (h2 : n + 6 ≤ ms) (hf : px cls g) : GG X p l e R s m args below meth c nL (vx_MQ below Qc (gXC X px) args s mc ms (gA X)) k n pc L st g := by
  intro H locs ls hP hS hl
  refine vx_throwSW C.1.1 C.1.2.1 C.2.2.2.1 C.1.2.2.2.1 hcls hnames (C.1.2.2.2.2 _ w1) (C.1.2.2.2.2 _ w2) (C.2.1.2.1 _ hs) (fun w hw => ?_) (gg_thrX hat w1 w2) C.2.1.2.2.2.2.2.2.2.2.2.2.1 C.2.1.2.2.2.2.2.2.2.2.2.2.2.1 hS (hl.1.trans C.1.2.2.1.symm) d0 d3 d4 d6 d9 ht r1 r2 r3 r4 C.2.2.1 (fun t hvm hz hk => ⟨g, trivial, ⟨hf, hP.kept hk⟩, ⟨Nat.le_trans hS.1 hz, fun q q1 q2 => (hk q (Nat.lt_of_lt_of_le q1 hS.1)).trans (hS.2.1 q q1 q2)⟩⟩) hS.2.2 h1 h2
  rcases hat w hw with h | h
  · exact C.1.2.2.2.2 _ h
  · exact gBad_use (gBad_ok w h) (C.2.1.2.2.2.2.2.2.2.2.2.2.2.2.1 _ h) args
theorem gxat {ws : List Cond} (h : ws.all (fun w => (decide (w ∈ lw_tbl) && goodWord w) || decide (w ∈ gBad)) = true) : ∀ w ∈ ws, w ∈ TBL ∨ w ∈ gBad := by
  intro w hw
  have h1 := List.all_eq_true.mp h w hw
  simp only [Bool.or_eq_true, Bool.and_eq_true, decide_eq_true_eq] at h1
  rcases h1 with h1 | h1
  · exact Or.inl (TBL_of h1.1 h1.2)
  · exact Or.inr h1
end GE9
/-- a method without a table of its own, from its entry -/
theorem gg_enter {X : Cx} {l : Launch} {y : MethodName} {b : ByteArray} {maxL : Nat} {ret : Option FieldType} {rm : Room} {As : List Value} {g : GM} {Qc : Array Value → State → Outcome → State → Prop} {px : String → GM → Prop} {L : GL} (hflags : l.stackTraces = false) (hy : plainName y.cls = true) (hlen : (lg_sl As).length ≤ maxL) (hL : gll 0 L = lv_args 0 As)
    (body : ∀ p e s m args below meth c, FC X p l s m args meth c b maxL y.cls → meth.sig.returnType = ret → (∀ x ∈ c.exceptionTable.toList, False) → meth.name = y.name → GG X p l e rm s m args below meth c maxL (vx_MQ below Qc (gXC X px) args s rm.cells rm.slots (gA X)) 0 0 0 L [] g) : gMet X l y b maxL ret rm As g Qc px := by
  refine vx_ofW (cc := b) (maxL := maxL) (ret := ret) hy rfl ?_
  intro p e s m args below meth c s₁ B hml ht hv
  obtain ⟨rfl, hP, hX, hB⟩ := hv
  have hts := atoms_spec (ws := gws y b maxL ret) B.pre
  have C : FC X p l s m As.toArray meth c b maxL y.cls := ⟨⟨B.exec, B.bytes, hml, findClass_of_methodNamed B.named, fun w hw => hts w (List.mem_cons_of_mem _ hw)⟩, hX, B.notSynchronized, hflags, hB⟩
  rw [lg_entry_eq]
  have hl := lv_entry As hlen
  exact body p e s m _ below meth c C B.returns ht (name_of_methodNamed B.named B.method).1 s.heap [] _ hP va_S.rf ⟨hl.1, hl.2.1, fun i v hi => hl.2.2 (i, v) (by rw [← hL]; exact (gll_mem L 0 (i, v)).mpr ⟨Nat.zero_le _, by simpa using hi⟩)⟩
