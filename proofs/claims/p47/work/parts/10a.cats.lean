/-! small rows of the generated walks -/
theorem gcI (x : Int32) : (Value.int x).category = 1 := rfl
theorem gcL (x : Int64) : (Value.long x).category = 2 := rfl
theorem gcF (x : UInt32) : (Value.float x).category = 1 := rfl
theorem gcD (x : UInt64) : (Value.double x).category = 2 := rfl
section GRA
variable {X : Cx} {p : Program} {l : Launch} {e : Env} {R : Room} {s : State} {m : MethodId} {args : Array Value} {below : List Frame} {meth : Method} {c : Code} {nL : Nat} {Q : State → Prop} {k n pc : Nat} {L : GL} {st : List Value} {g : GM} {cc : ByteArray} {own : String}
theorem gg_newarr' {at' : ArrayType} {kd cap k' n' : Nat} {ty : FieldType} {x : Nat → vp_A} {len : Int32} {K : Nat → GM → Prop} (C : FC X p l s m args meth c cc nL own) (d : decode cc pc = .ok (.newarray at', 2)) (hw : Cond.arrayClass (newarray.typeOf at') ∈ TBL) (hty : newarray.typeOf at' = ty) (ht : (gTys X.2.1)[kd]? = some (X.2.1 kd, ty)) (hx : ∀ (N : Nat) (cA : ClassId), vp_cell cA (x N) = arrV cA N (fun _ => defaultValue ty)) (hb : cap * componentBytes ty ≤ 536870912) (h1 : k + 1 ≤ R.cells) (h2 : n + cap ≤ R.slots) (e1 : k + 1 = k') (e2 : n + cap = n')
    (hf : ¬ len < 0 ∧ len.toNatClampNeg ≤ cap ∧ wNew X g (.inl (kd, x len.toNatClampNeg)) K) (kk : ∀ q g', K q g' → GG X p l e R s m args below meth c nL Q k' n' (pc + 2) L (va_rf (some q) :: st) g') : GG X p l e R s m args below meth c nL Q k n pc L (.int len :: st) g := gg_newarr C d hw hty ht hx hb h1 h2 e1 e2 hf kk
theorem gg_newobj' {idx cap k' n' : Nat} {len : Int32} {K : Nat → GM → Prop} (C : FC X p l s m args meth c cc nL own) (d : decode cc pc = .ok (.anewarray idx, 3)) (hw : Cond.classLink own idx "java/lang/Object" ∈ TBL) (hb : cap * 4 ≤ 536870912) (h1 : k + 1 ≤ R.cells) (h2 : n + cap ≤ R.slots) (e1 : k + 1 = k') (e2 : n + cap = n')
    (hf : ¬ len < 0 ∧ len.toNatClampNeg ≤ cap ∧ wNew X g (.inl (4, len.toNatClampNeg, .inr (.inr (.inr (.inr (fun _ => none)))))) K) (kk : ∀ q g', K q g' → GG X p l e R s m args below meth c nL Q k' n' (pc + 3) L (va_rf (some q) :: st) g') : GG X p l e R s m args below meth c nL Q k n pc L (.int len :: st) g := gg_newobj C d hw hb h1 h2 e1 e2 hf kk
theorem gg_mmax {idx : Nat} {x y : Int32} (C : FC X p l s m args meth c cc nL own) (d : decode cc pc = .ok (.invokestatic idx, 3)) (w1 : Cond.methodLink own idx Lib.Math.max.name ∈ TBL) (w2 : Cond.static Lib.Math.max.name ∈ TBL) (w3 : Cond.initialized "java/lang/Math" ∈ TBL) (w4 : Cond.code Lib.Math.max.name Lib.Math.max.code 2 (some .int) ∈ TBL) (h1 : 1 ≤ R.frames) (h2 : (st.map fun v => v.category).sum + 13 ≤ R.locals) (h3 : k ≤ R.cells) (h4 : n ≤ R.slots) (kk : GG X p l e R s m args below meth c nL Q k n (pc + 3) L (.int (if x < y then y else x) :: st) g) : GG X p l e R s m args below meth c nL Q k n pc L (.int y :: .int x :: st) g :=
  fun H locs ls hP hS hl => va_mmax C.1.1 C.1.2.1 (C.1.2.2.1.trans hl.1.symm) C.1.2.2.2.1 (C.1.2.2.2.2 _ w1) (C.1.2.2.2.2 _ w2) (C.1.2.2.2.2 _ w3) (C.1.2.2.2.2 _ w4) h1 h2 h3 h4 d (kk H locs ls hP hS hl)
theorem gg_mmin {idx : Nat} {x y : Int32} (C : FC X p l s m args meth c cc nL own) (d : decode cc pc = .ok (.invokestatic idx, 3)) (w1 : Cond.methodLink own idx Lib.Math.min.name ∈ TBL) (w2 : Cond.static Lib.Math.min.name ∈ TBL) (w3 : Cond.initialized "java/lang/Math" ∈ TBL) (w4 : Cond.code Lib.Math.min.name Lib.Math.min.code 2 (some .int) ∈ TBL) (h1 : 1 ≤ R.frames) (h2 : (st.map fun v => v.category).sum + 13 ≤ R.locals) (h3 : k ≤ R.cells) (h4 : n ≤ R.slots) (kk : GG X p l e R s m args below meth c nL Q k n (pc + 3) L (.int (if y < x then y else x) :: st) g) : GG X p l e R s m args below meth c nL Q k n pc L (.int y :: .int x :: st) g :=
  fun H locs ls hP hS hl => va_mmin C.1.1 C.1.2.1 (C.1.2.2.1.trans hl.1.symm) C.1.2.2.2.1 (C.1.2.2.2.2 _ w1) (C.1.2.2.2.2 _ w2) (C.1.2.2.2.2 _ w3) (C.1.2.2.2.2 _ w4) h1 h2 h3 h4 d (kk H locs ls hP hS hl)
theorem gx_catch {E name : String} {pre suf : List ExceptionTableEntry} {x : ExceptionTableEntry} (C : FC X p l s m args meth c cc nL own) (hsplit : c.exceptionTable.toList = pre ++ x :: suf) (hpass : ∀ z ∈ pre, covers z pc = false ∨ (z.catchType ≠ 0 ∧ ∃ nm : String, Cond.classLink own z.catchType nm ∈ TBL ∧ (E, nm) ∈ gNc)) (hx : covers x pc = true) (h0 : x.catchType ≠ 0) (hlink : Cond.classLink own x.catchType name ∈ TBL) (hcast : Cond.castable E name ∈ gBad) (kk : ∀ q : Nat, GG X p l e R s m args below meth c nL Q k n x.handlerPc L [va_rf (some q)] g) : GX X p l e R s m args below meth c nL Q k n pc L st g E :=
  fun H locs ls q ce hP hS hl hce hv hcl => vx_catch (rest := st) C.1.2.2.2.1 pre x suf hsplit (fun z hz => (hpass z hz).elim Or.inl (fun h => Or.inr ⟨h.1, h.2.choose, C.1.2.2.2.2 _ h.2.choose_spec.1, C.2.1.2.2.2.2.2.2.2.2.2.2.2.2.2 _ h.2.choose_spec.2⟩)) hx h0 (C.1.2.2.2.2 _ hlink) (gBad_use rfl (C.2.1.2.2.2.2.2.2.2.2.2.2.2.2.1 _ hcast) args) hce hv hcl (kk q H locs ls hP hS hl)
theorem gk_SW {y : MethodName} {b : ByteArray} {maxL idx nA : Nat} {ret : Option FieldType} {hh : List (Nat × Nat × Nat × Nat)} {rm : Room} {Qc : Array Value → State → Outcome → State → Prop} {px : String → GM → Prop} {As rest : List Value} (C : FC X p l s m args meth c cc nL own) (d : decode cc pc = .ok (.invokestatic idx, 3)) (w1 : Cond.methodLink own idx y ∈ TBL) (w2 : Cond.static y ∈ TBL) (w4 : Cond.initialized y.cls ∈ TBL) (w5 : Cond.codeWith y b maxL ret hh ∈ TBL) (hd : gDesc y nA) (hn : As.length = nA) (hR : rm.frames + 1 ≤ R.frames ∧ 8 + (maxL + 11) + rm.locals ≤ R.locals) (hW : (rest.map fun v => v.category).sum ≤ 8) (hb : k + rm.cells ≤ R.cells ∧ n + rm.slots ≤ R.slots) (hM : vx_Met l y (.codeWith y b maxL ret hh :: TBL) rm (gPc X As g) Qc (gXC X px) rm.cells rm.slots (gA X)) : gRun X p l e R s m args below meth c nL k n rm.cells rm.slots pc L (As.reverse ++ rest) rest g (Qc As.toArray) px := by
  intro H locs ls hP hS hl
  exact vx_runSX C.1 hM (vx_cwSW nA C.1.2.2.2.2 (TBL_in (by intro w hw; simp only [va_wsS, List.cons_append, List.nil_append, List.mem_cons] at hw; rcases hw with rfl | rfl | rfl | rfl | hw <;> assumption)) rfl rfl rfl hd hR) ⟨gPc_blind _ _ _, gP.pre C hP hS _⟩ rfl hn hl.1 rfl (lv_room hW) d hb
end GRA
/-- a method with a table of its own, from its entry -/
theorem gg_enterW {X : Cx} {l : Launch} {y : MethodName} {b : ByteArray} {maxL : Nat} {ret : Option FieldType} {hh : List (Nat × Nat × Nat × Nat)} {rm : Room} {As : List Value} {g : GM} {Qc : Array Value → State → Outcome → State → Prop} {px : String → GM → Prop} {L : GL} (hflags : l.stackTraces = false) (hy : plainName y.cls = true) (hlen : (lg_sl As).length ≤ maxL) (hL : gll 0 L = lv_args 0 As)
    (body : ∀ p e s m args below meth c, FC X p l s m args meth c b maxL y.cls → meth.sig.returnType = ret → c.exceptionTable.toList = tableOf hh → GG X p l e rm s m args below meth c maxL (vx_MQ below Qc (gXC X px) args s rm.cells rm.slots (gA X)) 0 0 0 L [] g) : vx_Met l y (.codeWith y b maxL ret hh :: TBL) rm (gPc X As g) Qc (gXC X px) rm.cells rm.slots (gA X) := by
  refine vx_ofWH (cc := b) (maxL := maxL) (ret := ret) (hh := hh) hy rfl ?_
  intro p e s m args below meth c s₁ B hml hv
  obtain ⟨rfl, hP, hX, hB⟩ := hv
  have hts := atoms_spec (ws := .codeWith y b maxL ret hh :: TBL) B.pre
  have C : FC X p l s m As.toArray meth c b maxL y.cls := ⟨⟨B.exec, B.bytes, hml, findClass_of_methodNamed B.named, fun w hw => hts w (List.mem_cons_of_mem _ hw)⟩, hX, B.notSynchronized, hflags, hB⟩
  rw [lg_entry_eq]
  have hl := lv_entry As hlen
  exact body p e s m _ below meth c C B.returns (vx_table (x := y) B (hts _ List.mem_cons_self)) s.heap [] _ hP va_S.rf ⟨hl.1, hl.2.1, fun i v hi => hl.2.2 (i, v) (by rw [← hL]; exact (gll_mem L 0 (i, v)).mpr ⟨Nat.zero_le _, by simpa using hi⟩)⟩
/-- a method of a class that has entries of the machine's own, itself without one -/
theorem gg_enterF {X : Cx} {l : Launch} {y : MethodName} {b : ByteArray} {maxL : Nat} {ret : Option FieldType} {rm : Room} {As : List Value} {g : GM} {Qc : Array Value → State → Outcome → State → Prop} {px : String → GM → Prop} {L : GL} (hflags : l.stackTraces = false) (hy : plainFor y = true) (hlen : (lg_sl As).length ≤ maxL) (hL : gll 0 L = lv_args 0 As)
    (body : ∀ p e s m args below meth c, FC X p l s m args meth c b maxL y.cls → meth.sig.returnType = ret → (∀ x ∈ c.exceptionTable.toList, False) → meth.name = y.name → GG X p l e rm s m args below meth c maxL (vx_MQ below Qc (gXC X px) args s rm.cells rm.slots (gA X)) 0 0 0 L [] g) : gMet X l y b maxL ret rm As g Qc px := by
  refine MetFree.of_bodySF (code := b) (maxLocals := maxL) (ret := ret) hy ?_ ?_
  · intro args s m h hn
    obtain ⟨meth, c, h1, h2, h3, h4, h5, h6, -, -⟩ := Cond.code_spec hn (atoms_spec (ws := gws y b maxL ret) h _ List.mem_cons_self)
    exact ⟨meth, c, h1, h2, h3, h4, h5, h6⟩
  · intro p e s m args below meth c s₁ B hml hv _
    have hh0 : s₁.heap = s.heap := by rw [B.state]; rfl
    have ht : ∀ x ∈ c.exceptionTable.toList, False := by
      obtain ⟨meth9, c9, h1, h2, -, -, -, -, h7, -⟩ := Cond.code_spec B.named (atoms_spec (ws := gws y b maxL ret) B.pre _ List.mem_cons_self)
      cases Option.some.inj (h1.symm.trans B.method)
      cases Option.some.inj (h2.symm.trans (Stand.of_body B).code)
      intro x hx
      rw [Array.isEmpty_iff.mp h7] at hx
      cases hx
    obtain ⟨rfl, hP, hX, hB⟩ := hv
    have hts := atoms_spec (ws := gws y b maxL ret) B.pre
    have C : FC X p l s m As.toArray meth c b maxL y.cls := ⟨⟨B.exec, B.bytes, hml, findClass_of_methodNamed B.named, fun w hw => hts w (List.mem_cons_of_mem _ hw)⟩, hX, B.notSynchronized, hflags, hB⟩
    have hl := lv_entry As hlen
    have K := body p e s m _ below meth c C B.returns ht (name_of_methodNamed B.named B.method).1 s.heap [] _ hP va_S.rf ⟨hl.1, hl.2.1, fun i v hi => hl.2.2 (i, v) (by rw [← hL]; exact (gll_mem L 0 (i, v)).mpr ⟨Nat.zero_le _, by simpa using hi⟩)⟩
    rw [← lg_entry_eq] at K
    obtain ⟨t, a1, o, b1, b2, b3⟩ := K s₁ hh0 (Stand.of_body B)
    exact ⟨t, o, a1, b1, b2, b3⟩
theorem tw_max : Cond.code Lib.Math.max.name Lib.Math.max.code 2 (some .int) ∈ TBL := TBL_mem 450 (by decide +kernel) (by decide +kernel)
theorem tw_min : Cond.code Lib.Math.min.name Lib.Math.min.code 2 (some .int) ∈ TBL := TBL_mem 489 (by decide +kernel) (by decide +kernel)
