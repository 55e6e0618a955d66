/-! THE CLAIM OUT OF ONE WALK OF THE LAW'S BODY. Your part is whole_start (and what it stands on); all else here is the same for every law, but numbers. -/
def R_law : String := "ReleasetrainLaw"
def lw_P (b : Addr) (xs : List Int32) (args : Array Value) (s : State) : Prop := args = #[.ref b] ∧ s.IntsAt b xs ∧ xs.length ≤ 3584 ∧ (Jvm.Cond.and given_1 narrow_1).before args s = true
/-- what a walk over the start with the record d0 says of its end, said of the start itself -/
theorem lw_closed {s t : State} {o : Outcome} {d0 : Drawn} {L : List Loc} {k n : Nat} (hd0 : s.drawn.sameBut d0 lw_cs) (hv : ∃ v, o = .returned v) (hW : (s.setDrawn d0).WarmedH t.vm) (hs : (s.setDrawn d0).sameButNew ({ t with vm := s.vm } : State) L k n) : State.butDraws s t lw_cs (fun t1 => Framed s o t1 L k n) := by
  have h2 : t.drawn = d0 := congrArg State.drawn hs.1
  refine ⟨⟨hv, hW, State.sameButNew.setDrawn hs s.drawn⟩, ?_, by decide⟩
  rw [h2]
  exact hd0
def lw_Q (_ : Array Value) (s : State) (o : Outcome) (t : State) : Prop := o = .returned (some (.int 1)) ∧ State.butDraws s t lw_cs (fun t1 => Framed s o t1 [] 603072 7186538)
def lw_Z (below : List Frame) (a : Array Value) (s : State) : State → Prop := fun t => ∃ o, t.status = .running ∧ Ended t below o ∧ lw_Q a s o t
/-- the law's own end, with 1 on the stack, nothing written that was there before, its room as the claim has it; d0: the record of draws at this point (at the entry s.drawn: begin with 'refine W.base ?_' and 'have hd0 := Drawn.sameBut.refl s.drawn lw_cs') -/
theorem lw_ret {p : Program} {l : Launch} {e : Env} {s : State} {m : MethodId} {below : List Frame} {meth : Method} {c : Code} {b : Nat} {d0 : Drawn} (hd0 : s.drawn.sameBut d0 lw_cs) (hx : p.tables.exec = Jvm.exec) (hb : c.code = code) (hr : meth.sig.returnType = ret) (hlocks : meth.locks = false) {pc : Nat} {H : Heap} {ls : Array Slot} (hdg : decode code pc = .ok (.ireturn, 1)) : W p l e room_1 (s.setDrawn d0) m #[Value.ref b] below meth c H [] 603072 7186538 (lw_Z below #[Value.ref b] s) (F0 m pc ls [.int 1]) := by
  intro T hT X
  obtain ⟨fs, hret, hrun, hended, hW, hframe⟩ := X.leave (v := some (.int 1)) (hlocks := hlocks) (fun h => by rw [hr] at h; cases h)
  have hmeth' : T.vm.method? m = some meth := X.method'
  refine ⟨T.setFrames fs, ?_, .returned (some (.int 1)), hrun, hended, rfl, lw_closed hd0 ⟨_, rfl⟩ hW hframe⟩
  jvm_step X.here [X.here.top, hx, hb, hdg, hmeth', hr, ret, narrow_b1]
  (try refine ⟨rfl, ?_⟩); (try refine ⟨rfl, ?_⟩)
  first | (intro acts; rw [hret _ acts rfl rfl rfl]) | rw [hret _ _ rfl rfl rfl]
  exact Steps.refl _
/-- what holds at the law's entry: the machine, the code, the tables' words (any of lw_tbl by 'hts w (by decide +kernel)'), the script of L ints xs at the cell b, what the Statement gives of the start (any of its parts by flat_of_before) -/
def lw_At (p : Program) (s : State) (m : MethodId) (meth : Method) (c : Code) (b L : Nat) (xs : Nat → Int32) : Prop :=
  p.tables.exec = Jvm.exec ∧ c.code = code ∧ meth.sig.returnType = ret ∧ c.maxLocals = 9 ∧ s.vm.findClass R_law = some m.cls ∧ (∀ w ∈ lw_tbl, w.before #[Value.ref b] s = true) ∧ va_X b L xs s s.heap ∧ b < s.heap.size ∧ meth.locks = false ∧ (Jvm.Cond.and given_1 narrow_1).before #[Value.ref b] s = true
/-- addresses of constants lie ahead of all that is made -/
def hX0 (X : Cx) : Prop := X.2.2.2 200 < X.2.2.1 ∧ ∀ j : Nat, j < gLen.length → X.2.2.2 (100 + j) < X.2.2.1
theorem va_T_lt {ty : FieldType} {t N : Nat} {f : Nat → Value} {B : Nat → Prop} {U : State} {H : Heap} (h : va_T ty t N f B U H) : t < H.size := by
  obtain ⟨cell, h1, -⟩ := h
  exact (Array.getElem?_eq_some_iff.mp h1).1
/-- the machine's part of whole_start: what the pure part owes is an invariant that the entry makes and every case keeps -/
theorem ws_of {LI : Cx → Option Nat → Option Nat → Option Nat → Option Nat → GM → Prop} (hE : ∀ X : Cx, hX0 X → w_law_entry X (LI X) (fun _ => none)) (hN : ∀ X : Cx, hX0 X → lwN X (LI X)) {p : Program} {e : Env} {s : State} {m : MethodId} {below : List Frame} {meth : Method} {c : Code} (l : Launch) (hflags : l.flags = flags0) {b L : Nat} {xs : Nat → Int32} (hL : L ≤ 3584) (C0 : lw_At p s m meth c b L xs) : W p l e room_1 s m #[Value.ref b] below meth c s.heap [] 0 0 (lw_Z below #[Value.ref b] s) (entryFrame m ([Value.ref b] : List Value).toArray 9) := by
  obtain ⟨hx, hb, hr, hml, hown, hts, hX, hbl, hlocks, hgv⟩ := id C0
  have hfl : l.stackTraces = false := by
    show (!l.flags.contains noTraceFlag) = false
    rw [hflags]
    decide +kernel
  obtain ⟨D, dA, E, hg⟩ := st_gX hts hgv
  have C : FC (D, dA, s.heap.size, E) p l s m #[Value.ref b] meth c code 9 "ReleasetrainLaw" := ⟨⟨hx, hb, hml, hown, st_words hts⟩, hg, hlocks, hfl, Nat.le_refl _⟩
  have h0 : hX0 (D, dA, s.heap.size, E) := ⟨va_T_lt hg.2.2.2.2.1.2, fun j hj => va_T_lt (hg.2.2.1 j hj).2.2.2⟩
  have hbA : ¬ gA (D, dA, s.heap.size, E) b := Nat.not_le.mpr hbl
  have hd0 := Drawn.sameBut.refl s.drawn lw_cs
  rw [lg_entry_eq]
  have hl := lv_entry ([.ref b]) (n := 9) (Nat.le_of_ble_eq_true rfl)
  have K : GG (D, dA, s.heap.size, E) p l e room_1 s m #[Value.ref b] below meth c 9 (lw_Z below #[Value.ref b] s) 0 0 0 [some (va_rf (some b)), none, none, none, none, none, none, none, none] [] (fun _ => none) := by
    refine lc_entry (xs := xs) (Ls := L) hfl C hX hbl hbA (fun v1 v2 v3 v4 g hI => ?_) (hE _ h0)
    refine lw_loop hfl C hX hbl hbA hL (hN _ h0) (fun L' g' => ?_) 513 0 v1 v2 v3 v4 g rfl hI
    intro H locs ls hP hS hl'
    refine lv_iconst (v := 1) hx hb dL_law_2923 (by decide) ?_
    refine va_forget (fun q hq => hS.2.2 q hq) ?_
    exact lw_ret hd0 hx hb hr hlocks dL_law_2924
  have hP0 : gP (D, dA, s.heap.size, E) (fun _ => none) s.heap := by
    refine ⟨[], ?_, ?_, ?_, ?_⟩
    · intro a e h; cases h
    · intro k q h; simp at h
    · intro i j p q h; simp at h
    · intro k q h; simp at h
  refine K s.heap [] _ hP0 va_S.rf ?_
  refine gl.of hl (fun i v hi => ?_)
  match i, hi with
  | 0, hi => cases hi; exact List.mem_cons_self
  | 1, hi => cases hi
  | 2, hi => cases hi
  | 3, hi => cases hi
  | 4, hi => cases hi
  | 5, hi => cases hi
  | 6, hi => cases hi
  | 7, hi => cases hi
  | 8, hi => cases hi
  | i + 9, hi => simp at hi
