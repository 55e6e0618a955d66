section
-- ===== PART A: goes FIRST, ahead of the names: the tables' words, and 'selects' of the private methods out of them =====
/-- a private method of a class that the tables say can be made, by its rows of tables_1 -/
def lw_okq (q : MethodName × Nat) : Prop := (q.1.cls ≠ "java/lang/invoke/MethodHandle" ∧ q.1.cls ≠ "java/lang/invoke/VarHandle") ∧ Cond.instantiable q.1.cls q.2 ∈ tables_1 ∧ Cond.privateMethod q.1 ∈ tables_1 ∧ Cond.instanceMethod q.1 ∈ tables_1
theorem lw_p0 : lw_okq (⟨"Releasetrain", "knownBuild", "(I)LReleasetrain$Build;"⟩, 13) := ⟨⟨by decide +kernel, by decide +kernel⟩, List.mem_of_getElem? (i := 38) (by decide +kernel), List.mem_of_getElem? (i := 186) (by decide +kernel), List.mem_of_getElem? (i := 187) (by decide +kernel)⟩
theorem lw_p1 : lw_okq (⟨"java/lang/Throwable", "fillInStackTrace", "(I)Ljava/lang/Throwable;"⟩, 6) := ⟨⟨by decide +kernel, by decide +kernel⟩, List.mem_of_getElem? (i := 236) (by decide +kernel), List.mem_of_getElem? (i := 234) (by decide +kernel), List.mem_of_getElem? (i := 235) (by decide +kernel)⟩
theorem lw_p2 : lw_okq (⟨"Releasetrain", "addDraft", "(ILReleasetrain$Offer;IILReleasetrain$Build;)I"⟩, 13) := ⟨⟨by decide +kernel, by decide +kernel⟩, List.mem_of_getElem? (i := 38) (by decide +kernel), List.mem_of_getElem? (i := 280) (by decide +kernel), List.mem_of_getElem? (i := 281) (by decide +kernel)⟩
theorem lw_p3 : lw_okq (⟨"Releasetrain", "hasVersion", "(I)Z"⟩, 13) := ⟨⟨by decide +kernel, by decide +kernel⟩, List.mem_of_getElem? (i := 38) (by decide +kernel), List.mem_of_getElem? (i := 300) (by decide +kernel), List.mem_of_getElem? (i := 301) (by decide +kernel)⟩
theorem lw_p4 : lw_okq (⟨"java/util/ArrayList", "add", "(Ljava/lang/Object;[Ljava/lang/Object;I)V"⟩, 3) := ⟨⟨by decide +kernel, by decide +kernel⟩, List.mem_of_getElem? (i := 46) (by decide +kernel), List.mem_of_getElem? (i := 410) (by decide +kernel), List.mem_of_getElem? (i := 411) (by decide +kernel)⟩
theorem lw_p5 : lw_okq (⟨"java/util/ArrayList", "grow", "()[Ljava/lang/Object;"⟩, 3) := ⟨⟨by decide +kernel, by decide +kernel⟩, List.mem_of_getElem? (i := 46) (by decide +kernel), List.mem_of_getElem? (i := 414) (by decide +kernel), List.mem_of_getElem? (i := 415) (by decide +kernel)⟩
theorem lw_p6 : lw_okq (⟨"java/util/ArrayList", "grow", "(I)[Ljava/lang/Object;"⟩, 3) := ⟨⟨by decide +kernel, by decide +kernel⟩, List.mem_of_getElem? (i := 46) (by decide +kernel), List.mem_of_getElem? (i := 418) (by decide +kernel), List.mem_of_getElem? (i := 419) (by decide +kernel)⟩
theorem lw_p7 : lw_okq (⟨"Releasetrain", "kindFor", "(II)LReleasetrain$DeviceKind;"⟩, 13) := ⟨⟨by decide +kernel, by decide +kernel⟩, List.mem_of_getElem? (i := 38) (by decide +kernel), List.mem_of_getElem? (i := 534) (by decide +kernel), List.mem_of_getElem? (i := 535) (by decide +kernel)⟩
theorem lw_p8 : lw_okq (⟨"Releasetrain", "queue", "(LReleasetrain$Build;)V"⟩, 13) := ⟨⟨by decide +kernel, by decide +kernel⟩, List.mem_of_getElem? (i := 38) (by decide +kernel), List.mem_of_getElem? (i := 592) (by decide +kernel), List.mem_of_getElem? (i := 593) (by decide +kernel)⟩
theorem lw_p9 : lw_okq (⟨"Releasetrain", "countWaiting", "()I"⟩, 13) := ⟨⟨by decide +kernel, by decide +kernel⟩, List.mem_of_getElem? (i := 38) (by decide +kernel), List.mem_of_getElem? (i := 596) (by decide +kernel), List.mem_of_getElem? (i := 597) (by decide +kernel)⟩
theorem lw_p10 : lw_okq (⟨"Releasetrain", "holdReason", "(LReleasetrain$Build;)C"⟩, 13) := ⟨⟨by decide +kernel, by decide +kernel⟩, List.mem_of_getElem? (i := 38) (by decide +kernel), List.mem_of_getElem? (i := 617) (by decide +kernel), List.mem_of_getElem? (i := 618) (by decide +kernel)⟩
theorem lw_p11 : lw_okq (⟨"Releasetrain", "barringRule", "(LReleasetrain$Build;)C"⟩, 13) := ⟨⟨by decide +kernel, by decide +kernel⟩, List.mem_of_getElem? (i := 38) (by decide +kernel), List.mem_of_getElem? (i := 621) (by decide +kernel), List.mem_of_getElem? (i := 622) (by decide +kernel)⟩
theorem lw_p12 : lw_okq (⟨"Releasetrain", "isRolledOut", "(LReleasetrain$Build;)Z"⟩, 13) := ⟨⟨by decide +kernel, by decide +kernel⟩, List.mem_of_getElem? (i := 38) (by decide +kernel), List.mem_of_getElem? (i := 638) (by decide +kernel), List.mem_of_getElem? (i := 639) (by decide +kernel)⟩
theorem lw_p13 : lw_okq (⟨"Releasetrain", "isOpenTo", "(LReleasetrain$Build;LReleasetrain$Device;)Z"⟩, 13) := ⟨⟨by decide +kernel, by decide +kernel⟩, List.mem_of_getElem? (i := 38) (by decide +kernel), List.mem_of_getElem? (i := 658) (by decide +kernel), List.mem_of_getElem? (i := 659) (by decide +kernel)⟩
theorem lw_p14 : lw_okq (⟨"Releasetrain", "standingOf", "(LReleasetrain$Build;)Ljava/lang/String;"⟩, 13) := ⟨⟨by decide +kernel, by decide +kernel⟩, List.mem_of_getElem? (i := 38) (by decide +kernel), List.mem_of_getElem? (i := 969) (by decide +kernel), List.mem_of_getElem? (i := 970) (by decide +kernel)⟩
theorem lw_p15 : lw_okq (⟨"Releasetrain", "standingOfApproved", "(LReleasetrain$Build;)Ljava/lang/String;"⟩, 13) := ⟨⟨by decide +kernel, by decide +kernel⟩, List.mem_of_getElem? (i := 38) (by decide +kernel), List.mem_of_getElem? (i := 976) (by decide +kernel), List.mem_of_getElem? (i := 977) (by decide +kernel)⟩
def lw_privs_1 : List (MethodName × Nat) := [(⟨"Releasetrain", "knownBuild", "(I)LReleasetrain$Build;"⟩, 13), (⟨"java/lang/Throwable", "fillInStackTrace", "(I)Ljava/lang/Throwable;"⟩, 6), (⟨"Releasetrain", "addDraft", "(ILReleasetrain$Offer;IILReleasetrain$Build;)I"⟩, 13), (⟨"Releasetrain", "hasVersion", "(I)Z"⟩, 13), (⟨"java/util/ArrayList", "add", "(Ljava/lang/Object;[Ljava/lang/Object;I)V"⟩, 3), (⟨"java/util/ArrayList", "grow", "()[Ljava/lang/Object;"⟩, 3), (⟨"java/util/ArrayList", "grow", "(I)[Ljava/lang/Object;"⟩, 3), (⟨"Releasetrain", "kindFor", "(II)LReleasetrain$DeviceKind;"⟩, 13), (⟨"Releasetrain", "queue", "(LReleasetrain$Build;)V"⟩, 13), (⟨"Releasetrain", "countWaiting", "()I"⟩, 13), (⟨"Releasetrain", "holdReason", "(LReleasetrain$Build;)C"⟩, 13), (⟨"Releasetrain", "barringRule", "(LReleasetrain$Build;)C"⟩, 13), (⟨"Releasetrain", "isRolledOut", "(LReleasetrain$Build;)Z"⟩, 13), (⟨"Releasetrain", "isOpenTo", "(LReleasetrain$Build;LReleasetrain$Device;)Z"⟩, 13), (⟨"Releasetrain", "standingOf", "(LReleasetrain$Build;)Ljava/lang/String;"⟩, 13), (⟨"Releasetrain", "standingOfApproved", "(LReleasetrain$Build;)Ljava/lang/String;"⟩, 13)]
theorem lw_r1 : ∀ q ∈ lw_privs_1, lw_okq q := List.forall_mem_cons.mpr ⟨lw_p0, List.forall_mem_cons.mpr ⟨lw_p1, List.forall_mem_cons.mpr ⟨lw_p2, List.forall_mem_cons.mpr ⟨lw_p3, List.forall_mem_cons.mpr ⟨lw_p4, List.forall_mem_cons.mpr ⟨lw_p5, List.forall_mem_cons.mpr ⟨lw_p6, List.forall_mem_cons.mpr ⟨lw_p7, List.forall_mem_cons.mpr ⟨lw_p8, List.forall_mem_cons.mpr ⟨lw_p9, List.forall_mem_cons.mpr ⟨lw_p10, List.forall_mem_cons.mpr ⟨lw_p11, List.forall_mem_cons.mpr ⟨lw_p12, List.forall_mem_cons.mpr ⟨lw_p13, List.forall_mem_cons.mpr ⟨lw_p14, List.forall_mem_cons.mpr ⟨lw_p15, fun _ h => absurd h List.not_mem_nil⟩⟩⟩⟩⟩⟩⟩⟩⟩⟩⟩⟩⟩⟩⟩⟩
theorem lw_p16 : lw_okq (⟨"Releasetrain", "knownDevice", "(I)LReleasetrain$Device;"⟩, 13) := ⟨⟨by decide +kernel, by decide +kernel⟩, List.mem_of_getElem? (i := 38) (by decide +kernel), List.mem_of_getElem? (i := 992) (by decide +kernel), List.mem_of_getElem? (i := 993) (by decide +kernel)⟩
theorem lw_p17 : lw_okq (⟨"Releasetrain", "choiceFor", "(LReleasetrain$Device;)LReleasetrain$Build;"⟩, 13) := ⟨⟨by decide +kernel, by decide +kernel⟩, List.mem_of_getElem? (i := 38) (by decide +kernel), List.mem_of_getElem? (i := 997) (by decide +kernel), List.mem_of_getElem? (i := 998) (by decide +kernel)⟩
theorem lw_p18 : lw_okq (⟨"Releasetrain", "groupOfCrash", "()LReleasetrain$Group;"⟩, 13) := ⟨⟨by decide +kernel, by decide +kernel⟩, List.mem_of_getElem? (i := 38) (by decide +kernel), List.mem_of_getElem? (i := 1041) (by decide +kernel), List.mem_of_getElem? (i := 1042) (by decide +kernel)⟩
theorem lw_p19 : lw_okq (⟨"Releasetrain", "nearestGroup", "()LReleasetrain$Group;"⟩, 13) := ⟨⟨by decide +kernel, by decide +kernel⟩, List.mem_of_getElem? (i := 38) (by decide +kernel), List.mem_of_getElem? (i := 1045) (by decide +kernel), List.mem_of_getElem? (i := 1046) (by decide +kernel)⟩
theorem lw_p20 : lw_okq (⟨"Releasetrain", "grownPercentage", "(LReleasetrain$Build;I)I"⟩, 13) := ⟨⟨by decide +kernel, by decide +kernel⟩, List.mem_of_getElem? (i := 38) (by decide +kernel), List.mem_of_getElem? (i := 1128) (by decide +kernel), List.mem_of_getElem? (i := 1129) (by decide +kernel)⟩
theorem lw_p21 : lw_okq (⟨"Releasetrain", "firstWaiting", "()LReleasetrain$Build;"⟩, 13) := ⟨⟨by decide +kernel, by decide +kernel⟩, List.mem_of_getElem? (i := 38) (by decide +kernel), List.mem_of_getElem? (i := 1183) (by decide +kernel), List.mem_of_getElem? (i := 1184) (by decide +kernel)⟩
theorem lw_p22 : lw_okq (⟨"Releasetrain", "knownGroup", "(I)LReleasetrain$Group;"⟩, 13) := ⟨⟨by decide +kernel, by decide +kernel⟩, List.mem_of_getElem? (i := 38) (by decide +kernel), List.mem_of_getElem? (i := 1242) (by decide +kernel), List.mem_of_getElem? (i := 1243) (by decide +kernel)⟩
theorem lw_p23 : lw_okq (⟨"Releasetrain", "ratedBuild", "(I)LReleasetrain$Build;"⟩, 13) := ⟨⟨by decide +kernel, by decide +kernel⟩, List.mem_of_getElem? (i := 38) (by decide +kernel), List.mem_of_getElem? (i := 1289) (by decide +kernel), List.mem_of_getElem? (i := 1290) (by decide +kernel)⟩
def lw_privs_2 : List (MethodName × Nat) := [(⟨"Releasetrain", "knownDevice", "(I)LReleasetrain$Device;"⟩, 13), (⟨"Releasetrain", "choiceFor", "(LReleasetrain$Device;)LReleasetrain$Build;"⟩, 13), (⟨"Releasetrain", "groupOfCrash", "()LReleasetrain$Group;"⟩, 13), (⟨"Releasetrain", "nearestGroup", "()LReleasetrain$Group;"⟩, 13), (⟨"Releasetrain", "grownPercentage", "(LReleasetrain$Build;I)I"⟩, 13), (⟨"Releasetrain", "firstWaiting", "()LReleasetrain$Build;"⟩, 13), (⟨"Releasetrain", "knownGroup", "(I)LReleasetrain$Group;"⟩, 13), (⟨"Releasetrain", "ratedBuild", "(I)LReleasetrain$Build;"⟩, 13)]
theorem lw_r2 : ∀ q ∈ lw_privs_2, lw_okq q := List.forall_mem_cons.mpr ⟨lw_p16, List.forall_mem_cons.mpr ⟨lw_p17, List.forall_mem_cons.mpr ⟨lw_p18, List.forall_mem_cons.mpr ⟨lw_p19, List.forall_mem_cons.mpr ⟨lw_p20, List.forall_mem_cons.mpr ⟨lw_p21, List.forall_mem_cons.mpr ⟨lw_p22, List.forall_mem_cons.mpr ⟨lw_p23, fun _ h => absurd h List.not_mem_nil⟩⟩⟩⟩⟩⟩⟩⟩
def lw_privs : List (MethodName × Nat) := lw_privs_1 ++ (lw_privs_2)
def lw_tbl : List Cond := k2_sels lw_privs ++ tables_1
theorem lw_privs_ok : ∀ q ∈ lw_privs, lw_okq q := by
  show ∀ q ∈ lw_privs_1 ++ (lw_privs_2), lw_okq q
  exact List.forall_mem_append.mpr ⟨lw_r1, lw_r2⟩
/-- the streams that the claim lets the run draw from -/
abbrev lw_cs : List Choice := [Jvm.Choice.named "NaN.bits"]
theorem lw_bits : nanBits ∈ lw_cs := by first | decide | exact List.mem_cons_self | simp [lw_cs, nanBits]
end
section
/-! ===== BEGIN words of one list among another's, by their places ===== -/
theorem goodIn_r {big : List Cond} (ws : List Cond) (ps : List Nat) (hp : ws = ps.filterMap (fun i => big[i]?)) (h : ws.all goodWord = true) : GoodIn big ws := by
  intro w hw
  have h1 := List.all_eq_true.mp h w hw
  rw [hp] at hw
  obtain ⟨i, -, hi⟩ := List.mem_filterMap.mp hw
  have hm : w ∈ big := by first | exact List.mem_of_getElem? hi | exact List.getElem?_mem hi
  exact ⟨hm, good_of_word h1⟩
theorem goodIn_app {big a b : List Cond} (ha : GoodIn big a) (hb : GoodIn big b) : GoodIn big (a ++ b) := fun w h => (List.mem_append.mp h).elim (ha w) (hb w)
theorem goodIn_ca {big a b : List Cond} {c : Cond} (ha : GoodIn big (c :: a)) (hb : GoodIn big b) : GoodIn big (c :: (a ++ b)) := fun w h => (List.mem_cons.mp h).elim (fun e => ha w (List.mem_cons.mpr (Or.inl e))) (fun h => (List.mem_append.mp h).elim (fun h => ha w (List.mem_cons.mpr (Or.inr h))) (hb w))
theorem goodIn_sub {big ws : List Cond} (hm : ∀ w ∈ ws, w ∈ big) (h : ws.all goodWord = true) : GoodIn big ws := fun w hw => ⟨hm w hw, good_of_word (List.all_eq_true.mp h w hw)⟩
/-! ===== END ===== -/
/-! ===== BEGIN exceptions that leave a method, and their catching by the caller (launches without stack traces) ===== -/
section VXA
/-! The laws vx_back, vx_callV, vx_callS, vx_callSW, vx_throw0, vx_throwS follow proofs of the library, with one case more: JvmDerived/Free/Laws.lean (Back.of_free), Shelf42/LK1.lean (callV, callS), Shelf/KitTraced.lean (throwNew0V, throwNewS). -/
/-- where a method has thrown q: the class by its name, the cell, what was written, the world -/
def vx_T (XC : String → State → State → Prop) (st : State) (q : Addr) (t : State) (mc ms : Nat) (free : Addr → Prop) : Prop :=
  ∃ (E : String) (ce : Cell) (L : List Loc), XC E st t ∧ t.heap[q]? = some ce ∧ ce.vm = .none ∧ st.vm.findClass E = some ce.cls ∧ st.WarmedH t.vm ∧ st.sameButNew ({ t with vm := st.vm } : State) L mc ms ∧ ∀ z ∈ L, free z.base
def vx_Q (Qc : Array Value → State → Outcome → State → Prop) (XC : String → State → State → Prop) (mc ms : Nat) (free : Addr → Prop) : Array Value → State → Outcome → State → Prop := fun a st o t =>
  (Qc a st o t ∧ ∃ L, FrameEnd st o t L mc ms ∧ ∀ q ∈ L, free q.base) ∨ ∃ q, o = .threw q ∧ vx_T XC st q t mc ms free
/-- a callee that returns or throws -/
def vx_Met (l : Launch) (y : MethodName) (ws : List Cond) (rm : Room) (Pc : Array Value → State → Prop) (Qc : Array Value → State → Outcome → State → Prop) (XC : String → State → State → Prop) (mc ms : Nat) (free : Addr → Prop) : Prop :=
  MetFree l y (headSpec ws rm) Pc (fun _ _ _ _ _ => True) (vx_Q Qc XC mc ms free)
def vx_Post (XC : String → State → State → Prop) (mc ms : Nat) (free : Addr → Prop) : Pt → Array Value → Addr → Pt → Prop := fun A a q B =>
  ∃ (g : JFrame) (mk : MethodId) (t : State) (L : List Loc) (E : String) (ce : Cell), B.U.heap = t.heap ∧ B.U.vm = t.vm ∧ XC E (A.U.calling g mk a) t ∧ t.heap[q]? = some ce ∧ ce.vm = .none ∧ A.U.vm.findClass E = some ce.cls ∧ B.locs = A.locs ++ L ∧ (∀ z ∈ L, free z.base) ∧ B.cells = A.cells + mc ∧ B.slots = A.slots + ms
def vx_Back (l : Launch) (R : Room) (p : Program) (e : Env) (below : List Frame) (s : State) (sargs : Array Value) (y : MethodName) (len W9 : Nat)
    (Pre : Pt → Array Value → Prop) (Post : Pt → Array Value → Option Value → Pt → Prop) (PostX : Pt → Array Value → Addr → Pt → Prop) : Prop :=
  ∀ (m : MethodId) (meth : Method) (c : Code) (A : Pt) (g : JFrame) (ig : Instr) (mk : MethodId) (a : Array Value),
    Stand p l e R s m sargs below meth c A.U A.locs A.cells A.slots → g.method = m → g.locals.size = c.maxLocals → decode c.code g.pc = .ok (ig, len) →
    2 * g.monitorRoom + (g.stack.map fun v => v.category).sum ≤ W9 → A.U.methodNamed? y = some mk → Pre A a →
    (∃ (v : Option Value) (B : Pt), Stand p l e R s m sargs below meth c B.U B.locs B.cells B.slots ∧ Post A a v B ∧
      Steps p.tables e below (doInvoke e (A.U.setTop g) [] mk a).1 (B.U.setTop { g with pc := g.pc + len, stack := v.toList ++ g.stack })) ∨
    (∃ (q : Addr) (B : Pt), Stand p l e R s m sargs below meth c B.U B.locs B.cells B.slots ∧ PostX A a q B ∧
      Steps p.tables e below (doInvoke e (A.U.setTop g) [] mk a).1 ((B.U.setTop g).pushFrame (.throwing q)))
section Payer
variable {l : Launch} {R : Room} {p : Program} {e : Env} {below : List Frame} {s : State} {sargs : Array Value} {y : MethodName} {len W9 : Nat}
theorem vx_back {ws : List Cond} {rm : Room} {Pc : Array Value → State → Prop} {Qc : Array Value → State → Outcome → State → Prop} {XC : String → State → State → Prop} {mc ms : Nat} {free : Addr → Prop} {bytes : ByteArray} {maxL : Nat} {ret : Option FieldType}
    (hM : vx_Met l y ws rm Pc Qc XC mc ms free) (hblind : FrameBlind Pc) (hrc : rm.cells = mc) (hrs : rm.slots = ms)
    (hframes : rm.frames + 1 ≤ R.frames) (hlocals : W9 + (maxL + 11) + rm.locals ≤ R.locals)
    (hws : ∀ w ∈ ws, ∀ a' U, s.WarmedH U.vm → w.before a' U = true) (hcode : Cond.code y bytes maxL ret ∈ ws) (hinit : ∀ a' U, s.WarmedH U.vm → (Cond.initialized y.cls).before a' U = true) :
    vx_Back l R p e below s sargs y len W9 (PreOf R mc ms Pc) (PostOf Qc mc ms free) (vx_Post XC mc ms free) := by
  intro m meth c A g ig mk a X hg hsize hdg hW hn hp
  have h1 : (headSpec ws rm).pre.before a A.U = true := atoms_intro fun w hw => hws w hw _ _ X.warmed
  have h2 : (Cond.code y bytes maxL ret).before a A.U = true := hws _ hcode _ _ X.warmed
  have h3 : (Cond.initialized y.cls).before a A.U = true := hinit _ _ X.warmed
  have h4 : A.cells + (headSpec ws rm).room.cells ≤ R.cells := by rw [show (headSpec ws rm).room.cells = mc from hrc]; exact hp.1
  have h5 : A.slots + (headSpec ws rm).room.slots ≤ R.slots := by rw [show (headSpec ws rm).room.slots = ms from hrs]; exact hp.2.1
  have hPc : Pc a (A.U.calling g mk a) := hblind _ _ _ _ hp.2.2
  obtain ⟨U, Ls, c0, s0⟩ := A
  dsimp only [Pt.U, Pt.locs, Pt.cells, Pt.slots] at h1 h2 h3 h4 h5 X hn hPc ⊢
  obtain ⟨methY, cY, hmY, hcY, -, hlY, -, -, -, -⟩ := Cond.code_spec hn h2
  obtain ⟨kY, hkY, -⟩ := className_of_methodNamed hn
  have hinitY : kY.init = .initialized := Cond.initialized_spec (findClass_of_methodNamed hn) hkY h3
  have h : At U g.method c below := by rw [hg]; exact X.here
  have hlocals9 : W9 + (maxL + 11) + (headSpec ws rm).room.locals ≤ R.locals := hlocals
  have happ : (headSpec ws rm).appliesLoose y e.platform (U.calling g mk a) = true :=
    Spec.appliesLoose_calling (g := g) h hdg hn hkY hinitY
      (X.room_calling (g := g) (R' := (headSpec ws rm).room) hsize hmY hcY hframes (by rw [hlY]; omega) h4 h5) h1
  obtain ⟨mid, hmid⟩ := h.above
  have hfr : (U.setTop g).frames = (.java g :: mid) ++ below := by rw [State.frames_setTop' g h.top, hmid]; rfl
  obtain ⟨o, s₂, hsteps, -, hend, hq⟩ := Steps.callFree hM p X.admits X.cas X.clock (acts := []) hfr happ hPc trivial
  have hq' : vx_Q Qc XC mc ms free a (U.calling g mk a) o s₂ := hq
  rw [State.frames_setTop' g h.top] at hend
  obtain ⟨g₀, hg0⟩ := Option.isSome_iff_exists.mp h.top
  obtain ⟨r, hr⟩ := State.topJava?_eq_some.mp hg0
  have hr' : (({ U with heap := s₂.heap, slotsUsed := s₂.slotsUsed } : State).setVm s₂.vm).frames = .java g₀ :: r := hr
  rcases hq' with ⟨hqc, L, hfe, hL⟩ | ⟨q, rfl, E, ce, L, hx, hce, hcv, hcl, hW₂, hsm, hL⟩
  · obtain ⟨⟨v, rfl⟩, hW₂, e2, q2, q3, q4, q5, q6⟩ := id hfe
    have e3 : s₂ = ({ (U.calling g mk a).setFrames s₂.frames with heap := s₂.heap, slotsUsed := s₂.slotsUsed } : State).setVm s₂.vm := by
      have : s₂ = ({ s₂ with vm := (U.calling g mk a).vm } : State).setVm s₂.vm := rfl
      rw [e2] at this
      exact this
    obtain ⟨c₂, i₂, len₂, hc₂, hd₂, hf₂⟩ := hend
    have hW' : U.WarmedH s₂.vm := hW₂
    have hcc : c₂ = c := by
      have h1 : s₂.code? g.method = U.code? g.method := by
        rw [State.code?_eq, State.code?_eq, hW'.alike.method?]
      exact Option.some.inj (hc₂.symm.trans (h1.trans h.code))
    subst hcc
    have hlen : len₂ = len := by rw [hdg] at hd₂; cases hd₂; rfl
    subst hlen
    have hs₂ : s₂ = (({ U with heap := s₂.heap, slotsUsed := s₂.slotsUsed } : State).setVm s₂.vm).setTop { g with pc := g.pc + len₂, stack := v.toList ++ g.stack } := by
      refine e3.trans ?_
      rw [hf₂, State.calling_eq h.top, State.setFrames_setFrames, State.setTop_of_frames _ hr', hr]
      rfl
    have hsame : U.sameButNew ({ U with heap := s₂.heap, slotsUsed := s₂.slotsUsed } : State) L mc ms := by
      refine ⟨?_, q2, q3, q4, q5, q6⟩
      obtain ⟨t, ht, -⟩ := State.frames_cons hr
      show ({ U with heap := s₂.heap, slotsUsed := s₂.slotsUsed } : State) = { U.setFrames U.frames with heap := s₂.heap, slotsUsed := s₂.slotsUsed }
      rw [State.setFrames_self ht]
    subst hg
    refine Or.inl ⟨v, ⟨(({ U with heap := s₂.heap, slotsUsed := s₂.slotsUsed } : State).setVm s₂.vm), Ls ++ L, c0 + mc, s0 + ms⟩,
      ⟨X.admits, X.cas, X.clock, X.frames, X.room, X.hears, X.method, X.code, (X.here.setHeapUsed s₂.heap s₂.slotsUsed).setVm hW'.alike, X.tail, State.WarmedH.trans X.warmed hW', X.limits, X.bytes, X.same.trans (hsame.setVm s.vm)⟩,
      ⟨g, mk, s₂, L, rfl, rfl, hqc, rfl, hL, rfl, rfl⟩, ?_⟩
    show Steps p.tables e below _ ((({ U with heap := s₂.heap, slotsUsed := s₂.slotsUsed } : State).setVm s₂.vm).setTop { g with pc := g.pc + len₂, stack := v.toList ++ g.stack })
    rw [← hs₂]
    exact hsteps
  · obtain ⟨e2, q2, q3, q4, q5, q6⟩ := id hsm
    have e3 : s₂ = ({ (U.calling g mk a).setFrames s₂.frames with heap := s₂.heap, slotsUsed := s₂.slotsUsed } : State).setVm s₂.vm := by
      have : s₂ = ({ s₂ with vm := (U.calling g mk a).vm } : State).setVm s₂.vm := rfl
      rw [e2] at this
      exact this
    have hf₂ : s₂.frames = .throwing q :: .java g :: U.frames.tail := hend
    have hW' : U.WarmedH s₂.vm := hW₂
    have hs₂ : s₂ = ((({ U with heap := s₂.heap, slotsUsed := s₂.slotsUsed } : State).setVm s₂.vm).setTop g).pushFrame (.throwing q) := by
      refine e3.trans ?_
      rw [hf₂, State.calling_eq h.top, State.setFrames_setFrames, State.pushFrame, State.frames_setTop _ hr', State.setTop_of_frames _ hr', State.setFrames_setFrames, hr]
      rfl
    have hsame : U.sameButNew ({ U with heap := s₂.heap, slotsUsed := s₂.slotsUsed } : State) L mc ms := by
      refine ⟨?_, q2, q3, q4, q5, q6⟩
      obtain ⟨t, ht, -⟩ := State.frames_cons hr
      show ({ U with heap := s₂.heap, slotsUsed := s₂.slotsUsed } : State) = { U.setFrames U.frames with heap := s₂.heap, slotsUsed := s₂.slotsUsed }
      rw [State.setFrames_self ht]
    subst hg
    refine Or.inr ⟨q, ⟨(({ U with heap := s₂.heap, slotsUsed := s₂.slotsUsed } : State).setVm s₂.vm), Ls ++ L, c0 + mc, s0 + ms⟩,
      ⟨X.admits, X.cas, X.clock, X.frames, X.room, X.hears, X.method, X.code, (X.here.setHeapUsed s₂.heap s₂.slotsUsed).setVm hW'.alike, X.tail, State.WarmedH.trans X.warmed hW', X.limits, X.bytes, X.same.trans (hsame.setVm s.vm)⟩,
      ⟨g, mk, s₂, L, E, ce, rfl, rfl, hx, hce, hcv, hcl, rfl, hL, rfl, rfl⟩, ?_⟩
    show Steps p.tables e below _ (((({ U with heap := s₂.heap, slotsUsed := s₂.slotsUsed } : State).setVm s₂.vm).setTop g).pushFrame (.throwing q))
    rw [← hs₂]
    exact hsteps
end Payer
section Calls
variable {p : Program} {l : Launch} {e : Env} {R : Room} {s : State} {m : MethodId} {args : Array Value} {below : List Frame} {meth : Method} {c : Code} {T : State} {locs : List Loc} {cells slots : Nat}
theorem vx_callV (X : Stand p l e R s m args below meth c T locs cells slots) (hexec : p.tables.exec = Jvm.exec) {own C : String} {index : Nat} {y : MethodName} {bytes : ByteArray} {maxL : Nat} {ret : Option FieldType}
    (hown : s.vm.findClass own = some m.cls) (hlink : (Cond.methodLink own index y).before args s = true) (hinst : (Cond.instanceMethod y).before args s = true) (hsel : (Cond.selects C y y).before args s = true)
    (hcode : (Cond.code y bytes maxL ret).before args s = true) (hy : y.cls ≠ "java/lang/invoke/MethodHandle" ∧ y.cls ≠ "java/lang/invoke/VarHandle")
    {W9 : Nat} {Pre : Pt → Array Value → Prop} {Post : Pt → Array Value → Option Value → Pt → Prop} {PostX : Pt → Array Value → Addr → Pt → Prop} (hK : vx_Back l R p e below s args y 3 W9 Pre Post PostX)
    {b : Addr} {cellB : Cell} (hcell : T.heap[b]? = some cellB) (hobj : cellB.vm.isStatics = false) (hcls : s.vm.findClass C = some cellB.cls)
    {g : JFrame} (hg : g.method = m) (hsize : g.locals.size = c.maxLocals) {argsL rest : List Value} (hlen : ∀ sig, parseMethodDescriptor y.desc = some sig → argsL.length = sig.parameters.length)
    (hstack : g.stack = argsL.reverse ++ .ref b :: rest) (hW : 2 * g.monitorRoom + (rest.map fun v => v.category).sum ≤ W9) (hdg : decode c.code g.pc = .ok (.invokevirtual index, 3))
    (hpre : ∀ vm₁, s.WarmedH vm₁ → Pre ⟨T.setVm vm₁, locs, cells, slots⟩ (Value.ref b :: argsL).toArray) :
    (∃ (v : Option Value) (vm₁ : Vm) (B : Pt), s.WarmedH vm₁ ∧ Stand p l e R s m args below meth c B.U B.locs B.cells B.slots ∧ Post ⟨T.setVm vm₁, locs, cells, slots⟩ (Value.ref b :: argsL).toArray v B ∧
      ∀ target, Steps p.tables e below (B.U.setTop { g with pc := g.pc + 3, stack := v.toList ++ rest }) target → Steps p.tables e below (T.setTop g) target) ∨
    (∃ (q : Addr) (vm₁ : Vm) (B : Pt), s.WarmedH vm₁ ∧ Stand p l e R s m args below meth c B.U B.locs B.cells B.slots ∧ PostX ⟨T.setVm vm₁, locs, cells, slots⟩ (Value.ref b :: argsL).toArray q B ∧
      Steps p.tables e below (T.setTop g) ((B.U.setTop { g with stack := rest }).pushFrame (.throwing q))) := by
  obtain ⟨mk, methM, hnamed, hmethM, hstM, habM⟩ := Cond.instanceMethod_spec hinst
  obtain ⟨methM', cM, hmethM', -, -, -, -, -, -, hsigM⟩ := Cond.code_spec hnamed hcode
  cases hmethM.symm.trans hmethM'
  obtain ⟨c2, r2, m2, q1, q2, q3, q4, kP, hkP, hkPi⟩ := Cond.selects_spec hsel
  cases hcls.symm.trans q1
  cases (State.methodFound?_of_named hnamed hy).symm.trans q2
  cases hnamed.symm.trans q3
  have hselP : selectMethod e.platform s.vm cellB.cls mk = .method mk := by rw [Launch.admits_selectMethod X.admits]; exact q4
  obtain ⟨vm₁, X₁, hstep₁⟩ := X.invokevirtual hexec hown hlink hnamed hmethM hstM hkP hkPi hy (a := b) (cell := cellB) hcell
    (fun z h => by rw [h] at hobj; cases hobj) hselP hmethM habM hkP hkPi (g := g) hg (argsL := argsL) (rest := rest) (hlen _ hsigM) hstack hdg
  rcases hK m meth c ⟨T.setVm vm₁, locs, cells, slots⟩ { g with stack := rest } (.invokevirtual index) mk (Value.ref b :: argsL).toArray X₁ hg hsize hdg hW (X₁.named hnamed) (hpre vm₁ X₁.warmed) with ⟨v, B, X', hpost, hsteps⟩ | ⟨q, B, X', hpost, hsteps⟩
  · exact Or.inl ⟨v, vm₁, B, X₁.warmed, X', hpost, fun target h => hstep₁ _ fun acts => by rw [doInvoke_state]; exact hsteps.trans h⟩
  · exact Or.inr ⟨q, vm₁, B, X₁.warmed, X', hpost, hstep₁ _ fun acts => by rw [doInvoke_state]; exact hsteps⟩
theorem vx_callS (X : Stand p l e R s m args below meth c T locs cells slots) (hexec : p.tables.exec = Jvm.exec) {own : String} {index : Nat} {y : MethodName} {bytes : ByteArray} {maxL : Nat} {ret : Option FieldType}
    (hown : s.vm.findClass own = some m.cls) (hlink : (Cond.methodLink own index y).before args s = true) (hstat : (Cond.static y).before args s = true) (hinit : (Cond.initialized y.cls).before args s = true)
    (hcode : (Cond.code y bytes maxL ret).before args s = true) (hy : y.cls ≠ "java/lang/invoke/MethodHandle" ∧ y.cls ≠ "java/lang/invoke/VarHandle")
    {W9 : Nat} {Pre : Pt → Array Value → Prop} {Post : Pt → Array Value → Option Value → Pt → Prop} {PostX : Pt → Array Value → Addr → Pt → Prop} (hK : vx_Back l R p e below s args y 3 W9 Pre Post PostX)
    {g : JFrame} (hg : g.method = m) (hsize : g.locals.size = c.maxLocals) {argsL rest : List Value} (hlen : ∀ sig, parseMethodDescriptor y.desc = some sig → argsL.length = sig.parameters.length)
    (hstack : g.stack = argsL.reverse ++ rest) (hW : 2 * g.monitorRoom + (rest.map fun v => v.category).sum ≤ W9) (hdg : decode c.code g.pc = .ok (.invokestatic index, 3))
    (hpre : ∀ vm₁, s.WarmedH vm₁ → Pre ⟨T.setVm vm₁, locs, cells, slots⟩ argsL.toArray) :
    (∃ (v : Option Value) (vm₁ : Vm) (B : Pt), s.WarmedH vm₁ ∧ Stand p l e R s m args below meth c B.U B.locs B.cells B.slots ∧ Post ⟨T.setVm vm₁, locs, cells, slots⟩ argsL.toArray v B ∧
      ∀ target, Steps p.tables e below (B.U.setTop { g with pc := g.pc + 3, stack := v.toList ++ rest }) target → Steps p.tables e below (T.setTop g) target) ∨
    (∃ (q : Addr) (vm₁ : Vm) (B : Pt), s.WarmedH vm₁ ∧ Stand p l e R s m args below meth c B.U B.locs B.cells B.slots ∧ PostX ⟨T.setVm vm₁, locs, cells, slots⟩ argsL.toArray q B ∧
      Steps p.tables e below (T.setTop g) ((B.U.setTop { g with stack := rest }).pushFrame (.throwing q))) := by
  obtain ⟨mk, hnamed⟩ := Cond.code_named hcode
  obtain ⟨methM, cM, hmethM, -, -, -, -, -, -, hsigM⟩ := Cond.code_spec hnamed hcode
  have hstatic : methM.isStatic = true := Cond.static_spec hnamed hmethM hstat
  obtain ⟨kP, hkP, -⟩ := className_of_methodNamed hnamed
  have hinitP : kP.init = .initialized := Cond.initialized_spec (findClass_of_methodNamed hnamed) hkP hinit
  obtain ⟨vm₁, X₁, hstep₁⟩ := X.invokestatic hexec hown hlink hnamed hmethM hstatic hkP hinitP hy (g := g) hg (argsL := argsL) (rest := rest) (hlen _ hsigM) hstack hdg
  rcases hK m meth c ⟨T.setVm vm₁, locs, cells, slots⟩ { g with stack := rest } (.invokestatic index) mk argsL.toArray X₁ hg hsize hdg hW (X₁.named hnamed) (hpre vm₁ X₁.warmed) with ⟨v, B, X', hpost, hsteps⟩ | ⟨q, B, X', hpost, hsteps⟩
  · exact Or.inl ⟨v, vm₁, B, X₁.warmed, X', hpost, fun target h => hstep₁ _ fun acts => by rw [doInvoke_state]; exact hsteps.trans h⟩
  · exact Or.inr ⟨q, vm₁, B, X₁.warmed, X', hpost, hstep₁ _ fun acts => by rw [doInvoke_state]; exact hsteps⟩
end Calls
theorem vx_cls {s : State} {T : State} {vm₁ : Vm} {E : String} {k : ClassId} (hW : s.WarmedH vm₁) (h : (T.setVm vm₁).vm.findClass E = some k) : s.vm.findClass E = some k := by
  have h1 : vm₁.findClass E = some k := h
  rw [hW.alike.findClass] at h1
  exact h1
/-- the method's frame g, with q thrown over it -/
def vx_W (p : Program) (l : Launch) (e : Env) (R : Room) (s : State) (m : MethodId) (args : Array Value) (below : List Frame) (meth : Method) (c : Code) (H : Heap) (locs : List Loc) (cells slots : Nat) (Q : State → Prop) (g : JFrame) (q : Addr) : Prop :=
  ∀ T : State, T.heap = H → Stand p l e R s m args below meth c T locs cells slots → ∃ t, Steps p.tables e below ((T.setTop g).pushFrame (.throwing q)) t ∧ Q t
def vx_Run (p : Program) (l : Launch) (e : Env) (R : Room) (s : State) (m : MethodId) (args : Array Value) (below : List Frame) (meth : Method) (c : Code) (H : Heap) (locs : List Loc) (cells slots mc ms : Nat) (g : JFrame) (rest : List Value) (Qa : State → Outcome → State → Prop) (XC : String → State → State → Prop) (free : Addr → Prop) : Prop :=
  ∀ T : State, T.heap = H → Stand p l e R s m args below meth c T locs cells slots →
    (∃ (v : Option Value) (st₀ t T' : State) (L : List Loc), st₀.heap = H ∧ Stand p l e R s m args below meth c T' (locs ++ L) (cells + mc) (slots + ms) ∧ (∀ q ∈ L, free q.base) ∧ T'.heap = t.heap ∧ T'.vm = t.vm ∧ Qa st₀ (.returned v) t ∧
      Goes p e below T g T' { g with pc := g.pc + 3, stack := v.toList ++ rest }) ∨
    (∃ (q : Addr) (st₀ t T' : State) (L : List Loc) (E : String) (ce : Cell), st₀.heap = H ∧ Stand p l e R s m args below meth c T' (locs ++ L) (cells + mc) (slots + ms) ∧ (∀ z ∈ L, free z.base) ∧ T'.heap = t.heap ∧ T'.vm = t.vm ∧ XC E st₀ t ∧ t.heap[q]? = some ce ∧ ce.vm = .none ∧ s.vm.findClass E = some ce.cls ∧
      Steps p.tables e below (T.setTop g) ((T'.setTop { g with stack := rest }).pushFrame (.throwing q)))
def vx_X {S : Type} (px : S → Prop) (B : String → S → State → Prop) (A : Nat → Prop) : String → State → State → Prop := fun E st t => ∃ u : S, px u ∧ B E u t ∧ va_F A st t
section Runs
variable {p : Program} {l : Launch} {e : Env} {R : Room} {s : State} {m : MethodId} {args : Array Value} {below : List Frame} {meth : Method} {c : Code} {H : Heap} {locs : List Loc} {cells slots : Nat}
variable {y : MethodName} {bytes cc : ByteArray} {maxL nL mc ms n index : Nat} {ret : Option FieldType} {ws : List Cond} {rm : Room} {Pc : Array Value → State → Prop} {Qc : Array Value → State → Outcome → State → Prop} {XC : String → State → State → Prop} {free : Addr → Prop} {Ts : List Cond} {own C : String} {b : Addr} {As rest : List Value} {g : JFrame}
theorem vx_callBack (cb : CallB R s args own index y bytes maxL ret ws rm mc ms n) (hM : vx_Met l y ws rm Pc Qc XC mc ms free) (hbl : FrameBlind Pc) : vx_Back l R p e below s args y 3 8 (PreOf R mc ms Pc) (PostOf Qc mc ms free) (vx_Post XC mc ms free) := by
  obtain ⟨hrc, hrs, hfr, hlo, hws, hcw, -, hini, -⟩ := cb
  exact vx_back (bytes := bytes) (maxL := maxL) (ret := ret) hM hbl hrc hrs hfr hlo hws hcw (fun a' U hW => word_at hW (Or.inl (by first | rfl | simp [Cond.onTables, Cond.keeps, Cond.steady])) hini)
theorem vx_runV (S : CallFix p m c cc nL s args Ts own) (hM : vx_Met l y ws rm Pc Qc XC mc ms free) (cw : CallW R s args own C index y bytes maxL ret ws rm mc ms n) (hp : PreV s H C b Pc As)
    (hg : g.method = m) (hn : As.length = n) (hsize : g.locals.size = nL) (hstack : g.stack = As.reverse ++ .ref b :: rest) (hW : 2 * g.monitorRoom + (rest.map fun v => v.category).sum ≤ 8) (hdg : decode cc g.pc = .ok (.invokevirtual index, 3)) (hf : cells + mc ≤ R.cells ∧ slots + ms ≤ R.slots) :
    vx_Run p l e R s m args below meth c H locs cells slots mc ms g rest (Qc (Value.ref b :: As).toArray) XC free := by
  have hK : vx_Back l R p e below s args y 3 8 (PreOf R mc ms Pc) (PostOf Qc mc ms free) (vx_Post XC mc ms free) := vx_callBack cw.1 hM hp.1
  obtain ⟨⟨-, -, -, -, -, -, hcode, -, hy, hlen, hl⟩, hin, hse⟩ := cw
  obtain ⟨hx, hb, hml, ho, -⟩ := S
  obtain ⟨-, ⟨cellB, hcB, hoB, hclB⟩, hPc⟩ := hp
  intro T hT X
  rcases vx_callV X hx (C := C) (bytes := bytes) (maxL := maxL) (ret := ret) ho hl hin hse hcode hy hK (by rw [hT]; exact hcB) hoB hclB hg (hsize.trans hml.symm) (argsL := As) (rest := rest) (fun sig h => hn.trans (hlen sig h)) hstack hW (by rw [hb]; exact hdg)
    (fun vm₁ hW₁ => ⟨hf.1, hf.2, hPc (T.setVm vm₁) hT hW₁⟩) with ⟨v, vm₁, ⟨U', l2, c2, s2⟩, hW₁, X', ⟨g', mk, t, L, e1, e2, hq, h1, hL, h2, h3⟩, st⟩ | ⟨q, vm₁, ⟨U', l2, c2, s2⟩, hW₁, X', ⟨g', mk, t, L, E, ce, e1, e2, hq, hce, hcv, hcl, h1, hL, h2, h3⟩, st⟩
  · dsimp only [Pt.U, Pt.locs, Pt.cells, Pt.slots] at X' e1 e2 h1 h2 h3 st
    subst h1; subst h2; subst h3
    exact Or.inl ⟨v, (T.setVm vm₁).calling g' mk (Value.ref b :: As).toArray, t, U', L, hT, X', hL, e1, e2, hq, st⟩
  · dsimp only [Pt.U, Pt.locs, Pt.cells, Pt.slots] at X' e1 e2 h1 h2 h3 st hcl
    subst h1; subst h2; subst h3
    exact Or.inr ⟨q, (T.setVm vm₁).calling g' mk (Value.ref b :: As).toArray, t, U', L, E, ce, hT, X', hL, e1, e2, hq, hce, hcv, vx_cls hW₁ hcl, st⟩
theorem vx_runS (S : CallFix p m c cc nL s args Ts own) (hM : vx_Met l y ws rm Pc Qc XC mc ms free) (cw : CallB R s args own index y bytes maxL ret ws rm mc ms n ∧ (Cond.static y).before args s = true) (hp : PreS s H Pc As)
    (hg : g.method = m) (hn : As.length = n) (hsize : g.locals.size = nL) (hstack : g.stack = As.reverse ++ rest) (hW : 2 * g.monitorRoom + (rest.map fun v => v.category).sum ≤ 8) (hdg : decode cc g.pc = .ok (.invokestatic index, 3)) (hf : cells + mc ≤ R.cells ∧ slots + ms ≤ R.slots) :
    vx_Run p l e R s m args below meth c H locs cells slots mc ms g rest (Qc As.toArray) XC free := by
  have hK : vx_Back l R p e below s args y 3 8 (PreOf R mc ms Pc) (PostOf Qc mc ms free) (vx_Post XC mc ms free) := vx_callBack cw.1 hM hp.1
  obtain ⟨⟨-, -, -, -, -, -, hcode, hini, hy, hlen, hl⟩, hstt⟩ := cw
  obtain ⟨hx, hb, hml, ho, -⟩ := S
  intro T hT X
  rcases vx_callS X hx (bytes := bytes) (maxL := maxL) (ret := ret) ho hl hstt hini hcode hy hK hg (hsize.trans hml.symm) (argsL := As) (rest := rest) (fun sig h => hn.trans (hlen sig h)) hstack hW (by rw [hb]; exact hdg)
    (fun vm₁ hW₁ => ⟨hf.1, hf.2, hp.2 (T.setVm vm₁) hT hW₁⟩) with ⟨v, vm₁, ⟨U', l2, c2, s2⟩, hW₁, X', ⟨g', mk, t, L, e1, e2, hq, h1, hL, h2, h3⟩, st⟩ | ⟨q, vm₁, ⟨U', l2, c2, s2⟩, hW₁, X', ⟨g', mk, t, L, E, ce, e1, e2, hq, hce, hcv, hcl, h1, hL, h2, h3⟩, st⟩
  · dsimp only [Pt.U, Pt.locs, Pt.cells, Pt.slots] at X' e1 e2 h1 h2 h3 st
    subst h1; subst h2; subst h3
    exact Or.inl ⟨v, (T.setVm vm₁).calling g' mk As.toArray, t, U', L, hT, X', hL, e1, e2, hq, st⟩
  · dsimp only [Pt.U, Pt.locs, Pt.cells, Pt.slots] at X' e1 e2 h1 h2 h3 st hcl
    subst h1; subst h2; subst h3
    exact Or.inr ⟨q, (T.setVm vm₁).calling g' mk As.toArray, t, U', L, E, ce, hT, X', hL, e1, e2, hq, hce, hcv, vx_cls hW₁ hcl, st⟩
end Runs
section Rows
variable {p : Program} {l : Launch} {e : Env} {R : Room} {s : State} {m : MethodId} {args : Array Value} {below : List Frame} {meth : Method} {c : Code} {H : Heap} {locs : List Loc} {cells slots : Nat} {Q : State → Prop}
variable {mc ms : Nat} {free : Addr → Prop} {A0 A1 : Nat → Prop} {H0 : Heap} {a : Array Value} {pc : Nat} {ls : Array Slot} {st0 rest : List Value}
theorem vx_keep {st₀ t T' : State} {L : List Loc} (h0 : st₀.heap = H) (e1 : T'.heap = t.heap) (hS : va_S A0 H0 H locs) (hA : ∀ q, q < H.size → A1 q → A0 q) (hf : ∀ q, free q → A0 q) (hL : ∀ q ∈ L, free q.base) (hF : va_F A1 st₀ t) :
    H.size ≤ T'.heap.size ∧ (∀ q : Nat, q < H.size → ¬ A1 q → T'.heap[q]? = H[q]?) ∧ va_S A0 H0 T'.heap (locs ++ L) := by
  obtain ⟨hz, hk⟩ := hF
  rw [h0] at hz hk
  exact ⟨by rw [e1]; exact hz, fun q h1 h2 => by rw [e1]; exact hk q h1 h2,
    ⟨Nat.le_trans hS.1 (by rw [e1]; exact hz), fun q h1 h2 => by rw [e1, hk q (Nat.lt_of_lt_of_le h1 hS.1) (fun z => h2 (hA q (Nat.lt_of_lt_of_le h1 hS.1) z))]; exact hS.2.1 q h1 h2, fun q hq => by
      rcases List.mem_append.mp hq with h | h
      · exact hS.2.2 q h
      · exact hf _ (hL q h)⟩⟩
theorem vx_calli {S SX : Type} {post : Int32 → S → Prop} {px : SX → Prop} {B : S → State → Prop} {BX : String → SX → State → Prop} {AX : Nat → Prop} (hr : vx_Run p l e R s m args below meth c H locs cells slots mc ms (F0 m pc ls st0) rest (va_Qi post B A1 a) (vx_X px BX AX) free) (hS : va_S A0 H0 H locs) (hA : ∀ q, q < H.size → A1 q → A0 q) (hf : ∀ q, free q → A0 q) (hAX : ∀ q, q < H.size → AX q → A0 q)
    (kx : ∀ (E : String) (ce : Cell) (q9 : Addr) (u : SX) (t : State) (H1 : Heap) (locs1 : List Loc), t.heap = H1 → s.vm.Alike t.vm → px u → BX E u t → H.size ≤ H1.size → (∀ q : Nat, q < H.size → ¬ AX q → H1[q]? = H[q]?) → va_S A0 H0 H1 locs1 → H1[q9]? = some ce → ce.vm = .none → s.vm.findClass E = some ce.cls → vx_W p l e R s m args below meth c H1 locs1 (cells + mc) (slots + ms) Q (F0 m pc ls rest) q9)
    (kk : ∀ (r : Int32) (u : S) (t : State) (H1 : Heap) (locs1 : List Loc), t.heap = H1 → s.vm.Alike t.vm → post r u → B u t → H.size ≤ H1.size → (∀ q : Nat, q < H.size → ¬ A1 q → H1[q]? = H[q]?) → va_S A0 H0 H1 locs1 → W p l e R s m args below meth c H1 locs1 (cells + mc) (slots + ms) Q (F0 m (pc + 3) ls (.int r :: rest))) : W p l e R s m args below meth c H locs cells slots Q (F0 m pc ls st0) := by
  intro T hT X
  rcases hr T hT X with ⟨v, st₀, t, T', L, h0, X', hL, e1, e2, ⟨⟨r, u, hv, hp, hb⟩, hF⟩, st⟩ | ⟨q, st₀, t, T', L, E, ce, h0, X', hL, e1, e2, ⟨u, hp, hb, hF⟩, hce, hcv, hcl, st⟩
  · cases hv
    obtain ⟨k1, k2, k3⟩ := vx_keep h0 e1 hS hA hf hL hF
    obtain ⟨t2, a1, b1⟩ := kk r u t T'.heap (locs ++ L) e1.symm (by rw [← e2]; exact X'.warmed.alike) hp hb k1 k2 k3 T' rfl X'
    exact ⟨t2, st t2 a1, b1⟩
  · obtain ⟨k1, k2, k3⟩ := vx_keep h0 e1 hS hAX hf hL hF
    obtain ⟨t2, a1, b1⟩ := kx E ce q u t T'.heap (locs ++ L) e1.symm (by rw [← e2]; exact X'.warmed.alike) hp hb k1 k2 k3 (by rw [e1]; exact hce) hcv hcl T' rfl X'
    exact ⟨t2, st.trans a1, b1⟩
theorem vx_calll {S SX : Type} {post : Int64 → S → Prop} {px : SX → Prop} {B : S → State → Prop} {BX : String → SX → State → Prop} {AX : Nat → Prop} (hr : vx_Run p l e R s m args below meth c H locs cells slots mc ms (F0 m pc ls st0) rest (va_Ql post B A1 a) (vx_X px BX AX) free) (hS : va_S A0 H0 H locs) (hA : ∀ q, q < H.size → A1 q → A0 q) (hf : ∀ q, free q → A0 q) (hAX : ∀ q, q < H.size → AX q → A0 q)
    (kx : ∀ (E : String) (ce : Cell) (q9 : Addr) (u : SX) (t : State) (H1 : Heap) (locs1 : List Loc), t.heap = H1 → s.vm.Alike t.vm → px u → BX E u t → H.size ≤ H1.size → (∀ q : Nat, q < H.size → ¬ AX q → H1[q]? = H[q]?) → va_S A0 H0 H1 locs1 → H1[q9]? = some ce → ce.vm = .none → s.vm.findClass E = some ce.cls → vx_W p l e R s m args below meth c H1 locs1 (cells + mc) (slots + ms) Q (F0 m pc ls rest) q9)
    (kk : ∀ (r : Int64) (u : S) (t : State) (H1 : Heap) (locs1 : List Loc), t.heap = H1 → s.vm.Alike t.vm → post r u → B u t → H.size ≤ H1.size → (∀ q : Nat, q < H.size → ¬ A1 q → H1[q]? = H[q]?) → va_S A0 H0 H1 locs1 → W p l e R s m args below meth c H1 locs1 (cells + mc) (slots + ms) Q (F0 m (pc + 3) ls (.long r :: rest))) : W p l e R s m args below meth c H locs cells slots Q (F0 m pc ls st0) := by
  intro T hT X
  rcases hr T hT X with ⟨v, st₀, t, T', L, h0, X', hL, e1, e2, ⟨⟨r, u, hv, hp, hb⟩, hF⟩, st⟩ | ⟨q, st₀, t, T', L, E, ce, h0, X', hL, e1, e2, ⟨u, hp, hb, hF⟩, hce, hcv, hcl, st⟩
  · cases hv
    obtain ⟨k1, k2, k3⟩ := vx_keep h0 e1 hS hA hf hL hF
    obtain ⟨t2, a1, b1⟩ := kk r u t T'.heap (locs ++ L) e1.symm (by rw [← e2]; exact X'.warmed.alike) hp hb k1 k2 k3 T' rfl X'
    exact ⟨t2, st t2 a1, b1⟩
  · obtain ⟨k1, k2, k3⟩ := vx_keep h0 e1 hS hAX hf hL hF
    obtain ⟨t2, a1, b1⟩ := kx E ce q u t T'.heap (locs ++ L) e1.symm (by rw [← e2]; exact X'.warmed.alike) hp hb k1 k2 k3 (by rw [e1]; exact hce) hcv hcl T' rfl X'
    exact ⟨t2, st.trans a1, b1⟩
theorem vx_callf {S SX : Type} {post : UInt32 → S → Prop} {px : SX → Prop} {B : S → State → Prop} {BX : String → SX → State → Prop} {AX : Nat → Prop} (hr : vx_Run p l e R s m args below meth c H locs cells slots mc ms (F0 m pc ls st0) rest (va_Qf post B A1 a) (vx_X px BX AX) free) (hS : va_S A0 H0 H locs) (hA : ∀ q, q < H.size → A1 q → A0 q) (hf : ∀ q, free q → A0 q) (hAX : ∀ q, q < H.size → AX q → A0 q)
    (kx : ∀ (E : String) (ce : Cell) (q9 : Addr) (u : SX) (t : State) (H1 : Heap) (locs1 : List Loc), t.heap = H1 → s.vm.Alike t.vm → px u → BX E u t → H.size ≤ H1.size → (∀ q : Nat, q < H.size → ¬ AX q → H1[q]? = H[q]?) → va_S A0 H0 H1 locs1 → H1[q9]? = some ce → ce.vm = .none → s.vm.findClass E = some ce.cls → vx_W p l e R s m args below meth c H1 locs1 (cells + mc) (slots + ms) Q (F0 m pc ls rest) q9)
    (kk : ∀ (r : UInt32) (u : S) (t : State) (H1 : Heap) (locs1 : List Loc), t.heap = H1 → s.vm.Alike t.vm → post r u → B u t → H.size ≤ H1.size → (∀ q : Nat, q < H.size → ¬ A1 q → H1[q]? = H[q]?) → va_S A0 H0 H1 locs1 → W p l e R s m args below meth c H1 locs1 (cells + mc) (slots + ms) Q (F0 m (pc + 3) ls (.float r :: rest))) : W p l e R s m args below meth c H locs cells slots Q (F0 m pc ls st0) := by
  intro T hT X
  rcases hr T hT X with ⟨v, st₀, t, T', L, h0, X', hL, e1, e2, ⟨⟨r, u, hv, hp, hb⟩, hF⟩, st⟩ | ⟨q, st₀, t, T', L, E, ce, h0, X', hL, e1, e2, ⟨u, hp, hb, hF⟩, hce, hcv, hcl, st⟩
  · cases hv
    obtain ⟨k1, k2, k3⟩ := vx_keep h0 e1 hS hA hf hL hF
    obtain ⟨t2, a1, b1⟩ := kk r u t T'.heap (locs ++ L) e1.symm (by rw [← e2]; exact X'.warmed.alike) hp hb k1 k2 k3 T' rfl X'
    exact ⟨t2, st t2 a1, b1⟩
  · obtain ⟨k1, k2, k3⟩ := vx_keep h0 e1 hS hAX hf hL hF
    obtain ⟨t2, a1, b1⟩ := kx E ce q u t T'.heap (locs ++ L) e1.symm (by rw [← e2]; exact X'.warmed.alike) hp hb k1 k2 k3 (by rw [e1]; exact hce) hcv hcl T' rfl X'
    exact ⟨t2, st.trans a1, b1⟩
theorem vx_calld {S SX : Type} {post : UInt64 → S → Prop} {px : SX → Prop} {B : S → State → Prop} {BX : String → SX → State → Prop} {AX : Nat → Prop} (hr : vx_Run p l e R s m args below meth c H locs cells slots mc ms (F0 m pc ls st0) rest (va_Qd post B A1 a) (vx_X px BX AX) free) (hS : va_S A0 H0 H locs) (hA : ∀ q, q < H.size → A1 q → A0 q) (hf : ∀ q, free q → A0 q) (hAX : ∀ q, q < H.size → AX q → A0 q)
    (kx : ∀ (E : String) (ce : Cell) (q9 : Addr) (u : SX) (t : State) (H1 : Heap) (locs1 : List Loc), t.heap = H1 → s.vm.Alike t.vm → px u → BX E u t → H.size ≤ H1.size → (∀ q : Nat, q < H.size → ¬ AX q → H1[q]? = H[q]?) → va_S A0 H0 H1 locs1 → H1[q9]? = some ce → ce.vm = .none → s.vm.findClass E = some ce.cls → vx_W p l e R s m args below meth c H1 locs1 (cells + mc) (slots + ms) Q (F0 m pc ls rest) q9)
    (kk : ∀ (r : UInt64) (u : S) (t : State) (H1 : Heap) (locs1 : List Loc), t.heap = H1 → s.vm.Alike t.vm → post r u → B u t → H.size ≤ H1.size → (∀ q : Nat, q < H.size → ¬ A1 q → H1[q]? = H[q]?) → va_S A0 H0 H1 locs1 → W p l e R s m args below meth c H1 locs1 (cells + mc) (slots + ms) Q (F0 m (pc + 3) ls (.double r :: rest))) : W p l e R s m args below meth c H locs cells slots Q (F0 m pc ls st0) := by
  intro T hT X
  rcases hr T hT X with ⟨v, st₀, t, T', L, h0, X', hL, e1, e2, ⟨⟨r, u, hv, hp, hb⟩, hF⟩, st⟩ | ⟨q, st₀, t, T', L, E, ce, h0, X', hL, e1, e2, ⟨u, hp, hb, hF⟩, hce, hcv, hcl, st⟩
  · cases hv
    obtain ⟨k1, k2, k3⟩ := vx_keep h0 e1 hS hA hf hL hF
    obtain ⟨t2, a1, b1⟩ := kk r u t T'.heap (locs ++ L) e1.symm (by rw [← e2]; exact X'.warmed.alike) hp hb k1 k2 k3 T' rfl X'
    exact ⟨t2, st t2 a1, b1⟩
  · obtain ⟨k1, k2, k3⟩ := vx_keep h0 e1 hS hAX hf hL hF
    obtain ⟨t2, a1, b1⟩ := kx E ce q u t T'.heap (locs ++ L) e1.symm (by rw [← e2]; exact X'.warmed.alike) hp hb k1 k2 k3 (by rw [e1]; exact hce) hcv hcl T' rfl X'
    exact ⟨t2, st.trans a1, b1⟩
theorem vx_callv {S SX : Type} {post : S → Prop} {px : SX → Prop} {B : S → State → Prop} {BX : String → SX → State → Prop} {AX : Nat → Prop} (hr : vx_Run p l e R s m args below meth c H locs cells slots mc ms (F0 m pc ls st0) rest (va_Qv post B A1 a) (vx_X px BX AX) free) (hS : va_S A0 H0 H locs) (hA : ∀ q, q < H.size → A1 q → A0 q) (hf : ∀ q, free q → A0 q) (hAX : ∀ q, q < H.size → AX q → A0 q)
    (kx : ∀ (E : String) (ce : Cell) (q9 : Addr) (u : SX) (t : State) (H1 : Heap) (locs1 : List Loc), t.heap = H1 → s.vm.Alike t.vm → px u → BX E u t → H.size ≤ H1.size → (∀ q : Nat, q < H.size → ¬ AX q → H1[q]? = H[q]?) → va_S A0 H0 H1 locs1 → H1[q9]? = some ce → ce.vm = .none → s.vm.findClass E = some ce.cls → vx_W p l e R s m args below meth c H1 locs1 (cells + mc) (slots + ms) Q (F0 m pc ls rest) q9)
    (kk : ∀ (u : S) (t : State) (H1 : Heap) (locs1 : List Loc), t.heap = H1 → s.vm.Alike t.vm → post u → B u t → H.size ≤ H1.size → (∀ q : Nat, q < H.size → ¬ A1 q → H1[q]? = H[q]?) → va_S A0 H0 H1 locs1 → W p l e R s m args below meth c H1 locs1 (cells + mc) (slots + ms) Q (F0 m (pc + 3) ls (rest))) : W p l e R s m args below meth c H locs cells slots Q (F0 m pc ls st0) := by
  intro T hT X
  rcases hr T hT X with ⟨v, st₀, t, T', L, h0, X', hL, e1, e2, ⟨⟨u, hv, hp, hb⟩, hF⟩, st⟩ | ⟨q, st₀, t, T', L, E, ce, h0, X', hL, e1, e2, ⟨u, hp, hb, hF⟩, hce, hcv, hcl, st⟩
  · cases hv
    obtain ⟨k1, k2, k3⟩ := vx_keep h0 e1 hS hA hf hL hF
    obtain ⟨t2, a1, b1⟩ := kk u t T'.heap (locs ++ L) e1.symm (by rw [← e2]; exact X'.warmed.alike) hp hb k1 k2 k3 T' rfl X'
    exact ⟨t2, st t2 a1, b1⟩
  · obtain ⟨k1, k2, k3⟩ := vx_keep h0 e1 hS hAX hf hL hF
    obtain ⟨t2, a1, b1⟩ := kx E ce q u t T'.heap (locs ++ L) e1.symm (by rw [← e2]; exact X'.warmed.alike) hp hb k1 k2 k3 (by rw [e1]; exact hce) hcv hcl T' rfl X'
    exact ⟨t2, st.trans a1, b1⟩
/-- caught by the row x of this method's table; the rows ahead don't take it -/
theorem vx_catch {own name : String} {E : String} {ce : Cell} {q : Addr} (hown : s.vm.findClass own = some m.cls) (pre : List ExceptionTableEntry) (x : ExceptionTableEntry) (suf : List ExceptionTableEntry) (hsplit : c.exceptionTable.toList = pre ++ x :: suf)
    (hpass : ∀ z ∈ pre, covers z pc = false ∨ (z.catchType ≠ 0 ∧ ∃ nm : String, (Cond.classLink own z.catchType nm).before args s = true ∧ va_Nc E nm s)) (hx : covers x pc = true) (h0 : x.catchType ≠ 0)
    (hlink : (Cond.classLink own x.catchType name).before args s = true) (hcast : (Cond.castable E name).before args s = true) (hcell : H[q]? = some ce) (hv : ce.vm = .none) (hcl : s.vm.findClass E = some ce.cls)
    (kk : W p l e R s m args below meth c H locs cells slots Q (F0 m x.handlerPc ls [.ref q])) : vx_W p l e R s m args below meth c H locs cells slots Q (F0 m pc ls rest) q := by
  intro T hT X
  have hpl : e.platform.magicAccessors = ({} : Platform).magicAccessors := by rw [X.admits.platform]
  obtain ⟨c3, c4, hc3, hc4, hasg⟩ := Cond.castable_spec hcast
  cases Option.some.inj (hc3.symm.trans hcl)
  obtain ⟨c5, hc5, hcl5⟩ := Cond.classLink_spec hown hlink e.platform hpl
  cases Option.some.inj (hc4.symm.trans hc5)
  obtain ⟨vm', X', st⟩ := X.thenCaughtThrough q (g := F0 m pc ls rest) rfl (Steps.refl _) (by rw [hT]; exact hcell) (by rw [hv]; rfl) (by obtain ⟨k9, h9, -⟩ := Vm.findClass_spec hcl; exact ⟨k9, h9⟩) pre x suf hsplit
    (fun z hz => by
      rcases hpass z hz with h | ⟨hz0, nm, hl1, hn1⟩
      · exact Or.inl h
      · obtain ⟨c6, hc6, hcl6⟩ := Cond.classLink_spec hown hl1 e.platform hpl
        obtain ⟨a8, b8, h1, h2, h3⟩ := hn1
        cases Option.some.inj (h1.symm.trans hcl)
        cases Option.some.inj (h2.symm.trans hc6)
        exact Or.inr ⟨hz0, _, hcl6, h3⟩) hx (Or.inr ⟨h0, c4, hcl5, hasg⟩)
  obtain ⟨t, a1, b1⟩ := kk (T.setVm vm') hT X'
  exact ⟨t, st.trans a1, b1⟩
end Rows
section Ends
variable {p : Program} {l : Launch} {e : Env} {R : Room} {s : State} {m : MethodId} {args : Array Value} {below : List Frame} {meth : Method} {c : Code} {H : Heap} {locs : List Loc} {cells slots : Nat} {Q : State → Prop}
variable {mc ms : Nat} {free : Addr → Prop} {A0 A1 : Nat → Prop} {H0 : Heap} {a : Array Value} {ls : Array Slot} {st0 rest : List Value}
variable {Qc : Array Value → State → Outcome → State → Prop} {XC : String → State → State → Prop}
/-- what a body that may throw owes at its end -/
def vx_MQ (below : List Frame) (Qc : Array Value → State → Outcome → State → Prop) (XC : String → State → State → Prop) (a : Array Value) (s : State) (mc ms : Nat) (free : Addr → Prop) : State → Prop := fun t =>
  ∃ o, t.status = .running ∧ Ended t below o ∧ vx_Q Qc XC mc ms free a s o t
theorem vx_ret {g : JFrame} {mc ms : Nat} (k : W p l e R s m args below meth c H locs cells slots (MQ below Qc args s mc ms free) g) : W p l e R s m args below meth c H locs cells slots (vx_MQ below Qc XC args s mc ms free) g := by
  intro T hT X
  obtain ⟨t, a1, o, b1, b2, b3, b4⟩ := k T hT X
  exact ⟨t, a1, o, b1, b2, Or.inl ⟨b3, b4⟩⟩
/-- not caught here: it goes on to the caller -/
theorem vx_widen {g : JFrame} {q : Addr} {k n : Nat} (h1 : cells ≤ k) (h2 : slots ≤ n) (kk : vx_W p l e R s m args below meth c H locs k n Q g q) : vx_W p l e R s m args below meth c H locs cells slots Q g q := fun T hT X => kk T hT (stand_widen X h1 h2)
theorem vx_out {pc : Nat} {E : String} {ce : Cell} {q : Addr} {mc ms : Nat} (hout : ∀ x ∈ c.exceptionTable.toList, covers x pc = false) (hlocks : meth.locks = false) (hcell : H[q]? = some ce) (hv : ce.vm = .none) (hcl : s.vm.findClass E = some ce.cls)
    (hx : ∀ t : State, t.heap = H → s.vm.Alike t.vm → XC E s t) (hf : ∀ z ∈ locs, free z.base) (hc : cells ≤ mc) (hs : slots ≤ ms) :
    vx_W p l e R s m args below meth c H locs cells slots (vx_MQ below Qc XC args s mc ms free) (F0 m pc ls rest) q := by
  intro T hT X
  obtain ⟨st1, hrun, hend, hW, hsm⟩ := X.leaveThrown q (g := F0 m pc ls rest) rfl rfl rfl hout hlocks
  have hcell9 : (T.setFrames (.throwing q :: below)).heap[q]? = some ce := by
    show T.heap[q]? = some ce
    rw [hT]; exact hcell
  exact ⟨_, st1, .threw q, hrun, hend, Or.inr ⟨q, rfl, E, ce, locs, hx _ hT hW.alike, hcell9, hv, hcl, hW, hsm.mono hc hs, hf⟩⟩
theorem vx_frame {U : State} {k n : Nat} (h : s.sameButNew ({ U with vm := s.vm } : State) locs k n) : s.heap.size ≤ U.heap.size ∧ ∀ q : Nat, q < s.heap.size → (∀ z ∈ locs, z.base ≠ q) → U.heap[q]? = s.heap[q]? := by
  obtain ⟨-, h2, -, -, -, h6⟩ := h
  refine ⟨h2, fun q hq hz => ?_⟩
  obtain ⟨c9, e1, e2, e3, e4⟩ := h6 q _ (Array.getElem?_eq_getElem hq)
  have hs : c9.slots = (s.heap[q]).slots := Array.ext_getElem? fun i => e4 i fun hm => hz _ hm rfl
  have h9 : c9 = s.heap[q] := by
    rw [hs] at e2
    exact e2
  have e5 : U.heap[q]? = some c9 := e1
  rw [e5, h9, Array.getElem?_eq_getElem hq]
/-- the words of a throw but the four that speak of the heap -/
def vx_no (w : Cond) : Bool := decide (w ≠ .isRef (.static Bundle.tN "UNASSIGNED_STACK" Bundle.steD)) && decide (w ≠ .isRef (.static Bundle.tN "SUPPRESSED_SENTINEL" Bundle.listD)) && decide (w ≠ .laysStatic Bundle.tN "UNASSIGNED_STACK" Bundle.steD) && decide (w ≠ .laysStatic Bundle.tN "SUPPRESSED_SENTINEL" Bundle.listD)
def vx_at0 (own : String) (ic : Nat) (X : String) (names : List String) : List Cond := (Bundle.ownAtoms0 own ic X names).filter vx_no
def vx_atS (own : String) (ic : Nat) (X : String) (names : List String) : List Cond := (Bundle.ownAtoms own ic X names).filter vx_no
/-- a word that the tables alone decide, or a good one -/
def vx_ot (w : Cond) : Bool := w.onTables || goodWord w
theorem vx_ot_at {args a' : Array Value} {s U : State} {w : Cond} (hW : s.WarmedH U.vm) (hvm : s.vm = U.vm) (hg : vx_ot w = true) (h : w.before args s = true) : w.before a' U = true := by
  simp only [vx_ot, Bool.or_eq_true] at hg
  rcases hg with hg | hg
  · exact va_tabs hg hvm h
  · exact word_at hW (good_of_word hg) h
/-- a list's words: the good ones out of the method's own list, the others by premises of their own -/
theorem vx_hat {args : Array Value} {s : State} {L B : List Cond} (h1 : ∀ w ∈ L.filter goodWord, w.before args s = true) (h2 : ∀ w ∈ L.filter (fun w => !goodWord w), w ∈ B) (h3 : ∀ w ∈ B, w.before args s = true) : ∀ w ∈ L, w.before args s = true := by
  intro w hw
  by_cases g : goodWord w = true
  · exact h1 w (List.mem_filter.mpr ⟨hw, g⟩)
  · refine h3 w (h2 w (List.mem_filter.mpr ⟨hw, ?_⟩))
    show (!goodWord w) = true
    cases hgw : goodWord w
    · rfl
    · exact absurd hgw g
theorem vx_c {args : Array Value} {s : State} {w : Cond} {B : List Cond} (h : w.before args s = true) (t : ∀ w ∈ B, w.before args s = true) : ∀ w' ∈ w :: B, w'.before args s = true := fun w' h' => (List.mem_cons.mp h').elim (fun e => by rw [e]; exact h) (t w')
theorem vx_n {args : Array Value} {s : State} : ∀ w ∈ ([] : List Cond), w.before args s = true := fun _ h => nomatch h
theorem vx_own {args : Array Value} {s : State} {L : List Cond} (h1 : ∀ w ∈ L.filter vx_no, w.before args s = true)
    (hU : (Cond.isRef (.static Bundle.tN "UNASSIGNED_STACK" Bundle.steD)).before args s = true) (hN : (Cond.isRef (.static Bundle.tN "SUPPRESSED_SENTINEL" Bundle.listD)).before args s = true)
    (lU : (Cond.laysStatic Bundle.tN "UNASSIGNED_STACK" Bundle.steD).before args s = true) (lN : (Cond.laysStatic Bundle.tN "SUPPRESSED_SENTINEL" Bundle.listD).before args s = true) : ∀ w ∈ L, w.before args s = true := by
  intro w hw
  by_cases e1 : w = .isRef (.static Bundle.tN "UNASSIGNED_STACK" Bundle.steD)
  · rw [e1]; exact hU
  · by_cases e2 : w = .isRef (.static Bundle.tN "SUPPRESSED_SENTINEL" Bundle.listD)
    · rw [e2]; exact hN
    · by_cases e3 : w = .laysStatic Bundle.tN "UNASSIGNED_STACK" Bundle.steD
      · rw [e3]; exact lU
      · by_cases e4 : w = .laysStatic Bundle.tN "SUPPRESSED_SENTINEL" Bundle.listD
        · rw [e4]; exact lN
        · exact h1 w (List.mem_filter.mpr ⟨hw, by unfold vx_no; rw [decide_eq_true e1, decide_eq_true e2, decide_eq_true e3, decide_eq_true e4]; rfl⟩)
/-- where a static field lies, its class's statics cell in H -/
def vx_L (C n d : String) (A : Nat → Prop) (U : State) (H : Heap) : Prop := ∃ (c : ClassId) (k : Class) (i : Nat) (f : Field) (a : Nat) (cell : Cell), U.vm.findClass C = some c ∧ U.fieldFound? C n d = some (c, k, i, f) ∧ f.isStatic = true ∧ k.statics = some a ∧ H[a]? = some cell ∧ cell.vm.isStatics = true ∧ cell.cls = c ∧ f.slot < cell.slots.size ∧ k.staticTypes[f.slot]? = some f.type ∧ ¬ A a
theorem vx_L.moved {C n d : String} {A : Nat → Prop} {u U : State} {H : Heap} (hvm : u.vm.Alike U.vm) (h : vx_L C n d A u H) : vx_L C n d A U H := by
  obtain ⟨c, k, i, f, a, cell, h1, h2, h3, h4, h5, h6, h7, h8, h9, h10⟩ := h
  obtain ⟨k', hi', he⟩ := State.fieldFound?_setVm hvm h2
  exact ⟨c, k', i, f, a, cell, by rw [hvm.findClass]; exact h1, hi', h3, by rw [he]; exact h4, h5, h6, h7, h8, by rw [he]; exact h9, h10⟩
theorem vx_L.kept {C n d : String} {A : Nat → Prop} {U : State} {H H1 : Heap} (h : vx_L C n d A U H) (hq : ∀ a : Nat, a < H.size → ¬ A a → H1[a]? = H[a]?) : vx_L C n d A U H1 := by
  obtain ⟨c, k, i, f, a, cell, h1, h2, h3, h4, h5, h6, h7, h8, h9, h10⟩ := h
  exact ⟨c, k, i, f, a, cell, h1, h2, h3, h4, by rw [hq a (Array.getElem?_eq_some_iff.mp h5).1 h10]; exact h5, h6, h7, h8, h9, h10⟩
theorem vx_L.narrow {C n d : String} {A B : Nat → Prop} {U : State} {H : Heap} (h : vx_L C n d A U H) (hAB : ∀ q, B q → A q) : vx_L C n d B U H := by
  obtain ⟨c, k, i, f, a, cell, h1, h2, h3, h4, h5, h6, h7, h8, h9, h10⟩ := h
  exact ⟨c, k, i, f, a, cell, h1, h2, h3, h4, h5, h6, h7, h8, h9, fun z => h10 (hAB _ z)⟩
theorem vx_L.word {C n d : String} {A : Nat → Prop} {s : State} {args : Array Value} (h : vx_L C n d A s s.heap) : (Cond.laysStatic C n d).before args s = true := by
  obtain ⟨c, k, i, f, a, cell, h1, h2, h3, h4, h5, h6, h7, h8, h9, -⟩ := h
  show (Cond.laysStatic C n d).holds args s none s [] = true
  exact Cond.laysStatic_of h1 h2 h3 h4 h5 h6 h7 h8 h9
/-- .. and what it holds: null or some reference -/
def vx_Zq (C n d : String) (A : Nat → Prop) (U : State) (H : Heap) : Prop := va_Zq C n d A U H ∧ vx_L C n d A U H
theorem vx_Zq.moved {C n d : String} {A : Nat → Prop} {u U : State} {H : Heap} (hvm : u.vm.Alike U.vm) (h : vx_Zq C n d A u H) : vx_Zq C n d A U H := ⟨va_Zq.moved hvm h.1, vx_L.moved hvm h.2⟩
theorem vx_Zq.kept {C n d : String} {A : Nat → Prop} {U : State} {H H1 : Heap} (h : vx_Zq C n d A U H) (hq : ∀ a : Nat, a < H.size → ¬ A a → H1[a]? = H[a]?) : vx_Zq C n d A U H1 := ⟨va_Zq.kept h.1 hq, vx_L.kept h.2 hq⟩
theorem vx_Zq.narrow {C n d : String} {A B : Nat → Prop} {U : State} {H : Heap} (h : vx_Zq C n d A U H) (hAB : ∀ q, B q → A q) : vx_Zq C n d B U H := ⟨va_Zq.narrow h.1 hAB, vx_L.narrow h.2 hAB⟩
theorem vx_Zqof {args : Array Value} {s : State} {C n d : String} {A : Nat → Prop} (hl : (Cond.laysStatic C n d).before args s = true) (hini : (Cond.initialized C).before args s = true) (h : (Cond.isRef (.static C n d)).before args s = true) (hA : ∀ a : Nat, a < s.heap.size → ¬ A a) : vx_Zq C n d A s s.heap := by
  refine ⟨va_Zqof hl hini h hA, ?_⟩
  obtain ⟨c, k, i, f, a, cell, h1, h2, h3, h4, h5, h6, h7, h8, h9⟩ := Cond.laysStatic_spec hl
  exact ⟨c, k, i, f, a, cell, h1, h2, h3, h4, h5, h6, h7, h8, h9, hA a (Array.getElem?_eq_some_iff.mp h5).1⟩
theorem vx_isRef {C n d : String} {v : Value} {A : Nat → Prop} {s : State} {args : Array Value} (h : va_Z C n d v A s s.heap) (hv : v.isRef = true) : (Cond.isRef (.static C n d)).before args s = true := by
  obtain ⟨cf, kf, fi, f, a, cell, h1, h2, h3, h4, h5, h6, h7, -⟩ := h
  have he : (Term.static C n d).eval args s none [] s = some v := by
    simp [Term.eval, State.fieldNamed?, h1, h2, h4, h5, h6, h7]
  simp only [Cond.before, Cond.holds, Cond.value, he]
  cases v <;> simp_all [Value.isRef]
theorem vx_isRefq {C n d : String} {A : Nat → Prop} {s : State} {args : Array Value} (h : va_Zq C n d A s s.heap) : (Cond.isRef (.static C n d)).before args s = true := by
  rcases h with h | ⟨t, h⟩
  · exact vx_isRef h rfl
  · exact vx_isRef h rfl
/-- the same frame, seen from here: as if the method were called anew in this heap -/
theorem vx_rebase {T : State} (X : Stand p l e R s m args below meth c T locs cells slots) {R' : Room} (hf : R'.frames ≤ R.frames) (hl : R'.locals ≤ R.locals) (hc : cells + R'.cells ≤ R.cells) (hs : slots + R'.slots ≤ R.slots) :
    Stand p l e R' ((T.setVm s.vm).setFrames (.invoking m args :: below)) m args below meth c T [] 0 0 := by
  have htop : (T.setVm s.vm).topJava?.isSome := X.here.top
  have hF : ((T.setVm s.vm).setFrames (.invoking m args :: below)).frames = .invoking m args :: below := State.frames_setFrames _ (State.cur_lt_of_top htop)
  obtain ⟨g₀, hg0⟩ := Option.isSome_iff_exists.mp htop
  obtain ⟨r, hr⟩ := State.topJava?_eq_some.mp hg0
  have hl9 : e.platform.stackLimits (T.setVm s.vm).me = e.platform.stackLimits s.me := X.limits
  have hb9 : (T.setVm s.vm).me.stackBytes = s.me.stackBytes := X.bytes
  refine ⟨X.admits, X.cas, X.clock, hF, ?_, X.hears, X.method, X.code, X.here, X.tail, X.warmed, ?_, ?_, ?_⟩
  · have h := X.room
    have hU : ((T.setVm s.vm).setFrames (.invoking m args :: below)).localsInUse = s.localsInUse := by
      rw [State.localsInUse_invoking hF (meth := meth) (c := c) X.method X.code, State.localsInUse_invoking X.frames X.method X.code]
    simp only [State.hasRoom, Bool.and_eq_true, decide_eq_true_eq] at h ⊢
    obtain ⟨⟨⟨⟨h1, h2, h3, h4, h5, h6⟩, h7⟩, h8⟩, h9⟩ := h
    rw [X.frames, List.length_cons] at h2 h3
    have q1 := X.heapSize
    have q2 := X.used
    simp only [hF, hU, List.length_cons, State.stackLimits_setFrames, State.stackBytes_setFrames, hl9, hb9]
    refine ⟨⟨⟨⟨by omega, by omega, by omega, by omega, by omega, h6⟩, ?_⟩, ?_⟩, X.book⟩
    · show T.heap.size + R'.cells ≤ e.platform.maxCells
      omega
    · show T.slotsUsed + R'.slots ≤ e.platform.maxSlots
      omega
  · rw [State.stackLimits_setFrames]; rfl
  · rw [State.stackBytes_setFrames]; rfl
  · refine ⟨?_, Nat.le_refl _, Nat.le_refl _, ?_, ?_, fun a c9 h9 => ⟨c9, h9, rfl, rfl, fun _ _ => rfl⟩⟩
    · obtain ⟨t, ht, -⟩ := State.frames_cons hr
      show T.setVm s.vm = { ((T.setVm s.vm).setFrames (.invoking m args :: below)).setFrames (T.setVm s.vm).frames with heap := T.heap, slotsUsed := T.slotsUsed }
      rw [State.setFrames_setFrames, State.setFrames_self ht]
      rfl
    · show T.slotsUsed = T.slotsUsed + ((T.heap.toList.drop T.heap.size).map (·.slots.size)).sum
      rw [List.drop_eq_nil_of_le (Nat.le_of_eq Array.length_toList)]
      rfl
    · show ((T.heap.toList.drop T.heap.size).map (·.slots.size)).sum ≤ 0
      rw [List.drop_eq_nil_of_le (Nat.le_of_eq Array.length_toList)]
      exact Nat.le_refl _
/-- 'throw new E()': new; dup; invokespecial; athrow -/
theorem vx_throw0 {cc : ByteArray} {pc : Nat} (hexec : p.tables.exec = Jvm.exec) (hb : c.code = cc) (hl : l.stackTraces = false) {own cls : String} {names : List String} {ik ic mc ms : Nat} {A : Nat → Prop}
    (hown : s.vm.findClass own = some m.cls) (hcls : Bundle.fit cls = true) (hnames : ∀ n ∈ names, Bundle.fit n = true)
    (hk : (Cond.classLink own ik cls).before args s = true) (hini : (Cond.initialized cls).before args s = true) (hat : ∀ w ∈ vx_at0 own ic cls names, w.before args s = true)
    (hgood : ∀ w ∈ Cond.classLink own ik cls :: Cond.initialized cls :: vx_at0 own ic cls names, vx_ot w = true)
    (hU : vx_Zq Bundle.tN "UNASSIGNED_STACK" Bundle.steD A s s.heap) (hN : vx_Zq Bundle.tN "SUPPRESSED_SENTINEL" Bundle.listD A s s.heap) (hS : va_S A s.heap H locs) (hsize : ls.size = c.maxLocals)
    (d0 : decode cc pc = .ok (.new ik, 3)) (d3 : decode cc (pc + 3) = .ok (.dup, 1)) (d4 : decode cc (pc + 4) = .ok (.invokespecial ic, 3)) (d7 : decode cc (pc + 7) = .ok (.athrow, 1))
    (hout : ∀ x ∈ c.exceptionTable.toList, covers x (pc + 7) = false)
    (hRframes : names.length + 3 < R.frames) (hRlocals : (rest.map fun v => v.category).sum + (13 * (names.length + 1) + 42) ≤ R.locals) (hRcells : cells + 1 ≤ R.cells) (hRslots : slots + 6 ≤ R.slots) (hlocks : meth.locks = false)
    (hx : ∀ t : State, s.vm.Alike t.vm → H.size ≤ t.heap.size → (∀ q : Nat, q < H.size → t.heap[q]? = H[q]?) → XC cls s t)
    (hf : ∀ z ∈ locs, free z.base) (hc : cells + 1 ≤ mc) (hs : slots + 6 ≤ ms) :
    W p l e R s m args below meth c H locs cells slots (vx_MQ below Qc XC args s mc ms free) (F0 m pc ls rest) := by
  intro T hT X
  have htr : e.platform.stackTraces = false := (show e.platform.stackTraces = l.stackTraces by rw [X.admits.platform]).trans hl
  have Y := vx_rebase X (R' := { frames := R.frames, locals := R.locals, cells := 1, slots := 6 }) (Nat.le_refl _) (Nat.le_refl _) hRcells hRslots
  obtain ⟨s', hA⟩ : ∃ z, z = (T.setVm s.vm).setFrames (.invoking m args :: below) := ⟨_, rfl⟩
  rw [← hA] at Y
  have hvm : s'.vm = s.vm := by rw [hA]; rfl
  have hhp : s'.heap = H := by rw [hA]; exact hT
  have hW0 : s.WarmedH s'.vm := by rw [hvm]; exact State.WarmedH.refl s
  have hat' : ∀ w ∈ vx_at0 own ic cls names, w.before args s' = true := fun w hw => vx_ot_at hW0 hvm.symm (hgood w (List.mem_cons_of_mem _ (List.mem_cons_of_mem _ hw))) (hat w hw)
  have hk' : (Cond.classLink own ik cls).before args s' = true := vx_ot_at hW0 hvm.symm (hgood _ List.mem_cons_self) hk
  have hini' : (Cond.initialized cls).before args s' = true := vx_ot_at hW0 hvm.symm (hgood _ (List.mem_cons_of_mem _ List.mem_cons_self)) hini
  have hU' : vx_Zq Bundle.tN "UNASSIGNED_STACK" Bundle.steD A s' s'.heap := by rw [hhp]; exact vx_Zq.moved hW0.alike (hU.kept hS.2.1)
  have hN' : vx_Zq Bundle.tN "SUPPRESSED_SENTINEL" Bundle.listD A s' s'.heap := by rw [hhp]; exact vx_Zq.moved hW0.alike (hN.kept hS.2.1)
  have h : ∀ w ∈ Bundle.ownAtoms0 own ic cls names, w.before args s' = true := vx_own hat' (vx_isRefq hU'.1) (vx_isRefq hN'.1) hU'.2.word hN'.2.word
  have hown' : s'.vm.findClass own = some m.cls := by rw [hvm]; exact hown
  have hins : (Cond.instantiable cls 6).before args s' = true := h _ (by simp [Bundle.ownAtoms0])
  obtain ⟨vm₁, cX, kX, hfX, hkX, -, -, X₁, st1⟩ := Y.newCold hexec (own := own) (C := cls) (index := ik) (n := 6) hown' hk' hins hini'
    (g := F0 m pc ls rest) rfl (by rw [hb]; exact d0) (Nat.le_refl _) (Nat.le_refl _)
  generalize hT1 : (T.setVm vm₁).pushCell { cls := cX, slots := kX.instanceTypes.map defaultValue, vm := .none } = T1 at X₁ st1
  have hcat : (Value.ref T.heap.size).category = 1 := rfl
  have hcellA : T1.heap[T.heap.size]? = some (freshCell cX kX) := by rw [← hT1]; exact State.heap_pushCell_size _ _
  have d3' : decode c.code (pc + 3) = .ok (.dup, 1) := by rw [hb]; exact d3
  obtain ⟨U, hsteps, hrun, hend, hW, hsame, ce, hce, hO⟩ := X₁.ctorThrow0 hexec htr (own := own) (cls := cls) (names := names) (ic := ic) hown' hcls hnames h (fun x hx => nomatch hx) hfX hkX hcellA (by rw [hhp, hT]; exact Nat.le_refl _)
    (g := { method := m, pc := pc + 4, locals := ls, stack := .ref T.heap.size :: .ref T.heap.size :: rest, locked := none }) rfl hsize rfl rfl (rest := rest) rfl
    (by rw [hb]; exact d4) (by rw [hb]; exact d7) hout hRframes (by simp only [List.map_cons, List.sum_cons, hcat]; omega) hlocks
  obtain ⟨f1, f2⟩ := vx_frame hsame
  rw [hhp] at f1 f2
  have hWs : s.WarmedH U.vm := State.WarmedH.trans hW0 hW
  have hcl : s.vm.findClass cls = some ce.cls := by
    have h9 := hO.cls
    rw [hvm] at h9
    exact h9
  have hall : s.sameButNew ({ U with vm := s.vm } : State) locs mc ms := by
    subst hA
    obtain ⟨e1, e2⟩ := hsame
    rw [State.setFrames_setFrames] at e1
    have h2 : (T.setVm s.vm).sameButNew ({ U with vm := s.vm } : State) [] (0 + 1) (0 + 6) := ⟨e1, e2⟩
    have h3 := X.same.trans h2
    rw [List.append_nil] at h3
    exact h3.mono hc hs
  refine ⟨U, ?_, .threw T.heap.size, hrun, hend, Or.inr ⟨T.heap.size, rfl, cls, ce, locs, hx U hWs.alike f1 (fun q hq => f2 q hq (fun z hz => nomatch hz)), hce, hO.vm, hcl, hWs, hall, hf⟩⟩
  refine st1 _ ?_
  show Steps p.tables e below (T1.setTop { method := m, pc := pc + 3, locals := ls, stack := .ref T.heap.size :: rest, locked := none }) _
  jvm_step X₁.here [X₁.here.top, hexec, d3', Value.category]
  exact hsteps
/-- 'throw new E("text")': new; dup; ldc; invokespecial; athrow -/
theorem vx_throwS {cc : ByteArray} {pc : Nat} (hexec : p.tables.exec = Jvm.exec) (hb : c.code = cc) (hl : l.stackTraces = false) {own cls text : String} {names : List String} {ik is ic mc ms sa : Nat} {A : Nat → Prop}
    (hown : s.vm.findClass own = some m.cls) (hcls : Bundle.fit cls = true) (hnames : ∀ n ∈ names, Bundle.fit n = true)
    (hk : (Cond.classLink own ik cls).before args s = true) (hini : (Cond.initialized cls).before args s = true) (hstr : vk_R own is text sa s) (hat : ∀ w ∈ vx_atS own ic cls names, w.before args s = true)
    (hgood : ∀ w ∈ Cond.classLink own ik cls :: Cond.initialized cls :: vx_atS own ic cls names, vx_ot w = true)
    (hU : vx_Zq Bundle.tN "UNASSIGNED_STACK" Bundle.steD A s s.heap) (hN : vx_Zq Bundle.tN "SUPPRESSED_SENTINEL" Bundle.listD A s s.heap) (hS : va_S A s.heap H locs) (hsize : ls.size = c.maxLocals)
    (d0 : decode cc pc = .ok (.new ik, 3)) (d3 : decode cc (pc + 3) = .ok (.dup, 1)) (d4 : decode cc (pc + 4) = .ok (.ldc is, 2)) (d6 : decode cc (pc + 6) = .ok (.invokespecial ic, 3)) (d9 : decode cc (pc + 9) = .ok (.athrow, 1))
    (hout : ∀ x ∈ c.exceptionTable.toList, covers x (pc + 9) = false)
    (hRframes : names.length + 3 < R.frames) (hRlocals : (rest.map fun v => v.category).sum + (13 * (names.length + 1) + 43) ≤ R.locals) (hRcells : cells + 1 ≤ R.cells) (hRslots : slots + 6 ≤ R.slots) (hlocks : meth.locks = false)
    (hx : ∀ t : State, s.vm.Alike t.vm → H.size ≤ t.heap.size → (∀ q : Nat, q < H.size → t.heap[q]? = H[q]?) → XC cls s t)
    (hf : ∀ z ∈ locs, free z.base) (hc : cells + 1 ≤ mc) (hs : slots + 6 ≤ ms) :
    W p l e R s m args below meth c H locs cells slots (vx_MQ below Qc XC args s mc ms free) (F0 m pc ls rest) := by
  intro T hT X
  have htr : e.platform.stackTraces = false := (show e.platform.stackTraces = l.stackTraces by rw [X.admits.platform]).trans hl
  have Y := vx_rebase X (R' := { frames := R.frames, locals := R.locals, cells := 1, slots := 6 }) (Nat.le_refl _) (Nat.le_refl _) hRcells hRslots
  obtain ⟨s', hA⟩ : ∃ z, z = (T.setVm s.vm).setFrames (.invoking m args :: below) := ⟨_, rfl⟩
  rw [← hA] at Y
  have hvm : s'.vm = s.vm := by rw [hA]; rfl
  have hhp : s'.heap = H := by rw [hA]; exact hT
  have hW0 : s.WarmedH s'.vm := by rw [hvm]; exact State.WarmedH.refl s
  have hat' : ∀ w ∈ vx_atS own ic cls names, w.before args s' = true := fun w hw => vx_ot_at hW0 hvm.symm (hgood w (List.mem_cons_of_mem _ (List.mem_cons_of_mem _ hw))) (hat w hw)
  have hk' : (Cond.classLink own ik cls).before args s' = true := vx_ot_at hW0 hvm.symm (hgood _ List.mem_cons_self) hk
  have hini' : (Cond.initialized cls).before args s' = true := vx_ot_at hW0 hvm.symm (hgood _ (List.mem_cons_of_mem _ List.mem_cons_self)) hini
  have hU' : vx_Zq Bundle.tN "UNASSIGNED_STACK" Bundle.steD A s' s'.heap := by rw [hhp]; exact vx_Zq.moved hW0.alike (hU.kept hS.2.1)
  have hN' : vx_Zq Bundle.tN "SUPPRESSED_SENTINEL" Bundle.listD A s' s'.heap := by rw [hhp]; exact vx_Zq.moved hW0.alike (hN.kept hS.2.1)
  have h : ∀ w ∈ Bundle.ownAtoms own ic cls names, w.before args s' = true := vx_own hat' (vx_isRefq hU'.1) (vx_isRefq hN'.1) hU'.2.word hN'.2.word
  have hown' : s'.vm.findClass own = some m.cls := by rw [hvm]; exact hown
  have hins : (Cond.instantiable cls 6).before args s' = true := h _ (by simp [Bundle.ownAtoms])
  obtain ⟨vm₁, cX, kX, hfX, hkX, -, -, X₁, st1⟩ := Y.newCold hexec (own := own) (C := cls) (index := ik) (n := 6) hown' hk' hins hini'
    (g := F0 m pc ls rest) rfl (by rw [hb]; exact d0) (Nat.le_refl _) (Nat.le_refl _)
  generalize hT1 : (T.setVm vm₁).pushCell { cls := cX, slots := kX.instanceTypes.map defaultValue, vm := .none } = T1 at X₁ st1
  have hcat : (Value.ref T.heap.size).category = 1 := rfl
  have hcellA : T1.heap[T.heap.size]? = some (freshCell cX kX) := by rw [← hT1]; exact State.heap_pushCell_size _ _
  have d3' : decode c.code (pc + 3) = .ok (.dup, 1) := by rw [hb]; exact d3
  have d4' : decode c.code (pc + 4) = .ok (.ldc is, 2) := by rw [hb]; exact d4
  have hstr' : vk_R own is text sa s' := vk_R.warm hW0 hstr
  obtain ⟨U, hsteps, hrun, hend, hW, hsame, ce, hce, hO⟩ := X₁.ctorThrowS hexec htr (own := own) (cls := cls) (names := names) (ic := ic) hown' hcls hnames h (fun x hx => nomatch hx) hfX hkX hcellA (by rw [hhp, hT]; exact Nat.le_refl _) (msg := .ref sa) rfl
    (g := { method := m, pc := pc + 6, locals := ls, stack := .ref sa :: .ref T.heap.size :: .ref T.heap.size :: rest, locked := none }) rfl hsize rfl rfl (rest := rest) rfl
    (by rw [hb]; exact d6) (by rw [hb]; exact d9) hout hRframes (by simp only [List.map_cons, List.sum_cons, hcat]; omega) hlocks
  obtain ⟨f1, f2⟩ := vx_frame hsame
  rw [hhp] at f1 f2
  have hWs : s.WarmedH U.vm := State.WarmedH.trans hW0 hW
  have hcl : s.vm.findClass cls = some ce.cls := by
    have h9 := hO.cls
    rw [hvm] at h9
    exact h9
  have hall : s.sameButNew ({ U with vm := s.vm } : State) locs mc ms := by
    subst hA
    obtain ⟨e1, e2⟩ := hsame
    rw [State.setFrames_setFrames] at e1
    have h2 : (T.setVm s.vm).sameButNew ({ U with vm := s.vm } : State) [] (0 + 1) (0 + 6) := ⟨e1, e2⟩
    have h3 := X.same.trans h2
    rw [List.append_nil] at h3
    exact h3.mono hc hs
  refine ⟨U, ?_, .threw T.heap.size, hrun, hend, Or.inr ⟨T.heap.size, rfl, cls, ce, locs, hx U hWs.alike f1 (fun q hq => f2 q hq (fun z hz => nomatch hz)), hce, hO.vm, hcl, hWs, hall, hf⟩⟩
  refine st1 _ ?_
  show Steps p.tables e below (T1.setTop { method := m, pc := pc + 3, locals := ls, stack := .ref T.heap.size :: rest, locked := none }) _
  jvm_step X₁.here [X₁.here.top, hexec, d3', Value.category]
  exact X₁.ldcString hexec (own := own) (text := text) (index := is) (a := sa) hown' hstr'.1 hstr'.2
    (g := { method := m, pc := pc + 4, locals := ls, stack := .ref T.heap.size :: .ref T.heap.size :: rest, locked := none }) rfl d4' _ hsteps
/-- 'throw new E("text")', the text by a wide index -/
theorem vx_throwSW {cc : ByteArray} {pc : Nat} (hexec : p.tables.exec = Jvm.exec) (hb : c.code = cc) (hl : l.stackTraces = false) {own cls text : String} {names : List String} {ik is ic mc ms sa : Nat} {A : Nat → Prop}
    (hown : s.vm.findClass own = some m.cls) (hcls : Bundle.fit cls = true) (hnames : ∀ n ∈ names, Bundle.fit n = true)
    (hk : (Cond.classLink own ik cls).before args s = true) (hini : (Cond.initialized cls).before args s = true) (hstr : vk_R own is text sa s) (hat : ∀ w ∈ vx_atS own ic cls names, w.before args s = true)
    (hgood : ∀ w ∈ Cond.classLink own ik cls :: Cond.initialized cls :: vx_atS own ic cls names, vx_ot w = true)
    (hU : vx_Zq Bundle.tN "UNASSIGNED_STACK" Bundle.steD A s s.heap) (hN : vx_Zq Bundle.tN "SUPPRESSED_SENTINEL" Bundle.listD A s s.heap) (hS : va_S A s.heap H locs) (hsize : ls.size = c.maxLocals)
    (d0 : decode cc pc = .ok (.new ik, 3)) (d3 : decode cc (pc + 3) = .ok (.dup, 1)) (d4 : decode cc (pc + 4) = .ok (.ldc_w is, 3)) (d7 : decode cc (pc + 7) = .ok (.invokespecial ic, 3)) (d10 : decode cc (pc + 10) = .ok (.athrow, 1))
    (hout : ∀ x ∈ c.exceptionTable.toList, covers x (pc + 10) = false)
    (hRframes : names.length + 3 < R.frames) (hRlocals : (rest.map fun v => v.category).sum + (13 * (names.length + 1) + 43) ≤ R.locals) (hRcells : cells + 1 ≤ R.cells) (hRslots : slots + 6 ≤ R.slots) (hlocks : meth.locks = false)
    (hx : ∀ t : State, s.vm.Alike t.vm → H.size ≤ t.heap.size → (∀ q : Nat, q < H.size → t.heap[q]? = H[q]?) → XC cls s t)
    (hf : ∀ z ∈ locs, free z.base) (hc : cells + 1 ≤ mc) (hs : slots + 6 ≤ ms) :
    W p l e R s m args below meth c H locs cells slots (vx_MQ below Qc XC args s mc ms free) (F0 m pc ls rest) := by
  intro T hT X
  have htr : e.platform.stackTraces = false := (show e.platform.stackTraces = l.stackTraces by rw [X.admits.platform]).trans hl
  have Y := vx_rebase X (R' := { frames := R.frames, locals := R.locals, cells := 1, slots := 6 }) (Nat.le_refl _) (Nat.le_refl _) hRcells hRslots
  obtain ⟨s', hA⟩ : ∃ z, z = (T.setVm s.vm).setFrames (.invoking m args :: below) := ⟨_, rfl⟩
  rw [← hA] at Y
  have hvm : s'.vm = s.vm := by rw [hA]; rfl
  have hhp : s'.heap = H := by rw [hA]; exact hT
  have hW0 : s.WarmedH s'.vm := by rw [hvm]; exact State.WarmedH.refl s
  have hat' : ∀ w ∈ vx_atS own ic cls names, w.before args s' = true := fun w hw => vx_ot_at hW0 hvm.symm (hgood w (List.mem_cons_of_mem _ (List.mem_cons_of_mem _ hw))) (hat w hw)
  have hk' : (Cond.classLink own ik cls).before args s' = true := vx_ot_at hW0 hvm.symm (hgood _ List.mem_cons_self) hk
  have hini' : (Cond.initialized cls).before args s' = true := vx_ot_at hW0 hvm.symm (hgood _ (List.mem_cons_of_mem _ List.mem_cons_self)) hini
  have hU' : vx_Zq Bundle.tN "UNASSIGNED_STACK" Bundle.steD A s' s'.heap := by rw [hhp]; exact vx_Zq.moved hW0.alike (hU.kept hS.2.1)
  have hN' : vx_Zq Bundle.tN "SUPPRESSED_SENTINEL" Bundle.listD A s' s'.heap := by rw [hhp]; exact vx_Zq.moved hW0.alike (hN.kept hS.2.1)
  have h : ∀ w ∈ Bundle.ownAtoms own ic cls names, w.before args s' = true := vx_own hat' (vx_isRefq hU'.1) (vx_isRefq hN'.1) hU'.2.word hN'.2.word
  have hown' : s'.vm.findClass own = some m.cls := by rw [hvm]; exact hown
  have hins : (Cond.instantiable cls 6).before args s' = true := h _ (by simp [Bundle.ownAtoms])
  obtain ⟨vm₁, cX, kX, hfX, hkX, -, -, X₁, st1⟩ := Y.newCold hexec (own := own) (C := cls) (index := ik) (n := 6) hown' hk' hins hini'
    (g := F0 m pc ls rest) rfl (by rw [hb]; exact d0) (Nat.le_refl _) (Nat.le_refl _)
  generalize hT1 : (T.setVm vm₁).pushCell { cls := cX, slots := kX.instanceTypes.map defaultValue, vm := .none } = T1 at X₁ st1
  have hcat : (Value.ref T.heap.size).category = 1 := rfl
  have hcellA : T1.heap[T.heap.size]? = some (freshCell cX kX) := by rw [← hT1]; exact State.heap_pushCell_size _ _
  have d3' : decode c.code (pc + 3) = .ok (.dup, 1) := by rw [hb]; exact d3
  have d4' : decode c.code (pc + 4) = .ok (.ldc_w is, 3) := by rw [hb]; exact d4
  have hstr' : vk_R own is text sa s' := vk_R.warm hW0 hstr
  obtain ⟨U, hsteps, hrun, hend, hW, hsame, ce, hce, hO⟩ := X₁.ctorThrowS hexec htr (own := own) (cls := cls) (names := names) (ic := ic) hown' hcls hnames h (fun x hx => nomatch hx) hfX hkX hcellA (by rw [hhp, hT]; exact Nat.le_refl _) (msg := .ref sa) rfl
    (g := { method := m, pc := pc + 7, locals := ls, stack := .ref sa :: .ref T.heap.size :: .ref T.heap.size :: rest, locked := none }) rfl hsize rfl rfl (rest := rest) rfl
    (by rw [hb]; exact d7) (by rw [hb]; exact d10) hout hRframes (by simp only [List.map_cons, List.sum_cons, hcat]; omega) hlocks
  obtain ⟨f1, f2⟩ := vx_frame hsame
  rw [hhp] at f1 f2
  have hWs : s.WarmedH U.vm := State.WarmedH.trans hW0 hW
  have hcl : s.vm.findClass cls = some ce.cls := by
    have h9 := hO.cls
    rw [hvm] at h9
    exact h9
  have hall : s.sameButNew ({ U with vm := s.vm } : State) locs mc ms := by
    subst hA
    obtain ⟨e1, e2⟩ := hsame
    rw [State.setFrames_setFrames] at e1
    have h2 : (T.setVm s.vm).sameButNew ({ U with vm := s.vm } : State) [] (0 + 1) (0 + 6) := ⟨e1, e2⟩
    have h3 := X.same.trans h2
    rw [List.append_nil] at h3
    exact h3.mono hc hs
  refine ⟨U, ?_, .threw T.heap.size, hrun, hend, Or.inr ⟨T.heap.size, rfl, cls, ce, locs, hx U hWs.alike f1 (fun q hq => f2 q hq (fun z hz => nomatch hz)), hce, hO.vm, hcl, hWs, hall, hf⟩⟩
  refine st1 _ ?_
  show Steps p.tables e below (T1.setTop { method := m, pc := pc + 3, locals := ls, stack := .ref T.heap.size :: rest, locked := none }) _
  jvm_step X₁.here [X₁.here.top, hexec, d3', Value.category]
  exact X₁.ldcStringW hexec (own := own) (text := text) (index := is) (a := sa) hown' hstr'.1 hstr'.2
    (g := { method := m, pc := pc + 4, locals := ls, stack := .ref T.heap.size :: .ref T.heap.size :: rest, locked := none }) rfl d4' _ hsteps
end Ends
section Bodies
variable {l : Launch}
theorem vx_ofW {y : MethodName} {ws ws' : List Cond} {rm : Room} {Pc : Array Value → State → Prop} {Qc : Array Value → State → Outcome → State → Prop} {XC : String → State → State → Prop} {mc ms : Nat} {free : Addr → Prop} {cc : ByteArray} {maxL : Nat} {ret : Option FieldType}
    (hy : plainName y.cls = true) (hw : ws = Cond.code y cc maxL ret :: ws')
    (body : ∀ p e s m args below meth c s₁, BodyLoose p l y (headSpec ws rm) cc maxL ret e s m args below meth c s₁ → c.maxLocals = maxL → (∀ x ∈ c.exceptionTable.toList, False) → Pc args s →
      W p l e (headSpec ws rm).room s m args below meth c s.heap [] 0 0 (vx_MQ below Qc XC args s mc ms free) (entryFrame m args maxL)) : vx_Met l y ws rm Pc Qc XC mc ms free := by
  refine MetFree.of_bodyS (code := cc) (maxLocals := maxL) (ret := ret) hy ?_ ?_
  · intro args s m h hn
    obtain ⟨meth, c, h1, h2, h3, h4, h5, h6, -, -⟩ := Cond.code_spec hn (atoms_spec (ws := ws) h _ (by rw [hw]; exact List.mem_cons_self))
    exact ⟨meth, c, h1, h2, h3, h4, h5, h6⟩
  · intro p e s m args below meth c s₁ B hml hP _
    have hh0 : s₁.heap = s.heap := by rw [B.state]; rfl
    have ht : ∀ x ∈ c.exceptionTable.toList, False := by
      obtain ⟨meth9, c9, h1, h2, -, -, -, -, h7, -⟩ := Cond.code_spec B.named (atoms_spec (ws := ws) B.pre _ (by rw [hw]; exact List.mem_cons_self))
      cases Option.some.inj (h1.symm.trans B.method)
      cases Option.some.inj (h2.symm.trans (Stand.of_body B).code)
      intro x hx
      rw [Array.isEmpty_iff.mp h7] at hx
      cases hx
    obtain ⟨t, a1, o, b1, b2, b3⟩ := body p e s m args below meth c s₁ B hml ht hP s₁ hh0 (Stand.of_body B)
    exact ⟨t, o, a1, b1, b2, b3⟩
/-- the table of a body with handlers -/
theorem vx_table {p : Program} {x y : MethodName} {S : Spec} {cc bytes : ByteArray} {maxL maxL' : Nat} {ret ret' : Option FieldType} {e : Env} {s s₁ : State} {m : MethodId} {args : Array Value} {below : List Frame} {meth : Method} {c : Code} {hh : List (Nat × Nat × Nat × Nat)}
    (B : BodyLoose p l y S cc maxL ret e s m args below meth c s₁) (h : (Cond.codeWith y bytes maxL' ret' hh).before args s = true) : c.exceptionTable.toList = tableOf hh := by
  obtain ⟨m9, meth9, c9, hn9, h1, h2, -, -, h6, -⟩ := Cond.codeWith_spec h
  cases Option.some.inj (hn9.symm.trans B.named)
  cases Option.some.inj (h1.symm.trans B.method)
  cases Option.some.inj (h2.symm.trans (Stand.of_body B).code)
  rw [← h6, table_eq]
end Bodies
end VXA
/-! ===== END ===== -/
/-! ===== BEGIN a static call of a method with an exception table ===== -/
section VXS
variable {p : Program} {l : Launch} {e : Env} {R : Room} {s : State} {m : MethodId} {args : Array Value} {below : List Frame} {meth : Method} {c : Code} {T : State} {H : Heap} {locs : List Loc} {cells slots : Nat}
abbrev vx_CSW (R : Room) (s : State) (args : Array Value) (own : String) (index : Nat) (y : MethodName) (bytes : ByteArray) (maxL : Nat) (ret : Option FieldType) (hh : List (Nat × Nat × Nat × Nat)) (ws : List Cond) (rm : Room) (mc ms n : Nat) : Prop :=
  (rm.cells = mc ∧ rm.slots = ms ∧ rm.frames + 1 ≤ R.frames ∧ 8 + (maxL + 11) + rm.locals ≤ R.locals ∧ (∀ w ∈ ws, ∀ (a' : Array Value) (U : State), s.WarmedH U.vm → w.before a' U = true) ∧ Cond.codeWith y bytes maxL ret hh ∈ ws) ∧
  (Cond.codeWith y bytes maxL ret hh).before args s = true ∧ (Cond.initialized y.cls).before args s = true ∧ (y.cls ≠ "java/lang/invoke/MethodHandle" ∧ y.cls ≠ "java/lang/invoke/VarHandle") ∧
  (∀ sig, parseMethodDescriptor y.desc = some sig → n = sig.parameters.length) ∧ (Cond.methodLink own index y).before args s = true ∧ (Cond.static y).before args s = true
theorem vx_cwSW {own : String} {index maxL mc ms : Nat} {y : MethodName} {bytes : ByteArray} {ret : Option FieldType} {hh : List (Nat × Nat × Nat × Nat)} {Ts ws ws' : List Cond} {rm : Room} (n : Nat) (ht : ∀ w ∈ Ts, w.before args s = true) (hT : GoodIn Ts (va_wsS own index y ws)) (hw : ws = Cond.codeWith y bytes maxL ret hh :: ws') (hrc : rm.cells = mc) (hrs : rm.slots = ms)
    (hd : y.cls ≠ "java/lang/invoke/MethodHandle" ∧ y.cls ≠ "java/lang/invoke/VarHandle" ∧ (parseMethodDescriptor y.desc).map (fun d => d.parameters.length) = some n) (hR : rm.frames + 1 ≤ R.frames ∧ 8 + (maxL + 11) + rm.locals ≤ R.locals) :
    vx_CSW R s args own index y bytes maxL ret hh ws rm mc ms n := by
  have ok : ∀ w ∈ va_wsS own index y ws, w.before args s = true := fun w h => ht w (hT w h).1
  have hG : GoodIn Ts ws := fun w h => hT w (by unfold va_wsS; exact List.mem_append_right _ h)
  have hc : Cond.codeWith y bytes maxL ret hh ∈ ws := by rw [hw]; exact List.mem_cons_self
  refine ⟨⟨hrc, hrs, hR.1, hR.2, pay_in ht hG, hc⟩, ht _ (hG _ hc).1, ok _ (by simp [va_wsS]), ⟨hd.1, hd.2.1⟩, fun sig h => ?_, ok _ (by simp [va_wsS]), ok _ (by simp [va_wsS])⟩
  have h2 := hd.2.2
  rw [h] at h2
  exact (Option.some.inj h2).symm
theorem vx_callSW (X : Stand p l e R s m args below meth c T locs cells slots) (hexec : p.tables.exec = Jvm.exec) {own : String} {index : Nat} {y : MethodName} {bytes : ByteArray} {maxL : Nat} {ret : Option FieldType} {hh : List (Nat × Nat × Nat × Nat)}
    (hown : s.vm.findClass own = some m.cls) (hlink : (Cond.methodLink own index y).before args s = true) (hstat : (Cond.static y).before args s = true) (hinit : (Cond.initialized y.cls).before args s = true)
    (hcode : (Cond.codeWith y bytes maxL ret hh).before args s = true) (hy : y.cls ≠ "java/lang/invoke/MethodHandle" ∧ y.cls ≠ "java/lang/invoke/VarHandle")
    {W9 : Nat} {Pre : Pt → Array Value → Prop} {Post : Pt → Array Value → Option Value → Pt → Prop} (hK : Back l R p e below s args y 3 W9 Pre Post)
    {g : JFrame} (hg : g.method = m) (hsize : g.locals.size = c.maxLocals) {argsL rest : List Value} (hlen : ∀ sig, parseMethodDescriptor y.desc = some sig → argsL.length = sig.parameters.length)
    (hstack : g.stack = argsL.reverse ++ rest) (hW : 2 * g.monitorRoom + (rest.map fun v => v.category).sum ≤ W9) (hdg : decode c.code g.pc = .ok (.invokestatic index, 3))
    (hpre : ∀ vm₁, s.WarmedH vm₁ → Pre ⟨T.setVm vm₁, locs, cells, slots⟩ argsL.toArray) :
    ∃ (v : Option Value) (vm₁ : Vm) (B : Pt), s.WarmedH vm₁ ∧ Stand p l e R s m args below meth c B.U B.locs B.cells B.slots ∧ Post ⟨T.setVm vm₁, locs, cells, slots⟩ argsL.toArray v B ∧
      ∀ target, Steps p.tables e below (B.U.setTop { g with pc := g.pc + 3, stack := v.toList ++ rest }) target → Steps p.tables e below (T.setTop g) target := by
  obtain ⟨mk, methM, cM, hnamed, hmethM, -, -, -, -, -, -, hsigM⟩ := Cond.codeWith_spec hcode
  have hstatic : methM.isStatic = true := Cond.static_spec hnamed hmethM hstat
  obtain ⟨kP, hkP, -⟩ := className_of_methodNamed hnamed
  have hinitP : kP.init = .initialized := Cond.initialized_spec (findClass_of_methodNamed hnamed) hkP hinit
  obtain ⟨vm₁, X₁, hstep₁⟩ := X.invokestatic hexec hown hlink hnamed hmethM hstatic hkP hinitP hy (g := g) hg (argsL := argsL) (rest := rest) (hlen _ hsigM) hstack hdg
  obtain ⟨v, B, X', hpost, hsteps⟩ := hK m meth c ⟨T.setVm vm₁, locs, cells, slots⟩ { g with stack := rest } (.invokestatic index) mk argsL.toArray X₁ hg hsize hdg hW (X₁.named hnamed) (hpre vm₁ X₁.warmed)
  exact ⟨v, vm₁, B, X₁.warmed, X', hpost, fun target h => hstep₁ _ fun acts => by rw [doInvoke_state]; exact hsteps.trans h⟩
theorem vx_runSW {y : MethodName} {bytes cc : ByteArray} {maxL nL mc ms n index : Nat} {ret : Option FieldType} {hh : List (Nat × Nat × Nat × Nat)} {ws : List Cond} {rm : Room} {Pc : Array Value → State → Prop} {Qc : Array Value → State → Outcome → State → Prop} {free : Addr → Prop} {Ts : List Cond} {own : String} {As rest : List Value} {g : JFrame}
    (S : CallFix p m c cc nL s args Ts own) (hM : Met l y ws rm Pc Qc mc ms free) (cw : vx_CSW R s args own index y bytes maxL ret hh ws rm mc ms n) (hp : PreS s H Pc As)
    (hg : g.method = m) (hn : As.length = n) (hsize : g.locals.size = nL) (hstack : g.stack = As.reverse ++ rest) (hW : 2 * g.monitorRoom + (rest.map fun v => v.category).sum ≤ 8) (hdg : decode cc g.pc = .ok (.invokestatic index, 3)) (hf : cells + mc ≤ R.cells ∧ slots + ms ≤ R.slots) :
    va_Run p l e R s m args below meth c H locs cells slots mc ms g rest (Qc As.toArray) (free) := by
  obtain ⟨⟨hrc, hrs, hfr, hlo, hws, hcw⟩, hcode, hini, hy, hlen, hl, hstt⟩ := cw
  have hK : Back l R p e below s args y 3 8 (PreOf R mc ms Pc) (PostOf Qc mc ms free) := va_backW (hh := hh) (bytes := bytes) (maxL := maxL) (ret := ret) hM hp.1 hrc hrs hfr hlo hws hcw (fun a' U hW => word_at hW (Or.inl (by first | rfl | simp [Cond.onTables, Cond.keeps, Cond.steady])) hini)
  obtain ⟨hx, hb, hml, ho, -⟩ := S
  intro T hT X
  obtain ⟨v, vm₁, ⟨U', l2, c2, s2⟩, hW₁, X', ⟨g', mk, t, L, e1, e2, hq, h1, hL, h2, h3⟩, st⟩ := vx_callSW X hx (hh := hh) (bytes := bytes) (maxL := maxL) (ret := ret) ho hl hstt hini hcode hy hK hg (hsize.trans hml.symm) (argsL := As) (rest := rest) (fun sig h => hn.trans (hlen sig h)) hstack hW (by rw [hb]; exact hdg)
    (fun vm₁ hW₁ => ⟨hf.1, hf.2, hp.2 (T.setVm vm₁) hT hW₁⟩)
  dsimp only [Pt.U, Pt.locs, Pt.cells, Pt.slots] at X' e1 e2 h1 h2 h3 st
  subst h1; subst h2; subst h3
  exact ⟨v, (T.setVm vm₁).calling g' mk As.toArray, t, U', L, hT, X', hL, e1, e2, hq, st⟩
/-- not caught here, past rows that name other classes: it goes on to the caller -/
theorem vx_outP {p : Program} {l : Launch} {e : Env} {R : Room} {s : State} {m : MethodId} {args : Array Value} {below : List Frame} {meth : Method} {c : Code} {H : Heap} {locs : List Loc} {cells slots : Nat} {free : Addr → Prop} {ls : Array Slot} {rest : List Value} {Qc : Array Value → State → Outcome → State → Prop} {XC : String → State → State → Prop}
    {pc : Nat} {own E : String} {ce : Cell} {q : Addr} {mc ms : Nat} (hown : s.vm.findClass own = some m.cls) (hlocks : meth.locks = false)
    (hpass : ∀ z ∈ c.exceptionTable.toList, covers z pc = false ∨ (z.catchType ≠ 0 ∧ ∃ nm : String, (Cond.classLink own z.catchType nm).before args s = true ∧ va_Nc E nm s)) (hcell : H[q]? = some ce) (hv : ce.vm = .none) (hcl : s.vm.findClass E = some ce.cls)
    (hx : ∀ t : State, t.heap = H → s.vm.Alike t.vm → XC E s t) (hf : ∀ z ∈ locs, free z.base) (hc : cells ≤ mc) (hs : slots ≤ ms) :
    vx_W p l e R s m args below meth c H locs cells slots (vx_MQ below Qc XC args s mc ms free) (F0 m pc ls rest) q := by
  intro T hT X
  have hpl : e.platform.magicAccessors = ({} : Platform).magicAccessors := by rw [X.admits.platform]
  obtain ⟨vm', hW', X', st⟩ := X.outThrough hlocks q (g := F0 m pc ls rest) rfl rfl rfl (cell := ce) (by rw [hT]; exact hcell) (by rw [hv]; rfl)
    (by obtain ⟨k9, h9, -⟩ := Vm.findClass_spec hcl; exact ⟨k9, h9⟩) (fun z hz => by
      rcases hpass z hz with h | ⟨hz0, nm, hl1, hn1⟩
      · exact Or.inl h
      · obtain ⟨c6, hc6, hcl6⟩ := Cond.classLink_spec hown hl1 e.platform hpl
        obtain ⟨a8, b8, h1, h2, h3⟩ := hn1
        cases Option.some.inj (h1.symm.trans hcl)
        cases Option.some.inj (h2.symm.trans hc6)
        exact Or.inr ⟨hz0, _, hcl6, h3⟩)
  obtain ⟨g₀, hfr⟩ := X'.frames_eq
  have hcell9 : ((T.setVm vm').setFrames (.throwing q :: below)).heap[q]? = some ce := by
    show T.heap[q]? = some ce
    rw [hT]; exact hcell
  have hend : Ended ((T.setVm vm').setFrames (.throwing q :: below)) below (.threw q) := State.frames_setFrames _ (State.cur_lt_of_frames hfr)
  refine ⟨(T.setVm vm').setFrames (.throwing q :: below), ?_, .threw q, X'.here.running, hend, Or.inr ⟨q, rfl, E, ce, locs, hx _ hT (X'.ends _).1.alike, hcell9, hv, hcl, (X'.ends _).1, (X'.ends _).2.mono hc hs, hf⟩⟩
  rw [X.pushThrowing_eq]
  exact st
/-- a thing of a world lies in the heap -/
theorem vx_lt {D : va_G} {cl : List vw_C} {ws : va_W} {H1 : Heap} (h : va_P D cl ws H1) {k : Nat} {q : Nat × va_E} (hk : ws[k]? = some q) : q.1 < H1.size := (h k q hk).lt
end VXS
/-! ===== END ===== -/
/-! ===== BEGIN methods with a table of their own: called by a name, returning or throwing ===== -/
section VXH
/-! vx_backW, vx_callVX, vx_callSX, vx_callVW, vx_runVW, vx_runVX, vx_runSX, vx_ofWH follow the same proofs as their sisters above (Free/Laws.lean, Shelf42/LK1.lean); vx_outP calls Shelf42/NT130.lean (outThrough). -/
section
variable {l : Launch} {R : Room} {p : Program} {e : Env} {below : List Frame} {s : State} {sargs : Array Value} {y : MethodName} {len W9 : Nat}
theorem vx_backW {ws : List Cond} {rm : Room} {Pc : Array Value → State → Prop} {Qc : Array Value → State → Outcome → State → Prop} {XC : String → State → State → Prop} {mc ms : Nat} {free : Addr → Prop} {bytes : ByteArray} {maxL : Nat} {ret : Option FieldType} {hh : List (Nat × Nat × Nat × Nat)}
    (hM : vx_Met l y ws rm Pc Qc XC mc ms free) (hblind : FrameBlind Pc) (hrc : rm.cells = mc) (hrs : rm.slots = ms)
    (hframes : rm.frames + 1 ≤ R.frames) (hlocals : W9 + (maxL + 11) + rm.locals ≤ R.locals)
    (hws : ∀ w ∈ ws, ∀ a' U, s.WarmedH U.vm → w.before a' U = true) (hcode : Cond.codeWith y bytes maxL ret hh ∈ ws) (hinit : ∀ a' U, s.WarmedH U.vm → (Cond.initialized y.cls).before a' U = true) :
    vx_Back l R p e below s sargs y len W9 (PreOf R mc ms Pc) (PostOf Qc mc ms free) (vx_Post XC mc ms free) := by
  intro m meth c A g ig mk a X hg hsize hdg hW hn hp
  have h1 : (headSpec ws rm).pre.before a A.U = true := atoms_intro fun w hw => hws w hw _ _ X.warmed
  have h2 : (Cond.codeWith y bytes maxL ret hh).before a A.U = true := hws _ hcode _ _ X.warmed
  have h3 : (Cond.initialized y.cls).before a A.U = true := hinit _ _ X.warmed
  have h4 : A.cells + (headSpec ws rm).room.cells ≤ R.cells := by rw [show (headSpec ws rm).room.cells = mc from hrc]; exact hp.1
  have h5 : A.slots + (headSpec ws rm).room.slots ≤ R.slots := by rw [show (headSpec ws rm).room.slots = ms from hrs]; exact hp.2.1
  have hPc : Pc a (A.U.calling g mk a) := hblind _ _ _ _ hp.2.2
  obtain ⟨U, Ls, c0, s0⟩ := A
  dsimp only [Pt.U, Pt.locs, Pt.cells, Pt.slots] at h1 h2 h3 h4 h5 X hn hPc ⊢
  obtain ⟨m9, methY, cY, hn9, hmY, hcY, -, hlY, -⟩ := Cond.codeWith_spec h2
  cases Option.some.inj (hn9.symm.trans hn)
  obtain ⟨kY, hkY, -⟩ := className_of_methodNamed hn
  have hinitY : kY.init = .initialized := Cond.initialized_spec (findClass_of_methodNamed hn) hkY h3
  have h : At U g.method c below := by rw [hg]; exact X.here
  have hlocals9 : W9 + (maxL + 11) + (headSpec ws rm).room.locals ≤ R.locals := hlocals
  have happ : (headSpec ws rm).appliesLoose y e.platform (U.calling g mk a) = true :=
    Spec.appliesLoose_calling (g := g) h hdg hn hkY hinitY
      (X.room_calling (g := g) (R' := (headSpec ws rm).room) hsize hmY hcY hframes (by rw [hlY]; omega) h4 h5) h1
  obtain ⟨mid, hmid⟩ := h.above
  have hfr : (U.setTop g).frames = (.java g :: mid) ++ below := by rw [State.frames_setTop' g h.top, hmid]; rfl
  obtain ⟨o, s₂, hsteps, -, hend, hq⟩ := Steps.callFree hM p X.admits X.cas X.clock (acts := []) hfr happ hPc trivial
  have hq' : vx_Q Qc XC mc ms free a (U.calling g mk a) o s₂ := hq
  rw [State.frames_setTop' g h.top] at hend
  obtain ⟨g₀, hg0⟩ := Option.isSome_iff_exists.mp h.top
  obtain ⟨r, hr⟩ := State.topJava?_eq_some.mp hg0
  have hr' : (({ U with heap := s₂.heap, slotsUsed := s₂.slotsUsed } : State).setVm s₂.vm).frames = .java g₀ :: r := hr
  rcases hq' with ⟨hqc, L, hfe, hL⟩ | ⟨q, rfl, E, ce, L, hx, hce, hcv, hcl, hW₂, hsm, hL⟩
  · obtain ⟨⟨v, rfl⟩, hW₂, e2, q2, q3, q4, q5, q6⟩ := id hfe
    have e3 : s₂ = ({ (U.calling g mk a).setFrames s₂.frames with heap := s₂.heap, slotsUsed := s₂.slotsUsed } : State).setVm s₂.vm := by
      have : s₂ = ({ s₂ with vm := (U.calling g mk a).vm } : State).setVm s₂.vm := rfl
      rw [e2] at this
      exact this
    obtain ⟨c₂, i₂, len₂, hc₂, hd₂, hf₂⟩ := hend
    have hW' : U.WarmedH s₂.vm := hW₂
    have hcc : c₂ = c := by
      have h1 : s₂.code? g.method = U.code? g.method := by
        rw [State.code?_eq, State.code?_eq, hW'.alike.method?]
      exact Option.some.inj (hc₂.symm.trans (h1.trans h.code))
    subst hcc
    have hlen : len₂ = len := by rw [hdg] at hd₂; cases hd₂; rfl
    subst hlen
    have hs₂ : s₂ = (({ U with heap := s₂.heap, slotsUsed := s₂.slotsUsed } : State).setVm s₂.vm).setTop { g with pc := g.pc + len₂, stack := v.toList ++ g.stack } := by
      refine e3.trans ?_
      rw [hf₂, State.calling_eq h.top, State.setFrames_setFrames, State.setTop_of_frames _ hr', hr]
      rfl
    have hsame : U.sameButNew ({ U with heap := s₂.heap, slotsUsed := s₂.slotsUsed } : State) L mc ms := by
      refine ⟨?_, q2, q3, q4, q5, q6⟩
      obtain ⟨t, ht, -⟩ := State.frames_cons hr
      show ({ U with heap := s₂.heap, slotsUsed := s₂.slotsUsed } : State) = { U.setFrames U.frames with heap := s₂.heap, slotsUsed := s₂.slotsUsed }
      rw [State.setFrames_self ht]
    subst hg
    refine Or.inl ⟨v, ⟨(({ U with heap := s₂.heap, slotsUsed := s₂.slotsUsed } : State).setVm s₂.vm), Ls ++ L, c0 + mc, s0 + ms⟩,
      ⟨X.admits, X.cas, X.clock, X.frames, X.room, X.hears, X.method, X.code, (X.here.setHeapUsed s₂.heap s₂.slotsUsed).setVm hW'.alike, X.tail, State.WarmedH.trans X.warmed hW', X.limits, X.bytes, X.same.trans (hsame.setVm s.vm)⟩,
      ⟨g, mk, s₂, L, rfl, rfl, hqc, rfl, hL, rfl, rfl⟩, ?_⟩
    show Steps p.tables e below _ ((({ U with heap := s₂.heap, slotsUsed := s₂.slotsUsed } : State).setVm s₂.vm).setTop { g with pc := g.pc + len₂, stack := v.toList ++ g.stack })
    rw [← hs₂]
    exact hsteps
  · obtain ⟨e2, q2, q3, q4, q5, q6⟩ := id hsm
    have e3 : s₂ = ({ (U.calling g mk a).setFrames s₂.frames with heap := s₂.heap, slotsUsed := s₂.slotsUsed } : State).setVm s₂.vm := by
      have : s₂ = ({ s₂ with vm := (U.calling g mk a).vm } : State).setVm s₂.vm := rfl
      rw [e2] at this
      exact this
    have hf₂ : s₂.frames = .throwing q :: .java g :: U.frames.tail := hend
    have hW' : U.WarmedH s₂.vm := hW₂
    have hs₂ : s₂ = ((({ U with heap := s₂.heap, slotsUsed := s₂.slotsUsed } : State).setVm s₂.vm).setTop g).pushFrame (.throwing q) := by
      refine e3.trans ?_
      rw [hf₂, State.calling_eq h.top, State.setFrames_setFrames, State.pushFrame, State.frames_setTop _ hr', State.setTop_of_frames _ hr', State.setFrames_setFrames, hr]
      rfl
    have hsame : U.sameButNew ({ U with heap := s₂.heap, slotsUsed := s₂.slotsUsed } : State) L mc ms := by
      refine ⟨?_, q2, q3, q4, q5, q6⟩
      obtain ⟨t, ht, -⟩ := State.frames_cons hr
      show ({ U with heap := s₂.heap, slotsUsed := s₂.slotsUsed } : State) = { U.setFrames U.frames with heap := s₂.heap, slotsUsed := s₂.slotsUsed }
      rw [State.setFrames_self ht]
    subst hg
    refine Or.inr ⟨q, ⟨(({ U with heap := s₂.heap, slotsUsed := s₂.slotsUsed } : State).setVm s₂.vm), Ls ++ L, c0 + mc, s0 + ms⟩,
      ⟨X.admits, X.cas, X.clock, X.frames, X.room, X.hears, X.method, X.code, (X.here.setHeapUsed s₂.heap s₂.slotsUsed).setVm hW'.alike, X.tail, State.WarmedH.trans X.warmed hW', X.limits, X.bytes, X.same.trans (hsame.setVm s.vm)⟩,
      ⟨g, mk, s₂, L, E, ce, rfl, rfl, hx, hce, hcv, hcl, rfl, hL, rfl, rfl⟩, ?_⟩
    show Steps p.tables e below _ (((({ U with heap := s₂.heap, slotsUsed := s₂.slotsUsed } : State).setVm s₂.vm).setTop g).pushFrame (.throwing q))
    rw [← hs₂]
    exact hsteps
end
variable {p : Program} {l : Launch} {e : Env} {R : Room} {s : State} {m : MethodId} {args : Array Value} {below : List Frame} {meth : Method} {c : Code} {T : State} {H : Heap} {locs : List Loc} {cells slots : Nat}
theorem vx_callVX (X : Stand p l e R s m args below meth c T locs cells slots) (hexec : p.tables.exec = Jvm.exec) {own C : String} {index : Nat} {y : MethodName} {bytes : ByteArray} {maxL : Nat} {ret : Option FieldType} {hh : List (Nat × Nat × Nat × Nat)}
    (hown : s.vm.findClass own = some m.cls) (hlink : (Cond.methodLink own index y).before args s = true) (hinst : (Cond.instanceMethod y).before args s = true) (hsel : (Cond.selects C y y).before args s = true)
    (hcode : (Cond.codeWith y bytes maxL ret hh).before args s = true) (hy : y.cls ≠ "java/lang/invoke/MethodHandle" ∧ y.cls ≠ "java/lang/invoke/VarHandle")
    {W9 : Nat} {Pre : Pt → Array Value → Prop} {Post : Pt → Array Value → Option Value → Pt → Prop} {PostX : Pt → Array Value → Addr → Pt → Prop} (hK : vx_Back l R p e below s args y 3 W9 Pre Post PostX)
    {b : Addr} {cellB : Cell} (hcell : T.heap[b]? = some cellB) (hobj : cellB.vm.isStatics = false) (hcls : s.vm.findClass C = some cellB.cls)
    {g : JFrame} (hg : g.method = m) (hsize : g.locals.size = c.maxLocals) {argsL rest : List Value} (hlen : ∀ sig, parseMethodDescriptor y.desc = some sig → argsL.length = sig.parameters.length)
    (hstack : g.stack = argsL.reverse ++ .ref b :: rest) (hW : 2 * g.monitorRoom + (rest.map fun v => v.category).sum ≤ W9) (hdg : decode c.code g.pc = .ok (.invokevirtual index, 3))
    (hpre : ∀ vm₁, s.WarmedH vm₁ → Pre ⟨T.setVm vm₁, locs, cells, slots⟩ (Value.ref b :: argsL).toArray) :
    (∃ (v : Option Value) (vm₁ : Vm) (B : Pt), s.WarmedH vm₁ ∧ Stand p l e R s m args below meth c B.U B.locs B.cells B.slots ∧ Post ⟨T.setVm vm₁, locs, cells, slots⟩ (Value.ref b :: argsL).toArray v B ∧
      ∀ target, Steps p.tables e below (B.U.setTop { g with pc := g.pc + 3, stack := v.toList ++ rest }) target → Steps p.tables e below (T.setTop g) target) ∨
    (∃ (q : Addr) (vm₁ : Vm) (B : Pt), s.WarmedH vm₁ ∧ Stand p l e R s m args below meth c B.U B.locs B.cells B.slots ∧ PostX ⟨T.setVm vm₁, locs, cells, slots⟩ (Value.ref b :: argsL).toArray q B ∧
      Steps p.tables e below (T.setTop g) ((B.U.setTop { g with stack := rest }).pushFrame (.throwing q))) := by
  obtain ⟨mk, methM, hnamed, hmethM, hstM, habM⟩ := Cond.instanceMethod_spec hinst
  obtain ⟨m8, methM', cM, hn8, hmethM', -, -, -, -, -, -, hsigM⟩ := Cond.codeWith_spec hcode
  cases Option.some.inj (hn8.symm.trans hnamed)
  cases hmethM.symm.trans hmethM'
  obtain ⟨c2, r2, m2, q1, q2, q3, q4, kP, hkP, hkPi⟩ := Cond.selects_spec hsel
  cases hcls.symm.trans q1
  cases (State.methodFound?_of_named hnamed hy).symm.trans q2
  cases hnamed.symm.trans q3
  have hselP : selectMethod e.platform s.vm cellB.cls mk = .method mk := by rw [Launch.admits_selectMethod X.admits]; exact q4
  obtain ⟨vm₁, X₁, hstep₁⟩ := X.invokevirtual hexec hown hlink hnamed hmethM hstM hkP hkPi hy (a := b) (cell := cellB) hcell
    (fun z h => by rw [h] at hobj; cases hobj) hselP hmethM habM hkP hkPi (g := g) hg (argsL := argsL) (rest := rest) (hlen _ hsigM) hstack hdg
  rcases hK m meth c ⟨T.setVm vm₁, locs, cells, slots⟩ { g with stack := rest } (.invokevirtual index) mk (Value.ref b :: argsL).toArray X₁ hg hsize hdg hW (X₁.named hnamed) (hpre vm₁ X₁.warmed) with ⟨v, B, X', hpost, hsteps⟩ | ⟨q, B, X', hpost, hsteps⟩
  · exact Or.inl ⟨v, vm₁, B, X₁.warmed, X', hpost, fun target h => hstep₁ _ fun acts => by rw [doInvoke_state]; exact hsteps.trans h⟩
  · exact Or.inr ⟨q, vm₁, B, X₁.warmed, X', hpost, hstep₁ _ fun acts => by rw [doInvoke_state]; exact hsteps⟩
theorem vx_callSX (X : Stand p l e R s m args below meth c T locs cells slots) (hexec : p.tables.exec = Jvm.exec) {own : String} {index : Nat} {y : MethodName} {bytes : ByteArray} {maxL : Nat} {ret : Option FieldType} {hh : List (Nat × Nat × Nat × Nat)}
    (hown : s.vm.findClass own = some m.cls) (hlink : (Cond.methodLink own index y).before args s = true) (hstat : (Cond.static y).before args s = true) (hinit : (Cond.initialized y.cls).before args s = true)
    (hcode : (Cond.codeWith y bytes maxL ret hh).before args s = true) (hy : y.cls ≠ "java/lang/invoke/MethodHandle" ∧ y.cls ≠ "java/lang/invoke/VarHandle")
    {W9 : Nat} {Pre : Pt → Array Value → Prop} {Post : Pt → Array Value → Option Value → Pt → Prop} {PostX : Pt → Array Value → Addr → Pt → Prop} (hK : vx_Back l R p e below s args y 3 W9 Pre Post PostX)
    {g : JFrame} (hg : g.method = m) (hsize : g.locals.size = c.maxLocals) {argsL rest : List Value} (hlen : ∀ sig, parseMethodDescriptor y.desc = some sig → argsL.length = sig.parameters.length)
    (hstack : g.stack = argsL.reverse ++ rest) (hW : 2 * g.monitorRoom + (rest.map fun v => v.category).sum ≤ W9) (hdg : decode c.code g.pc = .ok (.invokestatic index, 3))
    (hpre : ∀ vm₁, s.WarmedH vm₁ → Pre ⟨T.setVm vm₁, locs, cells, slots⟩ argsL.toArray) :
    (∃ (v : Option Value) (vm₁ : Vm) (B : Pt), s.WarmedH vm₁ ∧ Stand p l e R s m args below meth c B.U B.locs B.cells B.slots ∧ Post ⟨T.setVm vm₁, locs, cells, slots⟩ argsL.toArray v B ∧
      ∀ target, Steps p.tables e below (B.U.setTop { g with pc := g.pc + 3, stack := v.toList ++ rest }) target → Steps p.tables e below (T.setTop g) target) ∨
    (∃ (q : Addr) (vm₁ : Vm) (B : Pt), s.WarmedH vm₁ ∧ Stand p l e R s m args below meth c B.U B.locs B.cells B.slots ∧ PostX ⟨T.setVm vm₁, locs, cells, slots⟩ argsL.toArray q B ∧
      Steps p.tables e below (T.setTop g) ((B.U.setTop { g with stack := rest }).pushFrame (.throwing q))) := by
  obtain ⟨mk, methM, cM, hnamed, hmethM, -, -, -, -, -, -, hsigM⟩ := Cond.codeWith_spec hcode
  have hstatic : methM.isStatic = true := Cond.static_spec hnamed hmethM hstat
  obtain ⟨kP, hkP, -⟩ := className_of_methodNamed hnamed
  have hinitP : kP.init = .initialized := Cond.initialized_spec (findClass_of_methodNamed hnamed) hkP hinit
  obtain ⟨vm₁, X₁, hstep₁⟩ := X.invokestatic hexec hown hlink hnamed hmethM hstatic hkP hinitP hy (g := g) hg (argsL := argsL) (rest := rest) (hlen _ hsigM) hstack hdg
  rcases hK m meth c ⟨T.setVm vm₁, locs, cells, slots⟩ { g with stack := rest } (.invokestatic index) mk argsL.toArray X₁ hg hsize hdg hW (X₁.named hnamed) (hpre vm₁ X₁.warmed) with ⟨v, B, X', hpost, hsteps⟩ | ⟨q, B, X', hpost, hsteps⟩
  · exact Or.inl ⟨v, vm₁, B, X₁.warmed, X', hpost, fun target h => hstep₁ _ fun acts => by rw [doInvoke_state]; exact hsteps.trans h⟩
  · exact Or.inr ⟨q, vm₁, B, X₁.warmed, X', hpost, hstep₁ _ fun acts => by rw [doInvoke_state]; exact hsteps⟩
theorem vx_callVW (X : Stand p l e R s m args below meth c T locs cells slots) (hexec : p.tables.exec = Jvm.exec) {own C : String} {index : Nat} {y : MethodName} {bytes : ByteArray} {maxL : Nat} {ret : Option FieldType} {hh : List (Nat × Nat × Nat × Nat)}
    (hown : s.vm.findClass own = some m.cls) (hlink : (Cond.methodLink own index y).before args s = true) (hinst : (Cond.instanceMethod y).before args s = true) (hsel : (Cond.selects C y y).before args s = true)
    (hcode : (Cond.codeWith y bytes maxL ret hh).before args s = true) (hy : y.cls ≠ "java/lang/invoke/MethodHandle" ∧ y.cls ≠ "java/lang/invoke/VarHandle")
    {W9 : Nat} {Pre : Pt → Array Value → Prop} {Post : Pt → Array Value → Option Value → Pt → Prop} (hK : Back l R p e below s args y 3 W9 Pre Post)
    {b : Addr} {cellB : Cell} (hcell : T.heap[b]? = some cellB) (hobj : cellB.vm.isStatics = false) (hcls : s.vm.findClass C = some cellB.cls)
    {g : JFrame} (hg : g.method = m) (hsize : g.locals.size = c.maxLocals) {argsL rest : List Value} (hlen : ∀ sig, parseMethodDescriptor y.desc = some sig → argsL.length = sig.parameters.length)
    (hstack : g.stack = argsL.reverse ++ .ref b :: rest) (hW : 2 * g.monitorRoom + (rest.map fun v => v.category).sum ≤ W9) (hdg : decode c.code g.pc = .ok (.invokevirtual index, 3))
    (hpre : ∀ vm₁, s.WarmedH vm₁ → Pre ⟨T.setVm vm₁, locs, cells, slots⟩ (Value.ref b :: argsL).toArray) :
    ∃ (v : Option Value) (vm₁ : Vm) (B : Pt), s.WarmedH vm₁ ∧ Stand p l e R s m args below meth c B.U B.locs B.cells B.slots ∧ Post ⟨T.setVm vm₁, locs, cells, slots⟩ (Value.ref b :: argsL).toArray v B ∧
      ∀ target, Steps p.tables e below (B.U.setTop { g with pc := g.pc + 3, stack := v.toList ++ rest }) target → Steps p.tables e below (T.setTop g) target := by
  obtain ⟨mk, methM, hnamed, hmethM, hstM, habM⟩ := Cond.instanceMethod_spec hinst
  obtain ⟨m8, methM', cM, hn8, hmethM', -, -, -, -, -, -, hsigM⟩ := Cond.codeWith_spec hcode
  cases Option.some.inj (hn8.symm.trans hnamed)
  cases hmethM.symm.trans hmethM'
  obtain ⟨c2, r2, m2, q1, q2, q3, q4, kP, hkP, hkPi⟩ := Cond.selects_spec hsel
  cases hcls.symm.trans q1
  cases (State.methodFound?_of_named hnamed hy).symm.trans q2
  cases hnamed.symm.trans q3
  have hselP : selectMethod e.platform s.vm cellB.cls mk = .method mk := by rw [Launch.admits_selectMethod X.admits]; exact q4
  obtain ⟨vm₁, X₁, hstep₁⟩ := X.invokevirtual hexec hown hlink hnamed hmethM hstM hkP hkPi hy (a := b) (cell := cellB) hcell
    (fun z h => by rw [h] at hobj; cases hobj) hselP hmethM habM hkP hkPi (g := g) hg (argsL := argsL) (rest := rest) (hlen _ hsigM) hstack hdg
  obtain ⟨v, B, X', hpost, hsteps⟩ := hK m meth c ⟨T.setVm vm₁, locs, cells, slots⟩ { g with stack := rest } (.invokevirtual index) mk (Value.ref b :: argsL).toArray X₁ hg hsize hdg hW (X₁.named hnamed) (hpre vm₁ X₁.warmed)
  exact ⟨v, vm₁, B, X₁.warmed, X', hpost, fun target h => hstep₁ _ fun acts => by rw [doInvoke_state]; exact hsteps.trans h⟩
abbrev vx_CVW (R : Room) (s : State) (args : Array Value) (own C : String) (index : Nat) (y : MethodName) (bytes : ByteArray) (maxL : Nat) (ret : Option FieldType) (hh : List (Nat × Nat × Nat × Nat)) (ws : List Cond) (rm : Room) (mc ms n : Nat) : Prop :=
  (rm.cells = mc ∧ rm.slots = ms ∧ rm.frames + 1 ≤ R.frames ∧ 8 + (maxL + 11) + rm.locals ≤ R.locals ∧ (∀ w ∈ ws, ∀ (a' : Array Value) (U : State), s.WarmedH U.vm → w.before a' U = true) ∧ Cond.codeWith y bytes maxL ret hh ∈ ws) ∧
  (Cond.codeWith y bytes maxL ret hh).before args s = true ∧ (Cond.initialized y.cls).before args s = true ∧ (y.cls ≠ "java/lang/invoke/MethodHandle" ∧ y.cls ≠ "java/lang/invoke/VarHandle") ∧
  (∀ sig, parseMethodDescriptor y.desc = some sig → n = sig.parameters.length) ∧ (Cond.methodLink own index y).before args s = true ∧ (Cond.instanceMethod y).before args s = true ∧ (Cond.selects C y y).before args s = true
theorem vx_cwVW {own C : String} {index maxL mc ms : Nat} {y : MethodName} {bytes : ByteArray} {ret : Option FieldType} {hh : List (Nat × Nat × Nat × Nat)} {Ts ws ws' : List Cond} {rm : Room} (n : Nat) (ht : ∀ w ∈ Ts, w.before args s = true) (hT : GoodIn Ts (wsV own index C y ws)) (hw : ws = Cond.codeWith y bytes maxL ret hh :: ws') (hrc : rm.cells = mc) (hrs : rm.slots = ms)
    (hd : y.cls = C ∧ y.cls ≠ "java/lang/invoke/MethodHandle" ∧ y.cls ≠ "java/lang/invoke/VarHandle" ∧ (parseMethodDescriptor y.desc).map (fun d => d.parameters.length) = some n) (hR : rm.frames + 1 ≤ R.frames ∧ 8 + (maxL + 11) + rm.locals ≤ R.locals) :
    vx_CVW R s args own C index y bytes maxL ret hh ws rm mc ms n := by
  obtain ⟨hC, hd⟩ := hd
  subst hC
  have ok : ∀ w ∈ wsV own index y.cls y ws, w.before args s = true := fun w h => ht w (hT w h).1
  have hG : GoodIn Ts ws := fun w h => hT w (by unfold wsV; exact List.mem_append_right _ h)
  have hc : Cond.codeWith y bytes maxL ret hh ∈ ws := by rw [hw]; exact List.mem_cons_self
  refine ⟨⟨hrc, hrs, hR.1, hR.2, pay_in ht hG, hc⟩, ht _ (hG _ hc).1, ok _ (by simp [wsV]), ⟨hd.1, hd.2.1⟩, fun sig h => ?_, ok _ (by simp [wsV]), ok _ (by simp [wsV]), ok _ (by simp [wsV])⟩
  have h2 := hd.2.2
  rw [h] at h2
  exact (Option.some.inj h2).symm
theorem vx_runVW {y : MethodName} {bytes cc : ByteArray} {maxL nL mc ms n index : Nat} {ret : Option FieldType} {hh : List (Nat × Nat × Nat × Nat)} {ws : List Cond} {rm : Room} {Pc : Array Value → State → Prop} {Qc : Array Value → State → Outcome → State → Prop} {free : Addr → Prop} {Ts : List Cond} {own C : String} {b : Addr} {As rest : List Value} {g : JFrame}
    (S : CallFix p m c cc nL s args Ts own) (hM : Met l y ws rm Pc Qc mc ms free) (cw : vx_CVW R s args own C index y bytes maxL ret hh ws rm mc ms n) (hp : PreV s H C b Pc As)
    (hg : g.method = m) (hn : As.length = n) (hsize : g.locals.size = nL) (hstack : g.stack = As.reverse ++ .ref b :: rest) (hW : 2 * g.monitorRoom + (rest.map fun v => v.category).sum ≤ 8) (hdg : decode cc g.pc = .ok (.invokevirtual index, 3)) (hf : cells + mc ≤ R.cells ∧ slots + ms ≤ R.slots) :
    va_Run p l e R s m args below meth c H locs cells slots mc ms g rest (Qc (Value.ref b :: As).toArray) free := by
  obtain ⟨⟨hrc, hrs, hfr, hlo, hws, hcw⟩, hcode, hini, hy, hlen, hl, hin, hse⟩ := cw
  have hK : Back l R p e below s args y 3 8 (PreOf R mc ms Pc) (PostOf Qc mc ms free) := va_backW (hh := hh) (bytes := bytes) (maxL := maxL) (ret := ret) hM hp.1 hrc hrs hfr hlo hws hcw (fun a' U hW => word_at hW (Or.inl (by first | rfl | simp [Cond.onTables, Cond.keeps, Cond.steady])) hini)
  obtain ⟨hx, hb, hml, ho, -⟩ := S
  obtain ⟨-, ⟨cellB, hcB, hoB, hclB⟩, hPc⟩ := hp
  intro T hT X
  obtain ⟨v, vm₁, ⟨U', l2, c2, s2⟩, hW₁, X', ⟨g', mk, t, L, e1, e2, hq, h1, hL, h2, h3⟩, st⟩ := vx_callVW X hx (C := C) (hh := hh) (bytes := bytes) (maxL := maxL) (ret := ret) ho hl hin hse hcode hy hK (by rw [hT]; exact hcB) hoB hclB hg (hsize.trans hml.symm) (argsL := As) (rest := rest) (fun sig h => hn.trans (hlen sig h)) hstack hW (by rw [hb]; exact hdg)
    (fun vm₁ hW₁ => ⟨hf.1, hf.2, hPc (T.setVm vm₁) hT hW₁⟩)
  dsimp only [Pt.U, Pt.locs, Pt.cells, Pt.slots] at X' e1 e2 h1 h2 h3 st
  subst h1; subst h2; subst h3
  exact ⟨v, (T.setVm vm₁).calling g' mk (Value.ref b :: As).toArray, t, U', L, hT, X', hL, e1, e2, hq, st⟩
section
variable {y : MethodName} {bytes cc : ByteArray} {maxL nL mc ms n index : Nat} {ret : Option FieldType} {ws : List Cond} {rm : Room} {Pc : Array Value → State → Prop} {Qc : Array Value → State → Outcome → State → Prop} {XC : String → State → State → Prop} {free : Addr → Prop} {Ts : List Cond} {own C : String} {b : Addr} {As rest : List Value} {g : JFrame}
theorem vx_runVX {hh : List (Nat × Nat × Nat × Nat)} (S : CallFix p m c cc nL s args Ts own) (hM : vx_Met l y ws rm Pc Qc XC mc ms free) (cw : vx_CVW R s args own C index y bytes maxL ret hh ws rm mc ms n) (hp : PreV s H C b Pc As)
    (hg : g.method = m) (hn : As.length = n) (hsize : g.locals.size = nL) (hstack : g.stack = As.reverse ++ .ref b :: rest) (hW : 2 * g.monitorRoom + (rest.map fun v => v.category).sum ≤ 8) (hdg : decode cc g.pc = .ok (.invokevirtual index, 3)) (hf : cells + mc ≤ R.cells ∧ slots + ms ≤ R.slots) :
    vx_Run p l e R s m args below meth c H locs cells slots mc ms g rest (Qc (Value.ref b :: As).toArray) XC free := by
  obtain ⟨⟨hrc, hrs, hfr, hlo, hws, hcw⟩, hcode, hini, hy, hlen, hl, hin, hse⟩ := cw
  have hK : vx_Back l R p e below s args y 3 8 (PreOf R mc ms Pc) (PostOf Qc mc ms free) (vx_Post XC mc ms free) := vx_backW (hh := hh) (bytes := bytes) (maxL := maxL) (ret := ret) hM hp.1 hrc hrs hfr hlo hws hcw (fun a' U hW => word_at hW (Or.inl (by first | rfl | simp [Cond.onTables, Cond.keeps, Cond.steady])) hini)
  obtain ⟨hx, hb, hml, ho, -⟩ := S
  obtain ⟨-, ⟨cellB, hcB, hoB, hclB⟩, hPc⟩ := hp
  intro T hT X
  rcases vx_callVX X hx (C := C) (hh := hh) (bytes := bytes) (maxL := maxL) (ret := ret) ho hl hin hse hcode hy hK (by rw [hT]; exact hcB) hoB hclB hg (hsize.trans hml.symm) (argsL := As) (rest := rest) (fun sig h => hn.trans (hlen sig h)) hstack hW (by rw [hb]; exact hdg)
    (fun vm₁ hW₁ => ⟨hf.1, hf.2, hPc (T.setVm vm₁) hT hW₁⟩) with ⟨v, vm₁, ⟨U', l2, c2, s2⟩, hW₁, X', ⟨g', mk, t, L, e1, e2, hq, h1, hL, h2, h3⟩, st⟩ | ⟨q, vm₁, ⟨U', l2, c2, s2⟩, hW₁, X', ⟨g', mk, t, L, E, ce, e1, e2, hq, hce, hcv, hcl, h1, hL, h2, h3⟩, st⟩
  · dsimp only [Pt.U, Pt.locs, Pt.cells, Pt.slots] at X' e1 e2 h1 h2 h3 st
    subst h1; subst h2; subst h3
    exact Or.inl ⟨v, (T.setVm vm₁).calling g' mk (Value.ref b :: As).toArray, t, U', L, hT, X', hL, e1, e2, hq, st⟩
  · dsimp only [Pt.U, Pt.locs, Pt.cells, Pt.slots] at X' e1 e2 h1 h2 h3 st hcl
    subst h1; subst h2; subst h3
    exact Or.inr ⟨q, (T.setVm vm₁).calling g' mk (Value.ref b :: As).toArray, t, U', L, E, ce, hT, X', hL, e1, e2, hq, hce, hcv, vx_cls hW₁ hcl, st⟩
theorem vx_runSX {hh : List (Nat × Nat × Nat × Nat)} (S : CallFix p m c cc nL s args Ts own) (hM : vx_Met l y ws rm Pc Qc XC mc ms free) (cw : vx_CSW R s args own index y bytes maxL ret hh ws rm mc ms n) (hp : PreS s H Pc As)
    (hg : g.method = m) (hn : As.length = n) (hsize : g.locals.size = nL) (hstack : g.stack = As.reverse ++ rest) (hW : 2 * g.monitorRoom + (rest.map fun v => v.category).sum ≤ 8) (hdg : decode cc g.pc = .ok (.invokestatic index, 3)) (hf : cells + mc ≤ R.cells ∧ slots + ms ≤ R.slots) :
    vx_Run p l e R s m args below meth c H locs cells slots mc ms g rest (Qc As.toArray) XC free := by
  obtain ⟨⟨hrc, hrs, hfr, hlo, hws, hcw⟩, hcode, hini, hy, hlen, hl, hstt⟩ := cw
  have hK : vx_Back l R p e below s args y 3 8 (PreOf R mc ms Pc) (PostOf Qc mc ms free) (vx_Post XC mc ms free) := vx_backW (hh := hh) (bytes := bytes) (maxL := maxL) (ret := ret) hM hp.1 hrc hrs hfr hlo hws hcw (fun a' U hW => word_at hW (Or.inl (by first | rfl | simp [Cond.onTables, Cond.keeps, Cond.steady])) hini)
  obtain ⟨hx, hb, hml, ho, -⟩ := S
  intro T hT X
  rcases vx_callSX X hx (hh := hh) (bytes := bytes) (maxL := maxL) (ret := ret) ho hl hstt hini hcode hy hK hg (hsize.trans hml.symm) (argsL := As) (rest := rest) (fun sig h => hn.trans (hlen sig h)) hstack hW (by rw [hb]; exact hdg)
    (fun vm₁ hW₁ => ⟨hf.1, hf.2, hp.2 (T.setVm vm₁) hT hW₁⟩) with ⟨v, vm₁, ⟨U', l2, c2, s2⟩, hW₁, X', ⟨g', mk, t, L, e1, e2, hq, h1, hL, h2, h3⟩, st⟩ | ⟨q, vm₁, ⟨U', l2, c2, s2⟩, hW₁, X', ⟨g', mk, t, L, E, ce, e1, e2, hq, hce, hcv, hcl, h1, hL, h2, h3⟩, st⟩
  · dsimp only [Pt.U, Pt.locs, Pt.cells, Pt.slots] at X' e1 e2 h1 h2 h3 st
    subst h1; subst h2; subst h3
    exact Or.inl ⟨v, (T.setVm vm₁).calling g' mk As.toArray, t, U', L, hT, X', hL, e1, e2, hq, st⟩
  · dsimp only [Pt.U, Pt.locs, Pt.cells, Pt.slots] at X' e1 e2 h1 h2 h3 st hcl
    subst h1; subst h2; subst h3
    exact Or.inr ⟨q, (T.setVm vm₁).calling g' mk As.toArray, t, U', L, E, ce, hT, X', hL, e1, e2, hq, hce, hcv, vx_cls hW₁ hcl, st⟩
end
end VXH
theorem vx_ofWH {l : Launch} {y : MethodName} {ws ws' : List Cond} {rm : Room} {Pc : Array Value → State → Prop} {Qc : Array Value → State → Outcome → State → Prop} {XC : String → State → State → Prop} {mc ms : Nat} {free : Addr → Prop} {cc : ByteArray} {maxL : Nat} {ret : Option FieldType} {hh : List (Nat × Nat × Nat × Nat)}
    (hy : plainName y.cls = true) (hw : ws = Cond.codeWith y cc maxL ret hh :: ws')
    (body : ∀ p e s m args below meth c s₁, BodyLoose p l y (headSpec ws rm) cc maxL ret e s m args below meth c s₁ → c.maxLocals = maxL → Pc args s →
      W p l e (headSpec ws rm).room s m args below meth c s.heap [] 0 0 (vx_MQ below Qc XC args s mc ms free) (entryFrame m args maxL)) : vx_Met l y ws rm Pc Qc XC mc ms free := by
  refine MetFree.of_bodyS (code := cc) (maxLocals := maxL) (ret := ret) hy ?_ ?_
  · intro args s m h hn
    obtain ⟨m9, meth, c, hn9, h1, h2, h3, h4, -, h5, h6, -⟩ := Cond.codeWith_spec (atoms_spec (ws := ws) h _ (by rw [hw]; exact List.mem_cons_self))
    cases hn.symm.trans hn9
    exact ⟨meth, c, h1, h2, h3, h4, h5, h6⟩
  · intro p e s m args below meth c s₁ B hml hP _
    have hh0 : s₁.heap = s.heap := by rw [B.state]; rfl
    obtain ⟨t, a1, o, b1, b2, b3⟩ := body p e s m args below meth c s₁ B hml hP s₁ hh0 (Stand.of_body B)
    exact ⟨t, o, a1, b1, b2, b3⟩
/-! ===== END ===== -/
/-! ===== BEGIN what the machine throws by itself, no traces kept ===== -/
section VXM
set_option maxHeartbeats 1000000 in
/-- the machine throws cls with the message text, no traces kept: from its note over the frame g to 'throwing' over the same frame (follows the proofs of Stand.vmThrowsMessage, Shelf/KitTracedVmS.lean, and Stand.throwsMessageColdBareV, StandMessageColdV.lean, without the step out of the frame) -/
theorem vx_vmAt {p : Program} {l : Launch} {e : Env} {R : Room} {s : State} {m₀ : MethodId} {args : Array Value} {below : List Frame} {meth : Method} {c : Code} {W : State} {locs : List Loc} {cells slots : Nat}
    (X : Stand p l e R s m₀ args below meth c W locs cells slots) (hexec : p.tables.exec = Jvm.exec) (htr : e.platform.stackTraces = false) {cls : String} {names : List String} {text : String}
    (hcls : Bundle.fit cls = true) (hnames : ∀ n ∈ names, Bundle.fit n = true) (hsoe : (cls == "java/lang/StackOverflowError") = false) (hoom : (cls == "java/lang/OutOfMemoryError") = false)
    (h : ∀ a ∈ Bundle.messageArmAtoms cls names, a.before args s = true)
    (hlocs : ∀ x ∈ locs, ∀ cell, s.heap[x.base]? = some cell → cell.vm.isStatics = false)
    (htext : (text == notModelled) = false) (hlimit : ¬ (stringBytes (stringToUtf16 text)).size > e.platform.arrayLengthLimit) (hheap : ¬ (stringBytes (stringToUtf16 text)).size * componentBytes .byte > e.platform.maxHeapBytes)
    {g : JFrame} (hg : g.method = m₀) (hsize : g.locals.size = c.maxLocals)
    (hRframes : names.length + 4 < R.frames) (hRlocals : 2 * g.monitorRoom + (g.stack.map fun v => v.category).sum + 10240 ≤ R.locals) (hshort : 13 * names.length + 55 ≤ 10240)
    (hRcells : cells + 3 ≤ R.cells) (hRslots : slots + ((stringBytes (stringToUtf16 text)).size + 4 + 6) ≤ R.slots) (hlocks : meth.locks = false) :
    ∃ (S : State) (q : Addr) (ce : Cell), (∀ target, Steps p.tables e below ((S.setTop g).pushFrame (.throwing q)) target → Steps p.tables e below ((W.setTop g).pushFrame (.throwNew cls (some text) none)) target) ∧
      Stand p l e R s m₀ args below meth c S locs (cells + 3) (slots + ((stringBytes (stringToUtf16 text)).size + 4 + 6)) ∧ S.heap[q]? = some ce ∧ s.vm.findClass cls = some ce.cls ∧ ce.vm = .none := by
  have howns : e.platform.frameOwnsMonitors = true := by rw [X.admits.platform]
  have hfin : e.platform.finalization = false := by rw [X.admits.platform]
  have hpl : e.platform.magicAccessors = ({} : Platform).magicAccessors := by rw [X.admits.platform]
  have a : ∀ x, x ∈ Bundle.messageArmAtoms cls names → x.holds args s none s [] = true := fun x hx => h x hx
  obtain ⟨T, Z0, L, -, Y⟩ := ThrowableC.of_atoms (args := args) howns hfin hpl (fun x hx => h x (by simp [Bundle.messageArmAtoms, hx]))
  obtain ⟨Z, M, LZ, LM, hnZ⟩ := Init0T.ofS_atoms (args := args) hpl L Y (fun x hx => h x (by simp [Bundle.messageArmAtoms, hx]))
  obtain ⟨P1, Ps, hlen, L1, hL, hP1m, hlink1, hlink⟩ := Bundle.chainS (args := args) hpl hnZ names cls hcls hnames (fun x hx => h x (by simp [Bundle.messageArmAtoms, hx]))
  obtain ⟨Zs, LZs, hn4, hfitv, hfitc⟩ := StringT.of_atoms (args := args) (fun x hx => h x (by simp [Bundle.messageArmAtoms, hx]))
  have hfound : s.vm.findClass cls = some P1.m.cls := findClass_of_methodNamed hP1m
  obtain ⟨c1, kX, hc1, hk, hord, -, -, hn6⟩ := Cond.instantiable_spec (a (.instantiable cls 6) (by simp [Bundle.messageArmAtoms]))
  cases Option.some.inj (hc1.symm.trans hfound)
  have hinit := Cond.initialized_spec hfound hk (a (.initialized cls) (by simp [Bundle.messageArmAtoms]))
  have hctor : kX.findMethod "<init>" "(Ljava/lang/String;)V" = some P1.m.idx := findMethod_of_methodNamed hP1m hk
  have hsel0 : selectMethod e.platform s.vm P1.m.cls T.fill0 = .method T.fill0 := by
    obtain ⟨c2, r2, m2, q1, q2, q3, q4, -⟩ := Cond.selects_spec (a (.selects cls Bundle.tFill0 Bundle.tFill0) (by simp [Bundle.messageArmAtoms]))
    cases Option.some.inj (q1.symm.trans hfound)
    cases Option.some.inj (q2.symm.trans (State.methodFound?_of_named Y.fill0 (by decide)))
    cases Option.some.inj (q3.symm.trans Y.fill0)
    rw [Launch.admits_selectMethod X.admits]; exact q4
  have hselF : selectMethod e.platform s.vm P1.m.cls T.fill = .method T.fill := by
    obtain ⟨c2, r2, m2, q1, q2, q3, q4, -⟩ := Cond.selects_spec (a (.selects cls Bundle.tFill Bundle.tFill) (by simp [Bundle.messageArmAtoms]))
    cases Option.some.inj (q1.symm.trans hfound)
    cases Option.some.inj (q2.symm.trans (State.methodFound?_of_named Y.fill (by decide)))
    cases Option.some.inj (q3.symm.trans Y.fill)
    rw [Launch.admits_selectMethod X.admits]; exact q4
  obtain ⟨cellS0, hcS0, hiss⟩ := Y.statics
  obtain ⟨u0, hu0⟩ := Cond.staticRefV Y.unassigned L.unassignedStatic L.statics hcS0 hiss (a (.isRef (.static Bundle.tN "UNASSIGNED_STACK" Bundle.steD)) (by simp [Bundle.messageArmAtoms]))
  obtain ⟨sen, hsen⟩ := Cond.staticRefV Y.sentinel L.sentinelStatic L.statics hcS0 hiss (a (.isRef (.static Bundle.tN "SUPPRESSED_SENTINEL" Bundle.listD)) (by simp [Bundle.messageArmAtoms]))
  obtain ⟨ci198, i198, fB, hk198, hg198, ha198, hsB, -, hnB, htB, hffB⟩ := Cond.ownField (t := .object "java/lang/Object") Y.found L.cls (by decide +kernel) (a (.fieldLink Bundle.tN 198 Bundle.tN "backtrace" "Ljava/lang/Object;") (by simp [Bundle.messageArmAtoms])) (a (.lays Bundle.tN Bundle.tN "backtrace" "Ljava/lang/Object;") (by simp [Bundle.messageArmAtoms])) e.platform hpl
  obtain ⟨cellS, hcS', heS, -, hkeep⟩ := X.same.2.2.2.2.2 T.aS cellS0 hcS0
  have hcellS : W.heap[T.aS]? = some cellS := hcS'
  have hout' : ∀ i, (⟨T.aS, i⟩ : Loc) ∉ locs := fun i hmem => by
    have := hlocs _ hmem cellS0 hcS0
    rw [hiss] at this; cases this
  have hknownS : cellS.vm ≠ .unknown := by
    rw [heS]; intro hu
    rw [show cellS0.vm = .unknown from hu] at hiss
    cases hiss
  have hvU : cellS.slots[T.fUnassigned.slot]? = some u0.v := by rw [hkeep _ (hout' _)]; exact hu0
  have hvSen : cellS.slots[T.fSentinel.slot]? = some sen.v := by rw [hkeep _ (hout' _)]; exact hsen
  obtain ⟨iM, hffM⟩ := Y.msg
  obtain ⟨tyC, dC, hdC, hdnC⟩ := Cond.laysAt hfound hk Y.cause (a (.lays cls Bundle.tN "cause" "Ljava/lang/Throwable;") (by simp [Bundle.messageArmAtoms]))
  obtain ⟨tyS, dS, hdS, hdnS⟩ := Cond.laysAt hfound hk Y.stack (a (.lays cls Bundle.tN "stackTrace" Bundle.steD) (by simp [Bundle.messageArmAtoms]))
  obtain ⟨tyP, dP, hdP, hdnP⟩ := Cond.laysAt hfound hk Y.supp (a (.lays cls Bundle.tN "suppressedExceptions" Bundle.listD) (by simp [Bundle.messageArmAtoms]))
  obtain ⟨tyM, dM, hdM, hdnM⟩ := Cond.laysAt hfound hk hffM (a (.lays cls Bundle.tN "detailMessage" "Ljava/lang/String;") (by simp [Bundle.messageArmAtoms]))
  obtain ⟨tyB, dB, hdB, hdnB⟩ := Cond.laysAt hfound hk hffB (a (.lays cls Bundle.tN "backtrace" "Ljava/lang/Object;") (by simp [Bundle.messageArmAtoms]))
  have bC := Cond.laysApart hdB hdC hdnB hdnC (by rw [hnB, Y.causeName]; decide)
  have bS := Cond.laysApart hdB hdS hdnB hdnS (by rw [hnB, Y.stackName]; decide)
  have bP := Cond.laysApart hdB hdP hdnB hdnP (by rw [hnB, Y.suppName]; decide)
  have hbk : ((preparedCellV T.toThrowableT (freshCell P1.m.cls kX) (W.heap.size + 2) u0 sen).withEntry W.cur).slots[fB.slot]? = some .null := by
    have := fresh_default (c := P1.m.cls) tyB
    rw [htB] at this
    simpa [preparedCellV, Cell.setSlot, Cell.withEntry, Array.getElem?_setIfInBounds, bC, bS, bP, bC.symm, bS.symm, bP.symm, defaultValue] using this
  have tkC := Takes.of_laid (v := .ref (W.heap.size + 2)) hk hord tyC (by rw [Y.causeType]; rfl)
  have tkS := Takes.of_laid (v := u0.v) hk hord tyS (by rw [Y.stackType]; exact fits_refV_array _ u0)
  have tkP := Takes.of_laid (v := sen.v) hk hord tyP (by rw [Y.suppType]; exact fits_refV_object _ sen)
  have tkM := Takes.of_laid (v := .ref (W.heap.size + 1)) hk hord tyM (by rw [Y.msgType]; rfl)
  have hskip : SkipFacts T e.platform s (fun u => u) u0 ((preparedCellV T.toThrowableT (freshCell P1.m.cls kX) (W.heap.size + 2) u0 sen).withEntry W.cur) := ⟨{ ci198 := ci198, i198 := i198, fBack := fB }, ⟨hk198, hg198, ha198, hsB⟩, hbk, fun _ _ => rfl⟩
  have h0 : At W g.method c below := by rw [hg]; exact X.here
  obtain ⟨hbeyond, hfreeW⟩ := X.vmMayThrow hsize (.throwNew cls (some text) none) (fun f hf => by cases hf) rfl hRlocals
  have hfr' : W.frames.length + Ps.length + 4 < (e.platform.stackLimits W.me).1 := by have := X.framesAbove hRframes; omega
  have hwd' : (stackUse (.java g :: W.frames.tail)).2 + 13 * Ps.length + 55 ≤ (e.platform.stackLimits W.me).2 := by have := X.stackAbove hsize (K := 13 * Ps.length + 55) (by omega); omega
  have hslots : W.slotsUsed + (stringBytes (stringToUtf16 text)).size + Zs.kS.instanceTypes.size + kX.instanceTypes.size ≤ e.platform.maxSlots := by
    have := X.slotsAbove hRslots
    rw [hn4, hn6]
    omega
  obtain ⟨vm', hW', st⟩ := Steps.vmThrowsMessageColdByV p (s₀ := s) (S := W) (g := g) h0 hexec T L Z LZ M LM X.warmed (t := W.cur) rfl Zs LZs P1 L1 Ps hL hlink1 hlink hsoe hoom hfound hk hinit hord hctor
    (Launch.admits_hotImplicitExceptions X.admits) hbeyond hfreeW htext hlimit hheap (X.cellsAbove hRcells) hslots (hfitv _) (hfitc _)
    (Nn := fun u => u) heapOnly_id (fun _ _ => rfl) (fun _ => rfl) (fun u x y => setCell_twice _ _ _ _) (fun _ => Nat.le_refl _) (cN := ((preparedCellV T.toThrowableT (freshCell P1.m.cls kX) (W.heap.size + 2) u0 sen).withEntry W.cur))
    hsel0 hcellS hknownS hvU tkS (fun _ hu => hu) (fun _ hu => hu) rfl rfl rfl (by simp [preparedCellV, Cell.setSlot, Cell.withEntry]) hskip (fun _ _ hA hW _ hroom _ hrest => L.nativeOff p htr hA hW hroom hrest) hselF hvSen tkC tkP tkM Y.objLocals rfl hfr' hwd'
  rw [plainBareV_eq T.toThrowableT (W.heap.size + 2) u0 sen (.ref (W.heap.size + 1)) W.cur rfl rfl] at st
  obtain ⟨-, -, w3, w4, -, -, -⟩ := withThrown_facts e.platform W Zs text P1.m.cls kX
  have X3 := ((X.pushed (bytesOf Zs.cB (stringToUtf16 text))).pushed (stringAt Zs.cS Zs.kS Zs.fv Zs.fc (stringToUtf16 text) W.heap.size)).pushed (freshCell P1.m.cls kX)
  rw [← withString_eq] at X3
  have X4 := X3.noted hW'
  have ha : (W.heap.size + 2) < ((withThrown W Zs text P1.m.cls kX).setVm vm').heap.size := by show _ < (withThrown W Zs text P1.m.cls kX).heap.size; rw [w3]; omega
  have hcell : ((withThrown W Zs text P1.m.cls kX).setVm vm').heap[(W.heap.size + 2)]? = some (freshCell P1.m.cls kX) := w4
  have X5 := ((((X4.stored hcell T.fCause.slot (.ref (W.heap.size + 2))).storedAgain ha T.fStack.slot u0.v).storedAgain ha T.fSupp.slot sen.v).storedAgain ha T.fStack.slot u0.v).storedAgain ha T.fMsg.slot (.ref (W.heap.size + 1))
  obtain ⟨g₁, hfrM⟩ := X5.frames_eq
  have hU : ((((withThrown W Zs text P1.m.cls kX).setVm vm').setCell (W.heap.size + 2) (plainBareV T.toThrowableT (freshCell P1.m.cls kX) (W.heap.size + 2) u0 sen (.ref (W.heap.size + 1)))).setTop g).pushFrame (.throwing (W.heap.size + 2)) = (((withThrown W Zs text P1.m.cls kX).setVm vm').setCell (W.heap.size + 2) (plainBareV T.toThrowableT (freshCell P1.m.cls kX) (W.heap.size + 2) u0 sen (.ref (W.heap.size + 1)))).setFrames (.throwing (W.heap.size + 2) :: .java g :: below) := by
    rw [State.pushFrame, State.frames_setTop _ hfrM, State.setTop_of_frames _ hfrM, State.setFrames_setFrames]
  have b1 : (bytesOf Zs.cB (stringToUtf16 text)).slots.size = (stringBytes (stringToUtf16 text)).size := by
    rw [(Cell.writeAll_facts _ _).2.2]; simp [bytes0]
  have b2 : (stringAt Zs.cS Zs.kS Zs.fv Zs.fc (stringToUtf16 text) W.heap.size).slots.size = 4 := by simp [string0, Cell.setSlot, hn4]
  have b3 : (freshCell P1.m.cls kX).slots.size = 6 := by simp [hn6]
  rw [b1, b2, b3] at X5
  have e9 : slots + (stringBytes (stringToUtf16 text)).size + 4 + 6 = slots + ((stringBytes (stringToUtf16 text)).size + 4 + 6) := by omega
  rw [e9] at X5
  simp only [List.append_assoc, List.cons_append, List.nil_append] at X5
  refine ⟨((withThrown W Zs text P1.m.cls kX).setVm vm').setCell (W.heap.size + 2) (plainBareV T.toThrowableT (freshCell P1.m.cls kX) (W.heap.size + 2) u0 sen (.ref (W.heap.size + 1))), W.heap.size + 2, _, fun target ht => st _ (by rw [X.tail, ← hU]; exact ht),
    X5.forget (fun y hy => ?_), heapAt_setCell_self _ ha, hfound, rfl⟩
  simp only [List.mem_cons, List.not_mem_nil, or_false] at hy
  have hge : s.heap.size ≤ W.heap.size := X.same.2.1
  rcases hy with rfl | rfl | rfl | rfl | rfl <;> exact Nat.le_trans hge (Nat.le_add_right _ 2)
set_option maxHeartbeats 1000000 in
/-- the machine throws NullPointerException, no traces kept: from its note over the frame g to 'throwing' over the same frame (follows the proof of Stand.vmThrowsNpe, Shelf42/KT2.lean; throwsNpeColdBareVAt, Shelf42/NT91.lean, called) -/
theorem vx_npeAt {p : Program} {l : Launch} {e : Env} {R : Room} {s : State} {m₀ : MethodId} {args : Array Value} {below : List Frame} {meth : Method} {c : Code} {W : State} {locs : List Loc} {cells slots : Nat}
    (X : Stand p l e R s m₀ args below meth c W locs cells slots) (hexec : p.tables.exec = Jvm.exec) (htr : e.platform.stackTraces = false) {n : Nat}
    (h : ∀ a ∈ Bundle.npeArmAtoms n, a.before args s = true)
    (hlocs : ∀ x ∈ locs, ∀ cell, s.heap[x.base]? = some cell → cell.vm.isStatics = false)
    {g : JFrame} (hg : g.method = m₀) (hsize : g.locals.size = c.maxLocals)
    (hRframes : 7 < R.frames) (hRlocals : 2 * g.monitorRoom + (g.stack.map fun v => v.category).sum + 10240 ≤ R.locals)
    (hRcells : cells + 1 ≤ R.cells) (hRslots : slots + n ≤ R.slots) (hlocks : meth.locks = false) :
    ∃ (S : State) (q : Addr) (ce : Cell), (∀ target, Steps p.tables e below ((S.setTop g).pushFrame (.throwing q)) target → Steps p.tables e below ((W.setTop g).pushFrame (.throwNew "java/lang/NullPointerException" none none)) target) ∧
      Stand p l e R s m₀ args below meth c S locs (cells + 1) (slots + n) ∧ S.heap[q]? = some ce ∧ s.vm.findClass "java/lang/NullPointerException" = some ce.cls ∧ ce.vm = .none := by
  have howns : e.platform.frameOwnsMonitors = true := by rw [X.admits.platform]
  have hfin : e.platform.finalization = false := by rw [X.admits.platform]
  have hpl : e.platform.magicAccessors = ({} : Platform).magicAccessors := by rw [X.admits.platform]
  have hpl2 : e.platform.arrayCloneIsPublic = true := by rw [X.admits.platform]
  have a' : ∀ x, x ∈ Bundle.npeArmAtoms n → x.holds args s none s [] = true := fun x hx => h x hx
  obtain ⟨T, Z, L, LZ, Y⟩ := ThrowableC.of_atoms (args := args) howns hfin hpl (fun x hx => h x (by simp [Bundle.npeArmAtoms, hx]))
  obtain ⟨N, LN, hcN, hnNF, hordN, hffS⟩ := NpeC.of_atoms (args := args) hpl hpl2 L Y (fun x hx => h x (by simp [Bundle.npeArmAtoms, hx]))
  obtain ⟨P1, L1, hP1m, hP1s⟩ := PassC.of_atoms (args := args) (s := s) hpl (X := Bundle.nN) (Y := Bundle.rN) (by decide) (by decide) LibCode.NullPointerException.Init0.at_0 LibCode.NullPointerException.Init0.at_1 LibCode.NullPointerException.Init0.at_4 (fun x hx => h x (by simp [Bundle.npeArmAtoms, hx]))
  obtain ⟨PR, LR, hPRm, hPRs⟩ := PassC.of_atoms (args := args) (s := s) hpl (X := Bundle.rN) (Y := Bundle.eN) (by decide) (by decide) LibCode.RuntimeException.Init0.at_0 LibCode.RuntimeException.Init0.at_1 LibCode.RuntimeException.Init0.at_4 (fun x hx => h x (by simp [Bundle.npeArmAtoms, hx]))
  obtain ⟨PE, LEx, hPEm, hPEs⟩ := PassC.of_atoms (args := args) (s := s) hpl (X := Bundle.eN) (Y := Bundle.tN) (by decide) (by decide) LibCode.Exception.Init0.at_0 LibCode.Exception.Init0.at_1 LibCode.Exception.Init0.at_4 (fun x hx => h x (by simp [Bundle.npeArmAtoms, hx]))
  have hfound : s.vm.findClass Bundle.nN = some P1.m.cls := findClass_of_methodNamed hP1m
  have ecls : N.cN = P1.m.cls := Option.some.inj (hcN.symm.trans hfound)
  have hk : s.vm.classes[P1.m.cls]? = some N.kN := by rw [← ecls]; exact LN.cls
  have hinit := Cond.initialized_spec hfound hk (a' (.initialized Bundle.nN) (by simp [Bundle.npeArmAtoms]))
  have hctor : N.kN.findMethod "<init>" "()V" = some P1.m.idx := findMethod_of_methodNamed hP1m hk
  obtain ⟨c1, k1, hc1, hk1, -, -, -, hn⟩ := Cond.instantiable_spec (a' (.instantiable Bundle.nN n) (by simp [Bundle.npeArmAtoms]))
  cases Option.some.inj (hc1.symm.trans hfound)
  cases Option.some.inj (hk1.symm.trans hk)
  have hfsz : (freshCell P1.m.cls N.kN).slots.size = n := by simp [hn]
  have hlink1 : P1.sup = PR.m := Option.some.inj (hP1s.symm.trans hPRm)
  have hlinkR : PR.sup = PE.m := Option.some.inj (hPRs.symm.trans hPEm)
  have hlinkE : PE.sup = Z.m T.toThrowableT := Option.some.inj (hPEs.symm.trans Y.init0)
  have hLs : ∀ P, P ∈ [PR, PE] → P.Links0 e.platform s := fun P hP => by
    simp only [List.mem_cons, List.not_mem_nil, or_false] at hP
    rcases hP with rfl | rfl
    · exact LR
    · exact LEx
  have hsel0 : selectMethod e.platform s.vm P1.m.cls T.fill0 = .method T.fill0 := by
    obtain ⟨c2, r2, m2, q1, q2, q3, q4, -⟩ := Cond.selects_spec (a' (.selects Bundle.nN Bundle.tFill0 Bundle.tFill0) (by simp [Bundle.npeArmAtoms]))
    cases Option.some.inj (q1.symm.trans hfound)
    cases Option.some.inj (q2.symm.trans (State.methodFound?_of_named Y.fill0 (by decide)))
    cases Option.some.inj (q3.symm.trans Y.fill0)
    rw [Launch.admits_selectMethod X.admits]; exact q4
  have hselF : selectMethod e.platform s.vm P1.m.cls T.fill = .method N.fill := by
    obtain ⟨c2, r2, m2, q1, q2, q3, q4, -⟩ := Cond.selects_spec (a' (.selects Bundle.nN Bundle.tFill Bundle.nFill) (by simp [Bundle.npeArmAtoms]))
    cases Option.some.inj (q1.symm.trans hfound)
    cases Option.some.inj (q2.symm.trans (State.methodFound?_of_named Y.fill (by decide)))
    cases Option.some.inj (q3.symm.trans hnNF)
    rw [Launch.admits_selectMethod X.admits]; exact q4
  obtain ⟨cellS0, hcS0, hiss⟩ := Y.statics
  obtain ⟨u0, hu0⟩ := Cond.staticRefV Y.unassigned L.unassignedStatic L.statics hcS0 hiss (a' (.isRef (.static Bundle.tN "UNASSIGNED_STACK" Bundle.steD)) (by simp [Bundle.npeArmAtoms]))
  obtain ⟨sen, hsen⟩ := Cond.staticRefV Y.sentinel L.sentinelStatic L.statics hcS0 hiss (a' (.isRef (.static Bundle.tN "SUPPRESSED_SENTINEL" Bundle.listD)) (by simp [Bundle.npeArmAtoms]))
  obtain ⟨ci198, i198, fB, hk198, hg198, ha198, hsB, -, hnB, htB, hffB⟩ := Cond.ownField (t := .object "java/lang/Object") Y.found L.cls (by decide +kernel) (a' (.fieldLink Bundle.tN 198 Bundle.tN "backtrace" Bundle.objD) (by simp [Bundle.npeArmAtoms])) (a' (.lays Bundle.tN Bundle.tN "backtrace" Bundle.objD) (by simp [Bundle.npeArmAtoms])) e.platform hpl
  obtain ⟨cellS, hcS', heS, -, hkeep⟩ := X.same.2.2.2.2.2 T.aS cellS0 hcS0
  have hcellS : W.heap[T.aS]? = some cellS := hcS'
  have hout' : ∀ i, (⟨T.aS, i⟩ : Loc) ∉ locs := fun i hmem => by
    have := hlocs _ hmem cellS0 hcS0
    rw [hiss] at this; cases this
  have hknownS : cellS.vm ≠ .unknown := by
    rw [heS]; intro hu
    rw [show cellS0.vm = .unknown from hu] at hiss
    cases hiss
  have hvU : cellS.slots[T.fUnassigned.slot]? = some u0.v := by rw [hkeep _ (hout' _)]; exact hu0
  have hvSen : cellS.slots[T.fSentinel.slot]? = some sen.v := by rw [hkeep _ (hout' _)]; exact hsen
  obtain ⟨tyC, dC, hdC, hdnC⟩ := Cond.laysAt hfound hk Y.cause (a' (.lays Bundle.nN Bundle.tN "cause" "Ljava/lang/Throwable;") (by simp [Bundle.npeArmAtoms]))
  obtain ⟨tyS, dS, hdS, hdnS⟩ := Cond.laysAt hfound hk Y.stack (a' (.lays Bundle.nN Bundle.tN "stackTrace" Bundle.steD) (by simp [Bundle.npeArmAtoms]))
  obtain ⟨tyP, dP, hdP, hdnP⟩ := Cond.laysAt hfound hk Y.supp (a' (.lays Bundle.nN Bundle.tN "suppressedExceptions" Bundle.listD) (by simp [Bundle.npeArmAtoms]))
  obtain ⟨tyX, dX, hdX, hdnX⟩ := Cond.laysAt hfound hk hffS (a' (.lays Bundle.nN Bundle.nN "extendedMessageState" "I") (by simp [Bundle.npeArmAtoms, Bundle.npeAtoms]))
  obtain ⟨hnX, htX⟩ := State.fieldFound?_type hffS (t := .int) (by decide +kernel)
  have xC := Cond.laysApart hdC hdX hdnC hdnX (by rw [hnX, Y.causeName]; decide)
  have xS := Cond.laysApart hdS hdX hdnS hdnX (by rw [hnX, Y.stackName]; decide)
  have xP := Cond.laysApart hdP hdX hdnP hdnX (by rw [hnX, Y.suppName]; decide)
  have hv0 : (freshCell P1.m.cls N.kN).slots[N.fState.slot]? = some (.int 0) := by
    have := fresh_default (c := P1.m.cls) tyX
    rw [htX] at this; exact this
  obtain ⟨tyB, dB, hdB, hdnB⟩ := Cond.laysAt hfound hk hffB (a' (.lays Bundle.nN Bundle.tN "backtrace" Bundle.objD) (by simp [Bundle.npeArmAtoms]))
  have bC := Cond.laysApart hdB hdC hdnB hdnC (by rw [hnB, Y.causeName]; decide)
  have bS := Cond.laysApart hdB hdS hdnB hdnS (by rw [hnB, Y.stackName]; decide)
  have bP := Cond.laysApart hdB hdP hdnB hdnP (by rw [hnB, Y.suppName]; decide)
  have bX := Cond.laysApart hdB hdX hdnB hdnX (by rw [hnB, hnX]; decide)
  have hbk : ((npeCell N.toNpeT (preparedCellV T.toThrowableT (freshCell P1.m.cls N.kN) W.heap.size u0 sen) W.cur).withEntry W.cur).slots[fB.slot]? = some .null := by
    have := fresh_default (c := P1.m.cls) tyB
    rw [htB] at this
    simpa [npeCell, preparedCellV, Cell.setSlot, Cell.withEntry, Array.getElem?_setIfInBounds, bC, bS, bP, bX, bC.symm, bS.symm, bP.symm, bX.symm, defaultValue] using this
  have tkC := Takes.of_laid (v := .ref W.heap.size) hk hordN tyC (by rw [Y.causeType]; rfl)
  have tkS := Takes.of_laid (v := u0.v) hk hordN tyS (by rw [Y.stackType]; exact fits_refV_array _ u0)
  have tkP := Takes.of_laid (v := sen.v) hk hordN tyP (by rw [Y.suppType]; exact fits_refV_object _ sen)
  have tkX := Takes.of_laid (v := .int 1) hk hordN tyX (by rw [htX]; rfl)
  have hskip : SkipFacts T e.platform s (fun u => u) u0 ((npeCell N.toNpeT (preparedCellV T.toThrowableT (freshCell P1.m.cls N.kN) W.heap.size u0 sen) W.cur).withEntry W.cur) := ⟨{ ci198 := ci198, i198 := i198, fBack := fB }, ⟨hk198, hg198, ha198, hsB⟩, hbk, fun _ _ => rfl⟩
  obtain ⟨vm', X3, st, -⟩ := X.throwsNpeColdBareVAt hexec hg hsize T L Z LZ N LN P1 L1 [PR, PE] hLs hlink1 ⟨hlinkR, hlinkE, trivial⟩ hfound hk hinit hordN hctor hsel0 hselF hcellS hknownS hvU hvSen
    hv0 xC xS xP tkC tkS tkP tkX Y.objLocals hskip (fun _ _ hA hW _ hroom _ hrest => L.nativeOff p htr hA hW hroom hrest) (by simpa using hRframes) hRlocals (by simp) hRcells (by rw [hn]; exact hRslots)
  have hlt : W.heap.size < ((W.pushCell (freshCell P1.m.cls N.kN)).setVm vm').heap.size := by
    show W.heap.size < (W.pushCell (freshCell P1.m.cls N.kN)).heap.size
    rw [State.heap_size_pushCell]; omega
  rw [hfsz] at X3
  obtain ⟨g₁, hfrM⟩ := X3.frames_eq
  have hU : ((((W.pushCell (freshCell P1.m.cls N.kN)).setVm vm').setCell W.heap.size (npeBareV T.toThrowableT N.toNpeT (freshCell P1.m.cls N.kN) W.heap.size u0 sen)).setTop g).pushFrame (.throwing W.heap.size) = (((W.pushCell (freshCell P1.m.cls N.kN)).setVm vm').setCell W.heap.size (npeBareV T.toThrowableT N.toNpeT (freshCell P1.m.cls N.kN) W.heap.size u0 sen)).setFrames (.throwing W.heap.size :: .java g :: below) := by
    rw [State.pushFrame, State.frames_setTop _ hfrM, State.setTop_of_frames _ hfrM, State.setFrames_setFrames]
  refine ⟨_, W.heap.size, _, fun target ht => st.trans (by rw [← hU]; exact ht), X3.forget (fun y hy => ?_), heapAt_setCell_self _ hlt, hfound, rfl⟩
  simp only [List.mem_cons, List.not_mem_nil, or_false] at hy
  have hge : s.heap.size ≤ W.heap.size := X.same.2.1
  rcases hy with rfl | rfl | rfl | rfl | rfl <;> exact hge
/-- the words of a machine's NullPointerException, but the four that speak of the heap -/
def vx_atN (n : Nat) : List Cond := (Bundle.npeArmAtoms n).filter vx_no
/-- the words of a machine's throw with a message, but the four that speak of the heap -/
def vx_atM (X : String) (names : List String) : List Cond := (Bundle.messageArmAtoms X names).filter vx_no
section
variable {p : Program} {l : Launch} {e : Env} {R : Room} {s : State} {m : MethodId} {args : Array Value} {below : List Frame} {meth : Method} {c : Code} {H : Heap} {locs : List Loc} {cells slots : Nat}
/-- a frame seen from a rebased start, seen from the first start again -/
theorem vx_back9 {T S : State} {R' : Room} {k n : Nat} (X : Stand p l e R s m args below meth c T locs cells slots) (Y : Stand p l e R' ((T.setVm s.vm).setFrames (.invoking m args :: below)) m args below meth c T [] 0 0) (Z : Stand p l e R' ((T.setVm s.vm).setFrames (.invoking m args :: below)) m args below meth c S [] k n) :
    Stand p l e R s m args below meth c S locs (cells + k) (slots + n) := by
  have hW0 : s.WarmedH ((T.setVm s.vm).setFrames (.invoking m args :: below)).vm := State.WarmedH.refl s
  refine { admits := X.admits, cas := X.cas, clock := X.clock, frames := X.frames, room := X.room, hears := X.hears, method := X.method, code := X.code, here := Z.here, tail := Z.tail, warmed := State.WarmedH.trans hW0 Z.warmed, limits := Z.limits.trans (Y.limits.symm.trans X.limits), bytes := Z.bytes.trans (Y.bytes.symm.trans X.bytes), same := ?_ }
  obtain ⟨e1, e2⟩ := Z.same
  rw [State.setFrames_setFrames] at e1
  have h2 : (T.setVm s.vm).sameButNew (S.setVm s.vm) [] k n := ⟨e1, e2⟩
  have h3 := X.same.trans h2
  rw [List.append_nil] at h3
  exact h3
/-- from the machine's note that E is thrown here with this text -/
def vx_Note (p : Program) (l : Launch) (e : Env) (R : Room) (s : State) (m : MethodId) (args : Array Value) (below : List Frame) (meth : Method) (c : Code) (H : Heap) (locs : List Loc) (cells slots : Nat) (Q : State → Prop) (g : JFrame) (E text : String) : Prop :=
  ∀ T : State, T.heap = H → Stand p l e R s m args below meth c T locs cells slots → ∃ t, Steps p.tables e below ((T.setTop g).pushFrame (.throwNew E (some text) none)) t ∧ Q t
theorem vx_vm {pc : Nat} {ls : Array Slot} {rest : List Value} {Q : State → Prop} (hexec : p.tables.exec = Jvm.exec) (hl : l.stackTraces = false) {cls text : String} {names : List String} {nb : Nat} {A : Nat → Prop}
    (hcls : Bundle.fit cls = true) (hnames : ∀ n ∈ names, Bundle.fit n = true) (hsoe : (cls == "java/lang/StackOverflowError") = false) (hoom : (cls == "java/lang/OutOfMemoryError") = false)
    (hat : ∀ w ∈ vx_atM cls names, w.before args s = true) (hgood : ∀ w ∈ vx_atM cls names, vx_ot w = true)
    (hU : vx_Zq Bundle.tN "UNASSIGNED_STACK" Bundle.steD A s s.heap) (hN : vx_Zq Bundle.tN "SUPPRESSED_SENTINEL" Bundle.listD A s s.heap) (hS : va_S A s.heap H locs) (hsize : ls.size = c.maxLocals)
    (htext : (text == notModelled) = false) (hnb : (stringBytes (stringToUtf16 text)).size ≤ nb) (hnb1 : nb ≤ 1000)
    (hRframes : names.length + 4 < R.frames) (hRlocals : (rest.map fun v => v.category).sum + 10240 ≤ R.locals) (hshort : 13 * names.length + 55 ≤ 10240) (hRcells : cells + 3 ≤ R.cells) (hRslots : slots + (nb + 10) ≤ R.slots) (hlocks : meth.locks = false)
    (k : ∀ (H1 : Heap) (q9 : Addr) (ce : Cell), H.size ≤ H1.size → (∀ q : Nat, q < H.size → H1[q]? = H[q]?) → va_S A s.heap H1 locs → H1[q9]? = some ce → ce.vm = .none → s.vm.findClass cls = some ce.cls → vx_W p l e R s m args below meth c H1 locs (cells + 3) (slots + (nb + 10)) Q (F0 m pc ls rest) q9) :
    vx_Note p l e R s m args below meth c H locs cells slots Q (F0 m pc ls rest) cls text := by
  intro T hT X
  have htr : e.platform.stackTraces = false := (show e.platform.stackTraces = l.stackTraces by rw [X.admits.platform]).trans hl
  have Y := vx_rebase X (R' := { frames := R.frames, locals := R.locals, cells := 3, slots := nb + 10 }) (Nat.le_refl _) (Nat.le_refl _) hRcells hRslots
  have hhp : ((T.setVm s.vm).setFrames (.invoking m args :: below)).heap = H := hT
  have hW0 : s.WarmedH ((T.setVm s.vm).setFrames (.invoking m args :: below)).vm := State.WarmedH.refl s
  have hat' : ∀ w ∈ vx_atM cls names, w.before args ((T.setVm s.vm).setFrames (.invoking m args :: below)) = true := fun w hw => vx_ot_at hW0 rfl (hgood w hw) (hat w hw)
  have hU' : vx_Zq Bundle.tN "UNASSIGNED_STACK" Bundle.steD A ((T.setVm s.vm).setFrames (.invoking m args :: below)) ((T.setVm s.vm).setFrames (.invoking m args :: below)).heap := by rw [hhp]; exact vx_Zq.moved hW0.alike (hU.kept hS.2.1)
  have hN' : vx_Zq Bundle.tN "SUPPRESSED_SENTINEL" Bundle.listD A ((T.setVm s.vm).setFrames (.invoking m args :: below)) ((T.setVm s.vm).setFrames (.invoking m args :: below)).heap := by rw [hhp]; exact vx_Zq.moved hW0.alike (hN.kept hS.2.1)
  obtain ⟨S, q, ce, st, Z, hce, hcl', hv⟩ := vx_vmAt Y hexec htr (cls := cls) (names := names) (text := text) hcls hnames hsoe hoom (vx_own hat' (vx_isRefq hU'.1) (vx_isRefq hN'.1) hU'.2.word hN'.2.word) (fun x hx => nomatch hx) htext
    (by rw [Launch.admits_arrayLengthLimit X.admits]; omega) (by rw [Launch.admits_maxHeapBytes X.admits]; simp only [componentBytes]; omega)
    (g := F0 m pc ls rest) rfl hsize hRframes (by show 2 * 0 + (rest.map fun v => v.category).sum + 10240 ≤ R.locals; omega) hshort (by show 0 + 3 ≤ 3; omega) (by show 0 + (_ + 4 + 6) ≤ nb + 10; omega) hlocks
  obtain ⟨f1, f2⟩ := vx_frame Z.same
  have f1' : H.size ≤ S.heap.size := by rw [← hT]; exact f1
  have f2' : ∀ q : Nat, q < H.size → S.heap[q]? = H[q]? := fun q hq => by
    rw [← hT]
    exact f2 q (by rw [← hT] at hq; exact hq) (fun z hz => nomatch hz)
  have X5 := vx_back9 X Y Z
  have X6 : Stand p l e R s m args below meth c S locs (cells + 3) (slots + (nb + 10)) := { X5 with same := X5.same.mono (by omega) (by omega) }
  obtain ⟨t, a1, b1⟩ := k S.heap q ce f1' f2' ⟨Nat.le_trans hS.1 f1', fun q h1 h2 => (f2' q (Nat.lt_of_lt_of_le h1 hS.1)).trans (hS.2.1 q h1 h2), hS.2.2⟩ hce hv hcl' S rfl X6
  exact ⟨t, st t a1, b1⟩
/-- from the machine's note that NullPointerException is thrown here -/
def vx_NoteN (p : Program) (l : Launch) (e : Env) (R : Room) (s : State) (m : MethodId) (args : Array Value) (below : List Frame) (meth : Method) (c : Code) (H : Heap) (locs : List Loc) (cells slots : Nat) (Q : State → Prop) (g : JFrame) : Prop :=
  ∀ T : State, T.heap = H → Stand p l e R s m args below meth c T locs cells slots → ∃ t, Steps p.tables e below ((T.setTop g).pushFrame (.throwNew "java/lang/NullPointerException" none none)) t ∧ Q t
theorem vx_npe {pc : Nat} {ls : Array Slot} {rest : List Value} {Q : State → Prop} (hexec : p.tables.exec = Jvm.exec) (hl : l.stackTraces = false) {nb : Nat} {A : Nat → Prop}
    (hat : ∀ w ∈ vx_atN nb, w.before args s = true) (hgood : ∀ w ∈ vx_atN nb, vx_ot w = true)
    (hU : vx_Zq Bundle.tN "UNASSIGNED_STACK" Bundle.steD A s s.heap) (hN : vx_Zq Bundle.tN "SUPPRESSED_SENTINEL" Bundle.listD A s s.heap) (hS : va_S A s.heap H locs) (hsize : ls.size = c.maxLocals)
    (hRframes : 7 < R.frames) (hRlocals : (rest.map fun v => v.category).sum + 10240 ≤ R.locals) (hRcells : cells + 1 ≤ R.cells) (hRslots : slots + nb ≤ R.slots) (hlocks : meth.locks = false)
    (k : ∀ (H1 : Heap) (q9 : Addr) (ce : Cell), H.size ≤ H1.size → (∀ q : Nat, q < H.size → H1[q]? = H[q]?) → va_S A s.heap H1 locs → H1[q9]? = some ce → ce.vm = .none → s.vm.findClass "java/lang/NullPointerException" = some ce.cls → vx_W p l e R s m args below meth c H1 locs (cells + 1) (slots + nb) Q (F0 m pc ls rest) q9) :
    vx_NoteN p l e R s m args below meth c H locs cells slots Q (F0 m pc ls rest) := by
  intro T hT X
  have htr : e.platform.stackTraces = false := (show e.platform.stackTraces = l.stackTraces by rw [X.admits.platform]).trans hl
  have Y := vx_rebase X (R' := { frames := R.frames, locals := R.locals, cells := 1, slots := nb }) (Nat.le_refl _) (Nat.le_refl _) hRcells hRslots
  have hhp : ((T.setVm s.vm).setFrames (.invoking m args :: below)).heap = H := hT
  have hW0 : s.WarmedH ((T.setVm s.vm).setFrames (.invoking m args :: below)).vm := State.WarmedH.refl s
  have hat' : ∀ w ∈ vx_atN nb, w.before args ((T.setVm s.vm).setFrames (.invoking m args :: below)) = true := fun w hw => vx_ot_at hW0 rfl (hgood w hw) (hat w hw)
  have hU' : vx_Zq Bundle.tN "UNASSIGNED_STACK" Bundle.steD A ((T.setVm s.vm).setFrames (.invoking m args :: below)) ((T.setVm s.vm).setFrames (.invoking m args :: below)).heap := by rw [hhp]; exact vx_Zq.moved hW0.alike (hU.kept hS.2.1)
  have hN' : vx_Zq Bundle.tN "SUPPRESSED_SENTINEL" Bundle.listD A ((T.setVm s.vm).setFrames (.invoking m args :: below)) ((T.setVm s.vm).setFrames (.invoking m args :: below)).heap := by rw [hhp]; exact vx_Zq.moved hW0.alike (hN.kept hS.2.1)
  obtain ⟨S, q, ce, st, Z, hce, hcl', hv⟩ := vx_npeAt Y hexec htr (n := nb) (vx_own hat' (vx_isRefq hU'.1) (vx_isRefq hN'.1) hU'.2.word hN'.2.word) (fun x hx => nomatch hx)
    (g := F0 m pc ls rest) rfl hsize hRframes (by show 2 * 0 + (rest.map fun v => v.category).sum + 10240 ≤ R.locals; omega) (by show 0 + 1 ≤ 1; omega) (by show 0 + nb ≤ nb; omega) hlocks
  obtain ⟨f1, f2⟩ := vx_frame Z.same
  have f1' : H.size ≤ S.heap.size := by rw [← hT]; exact f1
  have f2' : ∀ q : Nat, q < H.size → S.heap[q]? = H[q]? := fun q hq => by
    rw [← hT]
    exact f2 q (by rw [← hT] at hq; exact hq) (fun z hz => nomatch hz)
  have X5 := vx_back9 X Y Z
  have X6 : Stand p l e R s m args below meth c S locs (cells + 1) (slots + nb) := { X5 with same := X5.same.mono (by omega) (by omega) }
  obtain ⟨t, a1, b1⟩ := k S.heap q ce f1' f2' ⟨Nat.le_trans hS.1 f1', fun q h1 h2 => (f2' q (Nat.lt_of_lt_of_le h1 hS.1)).trans (hS.2.1 q h1 h2), hS.2.2⟩ hce hv hcl' S rfl X6
  exact ⟨t, st t a1, b1⟩
variable {Q : State → Prop} {cc : ByteArray} {pc : Nat} {ls : Array Slot} {rest : List Value}
theorem vx_idivZ (hexec : p.tables.exec = Jvm.exec) (hb : c.code = cc) {a b : Int32} (h0 : b = 0) (d : decode cc pc = .ok (.idiv, 1)) (k : vx_Note p l e R s m args below meth c H locs cells slots Q (F0 m pc ls rest) "java/lang/ArithmeticException" "/ by zero") :
    W p l e R s m args below meth c H locs cells slots Q (F0 m pc ls (.int b :: .int a :: rest)) := by
  intro T hT X
  obtain ⟨t, st, q⟩ := k T hT X
  exact ⟨t, X.idivZero hexec (g := F0 m pc ls (.int b :: .int a :: rest)) rfl (a := a) (rest := rest) (by rw [h0]) (by rw [hb]; exact d) t st, q⟩
theorem vx_iremZ (hexec : p.tables.exec = Jvm.exec) (hb : c.code = cc) {a b : Int32} (h0 : b = 0) (d : decode cc pc = .ok (.irem, 1)) (k : vx_Note p l e R s m args below meth c H locs cells slots Q (F0 m pc ls rest) "java/lang/ArithmeticException" "/ by zero") :
    W p l e R s m args below meth c H locs cells slots Q (F0 m pc ls (.int b :: .int a :: rest)) := by
  intro T hT X
  obtain ⟨t, st, q⟩ := k T hT X
  exact ⟨t, X.iremZero hexec (g := F0 m pc ls (.int b :: .int a :: rest)) rfl (a := a) (rest := rest) (by rw [h0]) (by rw [hb]; exact d) t st, q⟩
theorem vx_ldivZ (hexec : p.tables.exec = Jvm.exec) (hb : c.code = cc) {a b : Int64} (h0 : b = 0) (d : decode cc pc = .ok (.ldiv, 1)) (k : vx_Note p l e R s m args below meth c H locs cells slots Q (F0 m pc ls rest) "java/lang/ArithmeticException" "/ by zero") :
    W p l e R s m args below meth c H locs cells slots Q (F0 m pc ls (.long b :: .long a :: rest)) := by
  intro T hT X
  obtain ⟨t, st, q⟩ := k T hT X
  exact ⟨t, X.ldivZero hexec (g := F0 m pc ls (.long b :: .long a :: rest)) rfl (a := a) (rest := rest) (by rw [h0]) (by rw [hb]; exact d) t st, q⟩
theorem vx_lremZ (hexec : p.tables.exec = Jvm.exec) (hb : c.code = cc) {a b : Int64} (h0 : b = 0) (d : decode cc pc = .ok (.lrem, 1)) (k : vx_Note p l e R s m args below meth c H locs cells slots Q (F0 m pc ls rest) "java/lang/ArithmeticException" "/ by zero") :
    W p l e R s m args below meth c H locs cells slots Q (F0 m pc ls (.long b :: .long a :: rest)) := by
  intro T hT X
  obtain ⟨t, st, q⟩ := k T hT X
  exact ⟨t, X.lremZero hexec (g := F0 m pc ls (.long b :: .long a :: rest)) rfl (a := a) (rest := rest) (by rw [h0]) (by rw [hb]; exact d) t st, q⟩
theorem vx_ialdZ {D : va_G} {cl : List vw_C} {ws : va_W} {tys : List (ClassId × FieldType)} {a : Nat} (hexec : p.tables.exec = Jvm.exec) (hb : c.code = cc) (hK : va_K D cl tys s) (hP : va_P D cl ws H) (q0 t0 : Nat) {cA : ClassId} {n : Nat} {f : Nat → Int32} (ha : ws[q0]? = some (a, .inl (cA, n, .inl f))) (ht : tys[t0]? = some (cA, .int)) {i : Int32} (hout : ¬ vp_in i n) (hdg : decode cc pc = .ok (.iaload, 1))
    (k : ∀ tx : String, tx = (toString "Index " ++ toString i ++ toString " out of bounds for length " ++ toString n : String) → vx_Note p l e R s m args below meth c H locs cells slots Q (F0 m pc ls rest) "java/lang/ArrayIndexOutOfBoundsException" tx) : W p l e R s m args below meth c H locs cells slots Q (F0 m pc ls (.int i :: .ref a :: rest)) := by
  intro T hT X
  obtain ⟨t, st, q⟩ := k _ rfl T hT X
  refine ⟨t, ?_, q⟩
  have h1 := X.ialoadOut hexec (by rw [hT]; exact hP q0 _ ha) ((hK.2 t0 _ ht).1 n (fun j => .int (f j))) (j := i) (by show (i < 0 ∨ (arrV _ _ _).slots.size ≤ _); rw [arrV_size]; exact Classical.byContradiction hout) (g := F0 m pc ls (.int i :: .ref a :: rest)) rfl (rest := rest) rfl (by rw [hb]; exact hdg) t
  simp only [arrV_size] at h1
  exact h1 st
theorem vx_iastZ {D : va_G} {cl : List vw_C} {ws : va_W} {tys : List (ClassId × FieldType)} {a : Nat} (hexec : p.tables.exec = Jvm.exec) (hb : c.code = cc) (hK : va_K D cl tys s) (hP : va_P D cl ws H) (q0 t0 : Nat) {cA : ClassId} {n : Nat} {f : Nat → Int32} (ha : ws[q0]? = some (a, .inl (cA, n, .inl f))) (ht : tys[t0]? = some (cA, .int)) {i : Int32} {x : Int32} (hout : ¬ vp_in i n) (hdg : decode cc pc = .ok (.iastore, 1))
    (k : ∀ tx : String, tx = (toString "Index " ++ toString i ++ toString " out of bounds for length " ++ toString n : String) → vx_Note p l e R s m args below meth c H locs cells slots Q (F0 m pc ls rest) "java/lang/ArrayIndexOutOfBoundsException" tx) : W p l e R s m args below meth c H locs cells slots Q (F0 m pc ls (.int x :: .int i :: .ref a :: rest)) := by
  intro T hT X
  obtain ⟨t, st, q⟩ := k _ rfl T hT X
  refine ⟨t, ?_, q⟩
  have h1 := X.iastoreOut hexec (by rw [hT]; exact hP q0 _ ha) ((hK.2 t0 _ ht).1 n (fun j => .int (f j))) (j := i) (by show (i < 0 ∨ (arrV _ _ _).slots.size ≤ _); rw [arrV_size]; exact Classical.byContradiction hout) (g := F0 m pc ls (.int x :: .int i :: .ref a :: rest)) rfl (rest := rest) rfl (by rw [hb]; exact hdg) t
  simp only [arrV_size] at h1
  exact h1 st
theorem vx_baldZ {D : va_G} {cl : List vw_C} {ws : va_W} {tys : List (ClassId × FieldType)} {a : Nat} (hexec : p.tables.exec = Jvm.exec) (hb : c.code = cc) (hK : va_K D cl tys s) (hP : va_P D cl ws H) (q0 t0 : Nat) {cA : ClassId} {n : Nat} {f : Nat → Int32} (ha : ws[q0]? = some (a, .inl (cA, n, .inl f))) (ht : tys[t0]? = some (cA, .byte)) {i : Int32} (hout : ¬ vp_in i n) (hdg : decode cc pc = .ok (.baload, 1))
    (k : ∀ tx : String, tx = (toString "Index " ++ toString i ++ toString " out of bounds for length " ++ toString n : String) → vx_Note p l e R s m args below meth c H locs cells slots Q (F0 m pc ls rest) "java/lang/ArrayIndexOutOfBoundsException" tx) : W p l e R s m args below meth c H locs cells slots Q (F0 m pc ls (.int i :: .ref a :: rest)) := by
  intro T hT X
  obtain ⟨t, st, q⟩ := k _ rfl T hT X
  refine ⟨t, ?_, q⟩
  have h1 := X.baloadOut hexec (by rw [hT]; exact hP q0 _ ha) ((hK.2 t0 _ ht).1 n (fun j => .int (f j))) (j := i) (by show (i < 0 ∨ (arrV _ _ _).slots.size ≤ _); rw [arrV_size]; exact Classical.byContradiction hout) (g := F0 m pc ls (.int i :: .ref a :: rest)) rfl (rest := rest) rfl (by rw [hb]; exact hdg) t
  simp only [arrV_size] at h1
  exact h1 st
theorem vx_bastZ {D : va_G} {cl : List vw_C} {ws : va_W} {tys : List (ClassId × FieldType)} {a : Nat} (hexec : p.tables.exec = Jvm.exec) (hb : c.code = cc) (hK : va_K D cl tys s) (hP : va_P D cl ws H) (q0 t0 : Nat) {cA : ClassId} {n : Nat} {f : Nat → Int32} (ha : ws[q0]? = some (a, .inl (cA, n, .inl f))) (ht : tys[t0]? = some (cA, .byte)) {i : Int32} {x : Int32} (hout : ¬ vp_in i n) (hdg : decode cc pc = .ok (.bastore, 1))
    (k : ∀ tx : String, tx = (toString "Index " ++ toString i ++ toString " out of bounds for length " ++ toString n : String) → vx_Note p l e R s m args below meth c H locs cells slots Q (F0 m pc ls rest) "java/lang/ArrayIndexOutOfBoundsException" tx) : W p l e R s m args below meth c H locs cells slots Q (F0 m pc ls (.int x :: .int i :: .ref a :: rest)) := by
  intro T hT X
  obtain ⟨t, st, q⟩ := k _ rfl T hT X
  refine ⟨t, ?_, q⟩
  have h1 := X.bastoreOut hexec (by rw [hT]; exact hP q0 _ ha) ((hK.2 t0 _ ht).1 n (fun j => .int (f j))) (j := i) (by show (i < 0 ∨ (arrV _ _ _).slots.size ≤ _); rw [arrV_size]; exact Classical.byContradiction hout) (g := F0 m pc ls (.int x :: .int i :: .ref a :: rest)) rfl (rest := rest) rfl (by rw [hb]; exact hdg) t
  simp only [arrV_size] at h1
  exact h1 st
theorem vx_zaldZ {D : va_G} {cl : List vw_C} {ws : va_W} {tys : List (ClassId × FieldType)} {a : Nat} (hexec : p.tables.exec = Jvm.exec) (hb : c.code = cc) (hK : va_K D cl tys s) (hP : va_P D cl ws H) (q0 t0 : Nat) {cA : ClassId} {n : Nat} {f : Nat → Int32} (ha : ws[q0]? = some (a, .inl (cA, n, .inl f))) (ht : tys[t0]? = some (cA, .boolean)) {i : Int32} (hout : ¬ vp_in i n) (hdg : decode cc pc = .ok (.baload, 1))
    (k : ∀ tx : String, tx = (toString "Index " ++ toString i ++ toString " out of bounds for length " ++ toString n : String) → vx_Note p l e R s m args below meth c H locs cells slots Q (F0 m pc ls rest) "java/lang/ArrayIndexOutOfBoundsException" tx) : W p l e R s m args below meth c H locs cells slots Q (F0 m pc ls (.int i :: .ref a :: rest)) := by
  intro T hT X
  obtain ⟨t, st, q⟩ := k _ rfl T hT X
  refine ⟨t, ?_, q⟩
  have h1 := X.baloadOut hexec (by rw [hT]; exact hP q0 _ ha) ((hK.2 t0 _ ht).1 n (fun j => .int (f j))) (j := i) (by show (i < 0 ∨ (arrV _ _ _).slots.size ≤ _); rw [arrV_size]; exact Classical.byContradiction hout) (g := F0 m pc ls (.int i :: .ref a :: rest)) rfl (rest := rest) rfl (by rw [hb]; exact hdg) t
  simp only [arrV_size] at h1
  exact h1 st
theorem vx_zastZ {D : va_G} {cl : List vw_C} {ws : va_W} {tys : List (ClassId × FieldType)} {a : Nat} (hexec : p.tables.exec = Jvm.exec) (hb : c.code = cc) (hK : va_K D cl tys s) (hP : va_P D cl ws H) (q0 t0 : Nat) {cA : ClassId} {n : Nat} {f : Nat → Int32} (ha : ws[q0]? = some (a, .inl (cA, n, .inl f))) (ht : tys[t0]? = some (cA, .boolean)) {i : Int32} {x : Int32} (hout : ¬ vp_in i n) (hdg : decode cc pc = .ok (.bastore, 1))
    (k : ∀ tx : String, tx = (toString "Index " ++ toString i ++ toString " out of bounds for length " ++ toString n : String) → vx_Note p l e R s m args below meth c H locs cells slots Q (F0 m pc ls rest) "java/lang/ArrayIndexOutOfBoundsException" tx) : W p l e R s m args below meth c H locs cells slots Q (F0 m pc ls (.int x :: .int i :: .ref a :: rest)) := by
  intro T hT X
  obtain ⟨t, st, q⟩ := k _ rfl T hT X
  refine ⟨t, ?_, q⟩
  have h1 := X.bastoreOut hexec (by rw [hT]; exact hP q0 _ ha) ((hK.2 t0 _ ht).1 n (fun j => .int (f j))) (j := i) (by show (i < 0 ∨ (arrV _ _ _).slots.size ≤ _); rw [arrV_size]; exact Classical.byContradiction hout) (g := F0 m pc ls (.int x :: .int i :: .ref a :: rest)) rfl (rest := rest) rfl (by rw [hb]; exact hdg) t
  simp only [arrV_size] at h1
  exact h1 st
theorem vx_caldZ {D : va_G} {cl : List vw_C} {ws : va_W} {tys : List (ClassId × FieldType)} {a : Nat} (hexec : p.tables.exec = Jvm.exec) (hb : c.code = cc) (hK : va_K D cl tys s) (hP : va_P D cl ws H) (q0 t0 : Nat) {cA : ClassId} {n : Nat} {f : Nat → Int32} (ha : ws[q0]? = some (a, .inl (cA, n, .inl f))) (ht : tys[t0]? = some (cA, .char)) {i : Int32} (hout : ¬ vp_in i n) (hdg : decode cc pc = .ok (.caload, 1))
    (k : ∀ tx : String, tx = (toString "Index " ++ toString i ++ toString " out of bounds for length " ++ toString n : String) → vx_Note p l e R s m args below meth c H locs cells slots Q (F0 m pc ls rest) "java/lang/ArrayIndexOutOfBoundsException" tx) : W p l e R s m args below meth c H locs cells slots Q (F0 m pc ls (.int i :: .ref a :: rest)) := by
  intro T hT X
  obtain ⟨t, st, q⟩ := k _ rfl T hT X
  refine ⟨t, ?_, q⟩
  have h1 := X.caloadOut hexec (by rw [hT]; exact hP q0 _ ha) ((hK.2 t0 _ ht).1 n (fun j => .int (f j))) (j := i) (by show (i < 0 ∨ (arrV _ _ _).slots.size ≤ _); rw [arrV_size]; exact Classical.byContradiction hout) (g := F0 m pc ls (.int i :: .ref a :: rest)) rfl (rest := rest) rfl (by rw [hb]; exact hdg) t
  simp only [arrV_size] at h1
  exact h1 st
theorem vx_castZ {D : va_G} {cl : List vw_C} {ws : va_W} {tys : List (ClassId × FieldType)} {a : Nat} (hexec : p.tables.exec = Jvm.exec) (hb : c.code = cc) (hK : va_K D cl tys s) (hP : va_P D cl ws H) (q0 t0 : Nat) {cA : ClassId} {n : Nat} {f : Nat → Int32} (ha : ws[q0]? = some (a, .inl (cA, n, .inl f))) (ht : tys[t0]? = some (cA, .char)) {i : Int32} {x : Int32} (hout : ¬ vp_in i n) (hdg : decode cc pc = .ok (.castore, 1))
    (k : ∀ tx : String, tx = (toString "Index " ++ toString i ++ toString " out of bounds for length " ++ toString n : String) → vx_Note p l e R s m args below meth c H locs cells slots Q (F0 m pc ls rest) "java/lang/ArrayIndexOutOfBoundsException" tx) : W p l e R s m args below meth c H locs cells slots Q (F0 m pc ls (.int x :: .int i :: .ref a :: rest)) := by
  intro T hT X
  obtain ⟨t, st, q⟩ := k _ rfl T hT X
  refine ⟨t, ?_, q⟩
  have h1 := X.castoreOut hexec (by rw [hT]; exact hP q0 _ ha) ((hK.2 t0 _ ht).1 n (fun j => .int (f j))) (j := i) (by show (i < 0 ∨ (arrV _ _ _).slots.size ≤ _); rw [arrV_size]; exact Classical.byContradiction hout) (g := F0 m pc ls (.int x :: .int i :: .ref a :: rest)) rfl (rest := rest) rfl (by rw [hb]; exact hdg) t
  simp only [arrV_size] at h1
  exact h1 st
theorem vx_saldZ {D : va_G} {cl : List vw_C} {ws : va_W} {tys : List (ClassId × FieldType)} {a : Nat} (hexec : p.tables.exec = Jvm.exec) (hb : c.code = cc) (hK : va_K D cl tys s) (hP : va_P D cl ws H) (q0 t0 : Nat) {cA : ClassId} {n : Nat} {f : Nat → Int32} (ha : ws[q0]? = some (a, .inl (cA, n, .inl f))) (ht : tys[t0]? = some (cA, .short)) {i : Int32} (hout : ¬ vp_in i n) (hdg : decode cc pc = .ok (.saload, 1))
    (k : ∀ tx : String, tx = (toString "Index " ++ toString i ++ toString " out of bounds for length " ++ toString n : String) → vx_Note p l e R s m args below meth c H locs cells slots Q (F0 m pc ls rest) "java/lang/ArrayIndexOutOfBoundsException" tx) : W p l e R s m args below meth c H locs cells slots Q (F0 m pc ls (.int i :: .ref a :: rest)) := by
  intro T hT X
  obtain ⟨t, st, q⟩ := k _ rfl T hT X
  refine ⟨t, ?_, q⟩
  have h1 := X.saloadOut hexec (by rw [hT]; exact hP q0 _ ha) ((hK.2 t0 _ ht).1 n (fun j => .int (f j))) (j := i) (by show (i < 0 ∨ (arrV _ _ _).slots.size ≤ _); rw [arrV_size]; exact Classical.byContradiction hout) (g := F0 m pc ls (.int i :: .ref a :: rest)) rfl (rest := rest) rfl (by rw [hb]; exact hdg) t
  simp only [arrV_size] at h1
  exact h1 st
theorem vx_sastZ {D : va_G} {cl : List vw_C} {ws : va_W} {tys : List (ClassId × FieldType)} {a : Nat} (hexec : p.tables.exec = Jvm.exec) (hb : c.code = cc) (hK : va_K D cl tys s) (hP : va_P D cl ws H) (q0 t0 : Nat) {cA : ClassId} {n : Nat} {f : Nat → Int32} (ha : ws[q0]? = some (a, .inl (cA, n, .inl f))) (ht : tys[t0]? = some (cA, .short)) {i : Int32} {x : Int32} (hout : ¬ vp_in i n) (hdg : decode cc pc = .ok (.sastore, 1))
    (k : ∀ tx : String, tx = (toString "Index " ++ toString i ++ toString " out of bounds for length " ++ toString n : String) → vx_Note p l e R s m args below meth c H locs cells slots Q (F0 m pc ls rest) "java/lang/ArrayIndexOutOfBoundsException" tx) : W p l e R s m args below meth c H locs cells slots Q (F0 m pc ls (.int x :: .int i :: .ref a :: rest)) := by
  intro T hT X
  obtain ⟨t, st, q⟩ := k _ rfl T hT X
  refine ⟨t, ?_, q⟩
  have h1 := X.sastoreOut hexec (by rw [hT]; exact hP q0 _ ha) ((hK.2 t0 _ ht).1 n (fun j => .int (f j))) (j := i) (by show (i < 0 ∨ (arrV _ _ _).slots.size ≤ _); rw [arrV_size]; exact Classical.byContradiction hout) (g := F0 m pc ls (.int x :: .int i :: .ref a :: rest)) rfl (rest := rest) rfl (by rw [hb]; exact hdg) t
  simp only [arrV_size] at h1
  exact h1 st
theorem vx_laldZ {D : va_G} {cl : List vw_C} {ws : va_W} {tys : List (ClassId × FieldType)} {a : Nat} (hexec : p.tables.exec = Jvm.exec) (hb : c.code = cc) (hK : va_K D cl tys s) (hP : va_P D cl ws H) (q0 t0 : Nat) {cA : ClassId} {n : Nat} {f : Nat → Int64} (ha : ws[q0]? = some (a, .inl (cA, n, .inr (.inl f)))) (ht : tys[t0]? = some (cA, .long)) {i : Int32} (hout : ¬ vp_in i n) (hdg : decode cc pc = .ok (.laload, 1))
    (k : ∀ tx : String, tx = (toString "Index " ++ toString i ++ toString " out of bounds for length " ++ toString n : String) → vx_Note p l e R s m args below meth c H locs cells slots Q (F0 m pc ls rest) "java/lang/ArrayIndexOutOfBoundsException" tx) : W p l e R s m args below meth c H locs cells slots Q (F0 m pc ls (.int i :: .ref a :: rest)) := by
  intro T hT X
  obtain ⟨t, st, q⟩ := k _ rfl T hT X
  refine ⟨t, ?_, q⟩
  have h1 := X.laloadOut hexec (by rw [hT]; exact hP q0 _ ha) ((hK.2 t0 _ ht).1 n (fun j => .long (f j))) (j := i) (by show (i < 0 ∨ (arrV _ _ _).slots.size ≤ _); rw [arrV_size]; exact Classical.byContradiction hout) (g := F0 m pc ls (.int i :: .ref a :: rest)) rfl (rest := rest) rfl (by rw [hb]; exact hdg) t
  simp only [arrV_size] at h1
  exact h1 st
theorem vx_lastZ {D : va_G} {cl : List vw_C} {ws : va_W} {tys : List (ClassId × FieldType)} {a : Nat} (hexec : p.tables.exec = Jvm.exec) (hb : c.code = cc) (hK : va_K D cl tys s) (hP : va_P D cl ws H) (q0 t0 : Nat) {cA : ClassId} {n : Nat} {f : Nat → Int64} (ha : ws[q0]? = some (a, .inl (cA, n, .inr (.inl f)))) (ht : tys[t0]? = some (cA, .long)) {i : Int32} {x : Int64} (hout : ¬ vp_in i n) (hdg : decode cc pc = .ok (.lastore, 1))
    (k : ∀ tx : String, tx = (toString "Index " ++ toString i ++ toString " out of bounds for length " ++ toString n : String) → vx_Note p l e R s m args below meth c H locs cells slots Q (F0 m pc ls rest) "java/lang/ArrayIndexOutOfBoundsException" tx) : W p l e R s m args below meth c H locs cells slots Q (F0 m pc ls (.long x :: .int i :: .ref a :: rest)) := by
  intro T hT X
  obtain ⟨t, st, q⟩ := k _ rfl T hT X
  refine ⟨t, ?_, q⟩
  have h1 := X.lastoreOut hexec (by rw [hT]; exact hP q0 _ ha) ((hK.2 t0 _ ht).1 n (fun j => .long (f j))) (j := i) (by show (i < 0 ∨ (arrV _ _ _).slots.size ≤ _); rw [arrV_size]; exact Classical.byContradiction hout) (g := F0 m pc ls (.long x :: .int i :: .ref a :: rest)) rfl (rest := rest) rfl (by rw [hb]; exact hdg) t
  simp only [arrV_size] at h1
  exact h1 st
theorem vx_faldZ {D : va_G} {cl : List vw_C} {ws : va_W} {tys : List (ClassId × FieldType)} {a : Nat} (hexec : p.tables.exec = Jvm.exec) (hb : c.code = cc) (hK : va_K D cl tys s) (hP : va_P D cl ws H) (q0 t0 : Nat) {cA : ClassId} {n : Nat} {f : Nat → UInt32} (ha : ws[q0]? = some (a, .inl (cA, n, .inr (.inr (.inl f))))) (ht : tys[t0]? = some (cA, .float)) {i : Int32} (hout : ¬ vp_in i n) (hdg : decode cc pc = .ok (.faload, 1))
    (k : ∀ tx : String, tx = (toString "Index " ++ toString i ++ toString " out of bounds for length " ++ toString n : String) → vx_Note p l e R s m args below meth c H locs cells slots Q (F0 m pc ls rest) "java/lang/ArrayIndexOutOfBoundsException" tx) : W p l e R s m args below meth c H locs cells slots Q (F0 m pc ls (.int i :: .ref a :: rest)) := by
  intro T hT X
  obtain ⟨t, st, q⟩ := k _ rfl T hT X
  refine ⟨t, ?_, q⟩
  have h1 := X.faloadOut hexec (by rw [hT]; exact hP q0 _ ha) ((hK.2 t0 _ ht).1 n (fun j => .float (f j))) (j := i) (by show (i < 0 ∨ (arrV _ _ _).slots.size ≤ _); rw [arrV_size]; exact Classical.byContradiction hout) (g := F0 m pc ls (.int i :: .ref a :: rest)) rfl (rest := rest) rfl (by rw [hb]; exact hdg) t
  simp only [arrV_size] at h1
  exact h1 st
theorem vx_fastZ {D : va_G} {cl : List vw_C} {ws : va_W} {tys : List (ClassId × FieldType)} {a : Nat} (hexec : p.tables.exec = Jvm.exec) (hb : c.code = cc) (hK : va_K D cl tys s) (hP : va_P D cl ws H) (q0 t0 : Nat) {cA : ClassId} {n : Nat} {f : Nat → UInt32} (ha : ws[q0]? = some (a, .inl (cA, n, .inr (.inr (.inl f))))) (ht : tys[t0]? = some (cA, .float)) {i : Int32} {x : UInt32} (hout : ¬ vp_in i n) (hdg : decode cc pc = .ok (.fastore, 1))
    (k : ∀ tx : String, tx = (toString "Index " ++ toString i ++ toString " out of bounds for length " ++ toString n : String) → vx_Note p l e R s m args below meth c H locs cells slots Q (F0 m pc ls rest) "java/lang/ArrayIndexOutOfBoundsException" tx) : W p l e R s m args below meth c H locs cells slots Q (F0 m pc ls (.float x :: .int i :: .ref a :: rest)) := by
  intro T hT X
  obtain ⟨t, st, q⟩ := k _ rfl T hT X
  refine ⟨t, ?_, q⟩
  have h1 := X.fastoreOut hexec (by rw [hT]; exact hP q0 _ ha) ((hK.2 t0 _ ht).1 n (fun j => .float (f j))) (j := i) (by show (i < 0 ∨ (arrV _ _ _).slots.size ≤ _); rw [arrV_size]; exact Classical.byContradiction hout) (g := F0 m pc ls (.float x :: .int i :: .ref a :: rest)) rfl (rest := rest) rfl (by rw [hb]; exact hdg) t
  simp only [arrV_size] at h1
  exact h1 st
theorem vx_daldZ {D : va_G} {cl : List vw_C} {ws : va_W} {tys : List (ClassId × FieldType)} {a : Nat} (hexec : p.tables.exec = Jvm.exec) (hb : c.code = cc) (hK : va_K D cl tys s) (hP : va_P D cl ws H) (q0 t0 : Nat) {cA : ClassId} {n : Nat} {f : Nat → UInt64} (ha : ws[q0]? = some (a, .inl (cA, n, .inr (.inr (.inr (.inl f)))))) (ht : tys[t0]? = some (cA, .double)) {i : Int32} (hout : ¬ vp_in i n) (hdg : decode cc pc = .ok (.daload, 1))
    (k : ∀ tx : String, tx = (toString "Index " ++ toString i ++ toString " out of bounds for length " ++ toString n : String) → vx_Note p l e R s m args below meth c H locs cells slots Q (F0 m pc ls rest) "java/lang/ArrayIndexOutOfBoundsException" tx) : W p l e R s m args below meth c H locs cells slots Q (F0 m pc ls (.int i :: .ref a :: rest)) := by
  intro T hT X
  obtain ⟨t, st, q⟩ := k _ rfl T hT X
  refine ⟨t, ?_, q⟩
  have h1 := X.daloadOut hexec (by rw [hT]; exact hP q0 _ ha) ((hK.2 t0 _ ht).1 n (fun j => .double (f j))) (j := i) (by show (i < 0 ∨ (arrV _ _ _).slots.size ≤ _); rw [arrV_size]; exact Classical.byContradiction hout) (g := F0 m pc ls (.int i :: .ref a :: rest)) rfl (rest := rest) rfl (by rw [hb]; exact hdg) t
  simp only [arrV_size] at h1
  exact h1 st
theorem vx_dastZ {D : va_G} {cl : List vw_C} {ws : va_W} {tys : List (ClassId × FieldType)} {a : Nat} (hexec : p.tables.exec = Jvm.exec) (hb : c.code = cc) (hK : va_K D cl tys s) (hP : va_P D cl ws H) (q0 t0 : Nat) {cA : ClassId} {n : Nat} {f : Nat → UInt64} (ha : ws[q0]? = some (a, .inl (cA, n, .inr (.inr (.inr (.inl f)))))) (ht : tys[t0]? = some (cA, .double)) {i : Int32} {x : UInt64} (hout : ¬ vp_in i n) (hdg : decode cc pc = .ok (.dastore, 1))
    (k : ∀ tx : String, tx = (toString "Index " ++ toString i ++ toString " out of bounds for length " ++ toString n : String) → vx_Note p l e R s m args below meth c H locs cells slots Q (F0 m pc ls rest) "java/lang/ArrayIndexOutOfBoundsException" tx) : W p l e R s m args below meth c H locs cells slots Q (F0 m pc ls (.double x :: .int i :: .ref a :: rest)) := by
  intro T hT X
  obtain ⟨t, st, q⟩ := k _ rfl T hT X
  refine ⟨t, ?_, q⟩
  have h1 := X.dastoreOut hexec (by rw [hT]; exact hP q0 _ ha) ((hK.2 t0 _ ht).1 n (fun j => .double (f j))) (j := i) (by show (i < 0 ∨ (arrV _ _ _).slots.size ≤ _); rw [arrV_size]; exact Classical.byContradiction hout) (g := F0 m pc ls (.double x :: .int i :: .ref a :: rest)) rfl (rest := rest) rfl (by rw [hb]; exact hdg) t
  simp only [arrV_size] at h1
  exact h1 st
theorem vx_arraylengthN (hexec : p.tables.exec = Jvm.exec) (hb : c.code = cc) (hdg : decode cc pc = .ok (.arraylength, 1)) (k : vx_NoteN p l e R s m args below meth c H locs cells slots Q (F0 m pc ls rest)) : W p l e R s m args below meth c H locs cells slots Q (F0 m pc ls (.null :: rest)) := by
  intro T hT X
  obtain ⟨t, st, q⟩ := k T hT X
  exact ⟨t, X.arraylengthNull hexec (g := F0 m pc ls (.null :: rest)) rfl (rest := rest) rfl (by rw [hb]; exact hdg) t st, q⟩
theorem vx_ialoadN (hexec : p.tables.exec = Jvm.exec) (hb : c.code = cc) {i : Int32} (hdg : decode cc pc = .ok (.iaload, 1)) (k : vx_NoteN p l e R s m args below meth c H locs cells slots Q (F0 m pc ls rest)) : W p l e R s m args below meth c H locs cells slots Q (F0 m pc ls (.int i :: .null :: rest)) := by
  intro T hT X
  obtain ⟨t, st, q⟩ := k T hT X
  exact ⟨t, X.ialoadNull hexec (g := F0 m pc ls (.int i :: .null :: rest)) rfl (rest := rest) rfl (by rw [hb]; exact hdg) t st, q⟩
theorem vx_laloadN (hexec : p.tables.exec = Jvm.exec) (hb : c.code = cc) {i : Int32} (hdg : decode cc pc = .ok (.laload, 1)) (k : vx_NoteN p l e R s m args below meth c H locs cells slots Q (F0 m pc ls rest)) : W p l e R s m args below meth c H locs cells slots Q (F0 m pc ls (.int i :: .null :: rest)) := by
  intro T hT X
  obtain ⟨t, st, q⟩ := k T hT X
  exact ⟨t, X.laloadNull hexec (g := F0 m pc ls (.int i :: .null :: rest)) rfl (rest := rest) rfl (by rw [hb]; exact hdg) t st, q⟩
theorem vx_faloadN (hexec : p.tables.exec = Jvm.exec) (hb : c.code = cc) {i : Int32} (hdg : decode cc pc = .ok (.faload, 1)) (k : vx_NoteN p l e R s m args below meth c H locs cells slots Q (F0 m pc ls rest)) : W p l e R s m args below meth c H locs cells slots Q (F0 m pc ls (.int i :: .null :: rest)) := by
  intro T hT X
  obtain ⟨t, st, q⟩ := k T hT X
  exact ⟨t, X.faloadNull hexec (g := F0 m pc ls (.int i :: .null :: rest)) rfl (rest := rest) rfl (by rw [hb]; exact hdg) t st, q⟩
theorem vx_daloadN (hexec : p.tables.exec = Jvm.exec) (hb : c.code = cc) {i : Int32} (hdg : decode cc pc = .ok (.daload, 1)) (k : vx_NoteN p l e R s m args below meth c H locs cells slots Q (F0 m pc ls rest)) : W p l e R s m args below meth c H locs cells slots Q (F0 m pc ls (.int i :: .null :: rest)) := by
  intro T hT X
  obtain ⟨t, st, q⟩ := k T hT X
  exact ⟨t, X.daloadNull hexec (g := F0 m pc ls (.int i :: .null :: rest)) rfl (rest := rest) rfl (by rw [hb]; exact hdg) t st, q⟩
theorem vx_aaloadN (hexec : p.tables.exec = Jvm.exec) (hb : c.code = cc) {i : Int32} (hdg : decode cc pc = .ok (.aaload, 1)) (k : vx_NoteN p l e R s m args below meth c H locs cells slots Q (F0 m pc ls rest)) : W p l e R s m args below meth c H locs cells slots Q (F0 m pc ls (.int i :: .null :: rest)) := by
  intro T hT X
  obtain ⟨t, st, q⟩ := k T hT X
  exact ⟨t, X.aaloadNull hexec (g := F0 m pc ls (.int i :: .null :: rest)) rfl (rest := rest) rfl (by rw [hb]; exact hdg) t st, q⟩
theorem vx_baloadN (hexec : p.tables.exec = Jvm.exec) (hb : c.code = cc) {i : Int32} (hdg : decode cc pc = .ok (.baload, 1)) (k : vx_NoteN p l e R s m args below meth c H locs cells slots Q (F0 m pc ls rest)) : W p l e R s m args below meth c H locs cells slots Q (F0 m pc ls (.int i :: .null :: rest)) := by
  intro T hT X
  obtain ⟨t, st, q⟩ := k T hT X
  exact ⟨t, X.baloadNull hexec (g := F0 m pc ls (.int i :: .null :: rest)) rfl (rest := rest) rfl (by rw [hb]; exact hdg) t st, q⟩
theorem vx_caloadN (hexec : p.tables.exec = Jvm.exec) (hb : c.code = cc) {i : Int32} (hdg : decode cc pc = .ok (.caload, 1)) (k : vx_NoteN p l e R s m args below meth c H locs cells slots Q (F0 m pc ls rest)) : W p l e R s m args below meth c H locs cells slots Q (F0 m pc ls (.int i :: .null :: rest)) := by
  intro T hT X
  obtain ⟨t, st, q⟩ := k T hT X
  exact ⟨t, X.caloadNull hexec (g := F0 m pc ls (.int i :: .null :: rest)) rfl (rest := rest) rfl (by rw [hb]; exact hdg) t st, q⟩
theorem vx_saloadN (hexec : p.tables.exec = Jvm.exec) (hb : c.code = cc) {i : Int32} (hdg : decode cc pc = .ok (.saload, 1)) (k : vx_NoteN p l e R s m args below meth c H locs cells slots Q (F0 m pc ls rest)) : W p l e R s m args below meth c H locs cells slots Q (F0 m pc ls (.int i :: .null :: rest)) := by
  intro T hT X
  obtain ⟨t, st, q⟩ := k T hT X
  exact ⟨t, X.saloadNull hexec (g := F0 m pc ls (.int i :: .null :: rest)) rfl (rest := rest) rfl (by rw [hb]; exact hdg) t st, q⟩
theorem vx_iastoreN (hexec : p.tables.exec = Jvm.exec) (hb : c.code = cc) {x : Int32} {i : Int32} (hdg : decode cc pc = .ok (.iastore, 1)) (k : vx_NoteN p l e R s m args below meth c H locs cells slots Q (F0 m pc ls rest)) : W p l e R s m args below meth c H locs cells slots Q (F0 m pc ls (.int x :: .int i :: .null :: rest)) := by
  intro T hT X
  obtain ⟨t, st, q⟩ := k T hT X
  exact ⟨t, X.iastoreNull hexec (g := F0 m pc ls (.int x :: .int i :: .null :: rest)) rfl (rest := rest) rfl (by rw [hb]; exact hdg) t st, q⟩
theorem vx_lastoreN (hexec : p.tables.exec = Jvm.exec) (hb : c.code = cc) {x : Int64} {i : Int32} (hdg : decode cc pc = .ok (.lastore, 1)) (k : vx_NoteN p l e R s m args below meth c H locs cells slots Q (F0 m pc ls rest)) : W p l e R s m args below meth c H locs cells slots Q (F0 m pc ls (.long x :: .int i :: .null :: rest)) := by
  intro T hT X
  obtain ⟨t, st, q⟩ := k T hT X
  exact ⟨t, X.lastoreNull hexec (g := F0 m pc ls (.long x :: .int i :: .null :: rest)) rfl (rest := rest) rfl (by rw [hb]; exact hdg) t st, q⟩
theorem vx_fastoreN (hexec : p.tables.exec = Jvm.exec) (hb : c.code = cc) {x : UInt32} {i : Int32} (hdg : decode cc pc = .ok (.fastore, 1)) (k : vx_NoteN p l e R s m args below meth c H locs cells slots Q (F0 m pc ls rest)) : W p l e R s m args below meth c H locs cells slots Q (F0 m pc ls (.float x :: .int i :: .null :: rest)) := by
  intro T hT X
  obtain ⟨t, st, q⟩ := k T hT X
  exact ⟨t, X.fastoreNull hexec (g := F0 m pc ls (.float x :: .int i :: .null :: rest)) rfl (rest := rest) rfl (by rw [hb]; exact hdg) t st, q⟩
theorem vx_dastoreN (hexec : p.tables.exec = Jvm.exec) (hb : c.code = cc) {x : UInt64} {i : Int32} (hdg : decode cc pc = .ok (.dastore, 1)) (k : vx_NoteN p l e R s m args below meth c H locs cells slots Q (F0 m pc ls rest)) : W p l e R s m args below meth c H locs cells slots Q (F0 m pc ls (.double x :: .int i :: .null :: rest)) := by
  intro T hT X
  obtain ⟨t, st, q⟩ := k T hT X
  exact ⟨t, X.dastoreNull hexec (g := F0 m pc ls (.double x :: .int i :: .null :: rest)) rfl (rest := rest) rfl (by rw [hb]; exact hdg) t st, q⟩
theorem vx_bastoreN (hexec : p.tables.exec = Jvm.exec) (hb : c.code = cc) {x : Int32} {i : Int32} (hdg : decode cc pc = .ok (.bastore, 1)) (k : vx_NoteN p l e R s m args below meth c H locs cells slots Q (F0 m pc ls rest)) : W p l e R s m args below meth c H locs cells slots Q (F0 m pc ls (.int x :: .int i :: .null :: rest)) := by
  intro T hT X
  obtain ⟨t, st, q⟩ := k T hT X
  exact ⟨t, X.bastoreNull hexec (g := F0 m pc ls (.int x :: .int i :: .null :: rest)) rfl (rest := rest) rfl (by rw [hb]; exact hdg) t st, q⟩
theorem vx_castoreN (hexec : p.tables.exec = Jvm.exec) (hb : c.code = cc) {x : Int32} {i : Int32} (hdg : decode cc pc = .ok (.castore, 1)) (k : vx_NoteN p l e R s m args below meth c H locs cells slots Q (F0 m pc ls rest)) : W p l e R s m args below meth c H locs cells slots Q (F0 m pc ls (.int x :: .int i :: .null :: rest)) := by
  intro T hT X
  obtain ⟨t, st, q⟩ := k T hT X
  exact ⟨t, X.castoreNull hexec (g := F0 m pc ls (.int x :: .int i :: .null :: rest)) rfl (rest := rest) rfl (by rw [hb]; exact hdg) t st, q⟩
theorem vx_sastoreN (hexec : p.tables.exec = Jvm.exec) (hb : c.code = cc) {x : Int32} {i : Int32} (hdg : decode cc pc = .ok (.sastore, 1)) (k : vx_NoteN p l e R s m args below meth c H locs cells slots Q (F0 m pc ls rest)) : W p l e R s m args below meth c H locs cells slots Q (F0 m pc ls (.int x :: .int i :: .null :: rest)) := by
  intro T hT X
  obtain ⟨t, st, q⟩ := k T hT X
  exact ⟨t, X.sastoreNull hexec (g := F0 m pc ls (.int x :: .int i :: .null :: rest)) rfl (rest := rest) rfl (by rw [hb]; exact hdg) t st, q⟩
theorem vx_invokeN {own C : String} {index maxL : Nat} {y : MethodName} {bytes : ByteArray} {ret : Option FieldType} (hexec : p.tables.exec = Jvm.exec) (hb : c.code = cc) (hown : s.vm.findClass own = some m.cls) (hlink : (Cond.methodLink own index y).before args s = true) (hinst : (Cond.instanceMethod y).before args s = true) (hcode : (Cond.code y bytes maxL ret).before args s = true) (hsel : (Cond.selects C y y).before args s = true)
    (hx : y.cls ≠ "java/lang/invoke/MethodHandle" ∧ y.cls ≠ "java/lang/invoke/VarHandle") {As : List Value} (hlen : (parseMethodDescriptor y.desc).map (fun d => d.parameters.length) = some As.length) (hdg : decode cc pc = .ok (.invokevirtual index, 3))
    (k : vx_NoteN p l e R s m args below meth c H locs cells slots Q (F0 m pc ls rest)) {st0 : List Value} (hst : st0 = As.reverse ++ .null :: rest) : W p l e R s m args below meth c H locs cells slots Q (F0 m pc ls st0) := by
  intro T hT X
  obtain ⟨r0, r, hn, hrm, hstR, hsigR⟩ := va_Decl.of hinst hcode
  obtain ⟨c2, r2, m2, q1, q2, q3, q4, kP, hkP, hkPi⟩ := Cond.selects_spec hsel
  cases hn.symm.trans q3
  have hl9 : As.length = r.sig.parameters.length := by
    rw [hsigR] at hlen
    exact (Option.some.inj hlen).symm
  obtain ⟨vm', X1, st1⟩ := X.invokevirtualNull hexec hown hlink hn hrm hstR hkP hkPi hx (g := F0 m pc ls st0) rfl (argsL := As) (rest := rest) hl9 hst (by rw [hb]; exact hdg)
  obtain ⟨t, st, q⟩ := k (T.setVm vm') hT X1
  exact ⟨t, st1 t st, q⟩
theorem vx_newarrayZ {atype : ArrayType} (hexec : p.tables.exec = Jvm.exec) (hb : c.code = cc) {n : Int32} (h0 : n < 0) (hdg : decode cc pc = .ok (.newarray atype, 2)) (k : ∀ tx : String, tx = toString n → vx_Note p l e R s m args below meth c H locs cells slots Q (F0 m pc ls rest) "java/lang/NegativeArraySizeException" tx) : W p l e R s m args below meth c H locs cells slots Q (F0 m pc ls (.int n :: rest)) := by
  intro T hT X
  obtain ⟨t, st, q⟩ := k _ rfl T hT X
  exact ⟨t, X.newarrayNegative hexec (g := F0 m pc ls (.int n :: rest)) rfl h0 (rest := rest) rfl (by rw [hb]; exact hdg) t st, q⟩
end
end VXM
/-! ===== END ===== -/
/-! ===== BEGIN an exception as an object: made, kept, thrown later (no traces kept) ===== -/
section VXK
variable {p : Program} {l : Launch} {e : Env} {R : Room} {s : State} {m₀ : MethodId} {args : Array Value} {below : List Frame} {meth : Method} {c : Code} {W : State} {locs : List Loc} {cells slots : Nat}
set_option maxHeartbeats 1000000 in
theorem vx_ctorMadeS (X : Stand p l e R s m₀ args below meth c W locs cells slots) (hexec : p.tables.exec = Jvm.exec) (htr : e.platform.stackTraces = false) {own cls : String} {names : List String} {ic : Nat}
    (hown : s.vm.findClass own = some m₀.cls) (hcls : Bundle.fit cls = true) (hnames : ∀ n ∈ names, Bundle.fit n = true)
    (h : ∀ a ∈ Bundle.ownAtoms own ic cls names, a.before args s = true)
    (hlocs : ∀ x ∈ locs, ∀ cell, s.heap[x.base]? = some cell → cell.vm.isStatics = false)
    {a : Addr} {cX : ClassId} {kX : Class} (hfoundX : s.vm.findClass cls = some cX) (hkX : s.vm.classes[cX]? = some kX) (hcell : W.heap[a]? = some (freshCell cX kX)) (hnew : s.heap.size ≤ a)
    {msg : Value} (hmsg : msg.isRef = true)
    {g : JFrame} (hg : g.method = m₀) (hsize : g.locals.size = c.maxLocals) {rest : List Value} (hstack : g.stack = msg :: .ref a :: .ref a :: rest)
    (hd6 : decode c.code g.pc = .ok (.invokespecial ic, 3))
    (hRframes : names.length + 3 < R.frames) (hRlocals : 2 * g.monitorRoom + ((Value.ref a :: rest).map fun v => v.category).sum + (13 * (names.length + 1) + 42) ≤ R.locals) :
    ∃ (V : State) (ce : Cell) (L : List Loc), Stand p l e R s m₀ args below meth c (V.setCell a ce) (locs ++ L) cells slots ∧ (∀ y ∈ L, y.base = a) ∧ a < V.heap.size ∧ ce.cls = cX ∧ ce.vm = .none ∧
      ∀ target, Steps p.tables e below ((V.setCell a ce).setTop { g with stack := .ref a :: rest, pc := g.pc + 3 }) target → Steps p.tables e below (W.setTop g) target := by
  have howns : e.platform.frameOwnsMonitors = true := by rw [X.admits.platform]
  have hfin : e.platform.finalization = false := by rw [X.admits.platform]
  have hpl : e.platform.magicAccessors = ({} : Platform).magicAccessors := by rw [X.admits.platform]
  have a' : ∀ x, x ∈ Bundle.ownAtoms own ic cls names → x.holds args s none s [] = true := fun x hx => h x hx
  obtain ⟨T, Z0, L, -, Y⟩ := ThrowableC.of_atoms (args := args) howns hfin hpl (fun x hx => h x (by simp [Bundle.ownAtoms, hx]))
  obtain ⟨Z, M, LZ, LM, hnZ⟩ := Init0T.ofS_atoms (args := args) hpl L Y (fun x hx => h x (by simp [Bundle.ownAtoms, hx]))
  obtain ⟨P1, Ps, hlen, L1, hL, hP1m, hlink1, hlink⟩ := Bundle.chainS (args := args) hpl hnZ names cls hcls hnames (fun x hx => h x (by simp [Bundle.ownAtoms, hx]))
  have hfound : s.vm.findClass cls = some P1.m.cls := findClass_of_methodNamed hP1m
  cases Option.some.inj (hfoundX.symm.trans hfound)
  obtain ⟨c1, kX', hc1, hk, hord, -, -, hn6⟩ := Cond.instantiable_spec (a' (.instantiable cls 6) (by simp [Bundle.ownAtoms]))
  cases Option.some.inj (hc1.symm.trans hfound)
  cases Option.some.inj (hkX.symm.trans hk)
  have hsel0 : selectMethod e.platform s.vm P1.m.cls T.fill0 = .method T.fill0 := by
    obtain ⟨c2, r2, m2, q1, q2, q3, q4, -⟩ := Cond.selects_spec (a' (.selects cls Bundle.tFill0 Bundle.tFill0) (by simp [Bundle.ownAtoms]))
    cases Option.some.inj (q1.symm.trans hfound)
    cases Option.some.inj (q2.symm.trans (State.methodFound?_of_named Y.fill0 (by decide)))
    cases Option.some.inj (q3.symm.trans Y.fill0)
    rw [Launch.admits_selectMethod X.admits]; exact q4
  have hselF : selectMethod e.platform s.vm P1.m.cls T.fill = .method T.fill := by
    obtain ⟨c2, r2, m2, q1, q2, q3, q4, -⟩ := Cond.selects_spec (a' (.selects cls Bundle.tFill Bundle.tFill) (by simp [Bundle.ownAtoms]))
    cases Option.some.inj (q1.symm.trans hfound)
    cases Option.some.inj (q2.symm.trans (State.methodFound?_of_named Y.fill (by decide)))
    cases Option.some.inj (q3.symm.trans Y.fill)
    rw [Launch.admits_selectMethod X.admits]; exact q4
  obtain ⟨cellS0, hcS0, hiss⟩ := Y.statics
  obtain ⟨u0, hu0⟩ := Cond.staticRefV Y.unassigned L.unassignedStatic L.statics hcS0 hiss (a' (.isRef (.static Bundle.tN "UNASSIGNED_STACK" Bundle.steD)) (by simp [Bundle.ownAtoms]))
  obtain ⟨sen, hsen⟩ := Cond.staticRefV Y.sentinel L.sentinelStatic L.statics hcS0 hiss (a' (.isRef (.static Bundle.tN "SUPPRESSED_SENTINEL" Bundle.listD)) (by simp [Bundle.ownAtoms]))
  obtain ⟨ci198, i198, fB, hk198, hg198, ha198, hsB, -, hnB, htB, hffB⟩ := Cond.ownField (t := .object "java/lang/Object") Y.found L.cls (by decide +kernel) (a' (.fieldLink Bundle.tN 198 Bundle.tN "backtrace" "Ljava/lang/Object;") (by simp [Bundle.ownAtoms])) (a' (.lays Bundle.tN Bundle.tN "backtrace" "Ljava/lang/Object;") (by simp [Bundle.ownAtoms])) e.platform hpl
  obtain ⟨cellS, hcS', heS, -, hkeep⟩ := X.same.2.2.2.2.2 T.aS cellS0 hcS0
  have hcellS : W.heap[T.aS]? = some cellS := hcS'
  have hout' : ∀ i, (⟨T.aS, i⟩ : Loc) ∉ locs := fun i hmem => by
    have := hlocs _ hmem cellS0 hcS0
    rw [hiss] at this; cases this
  have hknownS : cellS.vm ≠ .unknown := by
    rw [heS]; intro hu
    rw [show cellS0.vm = .unknown from hu] at hiss
    cases hiss
  have hneS : T.aS ≠ a := Nat.ne_of_lt (Nat.lt_of_lt_of_le (Array.getElem?_eq_some_iff.mp hcS0).1 hnew)
  obtain ⟨iM, hffM⟩ := Y.msg
  obtain ⟨tyC, dC, hdC, hdnC⟩ := Cond.laysAt hfound hk Y.cause (a' (.lays cls Bundle.tN "cause" "Ljava/lang/Throwable;") (by simp [Bundle.ownAtoms]))
  obtain ⟨tyS, dS, hdS, hdnS⟩ := Cond.laysAt hfound hk Y.stack (a' (.lays cls Bundle.tN "stackTrace" Bundle.steD) (by simp [Bundle.ownAtoms]))
  obtain ⟨tyP, dP, hdP, hdnP⟩ := Cond.laysAt hfound hk Y.supp (a' (.lays cls Bundle.tN "suppressedExceptions" Bundle.listD) (by simp [Bundle.ownAtoms]))
  obtain ⟨tyM, dM, hdM, hdnM⟩ := Cond.laysAt hfound hk hffM (a' (.lays cls Bundle.tN "detailMessage" "Ljava/lang/String;") (by simp [Bundle.ownAtoms]))
  obtain ⟨tyB, dB, hdB, hdnB⟩ := Cond.laysAt hfound hk hffB (a' (.lays cls Bundle.tN "backtrace" "Ljava/lang/Object;") (by simp [Bundle.ownAtoms]))
  have bC := Cond.laysApart hdB hdC hdnB hdnC (by rw [hnB, Y.causeName]; decide)
  have bS := Cond.laysApart hdB hdS hdnB hdnS (by rw [hnB, Y.stackName]; decide)
  have bP := Cond.laysApart hdB hdP hdnB hdnP (by rw [hnB, Y.suppName]; decide)
  have hskip : SkipFacts T e.platform s (fun u => u) u0 ((preparedCellV T.toThrowableT (freshCell P1.m.cls kX) a u0 sen).withEntry W.cur) :=
    ⟨{ ci198 := ci198, i198 := i198, fBack := fB }, ⟨hk198, hg198, ha198, hsB⟩, by
      have := fresh_default (c := P1.m.cls) tyB
      rw [htB] at this
      simpa [preparedCellV, Cell.setSlot, Cell.withEntry, Array.getElem?_setIfInBounds, bC, bS, bP, bC.symm, bS.symm, bP.symm, defaultValue] using this, fun _ _ => rfl⟩
  obtain ⟨tm, methC, cdC, kC, vm₁, hnC, -, -, -, -, -, -, -, hW₁, st1⟩ := Steps.initColdS (tb := p.tables) (e := e) (below := below) (s := s) (U := W) X.here hexec X.warmed hpl hown (t := Bundle.initS cls) rfl rfl (Bundle.fit_spec hcls).2
    (a' (.methodLink own ic (Bundle.initS cls)) (by simp [Bundle.ownAtoms])) (h (.instanceMethod (Bundle.initS cls)) (by cases names <;> simp [Bundle.ownAtoms, Bundle.chainSAtoms, Bundle.passSAtoms])) (bytes := Bundle.six) (maxL := 2) (h (.code (Bundle.initS cls) Bundle.six 2 none) (by cases names <;> simp [Bundle.ownAtoms, Bundle.chainSAtoms, Bundle.passSAtoms]))
    (f := g) hg (a := a) (msg := msg) (rest := .ref a :: rest) hstack hd6
  cases Option.some.inj (hnC.symm.trans hP1m)
  have X₁ := X.noted hW₁
  obtain ⟨vm₂, X₂, st2⟩ := X₁.ctorMessageOffV hexec (g := { g with stack := .ref a :: rest }) hg hsize T L Z LZ M LM (P1 :: Ps)
    (fun P hP => by rcases List.mem_cons.mp hP with rfl | hP; exact L1; exact hL P hP) ⟨hlink1, hlink⟩ (u0 := u0) (sen := sen) (self := a) hmsg (cell := freshCell P1.m.cls kX) (cellS := cellS)
    hcell (fun _ => by simp) (by simp) rfl rfl hsel0 hselF hcellS hneS hknownS (by rw [hkeep _ (hout' _)]; exact hu0) (by rw [hkeep _ (hout' _)]; exact hsen)
    (Takes.of_laid hk hord tyC (by rw [Y.causeType]; rfl)) (Takes.of_laid hk hord tyS (by rw [Y.stackType]; exact fits_refV_array _ u0)) (Takes.of_laid hk hord tyP (by rw [Y.suppType]; exact fits_refV_object _ sen))
    (Takes.of_laid hk hord tyM (by rw [Y.msgType]; exact fits_refV_object _ ⟨msg, hmsg⟩)) Y.objLocals hskip htr [] hd6
    (by simp only [List.length_cons, hlen]; omega) (by simp only [List.length_cons, hlen]; exact hRlocals)
  have hlt : a < ((W.setVm vm₁).setVm vm₂).heap.size := (Array.getElem?_eq_some_iff.mp hcell).1
  refine ⟨(W.setVm vm₁).setVm vm₂, _, _, X₂, fun y hy => ?_, hlt, rfl, rfl, fun target hwalk => st1 _ (fun acts => ?_)⟩
  · simp only [List.mem_cons, List.not_mem_nil, or_false] at hy
    rcases hy with rfl | rfl | rfl | rfl | rfl <;> rfl
  · rw [doInvoke_state]
    exact st2 _ hwalk
set_option maxHeartbeats 1000000 in
theorem vx_ctorMade0 (X : Stand p l e R s m₀ args below meth c W locs cells slots) (hexec : p.tables.exec = Jvm.exec) (htr : e.platform.stackTraces = false) {own cls : String} {names : List String} {ic : Nat}
    (hown : s.vm.findClass own = some m₀.cls) (hcls : Bundle.fit cls = true) (hnames : ∀ n ∈ names, Bundle.fit n = true)
    (h : ∀ a ∈ Bundle.ownAtoms0 own ic cls names, a.before args s = true)
    (hlocs : ∀ x ∈ locs, ∀ cell, s.heap[x.base]? = some cell → cell.vm.isStatics = false)
    {a : Addr} {cX : ClassId} {kX : Class} (hfoundX : s.vm.findClass cls = some cX) (hkX : s.vm.classes[cX]? = some kX) (hcell : W.heap[a]? = some (freshCell cX kX)) (hnew : s.heap.size ≤ a)
    {g : JFrame} (hg : g.method = m₀) (hsize : g.locals.size = c.maxLocals) {rest : List Value} (hstack : g.stack = .ref a :: .ref a :: rest)
    (hd6 : decode c.code g.pc = .ok (.invokespecial ic, 3))
    (hRframes : names.length + 3 < R.frames) (hRlocals : 2 * g.monitorRoom + ((Value.ref a :: rest).map fun v => v.category).sum + (13 * (names.length + 1) + 41) ≤ R.locals) :
    ∃ (V : State) (ce : Cell) (L : List Loc), Stand p l e R s m₀ args below meth c (V.setCell a ce) (locs ++ L) cells slots ∧ (∀ y ∈ L, y.base = a) ∧ a < V.heap.size ∧ ce.cls = cX ∧ ce.vm = .none ∧
      ∀ target, Steps p.tables e below ((V.setCell a ce).setTop { g with stack := .ref a :: rest, pc := g.pc + 3 }) target → Steps p.tables e below (W.setTop g) target := by
  have howns : e.platform.frameOwnsMonitors = true := by rw [X.admits.platform]
  have hfin : e.platform.finalization = false := by rw [X.admits.platform]
  have hpl : e.platform.magicAccessors = ({} : Platform).magicAccessors := by rw [X.admits.platform]
  have a' : ∀ x, x ∈ Bundle.ownAtoms0 own ic cls names → x.holds args s none s [] = true := fun x hx => h x hx
  obtain ⟨T, Z, L, LZ, Y⟩ := ThrowableC.of_atoms (args := args) howns hfin hpl (fun x hx => h x (by simp [Bundle.ownAtoms0, hx]))
  obtain ⟨P1, Ps, hlen, L1, hL, hP1m, hlink1, hlink⟩ := Bundle.chain0 (args := args) hpl Y.init0 names cls hcls hnames (fun x hx => h x (by simp [Bundle.ownAtoms0, hx]))
  have hfound : s.vm.findClass cls = some P1.m.cls := findClass_of_methodNamed hP1m
  cases Option.some.inj (hfoundX.symm.trans hfound)
  obtain ⟨c1, kX', hc1, hk, hord, -, -, hn6⟩ := Cond.instantiable_spec (a' (.instantiable cls 6) (by simp [Bundle.ownAtoms0]))
  cases Option.some.inj (hc1.symm.trans hfound)
  cases Option.some.inj (hkX.symm.trans hk)
  have hsel0 : selectMethod e.platform s.vm P1.m.cls T.fill0 = .method T.fill0 := by
    obtain ⟨c2, r2, m2, q1, q2, q3, q4, -⟩ := Cond.selects_spec (a' (.selects cls Bundle.tFill0 Bundle.tFill0) (by simp [Bundle.ownAtoms0]))
    cases Option.some.inj (q1.symm.trans hfound)
    cases Option.some.inj (q2.symm.trans (State.methodFound?_of_named Y.fill0 (by decide)))
    cases Option.some.inj (q3.symm.trans Y.fill0)
    rw [Launch.admits_selectMethod X.admits]; exact q4
  have hselF : selectMethod e.platform s.vm P1.m.cls T.fill = .method T.fill := by
    obtain ⟨c2, r2, m2, q1, q2, q3, q4, -⟩ := Cond.selects_spec (a' (.selects cls Bundle.tFill Bundle.tFill) (by simp [Bundle.ownAtoms0]))
    cases Option.some.inj (q1.symm.trans hfound)
    cases Option.some.inj (q2.symm.trans (State.methodFound?_of_named Y.fill (by decide)))
    cases Option.some.inj (q3.symm.trans Y.fill)
    rw [Launch.admits_selectMethod X.admits]; exact q4
  obtain ⟨cellS0, hcS0, hiss⟩ := Y.statics
  obtain ⟨u0, hu0⟩ := Cond.staticRefV Y.unassigned L.unassignedStatic L.statics hcS0 hiss (a' (.isRef (.static Bundle.tN "UNASSIGNED_STACK" Bundle.steD)) (by simp [Bundle.ownAtoms0]))
  obtain ⟨sen, hsen⟩ := Cond.staticRefV Y.sentinel L.sentinelStatic L.statics hcS0 hiss (a' (.isRef (.static Bundle.tN "SUPPRESSED_SENTINEL" Bundle.listD)) (by simp [Bundle.ownAtoms0]))
  obtain ⟨ci198, i198, fB, hk198, hg198, ha198, hsB, -, hnB, htB, hffB⟩ := Cond.ownField (t := .object "java/lang/Object") Y.found L.cls (by decide +kernel) (a' (.fieldLink Bundle.tN 198 Bundle.tN "backtrace" "Ljava/lang/Object;") (by simp [Bundle.ownAtoms0])) (a' (.lays Bundle.tN Bundle.tN "backtrace" "Ljava/lang/Object;") (by simp [Bundle.ownAtoms0])) e.platform hpl
  obtain ⟨cellS, hcS', heS, -, hkeep⟩ := X.same.2.2.2.2.2 T.aS cellS0 hcS0
  have hcellS : W.heap[T.aS]? = some cellS := hcS'
  have hout' : ∀ i, (⟨T.aS, i⟩ : Loc) ∉ locs := fun i hmem => by
    have := hlocs _ hmem cellS0 hcS0
    rw [hiss] at this; cases this
  have hknownS : cellS.vm ≠ .unknown := by
    rw [heS]; intro hu
    rw [show cellS0.vm = .unknown from hu] at hiss
    cases hiss
  have hneS : T.aS ≠ a := Nat.ne_of_lt (Nat.lt_of_lt_of_le (Array.getElem?_eq_some_iff.mp hcS0).1 hnew)
  obtain ⟨iM, hffM⟩ := Y.msg
  obtain ⟨tyC, dC, hdC, hdnC⟩ := Cond.laysAt hfound hk Y.cause (a' (.lays cls Bundle.tN "cause" "Ljava/lang/Throwable;") (by simp [Bundle.ownAtoms0]))
  obtain ⟨tyS, dS, hdS, hdnS⟩ := Cond.laysAt hfound hk Y.stack (a' (.lays cls Bundle.tN "stackTrace" Bundle.steD) (by simp [Bundle.ownAtoms0]))
  obtain ⟨tyP, dP, hdP, hdnP⟩ := Cond.laysAt hfound hk Y.supp (a' (.lays cls Bundle.tN "suppressedExceptions" Bundle.listD) (by simp [Bundle.ownAtoms0]))
  obtain ⟨tyM, dM, hdM, hdnM⟩ := Cond.laysAt hfound hk hffM (a' (.lays cls Bundle.tN "detailMessage" "Ljava/lang/String;") (by simp [Bundle.ownAtoms0]))
  obtain ⟨tyB, dB, hdB, hdnB⟩ := Cond.laysAt hfound hk hffB (a' (.lays cls Bundle.tN "backtrace" "Ljava/lang/Object;") (by simp [Bundle.ownAtoms0]))
  have bC := Cond.laysApart hdB hdC hdnB hdnC (by rw [hnB, Y.causeName]; decide)
  have bS := Cond.laysApart hdB hdS hdnB hdnS (by rw [hnB, Y.stackName]; decide)
  have bP := Cond.laysApart hdB hdP hdnB hdnP (by rw [hnB, Y.suppName]; decide)
  have hskip : SkipFacts T e.platform s (fun u => u) u0 ((preparedCellV T.toThrowableT (freshCell P1.m.cls kX) a u0 sen).withEntry W.cur) :=
    ⟨{ ci198 := ci198, i198 := i198, fBack := fB }, ⟨hk198, hg198, ha198, hsB⟩, by
      have := fresh_default (c := P1.m.cls) tyB
      rw [htB] at this
      simpa [preparedCellV, Cell.setSlot, Cell.withEntry, Array.getElem?_setIfInBounds, bC, bS, bP, bC.symm, bS.symm, bP.symm, defaultValue] using this, fun _ _ => rfl⟩
  obtain ⟨tm, methC, cdC, kC, vm₁, hnC, -, -, -, -, -, -, -, hW₁, st1⟩ := Steps.initCold (tb := p.tables) (e := e) (below := below) (s := s) (U := W) X.here hexec X.warmed hpl hown (t := Bundle.init0 cls) rfl rfl (Bundle.fit_spec hcls).2
    (a' (.methodLink own ic (Bundle.init0 cls)) (by simp [Bundle.ownAtoms0])) (h (.instanceMethod (Bundle.init0 cls)) (by cases names <;> simp [Bundle.ownAtoms0, Bundle.chain0Atoms, Bundle.passAtoms])) (bytes := Bundle.five) (maxL := 1) (h (.code (Bundle.init0 cls) Bundle.five 1 none) (by cases names <;> simp [Bundle.ownAtoms0, Bundle.chain0Atoms, Bundle.passAtoms]))
    (f := g) hg (a := a) (rest := .ref a :: rest) hstack hd6
  cases Option.some.inj (hnC.symm.trans hP1m)
  have X₁ := X.noted hW₁
  obtain ⟨vm₂, X₂, st2⟩ := X₁.ctorPlainOffV hexec (g := { g with stack := .ref a :: rest }) hg hsize T L Z LZ (P1 :: Ps)
    (fun P hP => by rcases List.mem_cons.mp hP with rfl | hP; exact L1; exact hL P hP) ⟨hlink1, hlink⟩ (u0 := u0) (sen := sen) (self := a) (cell := freshCell P1.m.cls kX) (cellS := cellS)
    hcell (fun _ => by simp) (by simp) rfl rfl hsel0 hselF hcellS hneS hknownS (by rw [hkeep _ (hout' _)]; exact hu0) (by rw [hkeep _ (hout' _)]; exact hsen)
    (Takes.of_laid hk hord tyC (by rw [Y.causeType]; rfl)) (Takes.of_laid hk hord tyS (by rw [Y.stackType]; exact fits_refV_array _ u0)) (Takes.of_laid hk hord tyP (by rw [Y.suppType]; exact fits_refV_object _ sen)) Y.objLocals hskip htr [] hd6
    (by simp only [List.length_cons, hlen]; omega) (by simp only [List.length_cons, hlen]; exact hRlocals)
  have hlt : a < ((W.setVm vm₁).setVm vm₂).heap.size := (Array.getElem?_eq_some_iff.mp hcell).1
  refine ⟨(W.setVm vm₁).setVm vm₂, _, _, X₂, fun y hy => ?_, hlt, rfl, rfl, fun target hwalk => st1 _ (fun acts => ?_)⟩
  · simp only [List.mem_cons, List.not_mem_nil, or_false] at hy
    rcases hy with rfl | rfl | rfl | rfl <;> rfl
  · rw [doInvoke_state]
    exact st2 _ hwalk
end VXK
section VXK2
variable {p : Program} {l : Launch} {e : Env} {R : Room} {s : State} {m : MethodId} {args : Array Value} {below : List Frame} {meth : Method} {c : Code} {H : Heap} {locs : List Loc} {cells slots : Nat} {Q : State → Prop}
variable {ls : Array Slot} {rest : List Value} {D : va_G} {cl : List vw_C} {tys : List (ClassId × FieldType)} {ws : va_W}
/-- 'new E("text")' that isn't thrown at once: the object goes on the stack -/
theorem vx_makeS {cc : ByteArray} {pc : Nat} (hexec : p.tables.exec = Jvm.exec) (hb : c.code = cc) (hl : l.stackTraces = false) {own cls text : String} {names : List String} {ik is ic sa ci : Nat} {A : Nat → Prop} {T0 : u_T}
    (hown : s.vm.findClass own = some m.cls) (hcls : Bundle.fit cls = true) (hnames : ∀ n ∈ names, Bundle.fit n = true)
    (hk : (Cond.classLink own ik cls).before args s = true) (hini : (Cond.initialized cls).before args s = true) (hstr : vk_R own is text sa s) (hat : ∀ w ∈ vx_atS own ic cls names, w.before args s = true)
    (hgood : ∀ w ∈ Cond.classLink own ik cls :: Cond.initialized cls :: vx_atS own ic cls names, vx_ot w = true)
    (hU : vx_Zq Bundle.tN "UNASSIGNED_STACK" Bundle.steD A s s.heap) (hN : vx_Zq Bundle.tN "SUPPRESSED_SENTINEL" Bundle.listD A s s.heap) (hS : va_S A s.heap H locs) (hsize : ls.size = c.maxLocals)
    (d0 : decode cc pc = .ok (.new ik, 3)) (d3 : decode cc (pc + 3) = .ok (.dup, 1)) (d4 : decode cc (pc + 4) = .ok (.ldc is, 2)) (d6 : decode cc (pc + 6) = .ok (.invokespecial ic, 3))
    (hK : va_K D cl tys s) (hP : va_P D cl ws H) (hD : va_D A ws) (hA : ∀ q, s.heap.size ≤ q → A q) (hc : cl[ci]? = some (cls, T0, 0))
    (hRframes : names.length + 3 < R.frames) (hRlocals : (rest.map fun v => v.category).sum + (13 * (names.length + 1) + 43) ≤ R.locals) (hRcells : cells + 1 ≤ R.cells) (hRslots : slots + 6 ≤ R.slots)
    (kk : ∀ (q : Nat) (H1 : Heap), va_P D cl (ws ++ [(q, .inr (ci, []))]) H1 → va_D A (ws ++ [(q, .inr (ci, []))]) → va_S A s.heap H1 locs → W p l e R s m args below meth c H1 locs (cells + 1) (slots + 6) Q (F0 m (pc + 9) ls (.ref q :: rest))) :
    W p l e R s m args below meth c H locs cells slots Q (F0 m pc ls rest) := by
  intro T hT X
  subst hT
  have htr : e.platform.stackTraces = false := (show e.platform.stackTraces = l.stackTraces by rw [X.admits.platform]).trans hl
  have Y := vx_rebase X (R' := { frames := R.frames, locals := R.locals, cells := 1, slots := 6 }) (Nat.le_refl _) (Nat.le_refl _) hRcells hRslots
  obtain ⟨s', hA'⟩ : ∃ z, z = (T.setVm s.vm).setFrames (.invoking m args :: below) := ⟨_, rfl⟩
  rw [← hA'] at Y
  have hvm : s'.vm = s.vm := by rw [hA']; rfl
  have hhp : s'.heap = T.heap := by rw [hA']; rfl
  have hW0 : s.WarmedH s'.vm := by rw [hvm]; exact State.WarmedH.refl s
  have hat' : ∀ w ∈ vx_atS own ic cls names, w.before args s' = true := fun w hw => vx_ot_at hW0 hvm.symm (hgood w (List.mem_cons_of_mem _ (List.mem_cons_of_mem _ hw))) (hat w hw)
  have hk' : (Cond.classLink own ik cls).before args s' = true := vx_ot_at hW0 hvm.symm (hgood _ List.mem_cons_self) hk
  have hini' : (Cond.initialized cls).before args s' = true := vx_ot_at hW0 hvm.symm (hgood _ (List.mem_cons_of_mem _ List.mem_cons_self)) hini
  have hU' : vx_Zq Bundle.tN "UNASSIGNED_STACK" Bundle.steD A s' s'.heap := by rw [hhp]; exact vx_Zq.moved hW0.alike (hU.kept hS.2.1)
  have hN' : vx_Zq Bundle.tN "SUPPRESSED_SENTINEL" Bundle.listD A s' s'.heap := by rw [hhp]; exact vx_Zq.moved hW0.alike (hN.kept hS.2.1)
  have h : ∀ w ∈ Bundle.ownAtoms own ic cls names, w.before args s' = true := vx_own hat' (vx_isRefq hU'.1) (vx_isRefq hN'.1) hU'.2.word hN'.2.word
  have hown' : s'.vm.findClass own = some m.cls := by rw [hvm]; exact hown
  have hins : (Cond.instantiable cls 6).before args s' = true := h _ (by simp [Bundle.ownAtoms])
  obtain ⟨vm₁, cX, kX, hfX, hkX, -, -, X₁, st1⟩ := Y.newCold hexec (own := own) (C := cls) (index := ik) (n := 6) hown' hk' hins hini'
    (g := F0 m pc ls rest) rfl (by rw [hb]; exact d0) (Nat.le_refl _) (Nat.le_refl _)
  generalize hT1 : (T.setVm vm₁).pushCell { cls := cX, slots := kX.instanceTypes.map defaultValue, vm := .none } = T1 at X₁ st1
  have hcat : (Value.ref T.heap.size).category = 1 := rfl
  have hcellA : T1.heap[T.heap.size]? = some (freshCell cX kX) := by rw [← hT1]; exact State.heap_pushCell_size _ _
  have d3' : decode c.code (pc + 3) = .ok (.dup, 1) := by rw [hb]; exact d3
  have d4' : decode c.code (pc + 4) = .ok (.ldc is, 2) := by rw [hb]; exact d4
  have hstr' : vk_R own is text sa s' := vk_R.warm hW0 hstr
  obtain ⟨V, ce, L, Z, hL, hlt, hcl9, hvm9, st⟩ := vx_ctorMadeS X₁ hexec htr (own := own) (cls := cls) (names := names) (ic := ic) hown' hcls hnames h (fun x hx => nomatch hx) hfX hkX hcellA (by rw [hhp]; exact Nat.le_refl _) (msg := .ref sa) rfl
    (g := { method := m, pc := pc + 6, locals := ls, stack := .ref sa :: .ref T.heap.size :: .ref T.heap.size :: rest, locked := none }) rfl hsize (rest := rest) rfl
    (by rw [hb]; exact d6) hRframes (by simp only [List.map_cons, List.sum_cons, hcat]; omega)
  have Z0 := Stand.forget (locs := []) Z (fun y hy => by rw [hL y hy, hhp]; exact Nat.le_refl _)
  obtain ⟨f1, f2⟩ := vx_frame Z0.same
  rw [hhp] at f1 f2
  have hcid : ce.cls = D.1 ci := by
    rw [hcl9]
    have h1 := (hK.1 ci _ hc).2.1
    rw [hvm] at hfX
    exact Option.some.inj (hfX.symm.trans h1)
  have hh : (V.setCell T.heap.size ce).heap[T.heap.size]? = some ce := heapAt_setCell_self (s := V) ce hlt
  subst hA'
  have X5 := vx_back9 X Y Z0
  have X6 : Stand p l e R s m args below meth c (V.setCell T.heap.size ce) locs (cells + 1) (slots + 6) := { X5 with same := X5.same.mono (by omega) (by omega) }
  have hk9 : ∀ (k : Nat) (x : Nat × va_E), ws[k]? = some x → (V.setCell T.heap.size ce).heap[x.1]? = T.heap[x.1]? := fun k x hx => f2 x.1 ((hP k x hx).lt) (fun z hz => nomatch hz)
  obtain ⟨t, a1, b1⟩ := kk T.heap.size (V.setCell T.heap.size ce).heap ((hP.kept hk9).app (fun k x hx => by
      have hz : k < 1 := (List.getElem?_eq_some_iff.mp hx).1
      rw [show k = 0 by omega] at hx
      cases hx
      exact ⟨_, hc, ce, hh, hcid, hvm9, fun k hk => absurd hk (Nat.not_lt_zero k)⟩)) (hD.push hP rfl (hA _ hS.1)) ⟨Nat.le_trans hS.1 f1, fun q h1 h2 => (f2 q (Nat.lt_of_lt_of_le h1 hS.1) (fun z hz => nomatch hz)).trans (hS.2.1 q h1 h2), hS.2.2⟩ _ rfl X6
  refine ⟨t, st1 _ ?_, b1⟩
  show Steps p.tables e below (T1.setTop { method := m, pc := pc + 3, locals := ls, stack := .ref T.heap.size :: rest, locked := none }) _
  jvm_step X₁.here [X₁.here.top, hexec, d3', Value.category]
  exact X₁.ldcString hexec (own := own) (text := text) (index := is) (a := sa) hown' hstr'.1 hstr'.2
    (g := { method := m, pc := pc + 4, locals := ls, stack := .ref T.heap.size :: .ref T.heap.size :: rest, locked := none }) rfl d4' _ (st _ a1)
/-- 'new E()' that isn't thrown at once: the object goes on the stack -/
theorem vx_make0 {cc : ByteArray} {pc : Nat} (hexec : p.tables.exec = Jvm.exec) (hb : c.code = cc) (hl : l.stackTraces = false) {own cls : String} {names : List String} {ik ic ci : Nat} {A : Nat → Prop} {T0 : u_T}
    (hown : s.vm.findClass own = some m.cls) (hcls : Bundle.fit cls = true) (hnames : ∀ n ∈ names, Bundle.fit n = true)
    (hk : (Cond.classLink own ik cls).before args s = true) (hini : (Cond.initialized cls).before args s = true) (hat : ∀ w ∈ vx_at0 own ic cls names, w.before args s = true)
    (hgood : ∀ w ∈ Cond.classLink own ik cls :: Cond.initialized cls :: vx_at0 own ic cls names, vx_ot w = true)
    (hU : vx_Zq Bundle.tN "UNASSIGNED_STACK" Bundle.steD A s s.heap) (hN : vx_Zq Bundle.tN "SUPPRESSED_SENTINEL" Bundle.listD A s s.heap) (hS : va_S A s.heap H locs) (hsize : ls.size = c.maxLocals)
    (d0 : decode cc pc = .ok (.new ik, 3)) (d3 : decode cc (pc + 3) = .ok (.dup, 1)) (d4 : decode cc (pc + 4) = .ok (.invokespecial ic, 3))
    (hK : va_K D cl tys s) (hP : va_P D cl ws H) (hD : va_D A ws) (hA : ∀ q, s.heap.size ≤ q → A q) (hc : cl[ci]? = some (cls, T0, 0))
    (hRframes : names.length + 3 < R.frames) (hRlocals : (rest.map fun v => v.category).sum + (13 * (names.length + 1) + 42) ≤ R.locals) (hRcells : cells + 1 ≤ R.cells) (hRslots : slots + 6 ≤ R.slots)
    (kk : ∀ (q : Nat) (H1 : Heap), va_P D cl (ws ++ [(q, .inr (ci, []))]) H1 → va_D A (ws ++ [(q, .inr (ci, []))]) → va_S A s.heap H1 locs → W p l e R s m args below meth c H1 locs (cells + 1) (slots + 6) Q (F0 m (pc + 7) ls (.ref q :: rest))) :
    W p l e R s m args below meth c H locs cells slots Q (F0 m pc ls rest) := by
  intro T hT X
  subst hT
  have htr : e.platform.stackTraces = false := (show e.platform.stackTraces = l.stackTraces by rw [X.admits.platform]).trans hl
  have Y := vx_rebase X (R' := { frames := R.frames, locals := R.locals, cells := 1, slots := 6 }) (Nat.le_refl _) (Nat.le_refl _) hRcells hRslots
  obtain ⟨s', hA'⟩ : ∃ z, z = (T.setVm s.vm).setFrames (.invoking m args :: below) := ⟨_, rfl⟩
  rw [← hA'] at Y
  have hvm : s'.vm = s.vm := by rw [hA']; rfl
  have hhp : s'.heap = T.heap := by rw [hA']; rfl
  have hW0 : s.WarmedH s'.vm := by rw [hvm]; exact State.WarmedH.refl s
  have hat' : ∀ w ∈ vx_at0 own ic cls names, w.before args s' = true := fun w hw => vx_ot_at hW0 hvm.symm (hgood w (List.mem_cons_of_mem _ (List.mem_cons_of_mem _ hw))) (hat w hw)
  have hk' : (Cond.classLink own ik cls).before args s' = true := vx_ot_at hW0 hvm.symm (hgood _ List.mem_cons_self) hk
  have hini' : (Cond.initialized cls).before args s' = true := vx_ot_at hW0 hvm.symm (hgood _ (List.mem_cons_of_mem _ List.mem_cons_self)) hini
  have hU' : vx_Zq Bundle.tN "UNASSIGNED_STACK" Bundle.steD A s' s'.heap := by rw [hhp]; exact vx_Zq.moved hW0.alike (hU.kept hS.2.1)
  have hN' : vx_Zq Bundle.tN "SUPPRESSED_SENTINEL" Bundle.listD A s' s'.heap := by rw [hhp]; exact vx_Zq.moved hW0.alike (hN.kept hS.2.1)
  have h : ∀ w ∈ Bundle.ownAtoms0 own ic cls names, w.before args s' = true := vx_own hat' (vx_isRefq hU'.1) (vx_isRefq hN'.1) hU'.2.word hN'.2.word
  have hown' : s'.vm.findClass own = some m.cls := by rw [hvm]; exact hown
  have hins : (Cond.instantiable cls 6).before args s' = true := h _ (by simp [Bundle.ownAtoms0])
  obtain ⟨vm₁, cX, kX, hfX, hkX, -, -, X₁, st1⟩ := Y.newCold hexec (own := own) (C := cls) (index := ik) (n := 6) hown' hk' hins hini'
    (g := F0 m pc ls rest) rfl (by rw [hb]; exact d0) (Nat.le_refl _) (Nat.le_refl _)
  generalize hT1 : (T.setVm vm₁).pushCell { cls := cX, slots := kX.instanceTypes.map defaultValue, vm := .none } = T1 at X₁ st1
  have hcat : (Value.ref T.heap.size).category = 1 := rfl
  have hcellA : T1.heap[T.heap.size]? = some (freshCell cX kX) := by rw [← hT1]; exact State.heap_pushCell_size _ _
  have d3' : decode c.code (pc + 3) = .ok (.dup, 1) := by rw [hb]; exact d3
  obtain ⟨V, ce, L, Z, hL, hlt, hcl9, hvm9, st⟩ := vx_ctorMade0 X₁ hexec htr (own := own) (cls := cls) (names := names) (ic := ic) hown' hcls hnames h (fun x hx => nomatch hx) hfX hkX hcellA (by rw [hhp]; exact Nat.le_refl _)
    (g := { method := m, pc := pc + 4, locals := ls, stack := .ref T.heap.size :: .ref T.heap.size :: rest, locked := none }) rfl hsize (rest := rest) rfl
    (by rw [hb]; exact d4) hRframes (by simp only [List.map_cons, List.sum_cons, hcat]; omega)
  have Z0 := Stand.forget (locs := []) Z (fun y hy => by rw [hL y hy, hhp]; exact Nat.le_refl _)
  obtain ⟨f1, f2⟩ := vx_frame Z0.same
  rw [hhp] at f1 f2
  have hcid : ce.cls = D.1 ci := by
    rw [hcl9]
    have h1 := (hK.1 ci _ hc).2.1
    rw [hvm] at hfX
    exact Option.some.inj (hfX.symm.trans h1)
  have hh : (V.setCell T.heap.size ce).heap[T.heap.size]? = some ce := heapAt_setCell_self (s := V) ce hlt
  subst hA'
  have X5 := vx_back9 X Y Z0
  have X6 : Stand p l e R s m args below meth c (V.setCell T.heap.size ce) locs (cells + 1) (slots + 6) := { X5 with same := X5.same.mono (by omega) (by omega) }
  have hk9 : ∀ (k : Nat) (x : Nat × va_E), ws[k]? = some x → (V.setCell T.heap.size ce).heap[x.1]? = T.heap[x.1]? := fun k x hx => f2 x.1 ((hP k x hx).lt) (fun z hz => nomatch hz)
  obtain ⟨t, a1, b1⟩ := kk T.heap.size (V.setCell T.heap.size ce).heap ((hP.kept hk9).app (fun k x hx => by
      have hz : k < 1 := (List.getElem?_eq_some_iff.mp hx).1
      rw [show k = 0 by omega] at hx
      cases hx
      exact ⟨_, hc, ce, hh, hcid, hvm9, fun k hk => absurd hk (Nat.not_lt_zero k)⟩)) (hD.push hP rfl (hA _ hS.1)) ⟨Nat.le_trans hS.1 f1, fun q h1 h2 => (f2 q (Nat.lt_of_lt_of_le h1 hS.1) (fun z hz => nomatch hz)).trans (hS.2.1 q h1 h2), hS.2.2⟩ _ rfl X6
  refine ⟨t, st1 _ ?_, b1⟩
  show Steps p.tables e below (T1.setTop { method := m, pc := pc + 3, locals := ls, stack := .ref T.heap.size :: rest, locked := none }) _
  jvm_step X₁.here [X₁.here.top, hexec, d3', Value.category]
  exact st _ a1
/-- 'throw x' of an object that was made before -/
theorem vx_athrow {cc : ByteArray} {pc : Nat} (hexec : p.tables.exec = Jvm.exec) (hb : c.code = cc) {q : Addr} (hdg : decode cc pc = .ok (.athrow, 1)) (k : vx_W p l e R s m args below meth c H locs cells slots Q (F0 m pc ls rest) q) : W p l e R s m args below meth c H locs cells slots Q (F0 m pc ls (.ref q :: rest)) := by
  intro T hT X
  obtain ⟨t, st, hq⟩ := k T hT X
  refine ⟨t, ?_, hq⟩
  have hdg' : decode c.code pc = .ok (.athrow, 1) := by rw [hb]; exact hdg
  jvm_step X.here [X.here.top, hexec, hdg', athrow.wp_sem]
  exact st
end VXK2
/-! ===== END ===== -/
/-! ===== BEGIN a constructor that throws (launches without stack traces) ===== -/
section VXIA
variable {p : Program} {l : Launch} {e : Env} {R : Room} {s : State} {m : MethodId} {args : Array Value} {below : List Frame} {meth : Method} {c : Code} {T : State} {locs : List Loc} {cells slots : Nat}
theorem vx_callI (X : Stand p l e R s m args below meth c T locs cells slots) (hexec : p.tables.exec = Jvm.exec) {own : String} {index : Nat} {y : MethodName} {bytes : ByteArray} {maxL : Nat}
    (hown : s.vm.findClass own = some m.cls) (hy1 : y.name = "<init>") (hlink : (Cond.methodLink own index y).before args s = true) (hinst : (Cond.instanceMethod y).before args s = true)
    (hcode : (Cond.code y bytes maxL none).before args s = true) (hy : y.cls ≠ "java/lang/invoke/MethodHandle" ∧ y.cls ≠ "java/lang/invoke/VarHandle")
    {W9 : Nat} {Pre : Pt → Array Value → Prop} {Post : Pt → Array Value → Option Value → Pt → Prop} {PostX : Pt → Array Value → Addr → Pt → Prop} (hK : vx_Back l R p e below s args y 3 W9 Pre Post PostX)
    {g : JFrame} (hg : g.method = m) (hsize : g.locals.size = c.maxLocals) {a : Addr} {argsL rest : List Value} (hlen : ∀ sig, parseMethodDescriptor y.desc = some sig → argsL.length = sig.parameters.length)
    (hstack : g.stack = argsL.reverse ++ .ref a :: rest) (hW : 2 * g.monitorRoom + (rest.map fun v => v.category).sum ≤ W9) (hdg : decode c.code g.pc = .ok (.invokespecial index, 3))
    (hpre : ∀ vm₁, s.WarmedH vm₁ → Pre ⟨T.setVm vm₁, locs, cells, slots⟩ (Value.ref a :: argsL).toArray) :
    (∃ (v : Option Value) (vm₁ : Vm) (B : Pt), s.WarmedH vm₁ ∧ Stand p l e R s m args below meth c B.U B.locs B.cells B.slots ∧ Post ⟨T.setVm vm₁, locs, cells, slots⟩ (Value.ref a :: argsL).toArray v B ∧
      ∀ target, Steps p.tables e below (B.U.setTop { g with pc := g.pc + 3, stack := v.toList ++ rest }) target → Steps p.tables e below (T.setTop g) target) ∨
    (∃ (q : Addr) (vm₁ : Vm) (B : Pt), s.WarmedH vm₁ ∧ Stand p l e R s m args below meth c B.U B.locs B.cells B.slots ∧ PostX ⟨T.setVm vm₁, locs, cells, slots⟩ (Value.ref a :: argsL).toArray q B ∧
      Steps p.tables e below (T.setTop g) ((B.U.setTop { g with stack := rest }).pushFrame (.throwing q))) := by
  subst hg
  have hpl : e.platform.magicAccessors = ({} : Platform).magicAccessors := by rw [X.admits.platform]
  obtain ⟨mk, methM, cM, kP, vm₁, hnamed, hmethM, hcodeM, -, hlocalsM, -, hkP, -, hW₁, hstep₁⟩ := Steps.initColdArgs (e := e) X.here hexec X.warmed hpl hown hy1 hy hlink hinst hcode (f := g) rfl hlen hstack hdg
  have X₁ := X.noted hW₁
  rcases hK g.method meth c ⟨T.setVm vm₁, locs, cells, slots⟩ { g with stack := rest } (.invokespecial index) mk (Value.ref a :: argsL).toArray X₁ rfl hsize hdg hW (X₁.named hnamed) (hpre vm₁ X₁.warmed) with ⟨v, B, X', hpost, hsteps⟩ | ⟨q, B, X', hpost, hsteps⟩
  · exact Or.inl ⟨v, vm₁, B, X₁.warmed, X', hpost, fun target h => hstep₁ _ fun acts => by rw [doInvoke_state]; exact hsteps.trans h⟩
  · exact Or.inr ⟨q, vm₁, B, X₁.warmed, X', hpost, hstep₁ _ fun acts => by rw [doInvoke_state]; exact hsteps⟩
end VXIA
section VXIB
variable {p : Program} {l : Launch} {e : Env} {R : Room} {s : State} {m : MethodId} {args : Array Value} {below : List Frame} {meth : Method} {c : Code} {H : Heap} {locs : List Loc} {cells slots : Nat}
variable {y : MethodName} {bytes cc : ByteArray} {maxL nL mc ms n index : Nat} {ret : Option FieldType} {ws : List Cond} {rm : Room} {Pc : Array Value → State → Prop} {Qc : Array Value → State → Outcome → State → Prop} {XC : String → State → State → Prop} {free : Addr → Prop} {Ts : List Cond} {own C : String} {b : Addr} {As rest : List Value} {g : JFrame}
theorem vx_runI (S : CallFix p m c cc nL s args Ts own) (hM : vx_Met l y ws rm Pc Qc XC mc ms free) (cw : CallB R s args own index y bytes maxL none ws rm mc ms n ∧ y.name = "<init>" ∧ (Cond.instanceMethod y).before args s = true) (hp : PreS s H Pc (.ref b :: As))
    (hg : g.method = m) (hn : As.length = n) (hsize : g.locals.size = nL) (hstack : g.stack = As.reverse ++ .ref b :: rest) (hW : 2 * g.monitorRoom + (rest.map fun v => v.category).sum ≤ 8) (hdg : decode cc g.pc = .ok (.invokespecial index, 3)) (hf : cells + mc ≤ R.cells ∧ slots + ms ≤ R.slots) :
    vx_Run p l e R s m args below meth c H locs cells slots mc ms g rest (Qc (Value.ref b :: As).toArray) XC free := by
  have hK : vx_Back l R p e below s args y 3 8 (PreOf R mc ms Pc) (PostOf Qc mc ms free) (vx_Post XC mc ms free) := vx_callBack cw.1 hM hp.1
  obtain ⟨⟨-, -, -, -, -, -, hcode, -, hy, hlen, hl⟩, hy1, hin⟩ := cw
  obtain ⟨hx, hb, hml, ho, -⟩ := S
  have hPc := hp.2
  intro T hT X
  rcases vx_callI X hx (bytes := bytes) (maxL := maxL) ho hy1 hl hin hcode hy hK hg (hsize.trans hml.symm) (a := b) (argsL := As) (rest := rest) (fun sig h => hn.trans (hlen sig h)) hstack hW (by rw [hb]; exact hdg)
    (fun vm₁ hW₁ => ⟨hf.1, hf.2, hPc (T.setVm vm₁) hT hW₁⟩) with ⟨v, vm₁, ⟨U', l2, c2, s2⟩, hW₁, X', ⟨g', mk, t, L, e1, e2, hq, h1, hL, h2, h3⟩, st⟩ | ⟨q, vm₁, ⟨U', l2, c2, s2⟩, hW₁, X', ⟨g', mk, t, L, E, ce, e1, e2, hq, hce, hcv, hcl, h1, hL, h2, h3⟩, st⟩
  · dsimp only [Pt.U, Pt.locs, Pt.cells, Pt.slots] at X' e1 e2 h1 h2 h3 st
    subst h1; subst h2; subst h3
    exact Or.inl ⟨v, (T.setVm vm₁).calling g' mk (Value.ref b :: As).toArray, t, U', L, hT, X', hL, e1, e2, hq, st⟩
  · dsimp only [Pt.U, Pt.locs, Pt.cells, Pt.slots] at X' e1 e2 h1 h2 h3 st hcl
    subst h1; subst h2; subst h3
    exact Or.inr ⟨q, (T.setVm vm₁).calling g' mk (Value.ref b :: As).toArray, t, U', L, E, ce, hT, X', hL, e1, e2, hq, hce, hcv, vx_cls hW₁ hcl, st⟩
end VXIB
/-! ===== END ===== -/
/-! ===== BEGIN a private constructor of a nest mate that throws ===== -/
section VXIC
variable {p : Program} {l : Launch} {e : Env} {R : Room} {s : State} {m : MethodId} {args : Array Value} {below : List Frame} {meth : Method} {c : Code} {T : State} {locs : List Loc} {cells slots : Nat}
theorem vx_callIN (X : Stand p l e R s m args below meth c T locs cells slots) (hexec : p.tables.exec = Jvm.exec) {own : String} {index : Nat} {host : String} {y : MethodName} {bytes : ByteArray} {maxL : Nat}
    (hown : s.vm.findClass own = some m.cls) (hy1 : y.name = "<init>") (hlink : (Cond.methodLinkNest own index y host).before args s = true) (hinst : (Cond.instanceMethod y).before args s = true)
    (hcode : (Cond.code y bytes maxL none).before args s = true) (hy : y.cls ≠ "java/lang/invoke/MethodHandle" ∧ y.cls ≠ "java/lang/invoke/VarHandle")
    {W9 : Nat} {Pre : Pt → Array Value → Prop} {Post : Pt → Array Value → Option Value → Pt → Prop} {PostX : Pt → Array Value → Addr → Pt → Prop} (hK : vx_Back l R p e below s args y 3 W9 Pre Post PostX)
    {g : JFrame} (hg : g.method = m) (hsize : g.locals.size = c.maxLocals) {a : Addr} {argsL rest : List Value} (hlen : ∀ sig, parseMethodDescriptor y.desc = some sig → argsL.length = sig.parameters.length)
    (hstack : g.stack = argsL.reverse ++ .ref a :: rest) (hW : 2 * g.monitorRoom + (rest.map fun v => v.category).sum ≤ W9) (hdg : decode c.code g.pc = .ok (.invokespecial index, 3))
    (hpre : ∀ vm₁, s.WarmedH vm₁ → Pre ⟨T.setVm vm₁, locs, cells, slots⟩ (Value.ref a :: argsL).toArray) :
    (∃ (v : Option Value) (vm₁ : Vm) (B : Pt), s.WarmedH vm₁ ∧ Stand p l e R s m args below meth c B.U B.locs B.cells B.slots ∧ Post ⟨T.setVm vm₁, locs, cells, slots⟩ (Value.ref a :: argsL).toArray v B ∧
      ∀ target, Steps p.tables e below (B.U.setTop { g with pc := g.pc + 3, stack := v.toList ++ rest }) target → Steps p.tables e below (T.setTop g) target) ∨
    (∃ (q : Addr) (vm₁ : Vm) (B : Pt), s.WarmedH vm₁ ∧ Stand p l e R s m args below meth c B.U B.locs B.cells B.slots ∧ PostX ⟨T.setVm vm₁, locs, cells, slots⟩ (Value.ref a :: argsL).toArray q B ∧
      Steps p.tables e below (T.setTop g) ((B.U.setTop { g with stack := rest }).pushFrame (.throwing q))) := by
  subst hg
  have hpl : e.platform.magicAccessors = ({} : Platform).magicAccessors := by rw [X.admits.platform]
  obtain ⟨mk, methM, cM, kP, vm₁, hnamed, hmethM, hcodeM, -, hlocalsM, -, hkP, -, hW₁, hstep₁⟩ := Steps.initColdArgsNest (e := e) X.here hexec X.warmed hpl hown hy1 hy hlink hinst hcode (f := g) rfl hlen hstack hdg
  have X₁ := X.noted hW₁
  rcases hK g.method meth c ⟨T.setVm vm₁, locs, cells, slots⟩ { g with stack := rest } (.invokespecial index) mk (Value.ref a :: argsL).toArray X₁ rfl hsize hdg hW (X₁.named hnamed) (hpre vm₁ X₁.warmed) with ⟨v, B, X', hpost, hsteps⟩ | ⟨q, B, X', hpost, hsteps⟩
  · exact Or.inl ⟨v, vm₁, B, X₁.warmed, X', hpost, fun target h => hstep₁ _ fun acts => by rw [doInvoke_state]; exact hsteps.trans h⟩
  · exact Or.inr ⟨q, vm₁, B, X₁.warmed, X', hpost, hstep₁ _ fun acts => by rw [doInvoke_state]; exact hsteps⟩
end VXIC
section VXID
variable {p : Program} {l : Launch} {e : Env} {R : Room} {s : State} {m : MethodId} {args : Array Value} {below : List Frame} {meth : Method} {c : Code} {H : Heap} {locs : List Loc} {cells slots : Nat}
theorem vx_runIN {y : MethodName} {bytes cc : ByteArray} {maxL nL mc ms n index : Nat} {ws : List Cond} {rm : Room} {Pc : Array Value → State → Prop} {Qc : Array Value → State → Outcome → State → Prop} {XC : String → State → State → Prop} {free : Addr → Prop} {Ts : List Cond} {own host : String} {b : Addr} {As rest : List Value} {g : JFrame}
    (S : CallFix p m c cc nL s args Ts own) (hM : vx_Met l y ws rm Pc Qc XC mc ms free) (cw : va_CN R s args own index y host bytes maxL none ws rm mc ms n ∧ y.name = "<init>" ∧ (Cond.instanceMethod y).before args s = true) (hp : PreS s H Pc (.ref b :: As))
    (hg : g.method = m) (hn : As.length = n) (hsize : g.locals.size = nL) (hstack : g.stack = As.reverse ++ .ref b :: rest) (hW : 2 * g.monitorRoom + (rest.map fun v => v.category).sum ≤ 8) (hdg : decode cc g.pc = .ok (.invokespecial index, 3)) (hf : cells + mc ≤ R.cells ∧ slots + ms ≤ R.slots) :
    vx_Run p l e R s m args below meth c H locs cells slots mc ms g rest (Qc (Value.ref b :: As).toArray) XC free := by
  obtain ⟨⟨⟨hrc, hrs, hfr, hlo, hws, hcw⟩, hcode, hini, hy, hlen, hl⟩, hx1, hx2⟩ := cw
  have hK : vx_Back l R p e below s args y 3 8 (PreOf R mc ms Pc) (PostOf Qc mc ms free) (vx_Post XC mc ms free) := vx_back (bytes := bytes) (maxL := maxL) (ret := none) hM hp.1 hrc hrs hfr hlo hws hcw (fun a' U hW => word_at hW (Or.inl (by first | rfl | simp [Cond.onTables, Cond.keeps, Cond.steady])) hini)
  obtain ⟨hx, hb, hml, ho, -⟩ := S
  have hPc := hp.2
  intro T hT X
  rcases vx_callIN X hx (bytes := bytes) (maxL := maxL) ho hx1 hl hx2 hcode hy hK hg (hsize.trans hml.symm) (a := b) (argsL := As) (rest := rest) (fun sig h => hn.trans (hlen sig h)) hstack hW (by rw [hb]; exact hdg)
    (fun vm₁ hW₁ => ⟨hf.1, hf.2, hPc (T.setVm vm₁) hT hW₁⟩) with ⟨v, vm₁, ⟨U', l2, c2, s2⟩, hW₁, X', ⟨g', mk, t, L, e1, e2, hq, h1, hL, h2, h3⟩, st⟩ | ⟨q, vm₁, ⟨U', l2, c2, s2⟩, hW₁, X', ⟨g', mk, t, L, E, ce, e1, e2, hq, hce, hcv, hcl, h1, hL, h2, h3⟩, st⟩
  · dsimp only [Pt.U, Pt.locs, Pt.cells, Pt.slots] at X' e1 e2 h1 h2 h3 st
    subst h1; subst h2; subst h3
    exact Or.inl ⟨v, (T.setVm vm₁).calling g' mk (Value.ref b :: As).toArray, t, U', L, hT, X', hL, e1, e2, hq, st⟩
  · dsimp only [Pt.U, Pt.locs, Pt.cells, Pt.slots] at X' e1 e2 h1 h2 h3 st hcl
    subst h1; subst h2; subst h3
    exact Or.inr ⟨q, (T.setVm vm₁).calling g' mk (Value.ref b :: As).toArray, t, U', L, E, ce, hT, X', hL, e1, e2, hq, hce, hcv, vx_cls hW₁ hcl, st⟩
end VXID
/-! ===== END ===== -/
/-! ===== BEGIN a method of a class above, found by the receiver, that may throw (follows va_callVU, va_runU of this kit) ===== -/
section
variable {p : Program} {l : Launch} {e : Env} {R : Room} {s : State} {m : MethodId} {args : Array Value} {below : List Frame} {meth : Method} {c : Code} {H : Heap} {locs : List Loc} {cells slots : Nat}
theorem vx_callVU {T : State} {locs : List Loc} {cells slots : Nat} (X : Stand p l e R s m args below meth c T locs cells slots) (hexec : p.tables.exec = Jvm.exec) {own C owner : String} {index : Nat} {x y : MethodName} {bytes : ByteArray} {maxL : Nat} {ret : Option FieldType}
    (hown : s.vm.findClass own = some m.cls) (hlink : (Cond.methodLink own index x).before args s = true) (hsame : (Cond.sameMethod x.cls owner x.name x.desc).before args s = true)
    (hd0 : va_Decl s ⟨owner, x.name, x.desc⟩) (howner : owner ≠ "java/lang/invoke/MethodHandle" ∧ owner ≠ "java/lang/invoke/VarHandle")
    (hsel : (Cond.selects C x y).before args s = true) (hinst : (Cond.instanceMethod y).before args s = true) (hcode : (Cond.code y bytes maxL ret).before args s = true)
    {W : Nat} {Pre : Pt → Array Value → Prop} {Post : Pt → Array Value → Option Value → Pt → Prop} {PostX : Pt → Array Value → Addr → Pt → Prop} (hK : vx_Back l R p e below s args y 3 W Pre Post PostX)
    {b : Addr} {cellB : Cell} (hcell : T.heap[b]? = some cellB) (hobj : cellB.vm.isStatics = false) (hcls : s.vm.findClass C = some cellB.cls)
    {g : JFrame} (hg : g.method = m) (hsize : g.locals.size = c.maxLocals) {argsL rest : List Value} (hlen : ∀ sig, parseMethodDescriptor x.desc = some sig → argsL.length = sig.parameters.length)
    (hstack : g.stack = argsL.reverse ++ .ref b :: rest) (hW : 2 * g.monitorRoom + (rest.map fun v => v.category).sum ≤ W) (hdg : decode c.code g.pc = .ok (.invokevirtual index, 3))
    (hpre : ∀ vm₁, s.WarmedH vm₁ → Pre ⟨T.setVm vm₁, locs, cells, slots⟩ (Value.ref b :: argsL).toArray) :
    (∃ (v : Option Value) (vm₁ : Vm) (B : Pt), s.WarmedH vm₁ ∧ Stand p l e R s m args below meth c B.U B.locs B.cells B.slots ∧ Post ⟨T.setVm vm₁, locs, cells, slots⟩ (Value.ref b :: argsL).toArray v B ∧
      ∀ target, Steps p.tables e below (B.U.setTop { g with pc := g.pc + 3, stack := v.toList ++ rest }) target → Steps p.tables e below (T.setTop g) target) ∨
    (∃ (q : Addr) (vm₁ : Vm) (B : Pt), s.WarmedH vm₁ ∧ Stand p l e R s m args below meth c B.U B.locs B.cells B.slots ∧ PostX ⟨T.setVm vm₁, locs, cells, slots⟩ (Value.ref b :: argsL).toArray q B ∧
      Steps p.tables e below (T.setTop g) ((B.U.setTop { g with stack := rest }).pushFrame (.throwing q))) := by
  obtain ⟨r0, r, hn, hrm, hstR, hsigR⟩ := hd0
  obtain ⟨cn, ck, r1, hcn, hck, hni, hf, hn1⟩ := Cond.sameMethod_found hsame
  cases hn.symm.trans hn1
  obtain ⟨mk, methM, hnamed, hmethM, -, habM⟩ := Cond.instanceMethod_spec hinst
  obtain ⟨c2, r2, m2, q1, q2, q3, q4, kP, hkP, hkPi⟩ := Cond.selects_spec hsel
  cases hcls.symm.trans q1
  cases hf.symm.trans q2
  cases hnamed.symm.trans q3
  have hselP : selectMethod e.platform s.vm cellB.cls r0 = .method mk := by rw [Launch.admits_selectMethod X.admits]; exact q4
  obtain ⟨vm₁, X₁, hstep₁⟩ := X.invokevirtualUp hexec hown hlink hsame howner hn hrm hstR (a := b) (cell := cellB) hcell
    (fun z h => by rw [h] at hobj; cases hobj) hselP hmethM habM hkP hkPi (g := g) hg (argsL := argsL) (rest := rest) (hlen _ hsigR) hstack hdg
  rcases hK m meth c ⟨T.setVm vm₁, locs, cells, slots⟩ { g with stack := rest } (.invokevirtual index) mk (Value.ref b :: argsL).toArray X₁ hg hsize hdg hW (X₁.named hnamed) (hpre vm₁ X₁.warmed) with ⟨v, B, X', hpost, hsteps⟩ | ⟨q, B, X', hpost, hsteps⟩
  · exact Or.inl ⟨v, vm₁, B, X₁.warmed, X', hpost, fun target h => hstep₁ _ fun acts => by rw [doInvoke_state]; exact hsteps.trans h⟩
  · exact Or.inr ⟨q, vm₁, B, X₁.warmed, X', hpost, hstep₁ _ fun acts => by rw [doInvoke_state]; exact hsteps⟩
theorem vx_runU {x y : MethodName} {bytes cc : ByteArray} {maxL nL mc ms n index : Nat} {ret : Option FieldType} {ws : List Cond} {rm : Room} {Pc : Array Value → State → Prop} {Qc : Array Value → State → Outcome → State → Prop} {XC : String → State → State → Prop} {free : Addr → Prop} {Ts : List Cond} {own C owner : String} {b : Addr} {As rest : List Value} {g : JFrame}
    (S : CallFix p m c cc nL s args Ts own) (hM : vx_Met l y ws rm Pc Qc XC mc ms free) (cw : va_CU R s args own C owner index x y bytes maxL ret ws rm mc ms n) (hp : PreV s H C b Pc As)
    (hg : g.method = m) (hn : As.length = n) (hsize : g.locals.size = nL) (hstack : g.stack = As.reverse ++ .ref b :: rest) (hW : 2 * g.monitorRoom + (rest.map fun v => v.category).sum ≤ 8) (hdg : decode cc g.pc = .ok (.invokevirtual index, 3)) (hf : cells + mc ≤ R.cells ∧ slots + ms ≤ R.slots) :
    vx_Run p l e R s m args below meth c H locs cells slots mc ms g rest (Qc (Value.ref b :: As).toArray) XC free := by
  obtain ⟨hrc, hrs, hfr, hlo, hws, hcw⟩ := cw.back
  have hini := cw.init
  have hK : vx_Back l R p e below s args y 3 8 (PreOf R mc ms Pc) (PostOf Qc mc ms free) (vx_Post XC mc ms free) := vx_back (bytes := bytes) (maxL := maxL) (ret := ret) hM hp.1 hrc hrs hfr hlo hws hcw (fun a' U hW => word_at hW (Or.inl (by first | rfl | simp [Cond.onTables, Cond.keeps, Cond.steady])) hini)
  obtain ⟨hx, hb, hml, ho, -⟩ := S
  obtain ⟨-, ⟨cellB, hcB, hoB, hclB⟩, hPc⟩ := hp
  intro T hT X
  rcases vx_callVU X hx (C := C) (owner := owner) (bytes := bytes) (maxL := maxL) (ret := ret) ho cw.link cw.same cw.decl cw.notMH cw.sel cw.inst cw.code hK (by rw [hT]; exact hcB) hoB hclB hg (hsize.trans hml.symm) (argsL := As) (rest := rest) (fun sig h => hn.trans (cw.len sig h)) hstack hW (by rw [hb]; exact hdg)
    (fun vm₁ hW₁ => ⟨hf.1, hf.2, hPc (T.setVm vm₁) hT hW₁⟩) with ⟨v, vm₁, ⟨U', l2, c2, s2⟩, hW₁, X', ⟨g', mk, t, L, e1, e2, hq, h1, hL, h2, h3⟩, st⟩ | ⟨q, vm₁, ⟨U', l2, c2, s2⟩, hW₁, X', ⟨g', mk, t, L, E, ce, e1, e2, hq, hce, hcv, hcl, h1, hL, h2, h3⟩, st⟩
  · dsimp only [Pt.U, Pt.locs, Pt.cells, Pt.slots] at X' e1 e2 h1 h2 h3 st
    subst h1; subst h2; subst h3
    exact Or.inl ⟨v, (T.setVm vm₁).calling g' mk (Value.ref b :: As).toArray, t, U', L, hT, X', hL, e1, e2, hq, st⟩
  · dsimp only [Pt.U, Pt.locs, Pt.cells, Pt.slots] at X' e1 e2 h1 h2 h3 st hcl
    subst h1; subst h2; subst h3
    exact Or.inr ⟨q, (T.setVm vm₁).calling g' mk (Value.ref b :: As).toArray, t, U', L, E, ce, hT, X', hL, e1, e2, hq, hce, hcv, vx_cls hW₁ hcl, st⟩
end
/-! ===== END ===== -/
/-! ===== BEGIN super.m(..) that may throw (follows va_callSU, va_runSU) ===== -/
section
variable {p : Program} {l : Launch} {e : Env} {R : Room} {s : State} {m : MethodId} {args : Array Value} {below : List Frame} {meth : Method} {c : Code} {H : Heap} {locs : List Loc} {cells slots : Nat}
theorem vx_callSU {T : State} {locs : List Loc} {cells slots : Nat} (X : Stand p l e R s m args below meth c T locs cells slots) (hexec : p.tables.exec = Jvm.exec) {own : String} {index : Nat} {y : MethodName} {bytes : ByteArray} {maxL : Nat} {ret : Option FieldType}
    (hown : s.vm.findClass own = some m.cls) (hlink : (Cond.methodLink own index y).before args s = true) (hsame : (Cond.sameMethod y.cls y.cls y.name y.desc).before args s = true) (hsup : (Cond.superclass own y.cls).before args s = true)
    (hinst : (Cond.instanceMethod y).before args s = true) (hcode : (Cond.code y bytes maxL ret).before args s = true) (hno : y.name ≠ "<init>")
    {W : Nat} {Pre : Pt → Array Value → Prop} {Post : Pt → Array Value → Option Value → Pt → Prop} {PostX : Pt → Array Value → Addr → Pt → Prop} (hK : vx_Back l R p e below s args y 3 W Pre Post PostX)
    {b : Addr} {cellB : Cell} {kB : Class} (hcell : T.heap[b]? = some cellB) (hobj : cellB.vm.isStatics = false) (hkB : s.vm.classes[cellB.cls]? = some kB)
    {g : JFrame} (hg : g.method = m) (hsize : g.locals.size = c.maxLocals) {argsL rest : List Value} (hlen : ∀ sig, parseMethodDescriptor y.desc = some sig → argsL.length = sig.parameters.length)
    (hstack : g.stack = argsL.reverse ++ .ref b :: rest) (hW : 2 * g.monitorRoom + (rest.map fun v => v.category).sum ≤ W) (hdg : decode c.code g.pc = .ok (.invokespecial index, 3))
    (hpre : ∀ vm₁, s.WarmedH vm₁ → Pre ⟨T.setVm vm₁, locs, cells, slots⟩ (Value.ref b :: argsL).toArray) :
    (∃ (v : Option Value) (vm₁ : Vm) (B : Pt), s.WarmedH vm₁ ∧ Stand p l e R s m args below meth c B.U B.locs B.cells B.slots ∧ Post ⟨T.setVm vm₁, locs, cells, slots⟩ (Value.ref b :: argsL).toArray v B ∧
      ∀ target, Steps p.tables e below (B.U.setTop { g with pc := g.pc + 3, stack := v.toList ++ rest }) target → Steps p.tables e below (T.setTop g) target) ∨
    (∃ (q : Addr) (vm₁ : Vm) (B : Pt), s.WarmedH vm₁ ∧ Stand p l e R s m args below meth c B.U B.locs B.cells B.slots ∧ PostX ⟨T.setVm vm₁, locs, cells, slots⟩ (Value.ref b :: argsL).toArray q B ∧
      Steps p.tables e below (T.setTop g) ((B.U.setTop { g with stack := rest }).pushFrame (.throwing q))) := by
  obtain ⟨mk, methM, hnamed, hmethM, hstM, habM⟩ := Cond.instanceMethod_spec hinst
  obtain ⟨methM', cM, hmethM', -, -, -, -, -, -, hsigM⟩ := Cond.code_spec hnamed hcode
  cases hmethM.symm.trans hmethM'
  obtain ⟨ps, dk, kp, hps, hdk, hkp, hsuper, -, -, hnid⟩ := Cond.superclass_spec hown hsup
  have hn : s.methodNamed? ⟨y.cls, y.name, y.desc⟩ = some mk := hnamed
  have hpm : ps = mk.cls := Option.some.inj (hps.symm.trans (findClass_of_methodNamed hnamed))
  have hsub : s.vm.isSubclass ps mk.cls = true := by rw [hpm]; simp [Vm.isSubclass, Vm.isSubclassAux]
  obtain ⟨vm₁, X₁, hstep₁⟩ := X.invokespecialUp hexec hown hlink hsame hn hmethM hstM habM hno hdk hnid hps hsuper hsub (a := b) (cell := cellB) hcell
    (fun z h => by rw [h] at hobj; cases hobj) hkB (g := g) hg (argsL := argsL) (rest := rest) (hlen _ hsigM) hstack hdg
  rcases hK m meth c ⟨T.setVm vm₁, locs, cells, slots⟩ { g with stack := rest } (.invokespecial index) mk (Value.ref b :: argsL).toArray X₁ hg hsize hdg hW (X₁.named hnamed) (hpre vm₁ X₁.warmed) with ⟨v, B, X', hpost, hsteps⟩ | ⟨q, B, X', hpost, hsteps⟩
  · exact Or.inl ⟨v, vm₁, B, X₁.warmed, X', hpost, fun target h => hstep₁ _ (by rw [doInvoke_state]; exact hsteps.trans h)⟩
  · exact Or.inr ⟨q, vm₁, B, X₁.warmed, X', hpost, hstep₁ _ (by rw [doInvoke_state]; exact hsteps)⟩
theorem vx_runSU {y : MethodName} {bytes cc : ByteArray} {maxL nL mc ms n index : Nat} {ret : Option FieldType} {ws : List Cond} {rm : Room} {Pc : Array Value → State → Prop} {Qc : Array Value → State → Outcome → State → Prop} {XC : String → State → State → Prop} {free : Addr → Prop} {Ts : List Cond} {own C : String} {cC : ClassId} {b : Addr} {As rest : List Value} {g : JFrame}
    (hat : ClassAt s C cC) (S : CallFix p m c cc nL s args Ts own) (hM : vx_Met l y ws rm Pc Qc XC mc ms free) (cw : va_CS R s args own index y bytes maxL ret ws rm mc ms n) (hp : PreV s H C b Pc As)
    (hg : g.method = m) (hn : As.length = n) (hsize : g.locals.size = nL) (hstack : g.stack = As.reverse ++ .ref b :: rest) (hW : 2 * g.monitorRoom + (rest.map fun v => v.category).sum ≤ 8) (hdg : decode cc g.pc = .ok (.invokespecial index, 3)) (hf : cells + mc ≤ R.cells ∧ slots + ms ≤ R.slots) :
    vx_Run p l e R s m args below meth c H locs cells slots mc ms g rest (Qc (Value.ref b :: As).toArray) XC free := by
  obtain ⟨⟨hrc, hrs, hfr, hlo, hws, hcw⟩, hl1, hl2, hl3, hl4, hini, hcode, hno, hlen⟩ := cw
  have hK : vx_Back l R p e below s args y 3 8 (PreOf R mc ms Pc) (PostOf Qc mc ms free) (vx_Post XC mc ms free) := vx_back (bytes := bytes) (maxL := maxL) (ret := ret) hM hp.1 hrc hrs hfr hlo hws hcw (fun a' U hW => word_at hW (Or.inl (by first | rfl | simp [Cond.onTables, Cond.keeps, Cond.steady])) hini)
  obtain ⟨hx, hb, hml, ho, -⟩ := S
  obtain ⟨-, ⟨cellB, hcB, hoB, hclB⟩, hPc⟩ := hp
  obtain ⟨hfc, kB, hkB, -⟩ := hat
  cases hfc.symm.trans hclB
  intro T hT X
  rcases vx_callSU X hx (bytes := bytes) (maxL := maxL) (ret := ret) ho hl1 hl2 hl3 hl4 hcode hno hK (by rw [hT]; exact hcB) hoB hkB hg (hsize.trans hml.symm) (argsL := As) (rest := rest) (fun sig h => hn.trans (hlen sig h)) hstack hW (by rw [hb]; exact hdg)
    (fun vm₁ hW₁ => ⟨hf.1, hf.2, hPc (T.setVm vm₁) hT hW₁⟩) with ⟨v, vm₁, ⟨U', l2, c2, s2⟩, hW₁, X', ⟨g', mk, t, L, e1, e2, hq, h1, hL, h2, h3⟩, st⟩ | ⟨q, vm₁, ⟨U', l2, c2, s2⟩, hW₁, X', ⟨g', mk, t, L, E, ce, e1, e2, hq, hce, hcv, hcl, h1, hL, h2, h3⟩, st⟩
  · dsimp only [Pt.U, Pt.locs, Pt.cells, Pt.slots] at X' e1 e2 h1 h2 h3 st
    subst h1; subst h2; subst h3
    exact Or.inl ⟨v, (T.setVm vm₁).calling g' mk (Value.ref b :: As).toArray, t, U', L, hT, X', hL, e1, e2, hq, st⟩
  · dsimp only [Pt.U, Pt.locs, Pt.cells, Pt.slots] at X' e1 e2 h1 h2 h3 st hcl
    subst h1; subst h2; subst h3
    exact Or.inr ⟨q, (T.setVm vm₁).calling g' mk (Value.ref b :: As).toArray, t, U', L, E, ce, hT, X', hL, e1, e2, hq, hce, hcv, vx_cls hW₁ hcl, st⟩
end
/-! ===== END ===== -/
/-! ===== BEGIN a private method of a nest mate that may throw (follows va_callVN, va_callSN, va_runVN, va_runSN) ===== -/
section
variable {p : Program} {l : Launch} {e : Env} {R : Room} {s : State} {m : MethodId} {args : Array Value} {below : List Frame} {meth : Method} {c : Code} {H : Heap} {locs : List Loc} {cells slots : Nat}
variable {T : State}
theorem vx_callVN (X : Stand p l e R s m args below meth c T locs cells slots) (hexec : p.tables.exec = Jvm.exec) {own C : String} {index : Nat} {host : String} {y : MethodName} {bytes : ByteArray} {maxL : Nat} {ret : Option FieldType}
    (hown : s.vm.findClass own = some m.cls) (hlink : (Cond.methodLinkNest own index y host).before args s = true) (hinst : (Cond.instanceMethod y).before args s = true) (hsel : (Cond.selects C y y).before args s = true)
    (hcode : (Cond.code y bytes maxL ret).before args s = true) (hy : y.cls ≠ "java/lang/invoke/MethodHandle" ∧ y.cls ≠ "java/lang/invoke/VarHandle")
    {W : Nat} {Pre : Pt → Array Value → Prop} {Post : Pt → Array Value → Option Value → Pt → Prop} {PostX : Pt → Array Value → Addr → Pt → Prop} (hK : vx_Back l R p e below s args y 3 W Pre Post PostX)
    {b : Addr} {cellB : Cell} (hcell : T.heap[b]? = some cellB) (hobj : cellB.vm.isStatics = false) (hcls : s.vm.findClass C = some cellB.cls)
    {g : JFrame} (hg : g.method = m) (hsize : g.locals.size = c.maxLocals) {argsL rest : List Value} (hlen : ∀ sig, parseMethodDescriptor y.desc = some sig → argsL.length = sig.parameters.length)
    (hstack : g.stack = argsL.reverse ++ .ref b :: rest) (hW : 2 * g.monitorRoom + (rest.map fun v => v.category).sum ≤ W) (hdg : decode c.code g.pc = .ok (.invokevirtual index, 3))
    (hpre : ∀ vm₁, s.WarmedH vm₁ → Pre ⟨T.setVm vm₁, locs, cells, slots⟩ (Value.ref b :: argsL).toArray) :
    (∃ (v : Option Value) (vm₁ : Vm) (B : Pt), s.WarmedH vm₁ ∧ Stand p l e R s m args below meth c B.U B.locs B.cells B.slots ∧ Post ⟨T.setVm vm₁, locs, cells, slots⟩ (Value.ref b :: argsL).toArray v B ∧
      ∀ target, Steps p.tables e below (B.U.setTop { g with pc := g.pc + 3, stack := v.toList ++ rest }) target → Steps p.tables e below (T.setTop g) target) ∨
    (∃ (q : Addr) (vm₁ : Vm) (B : Pt), s.WarmedH vm₁ ∧ Stand p l e R s m args below meth c B.U B.locs B.cells B.slots ∧ PostX ⟨T.setVm vm₁, locs, cells, slots⟩ (Value.ref b :: argsL).toArray q B ∧
      Steps p.tables e below (T.setTop g) ((B.U.setTop { g with stack := rest }).pushFrame (.throwing q))) := by
  obtain ⟨mk, methM, hnamed, hmethM, hstM, habM⟩ := Cond.instanceMethod_spec hinst
  obtain ⟨methM', cM, hmethM', -, -, -, -, -, -, hsigM⟩ := Cond.code_spec hnamed hcode
  cases hmethM.symm.trans hmethM'
  obtain ⟨c2, r2, m2, q1, q2, q3, q4, kP, hkP, hkPi⟩ := Cond.selects_spec hsel
  cases hcls.symm.trans q1
  cases (State.methodFound?_of_named hnamed hy).symm.trans q2
  cases hnamed.symm.trans q3
  have hselP : selectMethod e.platform s.vm cellB.cls mk = .method mk := by rw [Launch.admits_selectMethod X.admits]; exact q4
  obtain ⟨vm₁, X₁, hstep₁⟩ := X.invokevirtualNest hexec hown hlink hnamed hmethM hstM hkP hkPi hy (a := b) (cell := cellB) hcell
    (fun z h => by rw [h] at hobj; cases hobj) hselP hmethM habM hkP hkPi (g := g) hg (argsL := argsL) (rest := rest) (hlen _ hsigM) hstack hdg
  rcases hK m meth c ⟨T.setVm vm₁, locs, cells, slots⟩ { g with stack := rest } (.invokevirtual index) mk (Value.ref b :: argsL).toArray X₁ hg hsize hdg hW (X₁.named hnamed) (hpre vm₁ X₁.warmed) with ⟨v, B, X', hpost, hsteps⟩ | ⟨q, B, X', hpost, hsteps⟩
  · exact Or.inl ⟨v, vm₁, B, X₁.warmed, X', hpost, fun target h => hstep₁ _ fun acts => by rw [doInvoke_state]; exact hsteps.trans h⟩
  · exact Or.inr ⟨q, vm₁, B, X₁.warmed, X', hpost, hstep₁ _ fun acts => by rw [doInvoke_state]; exact hsteps⟩
theorem vx_callSN (X : Stand p l e R s m args below meth c T locs cells slots) (hexec : p.tables.exec = Jvm.exec) {own : String} {index : Nat} {host : String} {y : MethodName} {bytes : ByteArray} {maxL : Nat} {ret : Option FieldType}
    (hown : s.vm.findClass own = some m.cls) (hlink : (Cond.methodLinkNest own index y host).before args s = true) (hstat : (Cond.static y).before args s = true) (hinit : (Cond.initialized y.cls).before args s = true)
    (hcode : (Cond.code y bytes maxL ret).before args s = true) (hy : y.cls ≠ "java/lang/invoke/MethodHandle" ∧ y.cls ≠ "java/lang/invoke/VarHandle")
    {W : Nat} {Pre : Pt → Array Value → Prop} {Post : Pt → Array Value → Option Value → Pt → Prop} {PostX : Pt → Array Value → Addr → Pt → Prop} (hK : vx_Back l R p e below s args y 3 W Pre Post PostX)
    {g : JFrame} (hg : g.method = m) (hsize : g.locals.size = c.maxLocals) {argsL rest : List Value} (hlen : ∀ sig, parseMethodDescriptor y.desc = some sig → argsL.length = sig.parameters.length)
    (hstack : g.stack = argsL.reverse ++ rest) (hW : 2 * g.monitorRoom + (rest.map fun v => v.category).sum ≤ W) (hdg : decode c.code g.pc = .ok (.invokestatic index, 3))
    (hpre : ∀ vm₁, s.WarmedH vm₁ → Pre ⟨T.setVm vm₁, locs, cells, slots⟩ argsL.toArray) :
    (∃ (v : Option Value) (vm₁ : Vm) (B : Pt), s.WarmedH vm₁ ∧ Stand p l e R s m args below meth c B.U B.locs B.cells B.slots ∧ Post ⟨T.setVm vm₁, locs, cells, slots⟩ argsL.toArray v B ∧
      ∀ target, Steps p.tables e below (B.U.setTop { g with pc := g.pc + 3, stack := v.toList ++ rest }) target → Steps p.tables e below (T.setTop g) target) ∨
    (∃ (q : Addr) (vm₁ : Vm) (B : Pt), s.WarmedH vm₁ ∧ Stand p l e R s m args below meth c B.U B.locs B.cells B.slots ∧ PostX ⟨T.setVm vm₁, locs, cells, slots⟩ argsL.toArray q B ∧
      Steps p.tables e below (T.setTop g) ((B.U.setTop { g with stack := rest }).pushFrame (.throwing q))) := by
  obtain ⟨mk, hnamed⟩ := Cond.code_named hcode
  obtain ⟨methM, cM, hmethM, -, -, -, -, -, -, hsigM⟩ := Cond.code_spec hnamed hcode
  have hstatic : methM.isStatic = true := Cond.static_spec hnamed hmethM hstat
  obtain ⟨kP, hkP, -⟩ := className_of_methodNamed hnamed
  have hinitP : kP.init = .initialized := Cond.initialized_spec (findClass_of_methodNamed hnamed) hkP hinit
  obtain ⟨vm₁, X₁, hstep₁⟩ := X.invokestaticNest hexec hown hlink hnamed hmethM hstatic hkP hinitP hy (g := g) hg (argsL := argsL) (rest := rest) (hlen _ hsigM) hstack hdg
  rcases hK m meth c ⟨T.setVm vm₁, locs, cells, slots⟩ { g with stack := rest } (.invokestatic index) mk argsL.toArray X₁ hg hsize hdg hW (X₁.named hnamed) (hpre vm₁ X₁.warmed) with ⟨v, B, X', hpost, hsteps⟩ | ⟨q, B, X', hpost, hsteps⟩
  · exact Or.inl ⟨v, vm₁, B, X₁.warmed, X', hpost, fun target h => hstep₁ _ fun acts => by rw [doInvoke_state]; exact hsteps.trans h⟩
  · exact Or.inr ⟨q, vm₁, B, X₁.warmed, X', hpost, hstep₁ _ fun acts => by rw [doInvoke_state]; exact hsteps⟩
theorem vx_runVN {y : MethodName} {bytes cc : ByteArray} {maxL nL mc ms n index : Nat} {ret : Option FieldType} {ws : List Cond} {rm : Room} {Pc : Array Value → State → Prop} {Qc : Array Value → State → Outcome → State → Prop} {XC : String → State → State → Prop} {free : Addr → Prop} {Ts : List Cond} {own C host : String} {b : Addr} {As rest : List Value} {g : JFrame}
    (S : CallFix p m c cc nL s args Ts own) (hM : vx_Met l y ws rm Pc Qc XC mc ms free) (cw : va_CN R s args own index y host bytes maxL ret ws rm mc ms n ∧ (Cond.instanceMethod y).before args s = true ∧ (Cond.selects C y y).before args s = true) (hp : PreV s H C b Pc As)
    (hg : g.method = m) (hn : As.length = n) (hsize : g.locals.size = nL) (hstack : g.stack = As.reverse ++ .ref b :: rest) (hW : 2 * g.monitorRoom + (rest.map fun v => v.category).sum ≤ 8) (hdg : decode cc g.pc = .ok (.invokevirtual index, 3)) (hf : cells + mc ≤ R.cells ∧ slots + ms ≤ R.slots) :
    vx_Run p l e R s m args below meth c H locs cells slots mc ms g rest (Qc (Value.ref b :: As).toArray) XC free := by
  obtain ⟨⟨⟨hrc, hrs, hfr, hlo, hws, hcw⟩, hcode, hini, hy, hlen, hl⟩, hx1, hx2⟩ := cw
  have hK : vx_Back l R p e below s args y 3 8 (PreOf R mc ms Pc) (PostOf Qc mc ms free) (vx_Post XC mc ms free) := vx_back (bytes := bytes) (maxL := maxL) (ret := ret) hM hp.1 hrc hrs hfr hlo hws hcw (fun a' U hW => word_at hW (Or.inl (by first | rfl | simp [Cond.onTables, Cond.keeps, Cond.steady])) hini)
  obtain ⟨hx, hb, hml, ho, -⟩ := S
  obtain ⟨-, ⟨cellB, hcB, hoB, hclB⟩, hPc⟩ := hp
  intro T hT X
  rcases vx_callVN X hx (C := C) (bytes := bytes) (maxL := maxL) (ret := ret) ho hl hx1 hx2 hcode hy hK (by rw [hT]; exact hcB) hoB hclB hg (hsize.trans hml.symm) (argsL := As) (rest := rest) (fun sig h => hn.trans (hlen sig h)) hstack hW (by rw [hb]; exact hdg)
    (fun vm₁ hW₁ => ⟨hf.1, hf.2, hPc (T.setVm vm₁) hT hW₁⟩) with ⟨v, vm₁, ⟨U', l2, c2, s2⟩, hW₁, X', ⟨g', mk, t, L, e1, e2, hq, h1, hL, h2, h3⟩, st⟩ | ⟨q, vm₁, ⟨U', l2, c2, s2⟩, hW₁, X', ⟨g', mk, t, L, E, ce, e1, e2, hq, hce, hcv, hcl, h1, hL, h2, h3⟩, st⟩
  · dsimp only [Pt.U, Pt.locs, Pt.cells, Pt.slots] at X' e1 e2 h1 h2 h3 st
    subst h1; subst h2; subst h3
    exact Or.inl ⟨v, (T.setVm vm₁).calling g' mk (Value.ref b :: As).toArray, t, U', L, hT, X', hL, e1, e2, hq, st⟩
  · dsimp only [Pt.U, Pt.locs, Pt.cells, Pt.slots] at X' e1 e2 h1 h2 h3 st hcl
    subst h1; subst h2; subst h3
    exact Or.inr ⟨q, (T.setVm vm₁).calling g' mk (Value.ref b :: As).toArray, t, U', L, E, ce, hT, X', hL, e1, e2, hq, hce, hcv, vx_cls hW₁ hcl, st⟩
theorem vx_runSN {y : MethodName} {bytes cc : ByteArray} {maxL nL mc ms n index : Nat} {ret : Option FieldType} {ws : List Cond} {rm : Room} {Pc : Array Value → State → Prop} {Qc : Array Value → State → Outcome → State → Prop} {XC : String → State → State → Prop} {free : Addr → Prop} {Ts : List Cond} {own host : String} {As rest : List Value} {g : JFrame}
    (S : CallFix p m c cc nL s args Ts own) (hM : vx_Met l y ws rm Pc Qc XC mc ms free) (cw : va_CN R s args own index y host bytes maxL ret ws rm mc ms n ∧ (Cond.static y).before args s = true ∧ True) (hp : PreS s H Pc As)
    (hg : g.method = m) (hn : As.length = n) (hsize : g.locals.size = nL) (hstack : g.stack = As.reverse ++ rest) (hW : 2 * g.monitorRoom + (rest.map fun v => v.category).sum ≤ 8) (hdg : decode cc g.pc = .ok (.invokestatic index, 3)) (hf : cells + mc ≤ R.cells ∧ slots + ms ≤ R.slots) :
    vx_Run p l e R s m args below meth c H locs cells slots mc ms g rest (Qc As.toArray) XC free := by
  obtain ⟨⟨⟨hrc, hrs, hfr, hlo, hws, hcw⟩, hcode, hini, hy, hlen, hl⟩, hx1, hx2⟩ := cw
  have hK : vx_Back l R p e below s args y 3 8 (PreOf R mc ms Pc) (PostOf Qc mc ms free) (vx_Post XC mc ms free) := vx_back (bytes := bytes) (maxL := maxL) (ret := ret) hM hp.1 hrc hrs hfr hlo hws hcw (fun a' U hW => word_at hW (Or.inl (by first | rfl | simp [Cond.onTables, Cond.keeps, Cond.steady])) hini)
  obtain ⟨hx, hb, hml, ho, -⟩ := S
  have hPc := hp.2
  intro T hT X
  rcases vx_callSN X hx (bytes := bytes) (maxL := maxL) (ret := ret) ho hl hx1 hini hcode hy hK hg (hsize.trans hml.symm) (argsL := As) (rest := rest) (fun sig h => hn.trans (hlen sig h)) hstack hW (by rw [hb]; exact hdg)
    (fun vm₁ hW₁ => ⟨hf.1, hf.2, hPc (T.setVm vm₁) hT hW₁⟩) with ⟨v, vm₁, ⟨U', l2, c2, s2⟩, hW₁, X', ⟨g', mk, t, L, e1, e2, hq, h1, hL, h2, h3⟩, st⟩ | ⟨q, vm₁, ⟨U', l2, c2, s2⟩, hW₁, X', ⟨g', mk, t, L, E, ce, e1, e2, hq, hce, hcv, hcl, h1, hL, h2, h3⟩, st⟩
  · dsimp only [Pt.U, Pt.locs, Pt.cells, Pt.slots] at X' e1 e2 h1 h2 h3 st
    subst h1; subst h2; subst h3
    exact Or.inl ⟨v, (T.setVm vm₁).calling g' mk As.toArray, t, U', L, hT, X', hL, e1, e2, hq, st⟩
  · dsimp only [Pt.U, Pt.locs, Pt.cells, Pt.slots] at X' e1 e2 h1 h2 h3 st hcl
    subst h1; subst h2; subst h3
    exact Or.inr ⟨q, (T.setVm vm₁).calling g' mk As.toArray, t, U', L, E, ce, hT, X', hL, e1, e2, hq, hce, hcv, vx_cls hW₁ hcl, st⟩
end
/-! ===== END ===== -/
/-! ===== BEGIN calls by an interface of methods that may throw (vx_callIF, vx_runF follow va_callIF, va_runF of this kit) ===== -/
section
variable {p : Program} {l : Launch} {e : Env} {R : Room} {s : State} {m : MethodId} {args : Array Value} {below : List Frame} {meth : Method} {c : Code} {H : Heap} {locs : List Loc} {cells slots : Nat} {Q : State → Prop}
variable {mc ms : Nat} {free : Addr → Prop} {A0 A1 : Nat → Prop} {H0 : Heap} {a : Array Value} {pc : Nat} {ls : Array Slot} {st0 rest : List Value}
def vx_Run5 (p : Program) (l : Launch) (e : Env) (R : Room) (s : State) (m : MethodId) (args : Array Value) (below : List Frame) (meth : Method) (c : Code) (H : Heap) (locs : List Loc) (cells slots mc ms : Nat) (g : JFrame) (rest : List Value) (Qa : State → Outcome → State → Prop) (XC : String → State → State → Prop) (free : Addr → Prop) : Prop :=
  ∀ T : State, T.heap = H → Stand p l e R s m args below meth c T locs cells slots →
    (∃ (v : Option Value) (st₀ t T' : State) (L : List Loc), st₀.heap = H ∧ Stand p l e R s m args below meth c T' (locs ++ L) (cells + mc) (slots + ms) ∧ (∀ q ∈ L, free q.base) ∧ T'.heap = t.heap ∧ T'.vm = t.vm ∧ Qa st₀ (.returned v) t ∧
      Goes p e below T g T' { g with pc := g.pc + 5, stack := v.toList ++ rest }) ∨
    (∃ (q : Addr) (st₀ t T' : State) (L : List Loc) (E : String) (ce : Cell), st₀.heap = H ∧ Stand p l e R s m args below meth c T' (locs ++ L) (cells + mc) (slots + ms) ∧ (∀ z ∈ L, free z.base) ∧ T'.heap = t.heap ∧ T'.vm = t.vm ∧ XC E st₀ t ∧ t.heap[q]? = some ce ∧ ce.vm = .none ∧ s.vm.findClass E = some ce.cls ∧
      Steps p.tables e below (T.setTop g) ((T'.setTop { g with stack := rest }).pushFrame (.throwing q)))
theorem vx_callIF {T : State} (X : Stand p l e R s m args below meth c T locs cells slots) (hexec : p.tables.exec = Jvm.exec) {own C : String} {index count : Nat} {x y : MethodName} {bytes : ByteArray} {maxL : Nat} {ret : Option FieldType}
    (hown : s.vm.findClass own = some m.cls) (hlink : (Cond.methodLink own index x).before args s = true) (hdecl : (Cond.declares x).before args s = true) (hface : (Cond.interfaceMethod x.cls x.cls x.name x.desc).before args s = true)
    (hsel : (Cond.selects C x y).before args s = true) (hinst : (Cond.instanceMethod y).before args s = true) (hpub : (Cond.publicMethod y).before args s = true) (hunh : (Cond.unhidden C x.name x.desc).before args s = true)
    (hcast : (Cond.castable C x.cls).before args s = true) (hcode : (Cond.code y bytes maxL ret).before args s = true) (hx : x.cls ≠ "java/lang/invoke/MethodHandle" ∧ x.cls ≠ "java/lang/invoke/VarHandle")
    {W9 : Nat} {Pre : Pt → Array Value → Prop} {Post : Pt → Array Value → Option Value → Pt → Prop} {PostX : Pt → Array Value → Addr → Pt → Prop} (hK : vx_Back l R p e below s args y 5 W9 Pre Post PostX)
    {b : Addr} {cellB : Cell} {kB : Class} (hcell : T.heap[b]? = some cellB) (hobj : cellB.vm.isStatics = false) (hcls : s.vm.findClass C = some cellB.cls) (hkB : s.vm.classes[cellB.cls]? = some kB)
    {g : JFrame} (hg : g.method = m) (hsize : g.locals.size = c.maxLocals) {argsL rest : List Value} (hlen : ∀ sig, parseMethodDescriptor x.desc = some sig → argsL.length = sig.parameters.length)
    (hstack : g.stack = argsL.reverse ++ .ref b :: rest) (hW : 2 * g.monitorRoom + (rest.map fun v => v.category).sum ≤ W9) (hdg : decode c.code g.pc = .ok (.invokeinterface index count, 5))
    (hpre : ∀ vm₁, s.WarmedH vm₁ → Pre ⟨T.setVm vm₁, locs, cells, slots⟩ (Value.ref b :: argsL).toArray) :
    (∃ (v : Option Value) (vm₁ : Vm) (B : Pt), s.WarmedH vm₁ ∧ Stand p l e R s m args below meth c B.U B.locs B.cells B.slots ∧ Post ⟨T.setVm vm₁, locs, cells, slots⟩ (Value.ref b :: argsL).toArray v B ∧
      ∀ target, Steps p.tables e below (B.U.setTop { g with pc := g.pc + 5, stack := v.toList ++ rest }) target → Steps p.tables e below (T.setTop g) target) ∨
    (∃ (q : Addr) (vm₁ : Vm) (B : Pt), s.WarmedH vm₁ ∧ Stand p l e R s m args below meth c B.U B.locs B.cells B.slots ∧ PostX ⟨T.setVm vm₁, locs, cells, slots⟩ (Value.ref b :: argsL).toArray q B ∧
      Steps p.tables e below (T.setTop g) ((B.U.setTop { g with stack := rest }).pushFrame (.throwing q))) := by
  obtain ⟨r0, r, hn, hrm, hstR, hsigR⟩ := Cond.declares_spec hdecl
  obtain ⟨cL, kL, r1, hcL, hkL, hiL, hfoundL, hn1⟩ := Cond.interfaceMethod_spec hface
  cases hn.symm.trans hn1
  have hr0cls : r0.cls = cL := Option.some.inj ((findClass_of_methodNamed hn).symm.trans hcL)
  obtain ⟨hnameR, hdescR⟩ := name_of_methodNamed hn hrm
  obtain ⟨mk, methM, hnamed, hmethM, -, habM⟩ := Cond.instanceMethod_spec hinst
  obtain ⟨c2, r2, m2, q1, q2, q3, q4, -⟩ := Cond.selects_spec hsel
  cases hcls.symm.trans q1
  cases hfoundL.symm.trans q2
  cases hnamed.symm.trans q3
  have hselP : selectMethod e.platform s.vm cellB.cls r0 = .method mk := by rw [Launch.admits_selectMethod X.admits]; exact q4
  have hpubM : hasFlag methM.accessFlags Acc.public_ = true := Cond.publicMethod_spec hnamed hmethM hpub
  have hway : ((cellB.cls :: s.vm.superclasses cellB.cls).any fun k => (declaredIn s.vm r.name r.desc k).any fun (_, z) => z.isPrivate || z.isStatic) = false := by
    rw [hnameR, hdescR]; exact Cond.unhidden_spec hcls hunh
  obtain ⟨c3, t3, w1, w2, w3⟩ := Cond.castable_spec hcast
  cases hcls.symm.trans w1
  cases hcL.symm.trans w2
  obtain ⟨vm₁, X₁, hstep₁⟩ := X.invokeinterface hexec hown hlink hn hrm hstR (by rw [hr0cls]; exact hkL) hiL hx (a := b) (cell := cellB) (kcell := kB) hcell
    (fun z h => by rw [h] at hobj; cases hobj) hkB (by rw [hr0cls]; exact w3) hselP hmethM hway hpubM habM (g := g) hg (argsL := argsL) (rest := rest) (hlen _ hsigR) hstack hdg
  rcases hK m meth c ⟨T.setVm vm₁, locs, cells, slots⟩ { g with stack := rest } (.invokeinterface index count) mk (Value.ref b :: argsL).toArray X₁ hg hsize hdg hW (X₁.named hnamed) (hpre vm₁ X₁.warmed) with ⟨v, B, X', hpost, hsteps⟩ | ⟨q, B, X', hpost, hsteps⟩
  · exact Or.inl ⟨v, vm₁, B, X₁.warmed, X', hpost, fun target h => hstep₁ _ fun acts => by rw [doInvoke_state]; exact hsteps.trans h⟩
  · exact Or.inr ⟨q, vm₁, B, X₁.warmed, X', hpost, hstep₁ _ fun acts => by rw [doInvoke_state]; exact hsteps⟩
theorem vx_runF {x y : MethodName} {bytes cc : ByteArray} {maxL nL mc ms n index count : Nat} {ret : Option FieldType} {ws : List Cond} {rm : Room} {Pc : Array Value → State → Prop} {Qc : Array Value → State → Outcome → State → Prop} {XC : String → State → State → Prop} {free : Addr → Prop} {Ts : List Cond} {own C : String} {cC : ClassId} {b : Addr} {As rest : List Value} {g : JFrame}
    (hat : ClassAt s C cC) (S : CallFix p m c cc nL s args Ts own) (hM : vx_Met l y ws rm Pc Qc XC mc ms free) (cw : va_CI R s args own C index x y bytes maxL ret ws rm mc ms n) (hp : PreV s H C b Pc As)
    (hg : g.method = m) (hn : As.length = n) (hsize : g.locals.size = nL) (hstack : g.stack = As.reverse ++ .ref b :: rest) (hW : 2 * g.monitorRoom + (rest.map fun v => v.category).sum ≤ 8) (hdg : decode cc g.pc = .ok (.invokeinterface index count, 5)) (hf : cells + mc ≤ R.cells ∧ slots + ms ≤ R.slots) :
    vx_Run5 p l e R s m args below meth c H locs cells slots mc ms g rest (Qc (Value.ref b :: As).toArray) XC free := by
  obtain ⟨hrc, hrs, hfr, hlo, hws, hcw⟩ := cw.back
  have hini := cw.init
  have hK : vx_Back l R p e below s args y 5 8 (PreOf R mc ms Pc) (PostOf Qc mc ms free) (vx_Post XC mc ms free) := vx_back (bytes := bytes) (maxL := maxL) (ret := ret) hM hp.1 hrc hrs hfr hlo hws hcw (fun a' U hW => word_at hW (Or.inl (by first | rfl | simp [Cond.onTables, Cond.keeps, Cond.steady])) hini)
  obtain ⟨hx, hb, hml, ho, -⟩ := S
  obtain ⟨-, ⟨cellB, hcB, hoB, hclB⟩, hPc⟩ := hp
  obtain ⟨hfc, kB, hkB, -⟩ := hat
  cases hfc.symm.trans hclB
  intro T hT X
  rcases vx_callIF X hx (C := C) (bytes := bytes) (maxL := maxL) (ret := ret) ho cw.link cw.decl cw.face cw.sel cw.inst cw.pub cw.unh cw.cast cw.code cw.notMH hK (by rw [hT]; exact hcB) hoB hclB hkB hg (hsize.trans hml.symm) (argsL := As) (rest := rest) (fun sig h => hn.trans (cw.len sig h)) hstack hW (by rw [hb]; exact hdg)
    (fun vm₁ hW₁ => ⟨hf.1, hf.2, hPc (T.setVm vm₁) hT hW₁⟩) with ⟨v, vm₁, ⟨U', l2, c2, s2⟩, hW₁, X', ⟨g', mk, t, L, e1, e2, hq, h1, hL, h2, h3⟩, st⟩ | ⟨q, vm₁, ⟨U', l2, c2, s2⟩, hW₁, X', ⟨g', mk, t, L, E, ce, e1, e2, hq, hce, hcv, hcl, h1, hL, h2, h3⟩, st⟩
  · dsimp only [Pt.U, Pt.locs, Pt.cells, Pt.slots] at X' e1 e2 h1 h2 h3 st
    subst h1; subst h2; subst h3
    exact Or.inl ⟨v, (T.setVm vm₁).calling g' mk (Value.ref b :: As).toArray, t, U', L, hT, X', hL, e1, e2, hq, st⟩
  · dsimp only [Pt.U, Pt.locs, Pt.cells, Pt.slots] at X' e1 e2 h1 h2 h3 st hcl
    subst h1; subst h2; subst h3
    exact Or.inr ⟨q, (T.setVm vm₁).calling g' mk (Value.ref b :: As).toArray, t, U', L, E, ce, hT, X', hL, e1, e2, hq, hce, hcv, vx_cls hW₁ hcl, st⟩
theorem vx_callFv {S SX : Type} {post : S → Prop} {px : SX → Prop} {B : S → State → Prop} {BX : String → SX → State → Prop} {AX : Nat → Prop} (hr : vx_Run5 p l e R s m args below meth c H locs cells slots mc ms (F0 m pc ls st0) rest (va_Qv post B A1 a) (vx_X px BX AX) free) (hS : va_S A0 H0 H locs) (hA : ∀ q, q < H.size → A1 q → A0 q) (hf : ∀ q, free q → A0 q) (hAX : ∀ q, q < H.size → AX q → A0 q)
    (kx : ∀ (E : String) (ce : Cell) (q9 : Addr) (u : SX) (t : State) (H1 : Heap) (locs1 : List Loc), t.heap = H1 → s.vm.Alike t.vm → px u → BX E u t → H.size ≤ H1.size → (∀ q : Nat, q < H.size → ¬ AX q → H1[q]? = H[q]?) → va_S A0 H0 H1 locs1 → H1[q9]? = some ce → ce.vm = .none → s.vm.findClass E = some ce.cls → vx_W p l e R s m args below meth c H1 locs1 (cells + mc) (slots + ms) Q (F0 m pc ls rest) q9)
    (kk : ∀ (u : S) (t : State) (H1 : Heap) (locs1 : List Loc), t.heap = H1 → s.vm.Alike t.vm → post u → B u t → H.size ≤ H1.size → (∀ q : Nat, q < H.size → ¬ A1 q → H1[q]? = H[q]?) → va_S A0 H0 H1 locs1 → W p l e R s m args below meth c H1 locs1 (cells + mc) (slots + ms) Q (F0 m (pc + 5) ls (rest))) : W p l e R s m args below meth c H locs cells slots Q (F0 m pc ls st0) := by
  intro T hT X
  rcases hr T hT X with ⟨v, st₀, t, T', L, h0, X', hL, e1, e2, ⟨⟨u, hv, hp, hb⟩, hF⟩, st⟩ | ⟨q, st₀, t, T', L, E, ce, h0, X', hL, e1, e2, ⟨u, hp, hb, hF⟩, hce, hcv, hcl, st⟩
  · cases hv
    obtain ⟨k1, k2, k3⟩ := vx_keep h0 e1 hS hA hf hL hF
    obtain ⟨t2, a1, b1⟩ := kk u t T'.heap (locs ++ L) e1.symm (by rw [← e2]; exact X'.warmed.alike) hp hb k1 k2 k3 T' rfl X'
    exact ⟨t2, st t2 a1, b1⟩
  · obtain ⟨k1, k2, k3⟩ := vx_keep h0 e1 hS hAX hf hL hF
    obtain ⟨t2, a1, b1⟩ := kx E ce q u t T'.heap (locs ++ L) e1.symm (by rw [← e2]; exact X'.warmed.alike) hp hb k1 k2 k3 (by rw [e1]; exact hce) hcv hcl T' rfl X'
    exact ⟨t2, st.trans a1, b1⟩
theorem vx_callFi {S SX : Type} {post : Int32 → S → Prop} {px : SX → Prop} {B : S → State → Prop} {BX : String → SX → State → Prop} {AX : Nat → Prop} (hr : vx_Run5 p l e R s m args below meth c H locs cells slots mc ms (F0 m pc ls st0) rest (va_Qi post B A1 a) (vx_X px BX AX) free) (hS : va_S A0 H0 H locs) (hA : ∀ q, q < H.size → A1 q → A0 q) (hf : ∀ q, free q → A0 q) (hAX : ∀ q, q < H.size → AX q → A0 q)
    (kx : ∀ (E : String) (ce : Cell) (q9 : Addr) (u : SX) (t : State) (H1 : Heap) (locs1 : List Loc), t.heap = H1 → s.vm.Alike t.vm → px u → BX E u t → H.size ≤ H1.size → (∀ q : Nat, q < H.size → ¬ AX q → H1[q]? = H[q]?) → va_S A0 H0 H1 locs1 → H1[q9]? = some ce → ce.vm = .none → s.vm.findClass E = some ce.cls → vx_W p l e R s m args below meth c H1 locs1 (cells + mc) (slots + ms) Q (F0 m pc ls rest) q9)
    (kk : ∀ (r : Int32) (u : S) (t : State) (H1 : Heap) (locs1 : List Loc), t.heap = H1 → s.vm.Alike t.vm → post r u → B u t → H.size ≤ H1.size → (∀ q : Nat, q < H.size → ¬ A1 q → H1[q]? = H[q]?) → va_S A0 H0 H1 locs1 → W p l e R s m args below meth c H1 locs1 (cells + mc) (slots + ms) Q (F0 m (pc + 5) ls (.int r :: rest))) : W p l e R s m args below meth c H locs cells slots Q (F0 m pc ls st0) := by
  intro T hT X
  rcases hr T hT X with ⟨v, st₀, t, T', L, h0, X', hL, e1, e2, ⟨⟨r, u, hv, hp, hb⟩, hF⟩, st⟩ | ⟨q, st₀, t, T', L, E, ce, h0, X', hL, e1, e2, ⟨u, hp, hb, hF⟩, hce, hcv, hcl, st⟩
  · cases hv
    obtain ⟨k1, k2, k3⟩ := vx_keep h0 e1 hS hA hf hL hF
    obtain ⟨t2, a1, b1⟩ := kk r u t T'.heap (locs ++ L) e1.symm (by rw [← e2]; exact X'.warmed.alike) hp hb k1 k2 k3 T' rfl X'
    exact ⟨t2, st t2 a1, b1⟩
  · obtain ⟨k1, k2, k3⟩ := vx_keep h0 e1 hS hAX hf hL hF
    obtain ⟨t2, a1, b1⟩ := kx E ce q u t T'.heap (locs ++ L) e1.symm (by rw [← e2]; exact X'.warmed.alike) hp hb k1 k2 k3 (by rw [e1]; exact hce) hcv hcl T' rfl X'
    exact ⟨t2, st.trans a1, b1⟩
theorem vx_callFl {S SX : Type} {post : Int64 → S → Prop} {px : SX → Prop} {B : S → State → Prop} {BX : String → SX → State → Prop} {AX : Nat → Prop} (hr : vx_Run5 p l e R s m args below meth c H locs cells slots mc ms (F0 m pc ls st0) rest (va_Ql post B A1 a) (vx_X px BX AX) free) (hS : va_S A0 H0 H locs) (hA : ∀ q, q < H.size → A1 q → A0 q) (hf : ∀ q, free q → A0 q) (hAX : ∀ q, q < H.size → AX q → A0 q)
    (kx : ∀ (E : String) (ce : Cell) (q9 : Addr) (u : SX) (t : State) (H1 : Heap) (locs1 : List Loc), t.heap = H1 → s.vm.Alike t.vm → px u → BX E u t → H.size ≤ H1.size → (∀ q : Nat, q < H.size → ¬ AX q → H1[q]? = H[q]?) → va_S A0 H0 H1 locs1 → H1[q9]? = some ce → ce.vm = .none → s.vm.findClass E = some ce.cls → vx_W p l e R s m args below meth c H1 locs1 (cells + mc) (slots + ms) Q (F0 m pc ls rest) q9)
    (kk : ∀ (r : Int64) (u : S) (t : State) (H1 : Heap) (locs1 : List Loc), t.heap = H1 → s.vm.Alike t.vm → post r u → B u t → H.size ≤ H1.size → (∀ q : Nat, q < H.size → ¬ A1 q → H1[q]? = H[q]?) → va_S A0 H0 H1 locs1 → W p l e R s m args below meth c H1 locs1 (cells + mc) (slots + ms) Q (F0 m (pc + 5) ls (.long r :: rest))) : W p l e R s m args below meth c H locs cells slots Q (F0 m pc ls st0) := by
  intro T hT X
  rcases hr T hT X with ⟨v, st₀, t, T', L, h0, X', hL, e1, e2, ⟨⟨r, u, hv, hp, hb⟩, hF⟩, st⟩ | ⟨q, st₀, t, T', L, E, ce, h0, X', hL, e1, e2, ⟨u, hp, hb, hF⟩, hce, hcv, hcl, st⟩
  · cases hv
    obtain ⟨k1, k2, k3⟩ := vx_keep h0 e1 hS hA hf hL hF
    obtain ⟨t2, a1, b1⟩ := kk r u t T'.heap (locs ++ L) e1.symm (by rw [← e2]; exact X'.warmed.alike) hp hb k1 k2 k3 T' rfl X'
    exact ⟨t2, st t2 a1, b1⟩
  · obtain ⟨k1, k2, k3⟩ := vx_keep h0 e1 hS hAX hf hL hF
    obtain ⟨t2, a1, b1⟩ := kx E ce q u t T'.heap (locs ++ L) e1.symm (by rw [← e2]; exact X'.warmed.alike) hp hb k1 k2 k3 (by rw [e1]; exact hce) hcv hcl T' rfl X'
    exact ⟨t2, st.trans a1, b1⟩
theorem vx_callFf {S SX : Type} {post : UInt32 → S → Prop} {px : SX → Prop} {B : S → State → Prop} {BX : String → SX → State → Prop} {AX : Nat → Prop} (hr : vx_Run5 p l e R s m args below meth c H locs cells slots mc ms (F0 m pc ls st0) rest (va_Qf post B A1 a) (vx_X px BX AX) free) (hS : va_S A0 H0 H locs) (hA : ∀ q, q < H.size → A1 q → A0 q) (hf : ∀ q, free q → A0 q) (hAX : ∀ q, q < H.size → AX q → A0 q)
    (kx : ∀ (E : String) (ce : Cell) (q9 : Addr) (u : SX) (t : State) (H1 : Heap) (locs1 : List Loc), t.heap = H1 → s.vm.Alike t.vm → px u → BX E u t → H.size ≤ H1.size → (∀ q : Nat, q < H.size → ¬ AX q → H1[q]? = H[q]?) → va_S A0 H0 H1 locs1 → H1[q9]? = some ce → ce.vm = .none → s.vm.findClass E = some ce.cls → vx_W p l e R s m args below meth c H1 locs1 (cells + mc) (slots + ms) Q (F0 m pc ls rest) q9)
    (kk : ∀ (r : UInt32) (u : S) (t : State) (H1 : Heap) (locs1 : List Loc), t.heap = H1 → s.vm.Alike t.vm → post r u → B u t → H.size ≤ H1.size → (∀ q : Nat, q < H.size → ¬ A1 q → H1[q]? = H[q]?) → va_S A0 H0 H1 locs1 → W p l e R s m args below meth c H1 locs1 (cells + mc) (slots + ms) Q (F0 m (pc + 5) ls (.float r :: rest))) : W p l e R s m args below meth c H locs cells slots Q (F0 m pc ls st0) := by
  intro T hT X
  rcases hr T hT X with ⟨v, st₀, t, T', L, h0, X', hL, e1, e2, ⟨⟨r, u, hv, hp, hb⟩, hF⟩, st⟩ | ⟨q, st₀, t, T', L, E, ce, h0, X', hL, e1, e2, ⟨u, hp, hb, hF⟩, hce, hcv, hcl, st⟩
  · cases hv
    obtain ⟨k1, k2, k3⟩ := vx_keep h0 e1 hS hA hf hL hF
    obtain ⟨t2, a1, b1⟩ := kk r u t T'.heap (locs ++ L) e1.symm (by rw [← e2]; exact X'.warmed.alike) hp hb k1 k2 k3 T' rfl X'
    exact ⟨t2, st t2 a1, b1⟩
  · obtain ⟨k1, k2, k3⟩ := vx_keep h0 e1 hS hAX hf hL hF
    obtain ⟨t2, a1, b1⟩ := kx E ce q u t T'.heap (locs ++ L) e1.symm (by rw [← e2]; exact X'.warmed.alike) hp hb k1 k2 k3 (by rw [e1]; exact hce) hcv hcl T' rfl X'
    exact ⟨t2, st.trans a1, b1⟩
theorem vx_callFd {S SX : Type} {post : UInt64 → S → Prop} {px : SX → Prop} {B : S → State → Prop} {BX : String → SX → State → Prop} {AX : Nat → Prop} (hr : vx_Run5 p l e R s m args below meth c H locs cells slots mc ms (F0 m pc ls st0) rest (va_Qd post B A1 a) (vx_X px BX AX) free) (hS : va_S A0 H0 H locs) (hA : ∀ q, q < H.size → A1 q → A0 q) (hf : ∀ q, free q → A0 q) (hAX : ∀ q, q < H.size → AX q → A0 q)
    (kx : ∀ (E : String) (ce : Cell) (q9 : Addr) (u : SX) (t : State) (H1 : Heap) (locs1 : List Loc), t.heap = H1 → s.vm.Alike t.vm → px u → BX E u t → H.size ≤ H1.size → (∀ q : Nat, q < H.size → ¬ AX q → H1[q]? = H[q]?) → va_S A0 H0 H1 locs1 → H1[q9]? = some ce → ce.vm = .none → s.vm.findClass E = some ce.cls → vx_W p l e R s m args below meth c H1 locs1 (cells + mc) (slots + ms) Q (F0 m pc ls rest) q9)
    (kk : ∀ (r : UInt64) (u : S) (t : State) (H1 : Heap) (locs1 : List Loc), t.heap = H1 → s.vm.Alike t.vm → post r u → B u t → H.size ≤ H1.size → (∀ q : Nat, q < H.size → ¬ A1 q → H1[q]? = H[q]?) → va_S A0 H0 H1 locs1 → W p l e R s m args below meth c H1 locs1 (cells + mc) (slots + ms) Q (F0 m (pc + 5) ls (.double r :: rest))) : W p l e R s m args below meth c H locs cells slots Q (F0 m pc ls st0) := by
  intro T hT X
  rcases hr T hT X with ⟨v, st₀, t, T', L, h0, X', hL, e1, e2, ⟨⟨r, u, hv, hp, hb⟩, hF⟩, st⟩ | ⟨q, st₀, t, T', L, E, ce, h0, X', hL, e1, e2, ⟨u, hp, hb, hF⟩, hce, hcv, hcl, st⟩
  · cases hv
    obtain ⟨k1, k2, k3⟩ := vx_keep h0 e1 hS hA hf hL hF
    obtain ⟨t2, a1, b1⟩ := kk r u t T'.heap (locs ++ L) e1.symm (by rw [← e2]; exact X'.warmed.alike) hp hb k1 k2 k3 T' rfl X'
    exact ⟨t2, st t2 a1, b1⟩
  · obtain ⟨k1, k2, k3⟩ := vx_keep h0 e1 hS hAX hf hL hF
    obtain ⟨t2, a1, b1⟩ := kx E ce q u t T'.heap (locs ++ L) e1.symm (by rw [← e2]; exact X'.warmed.alike) hp hb k1 k2 k3 (by rw [e1]; exact hce) hcv hcl T' rfl X'
    exact ⟨t2, st.trans a1, b1⟩
end
/-! ===== END ===== -/
/-! ===== BEGIN by an interface, a method with a table of its own that may throw (follows va_callIFW, va_runFW) ===== -/
section
variable {p : Program} {l : Launch} {e : Env} {R : Room} {s : State} {m : MethodId} {args : Array Value} {below : List Frame} {meth : Method} {c : Code} {H : Heap} {locs : List Loc} {cells slots : Nat}
theorem vx_callIFW {T : State} (X : Stand p l e R s m args below meth c T locs cells slots) (hexec : p.tables.exec = Jvm.exec) {own C : String} {index count : Nat} {x y : MethodName} {bytes : ByteArray} {maxL : Nat} {ret : Option FieldType} {hh : List (Nat × Nat × Nat × Nat)}
    (hown : s.vm.findClass own = some m.cls) (hlink : (Cond.methodLink own index x).before args s = true) (hdecl : (Cond.declares x).before args s = true) (hface : (Cond.interfaceMethod x.cls x.cls x.name x.desc).before args s = true)
    (hsel : (Cond.selects C x y).before args s = true) (hinst : (Cond.instanceMethod y).before args s = true) (hpub : (Cond.publicMethod y).before args s = true) (hunh : (Cond.unhidden C x.name x.desc).before args s = true)
    (hcast : (Cond.castable C x.cls).before args s = true) (hcode : (Cond.codeWith y bytes maxL ret hh).before args s = true) (hx : x.cls ≠ "java/lang/invoke/MethodHandle" ∧ x.cls ≠ "java/lang/invoke/VarHandle")
    {W : Nat} {Pre : Pt → Array Value → Prop} {Post : Pt → Array Value → Option Value → Pt → Prop} {PostX : Pt → Array Value → Addr → Pt → Prop} (hK : vx_Back l R p e below s args y 5 W Pre Post PostX)
    {b : Addr} {cellB : Cell} {kB : Class} (hcell : T.heap[b]? = some cellB) (hobj : cellB.vm.isStatics = false) (hcls : s.vm.findClass C = some cellB.cls) (hkB : s.vm.classes[cellB.cls]? = some kB)
    {g : JFrame} (hg : g.method = m) (hsize : g.locals.size = c.maxLocals) {argsL rest : List Value} (hlen : ∀ sig, parseMethodDescriptor x.desc = some sig → argsL.length = sig.parameters.length)
    (hstack : g.stack = argsL.reverse ++ .ref b :: rest) (hW : 2 * g.monitorRoom + (rest.map fun v => v.category).sum ≤ W) (hdg : decode c.code g.pc = .ok (.invokeinterface index count, 5))
    (hpre : ∀ vm₁, s.WarmedH vm₁ → Pre ⟨T.setVm vm₁, locs, cells, slots⟩ (Value.ref b :: argsL).toArray) :
    (∃ (v : Option Value) (vm₁ : Vm) (B : Pt), s.WarmedH vm₁ ∧ Stand p l e R s m args below meth c B.U B.locs B.cells B.slots ∧ Post ⟨T.setVm vm₁, locs, cells, slots⟩ (Value.ref b :: argsL).toArray v B ∧
      ∀ target, Steps p.tables e below (B.U.setTop { g with pc := g.pc + 5, stack := v.toList ++ rest }) target → Steps p.tables e below (T.setTop g) target) ∨
    (∃ (q : Addr) (vm₁ : Vm) (B : Pt), s.WarmedH vm₁ ∧ Stand p l e R s m args below meth c B.U B.locs B.cells B.slots ∧ PostX ⟨T.setVm vm₁, locs, cells, slots⟩ (Value.ref b :: argsL).toArray q B ∧
      Steps p.tables e below (T.setTop g) ((B.U.setTop { g with stack := rest }).pushFrame (.throwing q))) := by
  obtain ⟨r0, r, hn, hrm, hstR, hsigR⟩ := Cond.declares_spec hdecl
  obtain ⟨cL, kL, r1, hcL, hkL, hiL, hfoundL, hn1⟩ := Cond.interfaceMethod_spec hface
  cases hn.symm.trans hn1
  have hr0cls : r0.cls = cL := Option.some.inj ((findClass_of_methodNamed hn).symm.trans hcL)
  obtain ⟨hnameR, hdescR⟩ := name_of_methodNamed hn hrm
  obtain ⟨mk, methM, hnamed, hmethM, -, habM⟩ := Cond.instanceMethod_spec hinst
  obtain ⟨c2, r2, m2, q1, q2, q3, q4, -⟩ := Cond.selects_spec hsel
  cases hcls.symm.trans q1
  cases hfoundL.symm.trans q2
  cases hnamed.symm.trans q3
  have hselP : selectMethod e.platform s.vm cellB.cls r0 = .method mk := by rw [Launch.admits_selectMethod X.admits]; exact q4
  have hpubM : hasFlag methM.accessFlags Acc.public_ = true := Cond.publicMethod_spec hnamed hmethM hpub
  have hway : ((cellB.cls :: s.vm.superclasses cellB.cls).any fun k => (declaredIn s.vm r.name r.desc k).any fun (_, z) => z.isPrivate || z.isStatic) = false := by
    rw [hnameR, hdescR]; exact Cond.unhidden_spec hcls hunh
  obtain ⟨c3, t3, w1, w2, w3⟩ := Cond.castable_spec hcast
  cases hcls.symm.trans w1
  cases hcL.symm.trans w2
  obtain ⟨vm₁, X₁, hstep₁⟩ := X.invokeinterface hexec hown hlink hn hrm hstR (by rw [hr0cls]; exact hkL) hiL hx (a := b) (cell := cellB) (kcell := kB) hcell
    (fun z h => by rw [h] at hobj; cases hobj) hkB (by rw [hr0cls]; exact w3) hselP hmethM hway hpubM habM (g := g) hg (argsL := argsL) (rest := rest) (hlen _ hsigR) hstack hdg
  rcases hK m meth c ⟨T.setVm vm₁, locs, cells, slots⟩ { g with stack := rest } (.invokeinterface index count) mk (Value.ref b :: argsL).toArray X₁ hg hsize hdg hW (X₁.named hnamed) (hpre vm₁ X₁.warmed) with ⟨v, B, X', hpost, hsteps⟩ | ⟨q, B, X', hpost, hsteps⟩
  · exact Or.inl ⟨v, vm₁, B, X₁.warmed, X', hpost, fun target h => hstep₁ _ fun acts => by rw [doInvoke_state]; exact hsteps.trans h⟩
  · exact Or.inr ⟨q, vm₁, B, X₁.warmed, X', hpost, hstep₁ _ fun acts => by rw [doInvoke_state]; exact hsteps⟩
theorem vx_runFW {x y : MethodName} {bytes cc : ByteArray} {maxL nL mc ms n index count : Nat} {ret : Option FieldType} {hh : List (Nat × Nat × Nat × Nat)} {ws : List Cond} {rm : Room} {Pc : Array Value → State → Prop} {Qc : Array Value → State → Outcome → State → Prop} {XC : String → State → State → Prop} {free : Addr → Prop} {Ts : List Cond} {own C : String} {cC : ClassId} {b : Addr} {As rest : List Value} {g : JFrame}
    (hat : ClassAt s C cC) (S : CallFix p m c cc nL s args Ts own) (hM : vx_Met l y ws rm Pc Qc XC mc ms free) (cw : va_CIW R s args own C index x y bytes maxL ret hh ws rm mc ms n) (hp : PreV s H C b Pc As)
    (hg : g.method = m) (hn : As.length = n) (hsize : g.locals.size = nL) (hstack : g.stack = As.reverse ++ .ref b :: rest) (hW : 2 * g.monitorRoom + (rest.map fun v => v.category).sum ≤ 8) (hdg : decode cc g.pc = .ok (.invokeinterface index count, 5)) (hf : cells + mc ≤ R.cells ∧ slots + ms ≤ R.slots) :
    vx_Run5 p l e R s m args below meth c H locs cells slots mc ms g rest (Qc (Value.ref b :: As).toArray) XC free := by
  obtain ⟨hrc, hrs, hfr, hlo, hws, hcw⟩ := cw.back
  have hini := cw.init
  have hK : vx_Back l R p e below s args y 5 8 (PreOf R mc ms Pc) (PostOf Qc mc ms free) (vx_Post XC mc ms free) := vx_backW (hh := hh) (bytes := bytes) (maxL := maxL) (ret := ret) hM hp.1 hrc hrs hfr hlo hws hcw (fun a' U hW => word_at hW (Or.inl (by first | rfl | simp [Cond.onTables, Cond.keeps, Cond.steady])) hini)
  obtain ⟨hx, hb, hml, ho, -⟩ := S
  obtain ⟨-, ⟨cellB, hcB, hoB, hclB⟩, hPc⟩ := hp
  obtain ⟨hfc, kB, hkB, -⟩ := hat
  cases hfc.symm.trans hclB
  intro T hT X
  rcases vx_callIFW X hx (C := C) (hh := hh) (bytes := bytes) (maxL := maxL) (ret := ret) ho cw.link cw.decl cw.face cw.sel cw.inst cw.pub cw.unh cw.cast cw.code cw.notMH hK (by rw [hT]; exact hcB) hoB hclB hkB hg (hsize.trans hml.symm) (argsL := As) (rest := rest) (fun sig h => hn.trans (cw.len sig h)) hstack hW (by rw [hb]; exact hdg)
    (fun vm₁ hW₁ => ⟨hf.1, hf.2, hPc (T.setVm vm₁) hT hW₁⟩) with ⟨v, vm₁, ⟨U', l2, c2, s2⟩, hW₁, X', ⟨g', mk, t, L, e1, e2, hq, h1, hL, h2, h3⟩, st⟩ | ⟨q, vm₁, ⟨U', l2, c2, s2⟩, hW₁, X', ⟨g', mk, t, L, E, ce, e1, e2, hq, hce, hcv, hcl, h1, hL, h2, h3⟩, st⟩
  · dsimp only [Pt.U, Pt.locs, Pt.cells, Pt.slots] at X' e1 e2 h1 h2 h3 st
    subst h1; subst h2; subst h3
    exact Or.inl ⟨v, (T.setVm vm₁).calling g' mk (Value.ref b :: As).toArray, t, U', L, hT, X', hL, e1, e2, hq, st⟩
  · dsimp only [Pt.U, Pt.locs, Pt.cells, Pt.slots] at X' e1 e2 h1 h2 h3 st hcl
    subst h1; subst h2; subst h3
    exact Or.inr ⟨q, (T.setVm vm₁).calling g' mk (Value.ref b :: As).toArray, t, U', L, E, ce, hT, X', hL, e1, e2, hq, hce, hcv, vx_cls hW₁ hcl, st⟩
end
/-! ===== END ===== -/
/-! ===== BEGIN .. of methods that hand back an object of the pool ===== -/
section
variable {p : Program} {l : Launch} {e : Env} {R : Room} {s : State} {m : MethodId} {args : Array Value} {below : List Frame} {meth : Method} {c : Code} {H : Heap} {locs : List Loc} {cells slots : Nat} {Q : State → Prop}
variable {mc ms : Nat} {free : Addr → Prop} {A0 A1 : Nat → Prop} {H0 : Heap} {a : Array Value} {pc : Nat} {ls : Array Slot} {st0 rest : List Value}
theorem vx_callq {S SX : Type} {post : Option Nat → S → Prop} {px : SX → Prop} {B : S → State → Prop} {BX : String → SX → State → Prop} {AX : Nat → Prop} (hr : vx_Run p l e R s m args below meth c H locs cells slots mc ms (F0 m pc ls st0) rest (va_Qq post B A1 a) (vx_X px BX AX) free) (hS : va_S A0 H0 H locs) (hA : ∀ q, q < H.size → A1 q → A0 q) (hf : ∀ q, free q → A0 q) (hAX : ∀ q, q < H.size → AX q → A0 q)
    (kx : ∀ (E : String) (ce : Cell) (q9 : Addr) (u : SX) (t : State) (H1 : Heap) (locs1 : List Loc), t.heap = H1 → s.vm.Alike t.vm → px u → BX E u t → H.size ≤ H1.size → (∀ q : Nat, q < H.size → ¬ AX q → H1[q]? = H[q]?) → va_S A0 H0 H1 locs1 → H1[q9]? = some ce → ce.vm = .none → s.vm.findClass E = some ce.cls → vx_W p l e R s m args below meth c H1 locs1 (cells + mc) (slots + ms) Q (F0 m pc ls rest) q9)
    (kk : ∀ (r : Option Nat) (u : S) (t : State) (H1 : Heap) (locs1 : List Loc), t.heap = H1 → s.vm.Alike t.vm → post r u → B u t → H.size ≤ H1.size → (∀ q : Nat, q < H.size → ¬ A1 q → H1[q]? = H[q]?) → va_S A0 H0 H1 locs1 → W p l e R s m args below meth c H1 locs1 (cells + mc) (slots + ms) Q (F0 m (pc + 3) ls (va_rf r :: rest))) : W p l e R s m args below meth c H locs cells slots Q (F0 m pc ls st0) := by
  intro T hT X
  rcases hr T hT X with ⟨v, st₀, t, T', L, h0, X', hL, e1, e2, ⟨⟨r, u, hv, hp, hb⟩, hF⟩, st⟩ | ⟨q, st₀, t, T', L, E, ce, h0, X', hL, e1, e2, ⟨u, hp, hb, hF⟩, hce, hcv, hcl, st⟩
  · cases hv
    obtain ⟨k1, k2, k3⟩ := vx_keep h0 e1 hS hA hf hL hF
    obtain ⟨t2, a1, b1⟩ := kk r u t T'.heap (locs ++ L) e1.symm (by rw [← e2]; exact X'.warmed.alike) hp hb k1 k2 k3 T' rfl X'
    exact ⟨t2, st t2 a1, b1⟩
  · obtain ⟨k1, k2, k3⟩ := vx_keep h0 e1 hS hAX hf hL hF
    obtain ⟨t2, a1, b1⟩ := kx E ce q u t T'.heap (locs ++ L) e1.symm (by rw [← e2]; exact X'.warmed.alike) hp hb k1 k2 k3 (by rw [e1]; exact hce) hcv hcl T' rfl X'
    exact ⟨t2, st.trans a1, b1⟩
end
/-! ===== END ===== -/
/-! ===== BEGIN .. a constant ===== -/
section
variable {p : Program} {l : Launch} {e : Env} {R : Room} {s : State} {m : MethodId} {args : Array Value} {below : List Frame} {meth : Method} {c : Code} {H : Heap} {locs : List Loc} {cells slots : Nat} {Q : State → Prop}
variable {mc ms : Nat} {free : Addr → Prop} {A0 A1 : Nat → Prop} {H0 : Heap} {a : Array Value} {pc : Nat} {ls : Array Slot} {st0 rest : List Value}
theorem vx_calle {ad : Nat → Nat} {S SX : Type} {post : Option Nat → S → Prop} {px : SX → Prop} {B : S → State → Prop} {BX : String → SX → State → Prop} {AX : Nat → Prop} (hr : vx_Run p l e R s m args below meth c H locs cells slots mc ms (F0 m pc ls st0) rest (va_Qe ad post B A1 a) (vx_X px BX AX) free) (hS : va_S A0 H0 H locs) (hA : ∀ q, q < H.size → A1 q → A0 q) (hf : ∀ q, free q → A0 q) (hAX : ∀ q, q < H.size → AX q → A0 q)
    (kx : ∀ (E : String) (ce : Cell) (q9 : Addr) (u : SX) (t : State) (H1 : Heap) (locs1 : List Loc), t.heap = H1 → s.vm.Alike t.vm → px u → BX E u t → H.size ≤ H1.size → (∀ q : Nat, q < H.size → ¬ AX q → H1[q]? = H[q]?) → va_S A0 H0 H1 locs1 → H1[q9]? = some ce → ce.vm = .none → s.vm.findClass E = some ce.cls → vx_W p l e R s m args below meth c H1 locs1 (cells + mc) (slots + ms) Q (F0 m pc ls rest) q9)
    (kk : ∀ (r : Option Nat) (u : S) (t : State) (H1 : Heap) (locs1 : List Loc), t.heap = H1 → s.vm.Alike t.vm → post r u → B u t → H.size ≤ H1.size → (∀ q : Nat, q < H.size → ¬ A1 q → H1[q]? = H[q]?) → va_S A0 H0 H1 locs1 → W p l e R s m args below meth c H1 locs1 (cells + mc) (slots + ms) Q (F0 m (pc + 3) ls (va_re ad r :: rest))) : W p l e R s m args below meth c H locs cells slots Q (F0 m pc ls st0) := by
  intro T hT X
  rcases hr T hT X with ⟨v, st₀, t, T', L, h0, X', hL, e1, e2, ⟨⟨r, u, hv, hp, hb⟩, hF⟩, st⟩ | ⟨q, st₀, t, T', L, E, ce, h0, X', hL, e1, e2, ⟨u, hp, hb, hF⟩, hce, hcv, hcl, st⟩
  · cases hv
    obtain ⟨k1, k2, k3⟩ := vx_keep h0 e1 hS hA hf hL hF
    obtain ⟨t2, a1, b1⟩ := kk r u t T'.heap (locs ++ L) e1.symm (by rw [← e2]; exact X'.warmed.alike) hp hb k1 k2 k3 T' rfl X'
    exact ⟨t2, st t2 a1, b1⟩
  · obtain ⟨k1, k2, k3⟩ := vx_keep h0 e1 hS hAX hf hL hF
    obtain ⟨t2, a1, b1⟩ := kx E ce q u t T'.heap (locs ++ L) e1.symm (by rw [← e2]; exact X'.warmed.alike) hp hb k1 k2 k3 (by rw [e1]; exact hce) hcv hcl T' rfl X'
    exact ⟨t2, st.trans a1, b1⟩
end
/-! ===== END ===== -/
/-! ===== BEGIN .. by an interface, an object ===== -/
section
variable {p : Program} {l : Launch} {e : Env} {R : Room} {s : State} {m : MethodId} {args : Array Value} {below : List Frame} {meth : Method} {c : Code} {H : Heap} {locs : List Loc} {cells slots : Nat} {Q : State → Prop}
variable {mc ms : Nat} {free : Addr → Prop} {A0 A1 : Nat → Prop} {H0 : Heap} {a : Array Value} {pc : Nat} {ls : Array Slot} {st0 rest : List Value}
theorem vx_callFq {S SX : Type} {post : Option Nat → S → Prop} {px : SX → Prop} {B : S → State → Prop} {BX : String → SX → State → Prop} {AX : Nat → Prop} (hr : vx_Run5 p l e R s m args below meth c H locs cells slots mc ms (F0 m pc ls st0) rest (va_Qq post B A1 a) (vx_X px BX AX) free) (hS : va_S A0 H0 H locs) (hA : ∀ q, q < H.size → A1 q → A0 q) (hf : ∀ q, free q → A0 q) (hAX : ∀ q, q < H.size → AX q → A0 q)
    (kx : ∀ (E : String) (ce : Cell) (q9 : Addr) (u : SX) (t : State) (H1 : Heap) (locs1 : List Loc), t.heap = H1 → s.vm.Alike t.vm → px u → BX E u t → H.size ≤ H1.size → (∀ q : Nat, q < H.size → ¬ AX q → H1[q]? = H[q]?) → va_S A0 H0 H1 locs1 → H1[q9]? = some ce → ce.vm = .none → s.vm.findClass E = some ce.cls → vx_W p l e R s m args below meth c H1 locs1 (cells + mc) (slots + ms) Q (F0 m pc ls rest) q9)
    (kk : ∀ (r : Option Nat) (u : S) (t : State) (H1 : Heap) (locs1 : List Loc), t.heap = H1 → s.vm.Alike t.vm → post r u → B u t → H.size ≤ H1.size → (∀ q : Nat, q < H.size → ¬ A1 q → H1[q]? = H[q]?) → va_S A0 H0 H1 locs1 → W p l e R s m args below meth c H1 locs1 (cells + mc) (slots + ms) Q (F0 m (pc + 5) ls (va_rf r :: rest))) : W p l e R s m args below meth c H locs cells slots Q (F0 m pc ls st0) := by
  intro T hT X
  rcases hr T hT X with ⟨v, st₀, t, T', L, h0, X', hL, e1, e2, ⟨⟨r, u, hv, hp, hb⟩, hF⟩, st⟩ | ⟨q, st₀, t, T', L, E, ce, h0, X', hL, e1, e2, ⟨u, hp, hb, hF⟩, hce, hcv, hcl, st⟩
  · cases hv
    obtain ⟨k1, k2, k3⟩ := vx_keep h0 e1 hS hA hf hL hF
    obtain ⟨t2, a1, b1⟩ := kk r u t T'.heap (locs ++ L) e1.symm (by rw [← e2]; exact X'.warmed.alike) hp hb k1 k2 k3 T' rfl X'
    exact ⟨t2, st t2 a1, b1⟩
  · obtain ⟨k1, k2, k3⟩ := vx_keep h0 e1 hS hAX hf hL hF
    obtain ⟨t2, a1, b1⟩ := kx E ce q u t T'.heap (locs ++ L) e1.symm (by rw [← e2]; exact X'.warmed.alike) hp hb k1 k2 k3 (by rw [e1]; exact hce) hcv hcl T' rfl X'
    exact ⟨t2, st.trans a1, b1⟩
end
/-! ===== END ===== -/
/-! ===== BEGIN .. by an interface, a constant ===== -/
section
variable {p : Program} {l : Launch} {e : Env} {R : Room} {s : State} {m : MethodId} {args : Array Value} {below : List Frame} {meth : Method} {c : Code} {H : Heap} {locs : List Loc} {cells slots : Nat} {Q : State → Prop}
variable {mc ms : Nat} {free : Addr → Prop} {A0 A1 : Nat → Prop} {H0 : Heap} {a : Array Value} {pc : Nat} {ls : Array Slot} {st0 rest : List Value}
theorem vx_callFe {ad : Nat → Nat} {S SX : Type} {post : Option Nat → S → Prop} {px : SX → Prop} {B : S → State → Prop} {BX : String → SX → State → Prop} {AX : Nat → Prop} (hr : vx_Run5 p l e R s m args below meth c H locs cells slots mc ms (F0 m pc ls st0) rest (va_Qe ad post B A1 a) (vx_X px BX AX) free) (hS : va_S A0 H0 H locs) (hA : ∀ q, q < H.size → A1 q → A0 q) (hf : ∀ q, free q → A0 q) (hAX : ∀ q, q < H.size → AX q → A0 q)
    (kx : ∀ (E : String) (ce : Cell) (q9 : Addr) (u : SX) (t : State) (H1 : Heap) (locs1 : List Loc), t.heap = H1 → s.vm.Alike t.vm → px u → BX E u t → H.size ≤ H1.size → (∀ q : Nat, q < H.size → ¬ AX q → H1[q]? = H[q]?) → va_S A0 H0 H1 locs1 → H1[q9]? = some ce → ce.vm = .none → s.vm.findClass E = some ce.cls → vx_W p l e R s m args below meth c H1 locs1 (cells + mc) (slots + ms) Q (F0 m pc ls rest) q9)
    (kk : ∀ (r : Option Nat) (u : S) (t : State) (H1 : Heap) (locs1 : List Loc), t.heap = H1 → s.vm.Alike t.vm → post r u → B u t → H.size ≤ H1.size → (∀ q : Nat, q < H.size → ¬ A1 q → H1[q]? = H[q]?) → va_S A0 H0 H1 locs1 → W p l e R s m args below meth c H1 locs1 (cells + mc) (slots + ms) Q (F0 m (pc + 5) ls (va_re ad r :: rest))) : W p l e R s m args below meth c H locs cells slots Q (F0 m pc ls st0) := by
  intro T hT X
  rcases hr T hT X with ⟨v, st₀, t, T', L, h0, X', hL, e1, e2, ⟨⟨r, u, hv, hp, hb⟩, hF⟩, st⟩ | ⟨q, st₀, t, T', L, E, ce, h0, X', hL, e1, e2, ⟨u, hp, hb, hF⟩, hce, hcv, hcl, st⟩
  · cases hv
    obtain ⟨k1, k2, k3⟩ := vx_keep h0 e1 hS hA hf hL hF
    obtain ⟨t2, a1, b1⟩ := kk r u t T'.heap (locs ++ L) e1.symm (by rw [← e2]; exact X'.warmed.alike) hp hb k1 k2 k3 T' rfl X'
    exact ⟨t2, st t2 a1, b1⟩
  · obtain ⟨k1, k2, k3⟩ := vx_keep h0 e1 hS hAX hf hL hF
    obtain ⟨t2, a1, b1⟩ := kx E ce q u t T'.heap (locs ++ L) e1.symm (by rw [← e2]; exact X'.warmed.alike) hp hb k1 k2 k3 (by rw [e1]; exact hce) hcv hcl T' rfl X'
    exact ⟨t2, st.trans a1, b1⟩
end
/-! ===== END ===== -/
/-! ===== BEGIN what the machine throws by itself: null at a field, at athrow ===== -/
section VXM2
variable {p : Program} {l : Launch} {e : Env} {R : Room} {s : State} {m : MethodId} {args : Array Value} {below : List Frame} {meth : Method} {c : Code} {H : Heap} {locs : List Loc} {cells slots : Nat}
variable {Q : State → Prop} {cc : ByteArray} {pc : Nat} {ls : Array Slot} {rest : List Value}
theorem vx_getfN {D cl tys} {own ref C : String} {T : u_T} {N ci index : Nat} {Ts : List Cond} (hexec : p.tables.exec = Jvm.exec) (hb : c.code = cc) (hts : ∀ w ∈ Ts, w.before args s = true) (hin : ∀ w ∈ u_ws C T N, w ∈ Ts) (hown : s.vm.findClass own = some m.cls) (hK : va_K D cl tys s) (hc : cl[ci]? = some (C, T, N)) (k : Nat) (hk : k < N) (hlink : (Cond.fieldLink own index ref (T k).2.1 (T k).2.2.1).before args s = true) (hsame : ∀ x, s.fieldFound? (T k).1 (T k).2.1 (T k).2.2.1 = some x → s.fieldFound? ref (T k).2.1 (T k).2.2.1 = some x) (hdg : decode cc pc = .ok (.getfield index, 3)) (kk : vx_NoteN p l e R s m args below meth c H locs cells slots Q (F0 m pc ls rest)) : W p l e R s m args below meth c H locs cells slots Q (F0 m pc ls (.null :: rest)) := by
  obtain ⟨hS, hfc, kC, hkC, -⟩ := hK.1 ci _ hc
  obtain ⟨cf, kf, fi, f, hi, -⟩ := hS k hk
  intro U hU X
  obtain ⟨vm', X1, st1⟩ := X.getfieldNull hexec hown hlink (hsame _ hi) (u_facts hfc hkC (u_lays hts hin hk) hi).1 (g := F0 m pc ls (.null :: rest)) rfl (rest := rest) rfl (by rw [hb]; exact hdg)
  obtain ⟨t, st, q⟩ := kk (U.setVm vm') hU X1
  exact ⟨t, st1 t st, q⟩
theorem vx_getfNN {D cl tys} {own ref C host : String} {T : u_T} {N ci index : Nat} {Ts : List Cond} (hexec : p.tables.exec = Jvm.exec) (hb : c.code = cc) (hts : ∀ w ∈ Ts, w.before args s = true) (hin : ∀ w ∈ u_ws C T N, w ∈ Ts) (hown : s.vm.findClass own = some m.cls) (hK : va_K D cl tys s) (hc : cl[ci]? = some (C, T, N)) (k : Nat) (hk : k < N) (hlink : (Cond.fieldLinkNest own index ref (T k).2.1 (T k).2.2.1 host).before args s = true) (hsame : ∀ x, s.fieldFound? (T k).1 (T k).2.1 (T k).2.2.1 = some x → s.fieldFound? ref (T k).2.1 (T k).2.2.1 = some x) (hdg : decode cc pc = .ok (.getfield index, 3)) (kk : vx_NoteN p l e R s m args below meth c H locs cells slots Q (F0 m pc ls rest)) : W p l e R s m args below meth c H locs cells slots Q (F0 m pc ls (.null :: rest)) := by
  obtain ⟨hS, hfc, kC, hkC, -⟩ := hK.1 ci _ hc
  obtain ⟨cf, kf, fi, f, hi, -⟩ := hS k hk
  intro U hU X
  obtain ⟨vm', X1, st1⟩ := X.getfieldNullNest hexec hown hlink (hsame _ hi) (u_facts hfc hkC (u_lays hts hin hk) hi).1 (g := F0 m pc ls (.null :: rest)) rfl (rest := rest) rfl (by rw [hb]; exact hdg)
  obtain ⟨t, st, q⟩ := kk (U.setVm vm') hU X1
  exact ⟨t, st1 t st, q⟩
theorem vx_putfN {D cl tys} {own ref C : String} {T : u_T} {N ci index : Nat} {Ts : List Cond} (hexec : p.tables.exec = Jvm.exec) (hb : c.code = cc) (hts : ∀ w ∈ Ts, w.before args s = true) (hin : ∀ w ∈ u_ws C T N, w ∈ Ts) (hown : s.vm.findClass own = some m.cls) (hK : va_K D cl tys s) (hc : cl[ci]? = some (C, T, N)) (k : Nat) (hk : k < N) (hlink : (Cond.fieldLink own index ref (T k).2.1 (T k).2.2.1).before args s = true) (hsame : ∀ x, s.fieldFound? (T k).1 (T k).2.1 (T k).2.2.1 = some x → s.fieldFound? ref (T k).2.1 (T k).2.2.1 = some x) (hfin : (T k).2.2.2 = false) {v : Value} (hdg : decode cc pc = .ok (.putfield index, 3)) (kk : vx_NoteN p l e R s m args below meth c H locs cells slots Q (F0 m pc ls rest)) : W p l e R s m args below meth c H locs cells slots Q (F0 m pc ls (v :: .null :: rest)) := by
  obtain ⟨hS, hfc, kC, hkC, -⟩ := hK.1 ci _ hc
  obtain ⟨cf, kf, fi, f, hi, -⟩ := hS k hk
  have hlay := hts _ (hin _ (u_in_lay hk))
  unfold u_lay at hlay
  rw [if_neg (by rw [hfin]; decide)] at hlay
  obtain ⟨c9, k9, cf9, kf9, fi9, f9, -, -, hi9, hst9, hnf9, -⟩ := Cond.lays_spec hlay
  cases hi.symm.trans hi9
  intro U hU X
  obtain ⟨vm', X1, st1⟩ := X.putfieldNull hexec hown hlink (hsame _ hi) hst9 hnf9 (g := F0 m pc ls (v :: .null :: rest)) rfl (v := v) (rest := rest) rfl (by rw [hb]; exact hdg)
  obtain ⟨t, st, q⟩ := kk (U.setVm vm') hU X1
  exact ⟨t, st1 t st, q⟩
theorem vx_putfNN {D cl tys} {own ref C host : String} {T : u_T} {N ci index : Nat} {Ts : List Cond} (hexec : p.tables.exec = Jvm.exec) (hb : c.code = cc) (hts : ∀ w ∈ Ts, w.before args s = true) (hin : ∀ w ∈ u_ws C T N, w ∈ Ts) (hown : s.vm.findClass own = some m.cls) (hK : va_K D cl tys s) (hc : cl[ci]? = some (C, T, N)) (k : Nat) (hk : k < N) (hlink : (Cond.fieldLinkNest own index ref (T k).2.1 (T k).2.2.1 host).before args s = true) (hsame : ∀ x, s.fieldFound? (T k).1 (T k).2.1 (T k).2.2.1 = some x → s.fieldFound? ref (T k).2.1 (T k).2.2.1 = some x) (hfin : (T k).2.2.2 = false) {v : Value} (hdg : decode cc pc = .ok (.putfield index, 3)) (kk : vx_NoteN p l e R s m args below meth c H locs cells slots Q (F0 m pc ls rest)) : W p l e R s m args below meth c H locs cells slots Q (F0 m pc ls (v :: .null :: rest)) := by
  obtain ⟨hS, hfc, kC, hkC, -⟩ := hK.1 ci _ hc
  obtain ⟨cf, kf, fi, f, hi, -⟩ := hS k hk
  have hlay := hts _ (hin _ (u_in_lay hk))
  unfold u_lay at hlay
  rw [if_neg (by rw [hfin]; decide)] at hlay
  obtain ⟨c9, k9, cf9, kf9, fi9, f9, -, -, hi9, hst9, hnf9, -⟩ := Cond.lays_spec hlay
  cases hi.symm.trans hi9
  intro U hU X
  obtain ⟨vm', X1, st1⟩ := X.putfieldNullNest hexec hown hlink (hsame _ hi) hst9 hnf9 (g := F0 m pc ls (v :: .null :: rest)) rfl (v := v) (rest := rest) rfl (by rw [hb]; exact hdg)
  obtain ⟨t, st, q⟩ := kk (U.setVm vm') hU X1
  exact ⟨t, st1 t st, q⟩
theorem vx_athrowN (hexec : p.tables.exec = Jvm.exec) (hb : c.code = cc) (hdg : decode cc pc = .ok (.athrow, 1)) (k : vx_NoteN p l e R s m args below meth c H locs cells slots Q (F0 m pc ls rest)) : W p l e R s m args below meth c H locs cells slots Q (F0 m pc ls (.null :: rest)) := by
  intro T hT X
  obtain ⟨t, st, q⟩ := k T hT X
  exact ⟨t, X.athrowNull hexec (g := F0 m pc ls (.null :: rest)) rfl (rest := rest) rfl (by rw [hb]; exact hdg) t st, q⟩
end VXM2
/-! ===== END ===== -/
end
section
def RX0 : String := "Releasetrain$BucketCounts"
def TX0 : u_T := fun k => match k with
  | 0 => ("Releasetrain$BucketCounts", "below", "[I", true)
  | _ => ("Releasetrain$BucketCounts", "total", "I", false)
def tyX0 : Nat → FieldType := fun k => match k with
  | 0 => .array .int
  | _ => .int
abbrev wsX00 : List Cond := u_ws RX0 TX0 2
theorem nmX0 : ∀ a, a < 2 → ∀ b, b < 2 → a ≠ b → (TX0 a).2.1 ≠ (TX0 b).2.1 := by decide +kernel
theorem tyX0_ok : ∀ k, k < 2 → parseFieldDescriptor (TX0 k).2.2.1 = some (tyX0 k) := by decide +kernel
abbrev cX0_init : ByteArray := prog_2_method_1_code
def yX0_init : MethodName := ⟨RX0, "<init>", "()V"⟩
abbrev cX0_change : ByteArray := prog_2_method_2_code
def yX0_change : MethodName := ⟨RX0, "change", "(II)V"⟩
abbrev cX0_countBelow : ByteArray := prog_2_method_3_code
def yX0_countBelow : MethodName := ⟨RX0, "countBelow", "(I)I"⟩
def RX1 : String := "Releasetrain$Build"
def TX1 : u_T := fun k => match k with
  | 0 => ("Releasetrain$Build", "number", "I", true)
  | 1 => ("Releasetrain$Build", "version", "I", true)
  | 2 => ("Releasetrain$Build", "offer", "LReleasetrain$Offer;", true)
  | 3 => ("Releasetrain$Build", "size", "I", true)
  | 4 => ("Releasetrain$Build", "permissions", "I", true)
  | 5 => ("Releasetrain$Build", "mended", "LReleasetrain$Build;", true)
  | 6 => ("Releasetrain$Build", "holders", "LReleasetrain$BucketCounts;", true)
  | 7 => ("Releasetrain$Build", "state", "C", false)
  | 8 => ("Releasetrain$Build", "appealed", "Z", false)
  | 9 => ("Releasetrain$Build", "turn", "I", false)
  | 10 => ("Releasetrain$Build", "percentage", "I", false)
  | 11 => ("Releasetrain$Build", "step", "I", false)
  | 12 => ("Releasetrain$Build", "installCount", "I", false)
  | 13 => ("Releasetrain$Build", "crashCount", "I", false)
  | 14 => ("Releasetrain$Build", "ratingCount", "I", false)
  | _ => ("Releasetrain$Build", "starSum", "I", false)
def tyX1 : Nat → FieldType := fun k => match k with
  | 0 => .int
  | 1 => .int
  | 2 => .object "Releasetrain$Offer"
  | 3 => .int
  | 4 => .int
  | 5 => .object "Releasetrain$Build"
  | 6 => .object "Releasetrain$BucketCounts"
  | 7 => .char
  | 8 => .boolean
  | 9 => .int
  | 10 => .int
  | 11 => .int
  | 12 => .int
  | 13 => .int
  | 14 => .int
  | _ => .int
abbrev wsX10 : List Cond := u_ws RX1 TX1 16
theorem nmX1 : ∀ a, a < 16 → ∀ b, b < 16 → a ≠ b → (TX1 a).2.1 ≠ (TX1 b).2.1 := by decide +kernel
theorem tyX1_ok : ∀ k, k < 16 → parseFieldDescriptor (TX1 k).2.2.1 = some (tyX1 k) := by decide +kernel
abbrev cX1_init : ByteArray := prog_3_method_1_code
def yX1_init : MethodName := ⟨RX1, "<init>", "(IILReleasetrain$Offer;IILReleasetrain$Build;)V"⟩
abbrev cX1_isFix : ByteArray := prog_3_method_2_code
def yX1_isFix : MethodName := ⟨RX1, "isFix", "()Z"⟩
abbrev cX1_isFixOf : ByteArray := prog_3_method_3_code
def yX1_isFixOf : MethodName := ⟨RX1, "isFixOf", "(LReleasetrain$Build;)Z"⟩
abbrev cX1_isNewerThan : ByteArray := prog_3_method_4_code
def yX1_isNewerThan : MethodName := ⟨RX1, "isNewerThan", "(LReleasetrain$Build;)Z"⟩
abbrev cX1_isReviewedAheadOf : ByteArray := prog_3_method_5_code
def yX1_isReviewedAheadOf : MethodName := ⟨RX1, "isReviewedAheadOf", "(LReleasetrain$Build;)Z"⟩
abbrev cX1_isGivenAheadOf : ByteArray := prog_3_method_6_code
def yX1_isGivenAheadOf : MethodName := ⟨RX1, "isGivenAheadOf", "(LReleasetrain$Build;)Z"⟩
abbrev cX1_crashesPerInstall : ByteArray := prog_3_method_7_code
def yX1_crashesPerInstall : MethodName := ⟨RX1, "crashesPerInstall", "()F"⟩
abbrev cX1_meanStars : ByteArray := prog_3_method_8_code
def yX1_meanStars : MethodName := ⟨RX1, "meanStars", "()D"⟩
def RX2 : String := "Releasetrain$Device"
def TX2 : u_T := fun k => match k with
  | 0 => ("Releasetrain$Device", "model", "I", true)
  | 1 => ("Releasetrain$Device", "language", "I", true)
  | 2 => ("Releasetrain$Device", "bucket", "I", true)
  | 3 => ("Releasetrain$Device", "build", "LReleasetrain$Build;", false)
  | 4 => ("Releasetrain$Device", "stars", "I", false)
  | _ => ("Releasetrain$Device", "owned", "I", false)
def tyX2 : Nat → FieldType := fun k => match k with
  | 0 => .int
  | 1 => .int
  | 2 => .int
  | 3 => .object "Releasetrain$Build"
  | 4 => .int
  | _ => .int
abbrev wsX20 : List Cond := u_ws RX2 TX2 6
theorem nmX2 : ∀ a, a < 6 → ∀ b, b < 6 → a ≠ b → (TX2 a).2.1 ≠ (TX2 b).2.1 := by decide +kernel
theorem tyX2_ok : ∀ k, k < 6 → parseFieldDescriptor (TX2 k).2.2.1 = some (tyX2 k) := by decide +kernel
abbrev cX2_init : ByteArray := prog_4_method_1_code
def yX2_init : MethodName := ⟨RX2, "<init>", "(III)V"⟩
abbrev cX2_usableItems : ByteArray := prog_4_method_2_code
def yX2_usableItems : MethodName := ⟨RX2, "usableItems", "()I"⟩
def RX3 : String := "Releasetrain$DeviceKind"
def TX3 : u_T := fun k => match k with
  | 0 => ("Releasetrain$DeviceKind", "model", "I", true)
  | 1 => ("Releasetrain$DeviceKind", "language", "I", true)
  | _ => ("Releasetrain$DeviceKind", "counts", "LReleasetrain$BucketCounts;", true)
def tyX3 : Nat → FieldType := fun k => match k with
  | 0 => .int
  | 1 => .int
  | _ => .object "Releasetrain$BucketCounts"
abbrev wsX30 : List Cond := u_ws RX3 TX3 3
theorem nmX3 : ∀ a, a < 3 → ∀ b, b < 3 → a ≠ b → (TX3 a).2.1 ≠ (TX3 b).2.1 := by decide +kernel
theorem tyX3_ok : ∀ k, k < 3 → parseFieldDescriptor (TX3 k).2.2.1 = some (tyX3 k) := by decide +kernel
abbrev cX3_init : ByteArray := prog_5_method_1_code
def yX3_init : MethodName := ⟨RX3, "<init>", "(II)V"⟩
def RX4 : String := "Releasetrain$Group"
def TX4 : u_T := fun k => match k with
  | 0 => ("Releasetrain$Group", "number", "I", true)
  | 1 => ("Releasetrain$Group", "first", "LReleasetrain$Stack;", true)
  | 2 => ("Releasetrain$Group", "crashCount", "I", false)
  | _ => ("Releasetrain$Group", "buildSum", "I", false)
def tyX4 : Nat → FieldType := fun k => match k with
  | 0 => .int
  | 1 => .object "Releasetrain$Stack"
  | 2 => .int
  | _ => .int
abbrev wsX40 : List Cond := u_ws RX4 TX4 4
theorem nmX4 : ∀ a, a < 4 → ∀ b, b < 4 → a ≠ b → (TX4 a).2.1 ≠ (TX4 b).2.1 := by decide +kernel
theorem tyX4_ok : ∀ k, k < 4 → parseFieldDescriptor (TX4 k).2.2.1 = some (tyX4 k) := by decide +kernel
abbrev cX4_init : ByteArray := prog_6_method_1_code
def yX4_init : MethodName := ⟨RX4, "<init>", "(ILReleasetrain$Stack;)V"⟩
def RX5 : String := "Releasetrain$Offer"
def TX5 : u_T := fun k => match k with
  | 0 => ("Releasetrain$Offer", "models", "I", true)
  | 1 => ("Releasetrain$Offer", "languages", "I", true)
  | _ => ("Releasetrain$Offer", "items", "I", true)
def tyX5 : Nat → FieldType := fun k => match k with
  | 0 => .int
  | 1 => .int
  | _ => .int
abbrev wsX50 : List Cond := u_ws RX5 TX5 3
theorem nmX5 : ∀ a, a < 3 → ∀ b, b < 3 → a ≠ b → (TX5 a).2.1 ≠ (TX5 b).2.1 := by decide +kernel
theorem tyX5_ok : ∀ k, k < 3 → parseFieldDescriptor (TX5 k).2.2.1 = some (tyX5 k) := by decide +kernel
abbrev cX5_init : ByteArray := prog_7_method_1_code
def yX5_init : MethodName := ⟨RX5, "<init>", "(III)V"⟩
abbrev cX5_isFor : ByteArray := prog_7_method_2_code
def yX5_isFor : MethodName := ⟨RX5, "isFor", "(II)Z"⟩
def RX6 : String := "Releasetrain$Stack"
def TX6 : u_T := fun k => match k with
  | 0 => ("Releasetrain$Stack", "letters", "[C", true)
  | _ => ("Releasetrain$Stack", "length", "I", false)
def tyX6 : Nat → FieldType := fun k => match k with
  | 0 => .array .char
  | _ => .int
abbrev wsX60 : List Cond := u_ws RX6 TX6 2
theorem nmX6 : ∀ a, a < 2 → ∀ b, b < 2 → a ≠ b → (TX6 a).2.1 ≠ (TX6 b).2.1 := by decide +kernel
theorem tyX6_ok : ∀ k, k < 2 → parseFieldDescriptor (TX6 k).2.2.1 = some (tyX6 k) := by decide +kernel
abbrev cX6_init : ByteArray := prog_8_method_1_code
def yX6_init : MethodName := ⟨RX6, "<init>", "()V"⟩
abbrev cX6_append : ByteArray := prog_8_method_2_code
def yX6_append : MethodName := ⟨RX6, "append", "(C)V"⟩
abbrev cX6_clear : ByteArray := prog_8_method_3_code
def yX6_clear : MethodName := ⟨RX6, "clear", "()V"⟩
abbrev cX6_copyFrom : ByteArray := prog_8_method_4_code
def yX6_copyFrom : MethodName := ⟨RX6, "copyFrom", "(LReleasetrain$Stack;)V"⟩
abbrev cX6_likenessTo : ByteArray := prog_8_method_5_code
def yX6_likenessTo : MethodName := ⟨RX6, "likenessTo", "(LReleasetrain$Stack;)F"⟩
def RX7 : String := "Releasetrain"
def TX7 : u_T := fun k => match k with
  | 0 => ("Releasetrain", "devices", "Ljava/util/ArrayList;", true)
  | 1 => ("Releasetrain", "kinds", "Ljava/util/ArrayList;", true)
  | 2 => ("Releasetrain", "builds", "Ljava/util/ArrayList;", true)
  | 3 => ("Releasetrain", "crashGroups", "Ljava/util/ArrayList;", true)
  | 4 => ("Releasetrain", "typed", "LReleasetrain$Stack;", true)
  | 5 => ("Releasetrain", "crashing", "LReleasetrain$Stack;", true)
  | 6 => ("Releasetrain", "line", "Ljava/lang/StringBuilder;", true)
  | 7 => ("Releasetrain", "sizeLimit", "I", false)
  | 8 => ("Releasetrain", "barred", "I", false)
  | 9 => ("Releasetrain", "submissions", "I", false)
  | 10 => ("Releasetrain", "likenessBound", "F", false)
  | 11 => ("Releasetrain", "rateLimit", "F", false)
  | _ => ("Releasetrain", "today", "I", false)
def tyX7 : Nat → FieldType := fun k => match k with
  | 0 => .object "java/util/ArrayList"
  | 1 => .object "java/util/ArrayList"
  | 2 => .object "java/util/ArrayList"
  | 3 => .object "java/util/ArrayList"
  | 4 => .object "Releasetrain$Stack"
  | 5 => .object "Releasetrain$Stack"
  | 6 => .object "java/lang/StringBuilder"
  | 7 => .int
  | 8 => .int
  | 9 => .int
  | 10 => .float
  | 11 => .float
  | _ => .int
abbrev wsX70 : List Cond := u_ws RX7 TX7 13
theorem nmX7 : ∀ a, a < 13 → ∀ b, b < 13 → a ≠ b → (TX7 a).2.1 ≠ (TX7 b).2.1 := by decide +kernel
theorem tyX7_ok : ∀ k, k < 13 → parseFieldDescriptor (TX7 k).2.2.1 = some (tyX7 k) := by decide +kernel
abbrev cX7_init : ByteArray := prog_1_method_1_code
def yX7_init : MethodName := ⟨RX7, "<init>", "()V"⟩
abbrev cX7_addDevice : ByteArray := prog_1_method_2_code
def yX7_addDevice : MethodName := ⟨RX7, "addDevice", "(III)I"⟩
abbrev cX7_addBuild : ByteArray := prog_1_method_3_code
def yX7_addBuild : MethodName := ⟨RX7, "addBuild", "(IIIIII)I"⟩
abbrev cX7_addFix : ByteArray := prog_1_method_4_code
def yX7_addFix : MethodName := ⟨RX7, "addFix", "(IIII)I"⟩
abbrev cX7_submit : ByteArray := prog_1_method_5_code
def yX7_submit : MethodName := ⟨RX7, "submit", "(I)I"⟩
abbrev cX7_nextInReview : ByteArray := prog_1_method_6_code
def yX7_nextInReview : MethodName := ⟨RX7, "nextInReview", "()I"⟩
abbrev cX7_review : ByteArray := prog_1_method_7_code
def yX7_review : MethodName := ⟨RX7, "review", "()C"⟩
abbrev cX7_appeal : ByteArray := prog_1_method_8_code
def yX7_appeal : MethodName := ⟨RX7, "appeal", "(I)I"⟩
abbrev cX7_setSize : ByteArray := prog_1_method_9_code
def yX7_setSize : MethodName := ⟨RX7, "setSize", "(I)I"⟩
abbrev cX7_setBarred : ByteArray := prog_1_method_10_code
def yX7_setBarred : MethodName := ⟨RX7, "setBarred", "(I)I"⟩
abbrev cX7_stateOf : ByteArray := prog_1_method_11_code
def yX7_stateOf : MethodName := ⟨RX7, "stateOf", "(I)C"⟩
abbrev cX7_stage : ByteArray := prog_1_method_12_code
def yX7_stage : MethodName := ⟨RX7, "stage", "(III)I"⟩
abbrev cX7_percentageOf : ByteArray := prog_1_method_13_code
def yX7_percentageOf : MethodName := ⟨RX7, "percentageOf", "(I)I"⟩
abbrev cX7_percentageAfter : ByteArray := prog_1_method_14_code
def yX7_percentageAfter : MethodName := ⟨RX7, "percentageAfter", "(II)I"⟩
abbrev cX7_pass : ByteArray := prog_1_method_15_code
def yX7_pass : MethodName := ⟨RX7, "pass", "(I)I"⟩
abbrev cX7_holdOf : ByteArray := prog_1_method_16_code
def yX7_holdOf : MethodName := ⟨RX7, "holdOf", "(I)C"⟩
abbrev cX7_day : ByteArray := prog_1_method_17_code
def yX7_day : MethodName := ⟨RX7, "day", "()I"⟩
abbrev cX7_couldHave : ByteArray := prog_1_method_18_code
def yX7_couldHave : MethodName := ⟨RX7, "couldHave", "(II)Z"⟩
abbrev cX7_reach : ByteArray := prog_1_method_19_code
def yX7_reach : MethodName := ⟨RX7, "reach", "(I)I"⟩
abbrev cX7_reachByDevices : ByteArray := prog_1_method_20_code
def yX7_reachByDevices : MethodName := ⟨RX7, "reachByDevices", "(I)I"⟩
abbrev cX7_offered : ByteArray := prog_1_method_21_code
def yX7_offered : MethodName := ⟨RX7, "offered", "(I)I"⟩
abbrev cX7_update : ByteArray := prog_1_method_22_code
def yX7_update : MethodName := ⟨RX7, "update", "(I)I"⟩
abbrev cX7_buildOf : ByteArray := prog_1_method_23_code
def yX7_buildOf : MethodName := ⟨RX7, "buildOf", "(I)I"⟩
abbrev cX7_devicesWith : ByteArray := prog_1_method_24_code
def yX7_devicesWith : MethodName := ⟨RX7, "devicesWith", "(I)I"⟩
abbrev cX7_installs : ByteArray := prog_1_method_25_code
def yX7_installs : MethodName := ⟨RX7, "installs", "(I)I"⟩
abbrev cX7_type : ByteArray := prog_1_method_26_code
def yX7_type : MethodName := ⟨RX7, "type", "(C)I"⟩
abbrev cX7_crash : ByteArray := prog_1_method_27_code
def yX7_crash : MethodName := ⟨RX7, "crash", "(I)I"⟩
abbrev cX7_groups : ByteArray := prog_1_method_28_code
def yX7_groups : MethodName := ⟨RX7, "groups", "()I"⟩
abbrev cX7_crashesIn : ByteArray := prog_1_method_29_code
def yX7_crashesIn : MethodName := ⟨RX7, "crashesIn", "(I)I"⟩
abbrev cX7_stackAt : ByteArray := prog_1_method_30_code
def yX7_stackAt : MethodName := ⟨RX7, "stackAt", "(II)C"⟩
abbrev cX7_likeness : ByteArray := prog_1_method_31_code
def yX7_likeness : MethodName := ⟨RX7, "likeness", "(II)F"⟩
abbrev cX7_setBound : ByteArray := prog_1_method_32_code
def yX7_setBound : MethodName := ⟨RX7, "setBound", "(I)I"⟩
abbrev cX7_worstGroup : ByteArray := prog_1_method_33_code
def yX7_worstGroup : MethodName := ⟨RX7, "worstGroup", "()I"⟩
abbrev cX7_buildsIn : ByteArray := prog_1_method_34_code
def yX7_buildsIn : MethodName := ⟨RX7, "buildsIn", "(I)I"⟩
abbrev cX7_setRate : ByteArray := prog_1_method_35_code
def yX7_setRate : MethodName := ⟨RX7, "setRate", "(I)I"⟩
abbrev cX7_crashRate : ByteArray := prog_1_method_36_code
def yX7_crashRate : MethodName := ⟨RX7, "crashRate", "(I)F"⟩
abbrev cX7_rate : ByteArray := prog_1_method_37_code
def yX7_rate : MethodName := ⟨RX7, "rate", "(II)I"⟩
abbrev cX7_rating : ByteArray := prog_1_method_38_code
def yX7_rating : MethodName := ⟨RX7, "rating", "(I)D"⟩
abbrev cX7_ratingBits : ByteArray := prog_1_method_39_code
def yX7_ratingBits : MethodName := ⟨RX7, "ratingBits", "(I)J"⟩
abbrev cX7_buy : ByteArray := prog_1_method_40_code
def yX7_buy : MethodName := ⟨RX7, "buy", "(II)I"⟩
abbrev cX7_owns : ByteArray := prog_1_method_41_code
def yX7_owns : MethodName := ⟨RX7, "owns", "(II)Z"⟩
abbrev cX7_canUse : ByteArray := prog_1_method_42_code
def yX7_canUse : MethodName := ⟨RX7, "canUse", "(II)Z"⟩
abbrev cX7_usedShare : ByteArray := prog_1_method_43_code
def yX7_usedShare : MethodName := ⟨RX7, "usedShare", "()F"⟩
abbrev cX7_writeBuild : ByteArray := prog_1_method_44_code
def yX7_writeBuild : MethodName := ⟨RX7, "writeBuild", "(I)I"⟩
abbrev cX7_lineAt : ByteArray := prog_1_method_45_code
def yX7_lineAt : MethodName := ⟨RX7, "lineAt", "(I)C"⟩
abbrev cX7_outside : ByteArray := prog_1_method_46_code
def yX7_outside : MethodName := ⟨RX7, "outside", "(III)Z"⟩
abbrev cX7_isIn : ByteArray := prog_1_method_47_code
def yX7_isIn : MethodName := ⟨RX7, "isIn", "(II)Z"⟩
abbrev cX7_knownDevice : ByteArray := prog_1_method_48_code
def yX7_knownDevice : MethodName := ⟨RX7, "knownDevice", "(I)LReleasetrain$Device;"⟩
abbrev cX7_knownBuild : ByteArray := prog_1_method_49_code
def yX7_knownBuild : MethodName := ⟨RX7, "knownBuild", "(I)LReleasetrain$Build;"⟩
abbrev cX7_knownGroup : ByteArray := prog_1_method_50_code
def yX7_knownGroup : MethodName := ⟨RX7, "knownGroup", "(I)LReleasetrain$Group;"⟩
abbrev cX7_ratedBuild : ByteArray := prog_1_method_51_code
def yX7_ratedBuild : MethodName := ⟨RX7, "ratedBuild", "(I)LReleasetrain$Build;"⟩
abbrev cX7_buildHadBy : ByteArray := prog_1_method_52_code
def yX7_buildHadBy : MethodName := ⟨RX7, "buildHadBy", "(LReleasetrain$Device;)LReleasetrain$Build;"⟩
abbrev cX7_refuseUnknownItem : ByteArray := prog_1_method_53_code
def yX7_refuseUnknownItem : MethodName := ⟨RX7, "refuseUnknownItem", "(I)V"⟩
abbrev cX7_kindFor : ByteArray := prog_1_method_54_code
def yX7_kindFor : MethodName := ⟨RX7, "kindFor", "(II)LReleasetrain$DeviceKind;"⟩
abbrev cX7_addDraft : ByteArray := prog_1_method_55_code
def yX7_addDraft : MethodName := ⟨RX7, "addDraft", "(ILReleasetrain$Offer;IILReleasetrain$Build;)I"⟩
abbrev cX7_hasVersion : ByteArray := prog_1_method_56_code
def yX7_hasVersion : MethodName := ⟨RX7, "hasVersion", "(I)Z"⟩
abbrev cX7_queue : ByteArray := prog_1_method_57_code
def yX7_queue : MethodName := ⟨RX7, "queue", "(LReleasetrain$Build;)V"⟩
abbrev cX7_countWaiting : ByteArray := prog_1_method_58_code
def yX7_countWaiting : MethodName := ⟨RX7, "countWaiting", "()I"⟩
abbrev cX7_firstWaiting : ByteArray := prog_1_method_59_code
def yX7_firstWaiting : MethodName := ⟨RX7, "firstWaiting", "()LReleasetrain$Build;"⟩
abbrev cX7_barringRule : ByteArray := prog_1_method_60_code
def yX7_barringRule : MethodName := ⟨RX7, "barringRule", "(LReleasetrain$Build;)C"⟩
abbrev cX7_holdReason : ByteArray := prog_1_method_61_code
def yX7_holdReason : MethodName := ⟨RX7, "holdReason", "(LReleasetrain$Build;)C"⟩
abbrev cX7_isRolledOut : ByteArray := prog_1_method_62_code
def yX7_isRolledOut : MethodName := ⟨RX7, "isRolledOut", "(LReleasetrain$Build;)Z"⟩
abbrev cX7_grownPercentage : ByteArray := prog_1_method_63_code
def yX7_grownPercentage : MethodName := ⟨RX7, "grownPercentage", "(LReleasetrain$Build;I)I"⟩
abbrev cX7_isOpenTo : ByteArray := prog_1_method_64_code
def yX7_isOpenTo : MethodName := ⟨RX7, "isOpenTo", "(LReleasetrain$Build;LReleasetrain$Device;)Z"⟩
abbrev cX7_choiceFor : ByteArray := prog_1_method_65_code
def yX7_choiceFor : MethodName := ⟨RX7, "choiceFor", "(LReleasetrain$Device;)LReleasetrain$Build;"⟩
abbrev cX7_groupOfCrash : ByteArray := prog_1_method_66_code
def yX7_groupOfCrash : MethodName := ⟨RX7, "groupOfCrash", "()LReleasetrain$Group;"⟩
abbrev cX7_nearestGroup : ByteArray := prog_1_method_67_code
def yX7_nearestGroup : MethodName := ⟨RX7, "nearestGroup", "()LReleasetrain$Group;"⟩
abbrev cX7_standingOf : ByteArray := prog_1_method_68_code
def yX7_standingOf : MethodName := ⟨RX7, "standingOf", "(LReleasetrain$Build;)Ljava/lang/String;"⟩
abbrev cX7_standingOfApproved : ByteArray := prog_1_method_69_code
def yX7_standingOfApproved : MethodName := ⟨RX7, "standingOfApproved", "(LReleasetrain$Build;)Ljava/lang/String;"⟩
abbrev cX7_floatBits : ByteArray := prog_1_method_70_code
def yX7_floatBits : MethodName := ⟨RX7, "floatBits", "(F)I"⟩
abbrev cX7_doubleBits : ByteArray := prog_1_method_71_code
def yX7_doubleBits : MethodName := ⟨RX7, "doubleBits", "(D)J"⟩
def RX8 : String := "ReleasetrainModel"
def TX8 : u_T := fun k => match k with
  | _ => ("", "", "", false)
def tyX8 : Nat → FieldType := fun k => match k with
  | _ => .int
abbrev wsX80 : List Cond := u_ws RX8 TX8 0
theorem nmX8 : ∀ a, a < 0 → ∀ b, b < 0 → a ≠ b → (TX8 a).2.1 ≠ (TX8 b).2.1 := by decide +kernel
theorem tyX8_ok : ∀ k, k < 0 → parseFieldDescriptor (TX8 k).2.2.1 = some (tyX8 k) := by decide +kernel
def RJx145de : String := "java/io/Serializable"
def TJx145de : u_T := fun k => match k with
  | _ => ("", "", "", false)
def tyJx145de : Nat → FieldType := fun k => match k with
  | _ => .int
abbrev wsJx145de0 : List Cond := u_ws RJx145de TJx145de 0
theorem nmJx145de : ∀ a, a < 0 → ∀ b, b < 0 → a ≠ b → (TJx145de a).2.1 ≠ (TJx145de b).2.1 := by decide +kernel
theorem tyJx145de_ok : ∀ k, k < 0 → parseFieldDescriptor (TJx145de k).2.2.1 = some (tyJx145de k) := by decide +kernel
def RJ5 : String := "java/lang/AbstractStringBuilder"
def TJ5 : u_T := fun k => match k with
  | _ => ("", "", "", false)
def tyJ5 : Nat → FieldType := fun k => match k with
  | _ => .int
abbrev wsJ50 : List Cond := u_ws RJ5 TJ5 0
theorem nmJ5 : ∀ a, a < 0 → ∀ b, b < 0 → a ≠ b → (TJ5 a).2.1 ≠ (TJ5 b).2.1 := by decide +kernel
theorem tyJ5_ok : ∀ k, k < 0 → parseFieldDescriptor (TJ5 k).2.2.1 = some (tyJ5 k) := by decide +kernel
abbrev cJ5_init_d00df : ByteArray := prog_12_method_2_code
def yJ5_init_d00df : MethodName := ⟨RJ5, "<init>", "(I)V"⟩
abbrev cJ5_length_8abf5 : ByteArray := prog_12_method_6_code
def yJ5_length_8abf5 : MethodName := ⟨RJ5, "length", "()I"⟩
abbrev cJ5_ensureCapacityInternal_d00df : ByteArray := prog_12_method_9_code
def yJ5_ensureCapacityInternal_d00df : MethodName := ⟨RJ5, "ensureCapacityInternal", "(I)V"⟩
abbrev cJ5_newCapacity_0f7a4 : ByteArray := prog_12_method_10_code
def yJ5_newCapacity_0f7a4 : MethodName := ⟨RJ5, "newCapacity", "(I)I"⟩
abbrev cJ5_inflate_da8c8 : ByteArray := prog_12_method_11_code
def yJ5_inflate_da8c8 : MethodName := ⟨RJ5, "inflate", "()V"⟩
abbrev cJ5_setLength_d00df : ByteArray := prog_12_method_13_code
def yJ5_setLength_d00df : MethodName := ⟨RJ5, "setLength", "(I)V"⟩
abbrev cJ5_charAt_5068e : ByteArray := prog_12_method_14_code
def yJ5_charAt_5068e : MethodName := ⟨RJ5, "charAt", "(I)C"⟩
abbrev cJ5_append_cf1ce : ByteArray := prog_12_method_22_code
def yJ5_append_cf1ce : MethodName := ⟨RJ5, "append", "(Ljava/lang/String;)Ljava/lang/AbstractStringBuilder;"⟩
abbrev cJ5_appendNull_278bc : ByteArray := prog_12_method_26_code
def yJ5_appendNull_278bc : MethodName := ⟨RJ5, "appendNull", "()Ljava/lang/AbstractStringBuilder;"⟩
abbrev cJ5_append_3fe6f : ByteArray := prog_12_method_31_code
def yJ5_append_3fe6f : MethodName := ⟨RJ5, "append", "(C)Ljava/lang/AbstractStringBuilder;"⟩
abbrev cJ5_append_c97b9 : ByteArray := prog_12_method_32_code
def yJ5_append_c97b9 : MethodName := ⟨RJ5, "append", "(I)Ljava/lang/AbstractStringBuilder;"⟩
abbrev cJ5_getValue_6d5f1 : ByteArray := prog_12_method_64_code
def yJ5_getValue_6d5f1 : MethodName := ⟨RJ5, "getValue", "()[B"⟩
abbrev cJ5_isLatin1_aae02 : ByteArray := prog_12_method_68_code
def yJ5_isLatin1_aae02 : MethodName := ⟨RJ5, "isLatin1", "()Z"⟩
abbrev cJ5_inflateIfNeededFor_a7421 : ByteArray := prog_12_method_71_code
def yJ5_inflateIfNeededFor_a7421 : MethodName := ⟨RJ5, "inflateIfNeededFor", "(Ljava/lang/String;)V"⟩
abbrev cJ5_putStringAt_47b60 : ByteArray := prog_12_method_73_code
def yJ5_putStringAt_47b60 : MethodName := ⟨RJ5, "putStringAt", "(ILjava/lang/String;)V"⟩
def RJx2cfe8 : String := "java/lang/Appendable"
def TJx2cfe8 : u_T := fun k => match k with
  | _ => ("", "", "", false)
def tyJx2cfe8 : Nat → FieldType := fun k => match k with
  | _ => .int
abbrev wsJx2cfe80 : List Cond := u_ws RJx2cfe8 TJx2cfe8 0
theorem nmJx2cfe8 : ∀ a, a < 0 → ∀ b, b < 0 → a ≠ b → (TJx2cfe8 a).2.1 ≠ (TJx2cfe8 b).2.1 := by decide +kernel
theorem tyJx2cfe8_ok : ∀ k, k < 0 → parseFieldDescriptor (TJx2cfe8 k).2.2.1 = some (tyJx2cfe8 k) := by decide +kernel
def RJx00060 : String := "java/lang/ArrayIndexOutOfBoundsException"
def TJx00060 : u_T := fun k => match k with
  | 0 => ("java/lang/Throwable", "cause", "Ljava/lang/Throwable;", false)
  | 1 => ("java/lang/Throwable", "stackTrace", "[Ljava/lang/StackTraceElement;", false)
  | 2 => ("java/lang/Throwable", "suppressedExceptions", "Ljava/util/List;", false)
  | 3 => ("java/lang/Throwable", "detailMessage", "Ljava/lang/String;", false)
  | 4 => ("java/lang/Throwable", "backtrace", "Ljava/lang/Object;", false)
  | _ => ("java/lang/Throwable", "depth", "I", false)
def tyJx00060 : Nat → FieldType := fun k => match k with
  | 0 => .object "java/lang/Throwable"
  | 1 => .array (.object "java/lang/StackTraceElement")
  | 2 => .object "java/util/List"
  | 3 => .object "java/lang/String"
  | 4 => .object "java/lang/Object"
  | _ => .int
abbrev wsJx000600 : List Cond := u_ws RJx00060 TJx00060 6
theorem nmJx00060 : ∀ a, a < 6 → ∀ b, b < 6 → a ≠ b → (TJx00060 a).2.1 ≠ (TJx00060 b).2.1 := by decide +kernel
theorem tyJx00060_ok : ∀ k, k < 6 → parseFieldDescriptor (TJx00060 k).2.2.1 = some (tyJx00060 k) := by decide +kernel
abbrev cJx00060_init_a7421 : ByteArray := prog_15_method_2_code
def yJx00060_init_a7421 : MethodName := ⟨RJx00060, "<init>", "(Ljava/lang/String;)V"⟩
abbrev cJx00060_init_d00df : ByteArray := prog_15_method_3_code
def yJx00060_init_d00df : MethodName := ⟨RJx00060, "<init>", "(I)V"⟩
def RJx9f9b0 : String := "java/lang/CharSequence"
def TJx9f9b0 : u_T := fun k => match k with
  | _ => ("", "", "", false)
def tyJx9f9b0 : Nat → FieldType := fun k => match k with
  | _ => .int
abbrev wsJx9f9b00 : List Cond := u_ws RJx9f9b0 TJx9f9b0 0
theorem nmJx9f9b0 : ∀ a, a < 0 → ∀ b, b < 0 → a ≠ b → (TJx9f9b0 a).2.1 ≠ (TJx9f9b0 b).2.1 := by decide +kernel
theorem tyJx9f9b0_ok : ∀ k, k < 0 → parseFieldDescriptor (TJx9f9b0 k).2.2.1 = some (tyJx9f9b0 k) := by decide +kernel
def RJx8e188 : String := "java/lang/Cloneable"
def TJx8e188 : u_T := fun k => match k with
  | _ => ("", "", "", false)
def tyJx8e188 : Nat → FieldType := fun k => match k with
  | _ => .int
abbrev wsJx8e1880 : List Cond := u_ws RJx8e188 TJx8e188 0
theorem nmJx8e188 : ∀ a, a < 0 → ∀ b, b < 0 → a ≠ b → (TJx8e188 a).2.1 ≠ (TJx8e188 b).2.1 := by decide +kernel
theorem tyJx8e188_ok : ∀ k, k < 0 → parseFieldDescriptor (TJx8e188 k).2.2.1 = some (tyJx8e188 k) := by decide +kernel
def RJxb160c : String := "java/lang/Comparable"
def TJxb160c : u_T := fun k => match k with
  | _ => ("", "", "", false)
def tyJxb160c : Nat → FieldType := fun k => match k with
  | _ => .int
abbrev wsJxb160c0 : List Cond := u_ws RJxb160c TJxb160c 0
theorem nmJxb160c : ∀ a, a < 0 → ∀ b, b < 0 → a ≠ b → (TJxb160c a).2.1 ≠ (TJxb160c b).2.1 := by decide +kernel
theorem tyJxb160c_ok : ∀ k, k < 0 → parseFieldDescriptor (TJxb160c k).2.2.1 = some (tyJxb160c k) := by decide +kernel
def RJxf58ca : String := "java/lang/Float"
def TJxf58ca : u_T := fun k => match k with
  | _ => ("", "", "", false)
def tyJxf58ca : Nat → FieldType := fun k => match k with
  | _ => .int
abbrev wsJxf58ca0 : List Cond := u_ws RJxf58ca TJxf58ca 0
theorem nmJxf58ca : ∀ a, a < 0 → ∀ b, b < 0 → a ≠ b → (TJxf58ca a).2.1 ≠ (TJxf58ca b).2.1 := by decide +kernel
theorem tyJxf58ca_ok : ∀ k, k < 0 → parseFieldDescriptor (TJxf58ca k).2.2.1 = some (tyJxf58ca k) := by decide +kernel
abbrev cJxf58ca_isNaN_12338 : ByteArray := prog_20_method_6_code
def yJxf58ca_isNaN_12338 : MethodName := ⟨RJxf58ca, "isNaN", "(F)Z"⟩
abbrev cJxf58ca_floatToIntBits_5c35a : ByteArray := prog_20_method_24_code
def yJxf58ca_floatToIntBits_5c35a : MethodName := ⟨RJxf58ca, "floatToIntBits", "(F)I"⟩
def RJ6 : String := "java/lang/Integer"
def TJ6 : u_T := fun k => match k with
  | _ => ("", "", "", false)
def tyJ6 : Nat → FieldType := fun k => match k with
  | _ => .int
abbrev wsJ60 : List Cond := u_ws RJ6 TJ6 0
theorem nmJ6 : ∀ a, a < 0 → ∀ b, b < 0 → a ≠ b → (TJ6 a).2.1 ≠ (TJ6 b).2.1 := by decide +kernel
theorem tyJ6_ok : ∀ k, k < 0 → parseFieldDescriptor (TJ6 k).2.2.1 = some (tyJ6 k) := by decide +kernel
abbrev cJ6_getChars_ba4f3 : ByteArray := prog_24_method_12_code
def yJ6_getChars_ba4f3 : MethodName := ⟨RJ6, "getChars", "(II[B)I"⟩
abbrev cJ6_stringSize_0f7a4 : ByteArray := prog_24_method_13_code
def yJ6_stringSize_0f7a4 : MethodName := ⟨RJ6, "stringSize", "(I)I"⟩
abbrev cJ6_bitCount_0f7a4 : ByteArray := prog_24_method_49_code
def yJ6_bitCount_0f7a4 : MethodName := ⟨RJ6, "bitCount", "(I)I"⟩
def RJxab1ab : String := "java/lang/Iterable"
def TJxab1ab : u_T := fun k => match k with
  | _ => ("", "", "", false)
def tyJxab1ab : Nat → FieldType := fun k => match k with
  | _ => .int
abbrev wsJxab1ab0 : List Cond := u_ws RJxab1ab TJxab1ab 0
theorem nmJxab1ab : ∀ a, a < 0 → ∀ b, b < 0 → a ≠ b → (TJxab1ab a).2.1 ≠ (TJxab1ab b).2.1 := by decide +kernel
theorem tyJxab1ab_ok : ∀ k, k < 0 → parseFieldDescriptor (TJxab1ab k).2.2.1 = some (tyJxab1ab k) := by decide +kernel
def RJ9 : String := "java/lang/Math"
def TJ9 : u_T := fun k => match k with
  | _ => ("", "", "", false)
def tyJ9 : Nat → FieldType := fun k => match k with
  | _ => .int
abbrev wsJ90 : List Cond := u_ws RJ9 TJ9 0
theorem nmJ9 : ∀ a, a < 0 → ∀ b, b < 0 → a ≠ b → (TJ9 a).2.1 ≠ (TJ9 b).2.1 := by decide +kernel
theorem tyJ9_ok : ∀ k, k < 0 → parseFieldDescriptor (TJ9 k).2.2.1 = some (tyJ9 k) := by decide +kernel
abbrev cJ9_max_7cf53 : ByteArray := prog_26_method_65_code
def yJ9_max_7cf53 : MethodName := ⟨RJ9, "max", "(II)I"⟩
abbrev cJ9_min_7cf53 : ByteArray := prog_26_method_69_code
def yJ9_min_7cf53 : MethodName := ⟨RJ9, "min", "(II)I"⟩
def RJxd2413 : String := "java/lang/Number"
def TJxd2413 : u_T := fun k => match k with
  | _ => ("", "", "", false)
def tyJxd2413 : Nat → FieldType := fun k => match k with
  | _ => .int
abbrev wsJxd24130 : List Cond := u_ws RJxd2413 TJxd2413 0
theorem nmJxd2413 : ∀ a, a < 0 → ∀ b, b < 0 → a ≠ b → (TJxd2413 a).2.1 ≠ (TJxd2413 b).2.1 := by decide +kernel
theorem tyJxd2413_ok : ∀ k, k < 0 → parseFieldDescriptor (TJxd2413 k).2.2.1 = some (tyJxd2413 k) := by decide +kernel
def RJ0 : String := "java/lang/String"
def TJ0 : u_T := fun k => match k with
  | 0 => ("java/lang/String", "value", "[B", true)
  | 1 => ("java/lang/String", "coder", "B", true)
  | 2 => ("java/lang/String", "hash", "I", false)
  | _ => ("java/lang/String", "hashIsZero", "Z", false)
def tyJ0 : Nat → FieldType := fun k => match k with
  | 0 => .array .byte
  | 1 => .byte
  | 2 => .int
  | _ => .boolean
abbrev wsJ00 : List Cond := u_ws RJ0 TJ0 4
theorem nmJ0 : ∀ a, a < 4 → ∀ b, b < 4 → a ≠ b → (TJ0 a).2.1 ≠ (TJ0 b).2.1 := by decide +kernel
theorem tyJ0_ok : ∀ k, k < 4 → parseFieldDescriptor (TJ0 k).2.2.1 = some (tyJ0 k) := by decide +kernel
abbrev cJ0_init_81219 : ByteArray := prog_29_method_53_code
def yJ0_init_81219 : MethodName := ⟨RJ0, "<init>", "(Ljava/lang/StringBuilder;)V"⟩
abbrev cJ0_length_8abf5 : ByteArray := prog_29_method_54_code
def yJ0_length_8abf5 : MethodName := ⟨RJ0, "length", "()I"⟩
abbrev cJ0_getBytes_840e7 : ByteArray := prog_29_method_147_code
def yJ0_getBytes_840e7 : MethodName := ⟨RJ0, "getBytes", "([BIB)V"⟩
abbrev cJ0_init_db425 : ByteArray := prog_29_method_150_code
def yJ0_init_db425 : MethodName := ⟨RJ0, "<init>", "(Ljava/lang/AbstractStringBuilder;Ljava/lang/Void;)V"⟩
abbrev cJ0_coder_7d493 : ByteArray := prog_29_method_152_code
def yJ0_coder_7d493 : MethodName := ⟨RJ0, "coder", "()B"⟩
abbrev cJ0_checkIndex_df160 : ByteArray := prog_29_method_155_code
def yJ0_checkIndex_df160 : MethodName := ⟨RJ0, "checkIndex", "(II)V"⟩
abbrev cJ0_checkBoundsOffCount_cabcc : ByteArray := prog_29_method_157_code
def yJ0_checkBoundsOffCount_cabcc : MethodName := ⟨RJ0, "checkBoundsOffCount", "(III)I"⟩
abbrev cJ0_checkBoundsBeginEnd_23922 : ByteArray := prog_29_method_158_code
def yJ0_checkBoundsBeginEnd_23922 : MethodName := ⟨RJ0, "checkBoundsBeginEnd", "(III)V"⟩
def RJ4 : String := "java/lang/StringBuilder"
def TJ4 : u_T := fun k => match k with
  | 0 => ("java/lang/AbstractStringBuilder", "value", "[B", false)
  | 1 => ("java/lang/AbstractStringBuilder", "coder", "B", false)
  | 2 => ("java/lang/AbstractStringBuilder", "maybeLatin1", "Z", false)
  | _ => ("java/lang/AbstractStringBuilder", "count", "I", false)
def tyJ4 : Nat → FieldType := fun k => match k with
  | 0 => .array .byte
  | 1 => .byte
  | 2 => .boolean
  | _ => .int
abbrev wsJ40 : List Cond := u_ws RJ4 TJ4 4
theorem nmJ4 : ∀ a, a < 4 → ∀ b, b < 4 → a ≠ b → (TJ4 a).2.1 ≠ (TJ4 b).2.1 := by decide +kernel
theorem tyJ4_ok : ∀ k, k < 4 → parseFieldDescriptor (TJ4 k).2.2.1 = some (tyJ4 k) := by decide +kernel
abbrev cJ4_init_da8c8 : ByteArray := prog_30_method_1_code
def yJ4_init_da8c8 : MethodName := ⟨RJ4, "<init>", "()V"⟩
abbrev cJ4_append_15ec4 : ByteArray := prog_30_method_7_code
def yJ4_append_15ec4 : MethodName := ⟨RJ4, "append", "(Ljava/lang/String;)Ljava/lang/StringBuilder;"⟩
abbrev cJ4_append_cf468 : ByteArray := prog_30_method_14_code
def yJ4_append_cf468 : MethodName := ⟨RJ4, "append", "(C)Ljava/lang/StringBuilder;"⟩
abbrev cJ4_append_bf812 : ByteArray := prog_30_method_15_code
def yJ4_append_bf812 : MethodName := ⟨RJ4, "append", "(I)Ljava/lang/StringBuilder;"⟩
abbrev cJ4_toString_0e30d : ByteArray := prog_30_method_42_code
def yJ4_toString_0e30d : MethodName := ⟨RJ4, "toString", "()Ljava/lang/String;"⟩
abbrev cJ4_charAt_5068e : ByteArray := prog_30_method_88_code
def yJ4_charAt_5068e : MethodName := ⟨RJ4, "charAt", "(I)C"⟩
abbrev cJ4_setLength_d00df : ByteArray := prog_30_method_89_code
def yJ4_setLength_d00df : MethodName := ⟨RJ4, "setLength", "(I)V"⟩
abbrev cJ4_length_8abf5 : ByteArray := prog_30_method_93_code
def yJ4_length_8abf5 : MethodName := ⟨RJ4, "length", "()I"⟩
def RJx7c733 : String := "java/lang/StringIndexOutOfBoundsException"
def TJx7c733 : u_T := fun k => match k with
  | 0 => ("java/lang/Throwable", "backtrace", "Ljava/lang/Object;", false)
  | 1 => ("java/lang/Throwable", "detailMessage", "Ljava/lang/String;", false)
  | 2 => ("java/lang/Throwable", "cause", "Ljava/lang/Throwable;", false)
  | 3 => ("java/lang/Throwable", "stackTrace", "[Ljava/lang/StackTraceElement;", false)
  | 4 => ("java/lang/Throwable", "depth", "I", false)
  | _ => ("java/lang/Throwable", "suppressedExceptions", "Ljava/util/List;", false)
def tyJx7c733 : Nat → FieldType := fun k => match k with
  | 0 => .object "java/lang/Object"
  | 1 => .object "java/lang/String"
  | 2 => .object "java/lang/Throwable"
  | 3 => .array (.object "java/lang/StackTraceElement")
  | 4 => .int
  | _ => .object "java/util/List"
abbrev wsJx7c7330 : List Cond := u_ws RJx7c733 TJx7c733 6
theorem nmJx7c733 : ∀ a, a < 6 → ∀ b, b < 6 → a ≠ b → (TJx7c733 a).2.1 ≠ (TJx7c733 b).2.1 := by decide +kernel
theorem tyJx7c733_ok : ∀ k, k < 6 → parseFieldDescriptor (TJx7c733 k).2.2.1 = some (tyJx7c733 k) := by decide +kernel
abbrev cJx7c733_init_d00df : ByteArray := prog_31_method_3_code
def yJx7c733_init_d00df : MethodName := ⟨RJx7c733, "<init>", "(I)V"⟩
def RJ1 : String := "java/lang/StringLatin1"
def TJ1 : u_T := fun k => match k with
  | _ => ("", "", "", false)
def tyJ1 : Nat → FieldType := fun k => match k with
  | _ => .int
abbrev wsJ10 : List Cond := u_ws RJ1 TJ1 0
theorem nmJ1 : ∀ a, a < 0 → ∀ b, b < 0 → a ≠ b → (TJ1 a).2.1 ≠ (TJ1 b).2.1 := by decide +kernel
theorem tyJ1_ok : ∀ k, k < 0 → parseFieldDescriptor (TJ1 k).2.2.1 = some (tyJ1 k) := by decide +kernel
abbrev cJ1_canEncode_fc78d : ByteArray := prog_32_method_3_code
def yJ1_canEncode_fc78d : MethodName := ⟨RJ1, "canEncode", "(C)Z"⟩
abbrev cJ1_fillNull_b72d1 : ByteArray := prog_32_method_48_code
def yJ1_fillNull_b72d1 : MethodName := ⟨RJ1, "fillNull", "([BII)V"⟩
abbrev cJ1_inflate_0e8fd : ByteArray := prog_32_method_50_code
def yJ1_inflate_0e8fd : MethodName := ⟨RJ1, "inflate", "([BI[BII)V"⟩
def RJ2 : String := "java/lang/StringUTF16"
def TJ2 : u_T := fun k => match k with
  | _ => ("", "", "", false)
def tyJ2 : Nat → FieldType := fun k => match k with
  | _ => .int
abbrev wsJ20 : List Cond := u_ws RJ2 TJ2 0
theorem nmJ2 : ∀ a, a < 0 → ∀ b, b < 0 → a ≠ b → (TJ2 a).2.1 ≠ (TJ2 b).2.1 := by decide +kernel
theorem tyJ2_ok : ∀ k, k < 0 → parseFieldDescriptor (TJ2 k).2.2.1 = some (tyJ2 k) := by decide +kernel
abbrev cJ2_newBytesFor_77867 : ByteArray := prog_33_method_2_code
def yJ2_newBytesFor_77867 : MethodName := ⟨RJ2, "newBytesFor", "(I)[B"⟩
abbrev cJ2_newBytesLength_0f7a4 : ByteArray := prog_33_method_3_code
def yJ2_newBytesLength_0f7a4 : MethodName := ⟨RJ2, "newBytesLength", "(I)I"⟩
abbrev cJ2_putChar_b72d1 : ByteArray := prog_33_method_4_code
def yJ2_putChar_b72d1 : MethodName := ⟨RJ2, "putChar", "([BII)V"⟩
abbrev cJ2_getChar_3b067 : ByteArray := prog_33_method_5_code
def yJ2_getChar_3b067 : MethodName := ⟨RJ2, "getChar", "([BI)C"⟩
abbrev cJ2_length_9d52b : ByteArray := prog_33_method_6_code
def yJ2_length_9d52b : MethodName := ⟨RJ2, "length", "([B)I"⟩
abbrev cJ2_coderFromArrayLen_85cad : ByteArray := prog_33_method_15_code
def yJ2_coderFromArrayLen_85cad : MethodName := ⟨RJ2, "coderFromArrayLen", "([BI)B"⟩
abbrev cJ2_compress_39247 : ByteArray := prog_33_method_17_code
def yJ2_compress_39247 : MethodName := ⟨RJ2, "compress", "([BII)[B"⟩
abbrev cJ2_compress_5af95 : ByteArray := prog_33_method_22_code
def yJ2_compress_5af95 : MethodName := ⟨RJ2, "compress", "([BI[BII)I"⟩
abbrev cJ2_fillNull_b72d1 : ByteArray := prog_33_method_70_code
def yJ2_fillNull_b72d1 : MethodName := ⟨RJ2, "fillNull", "([BII)V"⟩
abbrev cJ2_putCharSB_b72d1 : ByteArray := prog_33_method_71_code
def yJ2_putCharSB_b72d1 : MethodName := ⟨RJ2, "putCharSB", "([BII)V"⟩
abbrev cJ2_getChars_46870 : ByteArray := prog_33_method_77_code
def yJ2_getChars_46870 : MethodName := ⟨RJ2, "getChars", "(III[B)I"⟩
abbrev cJ2_putCharsAt_cd4e5 : ByteArray := prog_33_method_81_code
def yJ2_putCharsAt_cd4e5 : MethodName := ⟨RJ2, "putCharsAt", "([BICCCC)I"⟩
abbrev cJ2_inflate_0e8fd : ByteArray := prog_33_method_86_code
def yJ2_inflate_0e8fd : MethodName := ⟨RJ2, "inflate", "([BI[BII)V"⟩
abbrev cJ2_getChars_ba4f3 : ByteArray := prog_33_method_89_code
def yJ2_getChars_ba4f3 : MethodName := ⟨RJ2, "getChars", "(II[B)I"⟩
abbrev cJ2_checkIndex_2214a : ByteArray := prog_33_method_91_code
def yJ2_checkIndex_2214a : MethodName := ⟨RJ2, "checkIndex", "(I[B)V"⟩
abbrev cJ2_checkBoundsBeginEnd_d044e : ByteArray := prog_33_method_93_code
def yJ2_checkBoundsBeginEnd_d044e : MethodName := ⟨RJ2, "checkBoundsBeginEnd", "(II[B)V"⟩
abbrev cJ2_checkBoundsOffCount_d044e : ByteArray := prog_33_method_94_code
def yJ2_checkBoundsOffCount_d044e : MethodName := ⟨RJ2, "checkBoundsOffCount", "(II[B)V"⟩
def RJ10 : String := "java/lang/System"
def TJ10 : u_T := fun k => match k with
  | _ => ("", "", "", false)
def tyJ10 : Nat → FieldType := fun k => match k with
  | _ => .int
abbrev wsJ100 : List Cond := u_ws RJ10 TJ10 0
theorem nmJ10 : ∀ a, a < 0 → ∀ b, b < 0 → a ≠ b → (TJ10 a).2.1 ≠ (TJ10 b).2.1 := by decide +kernel
theorem tyJ10_ok : ∀ k, k < 0 → parseFieldDescriptor (TJ10 k).2.2.1 = some (tyJ10 k) := by decide +kernel
def RJxfd54e : String := "java/lang/constant/Constable"
def TJxfd54e : u_T := fun k => match k with
  | _ => ("", "", "", false)
def tyJxfd54e : Nat → FieldType := fun k => match k with
  | _ => .int
abbrev wsJxfd54e0 : List Cond := u_ws RJxfd54e TJxfd54e 0
theorem nmJxfd54e : ∀ a, a < 0 → ∀ b, b < 0 → a ≠ b → (TJxfd54e a).2.1 ≠ (TJxfd54e b).2.1 := by decide +kernel
theorem tyJxfd54e_ok : ∀ k, k < 0 → parseFieldDescriptor (TJxfd54e k).2.2.1 = some (tyJxfd54e k) := by decide +kernel
def RJx3cf43 : String := "java/lang/constant/ConstantDesc"
def TJx3cf43 : u_T := fun k => match k with
  | _ => ("", "", "", false)
def tyJx3cf43 : Nat → FieldType := fun k => match k with
  | _ => .int
abbrev wsJx3cf430 : List Cond := u_ws RJx3cf43 TJx3cf43 0
theorem nmJx3cf43 : ∀ a, a < 0 → ∀ b, b < 0 → a ≠ b → (TJx3cf43 a).2.1 ≠ (TJx3cf43 b).2.1 := by decide +kernel
theorem tyJx3cf43_ok : ∀ k, k < 0 → parseFieldDescriptor (TJx3cf43 k).2.2.1 = some (tyJx3cf43 k) := by decide +kernel
def RJxa1e45 : String := "java/util/AbstractCollection"
def TJxa1e45 : u_T := fun k => match k with
  | _ => ("", "", "", false)
def tyJxa1e45 : Nat → FieldType := fun k => match k with
  | _ => .int
abbrev wsJxa1e450 : List Cond := u_ws RJxa1e45 TJxa1e45 0
theorem nmJxa1e45 : ∀ a, a < 0 → ∀ b, b < 0 → a ≠ b → (TJxa1e45 a).2.1 ≠ (TJxa1e45 b).2.1 := by decide +kernel
theorem tyJxa1e45_ok : ∀ k, k < 0 → parseFieldDescriptor (TJxa1e45 k).2.2.1 = some (tyJxa1e45 k) := by decide +kernel
abbrev cJxa1e45_init_da8c8 : ByteArray := prog_39_method_1_code
def yJxa1e45_init_da8c8 : MethodName := ⟨RJxa1e45, "<init>", "()V"⟩
def RJxc12de : String := "java/util/AbstractList"
def TJxc12de : u_T := fun k => match k with
  | _ => ("", "", "", false)
def tyJxc12de : Nat → FieldType := fun k => match k with
  | _ => .int
abbrev wsJxc12de0 : List Cond := u_ws RJxc12de TJxc12de 0
theorem nmJxc12de : ∀ a, a < 0 → ∀ b, b < 0 → a ≠ b → (TJxc12de a).2.1 ≠ (TJxc12de b).2.1 := by decide +kernel
theorem tyJxc12de_ok : ∀ k, k < 0 → parseFieldDescriptor (TJxc12de k).2.2.1 = some (tyJxc12de k) := by decide +kernel
abbrev cJxc12de_init_da8c8 : ByteArray := prog_40_method_1_code
def yJxc12de_init_da8c8 : MethodName := ⟨RJxc12de, "<init>", "()V"⟩
def RJx4a65c : String := "java/util/ArrayList"
def TJx4a65c : u_T := fun k => match k with
  | 0 => ("java/util/AbstractList", "modCount", "I", false)
  | 1 => ("java/util/ArrayList", "elementData", "[Ljava/lang/Object;", false)
  | _ => ("java/util/ArrayList", "size", "I", false)
def tyJx4a65c : Nat → FieldType := fun k => match k with
  | 0 => .int
  | 1 => .array (.object "java/lang/Object")
  | _ => .int
abbrev wsJx4a65c0 : List Cond := u_ws RJx4a65c TJx4a65c 3
theorem nmJx4a65c : ∀ a, a < 3 → ∀ b, b < 3 → a ≠ b → (TJx4a65c a).2.1 ≠ (TJx4a65c b).2.1 := by decide +kernel
theorem tyJx4a65c_ok : ∀ k, k < 3 → parseFieldDescriptor (TJx4a65c k).2.2.1 = some (tyJx4a65c k) := by decide +kernel
abbrev cJx4a65c_init_da8c8 : ByteArray := prog_41_method_2_code
def yJx4a65c_init_da8c8 : MethodName := ⟨RJx4a65c, "<init>", "()V"⟩
abbrev cJx4a65c_grow_92f84 : ByteArray := prog_41_method_6_code
def yJx4a65c_grow_92f84 : MethodName := ⟨RJx4a65c, "grow", "(I)[Ljava/lang/Object;"⟩
abbrev cJx4a65c_grow_d5877 : ByteArray := prog_41_method_7_code
def yJx4a65c_grow_d5877 : MethodName := ⟨RJx4a65c, "grow", "()[Ljava/lang/Object;"⟩
abbrev cJx4a65c_size_8abf5 : ByteArray := prog_41_method_8_code
def yJx4a65c_size_8abf5 : MethodName := ⟨RJx4a65c, "size", "()I"⟩
abbrev cJx4a65c_isEmpty_aae02 : ByteArray := prog_41_method_9_code
def yJx4a65c_isEmpty_aae02 : MethodName := ⟨RJx4a65c, "isEmpty", "()Z"⟩
abbrev cJx4a65c_elementData_915e3 : ByteArray := prog_41_method_18_code
def yJx4a65c_elementData_915e3 : MethodName := ⟨RJx4a65c, "elementData", "(I)Ljava/lang/Object;"⟩
abbrev cJx4a65c_get_915e3 : ByteArray := prog_41_method_20_code
def yJx4a65c_get_915e3 : MethodName := ⟨RJx4a65c, "get", "(I)Ljava/lang/Object;"⟩
abbrev cJx4a65c_add_72be8 : ByteArray := prog_41_method_24_code
def yJx4a65c_add_72be8 : MethodName := ⟨RJx4a65c, "add", "(Ljava/lang/Object;[Ljava/lang/Object;I)V"⟩
abbrev cJx4a65c_add_9ea2d : ByteArray := prog_41_method_25_code
def yJx4a65c_add_9ea2d : MethodName := ⟨RJx4a65c, "add", "(Ljava/lang/Object;)Z"⟩
def RJ7 : String := "java/util/Arrays"
def TJ7 : u_T := fun k => match k with
  | _ => ("", "", "", false)
def tyJ7 : Nat → FieldType := fun k => match k with
  | _ => .int
abbrev wsJ70 : List Cond := u_ws RJ7 TJ7 0
theorem nmJ7 : ∀ a, a < 0 → ∀ b, b < 0 → a ≠ b → (TJ7 a).2.1 ≠ (TJ7 b).2.1 := by decide +kernel
theorem tyJ7_ok : ∀ k, k < 0 → parseFieldDescriptor (TJ7 k).2.2.1 = some (tyJ7 k) := by decide +kernel
abbrev cJ7_rangeCheck_23922 : ByteArray := prog_42_method_30_code
def yJ7_rangeCheck_23922 : MethodName := ⟨RJ7, "rangeCheck", "(III)V"⟩
abbrev cJ7_fill_eb02e : ByteArray := prog_42_method_110_code
def yJ7_fill_eb02e : MethodName := ⟨RJ7, "fill", "([BIIB)V"⟩
abbrev cJ7_copyOf_1904c : ByteArray := prog_42_method_119_code
def yJ7_copyOf_1904c : MethodName := ⟨RJ7, "copyOf", "([Ljava/lang/Object;I)[Ljava/lang/Object;"⟩
abbrev cJ7_copyOf_6403c : ByteArray := prog_42_method_120_code
def yJ7_copyOf_6403c : MethodName := ⟨RJ7, "copyOf", "([Ljava/lang/Object;ILjava/lang/Class;)[Ljava/lang/Object;"⟩
abbrev cJ7_copyOf_9075b : ByteArray := prog_42_method_121_code
def yJ7_copyOf_9075b : MethodName := ⟨RJ7, "copyOf", "([BI)[B"⟩
abbrev cJ7_checkLength_df160 : ByteArray := prog_42_method_131_code
def yJ7_checkLength_df160 : MethodName := ⟨RJ7, "checkLength", "(II)V"⟩
abbrev cJ7_copyOfRange_39247 : ByteArray := prog_42_method_132_code
def yJ7_copyOfRange_39247 : MethodName := ⟨RJ7, "copyOfRange", "([BII)[B"⟩
abbrev cJ7_copyOfRangeByte_39247 : ByteArray := prog_42_method_133_code
def yJ7_copyOfRangeByte_39247 : MethodName := ⟨RJ7, "copyOfRangeByte", "([BII)[B"⟩
def RJx5ef63 : String := "java/util/Collection"
def TJx5ef63 : u_T := fun k => match k with
  | _ => ("", "", "", false)
def tyJx5ef63 : Nat → FieldType := fun k => match k with
  | _ => .int
abbrev wsJx5ef630 : List Cond := u_ws RJx5ef63 TJx5ef63 0
theorem nmJx5ef63 : ∀ a, a < 0 → ∀ b, b < 0 → a ≠ b → (TJx5ef63 a).2.1 ≠ (TJx5ef63 b).2.1 := by decide +kernel
theorem tyJx5ef63_ok : ∀ k, k < 0 → parseFieldDescriptor (TJx5ef63 k).2.2.1 = some (tyJx5ef63 k) := by decide +kernel
def RJxbd725 : String := "java/util/List"
def TJxbd725 : u_T := fun k => match k with
  | _ => ("", "", "", false)
def tyJxbd725 : Nat → FieldType := fun k => match k with
  | _ => .int
abbrev wsJxbd7250 : List Cond := u_ws RJxbd725 TJxbd725 0
theorem nmJxbd725 : ∀ a, a < 0 → ∀ b, b < 0 → a ≠ b → (TJxbd725 a).2.1 ≠ (TJxbd725 b).2.1 := by decide +kernel
theorem tyJxbd725_ok : ∀ k, k < 0 → parseFieldDescriptor (TJxbd725 k).2.2.1 = some (tyJxbd725 k) := by decide +kernel
def RJ15 : String := "java/util/Objects"
def TJ15 : u_T := fun k => match k with
  | _ => ("", "", "", false)
def tyJ15 : Nat → FieldType := fun k => match k with
  | _ => .int
abbrev wsJ150 : List Cond := u_ws RJ15 TJ15 0
theorem nmJ15 : ∀ a, a < 0 → ∀ b, b < 0 → a ≠ b → (TJ15 a).2.1 ≠ (TJ15 b).2.1 := by decide +kernel
theorem tyJ15_ok : ∀ k, k < 0 → parseFieldDescriptor (TJ15 k).2.2.1 = some (tyJ15 k) := by decide +kernel
abbrev cJ15_checkIndex_7cf53 : ByteArray := prog_46_method_17_code
def yJ15_checkIndex_7cf53 : MethodName := ⟨RJ15, "checkIndex", "(II)I"⟩
def RJxf0a74 : String := "java/util/RandomAccess"
def TJxf0a74 : u_T := fun k => match k with
  | _ => ("", "", "", false)
def tyJxf0a74 : Nat → FieldType := fun k => match k with
  | _ => .int
abbrev wsJxf0a740 : List Cond := u_ws RJxf0a74 TJxf0a74 0
theorem nmJxf0a74 : ∀ a, a < 0 → ∀ b, b < 0 → a ≠ b → (TJxf0a74 a).2.1 ≠ (TJxf0a74 b).2.1 := by decide +kernel
theorem tyJxf0a74_ok : ∀ k, k < 0 → parseFieldDescriptor (TJxf0a74 k).2.2.1 = some (tyJxf0a74 k) := by decide +kernel
def RJxa66e6 : String := "java/util/SequencedCollection"
def TJxa66e6 : u_T := fun k => match k with
  | _ => ("", "", "", false)
def tyJxa66e6 : Nat → FieldType := fun k => match k with
  | _ => .int
abbrev wsJxa66e60 : List Cond := u_ws RJxa66e6 TJxa66e6 0
theorem nmJxa66e6 : ∀ a, a < 0 → ∀ b, b < 0 → a ≠ b → (TJxa66e6 a).2.1 ≠ (TJxa66e6 b).2.1 := by decide +kernel
theorem tyJxa66e6_ok : ∀ k, k < 0 → parseFieldDescriptor (TJxa66e6 k).2.2.1 = some (tyJxa66e6 k) := by decide +kernel
def RJ8 : String := "jdk/internal/util/ArraysSupport"
def TJ8 : u_T := fun k => match k with
  | _ => ("", "", "", false)
def tyJ8 : Nat → FieldType := fun k => match k with
  | _ => .int
abbrev wsJ80 : List Cond := u_ws RJ8 TJ8 0
theorem nmJ8 : ∀ a, a < 0 → ∀ b, b < 0 → a ≠ b → (TJ8 a).2.1 ≠ (TJ8 b).2.1 := by decide +kernel
theorem tyJ8_ok : ∀ k, k < 0 → parseFieldDescriptor (TJ8 k).2.2.1 = some (tyJ8 k) := by decide +kernel
abbrev cJ8_newLength_cabcc : ByteArray := prog_49_method_27_code
def yJ8_newLength_cabcc : MethodName := ⟨RJ8, "newLength", "(III)I"⟩
abbrev cJ8_hugeLength_7cf53 : ByteArray := prog_49_method_28_code
def yJ8_hugeLength_7cf53 : MethodName := ⟨RJ8, "hugeLength", "(II)I"⟩
def RJ3 : String := "jdk/internal/util/Preconditions"
def TJ3 : u_T := fun k => match k with
  | _ => ("", "", "", false)
def tyJ3 : Nat → FieldType := fun k => match k with
  | _ => .int
abbrev wsJ30 : List Cond := u_ws RJ3 TJ3 0
theorem nmJ3 : ∀ a, a < 0 → ∀ b, b < 0 → a ≠ b → (TJ3 a).2.1 ≠ (TJ3 b).2.1 := by decide +kernel
theorem tyJ3_ok : ∀ k, k < 0 → parseFieldDescriptor (TJ3 k).2.2.1 = some (tyJ3 k) := by decide +kernel
abbrev cJ3_checkIndex_8e157 : ByteArray := prog_50_method_11_code
def yJ3_checkIndex_8e157 : MethodName := ⟨RJ3, "checkIndex", "(IILjava/util/function/BiFunction;)I"⟩
abbrev cJ3_checkFromToIndex_8c36e : ByteArray := prog_50_method_12_code
def yJ3_checkFromToIndex_8c36e : MethodName := ⟨RJ3, "checkFromToIndex", "(IIILjava/util/function/BiFunction;)I"⟩
abbrev cJ3_checkFromIndexSize_8c36e : ByteArray := prog_50_method_13_code
def yJ3_checkFromIndexSize_8c36e : MethodName := ⟨RJ3, "checkFromIndexSize", "(IIILjava/util/function/BiFunction;)I"⟩
def RL : String := "ReleasetrainLaw"
abbrev cL_at : ByteArray := method_2_code
def yL_at : MethodName := ⟨RL, "at", "([II)I"⟩
abbrev cL_some : ByteArray := method_3_code
def yL_some : MethodName := ⟨RL, "some", "(II)I"⟩
abbrev cL_build : ByteArray := method_4_code
def yL_build : MethodName := ⟨RL, "build", "(LReleasetrain;[I)I"⟩
abbrev cL_three : ByteArray := method_5_code
def yL_three : MethodName := ⟨RL, "three", "(LReleasetrain;CIII)I"⟩
abbrev cL_of : ByteArray := method_6_code
def yL_of : MethodName := ⟨RL, "of", "(LReleasetrain;II)I"⟩
abbrev cL_device : ByteArray := method_7_code
def yL_device : MethodName := ⟨RL, "device", "(LReleasetrain;II)I"⟩
abbrev cL_both : ByteArray := method_8_code
def yL_both : MethodName := ⟨RL, "both", "(LReleasetrain;CII)I"⟩
abbrev cL_sets : ByteArray := method_9_code
def yL_sets : MethodName := ⟨RL, "sets", "(LReleasetrain;CI)I"⟩
abbrev cL_asked : ByteArray := method_10_code
def yL_asked : MethodName := ⟨RL, "asked", "(LReleasetrain;I)I"⟩
abbrev cL_group : ByteArray := method_11_code
def yL_group : MethodName := ⟨RL, "group", "(LReleasetrain;II)I"⟩
abbrev cL_like : ByteArray := method_12_code
def yL_like : MethodName := ⟨RL, "like", "(LReleasetrain;II)F"⟩
abbrev cL_rating : ByteArray := method_13_code
def yL_rating : MethodName := ⟨RL, "rating", "(LReleasetrain;I)D"⟩
abbrev cL_ratingBits : ByteArray := method_14_code
def yL_ratingBits : MethodName := ⟨RL, "ratingBits", "(LReleasetrain;I)J"⟩
abbrev cL_used : ByteArray := method_15_code
def yL_used : MethodName := ⟨RL, "used", "(LReleasetrain;)F"⟩
abbrev cL_builds : ByteArray := method_16_code
def yL_builds : MethodName := ⟨RL, "builds", "(LReleasetrain;)I"⟩
abbrev cL_devices : ByteArray := method_17_code
def yL_devices : MethodName := ⟨RL, "devices", "(LReleasetrain;)I"⟩
abbrev cL_sum : ByteArray := method_18_code
def yL_sum : MethodName := ⟨RL, "sum", "(LReleasetrain;)J"⟩
abbrev cL_isSound : ByteArray := method_19_code
def yL_isSound : MethodName := ⟨RL, "isSound", "(LReleasetrain;)Z"⟩
abbrev cL_law : ByteArray := code
def yL_law : MethodName := ⟨RL, "law", "([I)Z"⟩
end
section
theorem dX0_init_0 : decode cX0_init 0 = .ok (.aload_n 0, 1) := by decide +kernel
theorem dX0_init_1 : decode cX0_init 1 = .ok (.invokespecial 3, 3) := by decide +kernel
theorem dX0_init_4 : decode cX0_init 4 = .ok (.aload_n 0, 1) := by decide +kernel
theorem dX0_init_5 : decode cX0_init 5 = .ok (.bipush 101, 2) := by decide +kernel
theorem dX0_init_7 : decode cX0_init 7 = .ok (.newarray .int, 2) := by decide +kernel
theorem dX0_init_9 : decode cX0_init 9 = .ok (.putfield 9, 3) := by decide +kernel
theorem dX0_init_12 : decode cX0_init 12 = .ok (.aload_n 0, 1) := by decide +kernel
theorem dX0_init_13 : decode cX0_init 13 = .ok (.iconst 0, 1) := by decide +kernel
theorem dX0_init_14 : decode cX0_init 14 = .ok (.putfield 15, 3) := by decide +kernel
theorem dX0_init_17 : decode cX0_init 17 = .ok (.return_, 1) := by decide +kernel
theorem dX0_change_0 : decode cX0_change 0 = .ok (.aload_n 0, 1) := by decide +kernel
theorem dX0_change_1 : decode cX0_change 1 = .ok (.dup, 1) := by decide +kernel
theorem dX0_change_2 : decode cX0_change 2 = .ok (.getfield 15, 3) := by decide +kernel
theorem dX0_change_5 : decode cX0_change 5 = .ok (.iload_n 2, 1) := by decide +kernel
theorem dX0_change_6 : decode cX0_change 6 = .ok (.iadd, 1) := by decide +kernel
theorem dX0_change_7 : decode cX0_change 7 = .ok (.putfield 15, 3) := by decide +kernel
theorem dX0_change_10 : decode cX0_change 10 = .ok (.iconst 0, 1) := by decide +kernel
theorem dX0_change_11 : decode cX0_change 11 = .ok (.istore_n 3, 1) := by decide +kernel
theorem dX0_change_12 : decode cX0_change 12 = .ok (.iload_n 3, 1) := by decide +kernel
theorem dX0_change_13 : decode cX0_change 13 = .ok (.aload_n 0, 1) := by decide +kernel
theorem dX0_change_14 : decode cX0_change 14 = .ok (.getfield 9, 3) := by decide +kernel
theorem dX0_change_17 : decode cX0_change 17 = .ok (.arraylength, 1) := by decide +kernel
theorem dX0_change_18 : decode cX0_change 18 = .ok (.if_icmp .ge 24, 3) := by decide +kernel
theorem dX0_change_21 : decode cX0_change 21 = .ok (.iload_n 1, 1) := by decide +kernel
theorem dX0_change_22 : decode cX0_change 22 = .ok (.iload_n 3, 1) := by decide +kernel
theorem dX0_change_23 : decode cX0_change 23 = .ok (.if_icmp .ge 13, 3) := by decide +kernel
theorem dX0_change_26 : decode cX0_change 26 = .ok (.aload_n 0, 1) := by decide +kernel
theorem dX0_change_27 : decode cX0_change 27 = .ok (.getfield 9, 3) := by decide +kernel
theorem dX0_change_30 : decode cX0_change 30 = .ok (.iload_n 3, 1) := by decide +kernel
theorem dX0_change_31 : decode cX0_change 31 = .ok (.dup2, 1) := by decide +kernel
theorem dX0_change_32 : decode cX0_change 32 = .ok (.iaload, 1) := by decide +kernel
theorem dX0_change_33 : decode cX0_change 33 = .ok (.iload_n 2, 1) := by decide +kernel
theorem dX0_change_34 : decode cX0_change 34 = .ok (.iadd, 1) := by decide +kernel
theorem dX0_change_35 : decode cX0_change 35 = .ok (.iastore, 1) := by decide +kernel
theorem dX0_change_36 : decode cX0_change 36 = .ok (.iinc 3 1, 3) := by decide +kernel
theorem dX0_change_39 : decode cX0_change 39 = .ok (.goto (-27), 3) := by decide +kernel
theorem dX0_change_42 : decode cX0_change 42 = .ok (.return_, 1) := by decide +kernel
theorem dX0_countBelow_0 : decode cX0_countBelow 0 = .ok (.iload_n 1, 1) := by decide +kernel
theorem dX0_countBelow_1 : decode cX0_countBelow 1 = .ok (.iconst 0, 1) := by decide +kernel
theorem dX0_countBelow_2 : decode cX0_countBelow 2 = .ok (.aload_n 0, 1) := by decide +kernel
theorem dX0_countBelow_3 : decode cX0_countBelow 3 = .ok (.getfield 9, 3) := by decide +kernel
theorem dX0_countBelow_6 : decode cX0_countBelow 6 = .ok (.arraylength, 1) := by decide +kernel
theorem dX0_countBelow_7 : decode cX0_countBelow 7 = .ok (.iconst 1, 1) := by decide +kernel
theorem dX0_countBelow_8 : decode cX0_countBelow 8 = .ok (.isub, 1) := by decide +kernel
theorem dX0_countBelow_9 : decode cX0_countBelow 9 = .ok (.invokestatic 19, 3) := by decide +kernel
theorem dX0_countBelow_12 : decode cX0_countBelow 12 = .ok (.ifCond .eq 7, 3) := by decide +kernel
theorem dX0_countBelow_15 : decode cX0_countBelow 15 = .ok (.iconst 0, 1) := by decide +kernel
theorem dX0_countBelow_16 : decode cX0_countBelow 16 = .ok (.goto 9, 3) := by decide +kernel
theorem dX0_countBelow_19 : decode cX0_countBelow 19 = .ok (.aload_n 0, 1) := by decide +kernel
theorem dX0_countBelow_20 : decode cX0_countBelow 20 = .ok (.getfield 9, 3) := by decide +kernel
theorem dX0_countBelow_23 : decode cX0_countBelow 23 = .ok (.iload_n 1, 1) := by decide +kernel
theorem dX0_countBelow_24 : decode cX0_countBelow 24 = .ok (.iaload, 1) := by decide +kernel
theorem dX0_countBelow_25 : decode cX0_countBelow 25 = .ok (.ireturn, 1) := by decide +kernel
theorem dX1_init_0 : decode cX1_init 0 = .ok (.aload_n 0, 1) := by decide +kernel
theorem dX1_init_1 : decode cX1_init 1 = .ok (.invokespecial 3, 3) := by decide +kernel
theorem dX1_init_4 : decode cX1_init 4 = .ok (.aload_n 0, 1) := by decide +kernel
theorem dX1_init_5 : decode cX1_init 5 = .ok (.new 9, 3) := by decide +kernel
theorem dX1_init_8 : decode cX1_init 8 = .ok (.dup, 1) := by decide +kernel
theorem dX1_init_9 : decode cX1_init 9 = .ok (.invokespecial 11, 3) := by decide +kernel
theorem dX1_init_12 : decode cX1_init 12 = .ok (.putfield 12, 3) := by decide +kernel
theorem dX1_init_15 : decode cX1_init 15 = .ok (.aload_n 0, 1) := by decide +kernel
theorem dX1_init_16 : decode cX1_init 16 = .ok (.bipush 100, 2) := by decide +kernel
theorem dX1_init_18 : decode cX1_init 18 = .ok (.putfield 18, 3) := by decide +kernel
theorem dX1_init_21 : decode cX1_init 21 = .ok (.aload_n 0, 1) := by decide +kernel
theorem dX1_init_22 : decode cX1_init 22 = .ok (.iconst 0, 1) := by decide +kernel
theorem dX1_init_23 : decode cX1_init 23 = .ok (.putfield 22, 3) := by decide +kernel
theorem dX1_init_26 : decode cX1_init 26 = .ok (.aload_n 0, 1) := by decide +kernel
theorem dX1_init_27 : decode cX1_init 27 = .ok (.iconst 0, 1) := by decide +kernel
theorem dX1_init_28 : decode cX1_init 28 = .ok (.putfield 26, 3) := by decide +kernel
theorem dX1_init_31 : decode cX1_init 31 = .ok (.aload_n 0, 1) := by decide +kernel
theorem dX1_init_32 : decode cX1_init 32 = .ok (.iconst 0, 1) := by decide +kernel
theorem dX1_init_33 : decode cX1_init 33 = .ok (.putfield 30, 3) := by decide +kernel
theorem dX1_init_36 : decode cX1_init 36 = .ok (.aload_n 0, 1) := by decide +kernel
theorem dX1_init_37 : decode cX1_init 37 = .ok (.iconst 0, 1) := by decide +kernel
theorem dX1_init_38 : decode cX1_init 38 = .ok (.putfield 33, 3) := by decide +kernel
theorem dX1_init_41 : decode cX1_init 41 = .ok (.aload_n 0, 1) := by decide +kernel
theorem dX1_init_42 : decode cX1_init 42 = .ok (.iconst 0, 1) := by decide +kernel
theorem dX1_init_43 : decode cX1_init 43 = .ok (.putfield 36, 3) := by decide +kernel
theorem dX1_init_46 : decode cX1_init 46 = .ok (.aload_n 0, 1) := by decide +kernel
theorem dX1_init_47 : decode cX1_init 47 = .ok (.iconst 0, 1) := by decide +kernel
theorem dX1_init_48 : decode cX1_init 48 = .ok (.putfield 39, 3) := by decide +kernel
theorem dX1_init_51 : decode cX1_init 51 = .ok (.aload_n 0, 1) := by decide +kernel
theorem dX1_init_52 : decode cX1_init 52 = .ok (.iconst 0, 1) := by decide +kernel
theorem dX1_init_53 : decode cX1_init 53 = .ok (.putfield 42, 3) := by decide +kernel
theorem dX1_init_56 : decode cX1_init 56 = .ok (.aload_n 0, 1) := by decide +kernel
theorem dX1_init_57 : decode cX1_init 57 = .ok (.iconst 0, 1) := by decide +kernel
theorem dX1_init_58 : decode cX1_init 58 = .ok (.putfield 45, 3) := by decide +kernel
theorem dX1_init_61 : decode cX1_init 61 = .ok (.aload_n 0, 1) := by decide +kernel
theorem dX1_init_62 : decode cX1_init 62 = .ok (.iload_n 1, 1) := by decide +kernel
theorem dX1_init_63 : decode cX1_init 63 = .ok (.putfield 48, 3) := by decide +kernel
theorem dX1_init_66 : decode cX1_init 66 = .ok (.aload_n 0, 1) := by decide +kernel
theorem dX1_init_67 : decode cX1_init 67 = .ok (.iload_n 2, 1) := by decide +kernel
theorem dX1_init_68 : decode cX1_init 68 = .ok (.putfield 51, 3) := by decide +kernel
theorem dX1_init_71 : decode cX1_init 71 = .ok (.aload_n 0, 1) := by decide +kernel
theorem dX1_init_72 : decode cX1_init 72 = .ok (.aload_n 3, 1) := by decide +kernel
theorem dX1_init_73 : decode cX1_init 73 = .ok (.putfield 54, 3) := by decide +kernel
theorem dX1_init_76 : decode cX1_init 76 = .ok (.aload_n 0, 1) := by decide +kernel
theorem dX1_init_77 : decode cX1_init 77 = .ok (.iload 4, 2) := by decide +kernel
theorem dX1_init_79 : decode cX1_init 79 = .ok (.putfield 58, 3) := by decide +kernel
theorem dX1_init_82 : decode cX1_init 82 = .ok (.aload_n 0, 1) := by decide +kernel
theorem dX1_init_83 : decode cX1_init 83 = .ok (.iload 5, 2) := by decide +kernel
theorem dX1_init_85 : decode cX1_init 85 = .ok (.putfield 61, 3) := by decide +kernel
theorem dX1_init_88 : decode cX1_init 88 = .ok (.aload_n 0, 1) := by decide +kernel
theorem dX1_init_89 : decode cX1_init 89 = .ok (.aload 6, 2) := by decide +kernel
theorem dX1_init_91 : decode cX1_init 91 = .ok (.putfield 64, 3) := by decide +kernel
theorem dX1_init_94 : decode cX1_init 94 = .ok (.return_, 1) := by decide +kernel
theorem dX1_isFix_0 : decode cX1_isFix 0 = .ok (.aload_n 0, 1) := by decide +kernel
theorem dX1_isFix_1 : decode cX1_isFix 1 = .ok (.getfield 64, 3) := by decide +kernel
theorem dX1_isFix_4 : decode cX1_isFix 4 = .ok (.ifnull 7, 3) := by decide +kernel
theorem dX1_isFix_7 : decode cX1_isFix 7 = .ok (.iconst 1, 1) := by decide +kernel
theorem dX1_isFix_8 : decode cX1_isFix 8 = .ok (.goto 4, 3) := by decide +kernel
theorem dX1_isFix_11 : decode cX1_isFix 11 = .ok (.iconst 0, 1) := by decide +kernel
theorem dX1_isFix_12 : decode cX1_isFix 12 = .ok (.ireturn, 1) := by decide +kernel
theorem dX1_isFixOf_0 : decode cX1_isFixOf 0 = .ok (.aload_n 0, 1) := by decide +kernel
theorem dX1_isFixOf_1 : decode cX1_isFixOf 1 = .ok (.getfield 64, 3) := by decide +kernel
theorem dX1_isFixOf_4 : decode cX1_isFixOf 4 = .ok (.ifnull 15, 3) := by decide +kernel
theorem dX1_isFixOf_7 : decode cX1_isFixOf 7 = .ok (.aload_n 0, 1) := by decide +kernel
theorem dX1_isFixOf_8 : decode cX1_isFixOf 8 = .ok (.getfield 64, 3) := by decide +kernel
theorem dX1_isFixOf_11 : decode cX1_isFixOf 11 = .ok (.aload_n 1, 1) := by decide +kernel
theorem dX1_isFixOf_12 : decode cX1_isFixOf 12 = .ok (.if_acmp .ne 7, 3) := by decide +kernel
theorem dX1_isFixOf_15 : decode cX1_isFixOf 15 = .ok (.iconst 1, 1) := by decide +kernel
theorem dX1_isFixOf_16 : decode cX1_isFixOf 16 = .ok (.goto 4, 3) := by decide +kernel
theorem dX1_isFixOf_19 : decode cX1_isFixOf 19 = .ok (.iconst 0, 1) := by decide +kernel
theorem dX1_isFixOf_20 : decode cX1_isFixOf 20 = .ok (.ireturn, 1) := by decide +kernel
theorem dX1_isNewerThan_0 : decode cX1_isNewerThan 0 = .ok (.aload_n 1, 1) := by decide +kernel
theorem dX1_isNewerThan_1 : decode cX1_isNewerThan 1 = .ok (.ifnull 14, 3) := by decide +kernel
theorem dX1_isNewerThan_4 : decode cX1_isNewerThan 4 = .ok (.aload_n 0, 1) := by decide +kernel
theorem dX1_isNewerThan_5 : decode cX1_isNewerThan 5 = .ok (.getfield 51, 3) := by decide +kernel
theorem dX1_isNewerThan_8 : decode cX1_isNewerThan 8 = .ok (.aload_n 1, 1) := by decide +kernel
theorem dX1_isNewerThan_9 : decode cX1_isNewerThan 9 = .ok (.getfield 51, 3) := by decide +kernel
theorem dX1_isNewerThan_12 : decode cX1_isNewerThan 12 = .ok (.if_icmp .le 7, 3) := by decide +kernel
theorem dX1_isNewerThan_15 : decode cX1_isNewerThan 15 = .ok (.iconst 1, 1) := by decide +kernel
theorem dX1_isNewerThan_16 : decode cX1_isNewerThan 16 = .ok (.goto 4, 3) := by decide +kernel
theorem dX1_isNewerThan_19 : decode cX1_isNewerThan 19 = .ok (.iconst 0, 1) := by decide +kernel
theorem dX1_isNewerThan_20 : decode cX1_isNewerThan 20 = .ok (.ireturn, 1) := by decide +kernel
theorem dX1_isReviewedAheadOf_0 : decode cX1_isReviewedAheadOf 0 = .ok (.aload_n 0, 1) := by decide +kernel
theorem dX1_isReviewedAheadOf_1 : decode cX1_isReviewedAheadOf 1 = .ok (.invokevirtual 68, 3) := by decide +kernel
theorem dX1_isReviewedAheadOf_4 : decode cX1_isReviewedAheadOf 4 = .ok (.aload_n 1, 1) := by decide +kernel
theorem dX1_isReviewedAheadOf_5 : decode cX1_isReviewedAheadOf 5 = .ok (.invokevirtual 68, 3) := by decide +kernel
theorem dX1_isReviewedAheadOf_8 : decode cX1_isReviewedAheadOf 8 = .ok (.if_icmp .ne 22, 3) := by decide +kernel
theorem dX1_isReviewedAheadOf_11 : decode cX1_isReviewedAheadOf 11 = .ok (.aload_n 0, 1) := by decide +kernel
theorem dX1_isReviewedAheadOf_12 : decode cX1_isReviewedAheadOf 12 = .ok (.getfield 26, 3) := by decide +kernel
theorem dX1_isReviewedAheadOf_15 : decode cX1_isReviewedAheadOf 15 = .ok (.aload_n 1, 1) := by decide +kernel
theorem dX1_isReviewedAheadOf_16 : decode cX1_isReviewedAheadOf 16 = .ok (.getfield 26, 3) := by decide +kernel
theorem dX1_isReviewedAheadOf_19 : decode cX1_isReviewedAheadOf 19 = .ok (.if_icmp .ge 7, 3) := by decide +kernel
theorem dX1_isReviewedAheadOf_22 : decode cX1_isReviewedAheadOf 22 = .ok (.iconst 1, 1) := by decide +kernel
theorem dX1_isReviewedAheadOf_23 : decode cX1_isReviewedAheadOf 23 = .ok (.goto 11, 3) := by decide +kernel
theorem dX1_isReviewedAheadOf_26 : decode cX1_isReviewedAheadOf 26 = .ok (.iconst 0, 1) := by decide +kernel
theorem dX1_isReviewedAheadOf_27 : decode cX1_isReviewedAheadOf 27 = .ok (.goto 7, 3) := by decide +kernel
theorem dX1_isReviewedAheadOf_30 : decode cX1_isReviewedAheadOf 30 = .ok (.aload_n 0, 1) := by decide +kernel
theorem dX1_isReviewedAheadOf_31 : decode cX1_isReviewedAheadOf 31 = .ok (.invokevirtual 68, 3) := by decide +kernel
theorem dX1_isReviewedAheadOf_34 : decode cX1_isReviewedAheadOf 34 = .ok (.ireturn, 1) := by decide +kernel
theorem dX1_isGivenAheadOf_0 : decode cX1_isGivenAheadOf 0 = .ok (.aload_n 0, 1) := by decide +kernel
theorem dX1_isGivenAheadOf_1 : decode cX1_isGivenAheadOf 1 = .ok (.invokevirtual 68, 3) := by decide +kernel
theorem dX1_isGivenAheadOf_4 : decode cX1_isGivenAheadOf 4 = .ok (.aload_n 1, 1) := by decide +kernel
theorem dX1_isGivenAheadOf_5 : decode cX1_isGivenAheadOf 5 = .ok (.invokevirtual 68, 3) := by decide +kernel
theorem dX1_isGivenAheadOf_8 : decode cX1_isGivenAheadOf 8 = .ok (.if_icmp .ne 22, 3) := by decide +kernel
theorem dX1_isGivenAheadOf_11 : decode cX1_isGivenAheadOf 11 = .ok (.aload_n 0, 1) := by decide +kernel
theorem dX1_isGivenAheadOf_12 : decode cX1_isGivenAheadOf 12 = .ok (.getfield 51, 3) := by decide +kernel
theorem dX1_isGivenAheadOf_15 : decode cX1_isGivenAheadOf 15 = .ok (.aload_n 1, 1) := by decide +kernel
theorem dX1_isGivenAheadOf_16 : decode cX1_isGivenAheadOf 16 = .ok (.getfield 51, 3) := by decide +kernel
theorem dX1_isGivenAheadOf_19 : decode cX1_isGivenAheadOf 19 = .ok (.if_icmp .le 7, 3) := by decide +kernel
theorem dX1_isGivenAheadOf_22 : decode cX1_isGivenAheadOf 22 = .ok (.iconst 1, 1) := by decide +kernel
theorem dX1_isGivenAheadOf_23 : decode cX1_isGivenAheadOf 23 = .ok (.goto 11, 3) := by decide +kernel
theorem dX1_isGivenAheadOf_26 : decode cX1_isGivenAheadOf 26 = .ok (.iconst 0, 1) := by decide +kernel
theorem dX1_isGivenAheadOf_27 : decode cX1_isGivenAheadOf 27 = .ok (.goto 7, 3) := by decide +kernel
theorem dX1_isGivenAheadOf_30 : decode cX1_isGivenAheadOf 30 = .ok (.aload_n 0, 1) := by decide +kernel
theorem dX1_isGivenAheadOf_31 : decode cX1_isGivenAheadOf 31 = .ok (.invokevirtual 68, 3) := by decide +kernel
theorem dX1_isGivenAheadOf_34 : decode cX1_isGivenAheadOf 34 = .ok (.ireturn, 1) := by decide +kernel
theorem dX1_crashesPerInstall_0 : decode cX1_crashesPerInstall 0 = .ok (.aload_n 0, 1) := by decide +kernel
theorem dX1_crashesPerInstall_1 : decode cX1_crashesPerInstall 1 = .ok (.getfield 36, 3) := by decide +kernel
theorem dX1_crashesPerInstall_4 : decode cX1_crashesPerInstall 4 = .ok (.ifCond .ne 7, 3) := by decide +kernel
theorem dX1_crashesPerInstall_7 : decode cX1_crashesPerInstall 7 = .ok (.fconst 0, 1) := by decide +kernel
theorem dX1_crashesPerInstall_8 : decode cX1_crashesPerInstall 8 = .ok (.goto 14, 3) := by decide +kernel
theorem dX1_crashesPerInstall_11 : decode cX1_crashesPerInstall 11 = .ok (.aload_n 0, 1) := by decide +kernel
theorem dX1_crashesPerInstall_12 : decode cX1_crashesPerInstall 12 = .ok (.getfield 39, 3) := by decide +kernel
theorem dX1_crashesPerInstall_15 : decode cX1_crashesPerInstall 15 = .ok (.i2f, 1) := by decide +kernel
theorem dX1_crashesPerInstall_16 : decode cX1_crashesPerInstall 16 = .ok (.aload_n 0, 1) := by decide +kernel
theorem dX1_crashesPerInstall_17 : decode cX1_crashesPerInstall 17 = .ok (.getfield 36, 3) := by decide +kernel
theorem dX1_crashesPerInstall_20 : decode cX1_crashesPerInstall 20 = .ok (.i2f, 1) := by decide +kernel
theorem dX1_crashesPerInstall_21 : decode cX1_crashesPerInstall 21 = .ok (.fdiv, 1) := by decide +kernel
theorem dX1_crashesPerInstall_22 : decode cX1_crashesPerInstall 22 = .ok (.freturn, 1) := by decide +kernel
theorem dX1_meanStars_0 : decode cX1_meanStars 0 = .ok (.aload_n 0, 1) := by decide +kernel
theorem dX1_meanStars_1 : decode cX1_meanStars 1 = .ok (.getfield 42, 3) := by decide +kernel
theorem dX1_meanStars_4 : decode cX1_meanStars 4 = .ok (.ifCond .ne 7, 3) := by decide +kernel
theorem dX1_meanStars_7 : decode cX1_meanStars 7 = .ok (.dconst 0, 1) := by decide +kernel
theorem dX1_meanStars_8 : decode cX1_meanStars 8 = .ok (.goto 14, 3) := by decide +kernel
theorem dX1_meanStars_11 : decode cX1_meanStars 11 = .ok (.aload_n 0, 1) := by decide +kernel
theorem dX1_meanStars_12 : decode cX1_meanStars 12 = .ok (.getfield 45, 3) := by decide +kernel
theorem dX1_meanStars_15 : decode cX1_meanStars 15 = .ok (.i2d, 1) := by decide +kernel
theorem dX1_meanStars_16 : decode cX1_meanStars 16 = .ok (.aload_n 0, 1) := by decide +kernel
theorem dX1_meanStars_17 : decode cX1_meanStars 17 = .ok (.getfield 42, 3) := by decide +kernel
theorem dX1_meanStars_20 : decode cX1_meanStars 20 = .ok (.i2d, 1) := by decide +kernel
theorem dX1_meanStars_21 : decode cX1_meanStars 21 = .ok (.ddiv, 1) := by decide +kernel
theorem dX1_meanStars_22 : decode cX1_meanStars 22 = .ok (.dreturn, 1) := by decide +kernel
theorem dX2_init_0 : decode cX2_init 0 = .ok (.aload_n 0, 1) := by decide +kernel
theorem dX2_init_1 : decode cX2_init 1 = .ok (.invokespecial 1, 3) := by decide +kernel
theorem dX2_init_4 : decode cX2_init 4 = .ok (.aload_n 0, 1) := by decide +kernel
theorem dX2_init_5 : decode cX2_init 5 = .ok (.aconst_null, 1) := by decide +kernel
theorem dX2_init_6 : decode cX2_init 6 = .ok (.putfield 7, 3) := by decide +kernel
theorem dX2_init_9 : decode cX2_init 9 = .ok (.aload_n 0, 1) := by decide +kernel
theorem dX2_init_10 : decode cX2_init 10 = .ok (.iconst 0, 1) := by decide +kernel
theorem dX2_init_11 : decode cX2_init 11 = .ok (.putfield 13, 3) := by decide +kernel
theorem dX2_init_14 : decode cX2_init 14 = .ok (.aload_n 0, 1) := by decide +kernel
theorem dX2_init_15 : decode cX2_init 15 = .ok (.iconst 0, 1) := by decide +kernel
theorem dX2_init_16 : decode cX2_init 16 = .ok (.putfield 17, 3) := by decide +kernel
theorem dX2_init_19 : decode cX2_init 19 = .ok (.aload_n 0, 1) := by decide +kernel
theorem dX2_init_20 : decode cX2_init 20 = .ok (.iload_n 1, 1) := by decide +kernel
theorem dX2_init_21 : decode cX2_init 21 = .ok (.putfield 20, 3) := by decide +kernel
theorem dX2_init_24 : decode cX2_init 24 = .ok (.aload_n 0, 1) := by decide +kernel
theorem dX2_init_25 : decode cX2_init 25 = .ok (.iload_n 2, 1) := by decide +kernel
theorem dX2_init_26 : decode cX2_init 26 = .ok (.putfield 23, 3) := by decide +kernel
theorem dX2_init_29 : decode cX2_init 29 = .ok (.aload_n 0, 1) := by decide +kernel
theorem dX2_init_30 : decode cX2_init 30 = .ok (.iload_n 3, 1) := by decide +kernel
theorem dX2_init_31 : decode cX2_init 31 = .ok (.putfield 26, 3) := by decide +kernel
theorem dX2_init_34 : decode cX2_init 34 = .ok (.return_, 1) := by decide +kernel
theorem dX2_usableItems_0 : decode cX2_usableItems 0 = .ok (.aload_n 0, 1) := by decide +kernel
theorem dX2_usableItems_1 : decode cX2_usableItems 1 = .ok (.getfield 7, 3) := by decide +kernel
theorem dX2_usableItems_4 : decode cX2_usableItems 4 = .ok (.ifnonnull 7, 3) := by decide +kernel
theorem dX2_usableItems_7 : decode cX2_usableItems 7 = .ok (.iconst 0, 1) := by decide +kernel
theorem dX2_usableItems_8 : decode cX2_usableItems 8 = .ok (.goto 18, 3) := by decide +kernel
theorem dX2_usableItems_11 : decode cX2_usableItems 11 = .ok (.aload_n 0, 1) := by decide +kernel
theorem dX2_usableItems_12 : decode cX2_usableItems 12 = .ok (.getfield 17, 3) := by decide +kernel
theorem dX2_usableItems_15 : decode cX2_usableItems 15 = .ok (.aload_n 0, 1) := by decide +kernel
theorem dX2_usableItems_16 : decode cX2_usableItems 16 = .ok (.getfield 7, 3) := by decide +kernel
theorem dX2_usableItems_19 : decode cX2_usableItems 19 = .ok (.getfield 29, 3) := by decide +kernel
theorem dX2_usableItems_22 : decode cX2_usableItems 22 = .ok (.getfield 35, 3) := by decide +kernel
theorem dX2_usableItems_25 : decode cX2_usableItems 25 = .ok (.iand, 1) := by decide +kernel
theorem dX2_usableItems_26 : decode cX2_usableItems 26 = .ok (.ireturn, 1) := by decide +kernel
theorem dX3_init_0 : decode cX3_init 0 = .ok (.aload_n 0, 1) := by decide +kernel
theorem dX3_init_1 : decode cX3_init 1 = .ok (.invokespecial 1, 3) := by decide +kernel
theorem dX3_init_4 : decode cX3_init 4 = .ok (.aload_n 0, 1) := by decide +kernel
theorem dX3_init_5 : decode cX3_init 5 = .ok (.new 7, 3) := by decide +kernel
theorem dX3_init_8 : decode cX3_init 8 = .ok (.dup, 1) := by decide +kernel
theorem dX3_init_9 : decode cX3_init 9 = .ok (.invokespecial 9, 3) := by decide +kernel
theorem dX3_init_12 : decode cX3_init 12 = .ok (.putfield 10, 3) := by decide +kernel
theorem dX3_init_15 : decode cX3_init 15 = .ok (.aload_n 0, 1) := by decide +kernel
theorem dX3_init_16 : decode cX3_init 16 = .ok (.iload_n 1, 1) := by decide +kernel
theorem dX3_init_17 : decode cX3_init 17 = .ok (.putfield 16, 3) := by decide +kernel
theorem dX3_init_20 : decode cX3_init 20 = .ok (.aload_n 0, 1) := by decide +kernel
theorem dX3_init_21 : decode cX3_init 21 = .ok (.iload_n 2, 1) := by decide +kernel
theorem dX3_init_22 : decode cX3_init 22 = .ok (.putfield 20, 3) := by decide +kernel
theorem dX3_init_25 : decode cX3_init 25 = .ok (.return_, 1) := by decide +kernel
theorem dX4_init_0 : decode cX4_init 0 = .ok (.aload_n 0, 1) := by decide +kernel
theorem dX4_init_1 : decode cX4_init 1 = .ok (.invokespecial 1, 3) := by decide +kernel
theorem dX4_init_4 : decode cX4_init 4 = .ok (.aload_n 0, 1) := by decide +kernel
theorem dX4_init_5 : decode cX4_init 5 = .ok (.new 7, 3) := by decide +kernel
theorem dX4_init_8 : decode cX4_init 8 = .ok (.dup, 1) := by decide +kernel
theorem dX4_init_9 : decode cX4_init 9 = .ok (.invokespecial 9, 3) := by decide +kernel
theorem dX4_init_12 : decode cX4_init 12 = .ok (.putfield 10, 3) := by decide +kernel
theorem dX4_init_15 : decode cX4_init 15 = .ok (.aload_n 0, 1) := by decide +kernel
theorem dX4_init_16 : decode cX4_init 16 = .ok (.iconst 0, 1) := by decide +kernel
theorem dX4_init_17 : decode cX4_init 17 = .ok (.putfield 16, 3) := by decide +kernel
theorem dX4_init_20 : decode cX4_init 20 = .ok (.aload_n 0, 1) := by decide +kernel
theorem dX4_init_21 : decode cX4_init 21 = .ok (.iconst 0, 1) := by decide +kernel
theorem dX4_init_22 : decode cX4_init 22 = .ok (.putfield 20, 3) := by decide +kernel
theorem dX4_init_25 : decode cX4_init 25 = .ok (.aload_n 0, 1) := by decide +kernel
theorem dX4_init_26 : decode cX4_init 26 = .ok (.iload_n 1, 1) := by decide +kernel
theorem dX4_init_27 : decode cX4_init 27 = .ok (.putfield 23, 3) := by decide +kernel
theorem dX4_init_30 : decode cX4_init 30 = .ok (.aload_n 0, 1) := by decide +kernel
theorem dX4_init_31 : decode cX4_init 31 = .ok (.getfield 10, 3) := by decide +kernel
theorem dX4_init_34 : decode cX4_init 34 = .ok (.aload_n 2, 1) := by decide +kernel
theorem dX4_init_35 : decode cX4_init 35 = .ok (.invokevirtual 26, 3) := by decide +kernel
theorem dX4_init_38 : decode cX4_init 38 = .ok (.return_, 1) := by decide +kernel
theorem dX5_init_0 : decode cX5_init 0 = .ok (.aload_n 0, 1) := by decide +kernel
theorem dX5_init_1 : decode cX5_init 1 = .ok (.invokespecial 1, 3) := by decide +kernel
theorem dX5_init_4 : decode cX5_init 4 = .ok (.aload_n 0, 1) := by decide +kernel
theorem dX5_init_5 : decode cX5_init 5 = .ok (.iload_n 1, 1) := by decide +kernel
theorem dX5_init_6 : decode cX5_init 6 = .ok (.putfield 7, 3) := by decide +kernel
theorem dX5_init_9 : decode cX5_init 9 = .ok (.aload_n 0, 1) := by decide +kernel
theorem dX5_init_10 : decode cX5_init 10 = .ok (.iload_n 2, 1) := by decide +kernel
theorem dX5_init_11 : decode cX5_init 11 = .ok (.putfield 13, 3) := by decide +kernel
theorem dX5_init_14 : decode cX5_init 14 = .ok (.aload_n 0, 1) := by decide +kernel
theorem dX5_init_15 : decode cX5_init 15 = .ok (.iload_n 3, 1) := by decide +kernel
theorem dX5_init_16 : decode cX5_init 16 = .ok (.putfield 16, 3) := by decide +kernel
theorem dX5_init_19 : decode cX5_init 19 = .ok (.return_, 1) := by decide +kernel
theorem dX5_isFor_0 : decode cX5_isFor 0 = .ok (.aload_n 0, 1) := by decide +kernel
theorem dX5_isFor_1 : decode cX5_isFor 1 = .ok (.getfield 7, 3) := by decide +kernel
theorem dX5_isFor_4 : decode cX5_isFor 4 = .ok (.iload_n 1, 1) := by decide +kernel
theorem dX5_isFor_5 : decode cX5_isFor 5 = .ok (.invokestatic 19, 3) := by decide +kernel
theorem dX5_isFor_8 : decode cX5_isFor 8 = .ok (.ifCond .eq 18, 3) := by decide +kernel
theorem dX5_isFor_11 : decode cX5_isFor 11 = .ok (.aload_n 0, 1) := by decide +kernel
theorem dX5_isFor_12 : decode cX5_isFor 12 = .ok (.getfield 13, 3) := by decide +kernel
theorem dX5_isFor_15 : decode cX5_isFor 15 = .ok (.iload_n 2, 1) := by decide +kernel
theorem dX5_isFor_16 : decode cX5_isFor 16 = .ok (.invokestatic 19, 3) := by decide +kernel
theorem dX5_isFor_19 : decode cX5_isFor 19 = .ok (.ifCond .eq 7, 3) := by decide +kernel
theorem dX5_isFor_22 : decode cX5_isFor 22 = .ok (.iconst 1, 1) := by decide +kernel
theorem dX5_isFor_23 : decode cX5_isFor 23 = .ok (.goto 4, 3) := by decide +kernel
theorem dX5_isFor_26 : decode cX5_isFor 26 = .ok (.iconst 0, 1) := by decide +kernel
theorem dX5_isFor_27 : decode cX5_isFor 27 = .ok (.ireturn, 1) := by decide +kernel
theorem dX6_init_0 : decode cX6_init 0 = .ok (.aload_n 0, 1) := by decide +kernel
theorem dX6_init_1 : decode cX6_init 1 = .ok (.invokespecial 3, 3) := by decide +kernel
theorem dX6_init_4 : decode cX6_init 4 = .ok (.aload_n 0, 1) := by decide +kernel
theorem dX6_init_5 : decode cX6_init 5 = .ok (.bipush 6, 2) := by decide +kernel
theorem dX6_init_7 : decode cX6_init 7 = .ok (.newarray .char, 2) := by decide +kernel
theorem dX6_init_9 : decode cX6_init 9 = .ok (.putfield 9, 3) := by decide +kernel
theorem dX6_init_12 : decode cX6_init 12 = .ok (.aload_n 0, 1) := by decide +kernel
theorem dX6_init_13 : decode cX6_init 13 = .ok (.iconst 0, 1) := by decide +kernel
theorem dX6_init_14 : decode cX6_init 14 = .ok (.putfield 15, 3) := by decide +kernel
theorem dX6_init_17 : decode cX6_init 17 = .ok (.return_, 1) := by decide +kernel
theorem dX6_append_0 : decode cX6_append 0 = .ok (.aload_n 0, 1) := by decide +kernel
theorem dX6_append_1 : decode cX6_append 1 = .ok (.getfield 15, 3) := by decide +kernel
theorem dX6_append_4 : decode cX6_append 4 = .ok (.aload_n 0, 1) := by decide +kernel
theorem dX6_append_5 : decode cX6_append 5 = .ok (.getfield 9, 3) := by decide +kernel
theorem dX6_append_8 : decode cX6_append 8 = .ok (.arraylength, 1) := by decide +kernel
theorem dX6_append_9 : decode cX6_append 9 = .ok (.if_icmp .ge 23, 3) := by decide +kernel
theorem dX6_append_12 : decode cX6_append 12 = .ok (.aload_n 0, 1) := by decide +kernel
theorem dX6_append_13 : decode cX6_append 13 = .ok (.getfield 9, 3) := by decide +kernel
theorem dX6_append_16 : decode cX6_append 16 = .ok (.aload_n 0, 1) := by decide +kernel
theorem dX6_append_17 : decode cX6_append 17 = .ok (.getfield 15, 3) := by decide +kernel
theorem dX6_append_20 : decode cX6_append 20 = .ok (.iload_n 1, 1) := by decide +kernel
theorem dX6_append_21 : decode cX6_append 21 = .ok (.castore, 1) := by decide +kernel
theorem dX6_append_22 : decode cX6_append 22 = .ok (.aload_n 0, 1) := by decide +kernel
theorem dX6_append_23 : decode cX6_append 23 = .ok (.dup, 1) := by decide +kernel
theorem dX6_append_24 : decode cX6_append 24 = .ok (.getfield 15, 3) := by decide +kernel
theorem dX6_append_27 : decode cX6_append 27 = .ok (.iconst 1, 1) := by decide +kernel
theorem dX6_append_28 : decode cX6_append 28 = .ok (.iadd, 1) := by decide +kernel
theorem dX6_append_29 : decode cX6_append 29 = .ok (.putfield 15, 3) := by decide +kernel
theorem dX6_append_32 : decode cX6_append 32 = .ok (.return_, 1) := by decide +kernel
theorem dX6_clear_0 : decode cX6_clear 0 = .ok (.aload_n 0, 1) := by decide +kernel
theorem dX6_clear_1 : decode cX6_clear 1 = .ok (.iconst 0, 1) := by decide +kernel
theorem dX6_clear_2 : decode cX6_clear 2 = .ok (.putfield 15, 3) := by decide +kernel
theorem dX6_clear_5 : decode cX6_clear 5 = .ok (.return_, 1) := by decide +kernel
theorem dX6_copyFrom_0 : decode cX6_copyFrom 0 = .ok (.aload_n 0, 1) := by decide +kernel
theorem dX6_copyFrom_1 : decode cX6_copyFrom 1 = .ok (.invokevirtual 19, 3) := by decide +kernel
theorem dX6_copyFrom_4 : decode cX6_copyFrom 4 = .ok (.iconst 0, 1) := by decide +kernel
theorem dX6_copyFrom_5 : decode cX6_copyFrom 5 = .ok (.istore_n 2, 1) := by decide +kernel
theorem dX6_copyFrom_6 : decode cX6_copyFrom 6 = .ok (.iload_n 2, 1) := by decide +kernel
theorem dX6_copyFrom_7 : decode cX6_copyFrom 7 = .ok (.aload_n 1, 1) := by decide +kernel
theorem dX6_copyFrom_8 : decode cX6_copyFrom 8 = .ok (.getfield 15, 3) := by decide +kernel
theorem dX6_copyFrom_11 : decode cX6_copyFrom 11 = .ok (.if_icmp .ge 19, 3) := by decide +kernel
theorem dX6_copyFrom_14 : decode cX6_copyFrom 14 = .ok (.aload_n 0, 1) := by decide +kernel
theorem dX6_copyFrom_15 : decode cX6_copyFrom 15 = .ok (.aload_n 1, 1) := by decide +kernel
theorem dX6_copyFrom_16 : decode cX6_copyFrom 16 = .ok (.getfield 9, 3) := by decide +kernel
theorem dX6_copyFrom_19 : decode cX6_copyFrom 19 = .ok (.iload_n 2, 1) := by decide +kernel
theorem dX6_copyFrom_20 : decode cX6_copyFrom 20 = .ok (.caload, 1) := by decide +kernel
theorem dX6_copyFrom_21 : decode cX6_copyFrom 21 = .ok (.invokevirtual 22, 3) := by decide +kernel
theorem dX6_copyFrom_24 : decode cX6_copyFrom 24 = .ok (.iinc 2 1, 3) := by decide +kernel
theorem dX6_copyFrom_27 : decode cX6_copyFrom 27 = .ok (.goto (-21), 3) := by decide +kernel
theorem dX6_copyFrom_30 : decode cX6_copyFrom 30 = .ok (.return_, 1) := by decide +kernel
theorem dX6_likenessTo_0 : decode cX6_likenessTo 0 = .ok (.aload_n 0, 1) := by decide +kernel
theorem dX6_likenessTo_1 : decode cX6_likenessTo 1 = .ok (.getfield 15, 3) := by decide +kernel
theorem dX6_likenessTo_4 : decode cX6_likenessTo 4 = .ok (.aload_n 1, 1) := by decide +kernel
theorem dX6_likenessTo_5 : decode cX6_likenessTo 5 = .ok (.getfield 15, 3) := by decide +kernel
theorem dX6_likenessTo_8 : decode cX6_likenessTo 8 = .ok (.invokestatic 26, 3) := by decide +kernel
theorem dX6_likenessTo_11 : decode cX6_likenessTo 11 = .ok (.istore_n 2, 1) := by decide +kernel
theorem dX6_likenessTo_12 : decode cX6_likenessTo 12 = .ok (.iload_n 2, 1) := by decide +kernel
theorem dX6_likenessTo_13 : decode cX6_likenessTo 13 = .ok (.ifCond .ne 5, 3) := by decide +kernel
theorem dX6_likenessTo_16 : decode cX6_likenessTo 16 = .ok (.fconst 0, 1) := by decide +kernel
theorem dX6_likenessTo_17 : decode cX6_likenessTo 17 = .ok (.freturn, 1) := by decide +kernel
theorem dX6_likenessTo_18 : decode cX6_likenessTo 18 = .ok (.aload_n 0, 1) := by decide +kernel
theorem dX6_likenessTo_19 : decode cX6_likenessTo 19 = .ok (.getfield 15, 3) := by decide +kernel
theorem dX6_likenessTo_22 : decode cX6_likenessTo 22 = .ok (.aload_n 1, 1) := by decide +kernel
theorem dX6_likenessTo_23 : decode cX6_likenessTo 23 = .ok (.getfield 15, 3) := by decide +kernel
theorem dX6_likenessTo_26 : decode cX6_likenessTo 26 = .ok (.invokestatic 32, 3) := by decide +kernel
theorem dX6_likenessTo_29 : decode cX6_likenessTo 29 = .ok (.istore_n 3, 1) := by decide +kernel
theorem dX6_likenessTo_30 : decode cX6_likenessTo 30 = .ok (.iconst 0, 1) := by decide +kernel
theorem dX6_likenessTo_31 : decode cX6_likenessTo 31 = .ok (.istore 4, 2) := by decide +kernel
theorem dX6_likenessTo_33 : decode cX6_likenessTo 33 = .ok (.iload 4, 2) := by decide +kernel
theorem dX6_likenessTo_35 : decode cX6_likenessTo 35 = .ok (.iload_n 3, 1) := by decide +kernel
theorem dX6_likenessTo_36 : decode cX6_likenessTo 36 = .ok (.if_icmp .ge 26, 3) := by decide +kernel
theorem dX6_likenessTo_39 : decode cX6_likenessTo 39 = .ok (.aload_n 0, 1) := by decide +kernel
theorem dX6_likenessTo_40 : decode cX6_likenessTo 40 = .ok (.getfield 9, 3) := by decide +kernel
theorem dX6_likenessTo_43 : decode cX6_likenessTo 43 = .ok (.iload 4, 2) := by decide +kernel
theorem dX6_likenessTo_45 : decode cX6_likenessTo 45 = .ok (.caload, 1) := by decide +kernel
theorem dX6_likenessTo_46 : decode cX6_likenessTo 46 = .ok (.aload_n 1, 1) := by decide +kernel
theorem dX6_likenessTo_47 : decode cX6_likenessTo 47 = .ok (.getfield 9, 3) := by decide +kernel
theorem dX6_likenessTo_50 : decode cX6_likenessTo 50 = .ok (.iload 4, 2) := by decide +kernel
theorem dX6_likenessTo_52 : decode cX6_likenessTo 52 = .ok (.caload, 1) := by decide +kernel
theorem dX6_likenessTo_53 : decode cX6_likenessTo 53 = .ok (.if_icmp .ne 9, 3) := by decide +kernel
theorem dX6_likenessTo_56 : decode cX6_likenessTo 56 = .ok (.iinc 4 1, 3) := by decide +kernel
theorem dX6_likenessTo_59 : decode cX6_likenessTo 59 = .ok (.goto (-26), 3) := by decide +kernel
theorem dX6_likenessTo_62 : decode cX6_likenessTo 62 = .ok (.iload 4, 2) := by decide +kernel
theorem dX6_likenessTo_64 : decode cX6_likenessTo 64 = .ok (.i2f, 1) := by decide +kernel
theorem dX6_likenessTo_65 : decode cX6_likenessTo 65 = .ok (.iload_n 2, 1) := by decide +kernel
theorem dX6_likenessTo_66 : decode cX6_likenessTo 66 = .ok (.i2f, 1) := by decide +kernel
theorem dX6_likenessTo_67 : decode cX6_likenessTo 67 = .ok (.fdiv, 1) := by decide +kernel
theorem dX6_likenessTo_68 : decode cX6_likenessTo 68 = .ok (.freturn, 1) := by decide +kernel
theorem dX7_init_0 : decode cX7_init 0 = .ok (.aload_n 0, 1) := by decide +kernel
theorem dX7_init_1 : decode cX7_init 1 = .ok (.invokespecial 1, 3) := by decide +kernel
theorem dX7_init_4 : decode cX7_init 4 = .ok (.aload_n 0, 1) := by decide +kernel
theorem dX7_init_5 : decode cX7_init 5 = .ok (.new 7, 3) := by decide +kernel
theorem dX7_init_8 : decode cX7_init 8 = .ok (.dup, 1) := by decide +kernel
theorem dX7_init_9 : decode cX7_init 9 = .ok (.invokespecial 9, 3) := by decide +kernel
theorem dX7_init_12 : decode cX7_init 12 = .ok (.putfield 10, 3) := by decide +kernel
theorem dX7_init_15 : decode cX7_init 15 = .ok (.aload_n 0, 1) := by decide +kernel
theorem dX7_init_16 : decode cX7_init 16 = .ok (.new 7, 3) := by decide +kernel
theorem dX7_init_19 : decode cX7_init 19 = .ok (.dup, 1) := by decide +kernel
theorem dX7_init_20 : decode cX7_init 20 = .ok (.invokespecial 9, 3) := by decide +kernel
theorem dX7_init_23 : decode cX7_init 23 = .ok (.putfield 16, 3) := by decide +kernel
theorem dX7_init_26 : decode cX7_init 26 = .ok (.aload_n 0, 1) := by decide +kernel
theorem dX7_init_27 : decode cX7_init 27 = .ok (.new 7, 3) := by decide +kernel
theorem dX7_init_30 : decode cX7_init 30 = .ok (.dup, 1) := by decide +kernel
theorem dX7_init_31 : decode cX7_init 31 = .ok (.invokespecial 9, 3) := by decide +kernel
theorem dX7_init_34 : decode cX7_init 34 = .ok (.putfield 19, 3) := by decide +kernel
theorem dX7_init_37 : decode cX7_init 37 = .ok (.aload_n 0, 1) := by decide +kernel
theorem dX7_init_38 : decode cX7_init 38 = .ok (.new 7, 3) := by decide +kernel
theorem dX7_init_41 : decode cX7_init 41 = .ok (.dup, 1) := by decide +kernel
theorem dX7_init_42 : decode cX7_init 42 = .ok (.invokespecial 9, 3) := by decide +kernel
theorem dX7_init_45 : decode cX7_init 45 = .ok (.putfield 22, 3) := by decide +kernel
theorem dX7_init_48 : decode cX7_init 48 = .ok (.aload_n 0, 1) := by decide +kernel
theorem dX7_init_49 : decode cX7_init 49 = .ok (.new 25, 3) := by decide +kernel
theorem dX7_init_52 : decode cX7_init 52 = .ok (.dup, 1) := by decide +kernel
theorem dX7_init_53 : decode cX7_init 53 = .ok (.invokespecial 27, 3) := by decide +kernel
theorem dX7_init_56 : decode cX7_init 56 = .ok (.putfield 28, 3) := by decide +kernel
theorem dX7_init_59 : decode cX7_init 59 = .ok (.aload_n 0, 1) := by decide +kernel
theorem dX7_init_60 : decode cX7_init 60 = .ok (.new 25, 3) := by decide +kernel
theorem dX7_init_63 : decode cX7_init 63 = .ok (.dup, 1) := by decide +kernel
theorem dX7_init_64 : decode cX7_init 64 = .ok (.invokespecial 27, 3) := by decide +kernel
theorem dX7_init_67 : decode cX7_init 67 = .ok (.putfield 32, 3) := by decide +kernel
theorem dX7_init_70 : decode cX7_init 70 = .ok (.aload_n 0, 1) := by decide +kernel
theorem dX7_init_71 : decode cX7_init 71 = .ok (.new 35, 3) := by decide +kernel
theorem dX7_init_74 : decode cX7_init 74 = .ok (.dup, 1) := by decide +kernel
theorem dX7_init_75 : decode cX7_init 75 = .ok (.invokespecial 37, 3) := by decide +kernel
theorem dX7_init_78 : decode cX7_init 78 = .ok (.putfield 38, 3) := by decide +kernel
theorem dX7_init_81 : decode cX7_init 81 = .ok (.aload_n 0, 1) := by decide +kernel
theorem dX7_init_82 : decode cX7_init 82 = .ok (.sipush 200, 3) := by decide +kernel
theorem dX7_init_85 : decode cX7_init 85 = .ok (.putfield 42, 3) := by decide +kernel
theorem dX7_init_88 : decode cX7_init 88 = .ok (.aload_n 0, 1) := by decide +kernel
theorem dX7_init_89 : decode cX7_init 89 = .ok (.iconst 0, 1) := by decide +kernel
theorem dX7_init_90 : decode cX7_init 90 = .ok (.putfield 46, 3) := by decide +kernel
theorem dX7_init_93 : decode cX7_init 93 = .ok (.aload_n 0, 1) := by decide +kernel
theorem dX7_init_94 : decode cX7_init 94 = .ok (.iconst 0, 1) := by decide +kernel
theorem dX7_init_95 : decode cX7_init 95 = .ok (.putfield 49, 3) := by decide +kernel
theorem dX7_init_98 : decode cX7_init 98 = .ok (.aload_n 0, 1) := by decide +kernel
theorem dX7_init_99 : decode cX7_init 99 = .ok (.ldc 52, 2) := by decide +kernel
theorem dX7_init_101 : decode cX7_init 101 = .ok (.putfield 53, 3) := by decide +kernel
theorem dX7_init_104 : decode cX7_init 104 = .ok (.aload_n 0, 1) := by decide +kernel
theorem dX7_init_105 : decode cX7_init 105 = .ok (.ldc 52, 2) := by decide +kernel
theorem dX7_init_107 : decode cX7_init 107 = .ok (.putfield 57, 3) := by decide +kernel
theorem dX7_init_110 : decode cX7_init 110 = .ok (.aload_n 0, 1) := by decide +kernel
theorem dX7_init_111 : decode cX7_init 111 = .ok (.iconst 0, 1) := by decide +kernel
theorem dX7_init_112 : decode cX7_init 112 = .ok (.putfield 60, 3) := by decide +kernel
theorem dX7_init_115 : decode cX7_init 115 = .ok (.return_, 1) := by decide +kernel
theorem dX7_addDevice_0 : decode cX7_addDevice 0 = .ok (.iload_n 1, 1) := by decide +kernel
theorem dX7_addDevice_1 : decode cX7_addDevice 1 = .ok (.iconst 0, 1) := by decide +kernel
theorem dX7_addDevice_2 : decode cX7_addDevice 2 = .ok (.iconst 5, 1) := by decide +kernel
theorem dX7_addDevice_3 : decode cX7_addDevice 3 = .ok (.invokestatic 63, 3) := by decide +kernel
theorem dX7_addDevice_6 : decode cX7_addDevice 6 = .ok (.ifCond .ne 22, 3) := by decide +kernel
theorem dX7_addDevice_9 : decode cX7_addDevice 9 = .ok (.iload_n 2, 1) := by decide +kernel
theorem dX7_addDevice_10 : decode cX7_addDevice 10 = .ok (.iconst 0, 1) := by decide +kernel
theorem dX7_addDevice_11 : decode cX7_addDevice 11 = .ok (.iconst 2, 1) := by decide +kernel
theorem dX7_addDevice_12 : decode cX7_addDevice 12 = .ok (.invokestatic 63, 3) := by decide +kernel
theorem dX7_addDevice_15 : decode cX7_addDevice 15 = .ok (.ifCond .ne 13, 3) := by decide +kernel
theorem dX7_addDevice_18 : decode cX7_addDevice 18 = .ok (.iload_n 3, 1) := by decide +kernel
theorem dX7_addDevice_19 : decode cX7_addDevice 19 = .ok (.iconst 0, 1) := by decide +kernel
theorem dX7_addDevice_20 : decode cX7_addDevice 20 = .ok (.bipush 99, 2) := by decide +kernel
theorem dX7_addDevice_22 : decode cX7_addDevice 22 = .ok (.invokestatic 63, 3) := by decide +kernel
theorem dX7_addDevice_25 : decode cX7_addDevice 25 = .ok (.ifCond .eq 13, 3) := by decide +kernel
theorem dX7_addDevice_28 : decode cX7_addDevice 28 = .ok (.new 67, 3) := by decide +kernel
theorem dX7_addDevice_31 : decode cX7_addDevice 31 = .ok (.dup, 1) := by decide +kernel
theorem dX7_addDevice_32 : decode cX7_addDevice 32 = .ok (.ldc 69, 2) := by decide +kernel
theorem dX7_addDevice_34 : decode cX7_addDevice 34 = .ok (.invokespecial 71, 3) := by decide +kernel
theorem dX7_addDevice_37 : decode cX7_addDevice 37 = .ok (.athrow, 1) := by decide +kernel
theorem dX7_addDevice_38 : decode cX7_addDevice 38 = .ok (.aload_n 0, 1) := by decide +kernel
theorem dX7_addDevice_39 : decode cX7_addDevice 39 = .ok (.getfield 10, 3) := by decide +kernel
theorem dX7_addDevice_42 : decode cX7_addDevice 42 = .ok (.invokevirtual 74, 3) := by decide +kernel
theorem dX7_addDevice_45 : decode cX7_addDevice 45 = .ok (.bipush 12, 2) := by decide +kernel
theorem dX7_addDevice_47 : decode cX7_addDevice 47 = .ok (.if_icmp .lt 13, 3) := by decide +kernel
theorem dX7_addDevice_50 : decode cX7_addDevice 50 = .ok (.new 78, 3) := by decide +kernel
theorem dX7_addDevice_53 : decode cX7_addDevice 53 = .ok (.dup, 1) := by decide +kernel
theorem dX7_addDevice_54 : decode cX7_addDevice 54 = .ok (.ldc 80, 2) := by decide +kernel
theorem dX7_addDevice_56 : decode cX7_addDevice 56 = .ok (.invokespecial 82, 3) := by decide +kernel
theorem dX7_addDevice_59 : decode cX7_addDevice 59 = .ok (.athrow, 1) := by decide +kernel
theorem dX7_addDevice_60 : decode cX7_addDevice 60 = .ok (.aload_n 0, 1) := by decide +kernel
theorem dX7_addDevice_61 : decode cX7_addDevice 61 = .ok (.getfield 10, 3) := by decide +kernel
theorem dX7_addDevice_64 : decode cX7_addDevice 64 = .ok (.new 83, 3) := by decide +kernel
theorem dX7_addDevice_67 : decode cX7_addDevice 67 = .ok (.dup, 1) := by decide +kernel
theorem dX7_addDevice_68 : decode cX7_addDevice 68 = .ok (.iload_n 1, 1) := by decide +kernel
theorem dX7_addDevice_69 : decode cX7_addDevice 69 = .ok (.iload_n 2, 1) := by decide +kernel
theorem dX7_addDevice_70 : decode cX7_addDevice 70 = .ok (.iload_n 3, 1) := by decide +kernel
theorem dX7_addDevice_71 : decode cX7_addDevice 71 = .ok (.invokespecial 85, 3) := by decide +kernel
theorem dX7_addDevice_74 : decode cX7_addDevice 74 = .ok (.invokevirtual 88, 3) := by decide +kernel
theorem dX7_addDevice_77 : decode cX7_addDevice 77 = .ok (.pop, 1) := by decide +kernel
theorem dX7_addDevice_78 : decode cX7_addDevice 78 = .ok (.aload_n 0, 1) := by decide +kernel
theorem dX7_addDevice_79 : decode cX7_addDevice 79 = .ok (.iload_n 1, 1) := by decide +kernel
theorem dX7_addDevice_80 : decode cX7_addDevice 80 = .ok (.iload_n 2, 1) := by decide +kernel
theorem dX7_addDevice_81 : decode cX7_addDevice 81 = .ok (.invokevirtual 92, 3) := by decide +kernel
theorem dX7_addDevice_84 : decode cX7_addDevice 84 = .ok (.getfield 96, 3) := by decide +kernel
theorem dX7_addDevice_87 : decode cX7_addDevice 87 = .ok (.iload_n 3, 1) := by decide +kernel
theorem dX7_addDevice_88 : decode cX7_addDevice 88 = .ok (.iconst 1, 1) := by decide +kernel
theorem dX7_addDevice_89 : decode cX7_addDevice 89 = .ok (.invokevirtual 102, 3) := by decide +kernel
theorem dX7_addDevice_92 : decode cX7_addDevice 92 = .ok (.aload_n 0, 1) := by decide +kernel
theorem dX7_addDevice_93 : decode cX7_addDevice 93 = .ok (.getfield 10, 3) := by decide +kernel
theorem dX7_addDevice_96 : decode cX7_addDevice 96 = .ok (.invokevirtual 74, 3) := by decide +kernel
theorem dX7_addDevice_99 : decode cX7_addDevice 99 = .ok (.iconst 1, 1) := by decide +kernel
theorem dX7_addDevice_100 : decode cX7_addDevice 100 = .ok (.isub, 1) := by decide +kernel
theorem dX7_addDevice_101 : decode cX7_addDevice 101 = .ok (.ireturn, 1) := by decide +kernel
theorem dX7_addBuild_0 : decode cX7_addBuild 0 = .ok (.iload_n 2, 1) := by decide +kernel
theorem dX7_addBuild_1 : decode cX7_addBuild 1 = .ok (.iconst 1, 1) := by decide +kernel
theorem dX7_addBuild_2 : decode cX7_addBuild 2 = .ok (.bipush 63, 2) := by decide +kernel
theorem dX7_addBuild_4 : decode cX7_addBuild 4 = .ok (.invokestatic 63, 3) := by decide +kernel
theorem dX7_addBuild_7 : decode cX7_addBuild 7 = .ok (.ifCond .ne 25, 3) := by decide +kernel
theorem dX7_addBuild_10 : decode cX7_addBuild 10 = .ok (.iload_n 3, 1) := by decide +kernel
theorem dX7_addBuild_11 : decode cX7_addBuild 11 = .ok (.iconst 1, 1) := by decide +kernel
theorem dX7_addBuild_12 : decode cX7_addBuild 12 = .ok (.bipush 7, 2) := by decide +kernel
theorem dX7_addBuild_14 : decode cX7_addBuild 14 = .ok (.invokestatic 63, 3) := by decide +kernel
theorem dX7_addBuild_17 : decode cX7_addBuild 17 = .ok (.ifCond .ne 15, 3) := by decide +kernel
theorem dX7_addBuild_20 : decode cX7_addBuild 20 = .ok (.iload 6, 2) := by decide +kernel
theorem dX7_addBuild_22 : decode cX7_addBuild 22 = .ok (.iconst 0, 1) := by decide +kernel
theorem dX7_addBuild_23 : decode cX7_addBuild 23 = .ok (.sipush 255, 3) := by decide +kernel
theorem dX7_addBuild_26 : decode cX7_addBuild 26 = .ok (.invokestatic 63, 3) := by decide +kernel
theorem dX7_addBuild_29 : decode cX7_addBuild 29 = .ok (.ifCond .eq 13, 3) := by decide +kernel
theorem dX7_addBuild_32 : decode cX7_addBuild 32 = .ok (.new 67, 3) := by decide +kernel
theorem dX7_addBuild_35 : decode cX7_addBuild 35 = .ok (.dup, 1) := by decide +kernel
theorem dX7_addBuild_36 : decode cX7_addBuild 36 = .ok (.ldc 69, 2) := by decide +kernel
theorem dX7_addBuild_38 : decode cX7_addBuild 38 = .ok (.invokespecial 71, 3) := by decide +kernel
theorem dX7_addBuild_41 : decode cX7_addBuild 41 = .ok (.athrow, 1) := by decide +kernel
theorem dX7_addBuild_42 : decode cX7_addBuild 42 = .ok (.aload_n 0, 1) := by decide +kernel
theorem dX7_addBuild_43 : decode cX7_addBuild 43 = .ok (.iload_n 1, 1) := by decide +kernel
theorem dX7_addBuild_44 : decode cX7_addBuild 44 = .ok (.new 108, 3) := by decide +kernel
theorem dX7_addBuild_47 : decode cX7_addBuild 47 = .ok (.dup, 1) := by decide +kernel
theorem dX7_addBuild_48 : decode cX7_addBuild 48 = .ok (.iload_n 2, 1) := by decide +kernel
theorem dX7_addBuild_49 : decode cX7_addBuild 49 = .ok (.iload_n 3, 1) := by decide +kernel
theorem dX7_addBuild_50 : decode cX7_addBuild 50 = .ok (.iload 6, 2) := by decide +kernel
theorem dX7_addBuild_52 : decode cX7_addBuild 52 = .ok (.invokespecial 110, 3) := by decide +kernel
theorem dX7_addBuild_55 : decode cX7_addBuild 55 = .ok (.iload 4, 2) := by decide +kernel
theorem dX7_addBuild_57 : decode cX7_addBuild 57 = .ok (.iload 5, 2) := by decide +kernel
theorem dX7_addBuild_59 : decode cX7_addBuild 59 = .ok (.aconst_null, 1) := by decide +kernel
theorem dX7_addBuild_60 : decode cX7_addBuild 60 = .ok (.invokevirtual 111, 3) := by decide +kernel
theorem dX7_addBuild_63 : decode cX7_addBuild 63 = .ok (.ireturn, 1) := by decide +kernel
theorem dX7_addFix_0 : decode cX7_addFix 0 = .ok (.aload_n 0, 1) := by decide +kernel
theorem dX7_addFix_1 : decode cX7_addFix 1 = .ok (.iload_n 1, 1) := by decide +kernel
theorem dX7_addFix_2 : decode cX7_addFix 2 = .ok (.invokevirtual 115, 3) := by decide +kernel
theorem dX7_addFix_5 : decode cX7_addFix 5 = .ok (.astore 5, 2) := by decide +kernel
theorem dX7_addFix_7 : decode cX7_addFix 7 = .ok (.aload_n 0, 1) := by decide +kernel
theorem dX7_addFix_8 : decode cX7_addFix 8 = .ok (.iload_n 2, 1) := by decide +kernel
theorem dX7_addFix_9 : decode cX7_addFix 9 = .ok (.aload 5, 2) := by decide +kernel
theorem dX7_addFix_11 : decode cX7_addFix 11 = .ok (.getfield 119, 3) := by decide +kernel
theorem dX7_addFix_14 : decode cX7_addFix 14 = .ok (.iload_n 3, 1) := by decide +kernel
theorem dX7_addFix_15 : decode cX7_addFix 15 = .ok (.iload 4, 2) := by decide +kernel
theorem dX7_addFix_17 : decode cX7_addFix 17 = .ok (.aload 5, 2) := by decide +kernel
theorem dX7_addFix_19 : decode cX7_addFix 19 = .ok (.invokevirtual 111, 3) := by decide +kernel
theorem dX7_addFix_22 : decode cX7_addFix 22 = .ok (.ireturn, 1) := by decide +kernel
theorem dX7_submit_0 : decode cX7_submit 0 = .ok (.aload_n 0, 1) := by decide +kernel
theorem dX7_submit_1 : decode cX7_submit 1 = .ok (.iload_n 1, 1) := by decide +kernel
theorem dX7_submit_2 : decode cX7_submit 2 = .ok (.invokevirtual 115, 3) := by decide +kernel
theorem dX7_submit_5 : decode cX7_submit 5 = .ok (.astore_n 2, 1) := by decide +kernel
theorem dX7_submit_6 : decode cX7_submit 6 = .ok (.aload_n 2, 1) := by decide +kernel
theorem dX7_submit_7 : decode cX7_submit 7 = .ok (.getfield 125, 3) := by decide +kernel
theorem dX7_submit_10 : decode cX7_submit 10 = .ok (.bipush 100, 2) := by decide +kernel
theorem dX7_submit_12 : decode cX7_submit 12 = .ok (.if_icmp .eq 13, 3) := by decide +kernel
theorem dX7_submit_15 : decode cX7_submit 15 = .ok (.new 78, 3) := by decide +kernel
theorem dX7_submit_18 : decode cX7_submit 18 = .ok (.dup, 1) := by decide +kernel
theorem dX7_submit_19 : decode cX7_submit 19 = .ok (.ldc 129, 2) := by decide +kernel
theorem dX7_submit_21 : decode cX7_submit 21 = .ok (.invokespecial 82, 3) := by decide +kernel
theorem dX7_submit_24 : decode cX7_submit 24 = .ok (.athrow, 1) := by decide +kernel
theorem dX7_submit_25 : decode cX7_submit 25 = .ok (.aload_n 0, 1) := by decide +kernel
theorem dX7_submit_26 : decode cX7_submit 26 = .ok (.aload_n 2, 1) := by decide +kernel
theorem dX7_submit_27 : decode cX7_submit 27 = .ok (.invokevirtual 131, 3) := by decide +kernel
theorem dX7_submit_30 : decode cX7_submit 30 = .ok (.aload_n 0, 1) := by decide +kernel
theorem dX7_submit_31 : decode cX7_submit 31 = .ok (.invokevirtual 135, 3) := by decide +kernel
theorem dX7_submit_34 : decode cX7_submit 34 = .ok (.ireturn, 1) := by decide +kernel
theorem dX7_nextInReview_0 : decode cX7_nextInReview 0 = .ok (.aload_n 0, 1) := by decide +kernel
theorem dX7_nextInReview_1 : decode cX7_nextInReview 1 = .ok (.invokevirtual 138, 3) := by decide +kernel
theorem dX7_nextInReview_4 : decode cX7_nextInReview 4 = .ok (.getfield 142, 3) := by decide +kernel
theorem dX7_nextInReview_7 : decode cX7_nextInReview 7 = .ok (.ireturn, 1) := by decide +kernel
theorem dX7_review_0 : decode cX7_review 0 = .ok (.aload_n 0, 1) := by decide +kernel
theorem dX7_review_1 : decode cX7_review 1 = .ok (.invokevirtual 138, 3) := by decide +kernel
theorem dX7_review_4 : decode cX7_review 4 = .ok (.astore_n 1, 1) := by decide +kernel
theorem dX7_review_5 : decode cX7_review 5 = .ok (.aload_n 0, 1) := by decide +kernel
theorem dX7_review_6 : decode cX7_review 6 = .ok (.aload_n 1, 1) := by decide +kernel
theorem dX7_review_7 : decode cX7_review 7 = .ok (.invokevirtual 145, 3) := by decide +kernel
theorem dX7_review_10 : decode cX7_review 10 = .ok (.istore_n 2, 1) := by decide +kernel
theorem dX7_review_11 : decode cX7_review 11 = .ok (.aload_n 1, 1) := by decide +kernel
theorem dX7_review_12 : decode cX7_review 12 = .ok (.iload_n 2, 1) := by decide +kernel
theorem dX7_review_13 : decode cX7_review 13 = .ok (.bipush 45, 2) := by decide +kernel
theorem dX7_review_15 : decode cX7_review 15 = .ok (.if_icmp .ne 8, 3) := by decide +kernel
theorem dX7_review_18 : decode cX7_review 18 = .ok (.bipush 97, 2) := by decide +kernel
theorem dX7_review_20 : decode cX7_review 20 = .ok (.goto 5, 3) := by decide +kernel
theorem dX7_review_23 : decode cX7_review 23 = .ok (.bipush 114, 2) := by decide +kernel
theorem dX7_review_25 : decode cX7_review 25 = .ok (.putfield 125, 3) := by decide +kernel
theorem dX7_review_28 : decode cX7_review 28 = .ok (.iload_n 2, 1) := by decide +kernel
theorem dX7_review_29 : decode cX7_review 29 = .ok (.ireturn, 1) := by decide +kernel
theorem dX7_appeal_0 : decode cX7_appeal 0 = .ok (.aload_n 0, 1) := by decide +kernel
theorem dX7_appeal_1 : decode cX7_appeal 1 = .ok (.iload_n 1, 1) := by decide +kernel
theorem dX7_appeal_2 : decode cX7_appeal 2 = .ok (.invokevirtual 115, 3) := by decide +kernel
theorem dX7_appeal_5 : decode cX7_appeal 5 = .ok (.astore_n 2, 1) := by decide +kernel
theorem dX7_appeal_6 : decode cX7_appeal 6 = .ok (.aload_n 2, 1) := by decide +kernel
theorem dX7_appeal_7 : decode cX7_appeal 7 = .ok (.getfield 125, 3) := by decide +kernel
theorem dX7_appeal_10 : decode cX7_appeal 10 = .ok (.bipush 114, 2) := by decide +kernel
theorem dX7_appeal_12 : decode cX7_appeal 12 = .ok (.if_icmp .ne 10, 3) := by decide +kernel
theorem dX7_appeal_15 : decode cX7_appeal 15 = .ok (.aload_n 2, 1) := by decide +kernel
theorem dX7_appeal_16 : decode cX7_appeal 16 = .ok (.getfield 149, 3) := by decide +kernel
theorem dX7_appeal_19 : decode cX7_appeal 19 = .ok (.ifCond .eq 13, 3) := by decide +kernel
theorem dX7_appeal_22 : decode cX7_appeal 22 = .ok (.new 78, 3) := by decide +kernel
theorem dX7_appeal_25 : decode cX7_appeal 25 = .ok (.dup, 1) := by decide +kernel
theorem dX7_appeal_26 : decode cX7_appeal 26 = .ok (.ldc 153, 2) := by decide +kernel
theorem dX7_appeal_28 : decode cX7_appeal 28 = .ok (.invokespecial 82, 3) := by decide +kernel
theorem dX7_appeal_31 : decode cX7_appeal 31 = .ok (.athrow, 1) := by decide +kernel
theorem dX7_appeal_32 : decode cX7_appeal 32 = .ok (.aload_n 2, 1) := by decide +kernel
theorem dX7_appeal_33 : decode cX7_appeal 33 = .ok (.iconst 1, 1) := by decide +kernel
theorem dX7_appeal_34 : decode cX7_appeal 34 = .ok (.putfield 149, 3) := by decide +kernel
theorem dX7_appeal_37 : decode cX7_appeal 37 = .ok (.aload_n 0, 1) := by decide +kernel
theorem dX7_appeal_38 : decode cX7_appeal 38 = .ok (.aload_n 2, 1) := by decide +kernel
theorem dX7_appeal_39 : decode cX7_appeal 39 = .ok (.invokevirtual 131, 3) := by decide +kernel
theorem dX7_appeal_42 : decode cX7_appeal 42 = .ok (.aload_n 0, 1) := by decide +kernel
theorem dX7_appeal_43 : decode cX7_appeal 43 = .ok (.invokevirtual 135, 3) := by decide +kernel
theorem dX7_appeal_46 : decode cX7_appeal 46 = .ok (.ireturn, 1) := by decide +kernel
theorem dX7_setSize_0 : decode cX7_setSize 0 = .ok (.iload_n 1, 1) := by decide +kernel
theorem dX7_setSize_1 : decode cX7_setSize 1 = .ok (.iconst 1, 1) := by decide +kernel
theorem dX7_setSize_2 : decode cX7_setSize 2 = .ok (.sipush 500, 3) := by decide +kernel
theorem dX7_setSize_5 : decode cX7_setSize 5 = .ok (.invokestatic 63, 3) := by decide +kernel
theorem dX7_setSize_8 : decode cX7_setSize 8 = .ok (.ifCond .eq 13, 3) := by decide +kernel
theorem dX7_setSize_11 : decode cX7_setSize 11 = .ok (.new 67, 3) := by decide +kernel
theorem dX7_setSize_14 : decode cX7_setSize 14 = .ok (.dup, 1) := by decide +kernel
theorem dX7_setSize_15 : decode cX7_setSize 15 = .ok (.ldc 155, 2) := by decide +kernel
theorem dX7_setSize_17 : decode cX7_setSize 17 = .ok (.invokespecial 71, 3) := by decide +kernel
theorem dX7_setSize_20 : decode cX7_setSize 20 = .ok (.athrow, 1) := by decide +kernel
theorem dX7_setSize_21 : decode cX7_setSize 21 = .ok (.aload_n 0, 1) := by decide +kernel
theorem dX7_setSize_22 : decode cX7_setSize 22 = .ok (.getfield 42, 3) := by decide +kernel
theorem dX7_setSize_25 : decode cX7_setSize 25 = .ok (.istore_n 2, 1) := by decide +kernel
theorem dX7_setSize_26 : decode cX7_setSize 26 = .ok (.aload_n 0, 1) := by decide +kernel
theorem dX7_setSize_27 : decode cX7_setSize 27 = .ok (.iload_n 1, 1) := by decide +kernel
theorem dX7_setSize_28 : decode cX7_setSize 28 = .ok (.putfield 42, 3) := by decide +kernel
theorem dX7_setSize_31 : decode cX7_setSize 31 = .ok (.iload_n 2, 1) := by decide +kernel
theorem dX7_setSize_32 : decode cX7_setSize 32 = .ok (.ireturn, 1) := by decide +kernel
theorem dX7_setBarred_0 : decode cX7_setBarred 0 = .ok (.iload_n 1, 1) := by decide +kernel
theorem dX7_setBarred_1 : decode cX7_setBarred 1 = .ok (.iconst 0, 1) := by decide +kernel
theorem dX7_setBarred_2 : decode cX7_setBarred 2 = .ok (.bipush 15, 2) := by decide +kernel
theorem dX7_setBarred_4 : decode cX7_setBarred 4 = .ok (.invokestatic 63, 3) := by decide +kernel
theorem dX7_setBarred_7 : decode cX7_setBarred 7 = .ok (.ifCond .eq 13, 3) := by decide +kernel
theorem dX7_setBarred_10 : decode cX7_setBarred 10 = .ok (.new 67, 3) := by decide +kernel
theorem dX7_setBarred_13 : decode cX7_setBarred 13 = .ok (.dup, 1) := by decide +kernel
theorem dX7_setBarred_14 : decode cX7_setBarred 14 = .ok (.ldc 157, 2) := by decide +kernel
theorem dX7_setBarred_16 : decode cX7_setBarred 16 = .ok (.invokespecial 71, 3) := by decide +kernel
theorem dX7_setBarred_19 : decode cX7_setBarred 19 = .ok (.athrow, 1) := by decide +kernel
theorem dX7_setBarred_20 : decode cX7_setBarred 20 = .ok (.aload_n 0, 1) := by decide +kernel
theorem dX7_setBarred_21 : decode cX7_setBarred 21 = .ok (.getfield 46, 3) := by decide +kernel
theorem dX7_setBarred_24 : decode cX7_setBarred 24 = .ok (.istore_n 2, 1) := by decide +kernel
theorem dX7_setBarred_25 : decode cX7_setBarred 25 = .ok (.aload_n 0, 1) := by decide +kernel
theorem dX7_setBarred_26 : decode cX7_setBarred 26 = .ok (.iload_n 1, 1) := by decide +kernel
theorem dX7_setBarred_27 : decode cX7_setBarred 27 = .ok (.putfield 46, 3) := by decide +kernel
theorem dX7_setBarred_30 : decode cX7_setBarred 30 = .ok (.iload_n 2, 1) := by decide +kernel
theorem dX7_setBarred_31 : decode cX7_setBarred 31 = .ok (.ireturn, 1) := by decide +kernel
theorem dX7_stateOf_0 : decode cX7_stateOf 0 = .ok (.aload_n 0, 1) := by decide +kernel
theorem dX7_stateOf_1 : decode cX7_stateOf 1 = .ok (.iload_n 1, 1) := by decide +kernel
theorem dX7_stateOf_2 : decode cX7_stateOf 2 = .ok (.invokevirtual 115, 3) := by decide +kernel
theorem dX7_stateOf_5 : decode cX7_stateOf 5 = .ok (.getfield 125, 3) := by decide +kernel
theorem dX7_stateOf_8 : decode cX7_stateOf 8 = .ok (.ireturn, 1) := by decide +kernel
theorem dX7_stage_0 : decode cX7_stage 0 = .ok (.aload_n 0, 1) := by decide +kernel
theorem dX7_stage_1 : decode cX7_stage 1 = .ok (.iload_n 1, 1) := by decide +kernel
theorem dX7_stage_2 : decode cX7_stage 2 = .ok (.invokevirtual 115, 3) := by decide +kernel
theorem dX7_stage_5 : decode cX7_stage 5 = .ok (.astore 4, 2) := by decide +kernel
theorem dX7_stage_7 : decode cX7_stage 7 = .ok (.iload_n 2, 1) := by decide +kernel
theorem dX7_stage_8 : decode cX7_stage 8 = .ok (.iconst 1, 1) := by decide +kernel
theorem dX7_stage_9 : decode cX7_stage 9 = .ok (.bipush 100, 2) := by decide +kernel
theorem dX7_stage_11 : decode cX7_stage 11 = .ok (.invokestatic 63, 3) := by decide +kernel
theorem dX7_stage_14 : decode cX7_stage 14 = .ok (.ifCond .ne 13, 3) := by decide +kernel
theorem dX7_stage_17 : decode cX7_stage 17 = .ok (.iload_n 3, 1) := by decide +kernel
theorem dX7_stage_18 : decode cX7_stage 18 = .ok (.iconst 0, 1) := by decide +kernel
theorem dX7_stage_19 : decode cX7_stage 19 = .ok (.bipush 100, 2) := by decide +kernel
theorem dX7_stage_21 : decode cX7_stage 21 = .ok (.invokestatic 63, 3) := by decide +kernel
theorem dX7_stage_24 : decode cX7_stage 24 = .ok (.ifCond .eq 13, 3) := by decide +kernel
theorem dX7_stage_27 : decode cX7_stage 27 = .ok (.new 67, 3) := by decide +kernel
theorem dX7_stage_30 : decode cX7_stage 30 = .ok (.dup, 1) := by decide +kernel
theorem dX7_stage_31 : decode cX7_stage 31 = .ok (.ldc 69, 2) := by decide +kernel
theorem dX7_stage_33 : decode cX7_stage 33 = .ok (.invokespecial 71, 3) := by decide +kernel
theorem dX7_stage_36 : decode cX7_stage 36 = .ok (.athrow, 1) := by decide +kernel
theorem dX7_stage_37 : decode cX7_stage 37 = .ok (.aload 4, 2) := by decide +kernel
theorem dX7_stage_39 : decode cX7_stage 39 = .ok (.getfield 125, 3) := by decide +kernel
theorem dX7_stage_42 : decode cX7_stage 42 = .ok (.bipush 97, 2) := by decide +kernel
theorem dX7_stage_44 : decode cX7_stage 44 = .ok (.if_icmp .eq 13, 3) := by decide +kernel
theorem dX7_stage_47 : decode cX7_stage 47 = .ok (.new 78, 3) := by decide +kernel
theorem dX7_stage_50 : decode cX7_stage 50 = .ok (.dup, 1) := by decide +kernel
theorem dX7_stage_51 : decode cX7_stage 51 = .ok (.ldc 159, 2) := by decide +kernel
theorem dX7_stage_53 : decode cX7_stage 53 = .ok (.invokespecial 82, 3) := by decide +kernel
theorem dX7_stage_56 : decode cX7_stage 56 = .ok (.athrow, 1) := by decide +kernel
theorem dX7_stage_57 : decode cX7_stage 57 = .ok (.aload 4, 2) := by decide +kernel
theorem dX7_stage_59 : decode cX7_stage 59 = .ok (.getfield 161, 3) := by decide +kernel
theorem dX7_stage_62 : decode cX7_stage 62 = .ok (.istore 5, 2) := by decide +kernel
theorem dX7_stage_64 : decode cX7_stage 64 = .ok (.iload_n 2, 1) := by decide +kernel
theorem dX7_stage_65 : decode cX7_stage 65 = .ok (.iload 5, 2) := by decide +kernel
theorem dX7_stage_67 : decode cX7_stage 67 = .ok (.if_icmp .ge 13, 3) := by decide +kernel
theorem dX7_stage_70 : decode cX7_stage 70 = .ok (.new 164, 3) := by decide +kernel
theorem dX7_stage_73 : decode cX7_stage 73 = .ok (.dup, 1) := by decide +kernel
theorem dX7_stage_74 : decode cX7_stage 74 = .ok (.ldc 166, 2) := by decide +kernel
theorem dX7_stage_76 : decode cX7_stage 76 = .ok (.invokespecial 168, 3) := by decide +kernel
theorem dX7_stage_79 : decode cX7_stage 79 = .ok (.athrow, 1) := by decide +kernel
theorem dX7_stage_80 : decode cX7_stage 80 = .ok (.aload 4, 2) := by decide +kernel
theorem dX7_stage_82 : decode cX7_stage 82 = .ok (.iload_n 2, 1) := by decide +kernel
theorem dX7_stage_83 : decode cX7_stage 83 = .ok (.putfield 161, 3) := by decide +kernel
theorem dX7_stage_86 : decode cX7_stage 86 = .ok (.aload 4, 2) := by decide +kernel
theorem dX7_stage_88 : decode cX7_stage 88 = .ok (.iload_n 3, 1) := by decide +kernel
theorem dX7_stage_89 : decode cX7_stage 89 = .ok (.putfield 169, 3) := by decide +kernel
theorem dX7_stage_92 : decode cX7_stage 92 = .ok (.iload 5, 2) := by decide +kernel
theorem dX7_stage_94 : decode cX7_stage 94 = .ok (.ireturn, 1) := by decide +kernel
theorem dX7_percentageOf_0 : decode cX7_percentageOf 0 = .ok (.aload_n 0, 1) := by decide +kernel
theorem dX7_percentageOf_1 : decode cX7_percentageOf 1 = .ok (.iload_n 1, 1) := by decide +kernel
theorem dX7_percentageOf_2 : decode cX7_percentageOf 2 = .ok (.invokevirtual 115, 3) := by decide +kernel
theorem dX7_percentageOf_5 : decode cX7_percentageOf 5 = .ok (.getfield 161, 3) := by decide +kernel
theorem dX7_percentageOf_8 : decode cX7_percentageOf 8 = .ok (.ireturn, 1) := by decide +kernel
theorem dX7_percentageAfter_0 : decode cX7_percentageAfter 0 = .ok (.aload_n 0, 1) := by decide +kernel
theorem dX7_percentageAfter_1 : decode cX7_percentageAfter 1 = .ok (.iload_n 1, 1) := by decide +kernel
theorem dX7_percentageAfter_2 : decode cX7_percentageAfter 2 = .ok (.invokevirtual 115, 3) := by decide +kernel
theorem dX7_percentageAfter_5 : decode cX7_percentageAfter 5 = .ok (.astore_n 3, 1) := by decide +kernel
theorem dX7_percentageAfter_6 : decode cX7_percentageAfter 6 = .ok (.iload_n 2, 1) := by decide +kernel
theorem dX7_percentageAfter_7 : decode cX7_percentageAfter 7 = .ok (.iconst 1, 1) := by decide +kernel
theorem dX7_percentageAfter_8 : decode cX7_percentageAfter 8 = .ok (.bipush 99, 2) := by decide +kernel
theorem dX7_percentageAfter_10 : decode cX7_percentageAfter 10 = .ok (.invokestatic 63, 3) := by decide +kernel
theorem dX7_percentageAfter_13 : decode cX7_percentageAfter 13 = .ok (.ifCond .eq 13, 3) := by decide +kernel
theorem dX7_percentageAfter_16 : decode cX7_percentageAfter 16 = .ok (.new 67, 3) := by decide +kernel
theorem dX7_percentageAfter_19 : decode cX7_percentageAfter 19 = .ok (.dup, 1) := by decide +kernel
theorem dX7_percentageAfter_20 : decode cX7_percentageAfter 20 = .ok (.ldc 157, 2) := by decide +kernel
theorem dX7_percentageAfter_22 : decode cX7_percentageAfter 22 = .ok (.invokespecial 71, 3) := by decide +kernel
theorem dX7_percentageAfter_25 : decode cX7_percentageAfter 25 = .ok (.athrow, 1) := by decide +kernel
theorem dX7_percentageAfter_26 : decode cX7_percentageAfter 26 = .ok (.aload_n 0, 1) := by decide +kernel
theorem dX7_percentageAfter_27 : decode cX7_percentageAfter 27 = .ok (.aload_n 3, 1) := by decide +kernel
theorem dX7_percentageAfter_28 : decode cX7_percentageAfter 28 = .ok (.iload_n 2, 1) := by decide +kernel
theorem dX7_percentageAfter_29 : decode cX7_percentageAfter 29 = .ok (.invokevirtual 172, 3) := by decide +kernel
theorem dX7_percentageAfter_32 : decode cX7_percentageAfter 32 = .ok (.ireturn, 1) := by decide +kernel
theorem dX7_pass_0 : decode cX7_pass 0 = .ok (.iload_n 1, 1) := by decide +kernel
theorem dX7_pass_1 : decode cX7_pass 1 = .ok (.iconst 1, 1) := by decide +kernel
theorem dX7_pass_2 : decode cX7_pass 2 = .ok (.bipush 99, 2) := by decide +kernel
theorem dX7_pass_4 : decode cX7_pass 4 = .ok (.invokestatic 63, 3) := by decide +kernel
theorem dX7_pass_7 : decode cX7_pass 7 = .ok (.ifCond .eq 13, 3) := by decide +kernel
theorem dX7_pass_10 : decode cX7_pass 10 = .ok (.new 67, 3) := by decide +kernel
theorem dX7_pass_13 : decode cX7_pass 13 = .ok (.dup, 1) := by decide +kernel
theorem dX7_pass_14 : decode cX7_pass 14 = .ok (.ldc 157, 2) := by decide +kernel
theorem dX7_pass_16 : decode cX7_pass 16 = .ok (.invokespecial 71, 3) := by decide +kernel
theorem dX7_pass_19 : decode cX7_pass 19 = .ok (.athrow, 1) := by decide +kernel
theorem dX7_pass_20 : decode cX7_pass 20 = .ok (.aload_n 0, 1) := by decide +kernel
theorem dX7_pass_21 : decode cX7_pass 21 = .ok (.getfield 60, 3) := by decide +kernel
theorem dX7_pass_24 : decode cX7_pass 24 = .ok (.iload_n 1, 1) := by decide +kernel
theorem dX7_pass_25 : decode cX7_pass 25 = .ok (.iadd, 1) := by decide +kernel
theorem dX7_pass_26 : decode cX7_pass 26 = .ok (.sipush 999, 3) := by decide +kernel
theorem dX7_pass_29 : decode cX7_pass 29 = .ok (.if_icmp .le 13, 3) := by decide +kernel
theorem dX7_pass_32 : decode cX7_pass 32 = .ok (.new 78, 3) := by decide +kernel
theorem dX7_pass_35 : decode cX7_pass 35 = .ok (.dup, 1) := by decide +kernel
theorem dX7_pass_36 : decode cX7_pass 36 = .ok (.ldc 176, 2) := by decide +kernel
theorem dX7_pass_38 : decode cX7_pass 38 = .ok (.invokespecial 82, 3) := by decide +kernel
theorem dX7_pass_41 : decode cX7_pass 41 = .ok (.athrow, 1) := by decide +kernel
theorem dX7_pass_42 : decode cX7_pass 42 = .ok (.iconst 0, 1) := by decide +kernel
theorem dX7_pass_43 : decode cX7_pass 43 = .ok (.istore_n 2, 1) := by decide +kernel
theorem dX7_pass_44 : decode cX7_pass 44 = .ok (.iload_n 2, 1) := by decide +kernel
theorem dX7_pass_45 : decode cX7_pass 45 = .ok (.aload_n 0, 1) := by decide +kernel
theorem dX7_pass_46 : decode cX7_pass 46 = .ok (.getfield 19, 3) := by decide +kernel
theorem dX7_pass_49 : decode cX7_pass 49 = .ok (.invokevirtual 74, 3) := by decide +kernel
theorem dX7_pass_52 : decode cX7_pass 52 = .ok (.if_icmp .ge 31, 3) := by decide +kernel
theorem dX7_pass_55 : decode cX7_pass 55 = .ok (.aload_n 0, 1) := by decide +kernel
theorem dX7_pass_56 : decode cX7_pass 56 = .ok (.getfield 19, 3) := by decide +kernel
theorem dX7_pass_59 : decode cX7_pass 59 = .ok (.iload_n 2, 1) := by decide +kernel
theorem dX7_pass_60 : decode cX7_pass 60 = .ok (.invokevirtual 178, 3) := by decide +kernel
theorem dX7_pass_63 : decode cX7_pass 63 = .ok (.checkcast 120, 3) := by decide +kernel
theorem dX7_pass_66 : decode cX7_pass 66 = .ok (.astore_n 3, 1) := by decide +kernel
theorem dX7_pass_67 : decode cX7_pass 67 = .ok (.aload_n 3, 1) := by decide +kernel
theorem dX7_pass_68 : decode cX7_pass 68 = .ok (.aload_n 0, 1) := by decide +kernel
theorem dX7_pass_69 : decode cX7_pass 69 = .ok (.aload_n 3, 1) := by decide +kernel
theorem dX7_pass_70 : decode cX7_pass 70 = .ok (.iload_n 1, 1) := by decide +kernel
theorem dX7_pass_71 : decode cX7_pass 71 = .ok (.invokevirtual 172, 3) := by decide +kernel
theorem dX7_pass_74 : decode cX7_pass 74 = .ok (.putfield 161, 3) := by decide +kernel
theorem dX7_pass_77 : decode cX7_pass 77 = .ok (.iinc 2 1, 3) := by decide +kernel
theorem dX7_pass_80 : decode cX7_pass 80 = .ok (.goto (-36), 3) := by decide +kernel
theorem dX7_pass_83 : decode cX7_pass 83 = .ok (.aload_n 0, 1) := by decide +kernel
theorem dX7_pass_84 : decode cX7_pass 84 = .ok (.dup, 1) := by decide +kernel
theorem dX7_pass_85 : decode cX7_pass 85 = .ok (.getfield 60, 3) := by decide +kernel
theorem dX7_pass_88 : decode cX7_pass 88 = .ok (.iload_n 1, 1) := by decide +kernel
theorem dX7_pass_89 : decode cX7_pass 89 = .ok (.iadd, 1) := by decide +kernel
theorem dX7_pass_90 : decode cX7_pass 90 = .ok (.putfield 60, 3) := by decide +kernel
theorem dX7_pass_93 : decode cX7_pass 93 = .ok (.aload_n 0, 1) := by decide +kernel
theorem dX7_pass_94 : decode cX7_pass 94 = .ok (.getfield 60, 3) := by decide +kernel
theorem dX7_pass_97 : decode cX7_pass 97 = .ok (.ireturn, 1) := by decide +kernel
theorem dX7_holdOf_0 : decode cX7_holdOf 0 = .ok (.aload_n 0, 1) := by decide +kernel
theorem dX7_holdOf_1 : decode cX7_holdOf 1 = .ok (.iload_n 1, 1) := by decide +kernel
theorem dX7_holdOf_2 : decode cX7_holdOf 2 = .ok (.invokevirtual 115, 3) := by decide +kernel
theorem dX7_holdOf_5 : decode cX7_holdOf 5 = .ok (.astore_n 2, 1) := by decide +kernel
theorem dX7_holdOf_6 : decode cX7_holdOf 6 = .ok (.aload_n 2, 1) := by decide +kernel
theorem dX7_holdOf_7 : decode cX7_holdOf 7 = .ok (.getfield 125, 3) := by decide +kernel
theorem dX7_holdOf_10 : decode cX7_holdOf 10 = .ok (.bipush 97, 2) := by decide +kernel
theorem dX7_holdOf_12 : decode cX7_holdOf 12 = .ok (.if_icmp .eq 13, 3) := by decide +kernel
theorem dX7_holdOf_15 : decode cX7_holdOf 15 = .ok (.new 78, 3) := by decide +kernel
theorem dX7_holdOf_18 : decode cX7_holdOf 18 = .ok (.dup, 1) := by decide +kernel
theorem dX7_holdOf_19 : decode cX7_holdOf 19 = .ok (.ldc 159, 2) := by decide +kernel
theorem dX7_holdOf_21 : decode cX7_holdOf 21 = .ok (.invokespecial 82, 3) := by decide +kernel
theorem dX7_holdOf_24 : decode cX7_holdOf 24 = .ok (.athrow, 1) := by decide +kernel
theorem dX7_holdOf_25 : decode cX7_holdOf 25 = .ok (.aload_n 0, 1) := by decide +kernel
theorem dX7_holdOf_26 : decode cX7_holdOf 26 = .ok (.aload_n 2, 1) := by decide +kernel
theorem dX7_holdOf_27 : decode cX7_holdOf 27 = .ok (.invokevirtual 182, 3) := by decide +kernel
theorem dX7_holdOf_30 : decode cX7_holdOf 30 = .ok (.ireturn, 1) := by decide +kernel
theorem dX7_day_0 : decode cX7_day 0 = .ok (.aload_n 0, 1) := by decide +kernel
theorem dX7_day_1 : decode cX7_day 1 = .ok (.getfield 60, 3) := by decide +kernel
theorem dX7_day_4 : decode cX7_day 4 = .ok (.ireturn, 1) := by decide +kernel
theorem dX7_couldHave_0 : decode cX7_couldHave 0 = .ok (.aload_n 0, 1) := by decide +kernel
theorem dX7_couldHave_1 : decode cX7_couldHave 1 = .ok (.iload_n 1, 1) := by decide +kernel
theorem dX7_couldHave_2 : decode cX7_couldHave 2 = .ok (.invokevirtual 185, 3) := by decide +kernel
theorem dX7_couldHave_5 : decode cX7_couldHave 5 = .ok (.astore_n 3, 1) := by decide +kernel
theorem dX7_couldHave_6 : decode cX7_couldHave 6 = .ok (.aload_n 0, 1) := by decide +kernel
theorem dX7_couldHave_7 : decode cX7_couldHave 7 = .ok (.aload_n 0, 1) := by decide +kernel
theorem dX7_couldHave_8 : decode cX7_couldHave 8 = .ok (.iload_n 2, 1) := by decide +kernel
theorem dX7_couldHave_9 : decode cX7_couldHave 9 = .ok (.invokevirtual 115, 3) := by decide +kernel
theorem dX7_couldHave_12 : decode cX7_couldHave 12 = .ok (.aload_n 3, 1) := by decide +kernel
theorem dX7_couldHave_13 : decode cX7_couldHave 13 = .ok (.invokevirtual 189, 3) := by decide +kernel
theorem dX7_couldHave_16 : decode cX7_couldHave 16 = .ok (.ireturn, 1) := by decide +kernel
theorem dX7_reach_0 : decode cX7_reach 0 = .ok (.aload_n 0, 1) := by decide +kernel
theorem dX7_reach_1 : decode cX7_reach 1 = .ok (.iload_n 1, 1) := by decide +kernel
theorem dX7_reach_2 : decode cX7_reach 2 = .ok (.invokevirtual 115, 3) := by decide +kernel
theorem dX7_reach_5 : decode cX7_reach 5 = .ok (.astore_n 2, 1) := by decide +kernel
theorem dX7_reach_6 : decode cX7_reach 6 = .ok (.aload_n 0, 1) := by decide +kernel
theorem dX7_reach_7 : decode cX7_reach 7 = .ok (.aload_n 2, 1) := by decide +kernel
theorem dX7_reach_8 : decode cX7_reach 8 = .ok (.invokevirtual 193, 3) := by decide +kernel
theorem dX7_reach_11 : decode cX7_reach 11 = .ok (.ifCond .ne 5, 3) := by decide +kernel
theorem dX7_reach_14 : decode cX7_reach 14 = .ok (.iconst 0, 1) := by decide +kernel
theorem dX7_reach_15 : decode cX7_reach 15 = .ok (.ireturn, 1) := by decide +kernel
theorem dX7_reach_16 : decode cX7_reach 16 = .ok (.iconst 0, 1) := by decide +kernel
theorem dX7_reach_17 : decode cX7_reach 17 = .ok (.istore_n 3, 1) := by decide +kernel
theorem dX7_reach_18 : decode cX7_reach 18 = .ok (.iconst 0, 1) := by decide +kernel
theorem dX7_reach_19 : decode cX7_reach 19 = .ok (.istore 4, 2) := by decide +kernel
theorem dX7_reach_21 : decode cX7_reach 21 = .ok (.iload 4, 2) := by decide +kernel
theorem dX7_reach_23 : decode cX7_reach 23 = .ok (.aload_n 0, 1) := by decide +kernel
theorem dX7_reach_24 : decode cX7_reach 24 = .ok (.getfield 16, 3) := by decide +kernel
theorem dX7_reach_27 : decode cX7_reach 27 = .ok (.invokevirtual 74, 3) := by decide +kernel
theorem dX7_reach_30 : decode cX7_reach 30 = .ok (.if_icmp .ge 58, 3) := by decide +kernel
theorem dX7_reach_33 : decode cX7_reach 33 = .ok (.aload_n 0, 1) := by decide +kernel
theorem dX7_reach_34 : decode cX7_reach 34 = .ok (.getfield 16, 3) := by decide +kernel
theorem dX7_reach_37 : decode cX7_reach 37 = .ok (.iload 4, 2) := by decide +kernel
theorem dX7_reach_39 : decode cX7_reach 39 = .ok (.invokevirtual 178, 3) := by decide +kernel
theorem dX7_reach_42 : decode cX7_reach 42 = .ok (.checkcast 97, 3) := by decide +kernel
theorem dX7_reach_45 : decode cX7_reach 45 = .ok (.astore 5, 2) := by decide +kernel
theorem dX7_reach_47 : decode cX7_reach 47 = .ok (.aload_n 2, 1) := by decide +kernel
theorem dX7_reach_48 : decode cX7_reach 48 = .ok (.getfield 119, 3) := by decide +kernel
theorem dX7_reach_51 : decode cX7_reach 51 = .ok (.aload 5, 2) := by decide +kernel
theorem dX7_reach_53 : decode cX7_reach 53 = .ok (.getfield 197, 3) := by decide +kernel
theorem dX7_reach_56 : decode cX7_reach 56 = .ok (.aload 5, 2) := by decide +kernel
theorem dX7_reach_58 : decode cX7_reach 58 = .ok (.getfield 200, 3) := by decide +kernel
theorem dX7_reach_61 : decode cX7_reach 61 = .ok (.invokevirtual 203, 3) := by decide +kernel
theorem dX7_reach_64 : decode cX7_reach 64 = .ok (.ifCond .eq 18, 3) := by decide +kernel
theorem dX7_reach_67 : decode cX7_reach 67 = .ok (.iload_n 3, 1) := by decide +kernel
theorem dX7_reach_68 : decode cX7_reach 68 = .ok (.aload 5, 2) := by decide +kernel
theorem dX7_reach_70 : decode cX7_reach 70 = .ok (.getfield 96, 3) := by decide +kernel
theorem dX7_reach_73 : decode cX7_reach 73 = .ok (.aload_n 2, 1) := by decide +kernel
theorem dX7_reach_74 : decode cX7_reach 74 = .ok (.getfield 161, 3) := by decide +kernel
theorem dX7_reach_77 : decode cX7_reach 77 = .ok (.invokevirtual 207, 3) := by decide +kernel
theorem dX7_reach_80 : decode cX7_reach 80 = .ok (.iadd, 1) := by decide +kernel
theorem dX7_reach_81 : decode cX7_reach 81 = .ok (.istore_n 3, 1) := by decide +kernel
theorem dX7_reach_82 : decode cX7_reach 82 = .ok (.iinc 4 1, 3) := by decide +kernel
theorem dX7_reach_85 : decode cX7_reach 85 = .ok (.goto (-64), 3) := by decide +kernel
theorem dX7_reach_88 : decode cX7_reach 88 = .ok (.aload_n 2, 1) := by decide +kernel
theorem dX7_reach_89 : decode cX7_reach 89 = .ok (.getfield 211, 3) := by decide +kernel
theorem dX7_reach_92 : decode cX7_reach 92 = .ok (.ifnull 30, 3) := by decide +kernel
theorem dX7_reach_95 : decode cX7_reach 95 = .ok (.aload_n 2, 1) := by decide +kernel
theorem dX7_reach_96 : decode cX7_reach 96 = .ok (.getfield 211, 3) := by decide +kernel
theorem dX7_reach_99 : decode cX7_reach 99 = .ok (.getfield 215, 3) := by decide +kernel
theorem dX7_reach_102 : decode cX7_reach 102 = .ok (.astore 4, 2) := by decide +kernel
theorem dX7_reach_104 : decode cX7_reach 104 = .ok (.iload_n 3, 1) := by decide +kernel
theorem dX7_reach_105 : decode cX7_reach 105 = .ok (.aload 4, 2) := by decide +kernel
theorem dX7_reach_107 : decode cX7_reach 107 = .ok (.getfield 218, 3) := by decide +kernel
theorem dX7_reach_110 : decode cX7_reach 110 = .ok (.aload 4, 2) := by decide +kernel
theorem dX7_reach_112 : decode cX7_reach 112 = .ok (.aload_n 2, 1) := by decide +kernel
theorem dX7_reach_113 : decode cX7_reach 113 = .ok (.getfield 161, 3) := by decide +kernel
theorem dX7_reach_116 : decode cX7_reach 116 = .ok (.invokevirtual 207, 3) := by decide +kernel
theorem dX7_reach_119 : decode cX7_reach 119 = .ok (.isub, 1) := by decide +kernel
theorem dX7_reach_120 : decode cX7_reach 120 = .ok (.iadd, 1) := by decide +kernel
theorem dX7_reach_121 : decode cX7_reach 121 = .ok (.istore_n 3, 1) := by decide +kernel
theorem dX7_reach_122 : decode cX7_reach 122 = .ok (.iload_n 3, 1) := by decide +kernel
theorem dX7_reach_123 : decode cX7_reach 123 = .ok (.ireturn, 1) := by decide +kernel
theorem dX7_reachByDevices_0 : decode cX7_reachByDevices 0 = .ok (.aload_n 0, 1) := by decide +kernel
theorem dX7_reachByDevices_1 : decode cX7_reachByDevices 1 = .ok (.iload_n 1, 1) := by decide +kernel
theorem dX7_reachByDevices_2 : decode cX7_reachByDevices 2 = .ok (.invokevirtual 115, 3) := by decide +kernel
theorem dX7_reachByDevices_5 : decode cX7_reachByDevices 5 = .ok (.astore_n 2, 1) := by decide +kernel
theorem dX7_reachByDevices_6 : decode cX7_reachByDevices 6 = .ok (.iconst 0, 1) := by decide +kernel
theorem dX7_reachByDevices_7 : decode cX7_reachByDevices 7 = .ok (.istore_n 3, 1) := by decide +kernel
theorem dX7_reachByDevices_8 : decode cX7_reachByDevices 8 = .ok (.iconst 0, 1) := by decide +kernel
theorem dX7_reachByDevices_9 : decode cX7_reachByDevices 9 = .ok (.istore 4, 2) := by decide +kernel
theorem dX7_reachByDevices_11 : decode cX7_reachByDevices 11 = .ok (.iload 4, 2) := by decide +kernel
theorem dX7_reachByDevices_13 : decode cX7_reachByDevices 13 = .ok (.aload_n 0, 1) := by decide +kernel
theorem dX7_reachByDevices_14 : decode cX7_reachByDevices 14 = .ok (.getfield 10, 3) := by decide +kernel
theorem dX7_reachByDevices_17 : decode cX7_reachByDevices 17 = .ok (.invokevirtual 74, 3) := by decide +kernel
theorem dX7_reachByDevices_20 : decode cX7_reachByDevices 20 = .ok (.if_icmp .ge 32, 3) := by decide +kernel
theorem dX7_reachByDevices_23 : decode cX7_reachByDevices 23 = .ok (.aload_n 0, 1) := by decide +kernel
theorem dX7_reachByDevices_24 : decode cX7_reachByDevices 24 = .ok (.aload_n 2, 1) := by decide +kernel
theorem dX7_reachByDevices_25 : decode cX7_reachByDevices 25 = .ok (.aload_n 0, 1) := by decide +kernel
theorem dX7_reachByDevices_26 : decode cX7_reachByDevices 26 = .ok (.getfield 10, 3) := by decide +kernel
theorem dX7_reachByDevices_29 : decode cX7_reachByDevices 29 = .ok (.iload 4, 2) := by decide +kernel
theorem dX7_reachByDevices_31 : decode cX7_reachByDevices 31 = .ok (.invokevirtual 178, 3) := by decide +kernel
theorem dX7_reachByDevices_34 : decode cX7_reachByDevices 34 = .ok (.checkcast 83, 3) := by decide +kernel
theorem dX7_reachByDevices_37 : decode cX7_reachByDevices 37 = .ok (.invokevirtual 189, 3) := by decide +kernel
theorem dX7_reachByDevices_40 : decode cX7_reachByDevices 40 = .ok (.ifCond .eq 6, 3) := by decide +kernel
theorem dX7_reachByDevices_43 : decode cX7_reachByDevices 43 = .ok (.iinc 3 1, 3) := by decide +kernel
theorem dX7_reachByDevices_46 : decode cX7_reachByDevices 46 = .ok (.iinc 4 1, 3) := by decide +kernel
theorem dX7_reachByDevices_49 : decode cX7_reachByDevices 49 = .ok (.goto (-38), 3) := by decide +kernel
theorem dX7_reachByDevices_52 : decode cX7_reachByDevices 52 = .ok (.iload_n 3, 1) := by decide +kernel
theorem dX7_reachByDevices_53 : decode cX7_reachByDevices 53 = .ok (.ireturn, 1) := by decide +kernel
theorem dX7_offered_0 : decode cX7_offered 0 = .ok (.aload_n 0, 1) := by decide +kernel
theorem dX7_offered_1 : decode cX7_offered 1 = .ok (.aload_n 0, 1) := by decide +kernel
theorem dX7_offered_2 : decode cX7_offered 2 = .ok (.iload_n 1, 1) := by decide +kernel
theorem dX7_offered_3 : decode cX7_offered 3 = .ok (.invokevirtual 185, 3) := by decide +kernel
theorem dX7_offered_6 : decode cX7_offered 6 = .ok (.invokevirtual 221, 3) := by decide +kernel
theorem dX7_offered_9 : decode cX7_offered 9 = .ok (.getfield 142, 3) := by decide +kernel
theorem dX7_offered_12 : decode cX7_offered 12 = .ok (.ireturn, 1) := by decide +kernel
theorem dX7_update_0 : decode cX7_update 0 = .ok (.aload_n 0, 1) := by decide +kernel
theorem dX7_update_1 : decode cX7_update 1 = .ok (.iload_n 1, 1) := by decide +kernel
theorem dX7_update_2 : decode cX7_update 2 = .ok (.invokevirtual 185, 3) := by decide +kernel
theorem dX7_update_5 : decode cX7_update 5 = .ok (.astore_n 2, 1) := by decide +kernel
theorem dX7_update_6 : decode cX7_update 6 = .ok (.aload_n 0, 1) := by decide +kernel
theorem dX7_update_7 : decode cX7_update 7 = .ok (.aload_n 2, 1) := by decide +kernel
theorem dX7_update_8 : decode cX7_update 8 = .ok (.invokevirtual 221, 3) := by decide +kernel
theorem dX7_update_11 : decode cX7_update 11 = .ok (.astore_n 3, 1) := by decide +kernel
theorem dX7_update_12 : decode cX7_update 12 = .ok (.aload_n 2, 1) := by decide +kernel
theorem dX7_update_13 : decode cX7_update 13 = .ok (.getfield 225, 3) := by decide +kernel
theorem dX7_update_16 : decode cX7_update 16 = .ok (.ifnull 18, 3) := by decide +kernel
end
section
theorem dX7_update_19 : decode cX7_update 19 = .ok (.aload_n 2, 1) := by decide +kernel
theorem dX7_update_20 : decode cX7_update 20 = .ok (.getfield 225, 3) := by decide +kernel
theorem dX7_update_23 : decode cX7_update 23 = .ok (.getfield 215, 3) := by decide +kernel
theorem dX7_update_26 : decode cX7_update 26 = .ok (.aload_n 2, 1) := by decide +kernel
theorem dX7_update_27 : decode cX7_update 27 = .ok (.getfield 228, 3) := by decide +kernel
theorem dX7_update_30 : decode cX7_update 30 = .ok (.iconst (-1), 1) := by decide +kernel
theorem dX7_update_31 : decode cX7_update 31 = .ok (.invokevirtual 102, 3) := by decide +kernel
theorem dX7_update_34 : decode cX7_update 34 = .ok (.aload_n 3, 1) := by decide +kernel
theorem dX7_update_35 : decode cX7_update 35 = .ok (.getfield 215, 3) := by decide +kernel
theorem dX7_update_38 : decode cX7_update 38 = .ok (.aload_n 2, 1) := by decide +kernel
theorem dX7_update_39 : decode cX7_update 39 = .ok (.getfield 228, 3) := by decide +kernel
theorem dX7_update_42 : decode cX7_update 42 = .ok (.iconst 1, 1) := by decide +kernel
theorem dX7_update_43 : decode cX7_update 43 = .ok (.invokevirtual 102, 3) := by decide +kernel
theorem dX7_update_46 : decode cX7_update 46 = .ok (.aload_n 3, 1) := by decide +kernel
theorem dX7_update_47 : decode cX7_update 47 = .ok (.dup, 1) := by decide +kernel
theorem dX7_update_48 : decode cX7_update 48 = .ok (.getfield 231, 3) := by decide +kernel
theorem dX7_update_51 : decode cX7_update 51 = .ok (.iconst 1, 1) := by decide +kernel
theorem dX7_update_52 : decode cX7_update 52 = .ok (.iadd, 1) := by decide +kernel
theorem dX7_update_53 : decode cX7_update 53 = .ok (.putfield 231, 3) := by decide +kernel
theorem dX7_update_56 : decode cX7_update 56 = .ok (.aload_n 2, 1) := by decide +kernel
theorem dX7_update_57 : decode cX7_update 57 = .ok (.aload_n 3, 1) := by decide +kernel
theorem dX7_update_58 : decode cX7_update 58 = .ok (.putfield 225, 3) := by decide +kernel
theorem dX7_update_61 : decode cX7_update 61 = .ok (.aload_n 2, 1) := by decide +kernel
theorem dX7_update_62 : decode cX7_update 62 = .ok (.iconst 0, 1) := by decide +kernel
theorem dX7_update_63 : decode cX7_update 63 = .ok (.putfield 234, 3) := by decide +kernel
theorem dX7_update_66 : decode cX7_update 66 = .ok (.aload_n 3, 1) := by decide +kernel
theorem dX7_update_67 : decode cX7_update 67 = .ok (.getfield 142, 3) := by decide +kernel
theorem dX7_update_70 : decode cX7_update 70 = .ok (.ireturn, 1) := by decide +kernel
theorem dX7_buildOf_0 : decode cX7_buildOf 0 = .ok (.aload_n 0, 1) := by decide +kernel
theorem dX7_buildOf_1 : decode cX7_buildOf 1 = .ok (.iload_n 1, 1) := by decide +kernel
theorem dX7_buildOf_2 : decode cX7_buildOf 2 = .ok (.invokevirtual 185, 3) := by decide +kernel
theorem dX7_buildOf_5 : decode cX7_buildOf 5 = .ok (.invokestatic 237, 3) := by decide +kernel
theorem dX7_buildOf_8 : decode cX7_buildOf 8 = .ok (.getfield 142, 3) := by decide +kernel
theorem dX7_buildOf_11 : decode cX7_buildOf 11 = .ok (.ireturn, 1) := by decide +kernel
theorem dX7_devicesWith_0 : decode cX7_devicesWith 0 = .ok (.aload_n 0, 1) := by decide +kernel
theorem dX7_devicesWith_1 : decode cX7_devicesWith 1 = .ok (.iload_n 1, 1) := by decide +kernel
theorem dX7_devicesWith_2 : decode cX7_devicesWith 2 = .ok (.invokevirtual 115, 3) := by decide +kernel
theorem dX7_devicesWith_5 : decode cX7_devicesWith 5 = .ok (.getfield 215, 3) := by decide +kernel
theorem dX7_devicesWith_8 : decode cX7_devicesWith 8 = .ok (.getfield 218, 3) := by decide +kernel
theorem dX7_devicesWith_11 : decode cX7_devicesWith 11 = .ok (.ireturn, 1) := by decide +kernel
theorem dX7_installs_0 : decode cX7_installs 0 = .ok (.aload_n 0, 1) := by decide +kernel
theorem dX7_installs_1 : decode cX7_installs 1 = .ok (.iload_n 1, 1) := by decide +kernel
theorem dX7_installs_2 : decode cX7_installs 2 = .ok (.invokevirtual 115, 3) := by decide +kernel
theorem dX7_installs_5 : decode cX7_installs 5 = .ok (.getfield 231, 3) := by decide +kernel
theorem dX7_installs_8 : decode cX7_installs 8 = .ok (.ireturn, 1) := by decide +kernel
theorem dX7_type_0 : decode cX7_type 0 = .ok (.iload_n 1, 1) := by decide +kernel
theorem dX7_type_1 : decode cX7_type 1 = .ok (.bipush 97, 2) := by decide +kernel
theorem dX7_type_3 : decode cX7_type 3 = .ok (.if_icmp .lt 9, 3) := by decide +kernel
theorem dX7_type_6 : decode cX7_type 6 = .ok (.iload_n 1, 1) := by decide +kernel
theorem dX7_type_7 : decode cX7_type 7 = .ok (.bipush 122, 2) := by decide +kernel
theorem dX7_type_9 : decode cX7_type 9 = .ok (.if_icmp .le 13, 3) := by decide +kernel
theorem dX7_type_12 : decode cX7_type 12 = .ok (.new 67, 3) := by decide +kernel
theorem dX7_type_15 : decode cX7_type 15 = .ok (.dup, 1) := by decide +kernel
theorem dX7_type_16 : decode cX7_type 16 = .ok (.ldc 240, 2) := by decide +kernel
theorem dX7_type_18 : decode cX7_type 18 = .ok (.invokespecial 71, 3) := by decide +kernel
theorem dX7_type_21 : decode cX7_type 21 = .ok (.athrow, 1) := by decide +kernel
theorem dX7_type_22 : decode cX7_type 22 = .ok (.aload_n 0, 1) := by decide +kernel
theorem dX7_type_23 : decode cX7_type 23 = .ok (.getfield 28, 3) := by decide +kernel
theorem dX7_type_26 : decode cX7_type 26 = .ok (.getfield 242, 3) := by decide +kernel
theorem dX7_type_29 : decode cX7_type 29 = .ok (.bipush 6, 2) := by decide +kernel
theorem dX7_type_31 : decode cX7_type 31 = .ok (.if_icmp .lt 13, 3) := by decide +kernel
theorem dX7_type_34 : decode cX7_type 34 = .ok (.new 78, 3) := by decide +kernel
theorem dX7_type_37 : decode cX7_type 37 = .ok (.dup, 1) := by decide +kernel
theorem dX7_type_38 : decode cX7_type 38 = .ok (.ldc 245, 2) := by decide +kernel
theorem dX7_type_40 : decode cX7_type 40 = .ok (.invokespecial 82, 3) := by decide +kernel
theorem dX7_type_43 : decode cX7_type 43 = .ok (.athrow, 1) := by decide +kernel
theorem dX7_type_44 : decode cX7_type 44 = .ok (.aload_n 0, 1) := by decide +kernel
theorem dX7_type_45 : decode cX7_type 45 = .ok (.getfield 28, 3) := by decide +kernel
theorem dX7_type_48 : decode cX7_type 48 = .ok (.iload_n 1, 1) := by decide +kernel
theorem dX7_type_49 : decode cX7_type 49 = .ok (.invokevirtual 247, 3) := by decide +kernel
theorem dX7_type_52 : decode cX7_type 52 = .ok (.aload_n 0, 1) := by decide +kernel
theorem dX7_type_53 : decode cX7_type 53 = .ok (.getfield 28, 3) := by decide +kernel
theorem dX7_type_56 : decode cX7_type 56 = .ok (.getfield 242, 3) := by decide +kernel
theorem dX7_type_59 : decode cX7_type 59 = .ok (.ireturn, 1) := by decide +kernel
theorem dX7_crash_0 : decode cX7_crash 0 = .ok (.aload_n 0, 1) := by decide +kernel
theorem dX7_crash_1 : decode cX7_crash 1 = .ok (.getfield 32, 3) := by decide +kernel
theorem dX7_crash_4 : decode cX7_crash 4 = .ok (.aload_n 0, 1) := by decide +kernel
theorem dX7_crash_5 : decode cX7_crash 5 = .ok (.getfield 28, 3) := by decide +kernel
theorem dX7_crash_8 : decode cX7_crash 8 = .ok (.invokevirtual 251, 3) := by decide +kernel
theorem dX7_crash_11 : decode cX7_crash 11 = .ok (.aload_n 0, 1) := by decide +kernel
theorem dX7_crash_12 : decode cX7_crash 12 = .ok (.getfield 28, 3) := by decide +kernel
theorem dX7_crash_15 : decode cX7_crash 15 = .ok (.invokevirtual 255, 3) := by decide +kernel
theorem dX7_crash_18 : decode cX7_crash 18 = .ok (.aload_n 0, 1) := by decide +kernel
theorem dX7_crash_19 : decode cX7_crash 19 = .ok (.iload_n 1, 1) := by decide +kernel
theorem dX7_crash_20 : decode cX7_crash 20 = .ok (.invokevirtual 185, 3) := by decide +kernel
theorem dX7_crash_23 : decode cX7_crash 23 = .ok (.invokestatic 237, 3) := by decide +kernel
theorem dX7_crash_26 : decode cX7_crash 26 = .ok (.astore_n 2, 1) := by decide +kernel
theorem dX7_crash_27 : decode cX7_crash 27 = .ok (.aload_n 0, 1) := by decide +kernel
theorem dX7_crash_28 : decode cX7_crash 28 = .ok (.getfield 32, 3) := by decide +kernel
theorem dX7_crash_31 : decode cX7_crash 31 = .ok (.getfield 242, 3) := by decide +kernel
theorem dX7_crash_34 : decode cX7_crash 34 = .ok (.ifCond .ne 14, 3) := by decide +kernel
theorem dX7_crash_37 : decode cX7_crash 37 = .ok (.new 78, 3) := by decide +kernel
theorem dX7_crash_40 : decode cX7_crash 40 = .ok (.dup, 1) := by decide +kernel
theorem dX7_crash_41 : decode cX7_crash 41 = .ok (.ldc_w 258, 3) := by decide +kernel
theorem dX7_crash_44 : decode cX7_crash 44 = .ok (.invokespecial 82, 3) := by decide +kernel
theorem dX7_crash_47 : decode cX7_crash 47 = .ok (.athrow, 1) := by decide +kernel
theorem dX7_crash_48 : decode cX7_crash 48 = .ok (.aload_n 0, 1) := by decide +kernel
theorem dX7_crash_49 : decode cX7_crash 49 = .ok (.invokevirtual 260, 3) := by decide +kernel
theorem dX7_crash_52 : decode cX7_crash 52 = .ok (.astore_n 3, 1) := by decide +kernel
theorem dX7_crash_53 : decode cX7_crash 53 = .ok (.aload_n 3, 1) := by decide +kernel
theorem dX7_crash_54 : decode cX7_crash 54 = .ok (.dup, 1) := by decide +kernel
theorem dX7_crash_55 : decode cX7_crash 55 = .ok (.getfield 264, 3) := by decide +kernel
theorem dX7_crash_58 : decode cX7_crash 58 = .ok (.iconst 1, 1) := by decide +kernel
theorem dX7_crash_59 : decode cX7_crash 59 = .ok (.iadd, 1) := by decide +kernel
theorem dX7_crash_60 : decode cX7_crash 60 = .ok (.putfield 264, 3) := by decide +kernel
theorem dX7_crash_63 : decode cX7_crash 63 = .ok (.aload_n 3, 1) := by decide +kernel
theorem dX7_crash_64 : decode cX7_crash 64 = .ok (.dup, 1) := by decide +kernel
theorem dX7_crash_65 : decode cX7_crash 65 = .ok (.getfield 269, 3) := by decide +kernel
theorem dX7_crash_68 : decode cX7_crash 68 = .ok (.iconst 1, 1) := by decide +kernel
theorem dX7_crash_69 : decode cX7_crash 69 = .ok (.aload_n 2, 1) := by decide +kernel
theorem dX7_crash_70 : decode cX7_crash 70 = .ok (.getfield 142, 3) := by decide +kernel
theorem dX7_crash_73 : decode cX7_crash 73 = .ok (.ishl, 1) := by decide +kernel
theorem dX7_crash_74 : decode cX7_crash 74 = .ok (.ior, 1) := by decide +kernel
theorem dX7_crash_75 : decode cX7_crash 75 = .ok (.putfield 269, 3) := by decide +kernel
theorem dX7_crash_78 : decode cX7_crash 78 = .ok (.aload_n 2, 1) := by decide +kernel
theorem dX7_crash_79 : decode cX7_crash 79 = .ok (.dup, 1) := by decide +kernel
theorem dX7_crash_80 : decode cX7_crash 80 = .ok (.getfield 272, 3) := by decide +kernel
theorem dX7_crash_83 : decode cX7_crash 83 = .ok (.iconst 1, 1) := by decide +kernel
theorem dX7_crash_84 : decode cX7_crash 84 = .ok (.iadd, 1) := by decide +kernel
theorem dX7_crash_85 : decode cX7_crash 85 = .ok (.putfield 272, 3) := by decide +kernel
theorem dX7_crash_88 : decode cX7_crash 88 = .ok (.aload_n 3, 1) := by decide +kernel
theorem dX7_crash_89 : decode cX7_crash 89 = .ok (.getfield 273, 3) := by decide +kernel
theorem dX7_crash_92 : decode cX7_crash 92 = .ok (.ireturn, 1) := by decide +kernel
theorem dX7_groups_0 : decode cX7_groups 0 = .ok (.aload_n 0, 1) := by decide +kernel
theorem dX7_groups_1 : decode cX7_groups 1 = .ok (.getfield 22, 3) := by decide +kernel
theorem dX7_groups_4 : decode cX7_groups 4 = .ok (.invokevirtual 74, 3) := by decide +kernel
theorem dX7_groups_7 : decode cX7_groups 7 = .ok (.ireturn, 1) := by decide +kernel
theorem dX7_crashesIn_0 : decode cX7_crashesIn 0 = .ok (.aload_n 0, 1) := by decide +kernel
theorem dX7_crashesIn_1 : decode cX7_crashesIn 1 = .ok (.iload_n 1, 1) := by decide +kernel
theorem dX7_crashesIn_2 : decode cX7_crashesIn 2 = .ok (.invokevirtual 274, 3) := by decide +kernel
theorem dX7_crashesIn_5 : decode cX7_crashesIn 5 = .ok (.getfield 264, 3) := by decide +kernel
theorem dX7_crashesIn_8 : decode cX7_crashesIn 8 = .ok (.ireturn, 1) := by decide +kernel
theorem dX7_stackAt_0 : decode cX7_stackAt 0 = .ok (.aload_n 0, 1) := by decide +kernel
theorem dX7_stackAt_1 : decode cX7_stackAt 1 = .ok (.iload_n 1, 1) := by decide +kernel
theorem dX7_stackAt_2 : decode cX7_stackAt 2 = .ok (.invokevirtual 274, 3) := by decide +kernel
theorem dX7_stackAt_5 : decode cX7_stackAt 5 = .ok (.getfield 278, 3) := by decide +kernel
theorem dX7_stackAt_8 : decode cX7_stackAt 8 = .ok (.astore_n 3, 1) := by decide +kernel
theorem dX7_stackAt_9 : decode cX7_stackAt 9 = .ok (.iload_n 2, 1) := by decide +kernel
theorem dX7_stackAt_10 : decode cX7_stackAt 10 = .ok (.iconst 0, 1) := by decide +kernel
theorem dX7_stackAt_11 : decode cX7_stackAt 11 = .ok (.aload_n 3, 1) := by decide +kernel
theorem dX7_stackAt_12 : decode cX7_stackAt 12 = .ok (.getfield 242, 3) := by decide +kernel
theorem dX7_stackAt_15 : decode cX7_stackAt 15 = .ok (.iconst 1, 1) := by decide +kernel
theorem dX7_stackAt_16 : decode cX7_stackAt 16 = .ok (.isub, 1) := by decide +kernel
theorem dX7_stackAt_17 : decode cX7_stackAt 17 = .ok (.invokestatic 63, 3) := by decide +kernel
theorem dX7_stackAt_20 : decode cX7_stackAt 20 = .ok (.ifCond .eq 14, 3) := by decide +kernel
theorem dX7_stackAt_23 : decode cX7_stackAt 23 = .ok (.new 281, 3) := by decide +kernel
theorem dX7_stackAt_26 : decode cX7_stackAt 26 = .ok (.dup, 1) := by decide +kernel
theorem dX7_stackAt_27 : decode cX7_stackAt 27 = .ok (.ldc_w 283, 3) := by decide +kernel
theorem dX7_stackAt_30 : decode cX7_stackAt 30 = .ok (.invokespecial 285, 3) := by decide +kernel
theorem dX7_stackAt_33 : decode cX7_stackAt 33 = .ok (.athrow, 1) := by decide +kernel
theorem dX7_stackAt_34 : decode cX7_stackAt 34 = .ok (.aload_n 3, 1) := by decide +kernel
theorem dX7_stackAt_35 : decode cX7_stackAt 35 = .ok (.getfield 286, 3) := by decide +kernel
theorem dX7_stackAt_38 : decode cX7_stackAt 38 = .ok (.iload_n 2, 1) := by decide +kernel
theorem dX7_stackAt_39 : decode cX7_stackAt 39 = .ok (.caload, 1) := by decide +kernel
theorem dX7_stackAt_40 : decode cX7_stackAt 40 = .ok (.ireturn, 1) := by decide +kernel
theorem dX7_likeness_0 : decode cX7_likeness 0 = .ok (.aload_n 0, 1) := by decide +kernel
theorem dX7_likeness_1 : decode cX7_likeness 1 = .ok (.iload_n 1, 1) := by decide +kernel
theorem dX7_likeness_2 : decode cX7_likeness 2 = .ok (.invokevirtual 274, 3) := by decide +kernel
theorem dX7_likeness_5 : decode cX7_likeness 5 = .ok (.getfield 278, 3) := by decide +kernel
theorem dX7_likeness_8 : decode cX7_likeness 8 = .ok (.astore_n 3, 1) := by decide +kernel
theorem dX7_likeness_9 : decode cX7_likeness 9 = .ok (.aload_n 3, 1) := by decide +kernel
theorem dX7_likeness_10 : decode cX7_likeness 10 = .ok (.aload_n 0, 1) := by decide +kernel
theorem dX7_likeness_11 : decode cX7_likeness 11 = .ok (.iload_n 2, 1) := by decide +kernel
theorem dX7_likeness_12 : decode cX7_likeness 12 = .ok (.invokevirtual 274, 3) := by decide +kernel
theorem dX7_likeness_15 : decode cX7_likeness 15 = .ok (.getfield 278, 3) := by decide +kernel
theorem dX7_likeness_18 : decode cX7_likeness 18 = .ok (.invokevirtual 290, 3) := by decide +kernel
theorem dX7_likeness_21 : decode cX7_likeness 21 = .ok (.freturn, 1) := by decide +kernel
theorem dX7_setBound_0 : decode cX7_setBound 0 = .ok (.iload_n 1, 1) := by decide +kernel
theorem dX7_setBound_1 : decode cX7_setBound 1 = .ok (.iconst 0, 1) := by decide +kernel
theorem dX7_setBound_2 : decode cX7_setBound 2 = .ok (.sipush 1000, 3) := by decide +kernel
theorem dX7_setBound_5 : decode cX7_setBound 5 = .ok (.invokestatic 63, 3) := by decide +kernel
theorem dX7_setBound_8 : decode cX7_setBound 8 = .ok (.ifCond .eq 13, 3) := by decide +kernel
theorem dX7_setBound_11 : decode cX7_setBound 11 = .ok (.new 67, 3) := by decide +kernel
theorem dX7_setBound_14 : decode cX7_setBound 14 = .ok (.dup, 1) := by decide +kernel
theorem dX7_setBound_15 : decode cX7_setBound 15 = .ok (.ldc 157, 2) := by decide +kernel
theorem dX7_setBound_17 : decode cX7_setBound 17 = .ok (.invokespecial 71, 3) := by decide +kernel
theorem dX7_setBound_20 : decode cX7_setBound 20 = .ok (.athrow, 1) := by decide +kernel
theorem dX7_setBound_21 : decode cX7_setBound 21 = .ok (.aload_n 0, 1) := by decide +kernel
theorem dX7_setBound_22 : decode cX7_setBound 22 = .ok (.getfield 53, 3) := by decide +kernel
theorem dX7_setBound_25 : decode cX7_setBound 25 = .ok (.invokestatic 294, 3) := by decide +kernel
theorem dX7_setBound_28 : decode cX7_setBound 28 = .ok (.istore_n 2, 1) := by decide +kernel
theorem dX7_setBound_29 : decode cX7_setBound 29 = .ok (.aload_n 0, 1) := by decide +kernel
theorem dX7_setBound_30 : decode cX7_setBound 30 = .ok (.iload_n 1, 1) := by decide +kernel
theorem dX7_setBound_31 : decode cX7_setBound 31 = .ok (.i2f, 1) := by decide +kernel
theorem dX7_setBound_32 : decode cX7_setBound 32 = .ok (.ldc_w 298, 3) := by decide +kernel
theorem dX7_setBound_35 : decode cX7_setBound 35 = .ok (.fdiv, 1) := by decide +kernel
theorem dX7_setBound_36 : decode cX7_setBound 36 = .ok (.putfield 53, 3) := by decide +kernel
theorem dX7_setBound_39 : decode cX7_setBound 39 = .ok (.iload_n 2, 1) := by decide +kernel
theorem dX7_setBound_40 : decode cX7_setBound 40 = .ok (.ireturn, 1) := by decide +kernel
theorem dX7_worstGroup_0 : decode cX7_worstGroup 0 = .ok (.aload_n 0, 1) := by decide +kernel
theorem dX7_worstGroup_1 : decode cX7_worstGroup 1 = .ok (.getfield 22, 3) := by decide +kernel
theorem dX7_worstGroup_4 : decode cX7_worstGroup 4 = .ok (.invokevirtual 299, 3) := by decide +kernel
theorem dX7_worstGroup_7 : decode cX7_worstGroup 7 = .ok (.ifCond .eq 14, 3) := by decide +kernel
theorem dX7_worstGroup_10 : decode cX7_worstGroup 10 = .ok (.new 78, 3) := by decide +kernel
theorem dX7_worstGroup_13 : decode cX7_worstGroup 13 = .ok (.dup, 1) := by decide +kernel
theorem dX7_worstGroup_14 : decode cX7_worstGroup 14 = .ok (.ldc_w 303, 3) := by decide +kernel
theorem dX7_worstGroup_17 : decode cX7_worstGroup 17 = .ok (.invokespecial 82, 3) := by decide +kernel
theorem dX7_worstGroup_20 : decode cX7_worstGroup 20 = .ok (.athrow, 1) := by decide +kernel
theorem dX7_worstGroup_21 : decode cX7_worstGroup 21 = .ok (.aload_n 0, 1) := by decide +kernel
theorem dX7_worstGroup_22 : decode cX7_worstGroup 22 = .ok (.getfield 22, 3) := by decide +kernel
theorem dX7_worstGroup_25 : decode cX7_worstGroup 25 = .ok (.iconst 0, 1) := by decide +kernel
theorem dX7_worstGroup_26 : decode cX7_worstGroup 26 = .ok (.invokevirtual 178, 3) := by decide +kernel
theorem dX7_worstGroup_29 : decode cX7_worstGroup 29 = .ok (.checkcast 265, 3) := by decide +kernel
theorem dX7_worstGroup_32 : decode cX7_worstGroup 32 = .ok (.astore_n 1, 1) := by decide +kernel
theorem dX7_worstGroup_33 : decode cX7_worstGroup 33 = .ok (.iconst 1, 1) := by decide +kernel
theorem dX7_worstGroup_34 : decode cX7_worstGroup 34 = .ok (.istore_n 2, 1) := by decide +kernel
theorem dX7_worstGroup_35 : decode cX7_worstGroup 35 = .ok (.iload_n 2, 1) := by decide +kernel
theorem dX7_worstGroup_36 : decode cX7_worstGroup 36 = .ok (.aload_n 0, 1) := by decide +kernel
theorem dX7_worstGroup_37 : decode cX7_worstGroup 37 = .ok (.getfield 22, 3) := by decide +kernel
theorem dX7_worstGroup_40 : decode cX7_worstGroup 40 = .ok (.invokevirtual 74, 3) := by decide +kernel
theorem dX7_worstGroup_43 : decode cX7_worstGroup 43 = .ok (.if_icmp .ge 34, 3) := by decide +kernel
theorem dX7_worstGroup_46 : decode cX7_worstGroup 46 = .ok (.aload_n 0, 1) := by decide +kernel
theorem dX7_worstGroup_47 : decode cX7_worstGroup 47 = .ok (.getfield 22, 3) := by decide +kernel
theorem dX7_worstGroup_50 : decode cX7_worstGroup 50 = .ok (.iload_n 2, 1) := by decide +kernel
theorem dX7_worstGroup_51 : decode cX7_worstGroup 51 = .ok (.invokevirtual 178, 3) := by decide +kernel
theorem dX7_worstGroup_54 : decode cX7_worstGroup 54 = .ok (.checkcast 265, 3) := by decide +kernel
theorem dX7_worstGroup_57 : decode cX7_worstGroup 57 = .ok (.astore_n 3, 1) := by decide +kernel
theorem dX7_worstGroup_58 : decode cX7_worstGroup 58 = .ok (.aload_n 3, 1) := by decide +kernel
theorem dX7_worstGroup_59 : decode cX7_worstGroup 59 = .ok (.getfield 264, 3) := by decide +kernel
theorem dX7_worstGroup_62 : decode cX7_worstGroup 62 = .ok (.aload_n 1, 1) := by decide +kernel
theorem dX7_worstGroup_63 : decode cX7_worstGroup 63 = .ok (.getfield 264, 3) := by decide +kernel
theorem dX7_worstGroup_66 : decode cX7_worstGroup 66 = .ok (.if_icmp .le 5, 3) := by decide +kernel
theorem dX7_worstGroup_69 : decode cX7_worstGroup 69 = .ok (.aload_n 3, 1) := by decide +kernel
theorem dX7_worstGroup_70 : decode cX7_worstGroup 70 = .ok (.astore_n 1, 1) := by decide +kernel
theorem dX7_worstGroup_71 : decode cX7_worstGroup 71 = .ok (.iinc 2 1, 3) := by decide +kernel
theorem dX7_worstGroup_74 : decode cX7_worstGroup 74 = .ok (.goto (-39), 3) := by decide +kernel
theorem dX7_worstGroup_77 : decode cX7_worstGroup 77 = .ok (.aload_n 1, 1) := by decide +kernel
theorem dX7_worstGroup_78 : decode cX7_worstGroup 78 = .ok (.getfield 273, 3) := by decide +kernel
theorem dX7_worstGroup_81 : decode cX7_worstGroup 81 = .ok (.ireturn, 1) := by decide +kernel
theorem dX7_buildsIn_0 : decode cX7_buildsIn 0 = .ok (.aload_n 0, 1) := by decide +kernel
theorem dX7_buildsIn_1 : decode cX7_buildsIn 1 = .ok (.iload_n 1, 1) := by decide +kernel
theorem dX7_buildsIn_2 : decode cX7_buildsIn 2 = .ok (.invokevirtual 274, 3) := by decide +kernel
theorem dX7_buildsIn_5 : decode cX7_buildsIn 5 = .ok (.getfield 269, 3) := by decide +kernel
theorem dX7_buildsIn_8 : decode cX7_buildsIn 8 = .ok (.ireturn, 1) := by decide +kernel
theorem dX7_setRate_0 : decode cX7_setRate 0 = .ok (.iload_n 1, 1) := by decide +kernel
theorem dX7_setRate_1 : decode cX7_setRate 1 = .ok (.iconst 0, 1) := by decide +kernel
theorem dX7_setRate_2 : decode cX7_setRate 2 = .ok (.sipush 9999, 3) := by decide +kernel
theorem dX7_setRate_5 : decode cX7_setRate 5 = .ok (.invokestatic 63, 3) := by decide +kernel
theorem dX7_setRate_8 : decode cX7_setRate 8 = .ok (.ifCond .eq 13, 3) := by decide +kernel
theorem dX7_setRate_11 : decode cX7_setRate 11 = .ok (.new 67, 3) := by decide +kernel
theorem dX7_setRate_14 : decode cX7_setRate 14 = .ok (.dup, 1) := by decide +kernel
theorem dX7_setRate_15 : decode cX7_setRate 15 = .ok (.ldc 157, 2) := by decide +kernel
theorem dX7_setRate_17 : decode cX7_setRate 17 = .ok (.invokespecial 71, 3) := by decide +kernel
theorem dX7_setRate_20 : decode cX7_setRate 20 = .ok (.athrow, 1) := by decide +kernel
theorem dX7_setRate_21 : decode cX7_setRate 21 = .ok (.aload_n 0, 1) := by decide +kernel
theorem dX7_setRate_22 : decode cX7_setRate 22 = .ok (.getfield 57, 3) := by decide +kernel
theorem dX7_setRate_25 : decode cX7_setRate 25 = .ok (.invokestatic 294, 3) := by decide +kernel
theorem dX7_setRate_28 : decode cX7_setRate 28 = .ok (.istore_n 2, 1) := by decide +kernel
theorem dX7_setRate_29 : decode cX7_setRate 29 = .ok (.aload_n 0, 1) := by decide +kernel
theorem dX7_setRate_30 : decode cX7_setRate 30 = .ok (.iload_n 1, 1) := by decide +kernel
theorem dX7_setRate_31 : decode cX7_setRate 31 = .ok (.i2f, 1) := by decide +kernel
theorem dX7_setRate_32 : decode cX7_setRate 32 = .ok (.ldc_w 298, 3) := by decide +kernel
theorem dX7_setRate_35 : decode cX7_setRate 35 = .ok (.fdiv, 1) := by decide +kernel
theorem dX7_setRate_36 : decode cX7_setRate 36 = .ok (.putfield 57, 3) := by decide +kernel
theorem dX7_setRate_39 : decode cX7_setRate 39 = .ok (.iload_n 2, 1) := by decide +kernel
theorem dX7_setRate_40 : decode cX7_setRate 40 = .ok (.ireturn, 1) := by decide +kernel
theorem dX7_crashRate_0 : decode cX7_crashRate 0 = .ok (.aload_n 0, 1) := by decide +kernel
theorem dX7_crashRate_1 : decode cX7_crashRate 1 = .ok (.iload_n 1, 1) := by decide +kernel
theorem dX7_crashRate_2 : decode cX7_crashRate 2 = .ok (.invokevirtual 115, 3) := by decide +kernel
theorem dX7_crashRate_5 : decode cX7_crashRate 5 = .ok (.invokevirtual 305, 3) := by decide +kernel
theorem dX7_crashRate_8 : decode cX7_crashRate 8 = .ok (.freturn, 1) := by decide +kernel
theorem dX7_rate_0 : decode cX7_rate 0 = .ok (.aload_n 0, 1) := by decide +kernel
theorem dX7_rate_1 : decode cX7_rate 1 = .ok (.iload_n 1, 1) := by decide +kernel
theorem dX7_rate_2 : decode cX7_rate 2 = .ok (.invokevirtual 185, 3) := by decide +kernel
theorem dX7_rate_5 : decode cX7_rate 5 = .ok (.astore_n 3, 1) := by decide +kernel
theorem dX7_rate_6 : decode cX7_rate 6 = .ok (.iload_n 2, 1) := by decide +kernel
theorem dX7_rate_7 : decode cX7_rate 7 = .ok (.iconst 1, 1) := by decide +kernel
theorem dX7_rate_8 : decode cX7_rate 8 = .ok (.iconst 5, 1) := by decide +kernel
theorem dX7_rate_9 : decode cX7_rate 9 = .ok (.invokestatic 63, 3) := by decide +kernel
theorem dX7_rate_12 : decode cX7_rate 12 = .ok (.ifCond .eq 14, 3) := by decide +kernel
theorem dX7_rate_15 : decode cX7_rate 15 = .ok (.new 67, 3) := by decide +kernel
theorem dX7_rate_18 : decode cX7_rate 18 = .ok (.dup, 1) := by decide +kernel
theorem dX7_rate_19 : decode cX7_rate 19 = .ok (.ldc_w 309, 3) := by decide +kernel
theorem dX7_rate_22 : decode cX7_rate 22 = .ok (.invokespecial 71, 3) := by decide +kernel
theorem dX7_rate_25 : decode cX7_rate 25 = .ok (.athrow, 1) := by decide +kernel
theorem dX7_rate_26 : decode cX7_rate 26 = .ok (.aload_n 3, 1) := by decide +kernel
theorem dX7_rate_27 : decode cX7_rate 27 = .ok (.invokestatic 237, 3) := by decide +kernel
theorem dX7_rate_30 : decode cX7_rate 30 = .ok (.astore 4, 2) := by decide +kernel
theorem dX7_rate_32 : decode cX7_rate 32 = .ok (.aload_n 3, 1) := by decide +kernel
theorem dX7_rate_33 : decode cX7_rate 33 = .ok (.getfield 234, 3) := by decide +kernel
theorem dX7_rate_36 : decode cX7_rate 36 = .ok (.istore 5, 2) := by decide +kernel
theorem dX7_rate_38 : decode cX7_rate 38 = .ok (.aload_n 3, 1) := by decide +kernel
theorem dX7_rate_39 : decode cX7_rate 39 = .ok (.iload_n 2, 1) := by decide +kernel
theorem dX7_rate_40 : decode cX7_rate 40 = .ok (.putfield 234, 3) := by decide +kernel
theorem dX7_rate_43 : decode cX7_rate 43 = .ok (.aload 4, 2) := by decide +kernel
theorem dX7_rate_45 : decode cX7_rate 45 = .ok (.dup, 1) := by decide +kernel
theorem dX7_rate_46 : decode cX7_rate 46 = .ok (.getfield 311, 3) := by decide +kernel
theorem dX7_rate_49 : decode cX7_rate 49 = .ok (.iload_n 2, 1) := by decide +kernel
theorem dX7_rate_50 : decode cX7_rate 50 = .ok (.iload 5, 2) := by decide +kernel
theorem dX7_rate_52 : decode cX7_rate 52 = .ok (.isub, 1) := by decide +kernel
theorem dX7_rate_53 : decode cX7_rate 53 = .ok (.iadd, 1) := by decide +kernel
theorem dX7_rate_54 : decode cX7_rate 54 = .ok (.putfield 311, 3) := by decide +kernel
theorem dX7_rate_57 : decode cX7_rate 57 = .ok (.iload 5, 2) := by decide +kernel
theorem dX7_rate_59 : decode cX7_rate 59 = .ok (.ifCond .ne 14, 3) := by decide +kernel
theorem dX7_rate_62 : decode cX7_rate 62 = .ok (.aload 4, 2) := by decide +kernel
theorem dX7_rate_64 : decode cX7_rate 64 = .ok (.dup, 1) := by decide +kernel
theorem dX7_rate_65 : decode cX7_rate 65 = .ok (.getfield 314, 3) := by decide +kernel
theorem dX7_rate_68 : decode cX7_rate 68 = .ok (.iconst 1, 1) := by decide +kernel
theorem dX7_rate_69 : decode cX7_rate 69 = .ok (.iadd, 1) := by decide +kernel
theorem dX7_rate_70 : decode cX7_rate 70 = .ok (.putfield 314, 3) := by decide +kernel
theorem dX7_rate_73 : decode cX7_rate 73 = .ok (.iload 5, 2) := by decide +kernel
theorem dX7_rate_75 : decode cX7_rate 75 = .ok (.ireturn, 1) := by decide +kernel
theorem dX7_rating_0 : decode cX7_rating 0 = .ok (.aload_n 0, 1) := by decide +kernel
theorem dX7_rating_1 : decode cX7_rating 1 = .ok (.iload_n 1, 1) := by decide +kernel
theorem dX7_rating_2 : decode cX7_rating 2 = .ok (.invokevirtual 317, 3) := by decide +kernel
theorem dX7_rating_5 : decode cX7_rating 5 = .ok (.invokevirtual 320, 3) := by decide +kernel
theorem dX7_rating_8 : decode cX7_rating 8 = .ok (.dreturn, 1) := by decide +kernel
theorem dX7_ratingBits_0 : decode cX7_ratingBits 0 = .ok (.aload_n 0, 1) := by decide +kernel
theorem dX7_ratingBits_1 : decode cX7_ratingBits 1 = .ok (.iload_n 1, 1) := by decide +kernel
theorem dX7_ratingBits_2 : decode cX7_ratingBits 2 = .ok (.invokevirtual 317, 3) := by decide +kernel
theorem dX7_ratingBits_5 : decode cX7_ratingBits 5 = .ok (.invokevirtual 320, 3) := by decide +kernel
theorem dX7_ratingBits_8 : decode cX7_ratingBits 8 = .ok (.invokestatic 324, 3) := by decide +kernel
theorem dX7_ratingBits_11 : decode cX7_ratingBits 11 = .ok (.lreturn, 1) := by decide +kernel
theorem dX7_buy_0 : decode cX7_buy 0 = .ok (.aload_n 0, 1) := by decide +kernel
theorem dX7_buy_1 : decode cX7_buy 1 = .ok (.iload_n 1, 1) := by decide +kernel
theorem dX7_buy_2 : decode cX7_buy 2 = .ok (.invokevirtual 185, 3) := by decide +kernel
theorem dX7_buy_5 : decode cX7_buy 5 = .ok (.astore_n 3, 1) := by decide +kernel
theorem dX7_buy_6 : decode cX7_buy 6 = .ok (.iload_n 2, 1) := by decide +kernel
theorem dX7_buy_7 : decode cX7_buy 7 = .ok (.invokestatic 328, 3) := by decide +kernel
theorem dX7_buy_10 : decode cX7_buy 10 = .ok (.aload_n 3, 1) := by decide +kernel
theorem dX7_buy_11 : decode cX7_buy 11 = .ok (.invokestatic 237, 3) := by decide +kernel
theorem dX7_buy_14 : decode cX7_buy 14 = .ok (.astore 4, 2) := by decide +kernel
theorem dX7_buy_16 : decode cX7_buy 16 = .ok (.aload_n 3, 1) := by decide +kernel
theorem dX7_buy_17 : decode cX7_buy 17 = .ok (.getfield 332, 3) := by decide +kernel
theorem dX7_buy_20 : decode cX7_buy 20 = .ok (.iload_n 2, 1) := by decide +kernel
theorem dX7_buy_21 : decode cX7_buy 21 = .ok (.invokestatic 335, 3) := by decide +kernel
theorem dX7_buy_24 : decode cX7_buy 24 = .ok (.ifCond .eq 14, 3) := by decide +kernel
theorem dX7_buy_27 : decode cX7_buy 27 = .ok (.new 78, 3) := by decide +kernel
theorem dX7_buy_30 : decode cX7_buy 30 = .ok (.dup, 1) := by decide +kernel
theorem dX7_buy_31 : decode cX7_buy 31 = .ok (.ldc_w 338, 3) := by decide +kernel
theorem dX7_buy_34 : decode cX7_buy 34 = .ok (.invokespecial 82, 3) := by decide +kernel
theorem dX7_buy_37 : decode cX7_buy 37 = .ok (.athrow, 1) := by decide +kernel
theorem dX7_buy_38 : decode cX7_buy 38 = .ok (.aload 4, 2) := by decide +kernel
theorem dX7_buy_40 : decode cX7_buy 40 = .ok (.getfield 119, 3) := by decide +kernel
theorem dX7_buy_43 : decode cX7_buy 43 = .ok (.getfield 340, 3) := by decide +kernel
theorem dX7_buy_46 : decode cX7_buy 46 = .ok (.iload_n 2, 1) := by decide +kernel
theorem dX7_buy_47 : decode cX7_buy 47 = .ok (.invokestatic 335, 3) := by decide +kernel
theorem dX7_buy_50 : decode cX7_buy 50 = .ok (.ifCond .ne 14, 3) := by decide +kernel
theorem dX7_buy_53 : decode cX7_buy 53 = .ok (.new 164, 3) := by decide +kernel
theorem dX7_buy_56 : decode cX7_buy 56 = .ok (.dup, 1) := by decide +kernel
theorem dX7_buy_57 : decode cX7_buy 57 = .ok (.ldc_w 343, 3) := by decide +kernel
theorem dX7_buy_60 : decode cX7_buy 60 = .ok (.invokespecial 168, 3) := by decide +kernel
theorem dX7_buy_63 : decode cX7_buy 63 = .ok (.athrow, 1) := by decide +kernel
theorem dX7_buy_64 : decode cX7_buy 64 = .ok (.aload_n 3, 1) := by decide +kernel
theorem dX7_buy_65 : decode cX7_buy 65 = .ok (.dup, 1) := by decide +kernel
theorem dX7_buy_66 : decode cX7_buy 66 = .ok (.getfield 332, 3) := by decide +kernel
theorem dX7_buy_69 : decode cX7_buy 69 = .ok (.iconst 1, 1) := by decide +kernel
theorem dX7_buy_70 : decode cX7_buy 70 = .ok (.iload_n 2, 1) := by decide +kernel
theorem dX7_buy_71 : decode cX7_buy 71 = .ok (.ishl, 1) := by decide +kernel
theorem dX7_buy_72 : decode cX7_buy 72 = .ok (.ior, 1) := by decide +kernel
theorem dX7_buy_73 : decode cX7_buy 73 = .ok (.putfield 332, 3) := by decide +kernel
theorem dX7_buy_76 : decode cX7_buy 76 = .ok (.aload_n 3, 1) := by decide +kernel
theorem dX7_buy_77 : decode cX7_buy 77 = .ok (.getfield 332, 3) := by decide +kernel
theorem dX7_buy_80 : decode cX7_buy 80 = .ok (.invokestatic 345, 3) := by decide +kernel
theorem dX7_buy_83 : decode cX7_buy 83 = .ok (.ireturn, 1) := by decide +kernel
theorem dX7_owns_0 : decode cX7_owns 0 = .ok (.aload_n 0, 1) := by decide +kernel
theorem dX7_owns_1 : decode cX7_owns 1 = .ok (.iload_n 1, 1) := by decide +kernel
theorem dX7_owns_2 : decode cX7_owns 2 = .ok (.invokevirtual 185, 3) := by decide +kernel
theorem dX7_owns_5 : decode cX7_owns 5 = .ok (.astore_n 3, 1) := by decide +kernel
theorem dX7_owns_6 : decode cX7_owns 6 = .ok (.iload_n 2, 1) := by decide +kernel
theorem dX7_owns_7 : decode cX7_owns 7 = .ok (.invokestatic 328, 3) := by decide +kernel
theorem dX7_owns_10 : decode cX7_owns 10 = .ok (.aload_n 3, 1) := by decide +kernel
theorem dX7_owns_11 : decode cX7_owns 11 = .ok (.getfield 332, 3) := by decide +kernel
theorem dX7_owns_14 : decode cX7_owns 14 = .ok (.iload_n 2, 1) := by decide +kernel
theorem dX7_owns_15 : decode cX7_owns 15 = .ok (.invokestatic 335, 3) := by decide +kernel
theorem dX7_owns_18 : decode cX7_owns 18 = .ok (.ireturn, 1) := by decide +kernel
theorem dX7_canUse_0 : decode cX7_canUse 0 = .ok (.aload_n 0, 1) := by decide +kernel
theorem dX7_canUse_1 : decode cX7_canUse 1 = .ok (.iload_n 1, 1) := by decide +kernel
theorem dX7_canUse_2 : decode cX7_canUse 2 = .ok (.invokevirtual 185, 3) := by decide +kernel
theorem dX7_canUse_5 : decode cX7_canUse 5 = .ok (.astore_n 3, 1) := by decide +kernel
theorem dX7_canUse_6 : decode cX7_canUse 6 = .ok (.iload_n 2, 1) := by decide +kernel
theorem dX7_canUse_7 : decode cX7_canUse 7 = .ok (.invokestatic 328, 3) := by decide +kernel
theorem dX7_canUse_10 : decode cX7_canUse 10 = .ok (.aload_n 3, 1) := by decide +kernel
theorem dX7_canUse_11 : decode cX7_canUse 11 = .ok (.invokevirtual 350, 3) := by decide +kernel
theorem dX7_canUse_14 : decode cX7_canUse 14 = .ok (.iload_n 2, 1) := by decide +kernel
theorem dX7_canUse_15 : decode cX7_canUse 15 = .ok (.invokestatic 335, 3) := by decide +kernel
theorem dX7_canUse_18 : decode cX7_canUse 18 = .ok (.ireturn, 1) := by decide +kernel
theorem dX7_usedShare_0 : decode cX7_usedShare 0 = .ok (.iconst 0, 1) := by decide +kernel
theorem dX7_usedShare_1 : decode cX7_usedShare 1 = .ok (.istore_n 1, 1) := by decide +kernel
theorem dX7_usedShare_2 : decode cX7_usedShare 2 = .ok (.iconst 0, 1) := by decide +kernel
theorem dX7_usedShare_3 : decode cX7_usedShare 3 = .ok (.istore_n 2, 1) := by decide +kernel
theorem dX7_usedShare_4 : decode cX7_usedShare 4 = .ok (.iconst 0, 1) := by decide +kernel
theorem dX7_usedShare_5 : decode cX7_usedShare 5 = .ok (.istore_n 3, 1) := by decide +kernel
theorem dX7_usedShare_6 : decode cX7_usedShare 6 = .ok (.iload_n 3, 1) := by decide +kernel
theorem dX7_usedShare_7 : decode cX7_usedShare 7 = .ok (.aload_n 0, 1) := by decide +kernel
theorem dX7_usedShare_8 : decode cX7_usedShare 8 = .ok (.getfield 10, 3) := by decide +kernel
theorem dX7_usedShare_11 : decode cX7_usedShare 11 = .ok (.invokevirtual 74, 3) := by decide +kernel
theorem dX7_usedShare_14 : decode cX7_usedShare 14 = .ok (.if_icmp .ge 44, 3) := by decide +kernel
theorem dX7_usedShare_17 : decode cX7_usedShare 17 = .ok (.aload_n 0, 1) := by decide +kernel
theorem dX7_usedShare_18 : decode cX7_usedShare 18 = .ok (.getfield 10, 3) := by decide +kernel
theorem dX7_usedShare_21 : decode cX7_usedShare 21 = .ok (.iload_n 3, 1) := by decide +kernel
theorem dX7_usedShare_22 : decode cX7_usedShare 22 = .ok (.invokevirtual 178, 3) := by decide +kernel
theorem dX7_usedShare_25 : decode cX7_usedShare 25 = .ok (.checkcast 83, 3) := by decide +kernel
theorem dX7_usedShare_28 : decode cX7_usedShare 28 = .ok (.astore 4, 2) := by decide +kernel
theorem dX7_usedShare_30 : decode cX7_usedShare 30 = .ok (.iload_n 1, 1) := by decide +kernel
theorem dX7_usedShare_31 : decode cX7_usedShare 31 = .ok (.aload 4, 2) := by decide +kernel
theorem dX7_usedShare_33 : decode cX7_usedShare 33 = .ok (.getfield 332, 3) := by decide +kernel
theorem dX7_usedShare_36 : decode cX7_usedShare 36 = .ok (.invokestatic 345, 3) := by decide +kernel
theorem dX7_usedShare_39 : decode cX7_usedShare 39 = .ok (.iadd, 1) := by decide +kernel
theorem dX7_usedShare_40 : decode cX7_usedShare 40 = .ok (.istore_n 1, 1) := by decide +kernel
theorem dX7_usedShare_41 : decode cX7_usedShare 41 = .ok (.iload_n 2, 1) := by decide +kernel
theorem dX7_usedShare_42 : decode cX7_usedShare 42 = .ok (.aload 4, 2) := by decide +kernel
theorem dX7_usedShare_44 : decode cX7_usedShare 44 = .ok (.invokevirtual 350, 3) := by decide +kernel
theorem dX7_usedShare_47 : decode cX7_usedShare 47 = .ok (.invokestatic 345, 3) := by decide +kernel
theorem dX7_usedShare_50 : decode cX7_usedShare 50 = .ok (.iadd, 1) := by decide +kernel
theorem dX7_usedShare_51 : decode cX7_usedShare 51 = .ok (.istore_n 2, 1) := by decide +kernel
theorem dX7_usedShare_52 : decode cX7_usedShare 52 = .ok (.iinc 3 1, 3) := by decide +kernel
theorem dX7_usedShare_55 : decode cX7_usedShare 55 = .ok (.goto (-49), 3) := by decide +kernel
theorem dX7_usedShare_58 : decode cX7_usedShare 58 = .ok (.iload_n 1, 1) := by decide +kernel
theorem dX7_usedShare_59 : decode cX7_usedShare 59 = .ok (.ifCond .ne 14, 3) := by decide +kernel
theorem dX7_usedShare_62 : decode cX7_usedShare 62 = .ok (.new 353, 3) := by decide +kernel
theorem dX7_usedShare_65 : decode cX7_usedShare 65 = .ok (.dup, 1) := by decide +kernel
theorem dX7_usedShare_66 : decode cX7_usedShare 66 = .ok (.ldc_w 355, 3) := by decide +kernel
theorem dX7_usedShare_69 : decode cX7_usedShare 69 = .ok (.invokespecial 357, 3) := by decide +kernel
theorem dX7_usedShare_72 : decode cX7_usedShare 72 = .ok (.athrow, 1) := by decide +kernel
theorem dX7_usedShare_73 : decode cX7_usedShare 73 = .ok (.iload_n 2, 1) := by decide +kernel
theorem dX7_usedShare_74 : decode cX7_usedShare 74 = .ok (.i2f, 1) := by decide +kernel
theorem dX7_usedShare_75 : decode cX7_usedShare 75 = .ok (.iload_n 1, 1) := by decide +kernel
theorem dX7_usedShare_76 : decode cX7_usedShare 76 = .ok (.i2f, 1) := by decide +kernel
theorem dX7_usedShare_77 : decode cX7_usedShare 77 = .ok (.fdiv, 1) := by decide +kernel
theorem dX7_usedShare_78 : decode cX7_usedShare 78 = .ok (.freturn, 1) := by decide +kernel
theorem dX7_writeBuild_0 : decode cX7_writeBuild 0 = .ok (.aload_n 0, 1) := by decide +kernel
theorem dX7_writeBuild_1 : decode cX7_writeBuild 1 = .ok (.iload_n 1, 1) := by decide +kernel
theorem dX7_writeBuild_2 : decode cX7_writeBuild 2 = .ok (.invokevirtual 115, 3) := by decide +kernel
theorem dX7_writeBuild_5 : decode cX7_writeBuild 5 = .ok (.astore_n 2, 1) := by decide +kernel
theorem dX7_writeBuild_6 : decode cX7_writeBuild 6 = .ok (.aload_n 0, 1) := by decide +kernel
theorem dX7_writeBuild_7 : decode cX7_writeBuild 7 = .ok (.getfield 38, 3) := by decide +kernel
theorem dX7_writeBuild_10 : decode cX7_writeBuild 10 = .ok (.iconst 0, 1) := by decide +kernel
theorem dX7_writeBuild_11 : decode cX7_writeBuild 11 = .ok (.invokevirtual 358, 3) := by decide +kernel
theorem dX7_writeBuild_14 : decode cX7_writeBuild 14 = .ok (.aload_n 0, 1) := by decide +kernel
theorem dX7_writeBuild_15 : decode cX7_writeBuild 15 = .ok (.getfield 38, 3) := by decide +kernel
theorem dX7_writeBuild_18 : decode cX7_writeBuild 18 = .ok (.bipush 118, 2) := by decide +kernel
theorem dX7_writeBuild_20 : decode cX7_writeBuild 20 = .ok (.invokevirtual 361, 3) := by decide +kernel
theorem dX7_writeBuild_23 : decode cX7_writeBuild 23 = .ok (.pop, 1) := by decide +kernel
theorem dX7_writeBuild_24 : decode cX7_writeBuild 24 = .ok (.aload_n 0, 1) := by decide +kernel
theorem dX7_writeBuild_25 : decode cX7_writeBuild 25 = .ok (.getfield 38, 3) := by decide +kernel
theorem dX7_writeBuild_28 : decode cX7_writeBuild 28 = .ok (.aload_n 2, 1) := by decide +kernel
theorem dX7_writeBuild_29 : decode cX7_writeBuild 29 = .ok (.getfield 364, 3) := by decide +kernel
theorem dX7_writeBuild_32 : decode cX7_writeBuild 32 = .ok (.invokevirtual 367, 3) := by decide +kernel
theorem dX7_writeBuild_35 : decode cX7_writeBuild 35 = .ok (.pop, 1) := by decide +kernel
theorem dX7_writeBuild_36 : decode cX7_writeBuild 36 = .ok (.aload_n 0, 1) := by decide +kernel
theorem dX7_writeBuild_37 : decode cX7_writeBuild 37 = .ok (.getfield 38, 3) := by decide +kernel
theorem dX7_writeBuild_40 : decode cX7_writeBuild 40 = .ok (.aload_n 2, 1) := by decide +kernel
theorem dX7_writeBuild_41 : decode cX7_writeBuild 41 = .ok (.invokevirtual 370, 3) := by decide +kernel
theorem dX7_writeBuild_44 : decode cX7_writeBuild 44 = .ok (.ifCond .eq 9, 3) := by decide +kernel
theorem dX7_writeBuild_47 : decode cX7_writeBuild 47 = .ok (.ldc_w 373, 3) := by decide +kernel
theorem dX7_writeBuild_50 : decode cX7_writeBuild 50 = .ok (.goto 6, 3) := by decide +kernel
theorem dX7_writeBuild_53 : decode cX7_writeBuild 53 = .ok (.ldc_w 375, 3) := by decide +kernel
theorem dX7_writeBuild_56 : decode cX7_writeBuild 56 = .ok (.invokevirtual 377, 3) := by decide +kernel
theorem dX7_writeBuild_59 : decode cX7_writeBuild 59 = .ok (.pop, 1) := by decide +kernel
theorem dX7_writeBuild_60 : decode cX7_writeBuild 60 = .ok (.aload_n 0, 1) := by decide +kernel
theorem dX7_writeBuild_61 : decode cX7_writeBuild 61 = .ok (.getfield 38, 3) := by decide +kernel
theorem dX7_writeBuild_64 : decode cX7_writeBuild 64 = .ok (.aload_n 0, 1) := by decide +kernel
theorem dX7_writeBuild_65 : decode cX7_writeBuild 65 = .ok (.aload_n 2, 1) := by decide +kernel
theorem dX7_writeBuild_66 : decode cX7_writeBuild 66 = .ok (.invokevirtual 380, 3) := by decide +kernel
theorem dX7_writeBuild_69 : decode cX7_writeBuild 69 = .ok (.invokevirtual 377, 3) := by decide +kernel
theorem dX7_writeBuild_72 : decode cX7_writeBuild 72 = .ok (.pop, 1) := by decide +kernel
theorem dX7_writeBuild_73 : decode cX7_writeBuild 73 = .ok (.aload_n 0, 1) := by decide +kernel
theorem dX7_writeBuild_74 : decode cX7_writeBuild 74 = .ok (.getfield 38, 3) := by decide +kernel
theorem dX7_writeBuild_77 : decode cX7_writeBuild 77 = .ok (.invokevirtual 384, 3) := by decide +kernel
theorem dX7_writeBuild_80 : decode cX7_writeBuild 80 = .ok (.ireturn, 1) := by decide +kernel
theorem dX7_lineAt_0 : decode cX7_lineAt 0 = .ok (.iload_n 1, 1) := by decide +kernel
theorem dX7_lineAt_1 : decode cX7_lineAt 1 = .ok (.iconst 0, 1) := by decide +kernel
theorem dX7_lineAt_2 : decode cX7_lineAt 2 = .ok (.aload_n 0, 1) := by decide +kernel
theorem dX7_lineAt_3 : decode cX7_lineAt 3 = .ok (.getfield 38, 3) := by decide +kernel
theorem dX7_lineAt_6 : decode cX7_lineAt 6 = .ok (.invokevirtual 384, 3) := by decide +kernel
theorem dX7_lineAt_9 : decode cX7_lineAt 9 = .ok (.iconst 1, 1) := by decide +kernel
theorem dX7_lineAt_10 : decode cX7_lineAt 10 = .ok (.isub, 1) := by decide +kernel
theorem dX7_lineAt_11 : decode cX7_lineAt 11 = .ok (.invokestatic 63, 3) := by decide +kernel
theorem dX7_lineAt_14 : decode cX7_lineAt 14 = .ok (.ifCond .eq 14, 3) := by decide +kernel
theorem dX7_lineAt_17 : decode cX7_lineAt 17 = .ok (.new 281, 3) := by decide +kernel
theorem dX7_lineAt_20 : decode cX7_lineAt 20 = .ok (.dup, 1) := by decide +kernel
theorem dX7_lineAt_21 : decode cX7_lineAt 21 = .ok (.ldc_w 386, 3) := by decide +kernel
theorem dX7_lineAt_24 : decode cX7_lineAt 24 = .ok (.invokespecial 285, 3) := by decide +kernel
theorem dX7_lineAt_27 : decode cX7_lineAt 27 = .ok (.athrow, 1) := by decide +kernel
theorem dX7_lineAt_28 : decode cX7_lineAt 28 = .ok (.aload_n 0, 1) := by decide +kernel
theorem dX7_lineAt_29 : decode cX7_lineAt 29 = .ok (.getfield 38, 3) := by decide +kernel
theorem dX7_lineAt_32 : decode cX7_lineAt 32 = .ok (.iload_n 1, 1) := by decide +kernel
theorem dX7_lineAt_33 : decode cX7_lineAt 33 = .ok (.invokevirtual 388, 3) := by decide +kernel
theorem dX7_lineAt_36 : decode cX7_lineAt 36 = .ok (.ireturn, 1) := by decide +kernel
theorem dX7_outside_0 : decode cX7_outside 0 = .ok (.iload_n 0, 1) := by decide +kernel
theorem dX7_outside_1 : decode cX7_outside 1 = .ok (.iload_n 1, 1) := by decide +kernel
theorem dX7_outside_2 : decode cX7_outside 2 = .ok (.if_icmp .lt 8, 3) := by decide +kernel
theorem dX7_outside_5 : decode cX7_outside 5 = .ok (.iload_n 0, 1) := by decide +kernel
theorem dX7_outside_6 : decode cX7_outside 6 = .ok (.iload_n 2, 1) := by decide +kernel
theorem dX7_outside_7 : decode cX7_outside 7 = .ok (.if_icmp .le 7, 3) := by decide +kernel
theorem dX7_outside_10 : decode cX7_outside 10 = .ok (.iconst 1, 1) := by decide +kernel
theorem dX7_outside_11 : decode cX7_outside 11 = .ok (.goto 4, 3) := by decide +kernel
theorem dX7_outside_14 : decode cX7_outside 14 = .ok (.iconst 0, 1) := by decide +kernel
theorem dX7_outside_15 : decode cX7_outside 15 = .ok (.ireturn, 1) := by decide +kernel
theorem dX7_isIn_0 : decode cX7_isIn 0 = .ok (.iload_n 0, 1) := by decide +kernel
theorem dX7_isIn_1 : decode cX7_isIn 1 = .ok (.iload_n 1, 1) := by decide +kernel
theorem dX7_isIn_2 : decode cX7_isIn 2 = .ok (.ishr, 1) := by decide +kernel
theorem dX7_isIn_3 : decode cX7_isIn 3 = .ok (.iconst 1, 1) := by decide +kernel
theorem dX7_isIn_4 : decode cX7_isIn 4 = .ok (.iand, 1) := by decide +kernel
theorem dX7_isIn_5 : decode cX7_isIn 5 = .ok (.iconst 1, 1) := by decide +kernel
theorem dX7_isIn_6 : decode cX7_isIn 6 = .ok (.if_icmp .ne 7, 3) := by decide +kernel
theorem dX7_isIn_9 : decode cX7_isIn 9 = .ok (.iconst 1, 1) := by decide +kernel
theorem dX7_isIn_10 : decode cX7_isIn 10 = .ok (.goto 4, 3) := by decide +kernel
theorem dX7_isIn_13 : decode cX7_isIn 13 = .ok (.iconst 0, 1) := by decide +kernel
theorem dX7_isIn_14 : decode cX7_isIn 14 = .ok (.ireturn, 1) := by decide +kernel
theorem dX7_knownDevice_0 : decode cX7_knownDevice 0 = .ok (.iload_n 1, 1) := by decide +kernel
theorem dX7_knownDevice_1 : decode cX7_knownDevice 1 = .ok (.iconst 0, 1) := by decide +kernel
theorem dX7_knownDevice_2 : decode cX7_knownDevice 2 = .ok (.aload_n 0, 1) := by decide +kernel
theorem dX7_knownDevice_3 : decode cX7_knownDevice 3 = .ok (.getfield 10, 3) := by decide +kernel
theorem dX7_knownDevice_6 : decode cX7_knownDevice 6 = .ok (.invokevirtual 74, 3) := by decide +kernel
theorem dX7_knownDevice_9 : decode cX7_knownDevice 9 = .ok (.iconst 1, 1) := by decide +kernel
theorem dX7_knownDevice_10 : decode cX7_knownDevice 10 = .ok (.isub, 1) := by decide +kernel
theorem dX7_knownDevice_11 : decode cX7_knownDevice 11 = .ok (.invokestatic 63, 3) := by decide +kernel
theorem dX7_knownDevice_14 : decode cX7_knownDevice 14 = .ok (.ifCond .eq 14, 3) := by decide +kernel
theorem dX7_knownDevice_17 : decode cX7_knownDevice 17 = .ok (.new 392, 3) := by decide +kernel
theorem dX7_knownDevice_20 : decode cX7_knownDevice 20 = .ok (.dup, 1) := by decide +kernel
theorem dX7_knownDevice_21 : decode cX7_knownDevice 21 = .ok (.ldc_w 394, 3) := by decide +kernel
theorem dX7_knownDevice_24 : decode cX7_knownDevice 24 = .ok (.invokespecial 396, 3) := by decide +kernel
theorem dX7_knownDevice_27 : decode cX7_knownDevice 27 = .ok (.athrow, 1) := by decide +kernel
theorem dX7_knownDevice_28 : decode cX7_knownDevice 28 = .ok (.aload_n 0, 1) := by decide +kernel
theorem dX7_knownDevice_29 : decode cX7_knownDevice 29 = .ok (.getfield 10, 3) := by decide +kernel
theorem dX7_knownDevice_32 : decode cX7_knownDevice 32 = .ok (.iload_n 1, 1) := by decide +kernel
theorem dX7_knownDevice_33 : decode cX7_knownDevice 33 = .ok (.invokevirtual 178, 3) := by decide +kernel
theorem dX7_knownDevice_36 : decode cX7_knownDevice 36 = .ok (.checkcast 83, 3) := by decide +kernel
theorem dX7_knownDevice_39 : decode cX7_knownDevice 39 = .ok (.areturn, 1) := by decide +kernel
theorem dX7_knownBuild_0 : decode cX7_knownBuild 0 = .ok (.iload_n 1, 1) := by decide +kernel
theorem dX7_knownBuild_1 : decode cX7_knownBuild 1 = .ok (.iconst 0, 1) := by decide +kernel
theorem dX7_knownBuild_2 : decode cX7_knownBuild 2 = .ok (.aload_n 0, 1) := by decide +kernel
theorem dX7_knownBuild_3 : decode cX7_knownBuild 3 = .ok (.getfield 19, 3) := by decide +kernel
theorem dX7_knownBuild_6 : decode cX7_knownBuild 6 = .ok (.invokevirtual 74, 3) := by decide +kernel
theorem dX7_knownBuild_9 : decode cX7_knownBuild 9 = .ok (.iconst 1, 1) := by decide +kernel
theorem dX7_knownBuild_10 : decode cX7_knownBuild 10 = .ok (.isub, 1) := by decide +kernel
theorem dX7_knownBuild_11 : decode cX7_knownBuild 11 = .ok (.invokestatic 63, 3) := by decide +kernel
theorem dX7_knownBuild_14 : decode cX7_knownBuild 14 = .ok (.ifCond .eq 14, 3) := by decide +kernel
theorem dX7_knownBuild_17 : decode cX7_knownBuild 17 = .ok (.new 392, 3) := by decide +kernel
theorem dX7_knownBuild_20 : decode cX7_knownBuild 20 = .ok (.dup, 1) := by decide +kernel
theorem dX7_knownBuild_21 : decode cX7_knownBuild 21 = .ok (.ldc_w 397, 3) := by decide +kernel
theorem dX7_knownBuild_24 : decode cX7_knownBuild 24 = .ok (.invokespecial 396, 3) := by decide +kernel
theorem dX7_knownBuild_27 : decode cX7_knownBuild 27 = .ok (.athrow, 1) := by decide +kernel
theorem dX7_knownBuild_28 : decode cX7_knownBuild 28 = .ok (.aload_n 0, 1) := by decide +kernel
theorem dX7_knownBuild_29 : decode cX7_knownBuild 29 = .ok (.getfield 19, 3) := by decide +kernel
theorem dX7_knownBuild_32 : decode cX7_knownBuild 32 = .ok (.iload_n 1, 1) := by decide +kernel
theorem dX7_knownBuild_33 : decode cX7_knownBuild 33 = .ok (.invokevirtual 178, 3) := by decide +kernel
theorem dX7_knownBuild_36 : decode cX7_knownBuild 36 = .ok (.checkcast 120, 3) := by decide +kernel
theorem dX7_knownBuild_39 : decode cX7_knownBuild 39 = .ok (.areturn, 1) := by decide +kernel
theorem dX7_knownGroup_0 : decode cX7_knownGroup 0 = .ok (.iload_n 1, 1) := by decide +kernel
theorem dX7_knownGroup_1 : decode cX7_knownGroup 1 = .ok (.iconst 0, 1) := by decide +kernel
theorem dX7_knownGroup_2 : decode cX7_knownGroup 2 = .ok (.aload_n 0, 1) := by decide +kernel
theorem dX7_knownGroup_3 : decode cX7_knownGroup 3 = .ok (.getfield 22, 3) := by decide +kernel
theorem dX7_knownGroup_6 : decode cX7_knownGroup 6 = .ok (.invokevirtual 74, 3) := by decide +kernel
theorem dX7_knownGroup_9 : decode cX7_knownGroup 9 = .ok (.iconst 1, 1) := by decide +kernel
theorem dX7_knownGroup_10 : decode cX7_knownGroup 10 = .ok (.isub, 1) := by decide +kernel
theorem dX7_knownGroup_11 : decode cX7_knownGroup 11 = .ok (.invokestatic 63, 3) := by decide +kernel
theorem dX7_knownGroup_14 : decode cX7_knownGroup 14 = .ok (.ifCond .eq 14, 3) := by decide +kernel
theorem dX7_knownGroup_17 : decode cX7_knownGroup 17 = .ok (.new 392, 3) := by decide +kernel
theorem dX7_knownGroup_20 : decode cX7_knownGroup 20 = .ok (.dup, 1) := by decide +kernel
theorem dX7_knownGroup_21 : decode cX7_knownGroup 21 = .ok (.ldc_w 399, 3) := by decide +kernel
theorem dX7_knownGroup_24 : decode cX7_knownGroup 24 = .ok (.invokespecial 396, 3) := by decide +kernel
theorem dX7_knownGroup_27 : decode cX7_knownGroup 27 = .ok (.athrow, 1) := by decide +kernel
theorem dX7_knownGroup_28 : decode cX7_knownGroup 28 = .ok (.aload_n 0, 1) := by decide +kernel
theorem dX7_knownGroup_29 : decode cX7_knownGroup 29 = .ok (.getfield 22, 3) := by decide +kernel
theorem dX7_knownGroup_32 : decode cX7_knownGroup 32 = .ok (.iload_n 1, 1) := by decide +kernel
theorem dX7_knownGroup_33 : decode cX7_knownGroup 33 = .ok (.invokevirtual 178, 3) := by decide +kernel
theorem dX7_knownGroup_36 : decode cX7_knownGroup 36 = .ok (.checkcast 265, 3) := by decide +kernel
theorem dX7_knownGroup_39 : decode cX7_knownGroup 39 = .ok (.areturn, 1) := by decide +kernel
theorem dX7_ratedBuild_0 : decode cX7_ratedBuild 0 = .ok (.aload_n 0, 1) := by decide +kernel
theorem dX7_ratedBuild_1 : decode cX7_ratedBuild 1 = .ok (.iload_n 1, 1) := by decide +kernel
theorem dX7_ratedBuild_2 : decode cX7_ratedBuild 2 = .ok (.invokevirtual 115, 3) := by decide +kernel
theorem dX7_ratedBuild_5 : decode cX7_ratedBuild 5 = .ok (.astore_n 2, 1) := by decide +kernel
theorem dX7_ratedBuild_6 : decode cX7_ratedBuild 6 = .ok (.aload_n 2, 1) := by decide +kernel
theorem dX7_ratedBuild_7 : decode cX7_ratedBuild 7 = .ok (.getfield 314, 3) := by decide +kernel
theorem dX7_ratedBuild_10 : decode cX7_ratedBuild 10 = .ok (.ifCond .ne 14, 3) := by decide +kernel
theorem dX7_ratedBuild_13 : decode cX7_ratedBuild 13 = .ok (.new 353, 3) := by decide +kernel
theorem dX7_ratedBuild_16 : decode cX7_ratedBuild 16 = .ok (.dup, 1) := by decide +kernel
theorem dX7_ratedBuild_17 : decode cX7_ratedBuild 17 = .ok (.ldc_w 401, 3) := by decide +kernel
theorem dX7_ratedBuild_20 : decode cX7_ratedBuild 20 = .ok (.invokespecial 357, 3) := by decide +kernel
theorem dX7_ratedBuild_23 : decode cX7_ratedBuild 23 = .ok (.athrow, 1) := by decide +kernel
theorem dX7_ratedBuild_24 : decode cX7_ratedBuild 24 = .ok (.aload_n 2, 1) := by decide +kernel
theorem dX7_ratedBuild_25 : decode cX7_ratedBuild 25 = .ok (.areturn, 1) := by decide +kernel
theorem dX7_buildHadBy_0 : decode cX7_buildHadBy 0 = .ok (.aload_n 0, 1) := by decide +kernel
theorem dX7_buildHadBy_1 : decode cX7_buildHadBy 1 = .ok (.getfield 225, 3) := by decide +kernel
theorem dX7_buildHadBy_4 : decode cX7_buildHadBy 4 = .ok (.astore_n 1, 1) := by decide +kernel
theorem dX7_buildHadBy_5 : decode cX7_buildHadBy 5 = .ok (.aload_n 1, 1) := by decide +kernel
theorem dX7_buildHadBy_6 : decode cX7_buildHadBy 6 = .ok (.ifnonnull 14, 3) := by decide +kernel
theorem dX7_buildHadBy_9 : decode cX7_buildHadBy 9 = .ok (.new 78, 3) := by decide +kernel
theorem dX7_buildHadBy_12 : decode cX7_buildHadBy 12 = .ok (.dup, 1) := by decide +kernel
theorem dX7_buildHadBy_13 : decode cX7_buildHadBy 13 = .ok (.ldc_w 403, 3) := by decide +kernel
theorem dX7_buildHadBy_16 : decode cX7_buildHadBy 16 = .ok (.invokespecial 82, 3) := by decide +kernel
theorem dX7_buildHadBy_19 : decode cX7_buildHadBy 19 = .ok (.athrow, 1) := by decide +kernel
theorem dX7_buildHadBy_20 : decode cX7_buildHadBy 20 = .ok (.aload_n 1, 1) := by decide +kernel
theorem dX7_buildHadBy_21 : decode cX7_buildHadBy 21 = .ok (.areturn, 1) := by decide +kernel
theorem dX7_refuseUnknownItem_0 : decode cX7_refuseUnknownItem 0 = .ok (.iload_n 0, 1) := by decide +kernel
theorem dX7_refuseUnknownItem_1 : decode cX7_refuseUnknownItem 1 = .ok (.iconst 0, 1) := by decide +kernel
theorem dX7_refuseUnknownItem_2 : decode cX7_refuseUnknownItem 2 = .ok (.bipush 7, 2) := by decide +kernel
theorem dX7_refuseUnknownItem_4 : decode cX7_refuseUnknownItem 4 = .ok (.invokestatic 63, 3) := by decide +kernel
theorem dX7_refuseUnknownItem_7 : decode cX7_refuseUnknownItem 7 = .ok (.ifCond .eq 14, 3) := by decide +kernel
theorem dX7_refuseUnknownItem_10 : decode cX7_refuseUnknownItem 10 = .ok (.new 67, 3) := by decide +kernel
theorem dX7_refuseUnknownItem_13 : decode cX7_refuseUnknownItem 13 = .ok (.dup, 1) := by decide +kernel
theorem dX7_refuseUnknownItem_14 : decode cX7_refuseUnknownItem 14 = .ok (.ldc_w 405, 3) := by decide +kernel
theorem dX7_refuseUnknownItem_17 : decode cX7_refuseUnknownItem 17 = .ok (.invokespecial 71, 3) := by decide +kernel
theorem dX7_refuseUnknownItem_20 : decode cX7_refuseUnknownItem 20 = .ok (.athrow, 1) := by decide +kernel
theorem dX7_refuseUnknownItem_21 : decode cX7_refuseUnknownItem 21 = .ok (.return_, 1) := by decide +kernel
theorem dX7_kindFor_0 : decode cX7_kindFor 0 = .ok (.iconst 0, 1) := by decide +kernel
theorem dX7_kindFor_1 : decode cX7_kindFor 1 = .ok (.istore_n 3, 1) := by decide +kernel
theorem dX7_kindFor_2 : decode cX7_kindFor 2 = .ok (.iload_n 3, 1) := by decide +kernel
theorem dX7_kindFor_3 : decode cX7_kindFor 3 = .ok (.aload_n 0, 1) := by decide +kernel
theorem dX7_kindFor_4 : decode cX7_kindFor 4 = .ok (.getfield 16, 3) := by decide +kernel
theorem dX7_kindFor_7 : decode cX7_kindFor 7 = .ok (.invokevirtual 74, 3) := by decide +kernel
theorem dX7_kindFor_10 : decode cX7_kindFor 10 = .ok (.if_icmp .ge 43, 3) := by decide +kernel
theorem dX7_kindFor_13 : decode cX7_kindFor 13 = .ok (.aload_n 0, 1) := by decide +kernel
theorem dX7_kindFor_14 : decode cX7_kindFor 14 = .ok (.getfield 16, 3) := by decide +kernel
theorem dX7_kindFor_17 : decode cX7_kindFor 17 = .ok (.iload_n 3, 1) := by decide +kernel
theorem dX7_kindFor_18 : decode cX7_kindFor 18 = .ok (.invokevirtual 178, 3) := by decide +kernel
theorem dX7_kindFor_21 : decode cX7_kindFor 21 = .ok (.checkcast 97, 3) := by decide +kernel
theorem dX7_kindFor_24 : decode cX7_kindFor 24 = .ok (.astore 4, 2) := by decide +kernel
theorem dX7_kindFor_26 : decode cX7_kindFor 26 = .ok (.aload 4, 2) := by decide +kernel
theorem dX7_kindFor_28 : decode cX7_kindFor 28 = .ok (.getfield 197, 3) := by decide +kernel
theorem dX7_kindFor_31 : decode cX7_kindFor 31 = .ok (.iload_n 1, 1) := by decide +kernel
theorem dX7_kindFor_32 : decode cX7_kindFor 32 = .ok (.if_icmp .ne 15, 3) := by decide +kernel
theorem dX7_kindFor_35 : decode cX7_kindFor 35 = .ok (.aload 4, 2) := by decide +kernel
theorem dX7_kindFor_37 : decode cX7_kindFor 37 = .ok (.getfield 200, 3) := by decide +kernel
theorem dX7_kindFor_40 : decode cX7_kindFor 40 = .ok (.iload_n 2, 1) := by decide +kernel
theorem dX7_kindFor_41 : decode cX7_kindFor 41 = .ok (.if_icmp .ne 6, 3) := by decide +kernel
theorem dX7_kindFor_44 : decode cX7_kindFor 44 = .ok (.aload 4, 2) := by decide +kernel
theorem dX7_kindFor_46 : decode cX7_kindFor 46 = .ok (.areturn, 1) := by decide +kernel
theorem dX7_kindFor_47 : decode cX7_kindFor 47 = .ok (.iinc 3 1, 3) := by decide +kernel
theorem dX7_kindFor_50 : decode cX7_kindFor 50 = .ok (.goto (-48), 3) := by decide +kernel
theorem dX7_kindFor_53 : decode cX7_kindFor 53 = .ok (.new 97, 3) := by decide +kernel
theorem dX7_kindFor_56 : decode cX7_kindFor 56 = .ok (.dup, 1) := by decide +kernel
theorem dX7_kindFor_57 : decode cX7_kindFor 57 = .ok (.iload_n 1, 1) := by decide +kernel
theorem dX7_kindFor_58 : decode cX7_kindFor 58 = .ok (.iload_n 2, 1) := by decide +kernel
theorem dX7_kindFor_59 : decode cX7_kindFor 59 = .ok (.invokespecial 407, 3) := by decide +kernel
theorem dX7_kindFor_62 : decode cX7_kindFor 62 = .ok (.astore_n 3, 1) := by decide +kernel
theorem dX7_kindFor_63 : decode cX7_kindFor 63 = .ok (.aload_n 0, 1) := by decide +kernel
theorem dX7_kindFor_64 : decode cX7_kindFor 64 = .ok (.getfield 16, 3) := by decide +kernel
theorem dX7_kindFor_67 : decode cX7_kindFor 67 = .ok (.aload_n 3, 1) := by decide +kernel
theorem dX7_kindFor_68 : decode cX7_kindFor 68 = .ok (.invokevirtual 88, 3) := by decide +kernel
theorem dX7_kindFor_71 : decode cX7_kindFor 71 = .ok (.pop, 1) := by decide +kernel
theorem dX7_kindFor_72 : decode cX7_kindFor 72 = .ok (.aload_n 3, 1) := by decide +kernel
theorem dX7_kindFor_73 : decode cX7_kindFor 73 = .ok (.areturn, 1) := by decide +kernel
theorem dX7_addDraft_0 : decode cX7_addDraft 0 = .ok (.iload_n 1, 1) := by decide +kernel
theorem dX7_addDraft_1 : decode cX7_addDraft 1 = .ok (.iconst 1, 1) := by decide +kernel
theorem dX7_addDraft_2 : decode cX7_addDraft 2 = .ok (.sipush 999, 3) := by decide +kernel
theorem dX7_addDraft_5 : decode cX7_addDraft 5 = .ok (.invokestatic 63, 3) := by decide +kernel
theorem dX7_addDraft_8 : decode cX7_addDraft 8 = .ok (.ifCond .ne 25, 3) := by decide +kernel
theorem dX7_addDraft_11 : decode cX7_addDraft 11 = .ok (.iload_n 3, 1) := by decide +kernel
theorem dX7_addDraft_12 : decode cX7_addDraft 12 = .ok (.iconst 1, 1) := by decide +kernel
theorem dX7_addDraft_13 : decode cX7_addDraft 13 = .ok (.sipush 500, 3) := by decide +kernel
theorem dX7_addDraft_16 : decode cX7_addDraft 16 = .ok (.invokestatic 63, 3) := by decide +kernel
theorem dX7_addDraft_19 : decode cX7_addDraft 19 = .ok (.ifCond .ne 14, 3) := by decide +kernel
theorem dX7_addDraft_22 : decode cX7_addDraft 22 = .ok (.iload 4, 2) := by decide +kernel
theorem dX7_addDraft_24 : decode cX7_addDraft 24 = .ok (.iconst 0, 1) := by decide +kernel
theorem dX7_addDraft_25 : decode cX7_addDraft 25 = .ok (.bipush 15, 2) := by decide +kernel
theorem dX7_addDraft_27 : decode cX7_addDraft 27 = .ok (.invokestatic 63, 3) := by decide +kernel
theorem dX7_addDraft_30 : decode cX7_addDraft 30 = .ok (.ifCond .eq 13, 3) := by decide +kernel
theorem dX7_addDraft_33 : decode cX7_addDraft 33 = .ok (.new 67, 3) := by decide +kernel
theorem dX7_addDraft_36 : decode cX7_addDraft 36 = .ok (.dup, 1) := by decide +kernel
theorem dX7_addDraft_37 : decode cX7_addDraft 37 = .ok (.ldc 69, 2) := by decide +kernel
theorem dX7_addDraft_39 : decode cX7_addDraft 39 = .ok (.invokespecial 71, 3) := by decide +kernel
theorem dX7_addDraft_42 : decode cX7_addDraft 42 = .ok (.athrow, 1) := by decide +kernel
theorem dX7_addDraft_43 : decode cX7_addDraft 43 = .ok (.aload_n 0, 1) := by decide +kernel
theorem dX7_addDraft_44 : decode cX7_addDraft 44 = .ok (.iload_n 1, 1) := by decide +kernel
theorem dX7_addDraft_45 : decode cX7_addDraft 45 = .ok (.invokevirtual 409, 3) := by decide +kernel
theorem dX7_addDraft_48 : decode cX7_addDraft 48 = .ok (.ifCond .ne 15, 3) := by decide +kernel
theorem dX7_addDraft_51 : decode cX7_addDraft 51 = .ok (.aload_n 0, 1) := by decide +kernel
theorem dX7_addDraft_52 : decode cX7_addDraft 52 = .ok (.getfield 19, 3) := by decide +kernel
theorem dX7_addDraft_55 : decode cX7_addDraft 55 = .ok (.invokevirtual 74, 3) := by decide +kernel
theorem dX7_addDraft_58 : decode cX7_addDraft 58 = .ok (.bipush 10, 2) := by decide +kernel
theorem dX7_addDraft_60 : decode cX7_addDraft 60 = .ok (.if_icmp .lt 14, 3) := by decide +kernel
theorem dX7_addDraft_63 : decode cX7_addDraft 63 = .ok (.new 78, 3) := by decide +kernel
theorem dX7_addDraft_66 : decode cX7_addDraft 66 = .ok (.dup, 1) := by decide +kernel
theorem dX7_addDraft_67 : decode cX7_addDraft 67 = .ok (.ldc_w 413, 3) := by decide +kernel
theorem dX7_addDraft_70 : decode cX7_addDraft 70 = .ok (.invokespecial 82, 3) := by decide +kernel
theorem dX7_addDraft_73 : decode cX7_addDraft 73 = .ok (.athrow, 1) := by decide +kernel
theorem dX7_addDraft_74 : decode cX7_addDraft 74 = .ok (.new 120, 3) := by decide +kernel
theorem dX7_addDraft_77 : decode cX7_addDraft 77 = .ok (.dup, 1) := by decide +kernel
theorem dX7_addDraft_78 : decode cX7_addDraft 78 = .ok (.aload_n 0, 1) := by decide +kernel
theorem dX7_addDraft_79 : decode cX7_addDraft 79 = .ok (.getfield 19, 3) := by decide +kernel
theorem dX7_addDraft_82 : decode cX7_addDraft 82 = .ok (.invokevirtual 74, 3) := by decide +kernel
theorem dX7_addDraft_85 : decode cX7_addDraft 85 = .ok (.iload_n 1, 1) := by decide +kernel
theorem dX7_addDraft_86 : decode cX7_addDraft 86 = .ok (.aload_n 2, 1) := by decide +kernel
theorem dX7_addDraft_87 : decode cX7_addDraft 87 = .ok (.iload_n 3, 1) := by decide +kernel
theorem dX7_addDraft_88 : decode cX7_addDraft 88 = .ok (.iload 4, 2) := by decide +kernel
theorem dX7_addDraft_90 : decode cX7_addDraft 90 = .ok (.aload 5, 2) := by decide +kernel
theorem dX7_addDraft_92 : decode cX7_addDraft 92 = .ok (.invokespecial 415, 3) := by decide +kernel
theorem dX7_addDraft_95 : decode cX7_addDraft 95 = .ok (.astore 6, 2) := by decide +kernel
theorem dX7_addDraft_97 : decode cX7_addDraft 97 = .ok (.aload_n 0, 1) := by decide +kernel
theorem dX7_addDraft_98 : decode cX7_addDraft 98 = .ok (.getfield 19, 3) := by decide +kernel
theorem dX7_addDraft_101 : decode cX7_addDraft 101 = .ok (.aload 6, 2) := by decide +kernel
theorem dX7_addDraft_103 : decode cX7_addDraft 103 = .ok (.invokevirtual 88, 3) := by decide +kernel
theorem dX7_addDraft_106 : decode cX7_addDraft 106 = .ok (.pop, 1) := by decide +kernel
theorem dX7_addDraft_107 : decode cX7_addDraft 107 = .ok (.aload 6, 2) := by decide +kernel
theorem dX7_addDraft_109 : decode cX7_addDraft 109 = .ok (.getfield 142, 3) := by decide +kernel
theorem dX7_addDraft_112 : decode cX7_addDraft 112 = .ok (.ireturn, 1) := by decide +kernel
theorem dX7_hasVersion_0 : decode cX7_hasVersion 0 = .ok (.iconst 0, 1) := by decide +kernel
theorem dX7_hasVersion_1 : decode cX7_hasVersion 1 = .ok (.istore_n 2, 1) := by decide +kernel
theorem dX7_hasVersion_2 : decode cX7_hasVersion 2 = .ok (.iload_n 2, 1) := by decide +kernel
theorem dX7_hasVersion_3 : decode cX7_hasVersion 3 = .ok (.aload_n 0, 1) := by decide +kernel
theorem dX7_hasVersion_4 : decode cX7_hasVersion 4 = .ok (.getfield 19, 3) := by decide +kernel
theorem dX7_hasVersion_7 : decode cX7_hasVersion 7 = .ok (.invokevirtual 74, 3) := by decide +kernel
theorem dX7_hasVersion_10 : decode cX7_hasVersion 10 = .ok (.if_icmp .ge 29, 3) := by decide +kernel
theorem dX7_hasVersion_13 : decode cX7_hasVersion 13 = .ok (.aload_n 0, 1) := by decide +kernel
theorem dX7_hasVersion_14 : decode cX7_hasVersion 14 = .ok (.getfield 19, 3) := by decide +kernel
theorem dX7_hasVersion_17 : decode cX7_hasVersion 17 = .ok (.iload_n 2, 1) := by decide +kernel
theorem dX7_hasVersion_18 : decode cX7_hasVersion 18 = .ok (.invokevirtual 178, 3) := by decide +kernel
theorem dX7_hasVersion_21 : decode cX7_hasVersion 21 = .ok (.checkcast 120, 3) := by decide +kernel
theorem dX7_hasVersion_24 : decode cX7_hasVersion 24 = .ok (.getfield 364, 3) := by decide +kernel
theorem dX7_hasVersion_27 : decode cX7_hasVersion 27 = .ok (.iload_n 1, 1) := by decide +kernel
theorem dX7_hasVersion_28 : decode cX7_hasVersion 28 = .ok (.if_icmp .ne 5, 3) := by decide +kernel
theorem dX7_hasVersion_31 : decode cX7_hasVersion 31 = .ok (.iconst 1, 1) := by decide +kernel
theorem dX7_hasVersion_32 : decode cX7_hasVersion 32 = .ok (.ireturn, 1) := by decide +kernel
theorem dX7_hasVersion_33 : decode cX7_hasVersion 33 = .ok (.iinc 2 1, 3) := by decide +kernel
theorem dX7_hasVersion_36 : decode cX7_hasVersion 36 = .ok (.goto (-34), 3) := by decide +kernel
theorem dX7_hasVersion_39 : decode cX7_hasVersion 39 = .ok (.iconst 0, 1) := by decide +kernel
theorem dX7_hasVersion_40 : decode cX7_hasVersion 40 = .ok (.ireturn, 1) := by decide +kernel
theorem dX7_queue_0 : decode cX7_queue 0 = .ok (.aload_n 1, 1) := by decide +kernel
theorem dX7_queue_1 : decode cX7_queue 1 = .ok (.bipush 119, 2) := by decide +kernel
theorem dX7_queue_3 : decode cX7_queue 3 = .ok (.putfield 125, 3) := by decide +kernel
theorem dX7_queue_6 : decode cX7_queue 6 = .ok (.aload_n 1, 1) := by decide +kernel
theorem dX7_queue_7 : decode cX7_queue 7 = .ok (.aload_n 0, 1) := by decide +kernel
theorem dX7_queue_8 : decode cX7_queue 8 = .ok (.getfield 49, 3) := by decide +kernel
theorem dX7_queue_11 : decode cX7_queue 11 = .ok (.putfield 418, 3) := by decide +kernel
theorem dX7_queue_14 : decode cX7_queue 14 = .ok (.aload_n 0, 1) := by decide +kernel
theorem dX7_queue_15 : decode cX7_queue 15 = .ok (.dup, 1) := by decide +kernel
theorem dX7_queue_16 : decode cX7_queue 16 = .ok (.getfield 49, 3) := by decide +kernel
theorem dX7_queue_19 : decode cX7_queue 19 = .ok (.iconst 1, 1) := by decide +kernel
theorem dX7_queue_20 : decode cX7_queue 20 = .ok (.iadd, 1) := by decide +kernel
theorem dX7_queue_21 : decode cX7_queue 21 = .ok (.putfield 49, 3) := by decide +kernel
theorem dX7_queue_24 : decode cX7_queue 24 = .ok (.return_, 1) := by decide +kernel
theorem dX7_countWaiting_0 : decode cX7_countWaiting 0 = .ok (.iconst 0, 1) := by decide +kernel
theorem dX7_countWaiting_1 : decode cX7_countWaiting 1 = .ok (.istore_n 1, 1) := by decide +kernel
theorem dX7_countWaiting_2 : decode cX7_countWaiting 2 = .ok (.iconst 0, 1) := by decide +kernel
theorem dX7_countWaiting_3 : decode cX7_countWaiting 3 = .ok (.istore_n 2, 1) := by decide +kernel
theorem dX7_countWaiting_4 : decode cX7_countWaiting 4 = .ok (.iload_n 2, 1) := by decide +kernel
theorem dX7_countWaiting_5 : decode cX7_countWaiting 5 = .ok (.aload_n 0, 1) := by decide +kernel
theorem dX7_countWaiting_6 : decode cX7_countWaiting 6 = .ok (.getfield 19, 3) := by decide +kernel
theorem dX7_countWaiting_9 : decode cX7_countWaiting 9 = .ok (.invokevirtual 74, 3) := by decide +kernel
theorem dX7_countWaiting_12 : decode cX7_countWaiting 12 = .ok (.if_icmp .ge 31, 3) := by decide +kernel
theorem dX7_countWaiting_15 : decode cX7_countWaiting 15 = .ok (.aload_n 0, 1) := by decide +kernel
theorem dX7_countWaiting_16 : decode cX7_countWaiting 16 = .ok (.getfield 19, 3) := by decide +kernel
theorem dX7_countWaiting_19 : decode cX7_countWaiting 19 = .ok (.iload_n 2, 1) := by decide +kernel
theorem dX7_countWaiting_20 : decode cX7_countWaiting 20 = .ok (.invokevirtual 178, 3) := by decide +kernel
theorem dX7_countWaiting_23 : decode cX7_countWaiting 23 = .ok (.checkcast 120, 3) := by decide +kernel
theorem dX7_countWaiting_26 : decode cX7_countWaiting 26 = .ok (.getfield 125, 3) := by decide +kernel
theorem dX7_countWaiting_29 : decode cX7_countWaiting 29 = .ok (.bipush 119, 2) := by decide +kernel
theorem dX7_countWaiting_31 : decode cX7_countWaiting 31 = .ok (.if_icmp .ne 6, 3) := by decide +kernel
theorem dX7_countWaiting_34 : decode cX7_countWaiting 34 = .ok (.iinc 1 1, 3) := by decide +kernel
theorem dX7_countWaiting_37 : decode cX7_countWaiting 37 = .ok (.iinc 2 1, 3) := by decide +kernel
theorem dX7_countWaiting_40 : decode cX7_countWaiting 40 = .ok (.goto (-36), 3) := by decide +kernel
theorem dX7_countWaiting_43 : decode cX7_countWaiting 43 = .ok (.iload_n 1, 1) := by decide +kernel
theorem dX7_countWaiting_44 : decode cX7_countWaiting 44 = .ok (.ireturn, 1) := by decide +kernel
theorem dX7_firstWaiting_0 : decode cX7_firstWaiting 0 = .ok (.aconst_null, 1) := by decide +kernel
theorem dX7_firstWaiting_1 : decode cX7_firstWaiting 1 = .ok (.astore_n 1, 1) := by decide +kernel
theorem dX7_firstWaiting_2 : decode cX7_firstWaiting 2 = .ok (.iconst 0, 1) := by decide +kernel
theorem dX7_firstWaiting_3 : decode cX7_firstWaiting 3 = .ok (.istore_n 2, 1) := by decide +kernel
theorem dX7_firstWaiting_4 : decode cX7_firstWaiting 4 = .ok (.iload_n 2, 1) := by decide +kernel
theorem dX7_firstWaiting_5 : decode cX7_firstWaiting 5 = .ok (.aload_n 0, 1) := by decide +kernel
theorem dX7_firstWaiting_6 : decode cX7_firstWaiting 6 = .ok (.getfield 19, 3) := by decide +kernel
theorem dX7_firstWaiting_9 : decode cX7_firstWaiting 9 = .ok (.invokevirtual 74, 3) := by decide +kernel
theorem dX7_firstWaiting_12 : decode cX7_firstWaiting 12 = .ok (.if_icmp .ge 44, 3) := by decide +kernel
theorem dX7_firstWaiting_15 : decode cX7_firstWaiting 15 = .ok (.aload_n 0, 1) := by decide +kernel
theorem dX7_firstWaiting_16 : decode cX7_firstWaiting 16 = .ok (.getfield 19, 3) := by decide +kernel
theorem dX7_firstWaiting_19 : decode cX7_firstWaiting 19 = .ok (.iload_n 2, 1) := by decide +kernel
theorem dX7_firstWaiting_20 : decode cX7_firstWaiting 20 = .ok (.invokevirtual 178, 3) := by decide +kernel
theorem dX7_firstWaiting_23 : decode cX7_firstWaiting 23 = .ok (.checkcast 120, 3) := by decide +kernel
theorem dX7_firstWaiting_26 : decode cX7_firstWaiting 26 = .ok (.astore_n 3, 1) := by decide +kernel
theorem dX7_firstWaiting_27 : decode cX7_firstWaiting 27 = .ok (.aload_n 3, 1) := by decide +kernel
theorem dX7_firstWaiting_28 : decode cX7_firstWaiting 28 = .ok (.getfield 125, 3) := by decide +kernel
theorem dX7_firstWaiting_31 : decode cX7_firstWaiting 31 = .ok (.bipush 119, 2) := by decide +kernel
theorem dX7_firstWaiting_33 : decode cX7_firstWaiting 33 = .ok (.if_icmp .ne 17, 3) := by decide +kernel
theorem dX7_firstWaiting_36 : decode cX7_firstWaiting 36 = .ok (.aload_n 1, 1) := by decide +kernel
theorem dX7_firstWaiting_37 : decode cX7_firstWaiting 37 = .ok (.ifnull 11, 3) := by decide +kernel
theorem dX7_firstWaiting_40 : decode cX7_firstWaiting 40 = .ok (.aload_n 3, 1) := by decide +kernel
theorem dX7_firstWaiting_41 : decode cX7_firstWaiting 41 = .ok (.aload_n 1, 1) := by decide +kernel
theorem dX7_firstWaiting_42 : decode cX7_firstWaiting 42 = .ok (.invokevirtual 421, 3) := by decide +kernel
theorem dX7_firstWaiting_45 : decode cX7_firstWaiting 45 = .ok (.ifCond .eq 5, 3) := by decide +kernel
theorem dX7_firstWaiting_48 : decode cX7_firstWaiting 48 = .ok (.aload_n 3, 1) := by decide +kernel
theorem dX7_firstWaiting_49 : decode cX7_firstWaiting 49 = .ok (.astore_n 1, 1) := by decide +kernel
theorem dX7_firstWaiting_50 : decode cX7_firstWaiting 50 = .ok (.iinc 2 1, 3) := by decide +kernel
theorem dX7_firstWaiting_53 : decode cX7_firstWaiting 53 = .ok (.goto (-49), 3) := by decide +kernel
theorem dX7_firstWaiting_56 : decode cX7_firstWaiting 56 = .ok (.aload_n 1, 1) := by decide +kernel
theorem dX7_firstWaiting_57 : decode cX7_firstWaiting 57 = .ok (.ifnonnull 14, 3) := by decide +kernel
theorem dX7_firstWaiting_60 : decode cX7_firstWaiting 60 = .ok (.new 78, 3) := by decide +kernel
theorem dX7_firstWaiting_63 : decode cX7_firstWaiting 63 = .ok (.dup, 1) := by decide +kernel
theorem dX7_firstWaiting_64 : decode cX7_firstWaiting 64 = .ok (.ldc_w 424, 3) := by decide +kernel
theorem dX7_firstWaiting_67 : decode cX7_firstWaiting 67 = .ok (.invokespecial 82, 3) := by decide +kernel
theorem dX7_firstWaiting_70 : decode cX7_firstWaiting 70 = .ok (.athrow, 1) := by decide +kernel
theorem dX7_firstWaiting_71 : decode cX7_firstWaiting 71 = .ok (.aload_n 1, 1) := by decide +kernel
theorem dX7_firstWaiting_72 : decode cX7_firstWaiting 72 = .ok (.areturn, 1) := by decide +kernel
theorem dX7_barringRule_0 : decode cX7_barringRule 0 = .ok (.aload_n 1, 1) := by decide +kernel
theorem dX7_barringRule_1 : decode cX7_barringRule 1 = .ok (.getfield 426, 3) := by decide +kernel
theorem dX7_barringRule_4 : decode cX7_barringRule 4 = .ok (.aload_n 0, 1) := by decide +kernel
theorem dX7_barringRule_5 : decode cX7_barringRule 5 = .ok (.getfield 42, 3) := by decide +kernel
theorem dX7_barringRule_8 : decode cX7_barringRule 8 = .ok (.if_icmp .le 6, 3) := by decide +kernel
theorem dX7_barringRule_11 : decode cX7_barringRule 11 = .ok (.bipush 115, 2) := by decide +kernel
theorem dX7_barringRule_13 : decode cX7_barringRule 13 = .ok (.ireturn, 1) := by decide +kernel
theorem dX7_barringRule_14 : decode cX7_barringRule 14 = .ok (.aload_n 1, 1) := by decide +kernel
theorem dX7_barringRule_15 : decode cX7_barringRule 15 = .ok (.getfield 428, 3) := by decide +kernel
theorem dX7_barringRule_18 : decode cX7_barringRule 18 = .ok (.aload_n 0, 1) := by decide +kernel
theorem dX7_barringRule_19 : decode cX7_barringRule 19 = .ok (.getfield 46, 3) := by decide +kernel
theorem dX7_barringRule_22 : decode cX7_barringRule 22 = .ok (.iand, 1) := by decide +kernel
theorem dX7_barringRule_23 : decode cX7_barringRule 23 = .ok (.ifCond .eq 8, 3) := by decide +kernel
theorem dX7_barringRule_26 : decode cX7_barringRule 26 = .ok (.bipush 112, 2) := by decide +kernel
theorem dX7_barringRule_28 : decode cX7_barringRule 28 = .ok (.goto 5, 3) := by decide +kernel
theorem dX7_barringRule_31 : decode cX7_barringRule 31 = .ok (.bipush 45, 2) := by decide +kernel
theorem dX7_barringRule_33 : decode cX7_barringRule 33 = .ok (.ireturn, 1) := by decide +kernel
theorem dX7_holdReason_0 : decode cX7_holdReason 0 = .ok (.aload_n 0, 1) := by decide +kernel
theorem dX7_holdReason_1 : decode cX7_holdReason 1 = .ok (.aload_n 1, 1) := by decide +kernel
theorem dX7_holdReason_2 : decode cX7_holdReason 2 = .ok (.invokevirtual 145, 3) := by decide +kernel
theorem dX7_holdReason_5 : decode cX7_holdReason 5 = .ok (.bipush 45, 2) := by decide +kernel
theorem dX7_holdReason_7 : decode cX7_holdReason 7 = .ok (.if_icmp .eq 6, 3) := by decide +kernel
theorem dX7_holdReason_10 : decode cX7_holdReason 10 = .ok (.bipush 118, 2) := by decide +kernel
theorem dX7_holdReason_12 : decode cX7_holdReason 12 = .ok (.ireturn, 1) := by decide +kernel
theorem dX7_holdReason_13 : decode cX7_holdReason 13 = .ok (.aload_n 1, 1) := by decide +kernel
theorem dX7_holdReason_14 : decode cX7_holdReason 14 = .ok (.getfield 231, 3) := by decide +kernel
theorem dX7_holdReason_17 : decode cX7_holdReason 17 = .ok (.iconst 3, 1) := by decide +kernel
theorem dX7_holdReason_18 : decode cX7_holdReason 18 = .ok (.if_icmp .lt 18, 3) := by decide +kernel
theorem dX7_holdReason_21 : decode cX7_holdReason 21 = .ok (.aload_n 1, 1) := by decide +kernel
theorem dX7_holdReason_22 : decode cX7_holdReason 22 = .ok (.invokevirtual 305, 3) := by decide +kernel
theorem dX7_holdReason_25 : decode cX7_holdReason 25 = .ok (.aload_n 0, 1) := by decide +kernel
theorem dX7_holdReason_26 : decode cX7_holdReason 26 = .ok (.getfield 57, 3) := by decide +kernel
theorem dX7_holdReason_29 : decode cX7_holdReason 29 = .ok (.fcmp .l, 1) := by decide +kernel
theorem dX7_holdReason_30 : decode cX7_holdReason 30 = .ok (.ifCond .le 6, 3) := by decide +kernel
theorem dX7_holdReason_33 : decode cX7_holdReason 33 = .ok (.bipush 99, 2) := by decide +kernel
theorem dX7_holdReason_35 : decode cX7_holdReason 35 = .ok (.ireturn, 1) := by decide +kernel
theorem dX7_holdReason_36 : decode cX7_holdReason 36 = .ok (.aload_n 1, 1) := by decide +kernel
theorem dX7_holdReason_37 : decode cX7_holdReason 37 = .ok (.getfield 314, 3) := by decide +kernel
theorem dX7_holdReason_40 : decode cX7_holdReason 40 = .ok (.iconst 3, 1) := by decide +kernel
theorem dX7_holdReason_41 : decode cX7_holdReason 41 = .ok (.if_icmp .lt 17, 3) := by decide +kernel
theorem dX7_holdReason_44 : decode cX7_holdReason 44 = .ok (.aload_n 1, 1) := by decide +kernel
theorem dX7_holdReason_45 : decode cX7_holdReason 45 = .ok (.invokevirtual 320, 3) := by decide +kernel
theorem dX7_holdReason_48 : decode cX7_holdReason 48 = .ok (.ldc2_w 431, 3) := by decide +kernel
theorem dX7_holdReason_51 : decode cX7_holdReason 51 = .ok (.dcmp .g, 1) := by decide +kernel
theorem dX7_holdReason_52 : decode cX7_holdReason 52 = .ok (.ifCond .ge 6, 3) := by decide +kernel
theorem dX7_holdReason_55 : decode cX7_holdReason 55 = .ok (.bipush 116, 2) := by decide +kernel
theorem dX7_holdReason_57 : decode cX7_holdReason 57 = .ok (.ireturn, 1) := by decide +kernel
theorem dX7_holdReason_58 : decode cX7_holdReason 58 = .ok (.bipush 45, 2) := by decide +kernel
theorem dX7_holdReason_60 : decode cX7_holdReason 60 = .ok (.ireturn, 1) := by decide +kernel
theorem dX7_isRolledOut_0 : decode cX7_isRolledOut 0 = .ok (.aload_n 1, 1) := by decide +kernel
theorem dX7_isRolledOut_1 : decode cX7_isRolledOut 1 = .ok (.getfield 125, 3) := by decide +kernel
theorem dX7_isRolledOut_4 : decode cX7_isRolledOut 4 = .ok (.bipush 97, 2) := by decide +kernel
theorem dX7_isRolledOut_6 : decode cX7_isRolledOut 6 = .ok (.if_icmp .ne 24, 3) := by decide +kernel
theorem dX7_isRolledOut_9 : decode cX7_isRolledOut 9 = .ok (.aload_n 1, 1) := by decide +kernel
theorem dX7_isRolledOut_10 : decode cX7_isRolledOut 10 = .ok (.getfield 161, 3) := by decide +kernel
theorem dX7_isRolledOut_13 : decode cX7_isRolledOut 13 = .ok (.ifCond .le 17, 3) := by decide +kernel
theorem dX7_isRolledOut_16 : decode cX7_isRolledOut 16 = .ok (.aload_n 0, 1) := by decide +kernel
theorem dX7_isRolledOut_17 : decode cX7_isRolledOut 17 = .ok (.aload_n 1, 1) := by decide +kernel
theorem dX7_isRolledOut_18 : decode cX7_isRolledOut 18 = .ok (.invokevirtual 182, 3) := by decide +kernel
theorem dX7_isRolledOut_21 : decode cX7_isRolledOut 21 = .ok (.bipush 45, 2) := by decide +kernel
theorem dX7_isRolledOut_23 : decode cX7_isRolledOut 23 = .ok (.if_icmp .ne 7, 3) := by decide +kernel
theorem dX7_isRolledOut_26 : decode cX7_isRolledOut 26 = .ok (.iconst 1, 1) := by decide +kernel
theorem dX7_isRolledOut_27 : decode cX7_isRolledOut 27 = .ok (.goto 4, 3) := by decide +kernel
theorem dX7_isRolledOut_30 : decode cX7_isRolledOut 30 = .ok (.iconst 0, 1) := by decide +kernel
theorem dX7_isRolledOut_31 : decode cX7_isRolledOut 31 = .ok (.ireturn, 1) := by decide +kernel
theorem dX7_grownPercentage_0 : decode cX7_grownPercentage 0 = .ok (.aload_n 0, 1) := by decide +kernel
theorem dX7_grownPercentage_1 : decode cX7_grownPercentage 1 = .ok (.aload_n 1, 1) := by decide +kernel
theorem dX7_grownPercentage_2 : decode cX7_grownPercentage 2 = .ok (.invokevirtual 193, 3) := by decide +kernel
theorem dX7_grownPercentage_5 : decode cX7_grownPercentage 5 = .ok (.ifCond .ne 8, 3) := by decide +kernel
theorem dX7_grownPercentage_8 : decode cX7_grownPercentage 8 = .ok (.aload_n 1, 1) := by decide +kernel
theorem dX7_grownPercentage_9 : decode cX7_grownPercentage 9 = .ok (.getfield 161, 3) := by decide +kernel
theorem dX7_grownPercentage_12 : decode cX7_grownPercentage 12 = .ok (.ireturn, 1) := by decide +kernel
theorem dX7_grownPercentage_13 : decode cX7_grownPercentage 13 = .ok (.bipush 100, 2) := by decide +kernel
theorem dX7_grownPercentage_15 : decode cX7_grownPercentage 15 = .ok (.aload_n 1, 1) := by decide +kernel
theorem dX7_grownPercentage_16 : decode cX7_grownPercentage 16 = .ok (.getfield 161, 3) := by decide +kernel
theorem dX7_grownPercentage_19 : decode cX7_grownPercentage 19 = .ok (.aload_n 1, 1) := by decide +kernel
theorem dX7_grownPercentage_20 : decode cX7_grownPercentage 20 = .ok (.getfield 169, 3) := by decide +kernel
theorem dX7_grownPercentage_23 : decode cX7_grownPercentage 23 = .ok (.iload_n 2, 1) := by decide +kernel
theorem dX7_grownPercentage_24 : decode cX7_grownPercentage 24 = .ok (.imul, 1) := by decide +kernel
theorem dX7_grownPercentage_25 : decode cX7_grownPercentage 25 = .ok (.iadd, 1) := by decide +kernel
theorem dX7_grownPercentage_26 : decode cX7_grownPercentage 26 = .ok (.invokestatic 433, 3) := by decide +kernel
theorem dX7_grownPercentage_29 : decode cX7_grownPercentage 29 = .ok (.ireturn, 1) := by decide +kernel
theorem dX7_isOpenTo_0 : decode cX7_isOpenTo 0 = .ok (.aload_n 0, 1) := by decide +kernel
theorem dX7_isOpenTo_1 : decode cX7_isOpenTo 1 = .ok (.aload_n 1, 1) := by decide +kernel
theorem dX7_isOpenTo_2 : decode cX7_isOpenTo 2 = .ok (.invokevirtual 193, 3) := by decide +kernel
theorem dX7_isOpenTo_5 : decode cX7_isOpenTo 5 = .ok (.ifCond .eq 47, 3) := by decide +kernel
theorem dX7_isOpenTo_8 : decode cX7_isOpenTo 8 = .ok (.aload_n 1, 1) := by decide +kernel
theorem dX7_isOpenTo_9 : decode cX7_isOpenTo 9 = .ok (.getfield 119, 3) := by decide +kernel
theorem dX7_isOpenTo_12 : decode cX7_isOpenTo 12 = .ok (.aload_n 2, 1) := by decide +kernel
theorem dX7_isOpenTo_13 : decode cX7_isOpenTo 13 = .ok (.getfield 439, 3) := by decide +kernel
theorem dX7_isOpenTo_16 : decode cX7_isOpenTo 16 = .ok (.aload_n 2, 1) := by decide +kernel
theorem dX7_isOpenTo_17 : decode cX7_isOpenTo 17 = .ok (.getfield 440, 3) := by decide +kernel
theorem dX7_isOpenTo_20 : decode cX7_isOpenTo 20 = .ok (.invokevirtual 203, 3) := by decide +kernel
theorem dX7_isOpenTo_23 : decode cX7_isOpenTo 23 = .ok (.ifCond .eq 29, 3) := by decide +kernel
theorem dX7_isOpenTo_26 : decode cX7_isOpenTo 26 = .ok (.aload_n 2, 1) := by decide +kernel
theorem dX7_isOpenTo_27 : decode cX7_isOpenTo 27 = .ok (.getfield 228, 3) := by decide +kernel
theorem dX7_isOpenTo_30 : decode cX7_isOpenTo 30 = .ok (.aload_n 1, 1) := by decide +kernel
theorem dX7_isOpenTo_31 : decode cX7_isOpenTo 31 = .ok (.getfield 161, 3) := by decide +kernel
theorem dX7_isOpenTo_34 : decode cX7_isOpenTo 34 = .ok (.if_icmp .lt 14, 3) := by decide +kernel
theorem dX7_isOpenTo_37 : decode cX7_isOpenTo 37 = .ok (.aload_n 1, 1) := by decide +kernel
theorem dX7_isOpenTo_38 : decode cX7_isOpenTo 38 = .ok (.aload_n 2, 1) := by decide +kernel
theorem dX7_isOpenTo_39 : decode cX7_isOpenTo 39 = .ok (.getfield 225, 3) := by decide +kernel
theorem dX7_isOpenTo_42 : decode cX7_isOpenTo 42 = .ok (.invokevirtual 441, 3) := by decide +kernel
theorem dX7_isOpenTo_45 : decode cX7_isOpenTo 45 = .ok (.ifCond .eq 7, 3) := by decide +kernel
theorem dX7_isOpenTo_48 : decode cX7_isOpenTo 48 = .ok (.iconst 1, 1) := by decide +kernel
theorem dX7_isOpenTo_49 : decode cX7_isOpenTo 49 = .ok (.goto 4, 3) := by decide +kernel
theorem dX7_isOpenTo_52 : decode cX7_isOpenTo 52 = .ok (.iconst 0, 1) := by decide +kernel
theorem dX7_isOpenTo_53 : decode cX7_isOpenTo 53 = .ok (.ireturn, 1) := by decide +kernel
theorem dX7_choiceFor_0 : decode cX7_choiceFor 0 = .ok (.aconst_null, 1) := by decide +kernel
theorem dX7_choiceFor_1 : decode cX7_choiceFor 1 = .ok (.astore_n 2, 1) := by decide +kernel
theorem dX7_choiceFor_2 : decode cX7_choiceFor 2 = .ok (.iconst 0, 1) := by decide +kernel
theorem dX7_choiceFor_3 : decode cX7_choiceFor 3 = .ok (.istore_n 3, 1) := by decide +kernel
theorem dX7_choiceFor_4 : decode cX7_choiceFor 4 = .ok (.iload_n 3, 1) := by decide +kernel
theorem dX7_choiceFor_5 : decode cX7_choiceFor 5 = .ok (.aload_n 0, 1) := by decide +kernel
theorem dX7_choiceFor_6 : decode cX7_choiceFor 6 = .ok (.getfield 19, 3) := by decide +kernel
end
section
theorem dX7_choiceFor_9 : decode cX7_choiceFor 9 = .ok (.invokevirtual 74, 3) := by decide +kernel
theorem dX7_choiceFor_12 : decode cX7_choiceFor 12 = .ok (.if_icmp .ge 60, 3) := by decide +kernel
theorem dX7_choiceFor_15 : decode cX7_choiceFor 15 = .ok (.aload_n 0, 1) := by decide +kernel
theorem dX7_choiceFor_16 : decode cX7_choiceFor 16 = .ok (.getfield 19, 3) := by decide +kernel
theorem dX7_choiceFor_19 : decode cX7_choiceFor 19 = .ok (.iload_n 3, 1) := by decide +kernel
theorem dX7_choiceFor_20 : decode cX7_choiceFor 20 = .ok (.invokevirtual 178, 3) := by decide +kernel
theorem dX7_choiceFor_23 : decode cX7_choiceFor 23 = .ok (.checkcast 120, 3) := by decide +kernel
theorem dX7_choiceFor_26 : decode cX7_choiceFor 26 = .ok (.astore 4, 2) := by decide +kernel
theorem dX7_choiceFor_28 : decode cX7_choiceFor 28 = .ok (.aload 4, 2) := by decide +kernel
theorem dX7_choiceFor_30 : decode cX7_choiceFor 30 = .ok (.aload_n 1, 1) := by decide +kernel
theorem dX7_choiceFor_31 : decode cX7_choiceFor 31 = .ok (.getfield 225, 3) := by decide +kernel
theorem dX7_choiceFor_34 : decode cX7_choiceFor 34 = .ok (.invokevirtual 444, 3) := by decide +kernel
theorem dX7_choiceFor_37 : decode cX7_choiceFor 37 = .ok (.ifCond .eq 29, 3) := by decide +kernel
theorem dX7_choiceFor_40 : decode cX7_choiceFor 40 = .ok (.aload_n 0, 1) := by decide +kernel
theorem dX7_choiceFor_41 : decode cX7_choiceFor 41 = .ok (.aload 4, 2) := by decide +kernel
theorem dX7_choiceFor_43 : decode cX7_choiceFor 43 = .ok (.aload_n 1, 1) := by decide +kernel
theorem dX7_choiceFor_44 : decode cX7_choiceFor 44 = .ok (.invokevirtual 189, 3) := by decide +kernel
theorem dX7_choiceFor_47 : decode cX7_choiceFor 47 = .ok (.ifCond .eq 19, 3) := by decide +kernel
theorem dX7_choiceFor_50 : decode cX7_choiceFor 50 = .ok (.aload_n 2, 1) := by decide +kernel
theorem dX7_choiceFor_51 : decode cX7_choiceFor 51 = .ok (.ifnull 12, 3) := by decide +kernel
theorem dX7_choiceFor_54 : decode cX7_choiceFor 54 = .ok (.aload 4, 2) := by decide +kernel
theorem dX7_choiceFor_56 : decode cX7_choiceFor 56 = .ok (.aload_n 2, 1) := by decide +kernel
theorem dX7_choiceFor_57 : decode cX7_choiceFor 57 = .ok (.invokevirtual 447, 3) := by decide +kernel
theorem dX7_choiceFor_60 : decode cX7_choiceFor 60 = .ok (.ifCond .eq 6, 3) := by decide +kernel
theorem dX7_choiceFor_63 : decode cX7_choiceFor 63 = .ok (.aload 4, 2) := by decide +kernel
theorem dX7_choiceFor_65 : decode cX7_choiceFor 65 = .ok (.astore_n 2, 1) := by decide +kernel
theorem dX7_choiceFor_66 : decode cX7_choiceFor 66 = .ok (.iinc 3 1, 3) := by decide +kernel
theorem dX7_choiceFor_69 : decode cX7_choiceFor 69 = .ok (.goto (-65), 3) := by decide +kernel
theorem dX7_choiceFor_72 : decode cX7_choiceFor 72 = .ok (.aload_n 2, 1) := by decide +kernel
theorem dX7_choiceFor_73 : decode cX7_choiceFor 73 = .ok (.ifnonnull 14, 3) := by decide +kernel
theorem dX7_choiceFor_76 : decode cX7_choiceFor 76 = .ok (.new 78, 3) := by decide +kernel
theorem dX7_choiceFor_79 : decode cX7_choiceFor 79 = .ok (.dup, 1) := by decide +kernel
theorem dX7_choiceFor_80 : decode cX7_choiceFor 80 = .ok (.ldc_w 450, 3) := by decide +kernel
theorem dX7_choiceFor_83 : decode cX7_choiceFor 83 = .ok (.invokespecial 82, 3) := by decide +kernel
theorem dX7_choiceFor_86 : decode cX7_choiceFor 86 = .ok (.athrow, 1) := by decide +kernel
theorem dX7_choiceFor_87 : decode cX7_choiceFor 87 = .ok (.aload_n 2, 1) := by decide +kernel
theorem dX7_choiceFor_88 : decode cX7_choiceFor 88 = .ok (.areturn, 1) := by decide +kernel
theorem dX7_groupOfCrash_0 : decode cX7_groupOfCrash 0 = .ok (.aload_n 0, 1) := by decide +kernel
theorem dX7_groupOfCrash_1 : decode cX7_groupOfCrash 1 = .ok (.invokevirtual 452, 3) := by decide +kernel
theorem dX7_groupOfCrash_4 : decode cX7_groupOfCrash 4 = .ok (.astore_n 1, 1) := by decide +kernel
theorem dX7_groupOfCrash_5 : decode cX7_groupOfCrash 5 = .ok (.aload_n 1, 1) := by decide +kernel
theorem dX7_groupOfCrash_6 : decode cX7_groupOfCrash 6 = .ok (.ifnull 24, 3) := by decide +kernel
theorem dX7_groupOfCrash_9 : decode cX7_groupOfCrash 9 = .ok (.aload_n 1, 1) := by decide +kernel
theorem dX7_groupOfCrash_10 : decode cX7_groupOfCrash 10 = .ok (.getfield 278, 3) := by decide +kernel
theorem dX7_groupOfCrash_13 : decode cX7_groupOfCrash 13 = .ok (.aload_n 0, 1) := by decide +kernel
theorem dX7_groupOfCrash_14 : decode cX7_groupOfCrash 14 = .ok (.getfield 32, 3) := by decide +kernel
theorem dX7_groupOfCrash_17 : decode cX7_groupOfCrash 17 = .ok (.invokevirtual 290, 3) := by decide +kernel
theorem dX7_groupOfCrash_20 : decode cX7_groupOfCrash 20 = .ok (.aload_n 0, 1) := by decide +kernel
theorem dX7_groupOfCrash_21 : decode cX7_groupOfCrash 21 = .ok (.getfield 53, 3) := by decide +kernel
theorem dX7_groupOfCrash_24 : decode cX7_groupOfCrash 24 = .ok (.fcmp .l, 1) := by decide +kernel
theorem dX7_groupOfCrash_25 : decode cX7_groupOfCrash 25 = .ok (.ifCond .lt 5, 3) := by decide +kernel
theorem dX7_groupOfCrash_28 : decode cX7_groupOfCrash 28 = .ok (.aload_n 1, 1) := by decide +kernel
theorem dX7_groupOfCrash_29 : decode cX7_groupOfCrash 29 = .ok (.areturn, 1) := by decide +kernel
theorem dX7_groupOfCrash_30 : decode cX7_groupOfCrash 30 = .ok (.aload_n 0, 1) := by decide +kernel
theorem dX7_groupOfCrash_31 : decode cX7_groupOfCrash 31 = .ok (.getfield 22, 3) := by decide +kernel
theorem dX7_groupOfCrash_34 : decode cX7_groupOfCrash 34 = .ok (.invokevirtual 74, 3) := by decide +kernel
theorem dX7_groupOfCrash_37 : decode cX7_groupOfCrash 37 = .ok (.bipush 30, 2) := by decide +kernel
theorem dX7_groupOfCrash_39 : decode cX7_groupOfCrash 39 = .ok (.if_icmp .lt 14, 3) := by decide +kernel
theorem dX7_groupOfCrash_42 : decode cX7_groupOfCrash 42 = .ok (.new 78, 3) := by decide +kernel
theorem dX7_groupOfCrash_45 : decode cX7_groupOfCrash 45 = .ok (.dup, 1) := by decide +kernel
theorem dX7_groupOfCrash_46 : decode cX7_groupOfCrash 46 = .ok (.ldc_w 455, 3) := by decide +kernel
theorem dX7_groupOfCrash_49 : decode cX7_groupOfCrash 49 = .ok (.invokespecial 82, 3) := by decide +kernel
theorem dX7_groupOfCrash_52 : decode cX7_groupOfCrash 52 = .ok (.athrow, 1) := by decide +kernel
theorem dX7_groupOfCrash_53 : decode cX7_groupOfCrash 53 = .ok (.new 265, 3) := by decide +kernel
theorem dX7_groupOfCrash_56 : decode cX7_groupOfCrash 56 = .ok (.dup, 1) := by decide +kernel
theorem dX7_groupOfCrash_57 : decode cX7_groupOfCrash 57 = .ok (.aload_n 0, 1) := by decide +kernel
theorem dX7_groupOfCrash_58 : decode cX7_groupOfCrash 58 = .ok (.getfield 22, 3) := by decide +kernel
theorem dX7_groupOfCrash_61 : decode cX7_groupOfCrash 61 = .ok (.invokevirtual 74, 3) := by decide +kernel
theorem dX7_groupOfCrash_64 : decode cX7_groupOfCrash 64 = .ok (.aload_n 0, 1) := by decide +kernel
theorem dX7_groupOfCrash_65 : decode cX7_groupOfCrash 65 = .ok (.getfield 32, 3) := by decide +kernel
theorem dX7_groupOfCrash_68 : decode cX7_groupOfCrash 68 = .ok (.invokespecial 457, 3) := by decide +kernel
theorem dX7_groupOfCrash_71 : decode cX7_groupOfCrash 71 = .ok (.astore_n 2, 1) := by decide +kernel
theorem dX7_groupOfCrash_72 : decode cX7_groupOfCrash 72 = .ok (.aload_n 0, 1) := by decide +kernel
theorem dX7_groupOfCrash_73 : decode cX7_groupOfCrash 73 = .ok (.getfield 22, 3) := by decide +kernel
theorem dX7_groupOfCrash_76 : decode cX7_groupOfCrash 76 = .ok (.aload_n 2, 1) := by decide +kernel
theorem dX7_groupOfCrash_77 : decode cX7_groupOfCrash 77 = .ok (.invokevirtual 88, 3) := by decide +kernel
theorem dX7_groupOfCrash_80 : decode cX7_groupOfCrash 80 = .ok (.pop, 1) := by decide +kernel
theorem dX7_groupOfCrash_81 : decode cX7_groupOfCrash 81 = .ok (.aload_n 2, 1) := by decide +kernel
theorem dX7_groupOfCrash_82 : decode cX7_groupOfCrash 82 = .ok (.areturn, 1) := by decide +kernel
theorem dX7_nearestGroup_0 : decode cX7_nearestGroup 0 = .ok (.aconst_null, 1) := by decide +kernel
theorem dX7_nearestGroup_1 : decode cX7_nearestGroup 1 = .ok (.astore_n 1, 1) := by decide +kernel
theorem dX7_nearestGroup_2 : decode cX7_nearestGroup 2 = .ok (.fconst 0, 1) := by decide +kernel
theorem dX7_nearestGroup_3 : decode cX7_nearestGroup 3 = .ok (.fstore_n 2, 1) := by decide +kernel
theorem dX7_nearestGroup_4 : decode cX7_nearestGroup 4 = .ok (.iconst 0, 1) := by decide +kernel
theorem dX7_nearestGroup_5 : decode cX7_nearestGroup 5 = .ok (.istore_n 3, 1) := by decide +kernel
theorem dX7_nearestGroup_6 : decode cX7_nearestGroup 6 = .ok (.iload_n 3, 1) := by decide +kernel
theorem dX7_nearestGroup_7 : decode cX7_nearestGroup 7 = .ok (.aload_n 0, 1) := by decide +kernel
theorem dX7_nearestGroup_8 : decode cX7_nearestGroup 8 = .ok (.getfield 22, 3) := by decide +kernel
theorem dX7_nearestGroup_11 : decode cX7_nearestGroup 11 = .ok (.invokevirtual 74, 3) := by decide +kernel
theorem dX7_nearestGroup_14 : decode cX7_nearestGroup 14 = .ok (.if_icmp .ge 53, 3) := by decide +kernel
theorem dX7_nearestGroup_17 : decode cX7_nearestGroup 17 = .ok (.aload_n 0, 1) := by decide +kernel
theorem dX7_nearestGroup_18 : decode cX7_nearestGroup 18 = .ok (.getfield 22, 3) := by decide +kernel
theorem dX7_nearestGroup_21 : decode cX7_nearestGroup 21 = .ok (.iload_n 3, 1) := by decide +kernel
theorem dX7_nearestGroup_22 : decode cX7_nearestGroup 22 = .ok (.invokevirtual 178, 3) := by decide +kernel
theorem dX7_nearestGroup_25 : decode cX7_nearestGroup 25 = .ok (.checkcast 265, 3) := by decide +kernel
theorem dX7_nearestGroup_28 : decode cX7_nearestGroup 28 = .ok (.astore 4, 2) := by decide +kernel
theorem dX7_nearestGroup_30 : decode cX7_nearestGroup 30 = .ok (.aload 4, 2) := by decide +kernel
theorem dX7_nearestGroup_32 : decode cX7_nearestGroup 32 = .ok (.getfield 278, 3) := by decide +kernel
theorem dX7_nearestGroup_35 : decode cX7_nearestGroup 35 = .ok (.aload_n 0, 1) := by decide +kernel
theorem dX7_nearestGroup_36 : decode cX7_nearestGroup 36 = .ok (.getfield 32, 3) := by decide +kernel
theorem dX7_nearestGroup_39 : decode cX7_nearestGroup 39 = .ok (.invokevirtual 290, 3) := by decide +kernel
theorem dX7_nearestGroup_42 : decode cX7_nearestGroup 42 = .ok (.fstore 5, 2) := by decide +kernel
theorem dX7_nearestGroup_44 : decode cX7_nearestGroup 44 = .ok (.aload_n 1, 1) := by decide +kernel
theorem dX7_nearestGroup_45 : decode cX7_nearestGroup 45 = .ok (.ifnull 10, 3) := by decide +kernel
theorem dX7_nearestGroup_48 : decode cX7_nearestGroup 48 = .ok (.fload 5, 2) := by decide +kernel
theorem dX7_nearestGroup_50 : decode cX7_nearestGroup 50 = .ok (.fload_n 2, 1) := by decide +kernel
theorem dX7_nearestGroup_51 : decode cX7_nearestGroup 51 = .ok (.fcmp .l, 1) := by decide +kernel
theorem dX7_nearestGroup_52 : decode cX7_nearestGroup 52 = .ok (.ifCond .le 9, 3) := by decide +kernel
theorem dX7_nearestGroup_55 : decode cX7_nearestGroup 55 = .ok (.aload 4, 2) := by decide +kernel
theorem dX7_nearestGroup_57 : decode cX7_nearestGroup 57 = .ok (.astore_n 1, 1) := by decide +kernel
theorem dX7_nearestGroup_58 : decode cX7_nearestGroup 58 = .ok (.fload 5, 2) := by decide +kernel
theorem dX7_nearestGroup_60 : decode cX7_nearestGroup 60 = .ok (.fstore_n 2, 1) := by decide +kernel
theorem dX7_nearestGroup_61 : decode cX7_nearestGroup 61 = .ok (.iinc 3 1, 3) := by decide +kernel
theorem dX7_nearestGroup_64 : decode cX7_nearestGroup 64 = .ok (.goto (-58), 3) := by decide +kernel
theorem dX7_nearestGroup_67 : decode cX7_nearestGroup 67 = .ok (.aload_n 1, 1) := by decide +kernel
theorem dX7_nearestGroup_68 : decode cX7_nearestGroup 68 = .ok (.areturn, 1) := by decide +kernel
theorem dX7_standingOf_0 : decode cX7_standingOf 0 = .ok (.aload_n 1, 1) := by decide +kernel
theorem dX7_standingOf_1 : decode cX7_standingOf 1 = .ok (.getfield 125, 3) := by decide +kernel
theorem dX7_standingOf_4 : decode cX7_standingOf 4 = .ok (.bipush 100, 2) := by decide +kernel
theorem dX7_standingOf_6 : decode cX7_standingOf 6 = .ok (.if_icmp .ne 7, 3) := by decide +kernel
theorem dX7_standingOf_9 : decode cX7_standingOf 9 = .ok (.ldc_w 460, 3) := by decide +kernel
theorem dX7_standingOf_12 : decode cX7_standingOf 12 = .ok (.areturn, 1) := by decide +kernel
theorem dX7_standingOf_13 : decode cX7_standingOf 13 = .ok (.aload_n 1, 1) := by decide +kernel
theorem dX7_standingOf_14 : decode cX7_standingOf 14 = .ok (.getfield 125, 3) := by decide +kernel
theorem dX7_standingOf_17 : decode cX7_standingOf 17 = .ok (.bipush 119, 2) := by decide +kernel
theorem dX7_standingOf_19 : decode cX7_standingOf 19 = .ok (.if_icmp .ne 7, 3) := by decide +kernel
theorem dX7_standingOf_22 : decode cX7_standingOf 22 = .ok (.ldc_w 462, 3) := by decide +kernel
theorem dX7_standingOf_25 : decode cX7_standingOf 25 = .ok (.areturn, 1) := by decide +kernel
theorem dX7_standingOf_26 : decode cX7_standingOf 26 = .ok (.aload_n 1, 1) := by decide +kernel
theorem dX7_standingOf_27 : decode cX7_standingOf 27 = .ok (.getfield 125, 3) := by decide +kernel
theorem dX7_standingOf_30 : decode cX7_standingOf 30 = .ok (.bipush 114, 2) := by decide +kernel
theorem dX7_standingOf_32 : decode cX7_standingOf 32 = .ok (.if_icmp .ne 9, 3) := by decide +kernel
theorem dX7_standingOf_35 : decode cX7_standingOf 35 = .ok (.ldc_w 464, 3) := by decide +kernel
theorem dX7_standingOf_38 : decode cX7_standingOf 38 = .ok (.goto 8, 3) := by decide +kernel
theorem dX7_standingOf_41 : decode cX7_standingOf 41 = .ok (.aload_n 0, 1) := by decide +kernel
theorem dX7_standingOf_42 : decode cX7_standingOf 42 = .ok (.aload_n 1, 1) := by decide +kernel
theorem dX7_standingOf_43 : decode cX7_standingOf 43 = .ok (.invokevirtual 466, 3) := by decide +kernel
theorem dX7_standingOf_46 : decode cX7_standingOf 46 = .ok (.areturn, 1) := by decide +kernel
theorem dX7_standingOfApproved_0 : decode cX7_standingOfApproved 0 = .ok (.aload_n 0, 1) := by decide +kernel
theorem dX7_standingOfApproved_1 : decode cX7_standingOfApproved 1 = .ok (.aload_n 1, 1) := by decide +kernel
theorem dX7_standingOfApproved_2 : decode cX7_standingOfApproved 2 = .ok (.invokevirtual 182, 3) := by decide +kernel
theorem dX7_standingOfApproved_5 : decode cX7_standingOfApproved 5 = .ok (.istore_n 2, 1) := by decide +kernel
theorem dX7_standingOfApproved_6 : decode cX7_standingOfApproved 6 = .ok (.iload_n 2, 1) := by decide +kernel
theorem dX7_standingOfApproved_7 : decode cX7_standingOfApproved 7 = .ok (.bipush 118, 2) := by decide +kernel
theorem dX7_standingOfApproved_9 : decode cX7_standingOfApproved 9 = .ok (.if_icmp .ne 7, 3) := by decide +kernel
theorem dX7_standingOfApproved_12 : decode cX7_standingOfApproved 12 = .ok (.ldc_w 469, 3) := by decide +kernel
theorem dX7_standingOfApproved_15 : decode cX7_standingOfApproved 15 = .ok (.areturn, 1) := by decide +kernel
theorem dX7_standingOfApproved_16 : decode cX7_standingOfApproved 16 = .ok (.iload_n 2, 1) := by decide +kernel
theorem dX7_standingOfApproved_17 : decode cX7_standingOfApproved 17 = .ok (.bipush 99, 2) := by decide +kernel
theorem dX7_standingOfApproved_19 : decode cX7_standingOfApproved 19 = .ok (.if_icmp .ne 7, 3) := by decide +kernel
theorem dX7_standingOfApproved_22 : decode cX7_standingOfApproved 22 = .ok (.ldc_w 471, 3) := by decide +kernel
theorem dX7_standingOfApproved_25 : decode cX7_standingOfApproved 25 = .ok (.areturn, 1) := by decide +kernel
theorem dX7_standingOfApproved_26 : decode cX7_standingOfApproved 26 = .ok (.iload_n 2, 1) := by decide +kernel
theorem dX7_standingOfApproved_27 : decode cX7_standingOfApproved 27 = .ok (.bipush 116, 2) := by decide +kernel
theorem dX7_standingOfApproved_29 : decode cX7_standingOfApproved 29 = .ok (.if_icmp .ne 9, 3) := by decide +kernel
theorem dX7_standingOfApproved_32 : decode cX7_standingOfApproved 32 = .ok (.ldc_w 473, 3) := by decide +kernel
theorem dX7_standingOfApproved_35 : decode cX7_standingOfApproved 35 = .ok (.goto 6, 3) := by decide +kernel
theorem dX7_standingOfApproved_38 : decode cX7_standingOfApproved 38 = .ok (.ldc_w 475, 3) := by decide +kernel
theorem dX7_standingOfApproved_41 : decode cX7_standingOfApproved 41 = .ok (.areturn, 1) := by decide +kernel
theorem dX7_floatBits_0 : decode cX7_floatBits 0 = .ok (.fload_n 0, 1) := by decide +kernel
theorem dX7_floatBits_1 : decode cX7_floatBits 1 = .ok (.fconst 0, 1) := by decide +kernel
theorem dX7_floatBits_2 : decode cX7_floatBits 2 = .ok (.fcmp .g, 1) := by decide +kernel
theorem dX7_floatBits_3 : decode cX7_floatBits 3 = .ok (.ifCond .gt 5, 3) := by decide +kernel
theorem dX7_floatBits_6 : decode cX7_floatBits 6 = .ok (.iconst 0, 1) := by decide +kernel
theorem dX7_floatBits_7 : decode cX7_floatBits 7 = .ok (.ireturn, 1) := by decide +kernel
theorem dX7_floatBits_8 : decode cX7_floatBits 8 = .ok (.fload_n 0, 1) := by decide +kernel
theorem dX7_floatBits_9 : decode cX7_floatBits 9 = .ok (.f2d, 1) := by decide +kernel
theorem dX7_floatBits_10 : decode cX7_floatBits 10 = .ok (.invokestatic 324, 3) := by decide +kernel
theorem dX7_floatBits_13 : decode cX7_floatBits 13 = .ok (.lstore_n 1, 1) := by decide +kernel
theorem dX7_floatBits_14 : decode cX7_floatBits 14 = .ok (.lload_n 1, 1) := by decide +kernel
theorem dX7_floatBits_15 : decode cX7_floatBits 15 = .ok (.bipush 52, 2) := by decide +kernel
theorem dX7_floatBits_17 : decode cX7_floatBits 17 = .ok (.lushr, 1) := by decide +kernel
theorem dX7_floatBits_18 : decode cX7_floatBits 18 = .ok (.l2i, 1) := by decide +kernel
theorem dX7_floatBits_19 : decode cX7_floatBits 19 = .ok (.sipush 1023, 3) := by decide +kernel
theorem dX7_floatBits_22 : decode cX7_floatBits 22 = .ok (.isub, 1) := by decide +kernel
theorem dX7_floatBits_23 : decode cX7_floatBits 23 = .ok (.bipush 127, 2) := by decide +kernel
theorem dX7_floatBits_25 : decode cX7_floatBits 25 = .ok (.iadd, 1) := by decide +kernel
theorem dX7_floatBits_26 : decode cX7_floatBits 26 = .ok (.istore_n 3, 1) := by decide +kernel
theorem dX7_floatBits_27 : decode cX7_floatBits 27 = .ok (.lload_n 1, 1) := by decide +kernel
theorem dX7_floatBits_28 : decode cX7_floatBits 28 = .ok (.bipush 29, 2) := by decide +kernel
theorem dX7_floatBits_30 : decode cX7_floatBits 30 = .ok (.lushr, 1) := by decide +kernel
theorem dX7_floatBits_31 : decode cX7_floatBits 31 = .ok (.l2i, 1) := by decide +kernel
theorem dX7_floatBits_32 : decode cX7_floatBits 32 = .ok (.ldc_w 477, 3) := by decide +kernel
theorem dX7_floatBits_35 : decode cX7_floatBits 35 = .ok (.iand, 1) := by decide +kernel
theorem dX7_floatBits_36 : decode cX7_floatBits 36 = .ok (.istore 4, 2) := by decide +kernel
theorem dX7_floatBits_38 : decode cX7_floatBits 38 = .ok (.iload_n 3, 1) := by decide +kernel
theorem dX7_floatBits_39 : decode cX7_floatBits 39 = .ok (.bipush 23, 2) := by decide +kernel
theorem dX7_floatBits_41 : decode cX7_floatBits 41 = .ok (.ishl, 1) := by decide +kernel
theorem dX7_floatBits_42 : decode cX7_floatBits 42 = .ok (.iload 4, 2) := by decide +kernel
theorem dX7_floatBits_44 : decode cX7_floatBits 44 = .ok (.ior, 1) := by decide +kernel
theorem dX7_floatBits_45 : decode cX7_floatBits 45 = .ok (.ireturn, 1) := by decide +kernel
theorem dX7_doubleBits_0 : decode cX7_doubleBits 0 = .ok (.dload_n 0, 1) := by decide +kernel
theorem dX7_doubleBits_1 : decode cX7_doubleBits 1 = .ok (.dconst 0, 1) := by decide +kernel
theorem dX7_doubleBits_2 : decode cX7_doubleBits 2 = .ok (.dcmp .g, 1) := by decide +kernel
theorem dX7_doubleBits_3 : decode cX7_doubleBits 3 = .ok (.ifCond .gt 5, 3) := by decide +kernel
theorem dX7_doubleBits_6 : decode cX7_doubleBits 6 = .ok (.lconst 0, 1) := by decide +kernel
theorem dX7_doubleBits_7 : decode cX7_doubleBits 7 = .ok (.lreturn, 1) := by decide +kernel
theorem dX7_doubleBits_8 : decode cX7_doubleBits 8 = .ok (.dload_n 0, 1) := by decide +kernel
theorem dX7_doubleBits_9 : decode cX7_doubleBits 9 = .ok (.dstore_n 2, 1) := by decide +kernel
theorem dX7_doubleBits_10 : decode cX7_doubleBits 10 = .ok (.ldc2_w 478, 3) := by decide +kernel
theorem dX7_doubleBits_13 : decode cX7_doubleBits 13 = .ok (.lstore 4, 2) := by decide +kernel
theorem dX7_doubleBits_15 : decode cX7_doubleBits 15 = .ok (.iconst 0, 1) := by decide +kernel
theorem dX7_doubleBits_16 : decode cX7_doubleBits 16 = .ok (.istore 6, 2) := by decide +kernel
theorem dX7_doubleBits_18 : decode cX7_doubleBits 18 = .ok (.iload 6, 2) := by decide +kernel
theorem dX7_doubleBits_20 : decode cX7_doubleBits 20 = .ok (.sipush 1100, 3) := by decide +kernel
theorem dX7_doubleBits_23 : decode cX7_doubleBits 23 = .ok (.if_icmp .ge 29, 3) := by decide +kernel
theorem dX7_doubleBits_26 : decode cX7_doubleBits 26 = .ok (.dload_n 2, 1) := by decide +kernel
theorem dX7_doubleBits_27 : decode cX7_doubleBits 27 = .ok (.ldc2_w 480, 3) := by decide +kernel
theorem dX7_doubleBits_30 : decode cX7_doubleBits 30 = .ok (.dcmp .l, 1) := by decide +kernel
theorem dX7_doubleBits_31 : decode cX7_doubleBits 31 = .ok (.ifCond .lt 21, 3) := by decide +kernel
theorem dX7_doubleBits_34 : decode cX7_doubleBits 34 = .ok (.dload_n 2, 1) := by decide +kernel
theorem dX7_doubleBits_35 : decode cX7_doubleBits 35 = .ok (.ldc2_w 480, 3) := by decide +kernel
theorem dX7_doubleBits_38 : decode cX7_doubleBits 38 = .ok (.ddiv, 1) := by decide +kernel
theorem dX7_doubleBits_39 : decode cX7_doubleBits 39 = .ok (.dstore_n 2, 1) := by decide +kernel
theorem dX7_doubleBits_40 : decode cX7_doubleBits 40 = .ok (.lload 4, 2) := by decide +kernel
theorem dX7_doubleBits_42 : decode cX7_doubleBits 42 = .ok (.lconst 1, 1) := by decide +kernel
theorem dX7_doubleBits_43 : decode cX7_doubleBits 43 = .ok (.ladd, 1) := by decide +kernel
theorem dX7_doubleBits_44 : decode cX7_doubleBits 44 = .ok (.lstore 4, 2) := by decide +kernel
theorem dX7_doubleBits_46 : decode cX7_doubleBits 46 = .ok (.iinc 6 1, 3) := by decide +kernel
theorem dX7_doubleBits_49 : decode cX7_doubleBits 49 = .ok (.goto (-31), 3) := by decide +kernel
theorem dX7_doubleBits_52 : decode cX7_doubleBits 52 = .ok (.iconst 0, 1) := by decide +kernel
theorem dX7_doubleBits_53 : decode cX7_doubleBits 53 = .ok (.istore 6, 2) := by decide +kernel
theorem dX7_doubleBits_55 : decode cX7_doubleBits 55 = .ok (.iload 6, 2) := by decide +kernel
theorem dX7_doubleBits_57 : decode cX7_doubleBits 57 = .ok (.sipush 1100, 3) := by decide +kernel
theorem dX7_doubleBits_60 : decode cX7_doubleBits 60 = .ok (.if_icmp .ge 27, 3) := by decide +kernel
theorem dX7_doubleBits_63 : decode cX7_doubleBits 63 = .ok (.dload_n 2, 1) := by decide +kernel
theorem dX7_doubleBits_64 : decode cX7_doubleBits 64 = .ok (.dconst 1, 1) := by decide +kernel
theorem dX7_doubleBits_65 : decode cX7_doubleBits 65 = .ok (.dcmp .g, 1) := by decide +kernel
theorem dX7_doubleBits_66 : decode cX7_doubleBits 66 = .ok (.ifCond .ge 21, 3) := by decide +kernel
theorem dX7_doubleBits_69 : decode cX7_doubleBits 69 = .ok (.dload_n 2, 1) := by decide +kernel
theorem dX7_doubleBits_70 : decode cX7_doubleBits 70 = .ok (.ldc2_w 480, 3) := by decide +kernel
theorem dX7_doubleBits_73 : decode cX7_doubleBits 73 = .ok (.dmul, 1) := by decide +kernel
theorem dX7_doubleBits_74 : decode cX7_doubleBits 74 = .ok (.dstore_n 2, 1) := by decide +kernel
theorem dX7_doubleBits_75 : decode cX7_doubleBits 75 = .ok (.lload 4, 2) := by decide +kernel
theorem dX7_doubleBits_77 : decode cX7_doubleBits 77 = .ok (.lconst 1, 1) := by decide +kernel
theorem dX7_doubleBits_78 : decode cX7_doubleBits 78 = .ok (.lsub, 1) := by decide +kernel
theorem dX7_doubleBits_79 : decode cX7_doubleBits 79 = .ok (.lstore 4, 2) := by decide +kernel
theorem dX7_doubleBits_81 : decode cX7_doubleBits 81 = .ok (.iinc 6 1, 3) := by decide +kernel
theorem dX7_doubleBits_84 : decode cX7_doubleBits 84 = .ok (.goto (-29), 3) := by decide +kernel
theorem dX7_doubleBits_87 : decode cX7_doubleBits 87 = .ok (.dload_n 2, 1) := by decide +kernel
theorem dX7_doubleBits_88 : decode cX7_doubleBits 88 = .ok (.dconst 1, 1) := by decide +kernel
theorem dX7_doubleBits_89 : decode cX7_doubleBits 89 = .ok (.dsub, 1) := by decide +kernel
theorem dX7_doubleBits_90 : decode cX7_doubleBits 90 = .ok (.ldc2_w 482, 3) := by decide +kernel
theorem dX7_doubleBits_93 : decode cX7_doubleBits 93 = .ok (.dmul, 1) := by decide +kernel
theorem dX7_doubleBits_94 : decode cX7_doubleBits 94 = .ok (.d2l, 1) := by decide +kernel
theorem dX7_doubleBits_95 : decode cX7_doubleBits 95 = .ok (.lstore 6, 2) := by decide +kernel
theorem dX7_doubleBits_97 : decode cX7_doubleBits 97 = .ok (.lload 4, 2) := by decide +kernel
theorem dX7_doubleBits_99 : decode cX7_doubleBits 99 = .ok (.bipush 52, 2) := by decide +kernel
theorem dX7_doubleBits_101 : decode cX7_doubleBits 101 = .ok (.lshl, 1) := by decide +kernel
theorem dX7_doubleBits_102 : decode cX7_doubleBits 102 = .ok (.lload 6, 2) := by decide +kernel
theorem dX7_doubleBits_104 : decode cX7_doubleBits 104 = .ok (.lor, 1) := by decide +kernel
theorem dX7_doubleBits_105 : decode cX7_doubleBits 105 = .ok (.lreturn, 1) := by decide +kernel
theorem dL_at_0 : decode cL_at 0 = .ok (.iload_n 1, 1) := by decide +kernel
theorem dL_at_1 : decode cL_at 1 = .ok (.aload_n 0, 1) := by decide +kernel
theorem dL_at_2 : decode cL_at 2 = .ok (.arraylength, 1) := by decide +kernel
theorem dL_at_3 : decode cL_at 3 = .ok (.if_icmp .ge 9, 3) := by decide +kernel
theorem dL_at_6 : decode cL_at 6 = .ok (.aload_n 0, 1) := by decide +kernel
theorem dL_at_7 : decode cL_at 7 = .ok (.iload_n 1, 1) := by decide +kernel
theorem dL_at_8 : decode cL_at 8 = .ok (.iaload, 1) := by decide +kernel
theorem dL_at_9 : decode cL_at 9 = .ok (.goto 4, 3) := by decide +kernel
theorem dL_at_12 : decode cL_at 12 = .ok (.iconst 0, 1) := by decide +kernel
theorem dL_at_13 : decode cL_at 13 = .ok (.ireturn, 1) := by decide +kernel
theorem dL_some_0 : decode cL_some 0 = .ok (.iload_n 0, 1) := by decide +kernel
theorem dL_some_1 : decode cL_some 1 = .ok (.iload_n 1, 1) := by decide +kernel
theorem dL_some_2 : decode cL_some 2 = .ok (.irem, 1) := by decide +kernel
theorem dL_some_3 : decode cL_some 3 = .ok (.istore_n 2, 1) := by decide +kernel
theorem dL_some_4 : decode cL_some 4 = .ok (.iload_n 2, 1) := by decide +kernel
theorem dL_some_5 : decode cL_some 5 = .ok (.ifCond .ge 9, 3) := by decide +kernel
theorem dL_some_8 : decode cL_some 8 = .ok (.iload_n 2, 1) := by decide +kernel
theorem dL_some_9 : decode cL_some 9 = .ok (.iload_n 1, 1) := by decide +kernel
theorem dL_some_10 : decode cL_some 10 = .ok (.iadd, 1) := by decide +kernel
theorem dL_some_11 : decode cL_some 11 = .ok (.goto 4, 3) := by decide +kernel
theorem dL_some_14 : decode cL_some 14 = .ok (.iload_n 2, 1) := by decide +kernel
theorem dL_some_15 : decode cL_some 15 = .ok (.ireturn, 1) := by decide +kernel
theorem dL_build_0 : decode cL_build 0 = .ok (.aload_n 1, 1) := by decide +kernel
theorem dL_build_1 : decode cL_build 1 = .ok (.arraylength, 1) := by decide +kernel
theorem dL_build_2 : decode cL_build 2 = .ok (.iconst 4, 1) := by decide +kernel
theorem dL_build_3 : decode cL_build 3 = .ok (.if_icmp .ne 22, 3) := by decide +kernel
theorem dL_build_6 : decode cL_build 6 = .ok (.aload_n 0, 1) := by decide +kernel
theorem dL_build_7 : decode cL_build 7 = .ok (.aload_n 1, 1) := by decide +kernel
theorem dL_build_8 : decode cL_build 8 = .ok (.iconst 0, 1) := by decide +kernel
theorem dL_build_9 : decode cL_build 9 = .ok (.iaload, 1) := by decide +kernel
theorem dL_build_10 : decode cL_build 10 = .ok (.aload_n 1, 1) := by decide +kernel
theorem dL_build_11 : decode cL_build 11 = .ok (.iconst 1, 1) := by decide +kernel
theorem dL_build_12 : decode cL_build 12 = .ok (.iaload, 1) := by decide +kernel
theorem dL_build_13 : decode cL_build 13 = .ok (.aload_n 1, 1) := by decide +kernel
theorem dL_build_14 : decode cL_build 14 = .ok (.iconst 2, 1) := by decide +kernel
theorem dL_build_15 : decode cL_build 15 = .ok (.iaload, 1) := by decide +kernel
theorem dL_build_16 : decode cL_build 16 = .ok (.aload_n 1, 1) := by decide +kernel
theorem dL_build_17 : decode cL_build 17 = .ok (.iconst 3, 1) := by decide +kernel
theorem dL_build_18 : decode cL_build 18 = .ok (.iaload, 1) := by decide +kernel
theorem dL_build_19 : decode cL_build 19 = .ok (.invokevirtual 7, 3) := by decide +kernel
theorem dL_build_22 : decode cL_build 22 = .ok (.goto 25, 3) := by decide +kernel
theorem dL_build_25 : decode cL_build 25 = .ok (.aload_n 0, 1) := by decide +kernel
theorem dL_build_26 : decode cL_build 26 = .ok (.aload_n 1, 1) := by decide +kernel
theorem dL_build_27 : decode cL_build 27 = .ok (.iconst 0, 1) := by decide +kernel
theorem dL_build_28 : decode cL_build 28 = .ok (.iaload, 1) := by decide +kernel
theorem dL_build_29 : decode cL_build 29 = .ok (.aload_n 1, 1) := by decide +kernel
theorem dL_build_30 : decode cL_build 30 = .ok (.iconst 1, 1) := by decide +kernel
theorem dL_build_31 : decode cL_build 31 = .ok (.iaload, 1) := by decide +kernel
theorem dL_build_32 : decode cL_build 32 = .ok (.aload_n 1, 1) := by decide +kernel
theorem dL_build_33 : decode cL_build 33 = .ok (.iconst 2, 1) := by decide +kernel
theorem dL_build_34 : decode cL_build 34 = .ok (.iaload, 1) := by decide +kernel
theorem dL_build_35 : decode cL_build 35 = .ok (.aload_n 1, 1) := by decide +kernel
theorem dL_build_36 : decode cL_build 36 = .ok (.iconst 3, 1) := by decide +kernel
theorem dL_build_37 : decode cL_build 37 = .ok (.iaload, 1) := by decide +kernel
theorem dL_build_38 : decode cL_build 38 = .ok (.aload_n 1, 1) := by decide +kernel
theorem dL_build_39 : decode cL_build 39 = .ok (.iconst 4, 1) := by decide +kernel
theorem dL_build_40 : decode cL_build 40 = .ok (.iaload, 1) := by decide +kernel
theorem dL_build_41 : decode cL_build 41 = .ok (.aload_n 1, 1) := by decide +kernel
theorem dL_build_42 : decode cL_build 42 = .ok (.iconst 5, 1) := by decide +kernel
theorem dL_build_43 : decode cL_build 43 = .ok (.iaload, 1) := by decide +kernel
theorem dL_build_44 : decode cL_build 44 = .ok (.invokevirtual 13, 3) := by decide +kernel
theorem dL_build_47 : decode cL_build 47 = .ok (.ireturn, 1) := by decide +kernel
theorem dL_build_48 : decode cL_build 48 = .ok (.astore_n 2, 1) := by decide +kernel
theorem dL_build_49 : decode cL_build 49 = .ok (.sipush (-1001), 3) := by decide +kernel
theorem dL_build_52 : decode cL_build 52 = .ok (.ireturn, 1) := by decide +kernel
theorem dL_build_53 : decode cL_build 53 = .ok (.astore_n 2, 1) := by decide +kernel
theorem dL_build_54 : decode cL_build 54 = .ok (.sipush (-1002), 3) := by decide +kernel
theorem dL_build_57 : decode cL_build 57 = .ok (.ireturn, 1) := by decide +kernel
theorem dL_build_58 : decode cL_build 58 = .ok (.astore_n 2, 1) := by decide +kernel
theorem dL_build_59 : decode cL_build 59 = .ok (.sipush (-1003), 3) := by decide +kernel
theorem dL_build_62 : decode cL_build 62 = .ok (.ireturn, 1) := by decide +kernel
theorem dL_three_0 : decode cL_three 0 = .ok (.iload_n 1, 1) := by decide +kernel
theorem dL_three_1 : decode cL_three 1 = .ok (.bipush 100, 2) := by decide +kernel
theorem dL_three_3 : decode cL_three 3 = .ok (.if_icmp .ne 14, 3) := by decide +kernel
theorem dL_three_6 : decode cL_three 6 = .ok (.aload_n 0, 1) := by decide +kernel
theorem dL_three_7 : decode cL_three 7 = .ok (.iload_n 2, 1) := by decide +kernel
theorem dL_three_8 : decode cL_three 8 = .ok (.iload_n 3, 1) := by decide +kernel
theorem dL_three_9 : decode cL_three 9 = .ok (.iload 4, 2) := by decide +kernel
theorem dL_three_11 : decode cL_three 11 = .ok (.invokevirtual 23, 3) := by decide +kernel
theorem dL_three_14 : decode cL_three 14 = .ok (.goto 11, 3) := by decide +kernel
theorem dL_three_17 : decode cL_three 17 = .ok (.aload_n 0, 1) := by decide +kernel
theorem dL_three_18 : decode cL_three 18 = .ok (.iload_n 2, 1) := by decide +kernel
theorem dL_three_19 : decode cL_three 19 = .ok (.iload_n 3, 1) := by decide +kernel
theorem dL_three_20 : decode cL_three 20 = .ok (.iload 4, 2) := by decide +kernel
theorem dL_three_22 : decode cL_three 22 = .ok (.invokevirtual 27, 3) := by decide +kernel
theorem dL_three_25 : decode cL_three 25 = .ok (.ireturn, 1) := by decide +kernel
theorem dL_three_26 : decode cL_three 26 = .ok (.astore 5, 2) := by decide +kernel
theorem dL_three_28 : decode cL_three 28 = .ok (.sipush (-1001), 3) := by decide +kernel
theorem dL_three_31 : decode cL_three 31 = .ok (.ireturn, 1) := by decide +kernel
theorem dL_three_32 : decode cL_three 32 = .ok (.astore 5, 2) := by decide +kernel
theorem dL_three_34 : decode cL_three 34 = .ok (.sipush (-1002), 3) := by decide +kernel
theorem dL_three_37 : decode cL_three 37 = .ok (.ireturn, 1) := by decide +kernel
theorem dL_three_38 : decode cL_three 38 = .ok (.astore 5, 2) := by decide +kernel
theorem dL_three_40 : decode cL_three 40 = .ok (.sipush (-1003), 3) := by decide +kernel
theorem dL_three_43 : decode cL_three 43 = .ok (.ireturn, 1) := by decide +kernel
theorem dL_three_44 : decode cL_three 44 = .ok (.astore 5, 2) := by decide +kernel
theorem dL_three_46 : decode cL_three 46 = .ok (.sipush (-1004), 3) := by decide +kernel
theorem dL_three_49 : decode cL_three 49 = .ok (.ireturn, 1) := by decide +kernel
theorem dL_of_0 : decode cL_of 0 = .ok (.iload_n 2, 1) := by decide +kernel
theorem dL_of_1 : decode cL_of 1 = .ok (.tableswitch 105 0 8 #[51, 57, 63, 69, 75, 81, 87, 93, 99], 51) := by decide +kernel
theorem dL_of_52 : decode cL_of 52 = .ok (.aload_n 0, 1) := by decide +kernel
theorem dL_of_53 : decode cL_of 53 = .ok (.iload_n 1, 1) := by decide +kernel
theorem dL_of_54 : decode cL_of 54 = .ok (.invokevirtual 32, 3) := by decide +kernel
theorem dL_of_57 : decode cL_of 57 = .ok (.ireturn, 1) := by decide +kernel
theorem dL_of_58 : decode cL_of 58 = .ok (.aload_n 0, 1) := by decide +kernel
theorem dL_of_59 : decode cL_of 59 = .ok (.iload_n 1, 1) := by decide +kernel
theorem dL_of_60 : decode cL_of 60 = .ok (.invokevirtual 36, 3) := by decide +kernel
theorem dL_of_63 : decode cL_of 63 = .ok (.ireturn, 1) := by decide +kernel
theorem dL_of_64 : decode cL_of 64 = .ok (.aload_n 0, 1) := by decide +kernel
theorem dL_of_65 : decode cL_of 65 = .ok (.iload_n 1, 1) := by decide +kernel
theorem dL_of_66 : decode cL_of 66 = .ok (.invokevirtual 39, 3) := by decide +kernel
theorem dL_of_69 : decode cL_of 69 = .ok (.ireturn, 1) := by decide +kernel
theorem dL_of_70 : decode cL_of 70 = .ok (.aload_n 0, 1) := by decide +kernel
theorem dL_of_71 : decode cL_of 71 = .ok (.iload_n 1, 1) := by decide +kernel
theorem dL_of_72 : decode cL_of 72 = .ok (.invokevirtual 43, 3) := by decide +kernel
theorem dL_of_75 : decode cL_of 75 = .ok (.ireturn, 1) := by decide +kernel
theorem dL_of_76 : decode cL_of 76 = .ok (.aload_n 0, 1) := by decide +kernel
theorem dL_of_77 : decode cL_of 77 = .ok (.iload_n 1, 1) := by decide +kernel
theorem dL_of_78 : decode cL_of 78 = .ok (.invokevirtual 46, 3) := by decide +kernel
theorem dL_of_81 : decode cL_of 81 = .ok (.ireturn, 1) := by decide +kernel
theorem dL_of_82 : decode cL_of 82 = .ok (.aload_n 0, 1) := by decide +kernel
theorem dL_of_83 : decode cL_of 83 = .ok (.iload_n 1, 1) := by decide +kernel
theorem dL_of_84 : decode cL_of 84 = .ok (.invokevirtual 49, 3) := by decide +kernel
theorem dL_of_87 : decode cL_of 87 = .ok (.ireturn, 1) := by decide +kernel
theorem dL_of_88 : decode cL_of 88 = .ok (.aload_n 0, 1) := by decide +kernel
theorem dL_of_89 : decode cL_of 89 = .ok (.iload_n 1, 1) := by decide +kernel
theorem dL_of_90 : decode cL_of 90 = .ok (.invokevirtual 52, 3) := by decide +kernel
theorem dL_of_93 : decode cL_of 93 = .ok (.ireturn, 1) := by decide +kernel
theorem dL_of_94 : decode cL_of 94 = .ok (.aload_n 0, 1) := by decide +kernel
theorem dL_of_95 : decode cL_of 95 = .ok (.iload_n 1, 1) := by decide +kernel
theorem dL_of_96 : decode cL_of 96 = .ok (.invokevirtual 55, 3) := by decide +kernel
theorem dL_of_99 : decode cL_of 99 = .ok (.ireturn, 1) := by decide +kernel
theorem dL_of_100 : decode cL_of 100 = .ok (.aload_n 0, 1) := by decide +kernel
theorem dL_of_101 : decode cL_of 101 = .ok (.iload_n 1, 1) := by decide +kernel
theorem dL_of_102 : decode cL_of 102 = .ok (.invokevirtual 58, 3) := by decide +kernel
theorem dL_of_105 : decode cL_of 105 = .ok (.ireturn, 1) := by decide +kernel
theorem dL_of_106 : decode cL_of 106 = .ok (.aload_n 0, 1) := by decide +kernel
theorem dL_of_107 : decode cL_of 107 = .ok (.iload_n 1, 1) := by decide +kernel
theorem dL_of_108 : decode cL_of 108 = .ok (.invokevirtual 61, 3) := by decide +kernel
theorem dL_of_111 : decode cL_of 111 = .ok (.ireturn, 1) := by decide +kernel
theorem dL_of_112 : decode cL_of 112 = .ok (.astore_n 3, 1) := by decide +kernel
theorem dL_of_113 : decode cL_of 113 = .ok (.sipush (-1001), 3) := by decide +kernel
theorem dL_of_116 : decode cL_of 116 = .ok (.ireturn, 1) := by decide +kernel
theorem dL_of_117 : decode cL_of 117 = .ok (.astore_n 3, 1) := by decide +kernel
theorem dL_of_118 : decode cL_of 118 = .ok (.sipush (-1003), 3) := by decide +kernel
theorem dL_of_121 : decode cL_of 121 = .ok (.ireturn, 1) := by decide +kernel
theorem dL_device_0 : decode cL_device 0 = .ok (.iload_n 2, 1) := by decide +kernel
theorem dL_device_1 : decode cL_device 1 = .ok (.ifCond .ne 11, 3) := by decide +kernel
theorem dL_device_4 : decode cL_device 4 = .ok (.aload_n 0, 1) := by decide +kernel
theorem dL_device_5 : decode cL_device 5 = .ok (.iload_n 1, 1) := by decide +kernel
theorem dL_device_6 : decode cL_device 6 = .ok (.invokevirtual 64, 3) := by decide +kernel
theorem dL_device_9 : decode cL_device 9 = .ok (.goto 34, 3) := by decide +kernel
theorem dL_device_12 : decode cL_device 12 = .ok (.iload_n 2, 1) := by decide +kernel
theorem dL_device_13 : decode cL_device 13 = .ok (.iconst 1, 1) := by decide +kernel
theorem dL_device_14 : decode cL_device 14 = .ok (.if_icmp .ne 11, 3) := by decide +kernel
theorem dL_device_17 : decode cL_device 17 = .ok (.aload_n 0, 1) := by decide +kernel
theorem dL_device_18 : decode cL_device 18 = .ok (.iload_n 1, 1) := by decide +kernel
theorem dL_device_19 : decode cL_device 19 = .ok (.invokevirtual 67, 3) := by decide +kernel
theorem dL_device_22 : decode cL_device 22 = .ok (.goto 21, 3) := by decide +kernel
theorem dL_device_25 : decode cL_device 25 = .ok (.iload_n 2, 1) := by decide +kernel
theorem dL_device_26 : decode cL_device 26 = .ok (.iconst 2, 1) := by decide +kernel
theorem dL_device_27 : decode cL_device 27 = .ok (.if_icmp .ne 11, 3) := by decide +kernel
theorem dL_device_30 : decode cL_device 30 = .ok (.aload_n 0, 1) := by decide +kernel
theorem dL_device_31 : decode cL_device 31 = .ok (.iload_n 1, 1) := by decide +kernel
theorem dL_device_32 : decode cL_device 32 = .ok (.invokevirtual 70, 3) := by decide +kernel
theorem dL_device_35 : decode cL_device 35 = .ok (.goto 8, 3) := by decide +kernel
theorem dL_device_38 : decode cL_device 38 = .ok (.aload_n 0, 1) := by decide +kernel
theorem dL_device_39 : decode cL_device 39 = .ok (.iload_n 1, 1) := by decide +kernel
theorem dL_device_40 : decode cL_device 40 = .ok (.invokevirtual 73, 3) := by decide +kernel
theorem dL_device_43 : decode cL_device 43 = .ok (.ireturn, 1) := by decide +kernel
theorem dL_device_44 : decode cL_device 44 = .ok (.astore_n 3, 1) := by decide +kernel
theorem dL_device_45 : decode cL_device 45 = .ok (.sipush (-1001), 3) := by decide +kernel
theorem dL_device_48 : decode cL_device 48 = .ok (.ireturn, 1) := by decide +kernel
theorem dL_device_49 : decode cL_device 49 = .ok (.astore_n 3, 1) := by decide +kernel
theorem dL_device_50 : decode cL_device 50 = .ok (.sipush (-1003), 3) := by decide +kernel
theorem dL_device_53 : decode cL_device 53 = .ok (.ireturn, 1) := by decide +kernel
theorem dL_both_0 : decode cL_both 0 = .ok (.iload_n 1, 1) := by decide +kernel
theorem dL_both_1 : decode cL_both 1 = .ok (.lookupswitch 110 #[(98, 73), (99, 51), (111, 80), (114, 66), (117, 95)], 51) := by decide +kernel
theorem dL_both_52 : decode cL_both 52 = .ok (.aload_n 0, 1) := by decide +kernel
theorem dL_both_53 : decode cL_both 53 = .ok (.iload_n 2, 1) := by decide +kernel
theorem dL_both_54 : decode cL_both 54 = .ok (.iload_n 3, 1) := by decide +kernel
theorem dL_both_55 : decode cL_both 55 = .ok (.invokevirtual 76, 3) := by decide +kernel
theorem dL_both_58 : decode cL_both 58 = .ok (.ifCond .eq 7, 3) := by decide +kernel
theorem dL_both_61 : decode cL_both 61 = .ok (.iconst 1, 1) := by decide +kernel
theorem dL_both_62 : decode cL_both 62 = .ok (.goto 4, 3) := by decide +kernel
theorem dL_both_65 : decode cL_both 65 = .ok (.iconst 0, 1) := by decide +kernel
theorem dL_both_66 : decode cL_both 66 = .ok (.ireturn, 1) := by decide +kernel
theorem dL_both_67 : decode cL_both 67 = .ok (.aload_n 0, 1) := by decide +kernel
theorem dL_both_68 : decode cL_both 68 = .ok (.iload_n 2, 1) := by decide +kernel
theorem dL_both_69 : decode cL_both 69 = .ok (.iload_n 3, 1) := by decide +kernel
theorem dL_both_70 : decode cL_both 70 = .ok (.invokevirtual 80, 3) := by decide +kernel
theorem dL_both_73 : decode cL_both 73 = .ok (.ireturn, 1) := by decide +kernel
theorem dL_both_74 : decode cL_both 74 = .ok (.aload_n 0, 1) := by decide +kernel
theorem dL_both_75 : decode cL_both 75 = .ok (.iload_n 2, 1) := by decide +kernel
theorem dL_both_76 : decode cL_both 76 = .ok (.iload_n 3, 1) := by decide +kernel
theorem dL_both_77 : decode cL_both 77 = .ok (.invokevirtual 84, 3) := by decide +kernel
theorem dL_both_80 : decode cL_both 80 = .ok (.ireturn, 1) := by decide +kernel
theorem dL_both_81 : decode cL_both 81 = .ok (.aload_n 0, 1) := by decide +kernel
theorem dL_both_82 : decode cL_both 82 = .ok (.iload_n 2, 1) := by decide +kernel
theorem dL_both_83 : decode cL_both 83 = .ok (.iload_n 3, 1) := by decide +kernel
theorem dL_both_84 : decode cL_both 84 = .ok (.invokevirtual 87, 3) := by decide +kernel
theorem dL_both_87 : decode cL_both 87 = .ok (.ifCond .eq 7, 3) := by decide +kernel
theorem dL_both_90 : decode cL_both 90 = .ok (.iconst 1, 1) := by decide +kernel
theorem dL_both_91 : decode cL_both 91 = .ok (.goto 4, 3) := by decide +kernel
theorem dL_both_94 : decode cL_both 94 = .ok (.iconst 0, 1) := by decide +kernel
theorem dL_both_95 : decode cL_both 95 = .ok (.ireturn, 1) := by decide +kernel
theorem dL_both_96 : decode cL_both 96 = .ok (.aload_n 0, 1) := by decide +kernel
theorem dL_both_97 : decode cL_both 97 = .ok (.iload_n 2, 1) := by decide +kernel
theorem dL_both_98 : decode cL_both 98 = .ok (.iload_n 3, 1) := by decide +kernel
theorem dL_both_99 : decode cL_both 99 = .ok (.invokevirtual 90, 3) := by decide +kernel
theorem dL_both_102 : decode cL_both 102 = .ok (.ifCond .eq 7, 3) := by decide +kernel
theorem dL_both_105 : decode cL_both 105 = .ok (.iconst 1, 1) := by decide +kernel
theorem dL_both_106 : decode cL_both 106 = .ok (.goto 4, 3) := by decide +kernel
theorem dL_both_109 : decode cL_both 109 = .ok (.iconst 0, 1) := by decide +kernel
theorem dL_both_110 : decode cL_both 110 = .ok (.ireturn, 1) := by decide +kernel
theorem dL_both_111 : decode cL_both 111 = .ok (.aload_n 0, 1) := by decide +kernel
theorem dL_both_112 : decode cL_both 112 = .ok (.iload_n 2, 1) := by decide +kernel
theorem dL_both_113 : decode cL_both 113 = .ok (.iload_n 3, 1) := by decide +kernel
theorem dL_both_114 : decode cL_both 114 = .ok (.invokevirtual 93, 3) := by decide +kernel
theorem dL_both_117 : decode cL_both 117 = .ok (.ireturn, 1) := by decide +kernel
theorem dL_both_118 : decode cL_both 118 = .ok (.astore 4, 2) := by decide +kernel
theorem dL_both_120 : decode cL_both 120 = .ok (.sipush (-1001), 3) := by decide +kernel
theorem dL_both_123 : decode cL_both 123 = .ok (.ireturn, 1) := by decide +kernel
theorem dL_both_124 : decode cL_both 124 = .ok (.astore 4, 2) := by decide +kernel
theorem dL_both_126 : decode cL_both 126 = .ok (.sipush (-1002), 3) := by decide +kernel
theorem dL_both_129 : decode cL_both 129 = .ok (.ireturn, 1) := by decide +kernel
theorem dL_both_130 : decode cL_both 130 = .ok (.astore 4, 2) := by decide +kernel
theorem dL_both_132 : decode cL_both 132 = .ok (.sipush (-1003), 3) := by decide +kernel
theorem dL_both_135 : decode cL_both 135 = .ok (.ireturn, 1) := by decide +kernel
theorem dL_both_136 : decode cL_both 136 = .ok (.astore 4, 2) := by decide +kernel
theorem dL_both_138 : decode cL_both 138 = .ok (.sipush (-1004), 3) := by decide +kernel
theorem dL_both_141 : decode cL_both 141 = .ok (.ireturn, 1) := by decide +kernel
theorem dL_sets_0 : decode cL_sets 0 = .ok (.iload_n 1, 1) := by decide +kernel
theorem dL_sets_1 : decode cL_sets 1 = .ok (.lookupswitch 81 #[(98, 57), (100, 75), (111, 63), (114, 69), (115, 51)], 51) := by decide +kernel
theorem dL_sets_52 : decode cL_sets 52 = .ok (.aload_n 0, 1) := by decide +kernel
theorem dL_sets_53 : decode cL_sets 53 = .ok (.iload_n 2, 1) := by decide +kernel
theorem dL_sets_54 : decode cL_sets 54 = .ok (.invokevirtual 96, 3) := by decide +kernel
theorem dL_sets_57 : decode cL_sets 57 = .ok (.ireturn, 1) := by decide +kernel
theorem dL_sets_58 : decode cL_sets 58 = .ok (.aload_n 0, 1) := by decide +kernel
theorem dL_sets_59 : decode cL_sets 59 = .ok (.iload_n 2, 1) := by decide +kernel
theorem dL_sets_60 : decode cL_sets 60 = .ok (.invokevirtual 99, 3) := by decide +kernel
theorem dL_sets_63 : decode cL_sets 63 = .ok (.ireturn, 1) := by decide +kernel
theorem dL_sets_64 : decode cL_sets 64 = .ok (.aload_n 0, 1) := by decide +kernel
theorem dL_sets_65 : decode cL_sets 65 = .ok (.iload_n 2, 1) := by decide +kernel
theorem dL_sets_66 : decode cL_sets 66 = .ok (.invokevirtual 102, 3) := by decide +kernel
theorem dL_sets_69 : decode cL_sets 69 = .ok (.ireturn, 1) := by decide +kernel
theorem dL_sets_70 : decode cL_sets 70 = .ok (.aload_n 0, 1) := by decide +kernel
theorem dL_sets_71 : decode cL_sets 71 = .ok (.iload_n 2, 1) := by decide +kernel
theorem dL_sets_72 : decode cL_sets 72 = .ok (.invokevirtual 105, 3) := by decide +kernel
theorem dL_sets_75 : decode cL_sets 75 = .ok (.ireturn, 1) := by decide +kernel
theorem dL_sets_76 : decode cL_sets 76 = .ok (.aload_n 0, 1) := by decide +kernel
theorem dL_sets_77 : decode cL_sets 77 = .ok (.iload_n 2, 1) := by decide +kernel
theorem dL_sets_78 : decode cL_sets 78 = .ok (.invokevirtual 108, 3) := by decide +kernel
theorem dL_sets_81 : decode cL_sets 81 = .ok (.ireturn, 1) := by decide +kernel
theorem dL_sets_82 : decode cL_sets 82 = .ok (.aload_n 0, 1) := by decide +kernel
theorem dL_sets_83 : decode cL_sets 83 = .ok (.iload_n 2, 1) := by decide +kernel
theorem dL_sets_84 : decode cL_sets 84 = .ok (.i2c, 1) := by decide +kernel
theorem dL_sets_85 : decode cL_sets 85 = .ok (.invokevirtual 111, 3) := by decide +kernel
theorem dL_sets_88 : decode cL_sets 88 = .ok (.ireturn, 1) := by decide +kernel
theorem dL_sets_89 : decode cL_sets 89 = .ok (.astore_n 3, 1) := by decide +kernel
theorem dL_sets_90 : decode cL_sets 90 = .ok (.sipush (-1002), 3) := by decide +kernel
theorem dL_sets_93 : decode cL_sets 93 = .ok (.ireturn, 1) := by decide +kernel
theorem dL_sets_94 : decode cL_sets 94 = .ok (.astore_n 3, 1) := by decide +kernel
theorem dL_sets_95 : decode cL_sets 95 = .ok (.sipush (-1003), 3) := by decide +kernel
theorem dL_sets_98 : decode cL_sets 98 = .ok (.ireturn, 1) := by decide +kernel
theorem dL_asked_0 : decode cL_asked 0 = .ok (.iload_n 1, 1) := by decide +kernel
theorem dL_asked_1 : decode cL_asked 1 = .ok (.ifCond .ne 10, 3) := by decide +kernel
theorem dL_asked_4 : decode cL_asked 4 = .ok (.aload_n 0, 1) := by decide +kernel
theorem dL_asked_5 : decode cL_asked 5 = .ok (.invokevirtual 115, 3) := by decide +kernel
theorem dL_asked_8 : decode cL_asked 8 = .ok (.goto 19, 3) := by decide +kernel
theorem dL_asked_11 : decode cL_asked 11 = .ok (.iload_n 1, 1) := by decide +kernel
theorem dL_asked_12 : decode cL_asked 12 = .ok (.iconst 1, 1) := by decide +kernel
theorem dL_asked_13 : decode cL_asked 13 = .ok (.if_icmp .ne 10, 3) := by decide +kernel
theorem dL_asked_16 : decode cL_asked 16 = .ok (.aload_n 0, 1) := by decide +kernel
theorem dL_asked_17 : decode cL_asked 17 = .ok (.invokevirtual 119, 3) := by decide +kernel
theorem dL_asked_20 : decode cL_asked 20 = .ok (.goto 7, 3) := by decide +kernel
theorem dL_asked_23 : decode cL_asked 23 = .ok (.aload_n 0, 1) := by decide +kernel
theorem dL_asked_24 : decode cL_asked 24 = .ok (.invokevirtual 123, 3) := by decide +kernel
theorem dL_asked_27 : decode cL_asked 27 = .ok (.ireturn, 1) := by decide +kernel
theorem dL_asked_28 : decode cL_asked 28 = .ok (.astore_n 2, 1) := by decide +kernel
theorem dL_asked_29 : decode cL_asked 29 = .ok (.sipush (-1003), 3) := by decide +kernel
theorem dL_asked_32 : decode cL_asked 32 = .ok (.ireturn, 1) := by decide +kernel
theorem dL_group_0 : decode cL_group 0 = .ok (.iload_n 1, 1) := by decide +kernel
theorem dL_group_1 : decode cL_group 1 = .ok (.bipush (-9), 2) := by decide +kernel
theorem dL_group_3 : decode cL_group 3 = .ok (.if_icmp .ne 11, 3) := by decide +kernel
theorem dL_group_6 : decode cL_group 6 = .ok (.aload_n 0, 1) := by decide +kernel
theorem dL_group_7 : decode cL_group 7 = .ok (.iload_n 2, 1) := by decide +kernel
theorem dL_group_8 : decode cL_group 8 = .ok (.invokevirtual 126, 3) := by decide +kernel
theorem dL_group_11 : decode cL_group 11 = .ok (.goto 46, 3) := by decide +kernel
theorem dL_group_14 : decode cL_group 14 = .ok (.iload_n 2, 1) := by decide +kernel
theorem dL_group_15 : decode cL_group 15 = .ok (.iconst (-1), 1) := by decide +kernel
theorem dL_group_16 : decode cL_group 16 = .ok (.if_icmp .ne 11, 3) := by decide +kernel
theorem dL_group_19 : decode cL_group 19 = .ok (.aload_n 0, 1) := by decide +kernel
theorem dL_group_20 : decode cL_group 20 = .ok (.iload_n 1, 1) := by decide +kernel
theorem dL_group_21 : decode cL_group 21 = .ok (.invokevirtual 129, 3) := by decide +kernel
theorem dL_group_24 : decode cL_group 24 = .ok (.goto 33, 3) := by decide +kernel
theorem dL_group_27 : decode cL_group 27 = .ok (.iload_n 2, 1) := by decide +kernel
theorem dL_group_28 : decode cL_group 28 = .ok (.bipush (-2), 2) := by decide +kernel
theorem dL_group_30 : decode cL_group 30 = .ok (.if_icmp .ne 11, 3) := by decide +kernel
theorem dL_group_33 : decode cL_group 33 = .ok (.aload_n 0, 1) := by decide +kernel
theorem dL_group_34 : decode cL_group 34 = .ok (.iload_n 1, 1) := by decide +kernel
theorem dL_group_35 : decode cL_group 35 = .ok (.invokevirtual 132, 3) := by decide +kernel
theorem dL_group_38 : decode cL_group 38 = .ok (.goto 19, 3) := by decide +kernel
theorem dL_group_41 : decode cL_group 41 = .ok (.aload_n 0, 1) := by decide +kernel
theorem dL_group_42 : decode cL_group 42 = .ok (.iload_n 1, 1) := by decide +kernel
theorem dL_group_43 : decode cL_group 43 = .ok (.iload_n 2, 1) := by decide +kernel
theorem dL_group_44 : decode cL_group 44 = .ok (.bipush (-3), 2) := by decide +kernel
theorem dL_group_46 : decode cL_group 46 = .ok (.if_icmp .ne 7, 3) := by decide +kernel
theorem dL_group_49 : decode cL_group 49 = .ok (.iconst (-1), 1) := by decide +kernel
theorem dL_group_50 : decode cL_group 50 = .ok (.goto 4, 3) := by decide +kernel
theorem dL_group_53 : decode cL_group 53 = .ok (.iload_n 2, 1) := by decide +kernel
theorem dL_group_54 : decode cL_group 54 = .ok (.invokevirtual 135, 3) := by decide +kernel
theorem dL_group_57 : decode cL_group 57 = .ok (.ireturn, 1) := by decide +kernel
theorem dL_group_58 : decode cL_group 58 = .ok (.astore_n 3, 1) := by decide +kernel
theorem dL_group_59 : decode cL_group 59 = .ok (.sipush (-1001), 3) := by decide +kernel
theorem dL_group_62 : decode cL_group 62 = .ok (.ireturn, 1) := by decide +kernel
theorem dL_group_63 : decode cL_group 63 = .ok (.astore_n 3, 1) := by decide +kernel
theorem dL_group_64 : decode cL_group 64 = .ok (.sipush (-1005), 3) := by decide +kernel
theorem dL_group_67 : decode cL_group 67 = .ok (.ireturn, 1) := by decide +kernel
theorem dL_like_0 : decode cL_like 0 = .ok (.iload_n 2, 1) := by decide +kernel
theorem dL_like_1 : decode cL_like 1 = .ok (.bipush (-9), 2) := by decide +kernel
theorem dL_like_3 : decode cL_like 3 = .ok (.if_icmp .ne 11, 3) := by decide +kernel
theorem dL_like_6 : decode cL_like 6 = .ok (.aload_n 0, 1) := by decide +kernel
theorem dL_like_7 : decode cL_like 7 = .ok (.iload_n 1, 1) := by decide +kernel
theorem dL_like_8 : decode cL_like 8 = .ok (.invokevirtual 141, 3) := by decide +kernel
theorem dL_like_11 : decode cL_like 11 = .ok (.goto 9, 3) := by decide +kernel
theorem dL_like_14 : decode cL_like 14 = .ok (.aload_n 0, 1) := by decide +kernel
theorem dL_like_15 : decode cL_like 15 = .ok (.iload_n 1, 1) := by decide +kernel
theorem dL_like_16 : decode cL_like 16 = .ok (.iload_n 2, 1) := by decide +kernel
theorem dL_like_17 : decode cL_like 17 = .ok (.invokevirtual 145, 3) := by decide +kernel
theorem dL_like_20 : decode cL_like 20 = .ok (.freturn, 1) := by decide +kernel
theorem dL_like_21 : decode cL_like 21 = .ok (.astore_n 3, 1) := by decide +kernel
theorem dL_like_22 : decode cL_like 22 = .ok (.ldc 149, 2) := by decide +kernel
theorem dL_like_24 : decode cL_like 24 = .ok (.freturn, 1) := by decide +kernel
theorem dL_rating_0 : decode cL_rating 0 = .ok (.aload_n 0, 1) := by decide +kernel
theorem dL_rating_1 : decode cL_rating 1 = .ok (.iload_n 1, 1) := by decide +kernel
theorem dL_rating_2 : decode cL_rating 2 = .ok (.invokevirtual 150, 3) := by decide +kernel
theorem dL_rating_5 : decode cL_rating 5 = .ok (.dreturn, 1) := by decide +kernel
theorem dL_rating_6 : decode cL_rating 6 = .ok (.astore_n 2, 1) := by decide +kernel
theorem dL_rating_7 : decode cL_rating 7 = .ok (.ldc2_w 154, 3) := by decide +kernel
theorem dL_rating_10 : decode cL_rating 10 = .ok (.dreturn, 1) := by decide +kernel
theorem dL_rating_11 : decode cL_rating 11 = .ok (.astore_n 2, 1) := by decide +kernel
theorem dL_rating_12 : decode cL_rating 12 = .ok (.ldc2_w 158, 3) := by decide +kernel
theorem dL_rating_15 : decode cL_rating 15 = .ok (.dreturn, 1) := by decide +kernel
theorem dL_ratingBits_0 : decode cL_ratingBits 0 = .ok (.aload_n 0, 1) := by decide +kernel
theorem dL_ratingBits_1 : decode cL_ratingBits 1 = .ok (.iload_n 1, 1) := by decide +kernel
theorem dL_ratingBits_2 : decode cL_ratingBits 2 = .ok (.invokevirtual 160, 3) := by decide +kernel
theorem dL_ratingBits_5 : decode cL_ratingBits 5 = .ok (.lreturn, 1) := by decide +kernel
theorem dL_ratingBits_6 : decode cL_ratingBits 6 = .ok (.astore_n 2, 1) := by decide +kernel
theorem dL_ratingBits_7 : decode cL_ratingBits 7 = .ok (.ldc2_w 164, 3) := by decide +kernel
theorem dL_ratingBits_10 : decode cL_ratingBits 10 = .ok (.lreturn, 1) := by decide +kernel
theorem dL_ratingBits_11 : decode cL_ratingBits 11 = .ok (.astore_n 2, 1) := by decide +kernel
theorem dL_ratingBits_12 : decode cL_ratingBits 12 = .ok (.ldc2_w 166, 3) := by decide +kernel
theorem dL_ratingBits_15 : decode cL_ratingBits 15 = .ok (.lreturn, 1) := by decide +kernel
theorem dL_used_0 : decode cL_used 0 = .ok (.aload_n 0, 1) := by decide +kernel
theorem dL_used_1 : decode cL_used 1 = .ok (.invokevirtual 168, 3) := by decide +kernel
theorem dL_used_4 : decode cL_used 4 = .ok (.freturn, 1) := by decide +kernel
theorem dL_used_5 : decode cL_used 5 = .ok (.astore_n 1, 1) := by decide +kernel
theorem dL_used_6 : decode cL_used 6 = .ok (.ldc 149, 2) := by decide +kernel
theorem dL_used_8 : decode cL_used 8 = .ok (.freturn, 1) := by decide +kernel
theorem dL_builds_0 : decode cL_builds 0 = .ok (.iconst 0, 1) := by decide +kernel
theorem dL_builds_1 : decode cL_builds 1 = .ok (.istore_n 1, 1) := by decide +kernel
theorem dL_builds_2 : decode cL_builds 2 = .ok (.iload_n 1, 1) := by decide +kernel
theorem dL_builds_3 : decode cL_builds 3 = .ok (.bipush 10, 2) := by decide +kernel
theorem dL_builds_5 : decode cL_builds 5 = .ok (.if_icmp .ge 18, 3) := by decide +kernel
theorem dL_builds_8 : decode cL_builds 8 = .ok (.aload_n 0, 1) := by decide +kernel
theorem dL_builds_9 : decode cL_builds 9 = .ok (.iload_n 1, 1) := by decide +kernel
theorem dL_builds_10 : decode cL_builds 10 = .ok (.iconst 3, 1) := by decide +kernel
theorem dL_builds_11 : decode cL_builds 11 = .ok (.invokestatic 172, 3) := by decide +kernel
theorem dL_builds_14 : decode cL_builds 14 = .ok (.ifCond .lt 9, 3) := by decide +kernel
theorem dL_builds_17 : decode cL_builds 17 = .ok (.iinc 1 1, 3) := by decide +kernel
theorem dL_builds_20 : decode cL_builds 20 = .ok (.goto (-18), 3) := by decide +kernel
theorem dL_builds_23 : decode cL_builds 23 = .ok (.iload_n 1, 1) := by decide +kernel
theorem dL_builds_24 : decode cL_builds 24 = .ok (.ireturn, 1) := by decide +kernel
theorem dL_devices_0 : decode cL_devices 0 = .ok (.iconst 0, 1) := by decide +kernel
theorem dL_devices_1 : decode cL_devices 1 = .ok (.istore_n 1, 1) := by decide +kernel
theorem dL_devices_2 : decode cL_devices 2 = .ok (.iload_n 1, 1) := by decide +kernel
theorem dL_devices_3 : decode cL_devices 3 = .ok (.bipush 12, 2) := by decide +kernel
theorem dL_devices_5 : decode cL_devices 5 = .ok (.if_icmp .ge 20, 3) := by decide +kernel
theorem dL_devices_8 : decode cL_devices 8 = .ok (.aload_n 0, 1) := by decide +kernel
theorem dL_devices_9 : decode cL_devices 9 = .ok (.bipush 111, 2) := by decide +kernel
theorem dL_devices_11 : decode cL_devices 11 = .ok (.iload_n 1, 1) := by decide +kernel
theorem dL_devices_12 : decode cL_devices 12 = .ok (.iconst 0, 1) := by decide +kernel
theorem dL_devices_13 : decode cL_devices 13 = .ok (.invokestatic 178, 3) := by decide +kernel
theorem dL_devices_16 : decode cL_devices 16 = .ok (.ifCond .lt 9, 3) := by decide +kernel
theorem dL_devices_19 : decode cL_devices 19 = .ok (.iinc 1 1, 3) := by decide +kernel
theorem dL_devices_22 : decode cL_devices 22 = .ok (.goto (-20), 3) := by decide +kernel
theorem dL_devices_25 : decode cL_devices 25 = .ok (.iload_n 1, 1) := by decide +kernel
theorem dL_devices_26 : decode cL_devices 26 = .ok (.ireturn, 1) := by decide +kernel
theorem dL_sum_0 : decode cL_sum 0 = .ok (.aload_n 0, 1) := by decide +kernel
theorem dL_sum_1 : decode cL_sum 1 = .ok (.invokestatic 182, 3) := by decide +kernel
theorem dL_sum_4 : decode cL_sum 4 = .ok (.istore_n 1, 1) := by decide +kernel
theorem dL_sum_5 : decode cL_sum 5 = .ok (.aload_n 0, 1) := by decide +kernel
theorem dL_sum_6 : decode cL_sum 6 = .ok (.invokestatic 186, 3) := by decide +kernel
theorem dL_sum_9 : decode cL_sum 9 = .ok (.istore_n 2, 1) := by decide +kernel
theorem dL_sum_10 : decode cL_sum 10 = .ok (.aload_n 0, 1) := by decide +kernel
theorem dL_sum_11 : decode cL_sum 11 = .ok (.invokevirtual 189, 3) := by decide +kernel
theorem dL_sum_14 : decode cL_sum 14 = .ok (.i2l, 1) := by decide +kernel
theorem dL_sum_15 : decode cL_sum 15 = .ok (.ldc2_w 192, 3) := by decide +kernel
theorem dL_sum_18 : decode cL_sum 18 = .ok (.aload_n 0, 1) := by decide +kernel
theorem dL_sum_19 : decode cL_sum 19 = .ok (.invokevirtual 194, 3) := by decide +kernel
theorem dL_sum_22 : decode cL_sum 22 = .ok (.i2l, 1) := by decide +kernel
theorem dL_sum_23 : decode cL_sum 23 = .ok (.lmul, 1) := by decide +kernel
theorem dL_sum_24 : decode cL_sum 24 = .ok (.ladd, 1) := by decide +kernel
theorem dL_sum_25 : decode cL_sum 25 = .ok (.ldc2_w 197, 3) := by decide +kernel
theorem dL_sum_28 : decode cL_sum 28 = .ok (.aload_n 0, 1) := by decide +kernel
theorem dL_sum_29 : decode cL_sum 29 = .ok (.iconst 0, 1) := by decide +kernel
theorem dL_sum_30 : decode cL_sum 30 = .ok (.invokestatic 199, 3) := by decide +kernel
theorem dL_sum_33 : decode cL_sum 33 = .ok (.i2l, 1) := by decide +kernel
theorem dL_sum_34 : decode cL_sum 34 = .ok (.lmul, 1) := by decide +kernel
theorem dL_sum_35 : decode cL_sum 35 = .ok (.ladd, 1) := by decide +kernel
theorem dL_sum_36 : decode cL_sum 36 = .ok (.ldc2_w 203, 3) := by decide +kernel
theorem dL_sum_39 : decode cL_sum 39 = .ok (.aload_n 0, 1) := by decide +kernel
theorem dL_sum_40 : decode cL_sum 40 = .ok (.iconst 2, 1) := by decide +kernel
theorem dL_sum_41 : decode cL_sum 41 = .ok (.invokestatic 199, 3) := by decide +kernel
theorem dL_sum_44 : decode cL_sum 44 = .ok (.i2l, 1) := by decide +kernel
theorem dL_sum_45 : decode cL_sum 45 = .ok (.lmul, 1) := by decide +kernel
theorem dL_sum_46 : decode cL_sum 46 = .ok (.ladd, 1) := by decide +kernel
theorem dL_sum_47 : decode cL_sum 47 = .ok (.lstore_n 3, 1) := by decide +kernel
theorem dL_sum_48 : decode cL_sum 48 = .ok (.iconst 0, 1) := by decide +kernel
theorem dL_sum_49 : decode cL_sum 49 = .ok (.istore 5, 2) := by decide +kernel
theorem dL_sum_51 : decode cL_sum 51 = .ok (.iload 5, 2) := by decide +kernel
theorem dL_sum_53 : decode cL_sum 53 = .ok (.iload_n 1, 1) := by decide +kernel
theorem dL_sum_54 : decode cL_sum 54 = .ok (.if_icmp .ge 67, 3) := by decide +kernel
theorem dL_sum_57 : decode cL_sum 57 = .ok (.iconst 2, 1) := by decide +kernel
theorem dL_sum_58 : decode cL_sum 58 = .ok (.istore 6, 2) := by decide +kernel
theorem dL_sum_60 : decode cL_sum 60 = .ok (.iload 6, 2) := by decide +kernel
theorem dL_sum_62 : decode cL_sum 62 = .ok (.bipush 9, 2) := by decide +kernel
theorem dL_sum_64 : decode cL_sum 64 = .ok (.if_icmp .ge 25, 3) := by decide +kernel
theorem dL_sum_67 : decode cL_sum 67 = .ok (.ldc2_w 192, 3) := by decide +kernel
theorem dL_sum_70 : decode cL_sum 70 = .ok (.lload_n 3, 1) := by decide +kernel
theorem dL_sum_71 : decode cL_sum 71 = .ok (.lmul, 1) := by decide +kernel
theorem dL_sum_72 : decode cL_sum 72 = .ok (.aload_n 0, 1) := by decide +kernel
theorem dL_sum_73 : decode cL_sum 73 = .ok (.iload 5, 2) := by decide +kernel
theorem dL_sum_75 : decode cL_sum 75 = .ok (.iload 6, 2) := by decide +kernel
theorem dL_sum_77 : decode cL_sum 77 = .ok (.invokestatic 172, 3) := by decide +kernel
theorem dL_sum_80 : decode cL_sum 80 = .ok (.i2l, 1) := by decide +kernel
theorem dL_sum_81 : decode cL_sum 81 = .ok (.ladd, 1) := by decide +kernel
theorem dL_sum_82 : decode cL_sum 82 = .ok (.lstore_n 3, 1) := by decide +kernel
theorem dL_sum_83 : decode cL_sum 83 = .ok (.iinc 6 1, 3) := by decide +kernel
theorem dL_sum_86 : decode cL_sum 86 = .ok (.goto (-26), 3) := by decide +kernel
theorem dL_sum_89 : decode cL_sum 89 = .ok (.ldc2_w 192, 3) := by decide +kernel
theorem dL_sum_92 : decode cL_sum 92 = .ok (.lload_n 3, 1) := by decide +kernel
theorem dL_sum_93 : decode cL_sum 93 = .ok (.lmul, 1) := by decide +kernel
theorem dL_sum_94 : decode cL_sum 94 = .ok (.aload_n 0, 1) := by decide +kernel
theorem dL_sum_95 : decode cL_sum 95 = .ok (.iload 5, 2) := by decide +kernel
theorem dL_sum_97 : decode cL_sum 97 = .ok (.invokestatic 205, 3) := by decide +kernel
theorem dL_sum_100 : decode cL_sum 100 = .ok (.ladd, 1) := by decide +kernel
theorem dL_sum_101 : decode cL_sum 101 = .ok (.aload_n 0, 1) := by decide +kernel
theorem dL_sum_102 : decode cL_sum 102 = .ok (.iload 5, 2) := by decide +kernel
theorem dL_sum_104 : decode cL_sum 104 = .ok (.bipush (-9), 2) := by decide +kernel
theorem dL_sum_106 : decode cL_sum 106 = .ok (.invokestatic 208, 3) := by decide +kernel
theorem dL_sum_109 : decode cL_sum 109 = .ok (.invokestatic 212, 3) := by decide +kernel
theorem dL_sum_112 : decode cL_sum 112 = .ok (.i2l, 1) := by decide +kernel
theorem dL_sum_113 : decode cL_sum 113 = .ok (.ladd, 1) := by decide +kernel
theorem dL_sum_114 : decode cL_sum 114 = .ok (.lstore_n 3, 1) := by decide +kernel
theorem dL_sum_115 : decode cL_sum 115 = .ok (.iinc 5 1, 3) := by decide +kernel
theorem dL_sum_118 : decode cL_sum 118 = .ok (.goto (-67), 3) := by decide +kernel
theorem dL_sum_121 : decode cL_sum 121 = .ok (.iconst 0, 1) := by decide +kernel
theorem dL_sum_122 : decode cL_sum 122 = .ok (.istore 5, 2) := by decide +kernel
theorem dL_sum_124 : decode cL_sum 124 = .ok (.iload 5, 2) := by decide +kernel
theorem dL_sum_126 : decode cL_sum 126 = .ok (.iload_n 2, 1) := by decide +kernel
theorem dL_sum_127 : decode cL_sum 127 = .ok (.if_icmp .ge 71, 3) := by decide +kernel
theorem dL_sum_130 : decode cL_sum 130 = .ok (.ldc2_w 192, 3) := by decide +kernel
theorem dL_sum_133 : decode cL_sum 133 = .ok (.lload_n 3, 1) := by decide +kernel
theorem dL_sum_134 : decode cL_sum 134 = .ok (.lmul, 1) := by decide +kernel
theorem dL_sum_135 : decode cL_sum 135 = .ok (.aload_n 0, 1) := by decide +kernel
theorem dL_sum_136 : decode cL_sum 136 = .ok (.iload 5, 2) := by decide +kernel
theorem dL_sum_138 : decode cL_sum 138 = .ok (.iconst 0, 1) := by decide +kernel
theorem dL_sum_139 : decode cL_sum 139 = .ok (.invokestatic 218, 3) := by decide +kernel
theorem dL_sum_142 : decode cL_sum 142 = .ok (.i2l, 1) := by decide +kernel
theorem dL_sum_143 : decode cL_sum 143 = .ok (.ladd, 1) := by decide +kernel
theorem dL_sum_144 : decode cL_sum 144 = .ok (.ldc2_w 221, 3) := by decide +kernel
theorem dL_sum_147 : decode cL_sum 147 = .ok (.aload_n 0, 1) := by decide +kernel
theorem dL_sum_148 : decode cL_sum 148 = .ok (.iload 5, 2) := by decide +kernel
theorem dL_sum_150 : decode cL_sum 150 = .ok (.iconst 2, 1) := by decide +kernel
theorem dL_sum_151 : decode cL_sum 151 = .ok (.invokestatic 218, 3) := by decide +kernel
theorem dL_sum_154 : decode cL_sum 154 = .ok (.i2l, 1) := by decide +kernel
theorem dL_sum_155 : decode cL_sum 155 = .ok (.lmul, 1) := by decide +kernel
theorem dL_sum_156 : decode cL_sum 156 = .ok (.ladd, 1) := by decide +kernel
theorem dL_sum_157 : decode cL_sum 157 = .ok (.lstore_n 3, 1) := by decide +kernel
theorem dL_sum_158 : decode cL_sum 158 = .ok (.iconst 0, 1) := by decide +kernel
theorem dL_sum_159 : decode cL_sum 159 = .ok (.istore 6, 2) := by decide +kernel
theorem dL_sum_161 : decode cL_sum 161 = .ok (.iload 6, 2) := by decide +kernel
theorem dL_sum_163 : decode cL_sum 163 = .ok (.bipush 8, 2) := by decide +kernel
theorem dL_sum_165 : decode cL_sum 165 = .ok (.if_icmp .ge 27, 3) := by decide +kernel
theorem dL_sum_168 : decode cL_sum 168 = .ok (.ldc2_w 192, 3) := by decide +kernel
theorem dL_sum_171 : decode cL_sum 171 = .ok (.lload_n 3, 1) := by decide +kernel
theorem dL_sum_172 : decode cL_sum 172 = .ok (.lmul, 1) := by decide +kernel
theorem dL_sum_173 : decode cL_sum 173 = .ok (.aload_n 0, 1) := by decide +kernel
theorem dL_sum_174 : decode cL_sum 174 = .ok (.bipush 111, 2) := by decide +kernel
theorem dL_sum_176 : decode cL_sum 176 = .ok (.iload 5, 2) := by decide +kernel
theorem dL_sum_178 : decode cL_sum 178 = .ok (.iload 6, 2) := by decide +kernel
theorem dL_sum_180 : decode cL_sum 180 = .ok (.invokestatic 178, 3) := by decide +kernel
theorem dL_sum_183 : decode cL_sum 183 = .ok (.i2l, 1) := by decide +kernel
theorem dL_sum_184 : decode cL_sum 184 = .ok (.ladd, 1) := by decide +kernel
theorem dL_sum_185 : decode cL_sum 185 = .ok (.lstore_n 3, 1) := by decide +kernel
theorem dL_sum_186 : decode cL_sum 186 = .ok (.iinc 6 1, 3) := by decide +kernel
theorem dL_sum_189 : decode cL_sum 189 = .ok (.goto (-28), 3) := by decide +kernel
theorem dL_sum_192 : decode cL_sum 192 = .ok (.iinc 5 1, 3) := by decide +kernel
theorem dL_sum_195 : decode cL_sum 195 = .ok (.goto (-71), 3) := by decide +kernel
theorem dL_sum_198 : decode cL_sum 198 = .ok (.iconst 0, 1) := by decide +kernel
theorem dL_sum_199 : decode cL_sum 199 = .ok (.istore 5, 2) := by decide +kernel
theorem dL_sum_201 : decode cL_sum 201 = .ok (.iload 5, 2) := by decide +kernel
theorem dL_sum_203 : decode cL_sum 203 = .ok (.aload_n 0, 1) := by decide +kernel
theorem dL_sum_204 : decode cL_sum 204 = .ok (.invokevirtual 194, 3) := by decide +kernel
theorem dL_sum_207 : decode cL_sum 207 = .ok (.if_icmp .ge 38, 3) := by decide +kernel
theorem dL_sum_210 : decode cL_sum 210 = .ok (.ldc2_w 192, 3) := by decide +kernel
theorem dL_sum_213 : decode cL_sum 213 = .ok (.lload_n 3, 1) := by decide +kernel
theorem dL_sum_214 : decode cL_sum 214 = .ok (.lmul, 1) := by decide +kernel
theorem dL_sum_215 : decode cL_sum 215 = .ok (.aload_n 0, 1) := by decide +kernel
theorem dL_sum_216 : decode cL_sum 216 = .ok (.iload 5, 2) := by decide +kernel
theorem dL_sum_218 : decode cL_sum 218 = .ok (.iconst (-1), 1) := by decide +kernel
theorem dL_sum_219 : decode cL_sum 219 = .ok (.invokestatic 223, 3) := by decide +kernel
theorem dL_sum_222 : decode cL_sum 222 = .ok (.i2l, 1) := by decide +kernel
theorem dL_sum_223 : decode cL_sum 223 = .ok (.ladd, 1) := by decide +kernel
theorem dL_sum_224 : decode cL_sum 224 = .ok (.ldc2_w 221, 3) := by decide +kernel
theorem dL_sum_227 : decode cL_sum 227 = .ok (.aload_n 0, 1) := by decide +kernel
theorem dL_sum_228 : decode cL_sum 228 = .ok (.iload 5, 2) := by decide +kernel
theorem dL_sum_230 : decode cL_sum 230 = .ok (.bipush (-2), 2) := by decide +kernel
theorem dL_sum_232 : decode cL_sum 232 = .ok (.invokestatic 223, 3) := by decide +kernel
theorem dL_sum_235 : decode cL_sum 235 = .ok (.i2l, 1) := by decide +kernel
theorem dL_sum_236 : decode cL_sum 236 = .ok (.lmul, 1) := by decide +kernel
theorem dL_sum_237 : decode cL_sum 237 = .ok (.ladd, 1) := by decide +kernel
theorem dL_sum_238 : decode cL_sum 238 = .ok (.lstore_n 3, 1) := by decide +kernel
theorem dL_sum_239 : decode cL_sum 239 = .ok (.iinc 5 1, 3) := by decide +kernel
theorem dL_sum_242 : decode cL_sum 242 = .ok (.goto (-41), 3) := by decide +kernel
theorem dL_sum_245 : decode cL_sum 245 = .ok (.lload_n 3, 1) := by decide +kernel
theorem dL_sum_246 : decode cL_sum 246 = .ok (.lreturn, 1) := by decide +kernel
theorem dL_isSound_0 : decode cL_isSound 0 = .ok (.aload_n 0, 1) := by decide +kernel
theorem dL_isSound_1 : decode cL_isSound 1 = .ok (.invokestatic 182, 3) := by decide +kernel
theorem dL_isSound_4 : decode cL_isSound 4 = .ok (.istore_n 1, 1) := by decide +kernel
theorem dL_isSound_5 : decode cL_isSound 5 = .ok (.aload_n 0, 1) := by decide +kernel
theorem dL_isSound_6 : decode cL_isSound 6 = .ok (.invokestatic 186, 3) := by decide +kernel
theorem dL_isSound_9 : decode cL_isSound 9 = .ok (.istore_n 2, 1) := by decide +kernel
theorem dL_isSound_10 : decode cL_isSound 10 = .ok (.iconst 0, 1) := by decide +kernel
theorem dL_isSound_11 : decode cL_isSound 11 = .ok (.istore_n 3, 1) := by decide +kernel
theorem dL_isSound_12 : decode cL_isSound 12 = .ok (.iconst 0, 1) := by decide +kernel
theorem dL_isSound_13 : decode cL_isSound 13 = .ok (.istore 4, 2) := by decide +kernel
theorem dL_isSound_15 : decode cL_isSound 15 = .ok (.iload 4, 2) := by decide +kernel
theorem dL_isSound_17 : decode cL_isSound 17 = .ok (.iload_n 1, 1) := by decide +kernel
theorem dL_isSound_18 : decode cL_isSound 18 = .ok (.if_icmp .ge 305, 3) := by decide +kernel
theorem dL_isSound_21 : decode cL_isSound 21 = .ok (.iconst 0, 1) := by decide +kernel
theorem dL_isSound_22 : decode cL_isSound 22 = .ok (.istore 5, 2) := by decide +kernel
theorem dL_isSound_24 : decode cL_isSound 24 = .ok (.iconst 0, 1) := by decide +kernel
theorem dL_isSound_25 : decode cL_isSound 25 = .ok (.istore 6, 2) := by decide +kernel
theorem dL_isSound_27 : decode cL_isSound 27 = .ok (.iload 6, 2) := by decide +kernel
theorem dL_isSound_29 : decode cL_isSound 29 = .ok (.iload_n 2, 1) := by decide +kernel
theorem dL_isSound_30 : decode cL_isSound 30 = .ok (.if_icmp .ge 24, 3) := by decide +kernel
theorem dL_isSound_33 : decode cL_isSound 33 = .ok (.iload 5, 2) := by decide +kernel
theorem dL_isSound_35 : decode cL_isSound 35 = .ok (.aload_n 0, 1) := by decide +kernel
theorem dL_isSound_36 : decode cL_isSound 36 = .ok (.bipush 99, 2) := by decide +kernel
theorem dL_isSound_38 : decode cL_isSound 38 = .ok (.iload 6, 2) := by decide +kernel
theorem dL_isSound_40 : decode cL_isSound 40 = .ok (.iload 4, 2) := by decide +kernel
theorem dL_isSound_42 : decode cL_isSound 42 = .ok (.invokestatic 178, 3) := by decide +kernel
theorem dL_isSound_45 : decode cL_isSound 45 = .ok (.iadd, 1) := by decide +kernel
theorem dL_isSound_46 : decode cL_isSound 46 = .ok (.istore 5, 2) := by decide +kernel
theorem dL_isSound_48 : decode cL_isSound 48 = .ok (.iinc 6 1, 3) := by decide +kernel
theorem dL_isSound_51 : decode cL_isSound 51 = .ok (.goto (-24), 3) := by decide +kernel
theorem dL_isSound_54 : decode cL_isSound 54 = .ok (.aload_n 0, 1) := by decide +kernel
theorem dL_isSound_55 : decode cL_isSound 55 = .ok (.iload 4, 2) := by decide +kernel
theorem dL_isSound_57 : decode cL_isSound 57 = .ok (.iconst 4, 1) := by decide +kernel
theorem dL_isSound_58 : decode cL_isSound 58 = .ok (.invokestatic 172, 3) := by decide +kernel
theorem dL_isSound_61 : decode cL_isSound 61 = .ok (.istore 6, 2) := by decide +kernel
theorem dL_isSound_63 : decode cL_isSound 63 = .ok (.aload_n 0, 1) := by decide +kernel
theorem dL_isSound_64 : decode cL_isSound 64 = .ok (.iload 4, 2) := by decide +kernel
theorem dL_isSound_66 : decode cL_isSound 66 = .ok (.iconst 3, 1) := by decide +kernel
theorem dL_isSound_67 : decode cL_isSound 67 = .ok (.invokestatic 172, 3) := by decide +kernel
theorem dL_isSound_70 : decode cL_isSound 70 = .ok (.istore 7, 2) := by decide +kernel
theorem dL_isSound_72 : decode cL_isSound 72 = .ok (.iload_n 3, 1) := by decide +kernel
theorem dL_isSound_73 : decode cL_isSound 73 = .ok (.aload_n 0, 1) := by decide +kernel
theorem dL_isSound_74 : decode cL_isSound 74 = .ok (.iload 4, 2) := by decide +kernel
theorem dL_isSound_76 : decode cL_isSound 76 = .ok (.bipush 7, 2) := by decide +kernel
theorem dL_isSound_78 : decode cL_isSound 78 = .ok (.invokestatic 172, 3) := by decide +kernel
theorem dL_isSound_81 : decode cL_isSound 81 = .ok (.iadd, 1) := by decide +kernel
theorem dL_isSound_82 : decode cL_isSound 82 = .ok (.istore_n 3, 1) := by decide +kernel
theorem dL_isSound_83 : decode cL_isSound 83 = .ok (.aload_n 0, 1) := by decide +kernel
theorem dL_isSound_84 : decode cL_isSound 84 = .ok (.iload 4, 2) := by decide +kernel
theorem dL_isSound_86 : decode cL_isSound 86 = .ok (.iconst 5, 1) := by decide +kernel
theorem dL_isSound_87 : decode cL_isSound 87 = .ok (.invokestatic 172, 3) := by decide +kernel
theorem dL_isSound_90 : decode cL_isSound 90 = .ok (.iload 5, 2) := by decide +kernel
theorem dL_isSound_92 : decode cL_isSound 92 = .ok (.if_icmp .ne 141, 3) := by decide +kernel
theorem dL_isSound_95 : decode cL_isSound 95 = .ok (.aload_n 0, 1) := by decide +kernel
theorem dL_isSound_96 : decode cL_isSound 96 = .ok (.iload 4, 2) := by decide +kernel
theorem dL_isSound_98 : decode cL_isSound 98 = .ok (.bipush 6, 2) := by decide +kernel
theorem dL_isSound_100 : decode cL_isSound 100 = .ok (.invokestatic 172, 3) := by decide +kernel
theorem dL_isSound_103 : decode cL_isSound 103 = .ok (.iload 5, 2) := by decide +kernel
theorem dL_isSound_105 : decode cL_isSound 105 = .ok (.if_icmp .ne 128, 3) := by decide +kernel
theorem dL_isSound_108 : decode cL_isSound 108 = .ok (.iload 6, 2) := by decide +kernel
theorem dL_isSound_110 : decode cL_isSound 110 = .ok (.sipush (-1003), 3) := by decide +kernel
theorem dL_isSound_113 : decode cL_isSound 113 = .ok (.if_icmp .ne 7, 3) := by decide +kernel
theorem dL_isSound_116 : decode cL_isSound 116 = .ok (.iconst 1, 1) := by decide +kernel
theorem dL_isSound_117 : decode cL_isSound 117 = .ok (.goto 4, 3) := by decide +kernel
theorem dL_isSound_120 : decode cL_isSound 120 = .ok (.iconst 0, 1) := by decide +kernel
theorem dL_isSound_121 : decode cL_isSound 121 = .ok (.aload_n 0, 1) := by decide +kernel
theorem dL_isSound_122 : decode cL_isSound 122 = .ok (.iload 4, 2) := by decide +kernel
theorem dL_isSound_124 : decode cL_isSound 124 = .ok (.iconst 2, 1) := by decide +kernel
theorem dL_isSound_125 : decode cL_isSound 125 = .ok (.invokestatic 172, 3) := by decide +kernel
theorem dL_isSound_128 : decode cL_isSound 128 = .ok (.bipush 97, 2) := by decide +kernel
theorem dL_isSound_130 : decode cL_isSound 130 = .ok (.if_icmp .eq 7, 3) := by decide +kernel
theorem dL_isSound_133 : decode cL_isSound 133 = .ok (.iconst 1, 1) := by decide +kernel
theorem dL_isSound_134 : decode cL_isSound 134 = .ok (.goto 4, 3) := by decide +kernel
theorem dL_isSound_137 : decode cL_isSound 137 = .ok (.iconst 0, 1) := by decide +kernel
theorem dL_isSound_138 : decode cL_isSound 138 = .ok (.if_icmp .ne 95, 3) := by decide +kernel
theorem dL_isSound_141 : decode cL_isSound 141 = .ok (.iload 6, 2) := by decide +kernel
theorem dL_isSound_143 : decode cL_isSound 143 = .ok (.bipush 45, 2) := by decide +kernel
theorem dL_isSound_145 : decode cL_isSound 145 = .ok (.if_icmp .eq 8, 3) := by decide +kernel
theorem dL_isSound_148 : decode cL_isSound 148 = .ok (.iload 5, 2) := by decide +kernel
theorem dL_isSound_150 : decode cL_isSound 150 = .ok (.ifCond .gt 83, 3) := by decide +kernel
theorem dL_isSound_153 : decode cL_isSound 153 = .ok (.iload 7, 2) := by decide +kernel
theorem dL_isSound_155 : decode cL_isSound 155 = .ok (.ifCond .ne 8, 3) := by decide +kernel
theorem dL_isSound_158 : decode cL_isSound 158 = .ok (.iload 5, 2) := by decide +kernel
theorem dL_isSound_160 : decode cL_isSound 160 = .ok (.ifCond .gt 73, 3) := by decide +kernel
theorem dL_isSound_163 : decode cL_isSound 163 = .ok (.iload 7, 2) := by decide +kernel
theorem dL_isSound_165 : decode cL_isSound 165 = .ok (.bipush 100, 2) := by decide +kernel
theorem dL_isSound_167 : decode cL_isSound 167 = .ok (.if_icmp .gt 66, 3) := by decide +kernel
theorem dL_isSound_170 : decode cL_isSound 170 = .ok (.iload 7, 2) := by decide +kernel
theorem dL_isSound_172 : decode cL_isSound 172 = .ok (.ifCond .le 15, 3) := by decide +kernel
theorem dL_isSound_175 : decode cL_isSound 175 = .ok (.aload_n 0, 1) := by decide +kernel
theorem dL_isSound_176 : decode cL_isSound 176 = .ok (.iload 4, 2) := by decide +kernel
theorem dL_isSound_178 : decode cL_isSound 178 = .ok (.iconst 2, 1) := by decide +kernel
theorem dL_isSound_179 : decode cL_isSound 179 = .ok (.invokestatic 172, 3) := by decide +kernel
theorem dL_isSound_182 : decode cL_isSound 182 = .ok (.bipush 97, 2) := by decide +kernel
theorem dL_isSound_184 : decode cL_isSound 184 = .ok (.if_icmp .ne 49, 3) := by decide +kernel
theorem dL_isSound_187 : decode cL_isSound 187 = .ok (.aload_n 0, 1) := by decide +kernel
theorem dL_isSound_188 : decode cL_isSound 188 = .ok (.iload 4, 2) := by decide +kernel
theorem dL_isSound_190 : decode cL_isSound 190 = .ok (.bipush 7, 2) := by decide +kernel
theorem dL_isSound_192 : decode cL_isSound 192 = .ok (.invokestatic 172, 3) := by decide +kernel
theorem dL_isSound_195 : decode cL_isSound 195 = .ok (.aload_n 0, 1) := by decide +kernel
theorem dL_isSound_196 : decode cL_isSound 196 = .ok (.iload 4, 2) := by decide +kernel
theorem dL_isSound_198 : decode cL_isSound 198 = .ok (.bipush 8, 2) := by decide +kernel
theorem dL_isSound_200 : decode cL_isSound 200 = .ok (.invokestatic 172, 3) := by decide +kernel
theorem dL_isSound_203 : decode cL_isSound 203 = .ok (.if_icmp .gt 30, 3) := by decide +kernel
theorem dL_isSound_206 : decode cL_isSound 206 = .ok (.aload_n 0, 1) := by decide +kernel
theorem dL_isSound_207 : decode cL_isSound 207 = .ok (.bipush 112, 2) := by decide +kernel
theorem dL_isSound_209 : decode cL_isSound 209 = .ok (.iload 4, 2) := by decide +kernel
theorem dL_isSound_211 : decode cL_isSound 211 = .ok (.iconst 1, 1) := by decide +kernel
theorem dL_isSound_212 : decode cL_isSound 212 = .ok (.invokestatic 178, 3) := by decide +kernel
theorem dL_isSound_215 : decode cL_isSound 215 = .ok (.iload 7, 2) := by decide +kernel
theorem dL_isSound_217 : decode cL_isSound 217 = .ok (.if_icmp .lt 16, 3) := by decide +kernel
theorem dL_isSound_220 : decode cL_isSound 220 = .ok (.aload_n 0, 1) := by decide +kernel
theorem dL_isSound_221 : decode cL_isSound 221 = .ok (.iload 4, 2) := by decide +kernel
theorem dL_isSound_223 : decode cL_isSound 223 = .ok (.bipush 9, 2) := by decide +kernel
theorem dL_isSound_225 : decode cL_isSound 225 = .ok (.invokestatic 172, 3) := by decide +kernel
theorem dL_isSound_228 : decode cL_isSound 228 = .ok (.bipush 10, 2) := by decide +kernel
theorem dL_isSound_230 : decode cL_isSound 230 = .ok (.if_icmp .ge 5, 3) := by decide +kernel
theorem dL_isSound_233 : decode cL_isSound 233 = .ok (.iconst 0, 1) := by decide +kernel
theorem dL_isSound_234 : decode cL_isSound 234 = .ok (.ireturn, 1) := by decide +kernel
end
section
theorem dL_isSound_235 : decode cL_isSound 235 = .ok (.aload_n 0, 1) := by decide +kernel
theorem dL_isSound_236 : decode cL_isSound 236 = .ok (.iload 4, 2) := by decide +kernel
theorem dL_isSound_238 : decode cL_isSound 238 = .ok (.invokestatic 226, 3) := by decide +kernel
theorem dL_isSound_241 : decode cL_isSound 241 = .ok (.dstore 8, 2) := by decide +kernel
theorem dL_isSound_243 : decode cL_isSound 243 = .ok (.dload 8, 2) := by decide +kernel
theorem dL_isSound_245 : decode cL_isSound 245 = .ok (.ldc2_w 229, 3) := by decide +kernel
theorem dL_isSound_248 : decode cL_isSound 248 = .ok (.dcmp .l, 1) := by decide +kernel
theorem dL_isSound_249 : decode cL_isSound 249 = .ok (.ifCond .gt 66, 3) := by decide +kernel
theorem dL_isSound_252 : decode cL_isSound 252 = .ok (.dload 8, 2) := by decide +kernel
theorem dL_isSound_254 : decode cL_isSound 254 = .ok (.dconst 1, 1) := by decide +kernel
theorem dL_isSound_255 : decode cL_isSound 255 = .ok (.dcmp .g, 1) := by decide +kernel
theorem dL_isSound_256 : decode cL_isSound 256 = .ok (.ifCond .ge 12, 3) := by decide +kernel
theorem dL_isSound_259 : decode cL_isSound 259 = .ok (.dload 8, 2) := by decide +kernel
theorem dL_isSound_261 : decode cL_isSound 261 = .ok (.ldc2_w 158, 3) := by decide +kernel
theorem dL_isSound_264 : decode cL_isSound 264 = .ok (.dcmp .l, 1) := by decide +kernel
theorem dL_isSound_265 : decode cL_isSound 265 = .ok (.ifCond .ne 50, 3) := by decide +kernel
theorem dL_isSound_268 : decode cL_isSound 268 = .ok (.dload 8, 2) := by decide +kernel
theorem dL_isSound_270 : decode cL_isSound 270 = .ok (.ldc2_w 158, 3) := by decide +kernel
theorem dL_isSound_273 : decode cL_isSound 273 = .ok (.dcmp .l, 1) := by decide +kernel
theorem dL_isSound_274 : decode cL_isSound 274 = .ok (.ifCond .ne 7, 3) := by decide +kernel
theorem dL_isSound_277 : decode cL_isSound 277 = .ok (.iconst 1, 1) := by decide +kernel
theorem dL_isSound_278 : decode cL_isSound 278 = .ok (.goto 4, 3) := by decide +kernel
theorem dL_isSound_281 : decode cL_isSound 281 = .ok (.iconst 0, 1) := by decide +kernel
theorem dL_isSound_282 : decode cL_isSound 282 = .ok (.aload_n 0, 1) := by decide +kernel
theorem dL_isSound_283 : decode cL_isSound 283 = .ok (.iload 4, 2) := by decide +kernel
theorem dL_isSound_285 : decode cL_isSound 285 = .ok (.invokestatic 205, 3) := by decide +kernel
theorem dL_isSound_288 : decode cL_isSound 288 = .ok (.ldc2_w 166, 3) := by decide +kernel
theorem dL_isSound_291 : decode cL_isSound 291 = .ok (.lcmp, 1) := by decide +kernel
theorem dL_isSound_292 : decode cL_isSound 292 = .ok (.ifCond .ne 7, 3) := by decide +kernel
theorem dL_isSound_295 : decode cL_isSound 295 = .ok (.iconst 1, 1) := by decide +kernel
theorem dL_isSound_296 : decode cL_isSound 296 = .ok (.goto 4, 3) := by decide +kernel
theorem dL_isSound_299 : decode cL_isSound 299 = .ok (.iconst 0, 1) := by decide +kernel
theorem dL_isSound_300 : decode cL_isSound 300 = .ok (.if_icmp .ne 15, 3) := by decide +kernel
theorem dL_isSound_303 : decode cL_isSound 303 = .ok (.aload_n 0, 1) := by decide +kernel
theorem dL_isSound_304 : decode cL_isSound 304 = .ok (.bipush (-9), 2) := by decide +kernel
theorem dL_isSound_306 : decode cL_isSound 306 = .ok (.iconst 0, 1) := by decide +kernel
theorem dL_isSound_307 : decode cL_isSound 307 = .ok (.invokestatic 223, 3) := by decide +kernel
theorem dL_isSound_310 : decode cL_isSound 310 = .ok (.bipush 118, 2) := by decide +kernel
theorem dL_isSound_312 : decode cL_isSound 312 = .ok (.if_icmp .eq 5, 3) := by decide +kernel
theorem dL_isSound_315 : decode cL_isSound 315 = .ok (.iconst 0, 1) := by decide +kernel
theorem dL_isSound_316 : decode cL_isSound 316 = .ok (.ireturn, 1) := by decide +kernel
theorem dL_isSound_317 : decode cL_isSound 317 = .ok (.iinc 4 1, 3) := by decide +kernel
theorem dL_isSound_320 : decode cL_isSound 320 = .ok (.goto (-305), 3) := by decide +kernel
theorem dL_isSound_323 : decode cL_isSound 323 = .ok (.iconst 0, 1) := by decide +kernel
theorem dL_isSound_324 : decode cL_isSound 324 = .ok (.istore 4, 2) := by decide +kernel
theorem dL_isSound_326 : decode cL_isSound 326 = .ok (.iconst 0, 1) := by decide +kernel
theorem dL_isSound_327 : decode cL_isSound 327 = .ok (.istore 5, 2) := by decide +kernel
theorem dL_isSound_329 : decode cL_isSound 329 = .ok (.iload 5, 2) := by decide +kernel
theorem dL_isSound_331 : decode cL_isSound 331 = .ok (.iload_n 2, 1) := by decide +kernel
theorem dL_isSound_332 : decode cL_isSound 332 = .ok (.if_icmp .ge 111, 3) := by decide +kernel
theorem dL_isSound_335 : decode cL_isSound 335 = .ok (.aload_n 0, 1) := by decide +kernel
theorem dL_isSound_336 : decode cL_isSound 336 = .ok (.iload 5, 2) := by decide +kernel
theorem dL_isSound_338 : decode cL_isSound 338 = .ok (.iconst 0, 1) := by decide +kernel
theorem dL_isSound_339 : decode cL_isSound 339 = .ok (.invokestatic 218, 3) := by decide +kernel
theorem dL_isSound_342 : decode cL_isSound 342 = .ok (.istore 6, 2) := by decide +kernel
theorem dL_isSound_344 : decode cL_isSound 344 = .ok (.aload_n 0, 1) := by decide +kernel
theorem dL_isSound_345 : decode cL_isSound 345 = .ok (.iload 5, 2) := by decide +kernel
theorem dL_isSound_347 : decode cL_isSound 347 = .ok (.iconst 2, 1) := by decide +kernel
theorem dL_isSound_348 : decode cL_isSound 348 = .ok (.invokestatic 218, 3) := by decide +kernel
theorem dL_isSound_351 : decode cL_isSound 351 = .ok (.istore 7, 2) := by decide +kernel
theorem dL_isSound_353 : decode cL_isSound 353 = .ok (.iload 4, 2) := by decide +kernel
theorem dL_isSound_355 : decode cL_isSound 355 = .ok (.iload 7, 2) := by decide +kernel
theorem dL_isSound_357 : decode cL_isSound 357 = .ok (.ifCond .lt 7, 3) := by decide +kernel
theorem dL_isSound_360 : decode cL_isSound 360 = .ok (.iconst 1, 1) := by decide +kernel
theorem dL_isSound_361 : decode cL_isSound 361 = .ok (.goto 4, 3) := by decide +kernel
theorem dL_isSound_364 : decode cL_isSound 364 = .ok (.iconst 0, 1) := by decide +kernel
theorem dL_isSound_365 : decode cL_isSound 365 = .ok (.iadd, 1) := by decide +kernel
theorem dL_isSound_366 : decode cL_isSound 366 = .ok (.istore 4, 2) := by decide +kernel
theorem dL_isSound_368 : decode cL_isSound 368 = .ok (.iload 6, 2) := by decide +kernel
theorem dL_isSound_370 : decode cL_isSound 370 = .ok (.ifCond .lt 26, 3) := by decide +kernel
theorem dL_isSound_373 : decode cL_isSound 373 = .ok (.aload_n 0, 1) := by decide +kernel
theorem dL_isSound_374 : decode cL_isSound 374 = .ok (.bipush 99, 2) := by decide +kernel
theorem dL_isSound_376 : decode cL_isSound 376 = .ok (.iload 5, 2) := by decide +kernel
theorem dL_isSound_378 : decode cL_isSound 378 = .ok (.iload 6, 2) := by decide +kernel
theorem dL_isSound_380 : decode cL_isSound 380 = .ok (.invokestatic 178, 3) := by decide +kernel
theorem dL_isSound_383 : decode cL_isSound 383 = .ok (.iconst 1, 1) := by decide +kernel
theorem dL_isSound_384 : decode cL_isSound 384 = .ok (.if_icmp .ne 10, 3) := by decide +kernel
theorem dL_isSound_387 : decode cL_isSound 387 = .ok (.iload 6, 2) := by decide +kernel
theorem dL_isSound_389 : decode cL_isSound 389 = .ok (.iload 7, 2) := by decide +kernel
theorem dL_isSound_391 : decode cL_isSound 391 = .ok (.if_icmp .ne 5, 3) := by decide +kernel
theorem dL_isSound_394 : decode cL_isSound 394 = .ok (.iconst 0, 1) := by decide +kernel
theorem dL_isSound_395 : decode cL_isSound 395 = .ok (.ireturn, 1) := by decide +kernel
theorem dL_isSound_396 : decode cL_isSound 396 = .ok (.iconst 0, 1) := by decide +kernel
theorem dL_isSound_397 : decode cL_isSound 397 = .ok (.istore 8, 2) := by decide +kernel
theorem dL_isSound_399 : decode cL_isSound 399 = .ok (.iload 8, 2) := by decide +kernel
theorem dL_isSound_401 : decode cL_isSound 401 = .ok (.bipush 8, 2) := by decide +kernel
theorem dL_isSound_403 : decode cL_isSound 403 = .ok (.if_icmp .ge 34, 3) := by decide +kernel
theorem dL_isSound_406 : decode cL_isSound 406 = .ok (.aload_n 0, 1) := by decide +kernel
theorem dL_isSound_407 : decode cL_isSound 407 = .ok (.bipush 117, 2) := by decide +kernel
theorem dL_isSound_409 : decode cL_isSound 409 = .ok (.iload 5, 2) := by decide +kernel
theorem dL_isSound_411 : decode cL_isSound 411 = .ok (.iload 8, 2) := by decide +kernel
theorem dL_isSound_413 : decode cL_isSound 413 = .ok (.invokestatic 178, 3) := by decide +kernel
theorem dL_isSound_416 : decode cL_isSound 416 = .ok (.aload_n 0, 1) := by decide +kernel
theorem dL_isSound_417 : decode cL_isSound 417 = .ok (.bipush 111, 2) := by decide +kernel
theorem dL_isSound_419 : decode cL_isSound 419 = .ok (.iload 5, 2) := by decide +kernel
theorem dL_isSound_421 : decode cL_isSound 421 = .ok (.iload 8, 2) := by decide +kernel
theorem dL_isSound_423 : decode cL_isSound 423 = .ok (.invokestatic 178, 3) := by decide +kernel
theorem dL_isSound_426 : decode cL_isSound 426 = .ok (.if_icmp .le 5, 3) := by decide +kernel
theorem dL_isSound_429 : decode cL_isSound 429 = .ok (.iconst 0, 1) := by decide +kernel
theorem dL_isSound_430 : decode cL_isSound 430 = .ok (.ireturn, 1) := by decide +kernel
theorem dL_isSound_431 : decode cL_isSound 431 = .ok (.iinc 8 1, 3) := by decide +kernel
theorem dL_isSound_434 : decode cL_isSound 434 = .ok (.goto (-35), 3) := by decide +kernel
theorem dL_isSound_437 : decode cL_isSound 437 = .ok (.iinc 5 1, 3) := by decide +kernel
theorem dL_isSound_440 : decode cL_isSound 440 = .ok (.goto (-111), 3) := by decide +kernel
theorem dL_isSound_443 : decode cL_isSound 443 = .ok (.iconst 0, 1) := by decide +kernel
theorem dL_isSound_444 : decode cL_isSound 444 = .ok (.istore 5, 2) := by decide +kernel
theorem dL_isSound_446 : decode cL_isSound 446 = .ok (.iconst 0, 1) := by decide +kernel
theorem dL_isSound_447 : decode cL_isSound 447 = .ok (.istore 6, 2) := by decide +kernel
theorem dL_isSound_449 : decode cL_isSound 449 = .ok (.iload 6, 2) := by decide +kernel
theorem dL_isSound_451 : decode cL_isSound 451 = .ok (.aload_n 0, 1) := by decide +kernel
theorem dL_isSound_452 : decode cL_isSound 452 = .ok (.invokevirtual 194, 3) := by decide +kernel
theorem dL_isSound_455 : decode cL_isSound 455 = .ok (.if_icmp .ge 93, 3) := by decide +kernel
theorem dL_isSound_458 : decode cL_isSound 458 = .ok (.iload 5, 2) := by decide +kernel
theorem dL_isSound_460 : decode cL_isSound 460 = .ok (.aload_n 0, 1) := by decide +kernel
theorem dL_isSound_461 : decode cL_isSound 461 = .ok (.iload 6, 2) := by decide +kernel
theorem dL_isSound_463 : decode cL_isSound 463 = .ok (.iconst (-1), 1) := by decide +kernel
theorem dL_isSound_464 : decode cL_isSound 464 = .ok (.invokestatic 223, 3) := by decide +kernel
theorem dL_isSound_467 : decode cL_isSound 467 = .ok (.invokestatic 231, 3) := by decide +kernel
theorem dL_isSound_470 : decode cL_isSound 470 = .ok (.istore 5, 2) := by decide +kernel
theorem dL_isSound_472 : decode cL_isSound 472 = .ok (.aload_n 0, 1) := by decide +kernel
theorem dL_isSound_473 : decode cL_isSound 473 = .ok (.iload 6, 2) := by decide +kernel
theorem dL_isSound_475 : decode cL_isSound 475 = .ok (.iconst (-1), 1) := by decide +kernel
theorem dL_isSound_476 : decode cL_isSound 476 = .ok (.invokestatic 223, 3) := by decide +kernel
theorem dL_isSound_479 : decode cL_isSound 479 = .ok (.iconst 1, 1) := by decide +kernel
theorem dL_isSound_480 : decode cL_isSound 480 = .ok (.if_icmp .lt 60, 3) := by decide +kernel
theorem dL_isSound_483 : decode cL_isSound 483 = .ok (.aload_n 0, 1) := by decide +kernel
theorem dL_isSound_484 : decode cL_isSound 484 = .ok (.iload 6, 2) := by decide +kernel
theorem dL_isSound_486 : decode cL_isSound 486 = .ok (.bipush (-2), 2) := by decide +kernel
theorem dL_isSound_488 : decode cL_isSound 488 = .ok (.invokestatic 223, 3) := by decide +kernel
theorem dL_isSound_491 : decode cL_isSound 491 = .ok (.iconst 1, 1) := by decide +kernel
theorem dL_isSound_492 : decode cL_isSound 492 = .ok (.if_icmp .lt 48, 3) := by decide +kernel
theorem dL_isSound_495 : decode cL_isSound 495 = .ok (.aload_n 0, 1) := by decide +kernel
theorem dL_isSound_496 : decode cL_isSound 496 = .ok (.iload 6, 2) := by decide +kernel
theorem dL_isSound_498 : decode cL_isSound 498 = .ok (.bipush (-2), 2) := by decide +kernel
theorem dL_isSound_500 : decode cL_isSound 500 = .ok (.invokestatic 223, 3) := by decide +kernel
theorem dL_isSound_503 : decode cL_isSound 503 = .ok (.iconst 1, 1) := by decide +kernel
theorem dL_isSound_504 : decode cL_isSound 504 = .ok (.iload_n 1, 1) := by decide +kernel
theorem dL_isSound_505 : decode cL_isSound 505 = .ok (.ishl, 1) := by decide +kernel
theorem dL_isSound_506 : decode cL_isSound 506 = .ok (.if_icmp .ge 34, 3) := by decide +kernel
theorem dL_isSound_509 : decode cL_isSound 509 = .ok (.aload_n 0, 1) := by decide +kernel
theorem dL_isSound_510 : decode cL_isSound 510 = .ok (.iload 6, 2) := by decide +kernel
theorem dL_isSound_512 : decode cL_isSound 512 = .ok (.iload 6, 2) := by decide +kernel
theorem dL_isSound_514 : decode cL_isSound 514 = .ok (.invokestatic 208, 3) := by decide +kernel
theorem dL_isSound_517 : decode cL_isSound 517 = .ok (.fconst 1, 1) := by decide +kernel
theorem dL_isSound_518 : decode cL_isSound 518 = .ok (.fcmp .l, 1) := by decide +kernel
theorem dL_isSound_519 : decode cL_isSound 519 = .ok (.ifCond .ne 21, 3) := by decide +kernel
theorem dL_isSound_522 : decode cL_isSound 522 = .ok (.aload_n 0, 1) := by decide +kernel
theorem dL_isSound_523 : decode cL_isSound 523 = .ok (.iload 6, 2) := by decide +kernel
theorem dL_isSound_525 : decode cL_isSound 525 = .ok (.iconst 0, 1) := by decide +kernel
theorem dL_isSound_526 : decode cL_isSound 526 = .ok (.invokestatic 208, 3) := by decide +kernel
theorem dL_isSound_529 : decode cL_isSound 529 = .ok (.aload_n 0, 1) := by decide +kernel
theorem dL_isSound_530 : decode cL_isSound 530 = .ok (.iconst 0, 1) := by decide +kernel
theorem dL_isSound_531 : decode cL_isSound 531 = .ok (.iload 6, 2) := by decide +kernel
theorem dL_isSound_533 : decode cL_isSound 533 = .ok (.invokestatic 208, 3) := by decide +kernel
theorem dL_isSound_536 : decode cL_isSound 536 = .ok (.fcmp .l, 1) := by decide +kernel
theorem dL_isSound_537 : decode cL_isSound 537 = .ok (.ifCond .eq 5, 3) := by decide +kernel
theorem dL_isSound_540 : decode cL_isSound 540 = .ok (.iconst 0, 1) := by decide +kernel
theorem dL_isSound_541 : decode cL_isSound 541 = .ok (.ireturn, 1) := by decide +kernel
theorem dL_isSound_542 : decode cL_isSound 542 = .ok (.iinc 6 1, 3) := by decide +kernel
theorem dL_isSound_545 : decode cL_isSound 545 = .ok (.goto (-96), 3) := by decide +kernel
theorem dL_isSound_548 : decode cL_isSound 548 = .ok (.iload_n 3, 1) := by decide +kernel
theorem dL_isSound_549 : decode cL_isSound 549 = .ok (.iload 4, 2) := by decide +kernel
theorem dL_isSound_551 : decode cL_isSound 551 = .ok (.if_icmp .ne 52, 3) := by decide +kernel
theorem dL_isSound_554 : decode cL_isSound 554 = .ok (.aload_n 0, 1) := by decide +kernel
theorem dL_isSound_555 : decode cL_isSound 555 = .ok (.invokevirtual 194, 3) := by decide +kernel
theorem dL_isSound_558 : decode cL_isSound 558 = .ok (.ifCond .ne 17, 3) := by decide +kernel
theorem dL_isSound_561 : decode cL_isSound 561 = .ok (.aload_n 0, 1) := by decide +kernel
theorem dL_isSound_562 : decode cL_isSound 562 = .ok (.iconst 2, 1) := by decide +kernel
theorem dL_isSound_563 : decode cL_isSound 563 = .ok (.invokestatic 199, 3) := by decide +kernel
theorem dL_isSound_566 : decode cL_isSound 566 = .ok (.sipush (-1003), 3) := by decide +kernel
theorem dL_isSound_569 : decode cL_isSound 569 = .ok (.if_icmp .ne 34, 3) := by decide +kernel
theorem dL_isSound_572 : decode cL_isSound 572 = .ok (.goto 18, 3) := by decide +kernel
theorem dL_isSound_575 : decode cL_isSound 575 = .ok (.aload_n 0, 1) := by decide +kernel
theorem dL_isSound_576 : decode cL_isSound 576 = .ok (.aload_n 0, 1) := by decide +kernel
theorem dL_isSound_577 : decode cL_isSound 577 = .ok (.iconst 2, 1) := by decide +kernel
theorem dL_isSound_578 : decode cL_isSound 578 = .ok (.invokestatic 199, 3) := by decide +kernel
theorem dL_isSound_581 : decode cL_isSound 581 = .ok (.iconst (-1), 1) := by decide +kernel
theorem dL_isSound_582 : decode cL_isSound 582 = .ok (.invokestatic 223, 3) := by decide +kernel
theorem dL_isSound_585 : decode cL_isSound 585 = .ok (.iload 5, 2) := by decide +kernel
theorem dL_isSound_587 : decode cL_isSound 587 = .ok (.if_icmp .ne 16, 3) := by decide +kernel
theorem dL_isSound_590 : decode cL_isSound 590 = .ok (.aload_n 0, 1) := by decide +kernel
theorem dL_isSound_591 : decode cL_isSound 591 = .ok (.invokestatic 236, 3) := by decide +kernel
theorem dL_isSound_594 : decode cL_isSound 594 = .ok (.fconst 1, 1) := by decide +kernel
theorem dL_isSound_595 : decode cL_isSound 595 = .ok (.fcmp .g, 1) := by decide +kernel
theorem dL_isSound_596 : decode cL_isSound 596 = .ok (.ifCond .gt 7, 3) := by decide +kernel
theorem dL_isSound_599 : decode cL_isSound 599 = .ok (.iconst 1, 1) := by decide +kernel
theorem dL_isSound_600 : decode cL_isSound 600 = .ok (.goto 4, 3) := by decide +kernel
theorem dL_isSound_603 : decode cL_isSound 603 = .ok (.iconst 0, 1) := by decide +kernel
theorem dL_isSound_604 : decode cL_isSound 604 = .ok (.ireturn, 1) := by decide +kernel
theorem dJ0_coder_7d493_0 : decode cJ0_coder_7d493 0 = .ok (.getstatic 38, 3) := by decide +kernel
theorem dJ0_coder_7d493_3 : decode cJ0_coder_7d493 3 = .ok (.ifCond .eq 10, 3) := by decide +kernel
theorem dJ0_coder_7d493_6 : decode cJ0_coder_7d493 6 = .ok (.aload_n 0, 1) := by decide +kernel
theorem dJ0_coder_7d493_7 : decode cJ0_coder_7d493 7 = .ok (.getfield 15, 3) := by decide +kernel
theorem dJ0_coder_7d493_10 : decode cJ0_coder_7d493 10 = .ok (.goto 4, 3) := by decide +kernel
theorem dJ0_coder_7d493_13 : decode cJ0_coder_7d493 13 = .ok (.iconst 1, 1) := by decide +kernel
theorem dJ0_coder_7d493_14 : decode cJ0_coder_7d493 14 = .ok (.ireturn, 1) := by decide +kernel
theorem dJ0_getBytes_840e7_0 : decode cJ0_getBytes_840e7 0 = .ok (.aload_n 0, 1) := by decide +kernel
theorem dJ0_getBytes_840e7_1 : decode cJ0_getBytes_840e7 1 = .ok (.invokevirtual 335, 3) := by decide +kernel
theorem dJ0_getBytes_840e7_4 : decode cJ0_getBytes_840e7 4 = .ok (.iload_n 3, 1) := by decide +kernel
theorem dJ0_getBytes_840e7_5 : decode cJ0_getBytes_840e7 5 = .ok (.if_icmp .ne 23, 3) := by decide +kernel
theorem dJ0_getBytes_840e7_8 : decode cJ0_getBytes_840e7 8 = .ok (.aload_n 0, 1) := by decide +kernel
theorem dJ0_getBytes_840e7_9 : decode cJ0_getBytes_840e7 9 = .ok (.getfield 9, 3) := by decide +kernel
theorem dJ0_getBytes_840e7_12 : decode cJ0_getBytes_840e7 12 = .ok (.iconst 0, 1) := by decide +kernel
theorem dJ0_getBytes_840e7_13 : decode cJ0_getBytes_840e7 13 = .ok (.aload_n 1, 1) := by decide +kernel
theorem dJ0_getBytes_840e7_14 : decode cJ0_getBytes_840e7 14 = .ok (.iload_n 2, 1) := by decide +kernel
theorem dJ0_getBytes_840e7_15 : decode cJ0_getBytes_840e7 15 = .ok (.iload_n 3, 1) := by decide +kernel
theorem dJ0_getBytes_840e7_16 : decode cJ0_getBytes_840e7 16 = .ok (.ishl, 1) := by decide +kernel
theorem dJ0_getBytes_840e7_17 : decode cJ0_getBytes_840e7 17 = .ok (.aload_n 0, 1) := by decide +kernel
theorem dJ0_getBytes_840e7_18 : decode cJ0_getBytes_840e7 18 = .ok (.getfield 9, 3) := by decide +kernel
theorem dJ0_getBytes_840e7_21 : decode cJ0_getBytes_840e7 21 = .ok (.arraylength, 1) := by decide +kernel
theorem dJ0_getBytes_840e7_22 : decode cJ0_getBytes_840e7 22 = .ok (.invokestatic 212, 3) := by decide +kernel
theorem dJ0_getBytes_840e7_25 : decode cJ0_getBytes_840e7 25 = .ok (.goto 18, 3) := by decide +kernel
theorem dJ0_getBytes_840e7_28 : decode cJ0_getBytes_840e7 28 = .ok (.aload_n 0, 1) := by decide +kernel
theorem dJ0_getBytes_840e7_29 : decode cJ0_getBytes_840e7 29 = .ok (.getfield 9, 3) := by decide +kernel
theorem dJ0_getBytes_840e7_32 : decode cJ0_getBytes_840e7 32 = .ok (.iconst 0, 1) := by decide +kernel
theorem dJ0_getBytes_840e7_33 : decode cJ0_getBytes_840e7 33 = .ok (.aload_n 1, 1) := by decide +kernel
theorem dJ0_getBytes_840e7_34 : decode cJ0_getBytes_840e7 34 = .ok (.iload_n 2, 1) := by decide +kernel
theorem dJ0_getBytes_840e7_35 : decode cJ0_getBytes_840e7 35 = .ok (.aload_n 0, 1) := by decide +kernel
theorem dJ0_getBytes_840e7_36 : decode cJ0_getBytes_840e7 36 = .ok (.getfield 9, 3) := by decide +kernel
theorem dJ0_getBytes_840e7_39 : decode cJ0_getBytes_840e7 39 = .ok (.arraylength, 1) := by decide +kernel
theorem dJ0_getBytes_840e7_40 : decode cJ0_getBytes_840e7 40 = .ok (.invokestatic 106, 3) := by decide +kernel
theorem dJ0_getBytes_840e7_43 : decode cJ0_getBytes_840e7 43 = .ok (.return_, 1) := by decide +kernel
theorem dJ0_length_8abf5_0 : decode cJ0_length_8abf5 0 = .ok (.aload_n 0, 1) := by decide +kernel
theorem dJ0_length_8abf5_1 : decode cJ0_length_8abf5 1 = .ok (.getfield 9, 3) := by decide +kernel
theorem dJ0_length_8abf5_4 : decode cJ0_length_8abf5 4 = .ok (.arraylength, 1) := by decide +kernel
theorem dJ0_length_8abf5_5 : decode cJ0_length_8abf5 5 = .ok (.aload_n 0, 1) := by decide +kernel
theorem dJ0_length_8abf5_6 : decode cJ0_length_8abf5 6 = .ok (.invokevirtual 335, 3) := by decide +kernel
theorem dJ0_length_8abf5_9 : decode cJ0_length_8abf5 9 = .ok (.ishr, 1) := by decide +kernel
theorem dJ0_length_8abf5_10 : decode cJ0_length_8abf5 10 = .ok (.ireturn, 1) := by decide +kernel
theorem dJ15_checkIndex_7cf53_0 : decode cJ15_checkIndex_7cf53 0 = .ok (.iload_n 0, 1) := by decide +kernel
theorem dJ15_checkIndex_7cf53_1 : decode cJ15_checkIndex_7cf53 1 = .ok (.iload_n 1, 1) := by decide +kernel
theorem dJ15_checkIndex_7cf53_2 : decode cJ15_checkIndex_7cf53 2 = .ok (.aconst_null, 1) := by decide +kernel
theorem dJ15_checkIndex_7cf53_3 : decode cJ15_checkIndex_7cf53 3 = .ok (.invokestatic 105, 3) := by decide +kernel
theorem dJ15_checkIndex_7cf53_6 : decode cJ15_checkIndex_7cf53 6 = .ok (.ireturn, 1) := by decide +kernel
theorem dJ1_canEncode_fc78d_0 : decode cJ1_canEncode_fc78d 0 = .ok (.iload_n 0, 1) := by decide +kernel
theorem dJ1_canEncode_fc78d_1 : decode cJ1_canEncode_fc78d 1 = .ok (.sipush 255, 3) := by decide +kernel
theorem dJ1_canEncode_fc78d_4 : decode cJ1_canEncode_fc78d 4 = .ok (.if_icmp .gt 7, 3) := by decide +kernel
theorem dJ1_canEncode_fc78d_7 : decode cJ1_canEncode_fc78d 7 = .ok (.iconst 1, 1) := by decide +kernel
theorem dJ1_canEncode_fc78d_8 : decode cJ1_canEncode_fc78d 8 = .ok (.goto 4, 3) := by decide +kernel
theorem dJ1_canEncode_fc78d_11 : decode cJ1_canEncode_fc78d 11 = .ok (.iconst 0, 1) := by decide +kernel
theorem dJ1_canEncode_fc78d_12 : decode cJ1_canEncode_fc78d 12 = .ok (.ireturn, 1) := by decide +kernel
theorem dJ3_checkIndex_8e157_0 : decode cJ3_checkIndex_8e157 0 = .ok (.iload_n 0, 1) := by decide +kernel
theorem dJ3_checkIndex_8e157_1 : decode cJ3_checkIndex_8e157 1 = .ok (.ifCond .lt 8, 3) := by decide +kernel
theorem dJ3_checkIndex_8e157_4 : decode cJ3_checkIndex_8e157 4 = .ok (.iload_n 0, 1) := by decide +kernel
theorem dJ3_checkIndex_8e157_5 : decode cJ3_checkIndex_8e157 5 = .ok (.iload_n 1, 1) := by decide +kernel
theorem dJ3_checkIndex_8e157_6 : decode cJ3_checkIndex_8e157 6 = .ok (.if_icmp .lt 10, 3) := by decide +kernel
theorem dJ3_checkIndex_8e157_9 : decode cJ3_checkIndex_8e157 9 = .ok (.aload_n 2, 1) := by decide +kernel
theorem dJ3_checkIndex_8e157_10 : decode cJ3_checkIndex_8e157 10 = .ok (.iload_n 0, 1) := by decide +kernel
theorem dJ3_checkIndex_8e157_11 : decode cJ3_checkIndex_8e157 11 = .ok (.iload_n 1, 1) := by decide +kernel
theorem dJ3_checkIndex_8e157_12 : decode cJ3_checkIndex_8e157 12 = .ok (.invokestatic 95, 3) := by decide +kernel
theorem dJ3_checkIndex_8e157_15 : decode cJ3_checkIndex_8e157 15 = .ok (.athrow, 1) := by decide +kernel
theorem dJ3_checkIndex_8e157_16 : decode cJ3_checkIndex_8e157 16 = .ok (.iload_n 0, 1) := by decide +kernel
theorem dJ3_checkIndex_8e157_17 : decode cJ3_checkIndex_8e157 17 = .ok (.ireturn, 1) := by decide +kernel
theorem dJ4_append_15ec4_0 : decode cJ4_append_15ec4 0 = .ok (.aload_n 0, 1) := by decide +kernel
theorem dJ4_append_15ec4_1 : decode cJ4_append_15ec4 1 = .ok (.aload_n 1, 1) := by decide +kernel
theorem dJ4_append_15ec4_2 : decode cJ4_append_15ec4 2 = .ok (.invokespecial 29, 3) := by decide +kernel
theorem dJ4_append_15ec4_5 : decode cJ4_append_15ec4 5 = .ok (.pop, 1) := by decide +kernel
theorem dJ4_append_15ec4_6 : decode cJ4_append_15ec4 6 = .ok (.aload_n 0, 1) := by decide +kernel
theorem dJ4_append_15ec4_7 : decode cJ4_append_15ec4 7 = .ok (.areturn, 1) := by decide +kernel
theorem dJ4_append_bf812_0 : decode cJ4_append_bf812 0 = .ok (.aload_n 0, 1) := by decide +kernel
theorem dJ4_append_bf812_1 : decode cJ4_append_bf812 1 = .ok (.iload_n 1, 1) := by decide +kernel
theorem dJ4_append_bf812_2 : decode cJ4_append_bf812 2 = .ok (.invokespecial 53, 3) := by decide +kernel
theorem dJ4_append_bf812_5 : decode cJ4_append_bf812 5 = .ok (.pop, 1) := by decide +kernel
theorem dJ4_append_bf812_6 : decode cJ4_append_bf812 6 = .ok (.aload_n 0, 1) := by decide +kernel
theorem dJ4_append_bf812_7 : decode cJ4_append_bf812 7 = .ok (.areturn, 1) := by decide +kernel
theorem dJ4_append_cf468_0 : decode cJ4_append_cf468 0 = .ok (.aload_n 0, 1) := by decide +kernel
theorem dJ4_append_cf468_1 : decode cJ4_append_cf468 1 = .ok (.iload_n 1, 1) := by decide +kernel
theorem dJ4_append_cf468_2 : decode cJ4_append_cf468 2 = .ok (.invokespecial 50, 3) := by decide +kernel
theorem dJ4_append_cf468_5 : decode cJ4_append_cf468 5 = .ok (.pop, 1) := by decide +kernel
theorem dJ4_append_cf468_6 : decode cJ4_append_cf468 6 = .ok (.aload_n 0, 1) := by decide +kernel
theorem dJ4_append_cf468_7 : decode cJ4_append_cf468 7 = .ok (.areturn, 1) := by decide +kernel
theorem dJ4_charAt_5068e_0 : decode cJ4_charAt_5068e 0 = .ok (.aload_n 0, 1) := by decide +kernel
theorem dJ4_charAt_5068e_1 : decode cJ4_charAt_5068e 1 = .ok (.iload_n 1, 1) := by decide +kernel
theorem dJ4_charAt_5068e_2 : decode cJ4_charAt_5068e 2 = .ok (.invokespecial 329, 3) := by decide +kernel
theorem dJ4_charAt_5068e_5 : decode cJ4_charAt_5068e 5 = .ok (.ireturn, 1) := by decide +kernel
theorem dJ4_init_da8c8_0 : decode cJ4_init_da8c8 0 = .ok (.aload_n 0, 1) := by decide +kernel
theorem dJ4_init_da8c8_1 : decode cJ4_init_da8c8 1 = .ok (.bipush 16, 2) := by decide +kernel
theorem dJ4_init_da8c8_3 : decode cJ4_init_da8c8 3 = .ok (.invokespecial 1, 3) := by decide +kernel
theorem dJ4_init_da8c8_6 : decode cJ4_init_da8c8 6 = .ok (.return_, 1) := by decide +kernel
theorem dJ4_length_8abf5_0 : decode cJ4_length_8abf5 0 = .ok (.aload_n 0, 1) := by decide +kernel
theorem dJ4_length_8abf5_1 : decode cJ4_length_8abf5 1 = .ok (.invokespecial 343, 3) := by decide +kernel
theorem dJ4_length_8abf5_4 : decode cJ4_length_8abf5 4 = .ok (.ireturn, 1) := by decide +kernel
theorem dJ4_setLength_d00df_0 : decode cJ4_setLength_d00df 0 = .ok (.aload_n 0, 1) := by decide +kernel
theorem dJ4_setLength_d00df_1 : decode cJ4_setLength_d00df 1 = .ok (.iload_n 1, 1) := by decide +kernel
theorem dJ4_setLength_d00df_2 : decode cJ4_setLength_d00df 2 = .ok (.invokespecial 333, 3) := by decide +kernel
theorem dJ4_setLength_d00df_5 : decode cJ4_setLength_d00df 5 = .ok (.return_, 1) := by decide +kernel
theorem dJ5_append_3fe6f_0 : decode cJ5_append_3fe6f 0 = .ok (.aload_n 0, 1) := by decide +kernel
theorem dJ5_append_3fe6f_1 : decode cJ5_append_3fe6f 1 = .ok (.aload_n 0, 1) := by decide +kernel
theorem dJ5_append_3fe6f_2 : decode cJ5_append_3fe6f 2 = .ok (.getfield 79, 3) := by decide +kernel
theorem dJ5_append_3fe6f_5 : decode cJ5_append_3fe6f 5 = .ok (.iconst 1, 1) := by decide +kernel
theorem dJ5_append_3fe6f_6 : decode cJ5_append_3fe6f 6 = .ok (.iadd, 1) := by decide +kernel
theorem dJ5_append_3fe6f_7 : decode cJ5_append_3fe6f 7 = .ok (.invokevirtual 100, 3) := by decide +kernel
theorem dJ5_append_3fe6f_10 : decode cJ5_append_3fe6f 10 = .ok (.aload_n 0, 1) := by decide +kernel
theorem dJ5_append_3fe6f_11 : decode cJ5_append_3fe6f 11 = .ok (.invokevirtual 83, 3) := by decide +kernel
theorem dJ5_append_3fe6f_14 : decode cJ5_append_3fe6f 14 = .ok (.ifCond .eq 31, 3) := by decide +kernel
theorem dJ5_append_3fe6f_17 : decode cJ5_append_3fe6f 17 = .ok (.iload_n 1, 1) := by decide +kernel
theorem dJ5_append_3fe6f_18 : decode cJ5_append_3fe6f 18 = .ok (.invokestatic 191, 3) := by decide +kernel
theorem dJ5_append_3fe6f_21 : decode cJ5_append_3fe6f 21 = .ok (.ifCond .eq 24, 3) := by decide +kernel
theorem dJ5_append_3fe6f_24 : decode cJ5_append_3fe6f 24 = .ok (.aload_n 0, 1) := by decide +kernel
theorem dJ5_append_3fe6f_25 : decode cJ5_append_3fe6f 25 = .ok (.getfield 15, 3) := by decide +kernel
theorem dJ5_append_3fe6f_28 : decode cJ5_append_3fe6f 28 = .ok (.aload_n 0, 1) := by decide +kernel
theorem dJ5_append_3fe6f_29 : decode cJ5_append_3fe6f 29 = .ok (.dup, 1) := by decide +kernel
theorem dJ5_append_3fe6f_30 : decode cJ5_append_3fe6f 30 = .ok (.getfield 79, 3) := by decide +kernel
theorem dJ5_append_3fe6f_33 : decode cJ5_append_3fe6f 33 = .ok (.dup_x1, 1) := by decide +kernel
theorem dJ5_append_3fe6f_34 : decode cJ5_append_3fe6f 34 = .ok (.iconst 1, 1) := by decide +kernel
theorem dJ5_append_3fe6f_35 : decode cJ5_append_3fe6f 35 = .ok (.iadd, 1) := by decide +kernel
theorem dJ5_append_3fe6f_36 : decode cJ5_append_3fe6f 36 = .ok (.putfield 79, 3) := by decide +kernel
theorem dJ5_append_3fe6f_39 : decode cJ5_append_3fe6f 39 = .ok (.iload_n 1, 1) := by decide +kernel
theorem dJ5_append_3fe6f_40 : decode cJ5_append_3fe6f 40 = .ok (.i2b, 1) := by decide +kernel
theorem dJ5_append_3fe6f_41 : decode cJ5_append_3fe6f 41 = .ok (.bastore, 1) := by decide +kernel
theorem dJ5_append_3fe6f_42 : decode cJ5_append_3fe6f 42 = .ok (.goto 33, 3) := by decide +kernel
theorem dJ5_append_3fe6f_45 : decode cJ5_append_3fe6f 45 = .ok (.aload_n 0, 1) := by decide +kernel
theorem dJ5_append_3fe6f_46 : decode cJ5_append_3fe6f 46 = .ok (.invokevirtual 83, 3) := by decide +kernel
theorem dJ5_append_3fe6f_49 : decode cJ5_append_3fe6f 49 = .ok (.ifCond .eq 7, 3) := by decide +kernel
theorem dJ5_append_3fe6f_52 : decode cJ5_append_3fe6f 52 = .ok (.aload_n 0, 1) := by decide +kernel
theorem dJ5_append_3fe6f_53 : decode cJ5_append_3fe6f 53 = .ok (.invokevirtual 195, 3) := by decide +kernel
theorem dJ5_append_3fe6f_56 : decode cJ5_append_3fe6f 56 = .ok (.aload_n 0, 1) := by decide +kernel
theorem dJ5_append_3fe6f_57 : decode cJ5_append_3fe6f 57 = .ok (.getfield 15, 3) := by decide +kernel
theorem dJ5_append_3fe6f_60 : decode cJ5_append_3fe6f 60 = .ok (.aload_n 0, 1) := by decide +kernel
theorem dJ5_append_3fe6f_61 : decode cJ5_append_3fe6f 61 = .ok (.dup, 1) := by decide +kernel
theorem dJ5_append_3fe6f_62 : decode cJ5_append_3fe6f 62 = .ok (.getfield 79, 3) := by decide +kernel
theorem dJ5_append_3fe6f_65 : decode cJ5_append_3fe6f 65 = .ok (.dup_x1, 1) := by decide +kernel
theorem dJ5_append_3fe6f_66 : decode cJ5_append_3fe6f 66 = .ok (.iconst 1, 1) := by decide +kernel
theorem dJ5_append_3fe6f_67 : decode cJ5_append_3fe6f 67 = .ok (.iadd, 1) := by decide +kernel
theorem dJ5_append_3fe6f_68 : decode cJ5_append_3fe6f 68 = .ok (.putfield 79, 3) := by decide +kernel
theorem dJ5_append_3fe6f_71 : decode cJ5_append_3fe6f 71 = .ok (.iload_n 1, 1) := by decide +kernel
theorem dJ5_append_3fe6f_72 : decode cJ5_append_3fe6f 72 = .ok (.invokestatic 197, 3) := by decide +kernel
theorem dJ5_append_3fe6f_75 : decode cJ5_append_3fe6f 75 = .ok (.aload_n 0, 1) := by decide +kernel
theorem dJ5_append_3fe6f_76 : decode cJ5_append_3fe6f 76 = .ok (.areturn, 1) := by decide +kernel
theorem dJ5_append_c97b9_0 : decode cJ5_append_c97b9 0 = .ok (.aload_n 0, 1) := by decide +kernel
theorem dJ5_append_c97b9_1 : decode cJ5_append_c97b9 1 = .ok (.getfield 79, 3) := by decide +kernel
theorem dJ5_append_c97b9_4 : decode cJ5_append_c97b9 4 = .ok (.istore_n 2, 1) := by decide +kernel
theorem dJ5_append_c97b9_5 : decode cJ5_append_c97b9 5 = .ok (.iload_n 2, 1) := by decide +kernel
theorem dJ5_append_c97b9_6 : decode cJ5_append_c97b9 6 = .ok (.iload_n 1, 1) := by decide +kernel
theorem dJ5_append_c97b9_7 : decode cJ5_append_c97b9 7 = .ok (.invokestatic 245, 3) := by decide +kernel
theorem dJ5_append_c97b9_10 : decode cJ5_append_c97b9 10 = .ok (.iadd, 1) := by decide +kernel
theorem dJ5_append_c97b9_11 : decode cJ5_append_c97b9 11 = .ok (.istore_n 3, 1) := by decide +kernel
theorem dJ5_append_c97b9_12 : decode cJ5_append_c97b9 12 = .ok (.aload_n 0, 1) := by decide +kernel
theorem dJ5_append_c97b9_13 : decode cJ5_append_c97b9 13 = .ok (.iload_n 3, 1) := by decide +kernel
theorem dJ5_append_c97b9_14 : decode cJ5_append_c97b9 14 = .ok (.invokevirtual 100, 3) := by decide +kernel
theorem dJ5_append_c97b9_17 : decode cJ5_append_c97b9 17 = .ok (.aload_n 0, 1) := by decide +kernel
theorem dJ5_append_c97b9_18 : decode cJ5_append_c97b9 18 = .ok (.invokevirtual 83, 3) := by decide +kernel
theorem dJ5_append_c97b9_21 : decode cJ5_append_c97b9 21 = .ok (.ifCond .eq 16, 3) := by decide +kernel
theorem dJ5_append_c97b9_24 : decode cJ5_append_c97b9 24 = .ok (.iload_n 1, 1) := by decide +kernel
theorem dJ5_append_c97b9_25 : decode cJ5_append_c97b9 25 = .ok (.iload_n 3, 1) := by decide +kernel
theorem dJ5_append_c97b9_26 : decode cJ5_append_c97b9 26 = .ok (.aload_n 0, 1) := by decide +kernel
theorem dJ5_append_c97b9_27 : decode cJ5_append_c97b9 27 = .ok (.getfield 15, 3) := by decide +kernel
theorem dJ5_append_c97b9_30 : decode cJ5_append_c97b9 30 = .ok (.invokestatic 248, 3) := by decide +kernel
theorem dJ5_append_c97b9_33 : decode cJ5_append_c97b9 33 = .ok (.pop, 1) := by decide +kernel
theorem dJ5_append_c97b9_34 : decode cJ5_append_c97b9 34 = .ok (.goto 14, 3) := by decide +kernel
theorem dJ5_append_c97b9_37 : decode cJ5_append_c97b9 37 = .ok (.iload_n 1, 1) := by decide +kernel
theorem dJ5_append_c97b9_38 : decode cJ5_append_c97b9 38 = .ok (.iload_n 2, 1) := by decide +kernel
theorem dJ5_append_c97b9_39 : decode cJ5_append_c97b9 39 = .ok (.iload_n 3, 1) := by decide +kernel
theorem dJ5_append_c97b9_40 : decode cJ5_append_c97b9 40 = .ok (.aload_n 0, 1) := by decide +kernel
theorem dJ5_append_c97b9_41 : decode cJ5_append_c97b9 41 = .ok (.getfield 15, 3) := by decide +kernel
theorem dJ5_append_c97b9_44 : decode cJ5_append_c97b9 44 = .ok (.invokestatic 251, 3) := by decide +kernel
theorem dJ5_append_c97b9_47 : decode cJ5_append_c97b9 47 = .ok (.pop, 1) := by decide +kernel
theorem dJ5_append_c97b9_48 : decode cJ5_append_c97b9 48 = .ok (.aload_n 0, 1) := by decide +kernel
theorem dJ5_append_c97b9_49 : decode cJ5_append_c97b9 49 = .ok (.iload_n 3, 1) := by decide +kernel
theorem dJ5_append_c97b9_50 : decode cJ5_append_c97b9 50 = .ok (.putfield 79, 3) := by decide +kernel
theorem dJ5_append_c97b9_53 : decode cJ5_append_c97b9 53 = .ok (.aload_n 0, 1) := by decide +kernel
theorem dJ5_append_c97b9_54 : decode cJ5_append_c97b9 54 = .ok (.areturn, 1) := by decide +kernel
theorem dJ5_append_cf1ce_0 : decode cJ5_append_cf1ce 0 = .ok (.aload_n 1, 1) := by decide +kernel
theorem dJ5_append_cf1ce_1 : decode cJ5_append_cf1ce 1 = .ok (.ifnonnull 8, 3) := by decide +kernel
theorem dJ5_append_cf1ce_4 : decode cJ5_append_cf1ce 4 = .ok (.aload_n 0, 1) := by decide +kernel
theorem dJ5_append_cf1ce_5 : decode cJ5_append_cf1ce 5 = .ok (.invokevirtual 204, 3) := by decide +kernel
theorem dJ5_append_cf1ce_8 : decode cJ5_append_cf1ce 8 = .ok (.areturn, 1) := by decide +kernel
theorem dJ5_append_cf1ce_9 : decode cJ5_append_cf1ce 9 = .ok (.aload_n 1, 1) := by decide +kernel
theorem dJ5_append_cf1ce_10 : decode cJ5_append_cf1ce 10 = .ok (.invokevirtual 32, 3) := by decide +kernel
theorem dJ5_append_cf1ce_13 : decode cJ5_append_cf1ce 13 = .ok (.istore_n 2, 1) := by decide +kernel
theorem dJ5_append_cf1ce_14 : decode cJ5_append_cf1ce 14 = .ok (.aload_n 0, 1) := by decide +kernel
theorem dJ5_append_cf1ce_15 : decode cJ5_append_cf1ce 15 = .ok (.aload_n 0, 1) := by decide +kernel
theorem dJ5_append_cf1ce_16 : decode cJ5_append_cf1ce 16 = .ok (.getfield 79, 3) := by decide +kernel
theorem dJ5_append_cf1ce_19 : decode cJ5_append_cf1ce 19 = .ok (.iload_n 2, 1) := by decide +kernel
theorem dJ5_append_cf1ce_20 : decode cJ5_append_cf1ce 20 = .ok (.iadd, 1) := by decide +kernel
theorem dJ5_append_cf1ce_21 : decode cJ5_append_cf1ce 21 = .ok (.invokevirtual 100, 3) := by decide +kernel
theorem dJ5_append_cf1ce_24 : decode cJ5_append_cf1ce 24 = .ok (.aload_n 0, 1) := by decide +kernel
theorem dJ5_append_cf1ce_25 : decode cJ5_append_cf1ce 25 = .ok (.aload_n 0, 1) := by decide +kernel
theorem dJ5_append_cf1ce_26 : decode cJ5_append_cf1ce 26 = .ok (.getfield 79, 3) := by decide +kernel
theorem dJ5_append_cf1ce_29 : decode cJ5_append_cf1ce 29 = .ok (.aload_n 1, 1) := by decide +kernel
theorem dJ5_append_cf1ce_30 : decode cJ5_append_cf1ce 30 = .ok (.invokevirtual 208, 3) := by decide +kernel
theorem dJ5_append_cf1ce_33 : decode cJ5_append_cf1ce 33 = .ok (.aload_n 0, 1) := by decide +kernel
theorem dJ5_append_cf1ce_34 : decode cJ5_append_cf1ce 34 = .ok (.dup, 1) := by decide +kernel
theorem dJ5_append_cf1ce_35 : decode cJ5_append_cf1ce 35 = .ok (.getfield 79, 3) := by decide +kernel
theorem dJ5_append_cf1ce_38 : decode cJ5_append_cf1ce 38 = .ok (.iload_n 2, 1) := by decide +kernel
theorem dJ5_append_cf1ce_39 : decode cJ5_append_cf1ce 39 = .ok (.iadd, 1) := by decide +kernel
theorem dJ5_append_cf1ce_40 : decode cJ5_append_cf1ce 40 = .ok (.putfield 79, 3) := by decide +kernel
theorem dJ5_append_cf1ce_43 : decode cJ5_append_cf1ce 43 = .ok (.aload_n 0, 1) := by decide +kernel
theorem dJ5_append_cf1ce_44 : decode cJ5_append_cf1ce 44 = .ok (.areturn, 1) := by decide +kernel
theorem dJ5_charAt_5068e_0 : decode cJ5_charAt_5068e 0 = .ok (.aload_n 0, 1) := by decide +kernel
theorem dJ5_charAt_5068e_1 : decode cJ5_charAt_5068e 1 = .ok (.getfield 22, 3) := by decide +kernel
theorem dJ5_charAt_5068e_4 : decode cJ5_charAt_5068e 4 = .ok (.istore_n 2, 1) := by decide +kernel
theorem dJ5_charAt_5068e_5 : decode cJ5_charAt_5068e 5 = .ok (.aload_n 0, 1) := by decide +kernel
theorem dJ5_charAt_5068e_6 : decode cJ5_charAt_5068e 6 = .ok (.getfield 15, 3) := by decide +kernel
theorem dJ5_charAt_5068e_9 : decode cJ5_charAt_5068e 9 = .ok (.astore_n 3, 1) := by decide +kernel
theorem dJ5_charAt_5068e_10 : decode cJ5_charAt_5068e 10 = .ok (.aload_n 0, 1) := by decide +kernel
theorem dJ5_charAt_5068e_11 : decode cJ5_charAt_5068e 11 = .ok (.getfield 79, 3) := by decide +kernel
theorem dJ5_charAt_5068e_14 : decode cJ5_charAt_5068e 14 = .ok (.aload_n 3, 1) := by decide +kernel
theorem dJ5_charAt_5068e_15 : decode cJ5_charAt_5068e 15 = .ok (.arraylength, 1) := by decide +kernel
theorem dJ5_charAt_5068e_16 : decode cJ5_charAt_5068e 16 = .ok (.iload_n 2, 1) := by decide +kernel
theorem dJ5_charAt_5068e_17 : decode cJ5_charAt_5068e 17 = .ok (.ishr, 1) := by decide +kernel
theorem dJ5_charAt_5068e_18 : decode cJ5_charAt_5068e 18 = .ok (.invokestatic 138, 3) := by decide +kernel
theorem dJ5_charAt_5068e_21 : decode cJ5_charAt_5068e 21 = .ok (.istore 4, 2) := by decide +kernel
theorem dJ5_charAt_5068e_23 : decode cJ5_charAt_5068e 23 = .ok (.iload_n 1, 1) := by decide +kernel
theorem dJ5_charAt_5068e_24 : decode cJ5_charAt_5068e 24 = .ok (.iload 4, 2) := by decide +kernel
theorem dJ5_charAt_5068e_26 : decode cJ5_charAt_5068e 26 = .ok (.invokestatic 144, 3) := by decide +kernel
theorem dJ5_charAt_5068e_29 : decode cJ5_charAt_5068e 29 = .ok (.iload_n 2, 1) := by decide +kernel
theorem dJ5_charAt_5068e_30 : decode cJ5_charAt_5068e 30 = .ok (.ifCond .ne 12, 3) := by decide +kernel
theorem dJ5_charAt_5068e_33 : decode cJ5_charAt_5068e 33 = .ok (.aload_n 3, 1) := by decide +kernel
theorem dJ5_charAt_5068e_34 : decode cJ5_charAt_5068e 34 = .ok (.iload_n 1, 1) := by decide +kernel
theorem dJ5_charAt_5068e_35 : decode cJ5_charAt_5068e 35 = .ok (.baload, 1) := by decide +kernel
theorem dJ5_charAt_5068e_36 : decode cJ5_charAt_5068e 36 = .ok (.sipush 255, 3) := by decide +kernel
theorem dJ5_charAt_5068e_39 : decode cJ5_charAt_5068e 39 = .ok (.iand, 1) := by decide +kernel
theorem dJ5_charAt_5068e_40 : decode cJ5_charAt_5068e 40 = .ok (.i2c, 1) := by decide +kernel
theorem dJ5_charAt_5068e_41 : decode cJ5_charAt_5068e 41 = .ok (.ireturn, 1) := by decide +kernel
theorem dJ5_charAt_5068e_42 : decode cJ5_charAt_5068e 42 = .ok (.aload_n 3, 1) := by decide +kernel
theorem dJ5_charAt_5068e_43 : decode cJ5_charAt_5068e 43 = .ok (.iload_n 1, 1) := by decide +kernel
theorem dJ5_charAt_5068e_44 : decode cJ5_charAt_5068e 44 = .ok (.invokestatic 148, 3) := by decide +kernel
theorem dJ5_charAt_5068e_47 : decode cJ5_charAt_5068e 47 = .ok (.ireturn, 1) := by decide +kernel
theorem dJ5_ensureCapacityInternal_d00df_0 : decode cJ5_ensureCapacityInternal_d00df 0 = .ok (.aload_n 0, 1) := by decide +kernel
theorem dJ5_ensureCapacityInternal_d00df_1 : decode cJ5_ensureCapacityInternal_d00df 1 = .ok (.getfield 15, 3) := by decide +kernel
theorem dJ5_ensureCapacityInternal_d00df_4 : decode cJ5_ensureCapacityInternal_d00df 4 = .ok (.arraylength, 1) := by decide +kernel
theorem dJ5_ensureCapacityInternal_d00df_5 : decode cJ5_ensureCapacityInternal_d00df 5 = .ok (.aload_n 0, 1) := by decide +kernel
theorem dJ5_ensureCapacityInternal_d00df_6 : decode cJ5_ensureCapacityInternal_d00df 6 = .ok (.getfield 22, 3) := by decide +kernel
theorem dJ5_ensureCapacityInternal_d00df_9 : decode cJ5_ensureCapacityInternal_d00df 9 = .ok (.ishr, 1) := by decide +kernel
theorem dJ5_ensureCapacityInternal_d00df_10 : decode cJ5_ensureCapacityInternal_d00df 10 = .ok (.istore_n 2, 1) := by decide +kernel
theorem dJ5_ensureCapacityInternal_d00df_11 : decode cJ5_ensureCapacityInternal_d00df 11 = .ok (.iload_n 1, 1) := by decide +kernel
theorem dJ5_ensureCapacityInternal_d00df_12 : decode cJ5_ensureCapacityInternal_d00df 12 = .ok (.iload_n 2, 1) := by decide +kernel
theorem dJ5_ensureCapacityInternal_d00df_13 : decode cJ5_ensureCapacityInternal_d00df 13 = .ok (.isub, 1) := by decide +kernel
theorem dJ5_ensureCapacityInternal_d00df_14 : decode cJ5_ensureCapacityInternal_d00df 14 = .ok (.ifCond .le 24, 3) := by decide +kernel
theorem dJ5_ensureCapacityInternal_d00df_17 : decode cJ5_ensureCapacityInternal_d00df 17 = .ok (.aload_n 0, 1) := by decide +kernel
theorem dJ5_ensureCapacityInternal_d00df_18 : decode cJ5_ensureCapacityInternal_d00df 18 = .ok (.aload_n 0, 1) := by decide +kernel
theorem dJ5_ensureCapacityInternal_d00df_19 : decode cJ5_ensureCapacityInternal_d00df 19 = .ok (.getfield 15, 3) := by decide +kernel
theorem dJ5_ensureCapacityInternal_d00df_22 : decode cJ5_ensureCapacityInternal_d00df 22 = .ok (.aload_n 0, 1) := by decide +kernel
theorem dJ5_ensureCapacityInternal_d00df_23 : decode cJ5_ensureCapacityInternal_d00df 23 = .ok (.iload_n 1, 1) := by decide +kernel
theorem dJ5_ensureCapacityInternal_d00df_24 : decode cJ5_ensureCapacityInternal_d00df 24 = .ok (.invokevirtual 104, 3) := by decide +kernel
theorem dJ5_ensureCapacityInternal_d00df_27 : decode cJ5_ensureCapacityInternal_d00df 27 = .ok (.aload_n 0, 1) := by decide +kernel
theorem dJ5_ensureCapacityInternal_d00df_28 : decode cJ5_ensureCapacityInternal_d00df 28 = .ok (.getfield 22, 3) := by decide +kernel
theorem dJ5_ensureCapacityInternal_d00df_31 : decode cJ5_ensureCapacityInternal_d00df 31 = .ok (.ishl, 1) := by decide +kernel
theorem dJ5_ensureCapacityInternal_d00df_32 : decode cJ5_ensureCapacityInternal_d00df 32 = .ok (.invokestatic 108, 3) := by decide +kernel
theorem dJ5_ensureCapacityInternal_d00df_35 : decode cJ5_ensureCapacityInternal_d00df 35 = .ok (.putfield 15, 3) := by decide +kernel
theorem dJ5_ensureCapacityInternal_d00df_38 : decode cJ5_ensureCapacityInternal_d00df 38 = .ok (.return_, 1) := by decide +kernel
theorem dJ5_inflateIfNeededFor_a7421_0 : decode cJ5_inflateIfNeededFor_a7421 0 = .ok (.getstatic 18, 3) := by decide +kernel
theorem dJ5_inflateIfNeededFor_a7421_3 : decode cJ5_inflateIfNeededFor_a7421 3 = .ok (.ifCond .eq 18, 3) := by decide +kernel
theorem dJ5_inflateIfNeededFor_a7421_6 : decode cJ5_inflateIfNeededFor_a7421 6 = .ok (.aload_n 0, 1) := by decide +kernel
theorem dJ5_inflateIfNeededFor_a7421_7 : decode cJ5_inflateIfNeededFor_a7421 7 = .ok (.getfield 22, 3) := by decide +kernel
theorem dJ5_inflateIfNeededFor_a7421_10 : decode cJ5_inflateIfNeededFor_a7421 10 = .ok (.aload_n 1, 1) := by decide +kernel
theorem dJ5_inflateIfNeededFor_a7421_11 : decode cJ5_inflateIfNeededFor_a7421 11 = .ok (.invokevirtual 40, 3) := by decide +kernel
theorem dJ5_inflateIfNeededFor_a7421_14 : decode cJ5_inflateIfNeededFor_a7421 14 = .ok (.if_icmp .eq 7, 3) := by decide +kernel
theorem dJ5_inflateIfNeededFor_a7421_17 : decode cJ5_inflateIfNeededFor_a7421 17 = .ok (.aload_n 0, 1) := by decide +kernel
theorem dJ5_inflateIfNeededFor_a7421_18 : decode cJ5_inflateIfNeededFor_a7421 18 = .ok (.invokevirtual 195, 3) := by decide +kernel
theorem dJ5_inflateIfNeededFor_a7421_21 : decode cJ5_inflateIfNeededFor_a7421 21 = .ok (.return_, 1) := by decide +kernel
theorem dJ5_init_d00df_0 : decode cJ5_init_d00df 0 = .ok (.aload_n 0, 1) := by decide +kernel
theorem dJ5_init_d00df_1 : decode cJ5_init_d00df 1 = .ok (.invokespecial 3, 3) := by decide +kernel
theorem dJ5_init_d00df_4 : decode cJ5_init_d00df 4 = .ok (.getstatic 18, 3) := by decide +kernel
theorem dJ5_init_d00df_7 : decode cJ5_init_d00df 7 = .ok (.ifCond .eq 18, 3) := by decide +kernel
theorem dJ5_init_d00df_10 : decode cJ5_init_d00df 10 = .ok (.aload_n 0, 1) := by decide +kernel
theorem dJ5_init_d00df_11 : decode cJ5_init_d00df 11 = .ok (.iload_n 1, 1) := by decide +kernel
theorem dJ5_init_d00df_12 : decode cJ5_init_d00df 12 = .ok (.newarray .byte, 2) := by decide +kernel
theorem dJ5_init_d00df_14 : decode cJ5_init_d00df 14 = .ok (.putfield 15, 3) := by decide +kernel
theorem dJ5_init_d00df_17 : decode cJ5_init_d00df 17 = .ok (.aload_n 0, 1) := by decide +kernel
theorem dJ5_init_d00df_18 : decode cJ5_init_d00df 18 = .ok (.iconst 0, 1) := by decide +kernel
theorem dJ5_init_d00df_19 : decode cJ5_init_d00df 19 = .ok (.putfield 22, 3) := by decide +kernel
theorem dJ5_init_d00df_22 : decode cJ5_init_d00df 22 = .ok (.goto 16, 3) := by decide +kernel
theorem dJ5_init_d00df_25 : decode cJ5_init_d00df 25 = .ok (.aload_n 0, 1) := by decide +kernel
theorem dJ5_init_d00df_26 : decode cJ5_init_d00df 26 = .ok (.iload_n 1, 1) := by decide +kernel
theorem dJ5_init_d00df_27 : decode cJ5_init_d00df 27 = .ok (.invokestatic 26, 3) := by decide +kernel
theorem dJ5_init_d00df_30 : decode cJ5_init_d00df 30 = .ok (.putfield 15, 3) := by decide +kernel
theorem dJ5_init_d00df_33 : decode cJ5_init_d00df 33 = .ok (.aload_n 0, 1) := by decide +kernel
theorem dJ5_init_d00df_34 : decode cJ5_init_d00df 34 = .ok (.iconst 1, 1) := by decide +kernel
theorem dJ5_init_d00df_35 : decode cJ5_init_d00df 35 = .ok (.putfield 22, 3) := by decide +kernel
theorem dJ5_init_d00df_38 : decode cJ5_init_d00df 38 = .ok (.return_, 1) := by decide +kernel
theorem dJ5_isLatin1_aae02_0 : decode cJ5_isLatin1_aae02 0 = .ok (.getstatic 18, 3) := by decide +kernel
theorem dJ5_isLatin1_aae02_3 : decode cJ5_isLatin1_aae02 3 = .ok (.ifCond .eq 14, 3) := by decide +kernel
theorem dJ5_isLatin1_aae02_6 : decode cJ5_isLatin1_aae02 6 = .ok (.aload_n 0, 1) := by decide +kernel
theorem dJ5_isLatin1_aae02_7 : decode cJ5_isLatin1_aae02 7 = .ok (.getfield 22, 3) := by decide +kernel
theorem dJ5_isLatin1_aae02_10 : decode cJ5_isLatin1_aae02 10 = .ok (.ifCond .ne 7, 3) := by decide +kernel
theorem dJ5_isLatin1_aae02_13 : decode cJ5_isLatin1_aae02 13 = .ok (.iconst 1, 1) := by decide +kernel
theorem dJ5_isLatin1_aae02_14 : decode cJ5_isLatin1_aae02 14 = .ok (.goto 4, 3) := by decide +kernel
theorem dJ5_isLatin1_aae02_17 : decode cJ5_isLatin1_aae02 17 = .ok (.iconst 0, 1) := by decide +kernel
theorem dJ5_isLatin1_aae02_18 : decode cJ5_isLatin1_aae02 18 = .ok (.ireturn, 1) := by decide +kernel
theorem dJ5_length_8abf5_0 : decode cJ5_length_8abf5 0 = .ok (.aload_n 0, 1) := by decide +kernel
theorem dJ5_length_8abf5_1 : decode cJ5_length_8abf5 1 = .ok (.getfield 79, 3) := by decide +kernel
theorem dJ5_length_8abf5_4 : decode cJ5_length_8abf5 4 = .ok (.ireturn, 1) := by decide +kernel
theorem dJ5_newCapacity_0f7a4_0 : decode cJ5_newCapacity_0f7a4 0 = .ok (.aload_n 0, 1) := by decide +kernel
theorem dJ5_newCapacity_0f7a4_1 : decode cJ5_newCapacity_0f7a4 1 = .ok (.getfield 15, 3) := by decide +kernel
theorem dJ5_newCapacity_0f7a4_4 : decode cJ5_newCapacity_0f7a4 4 = .ok (.arraylength, 1) := by decide +kernel
theorem dJ5_newCapacity_0f7a4_5 : decode cJ5_newCapacity_0f7a4 5 = .ok (.istore_n 2, 1) := by decide +kernel
theorem dJ5_newCapacity_0f7a4_6 : decode cJ5_newCapacity_0f7a4 6 = .ok (.iload_n 1, 1) := by decide +kernel
theorem dJ5_newCapacity_0f7a4_7 : decode cJ5_newCapacity_0f7a4 7 = .ok (.aload_n 0, 1) := by decide +kernel
theorem dJ5_newCapacity_0f7a4_8 : decode cJ5_newCapacity_0f7a4 8 = .ok (.getfield 22, 3) := by decide +kernel
theorem dJ5_newCapacity_0f7a4_11 : decode cJ5_newCapacity_0f7a4 11 = .ok (.ishl, 1) := by decide +kernel
theorem dJ5_newCapacity_0f7a4_12 : decode cJ5_newCapacity_0f7a4 12 = .ok (.istore_n 3, 1) := by decide +kernel
theorem dJ5_newCapacity_0f7a4_13 : decode cJ5_newCapacity_0f7a4 13 = .ok (.iload_n 3, 1) := by decide +kernel
theorem dJ5_newCapacity_0f7a4_14 : decode cJ5_newCapacity_0f7a4 14 = .ok (.iload_n 2, 1) := by decide +kernel
theorem dJ5_newCapacity_0f7a4_15 : decode cJ5_newCapacity_0f7a4 15 = .ok (.isub, 1) := by decide +kernel
theorem dJ5_newCapacity_0f7a4_16 : decode cJ5_newCapacity_0f7a4 16 = .ok (.istore 4, 2) := by decide +kernel
theorem dJ5_newCapacity_0f7a4_18 : decode cJ5_newCapacity_0f7a4 18 = .ok (.iload_n 2, 1) := by decide +kernel
theorem dJ5_newCapacity_0f7a4_19 : decode cJ5_newCapacity_0f7a4 19 = .ok (.iload 4, 2) := by decide +kernel
theorem dJ5_newCapacity_0f7a4_21 : decode cJ5_newCapacity_0f7a4 21 = .ok (.iload_n 2, 1) := by decide +kernel
theorem dJ5_newCapacity_0f7a4_22 : decode cJ5_newCapacity_0f7a4 22 = .ok (.iconst 2, 1) := by decide +kernel
theorem dJ5_newCapacity_0f7a4_23 : decode cJ5_newCapacity_0f7a4 23 = .ok (.aload_n 0, 1) := by decide +kernel
theorem dJ5_newCapacity_0f7a4_24 : decode cJ5_newCapacity_0f7a4 24 = .ok (.getfield 22, 3) := by decide +kernel
theorem dJ5_newCapacity_0f7a4_27 : decode cJ5_newCapacity_0f7a4 27 = .ok (.ishl, 1) := by decide +kernel
theorem dJ5_newCapacity_0f7a4_28 : decode cJ5_newCapacity_0f7a4 28 = .ok (.iadd, 1) := by decide +kernel
theorem dJ5_newCapacity_0f7a4_29 : decode cJ5_newCapacity_0f7a4 29 = .ok (.invokestatic 114, 3) := by decide +kernel
theorem dJ5_newCapacity_0f7a4_32 : decode cJ5_newCapacity_0f7a4 32 = .ok (.istore 5, 2) := by decide +kernel
theorem dJ5_newCapacity_0f7a4_34 : decode cJ5_newCapacity_0f7a4 34 = .ok (.iload 5, 2) := by decide +kernel
theorem dJ5_newCapacity_0f7a4_36 : decode cJ5_newCapacity_0f7a4 36 = .ok (.ldc 39, 2) := by decide +kernel
theorem dJ5_newCapacity_0f7a4_38 : decode cJ5_newCapacity_0f7a4 38 = .ok (.if_icmp .ne 13, 3) := by decide +kernel
theorem dJ5_newCapacity_0f7a4_41 : decode cJ5_newCapacity_0f7a4 41 = .ok (.new 120, 3) := by decide +kernel
theorem dJ5_newCapacity_0f7a4_44 : decode cJ5_newCapacity_0f7a4 44 = .ok (.dup, 1) := by decide +kernel
theorem dJ5_newCapacity_0f7a4_45 : decode cJ5_newCapacity_0f7a4 45 = .ok (.ldc 122, 2) := by decide +kernel
theorem dJ5_newCapacity_0f7a4_47 : decode cJ5_newCapacity_0f7a4 47 = .ok (.invokespecial 124, 3) := by decide +kernel
theorem dJ5_newCapacity_0f7a4_50 : decode cJ5_newCapacity_0f7a4 50 = .ok (.athrow, 1) := by decide +kernel
theorem dJ5_newCapacity_0f7a4_51 : decode cJ5_newCapacity_0f7a4 51 = .ok (.iload 5, 2) := by decide +kernel
theorem dJ5_newCapacity_0f7a4_53 : decode cJ5_newCapacity_0f7a4 53 = .ok (.aload_n 0, 1) := by decide +kernel
theorem dJ5_newCapacity_0f7a4_54 : decode cJ5_newCapacity_0f7a4 54 = .ok (.getfield 22, 3) := by decide +kernel
theorem dJ5_newCapacity_0f7a4_57 : decode cJ5_newCapacity_0f7a4 57 = .ok (.ishr, 1) := by decide +kernel
theorem dJ5_newCapacity_0f7a4_58 : decode cJ5_newCapacity_0f7a4 58 = .ok (.ireturn, 1) := by decide +kernel
theorem dJ5_putStringAt_47b60_0 : decode cJ5_putStringAt_47b60 0 = .ok (.aload_n 0, 1) := by decide +kernel
theorem dJ5_putStringAt_47b60_1 : decode cJ5_putStringAt_47b60 1 = .ok (.aload_n 2, 1) := by decide +kernel
theorem dJ5_putStringAt_47b60_2 : decode cJ5_putStringAt_47b60 2 = .ok (.invokevirtual 397, 3) := by decide +kernel
theorem dJ5_putStringAt_47b60_5 : decode cJ5_putStringAt_47b60 5 = .ok (.aload_n 2, 1) := by decide +kernel
theorem dJ5_putStringAt_47b60_6 : decode cJ5_putStringAt_47b60 6 = .ok (.aload_n 0, 1) := by decide +kernel
theorem dJ5_putStringAt_47b60_7 : decode cJ5_putStringAt_47b60 7 = .ok (.getfield 15, 3) := by decide +kernel
theorem dJ5_putStringAt_47b60_10 : decode cJ5_putStringAt_47b60 10 = .ok (.iload_n 1, 1) := by decide +kernel
theorem dJ5_putStringAt_47b60_11 : decode cJ5_putStringAt_47b60 11 = .ok (.aload_n 0, 1) := by decide +kernel
theorem dJ5_putStringAt_47b60_12 : decode cJ5_putStringAt_47b60 12 = .ok (.getfield 22, 3) := by decide +kernel
theorem dJ5_putStringAt_47b60_15 : decode cJ5_putStringAt_47b60 15 = .ok (.invokevirtual 399, 3) := by decide +kernel
theorem dJ5_putStringAt_47b60_18 : decode cJ5_putStringAt_47b60 18 = .ok (.return_, 1) := by decide +kernel
theorem dJ5_setLength_d00df_0 : decode cJ5_setLength_d00df 0 = .ok (.iload_n 1, 1) := by decide +kernel
theorem dJ5_setLength_d00df_1 : decode cJ5_setLength_d00df 1 = .ok (.ifCond .ge 12, 3) := by decide +kernel
theorem dJ5_setLength_d00df_4 : decode cJ5_setLength_d00df 4 = .ok (.new 129, 3) := by decide +kernel
theorem dJ5_setLength_d00df_7 : decode cJ5_setLength_d00df 7 = .ok (.dup, 1) := by decide +kernel
theorem dJ5_setLength_d00df_8 : decode cJ5_setLength_d00df 8 = .ok (.iload_n 1, 1) := by decide +kernel
theorem dJ5_setLength_d00df_9 : decode cJ5_setLength_d00df 9 = .ok (.invokespecial 131, 3) := by decide +kernel
theorem dJ5_setLength_d00df_12 : decode cJ5_setLength_d00df 12 = .ok (.athrow, 1) := by decide +kernel
theorem dJ5_setLength_d00df_13 : decode cJ5_setLength_d00df 13 = .ok (.aload_n 0, 1) := by decide +kernel
theorem dJ5_setLength_d00df_14 : decode cJ5_setLength_d00df 14 = .ok (.iload_n 1, 1) := by decide +kernel
theorem dJ5_setLength_d00df_15 : decode cJ5_setLength_d00df 15 = .ok (.invokevirtual 100, 3) := by decide +kernel
theorem dJ5_setLength_d00df_18 : decode cJ5_setLength_d00df 18 = .ok (.aload_n 0, 1) := by decide +kernel
theorem dJ5_setLength_d00df_19 : decode cJ5_setLength_d00df 19 = .ok (.getfield 79, 3) := by decide +kernel
theorem dJ5_setLength_d00df_22 : decode cJ5_setLength_d00df 22 = .ok (.iload_n 1, 1) := by decide +kernel
theorem dJ5_setLength_d00df_23 : decode cJ5_setLength_d00df 23 = .ok (.if_icmp .ge 40, 3) := by decide +kernel
theorem dJ5_setLength_d00df_26 : decode cJ5_setLength_d00df 26 = .ok (.aload_n 0, 1) := by decide +kernel
theorem dJ5_setLength_d00df_27 : decode cJ5_setLength_d00df 27 = .ok (.invokevirtual 83, 3) := by decide +kernel
theorem dJ5_setLength_d00df_30 : decode cJ5_setLength_d00df 30 = .ok (.ifCond .eq 18, 3) := by decide +kernel
theorem dJ5_setLength_d00df_33 : decode cJ5_setLength_d00df 33 = .ok (.aload_n 0, 1) := by decide +kernel
theorem dJ5_setLength_d00df_34 : decode cJ5_setLength_d00df 34 = .ok (.getfield 15, 3) := by decide +kernel
theorem dJ5_setLength_d00df_37 : decode cJ5_setLength_d00df 37 = .ok (.aload_n 0, 1) := by decide +kernel
theorem dJ5_setLength_d00df_38 : decode cJ5_setLength_d00df 38 = .ok (.getfield 79, 3) := by decide +kernel
theorem dJ5_setLength_d00df_41 : decode cJ5_setLength_d00df 41 = .ok (.iload_n 1, 1) := by decide +kernel
theorem dJ5_setLength_d00df_42 : decode cJ5_setLength_d00df 42 = .ok (.invokestatic 133, 3) := by decide +kernel
theorem dJ5_setLength_d00df_45 : decode cJ5_setLength_d00df 45 = .ok (.goto 31, 3) := by decide +kernel
theorem dJ5_setLength_d00df_48 : decode cJ5_setLength_d00df 48 = .ok (.aload_n 0, 1) := by decide +kernel
theorem dJ5_setLength_d00df_49 : decode cJ5_setLength_d00df 49 = .ok (.getfield 15, 3) := by decide +kernel
theorem dJ5_setLength_d00df_52 : decode cJ5_setLength_d00df 52 = .ok (.aload_n 0, 1) := by decide +kernel
theorem dJ5_setLength_d00df_53 : decode cJ5_setLength_d00df 53 = .ok (.getfield 79, 3) := by decide +kernel
theorem dJ5_setLength_d00df_56 : decode cJ5_setLength_d00df 56 = .ok (.iload_n 1, 1) := by decide +kernel
theorem dJ5_setLength_d00df_57 : decode cJ5_setLength_d00df 57 = .ok (.invokestatic 137, 3) := by decide +kernel
theorem dJ5_setLength_d00df_60 : decode cJ5_setLength_d00df 60 = .ok (.goto 16, 3) := by decide +kernel
theorem dJ5_setLength_d00df_63 : decode cJ5_setLength_d00df 63 = .ok (.aload_n 0, 1) := by decide +kernel
theorem dJ5_setLength_d00df_64 : decode cJ5_setLength_d00df 64 = .ok (.getfield 79, 3) := by decide +kernel
theorem dJ5_setLength_d00df_67 : decode cJ5_setLength_d00df 67 = .ok (.iload_n 1, 1) := by decide +kernel
theorem dJ5_setLength_d00df_68 : decode cJ5_setLength_d00df 68 = .ok (.if_icmp .le 8, 3) := by decide +kernel
theorem dJ5_setLength_d00df_71 : decode cJ5_setLength_d00df 71 = .ok (.aload_n 0, 1) := by decide +kernel
theorem dJ5_setLength_d00df_72 : decode cJ5_setLength_d00df 72 = .ok (.iconst 1, 1) := by decide +kernel
theorem dJ5_setLength_d00df_73 : decode cJ5_setLength_d00df 73 = .ok (.putfield 73, 3) := by decide +kernel
theorem dJ5_setLength_d00df_76 : decode cJ5_setLength_d00df 76 = .ok (.aload_n 0, 1) := by decide +kernel
theorem dJ5_setLength_d00df_77 : decode cJ5_setLength_d00df 77 = .ok (.iload_n 1, 1) := by decide +kernel
theorem dJ5_setLength_d00df_78 : decode cJ5_setLength_d00df 78 = .ok (.putfield 79, 3) := by decide +kernel
theorem dJ5_setLength_d00df_81 : decode cJ5_setLength_d00df 81 = .ok (.return_, 1) := by decide +kernel
theorem dJ6_bitCount_0f7a4_0 : decode cJ6_bitCount_0f7a4 0 = .ok (.iload_n 0, 1) := by decide +kernel
theorem dJ6_bitCount_0f7a4_1 : decode cJ6_bitCount_0f7a4 1 = .ok (.iload_n 0, 1) := by decide +kernel
theorem dJ6_bitCount_0f7a4_2 : decode cJ6_bitCount_0f7a4 2 = .ok (.iconst 1, 1) := by decide +kernel
theorem dJ6_bitCount_0f7a4_3 : decode cJ6_bitCount_0f7a4 3 = .ok (.iushr, 1) := by decide +kernel
theorem dJ6_bitCount_0f7a4_4 : decode cJ6_bitCount_0f7a4 4 = .ok (.ldc_w 265, 3) := by decide +kernel
theorem dJ6_bitCount_0f7a4_7 : decode cJ6_bitCount_0f7a4 7 = .ok (.iand, 1) := by decide +kernel
theorem dJ6_bitCount_0f7a4_8 : decode cJ6_bitCount_0f7a4 8 = .ok (.isub, 1) := by decide +kernel
theorem dJ6_bitCount_0f7a4_9 : decode cJ6_bitCount_0f7a4 9 = .ok (.istore_n 0, 1) := by decide +kernel
theorem dJ6_bitCount_0f7a4_10 : decode cJ6_bitCount_0f7a4 10 = .ok (.iload_n 0, 1) := by decide +kernel
theorem dJ6_bitCount_0f7a4_11 : decode cJ6_bitCount_0f7a4 11 = .ok (.ldc_w 266, 3) := by decide +kernel
theorem dJ6_bitCount_0f7a4_14 : decode cJ6_bitCount_0f7a4 14 = .ok (.iand, 1) := by decide +kernel
theorem dJ6_bitCount_0f7a4_15 : decode cJ6_bitCount_0f7a4 15 = .ok (.iload_n 0, 1) := by decide +kernel
theorem dJ6_bitCount_0f7a4_16 : decode cJ6_bitCount_0f7a4 16 = .ok (.iconst 2, 1) := by decide +kernel
theorem dJ6_bitCount_0f7a4_17 : decode cJ6_bitCount_0f7a4 17 = .ok (.iushr, 1) := by decide +kernel
theorem dJ6_bitCount_0f7a4_18 : decode cJ6_bitCount_0f7a4 18 = .ok (.ldc_w 266, 3) := by decide +kernel
theorem dJ6_bitCount_0f7a4_21 : decode cJ6_bitCount_0f7a4 21 = .ok (.iand, 1) := by decide +kernel
theorem dJ6_bitCount_0f7a4_22 : decode cJ6_bitCount_0f7a4 22 = .ok (.iadd, 1) := by decide +kernel
theorem dJ6_bitCount_0f7a4_23 : decode cJ6_bitCount_0f7a4 23 = .ok (.istore_n 0, 1) := by decide +kernel
theorem dJ6_bitCount_0f7a4_24 : decode cJ6_bitCount_0f7a4 24 = .ok (.iload_n 0, 1) := by decide +kernel
theorem dJ6_bitCount_0f7a4_25 : decode cJ6_bitCount_0f7a4 25 = .ok (.iload_n 0, 1) := by decide +kernel
theorem dJ6_bitCount_0f7a4_26 : decode cJ6_bitCount_0f7a4 26 = .ok (.iconst 4, 1) := by decide +kernel
theorem dJ6_bitCount_0f7a4_27 : decode cJ6_bitCount_0f7a4 27 = .ok (.iushr, 1) := by decide +kernel
theorem dJ6_bitCount_0f7a4_28 : decode cJ6_bitCount_0f7a4 28 = .ok (.iadd, 1) := by decide +kernel
theorem dJ6_bitCount_0f7a4_29 : decode cJ6_bitCount_0f7a4 29 = .ok (.ldc_w 267, 3) := by decide +kernel
theorem dJ6_bitCount_0f7a4_32 : decode cJ6_bitCount_0f7a4 32 = .ok (.iand, 1) := by decide +kernel
theorem dJ6_bitCount_0f7a4_33 : decode cJ6_bitCount_0f7a4 33 = .ok (.istore_n 0, 1) := by decide +kernel
theorem dJ6_bitCount_0f7a4_34 : decode cJ6_bitCount_0f7a4 34 = .ok (.iload_n 0, 1) := by decide +kernel
theorem dJ6_bitCount_0f7a4_35 : decode cJ6_bitCount_0f7a4 35 = .ok (.iload_n 0, 1) := by decide +kernel
theorem dJ6_bitCount_0f7a4_36 : decode cJ6_bitCount_0f7a4 36 = .ok (.bipush 8, 2) := by decide +kernel
theorem dJ6_bitCount_0f7a4_38 : decode cJ6_bitCount_0f7a4 38 = .ok (.iushr, 1) := by decide +kernel
theorem dJ6_bitCount_0f7a4_39 : decode cJ6_bitCount_0f7a4 39 = .ok (.iadd, 1) := by decide +kernel
theorem dJ6_bitCount_0f7a4_40 : decode cJ6_bitCount_0f7a4 40 = .ok (.istore_n 0, 1) := by decide +kernel
theorem dJ6_bitCount_0f7a4_41 : decode cJ6_bitCount_0f7a4 41 = .ok (.iload_n 0, 1) := by decide +kernel
theorem dJ6_bitCount_0f7a4_42 : decode cJ6_bitCount_0f7a4 42 = .ok (.iload_n 0, 1) := by decide +kernel
theorem dJ6_bitCount_0f7a4_43 : decode cJ6_bitCount_0f7a4 43 = .ok (.bipush 16, 2) := by decide +kernel
theorem dJ6_bitCount_0f7a4_45 : decode cJ6_bitCount_0f7a4 45 = .ok (.iushr, 1) := by decide +kernel
theorem dJ6_bitCount_0f7a4_46 : decode cJ6_bitCount_0f7a4 46 = .ok (.iadd, 1) := by decide +kernel
theorem dJ6_bitCount_0f7a4_47 : decode cJ6_bitCount_0f7a4 47 = .ok (.istore_n 0, 1) := by decide +kernel
theorem dJ6_bitCount_0f7a4_48 : decode cJ6_bitCount_0f7a4 48 = .ok (.iload_n 0, 1) := by decide +kernel
theorem dJ6_bitCount_0f7a4_49 : decode cJ6_bitCount_0f7a4 49 = .ok (.bipush 63, 2) := by decide +kernel
theorem dJ6_bitCount_0f7a4_51 : decode cJ6_bitCount_0f7a4 51 = .ok (.iand, 1) := by decide +kernel
theorem dJ6_bitCount_0f7a4_52 : decode cJ6_bitCount_0f7a4 52 = .ok (.ireturn, 1) := by decide +kernel
theorem dJ6_getChars_ba4f3_0 : decode cJ6_getChars_ba4f3 0 = .ok (.iload_n 1, 1) := by decide +kernel
theorem dJ6_getChars_ba4f3_1 : decode cJ6_getChars_ba4f3 1 = .ok (.istore 5, 2) := by decide +kernel
theorem dJ6_getChars_ba4f3_3 : decode cJ6_getChars_ba4f3 3 = .ok (.iload_n 0, 1) := by decide +kernel
theorem dJ6_getChars_ba4f3_4 : decode cJ6_getChars_ba4f3 4 = .ok (.ifCond .ge 7, 3) := by decide +kernel
theorem dJ6_getChars_ba4f3_7 : decode cJ6_getChars_ba4f3 7 = .ok (.iconst 1, 1) := by decide +kernel
theorem dJ6_getChars_ba4f3_8 : decode cJ6_getChars_ba4f3 8 = .ok (.goto 4, 3) := by decide +kernel
theorem dJ6_getChars_ba4f3_11 : decode cJ6_getChars_ba4f3 11 = .ok (.iconst 0, 1) := by decide +kernel
theorem dJ6_getChars_ba4f3_12 : decode cJ6_getChars_ba4f3 12 = .ok (.istore 6, 2) := by decide +kernel
theorem dJ6_getChars_ba4f3_14 : decode cJ6_getChars_ba4f3 14 = .ok (.iload 6, 2) := by decide +kernel
theorem dJ6_getChars_ba4f3_16 : decode cJ6_getChars_ba4f3 16 = .ok (.ifCond .ne 6, 3) := by decide +kernel
theorem dJ6_getChars_ba4f3_19 : decode cJ6_getChars_ba4f3 19 = .ok (.iload_n 0, 1) := by decide +kernel
theorem dJ6_getChars_ba4f3_20 : decode cJ6_getChars_ba4f3 20 = .ok (.ineg, 1) := by decide +kernel
theorem dJ6_getChars_ba4f3_21 : decode cJ6_getChars_ba4f3 21 = .ok (.istore_n 0, 1) := by decide +kernel
theorem dJ6_getChars_ba4f3_22 : decode cJ6_getChars_ba4f3 22 = .ok (.iload_n 0, 1) := by decide +kernel
theorem dJ6_getChars_ba4f3_23 : decode cJ6_getChars_ba4f3 23 = .ok (.bipush (-100), 2) := by decide +kernel
theorem dJ6_getChars_ba4f3_25 : decode cJ6_getChars_ba4f3 25 = .ok (.if_icmp .gt 47, 3) := by decide +kernel
theorem dJ6_getChars_ba4f3_28 : decode cJ6_getChars_ba4f3 28 = .ok (.iload_n 0, 1) := by decide +kernel
theorem dJ6_getChars_ba4f3_29 : decode cJ6_getChars_ba4f3 29 = .ok (.bipush 100, 2) := by decide +kernel
theorem dJ6_getChars_ba4f3_31 : decode cJ6_getChars_ba4f3 31 = .ok (.idiv, 1) := by decide +kernel
theorem dJ6_getChars_ba4f3_32 : decode cJ6_getChars_ba4f3 32 = .ok (.istore_n 3, 1) := by decide +kernel
theorem dJ6_getChars_ba4f3_33 : decode cJ6_getChars_ba4f3 33 = .ok (.iload_n 3, 1) := by decide +kernel
theorem dJ6_getChars_ba4f3_34 : decode cJ6_getChars_ba4f3 34 = .ok (.bipush 100, 2) := by decide +kernel
theorem dJ6_getChars_ba4f3_36 : decode cJ6_getChars_ba4f3 36 = .ok (.imul, 1) := by decide +kernel
theorem dJ6_getChars_ba4f3_37 : decode cJ6_getChars_ba4f3 37 = .ok (.iload_n 0, 1) := by decide +kernel
theorem dJ6_getChars_ba4f3_38 : decode cJ6_getChars_ba4f3 38 = .ok (.isub, 1) := by decide +kernel
theorem dJ6_getChars_ba4f3_39 : decode cJ6_getChars_ba4f3 39 = .ok (.istore 4, 2) := by decide +kernel
theorem dJ6_getChars_ba4f3_41 : decode cJ6_getChars_ba4f3 41 = .ok (.iload_n 3, 1) := by decide +kernel
theorem dJ6_getChars_ba4f3_42 : decode cJ6_getChars_ba4f3 42 = .ok (.istore_n 0, 1) := by decide +kernel
theorem dJ6_getChars_ba4f3_43 : decode cJ6_getChars_ba4f3 43 = .ok (.aload_n 2, 1) := by decide +kernel
theorem dJ6_getChars_ba4f3_44 : decode cJ6_getChars_ba4f3 44 = .ok (.iinc 5 (-1), 3) := by decide +kernel
theorem dJ6_getChars_ba4f3_47 : decode cJ6_getChars_ba4f3 47 = .ok (.iload 5, 2) := by decide +kernel
theorem dJ6_getChars_ba4f3_49 : decode cJ6_getChars_ba4f3 49 = .ok (.getstatic 83, 3) := by decide +kernel
theorem dJ6_getChars_ba4f3_52 : decode cJ6_getChars_ba4f3 52 = .ok (.iload 4, 2) := by decide +kernel
theorem dJ6_getChars_ba4f3_54 : decode cJ6_getChars_ba4f3 54 = .ok (.baload, 1) := by decide +kernel
theorem dJ6_getChars_ba4f3_55 : decode cJ6_getChars_ba4f3 55 = .ok (.bastore, 1) := by decide +kernel
theorem dJ6_getChars_ba4f3_56 : decode cJ6_getChars_ba4f3 56 = .ok (.aload_n 2, 1) := by decide +kernel
theorem dJ6_getChars_ba4f3_57 : decode cJ6_getChars_ba4f3 57 = .ok (.iinc 5 (-1), 3) := by decide +kernel
theorem dJ6_getChars_ba4f3_60 : decode cJ6_getChars_ba4f3 60 = .ok (.iload 5, 2) := by decide +kernel
theorem dJ6_getChars_ba4f3_62 : decode cJ6_getChars_ba4f3 62 = .ok (.getstatic 87, 3) := by decide +kernel
theorem dJ6_getChars_ba4f3_65 : decode cJ6_getChars_ba4f3 65 = .ok (.iload 4, 2) := by decide +kernel
theorem dJ6_getChars_ba4f3_67 : decode cJ6_getChars_ba4f3 67 = .ok (.baload, 1) := by decide +kernel
theorem dJ6_getChars_ba4f3_68 : decode cJ6_getChars_ba4f3 68 = .ok (.bastore, 1) := by decide +kernel
theorem dJ6_getChars_ba4f3_69 : decode cJ6_getChars_ba4f3 69 = .ok (.goto (-47), 3) := by decide +kernel
theorem dJ6_getChars_ba4f3_72 : decode cJ6_getChars_ba4f3 72 = .ok (.aload_n 2, 1) := by decide +kernel
theorem dJ6_getChars_ba4f3_73 : decode cJ6_getChars_ba4f3 73 = .ok (.iinc 5 (-1), 3) := by decide +kernel
theorem dJ6_getChars_ba4f3_76 : decode cJ6_getChars_ba4f3 76 = .ok (.iload 5, 2) := by decide +kernel
theorem dJ6_getChars_ba4f3_78 : decode cJ6_getChars_ba4f3 78 = .ok (.getstatic 83, 3) := by decide +kernel
theorem dJ6_getChars_ba4f3_81 : decode cJ6_getChars_ba4f3 81 = .ok (.iload_n 0, 1) := by decide +kernel
theorem dJ6_getChars_ba4f3_82 : decode cJ6_getChars_ba4f3 82 = .ok (.ineg, 1) := by decide +kernel
theorem dJ6_getChars_ba4f3_83 : decode cJ6_getChars_ba4f3 83 = .ok (.baload, 1) := by decide +kernel
theorem dJ6_getChars_ba4f3_84 : decode cJ6_getChars_ba4f3 84 = .ok (.bastore, 1) := by decide +kernel
theorem dJ6_getChars_ba4f3_85 : decode cJ6_getChars_ba4f3 85 = .ok (.iload_n 0, 1) := by decide +kernel
theorem dJ6_getChars_ba4f3_86 : decode cJ6_getChars_ba4f3 86 = .ok (.bipush (-9), 2) := by decide +kernel
theorem dJ6_getChars_ba4f3_88 : decode cJ6_getChars_ba4f3 88 = .ok (.if_icmp .ge 16, 3) := by decide +kernel
theorem dJ6_getChars_ba4f3_91 : decode cJ6_getChars_ba4f3 91 = .ok (.aload_n 2, 1) := by decide +kernel
theorem dJ6_getChars_ba4f3_92 : decode cJ6_getChars_ba4f3 92 = .ok (.iinc 5 (-1), 3) := by decide +kernel
theorem dJ6_getChars_ba4f3_95 : decode cJ6_getChars_ba4f3 95 = .ok (.iload 5, 2) := by decide +kernel
theorem dJ6_getChars_ba4f3_97 : decode cJ6_getChars_ba4f3 97 = .ok (.getstatic 87, 3) := by decide +kernel
theorem dJ6_getChars_ba4f3_100 : decode cJ6_getChars_ba4f3 100 = .ok (.iload_n 0, 1) := by decide +kernel
theorem dJ6_getChars_ba4f3_101 : decode cJ6_getChars_ba4f3 101 = .ok (.ineg, 1) := by decide +kernel
theorem dJ6_getChars_ba4f3_102 : decode cJ6_getChars_ba4f3 102 = .ok (.baload, 1) := by decide +kernel
theorem dJ6_getChars_ba4f3_103 : decode cJ6_getChars_ba4f3 103 = .ok (.bastore, 1) := by decide +kernel
theorem dJ6_getChars_ba4f3_104 : decode cJ6_getChars_ba4f3 104 = .ok (.iload 6, 2) := by decide +kernel
theorem dJ6_getChars_ba4f3_106 : decode cJ6_getChars_ba4f3 106 = .ok (.ifCond .eq 12, 3) := by decide +kernel
theorem dJ6_getChars_ba4f3_109 : decode cJ6_getChars_ba4f3 109 = .ok (.aload_n 2, 1) := by decide +kernel
theorem dJ6_getChars_ba4f3_110 : decode cJ6_getChars_ba4f3 110 = .ok (.iinc 5 (-1), 3) := by decide +kernel
theorem dJ6_getChars_ba4f3_113 : decode cJ6_getChars_ba4f3 113 = .ok (.iload 5, 2) := by decide +kernel
theorem dJ6_getChars_ba4f3_115 : decode cJ6_getChars_ba4f3 115 = .ok (.bipush 45, 2) := by decide +kernel
theorem dJ6_getChars_ba4f3_117 : decode cJ6_getChars_ba4f3 117 = .ok (.bastore, 1) := by decide +kernel
theorem dJ6_getChars_ba4f3_118 : decode cJ6_getChars_ba4f3 118 = .ok (.iload 5, 2) := by decide +kernel
theorem dJ6_getChars_ba4f3_120 : decode cJ6_getChars_ba4f3 120 = .ok (.ireturn, 1) := by decide +kernel
theorem dJ6_stringSize_0f7a4_0 : decode cJ6_stringSize_0f7a4 0 = .ok (.iconst 1, 1) := by decide +kernel
theorem dJ6_stringSize_0f7a4_1 : decode cJ6_stringSize_0f7a4 1 = .ok (.istore_n 1, 1) := by decide +kernel
theorem dJ6_stringSize_0f7a4_2 : decode cJ6_stringSize_0f7a4 2 = .ok (.iload_n 0, 1) := by decide +kernel
theorem dJ6_stringSize_0f7a4_3 : decode cJ6_stringSize_0f7a4 3 = .ok (.ifCond .lt 8, 3) := by decide +kernel
theorem dJ6_stringSize_0f7a4_6 : decode cJ6_stringSize_0f7a4 6 = .ok (.iconst 0, 1) := by decide +kernel
theorem dJ6_stringSize_0f7a4_7 : decode cJ6_stringSize_0f7a4 7 = .ok (.istore_n 1, 1) := by decide +kernel
theorem dJ6_stringSize_0f7a4_8 : decode cJ6_stringSize_0f7a4 8 = .ok (.iload_n 0, 1) := by decide +kernel
theorem dJ6_stringSize_0f7a4_9 : decode cJ6_stringSize_0f7a4 9 = .ok (.ineg, 1) := by decide +kernel
theorem dJ6_stringSize_0f7a4_10 : decode cJ6_stringSize_0f7a4 10 = .ok (.istore_n 0, 1) := by decide +kernel
theorem dJ6_stringSize_0f7a4_11 : decode cJ6_stringSize_0f7a4 11 = .ok (.bipush (-10), 2) := by decide +kernel
theorem dJ6_stringSize_0f7a4_13 : decode cJ6_stringSize_0f7a4 13 = .ok (.istore_n 2, 1) := by decide +kernel
theorem dJ6_stringSize_0f7a4_14 : decode cJ6_stringSize_0f7a4 14 = .ok (.iconst 1, 1) := by decide +kernel
theorem dJ6_stringSize_0f7a4_15 : decode cJ6_stringSize_0f7a4 15 = .ok (.istore_n 3, 1) := by decide +kernel
theorem dJ6_stringSize_0f7a4_16 : decode cJ6_stringSize_0f7a4 16 = .ok (.iload_n 3, 1) := by decide +kernel
theorem dJ6_stringSize_0f7a4_17 : decode cJ6_stringSize_0f7a4 17 = .ok (.bipush 10, 2) := by decide +kernel
theorem dJ6_stringSize_0f7a4_19 : decode cJ6_stringSize_0f7a4 19 = .ok (.if_icmp .ge 23, 3) := by decide +kernel
theorem dJ6_stringSize_0f7a4_22 : decode cJ6_stringSize_0f7a4 22 = .ok (.iload_n 0, 1) := by decide +kernel
theorem dJ6_stringSize_0f7a4_23 : decode cJ6_stringSize_0f7a4 23 = .ok (.iload_n 2, 1) := by decide +kernel
theorem dJ6_stringSize_0f7a4_24 : decode cJ6_stringSize_0f7a4 24 = .ok (.if_icmp .le 7, 3) := by decide +kernel
theorem dJ6_stringSize_0f7a4_27 : decode cJ6_stringSize_0f7a4 27 = .ok (.iload_n 3, 1) := by decide +kernel
theorem dJ6_stringSize_0f7a4_28 : decode cJ6_stringSize_0f7a4 28 = .ok (.iload_n 1, 1) := by decide +kernel
theorem dJ6_stringSize_0f7a4_29 : decode cJ6_stringSize_0f7a4 29 = .ok (.iadd, 1) := by decide +kernel
theorem dJ6_stringSize_0f7a4_30 : decode cJ6_stringSize_0f7a4 30 = .ok (.ireturn, 1) := by decide +kernel
theorem dJ6_stringSize_0f7a4_31 : decode cJ6_stringSize_0f7a4 31 = .ok (.bipush 10, 2) := by decide +kernel
theorem dJ6_stringSize_0f7a4_33 : decode cJ6_stringSize_0f7a4 33 = .ok (.iload_n 2, 1) := by decide +kernel
theorem dJ6_stringSize_0f7a4_34 : decode cJ6_stringSize_0f7a4 34 = .ok (.imul, 1) := by decide +kernel
theorem dJ6_stringSize_0f7a4_35 : decode cJ6_stringSize_0f7a4 35 = .ok (.istore_n 2, 1) := by decide +kernel
theorem dJ6_stringSize_0f7a4_36 : decode cJ6_stringSize_0f7a4 36 = .ok (.iinc 3 1, 3) := by decide +kernel
theorem dJ6_stringSize_0f7a4_39 : decode cJ6_stringSize_0f7a4 39 = .ok (.goto (-23), 3) := by decide +kernel
theorem dJ6_stringSize_0f7a4_42 : decode cJ6_stringSize_0f7a4 42 = .ok (.bipush 10, 2) := by decide +kernel
theorem dJ6_stringSize_0f7a4_44 : decode cJ6_stringSize_0f7a4 44 = .ok (.iload_n 1, 1) := by decide +kernel
theorem dJ6_stringSize_0f7a4_45 : decode cJ6_stringSize_0f7a4 45 = .ok (.iadd, 1) := by decide +kernel
theorem dJ6_stringSize_0f7a4_46 : decode cJ6_stringSize_0f7a4 46 = .ok (.ireturn, 1) := by decide +kernel
theorem dJ7_copyOf_1904c_0 : decode cJ7_copyOf_1904c 0 = .ok (.aload_n 0, 1) := by decide +kernel
theorem dJ7_copyOf_1904c_1 : decode cJ7_copyOf_1904c 1 = .ok (.iload_n 1, 1) := by decide +kernel
theorem dJ7_copyOf_1904c_2 : decode cJ7_copyOf_1904c 2 = .ok (.aload_n 0, 1) := by decide +kernel
theorem dJ7_copyOf_1904c_3 : decode cJ7_copyOf_1904c 3 = .ok (.invokevirtual 86, 3) := by decide +kernel
theorem dJ7_copyOf_1904c_6 : decode cJ7_copyOf_1904c 6 = .ok (.invokestatic 300, 3) := by decide +kernel
theorem dJ7_copyOf_1904c_9 : decode cJ7_copyOf_1904c 9 = .ok (.areturn, 1) := by decide +kernel
theorem dJ7_copyOf_6403c_0 : decode cJ7_copyOf_6403c 0 = .ok (.aload_n 2, 1) := by decide +kernel
theorem dJ7_copyOf_6403c_1 : decode cJ7_copyOf_6403c 1 = .ok (.ldc 110, 2) := by decide +kernel
theorem dJ7_copyOf_6403c_3 : decode cJ7_copyOf_6403c 3 = .ok (.if_acmp .ne 10, 3) := by decide +kernel
theorem dJ7_copyOf_6403c_6 : decode cJ7_copyOf_6403c 6 = .ok (.iload_n 1, 1) := by decide +kernel
theorem dJ7_copyOf_6403c_7 : decode cJ7_copyOf_6403c 7 = .ok (.anewarray 2, 3) := by decide +kernel
theorem dJ7_copyOf_6403c_10 : decode cJ7_copyOf_6403c 10 = .ok (.goto 14, 3) := by decide +kernel
theorem dJ7_copyOf_6403c_13 : decode cJ7_copyOf_6403c 13 = .ok (.aload_n 2, 1) := by decide +kernel
theorem dJ7_copyOf_6403c_14 : decode cJ7_copyOf_6403c 14 = .ok (.invokevirtual 90, 3) := by decide +kernel
theorem dJ7_copyOf_6403c_17 : decode cJ7_copyOf_6403c 17 = .ok (.iload_n 1, 1) := by decide +kernel
theorem dJ7_copyOf_6403c_18 : decode cJ7_copyOf_6403c 18 = .ok (.invokestatic 95, 3) := by decide +kernel
theorem dJ7_copyOf_6403c_21 : decode cJ7_copyOf_6403c 21 = .ok (.checkcast 110, 3) := by decide +kernel
theorem dJ7_copyOf_6403c_24 : decode cJ7_copyOf_6403c 24 = .ok (.astore_n 3, 1) := by decide +kernel
theorem dJ7_copyOf_6403c_25 : decode cJ7_copyOf_6403c 25 = .ok (.aload_n 0, 1) := by decide +kernel
theorem dJ7_copyOf_6403c_26 : decode cJ7_copyOf_6403c 26 = .ok (.iconst 0, 1) := by decide +kernel
theorem dJ7_copyOf_6403c_27 : decode cJ7_copyOf_6403c 27 = .ok (.aload_n 3, 1) := by decide +kernel
theorem dJ7_copyOf_6403c_28 : decode cJ7_copyOf_6403c 28 = .ok (.iconst 0, 1) := by decide +kernel
theorem dJ7_copyOf_6403c_29 : decode cJ7_copyOf_6403c 29 = .ok (.aload_n 0, 1) := by decide +kernel
theorem dJ7_copyOf_6403c_30 : decode cJ7_copyOf_6403c 30 = .ok (.arraylength, 1) := by decide +kernel
theorem dJ7_copyOf_6403c_31 : decode cJ7_copyOf_6403c 31 = .ok (.iload_n 1, 1) := by decide +kernel
theorem dJ7_copyOf_6403c_32 : decode cJ7_copyOf_6403c 32 = .ok (.invokestatic 304, 3) := by decide +kernel
theorem dJ7_copyOf_6403c_35 : decode cJ7_copyOf_6403c 35 = .ok (.invokestatic 150, 3) := by decide +kernel
theorem dJ7_copyOf_6403c_38 : decode cJ7_copyOf_6403c 38 = .ok (.aload_n 3, 1) := by decide +kernel
theorem dJ7_copyOf_6403c_39 : decode cJ7_copyOf_6403c 39 = .ok (.areturn, 1) := by decide +kernel
theorem dJ7_copyOf_9075b_0 : decode cJ7_copyOf_9075b 0 = .ok (.iload_n 1, 1) := by decide +kernel
theorem dJ7_copyOf_9075b_1 : decode cJ7_copyOf_9075b 1 = .ok (.aload_n 0, 1) := by decide +kernel
theorem dJ7_copyOf_9075b_2 : decode cJ7_copyOf_9075b 2 = .ok (.arraylength, 1) := by decide +kernel
theorem dJ7_copyOf_9075b_3 : decode cJ7_copyOf_9075b 3 = .ok (.if_icmp .ne 11, 3) := by decide +kernel
theorem dJ7_copyOf_9075b_6 : decode cJ7_copyOf_9075b 6 = .ok (.aload_n 0, 1) := by decide +kernel
theorem dJ7_copyOf_9075b_7 : decode cJ7_copyOf_9075b 7 = .ok (.invokevirtual 310, 3) := by decide +kernel
theorem dJ7_copyOf_9075b_10 : decode cJ7_copyOf_9075b 10 = .ok (.checkcast 311, 3) := by decide +kernel
theorem dJ7_copyOf_9075b_13 : decode cJ7_copyOf_9075b 13 = .ok (.areturn, 1) := by decide +kernel
theorem dJ7_copyOf_9075b_14 : decode cJ7_copyOf_9075b 14 = .ok (.iload_n 1, 1) := by decide +kernel
theorem dJ7_copyOf_9075b_15 : decode cJ7_copyOf_9075b 15 = .ok (.newarray .byte, 2) := by decide +kernel
theorem dJ7_copyOf_9075b_17 : decode cJ7_copyOf_9075b 17 = .ok (.astore_n 2, 1) := by decide +kernel
theorem dJ7_copyOf_9075b_18 : decode cJ7_copyOf_9075b 18 = .ok (.aload_n 0, 1) := by decide +kernel
theorem dJ7_copyOf_9075b_19 : decode cJ7_copyOf_9075b 19 = .ok (.iconst 0, 1) := by decide +kernel
theorem dJ7_copyOf_9075b_20 : decode cJ7_copyOf_9075b 20 = .ok (.aload_n 2, 1) := by decide +kernel
theorem dJ7_copyOf_9075b_21 : decode cJ7_copyOf_9075b 21 = .ok (.iconst 0, 1) := by decide +kernel
theorem dJ7_copyOf_9075b_22 : decode cJ7_copyOf_9075b 22 = .ok (.aload_n 0, 1) := by decide +kernel
theorem dJ7_copyOf_9075b_23 : decode cJ7_copyOf_9075b 23 = .ok (.arraylength, 1) := by decide +kernel
theorem dJ7_copyOf_9075b_24 : decode cJ7_copyOf_9075b 24 = .ok (.iload_n 1, 1) := by decide +kernel
theorem dJ7_copyOf_9075b_25 : decode cJ7_copyOf_9075b 25 = .ok (.invokestatic 304, 3) := by decide +kernel
theorem dJ7_copyOf_9075b_28 : decode cJ7_copyOf_9075b 28 = .ok (.invokestatic 150, 3) := by decide +kernel
theorem dJ7_copyOf_9075b_31 : decode cJ7_copyOf_9075b 31 = .ok (.aload_n 2, 1) := by decide +kernel
theorem dJ7_copyOf_9075b_32 : decode cJ7_copyOf_9075b 32 = .ok (.areturn, 1) := by decide +kernel
theorem dJ8_newLength_cabcc_0 : decode cJ8_newLength_cabcc 0 = .ok (.iload_n 0, 1) := by decide +kernel
theorem dJ8_newLength_cabcc_1 : decode cJ8_newLength_cabcc 1 = .ok (.iload_n 1, 1) := by decide +kernel
theorem dJ8_newLength_cabcc_2 : decode cJ8_newLength_cabcc 2 = .ok (.iload_n 2, 1) := by decide +kernel
theorem dJ8_newLength_cabcc_3 : decode cJ8_newLength_cabcc 3 = .ok (.invokestatic 194, 3) := by decide +kernel
theorem dJ8_newLength_cabcc_6 : decode cJ8_newLength_cabcc 6 = .ok (.iadd, 1) := by decide +kernel
theorem dJ8_newLength_cabcc_7 : decode cJ8_newLength_cabcc 7 = .ok (.istore_n 3, 1) := by decide +kernel
theorem dJ8_newLength_cabcc_8 : decode cJ8_newLength_cabcc 8 = .ok (.iconst 0, 1) := by decide +kernel
theorem dJ8_newLength_cabcc_9 : decode cJ8_newLength_cabcc 9 = .ok (.iload_n 3, 1) := by decide +kernel
theorem dJ8_newLength_cabcc_10 : decode cJ8_newLength_cabcc 10 = .ok (.if_icmp .ge 11, 3) := by decide +kernel
theorem dJ8_newLength_cabcc_13 : decode cJ8_newLength_cabcc 13 = .ok (.iload_n 3, 1) := by decide +kernel
theorem dJ8_newLength_cabcc_14 : decode cJ8_newLength_cabcc 14 = .ok (.ldc 200, 2) := by decide +kernel
theorem dJ8_newLength_cabcc_16 : decode cJ8_newLength_cabcc 16 = .ok (.if_icmp .gt 5, 3) := by decide +kernel
theorem dJ8_newLength_cabcc_19 : decode cJ8_newLength_cabcc 19 = .ok (.iload_n 3, 1) := by decide +kernel
theorem dJ8_newLength_cabcc_20 : decode cJ8_newLength_cabcc 20 = .ok (.ireturn, 1) := by decide +kernel
theorem dJ8_newLength_cabcc_21 : decode cJ8_newLength_cabcc 21 = .ok (.iload_n 0, 1) := by decide +kernel
theorem dJ8_newLength_cabcc_22 : decode cJ8_newLength_cabcc 22 = .ok (.iload_n 1, 1) := by decide +kernel
theorem dJ8_newLength_cabcc_23 : decode cJ8_newLength_cabcc 23 = .ok (.invokestatic 201, 3) := by decide +kernel
theorem dJ8_newLength_cabcc_26 : decode cJ8_newLength_cabcc 26 = .ok (.ireturn, 1) := by decide +kernel
theorem dJ9_max_7cf53_0 : decode cJ9_max_7cf53 0 = .ok (.iload_n 0, 1) := by decide +kernel
theorem dJ9_max_7cf53_1 : decode cJ9_max_7cf53 1 = .ok (.iload_n 1, 1) := by decide +kernel
theorem dJ9_max_7cf53_2 : decode cJ9_max_7cf53 2 = .ok (.if_icmp .lt 7, 3) := by decide +kernel
theorem dJ9_max_7cf53_5 : decode cJ9_max_7cf53 5 = .ok (.iload_n 0, 1) := by decide +kernel
theorem dJ9_max_7cf53_6 : decode cJ9_max_7cf53 6 = .ok (.goto 4, 3) := by decide +kernel
theorem dJ9_max_7cf53_9 : decode cJ9_max_7cf53 9 = .ok (.iload_n 1, 1) := by decide +kernel
theorem dJ9_max_7cf53_10 : decode cJ9_max_7cf53 10 = .ok (.ireturn, 1) := by decide +kernel
theorem dJ9_min_7cf53_0 : decode cJ9_min_7cf53 0 = .ok (.iload_n 0, 1) := by decide +kernel
theorem dJ9_min_7cf53_1 : decode cJ9_min_7cf53 1 = .ok (.iload_n 1, 1) := by decide +kernel
theorem dJ9_min_7cf53_2 : decode cJ9_min_7cf53 2 = .ok (.if_icmp .gt 7, 3) := by decide +kernel
theorem dJ9_min_7cf53_5 : decode cJ9_min_7cf53 5 = .ok (.iload_n 0, 1) := by decide +kernel
theorem dJ9_min_7cf53_6 : decode cJ9_min_7cf53 6 = .ok (.goto 4, 3) := by decide +kernel
theorem dJ9_min_7cf53_9 : decode cJ9_min_7cf53 9 = .ok (.iload_n 1, 1) := by decide +kernel
theorem dJ9_min_7cf53_10 : decode cJ9_min_7cf53 10 = .ok (.ireturn, 1) := by decide +kernel
theorem dJ0_checkIndex_df160_0 : decode cJ0_checkIndex_df160 0 = .ok (.iload_n 0, 1) := by decide +kernel
theorem dJ0_checkIndex_df160_1 : decode cJ0_checkIndex_df160 1 = .ok (.iload_n 1, 1) := by decide +kernel
theorem dJ0_checkIndex_df160_2 : decode cJ0_checkIndex_df160 2 = .ok (.getstatic 1053, 3) := by decide +kernel
theorem dJ0_checkIndex_df160_5 : decode cJ0_checkIndex_df160 5 = .ok (.invokestatic 1059, 3) := by decide +kernel
theorem dJ0_checkIndex_df160_8 : decode cJ0_checkIndex_df160 8 = .ok (.pop, 1) := by decide +kernel
theorem dJ0_checkIndex_df160_9 : decode cJ0_checkIndex_df160 9 = .ok (.return_, 1) := by decide +kernel
theorem dJ2_checkIndex_2214a_0 : decode cJ2_checkIndex_2214a 0 = .ok (.iload_n 0, 1) := by decide +kernel
theorem dJ2_checkIndex_2214a_1 : decode cJ2_checkIndex_2214a 1 = .ok (.aload_n 1, 1) := by decide +kernel
theorem dJ2_checkIndex_2214a_2 : decode cJ2_checkIndex_2214a 2 = .ok (.invokestatic 48, 3) := by decide +kernel
theorem dJ2_checkIndex_2214a_5 : decode cJ2_checkIndex_2214a 5 = .ok (.invokestatic 414, 3) := by decide +kernel
theorem dJ2_checkIndex_2214a_8 : decode cJ2_checkIndex_2214a 8 = .ok (.return_, 1) := by decide +kernel
theorem dJx4a65c_add_72be8_0 : decode cJx4a65c_add_72be8 0 = .ok (.iload_n 3, 1) := by decide +kernel
theorem dJx4a65c_add_72be8_1 : decode cJx4a65c_add_72be8 1 = .ok (.aload_n 2, 1) := by decide +kernel
theorem dJx4a65c_add_72be8_2 : decode cJx4a65c_add_72be8 2 = .ok (.arraylength, 1) := by decide +kernel
theorem dJx4a65c_add_72be8_3 : decode cJx4a65c_add_72be8 3 = .ok (.if_icmp .ne 8, 3) := by decide +kernel
theorem dJx4a65c_add_72be8_6 : decode cJx4a65c_add_72be8 6 = .ok (.aload_n 0, 1) := by decide +kernel
theorem dJx4a65c_add_72be8_7 : decode cJx4a65c_add_72be8 7 = .ok (.invokevirtual 129, 3) := by decide +kernel
theorem dJx4a65c_add_72be8_10 : decode cJx4a65c_add_72be8 10 = .ok (.astore_n 2, 1) := by decide +kernel
theorem dJx4a65c_add_72be8_11 : decode cJx4a65c_add_72be8 11 = .ok (.aload_n 2, 1) := by decide +kernel
theorem dJx4a65c_add_72be8_12 : decode cJx4a65c_add_72be8 12 = .ok (.iload_n 3, 1) := by decide +kernel
theorem dJx4a65c_add_72be8_13 : decode cJx4a65c_add_72be8 13 = .ok (.aload_n 1, 1) := by decide +kernel
theorem dJx4a65c_add_72be8_14 : decode cJx4a65c_add_72be8 14 = .ok (.aastore, 1) := by decide +kernel
theorem dJx4a65c_add_72be8_15 : decode cJx4a65c_add_72be8 15 = .ok (.aload_n 0, 1) := by decide +kernel
theorem dJx4a65c_add_72be8_16 : decode cJx4a65c_add_72be8 16 = .ok (.iload_n 3, 1) := by decide +kernel
theorem dJx4a65c_add_72be8_17 : decode cJx4a65c_add_72be8 17 = .ok (.iconst 1, 1) := by decide +kernel
theorem dJx4a65c_add_72be8_18 : decode cJx4a65c_add_72be8 18 = .ok (.iadd, 1) := by decide +kernel
theorem dJx4a65c_add_72be8_19 : decode cJx4a65c_add_72be8 19 = .ok (.putfield 48, 3) := by decide +kernel
theorem dJx4a65c_add_72be8_22 : decode cJx4a65c_add_72be8 22 = .ok (.return_, 1) := by decide +kernel
theorem dJx4a65c_add_9ea2d_0 : decode cJx4a65c_add_9ea2d 0 = .ok (.aload_n 0, 1) := by decide +kernel
theorem dJx4a65c_add_9ea2d_1 : decode cJx4a65c_add_9ea2d 1 = .ok (.dup, 1) := by decide +kernel
theorem dJx4a65c_add_9ea2d_2 : decode cJx4a65c_add_9ea2d 2 = .ok (.getfield 63, 3) := by decide +kernel
theorem dJx4a65c_add_9ea2d_5 : decode cJx4a65c_add_9ea2d 5 = .ok (.iconst 1, 1) := by decide +kernel
theorem dJx4a65c_add_9ea2d_6 : decode cJx4a65c_add_9ea2d 6 = .ok (.iadd, 1) := by decide +kernel
theorem dJx4a65c_add_9ea2d_7 : decode cJx4a65c_add_9ea2d 7 = .ok (.putfield 63, 3) := by decide +kernel
theorem dJx4a65c_add_9ea2d_10 : decode cJx4a65c_add_9ea2d 10 = .ok (.aload_n 0, 1) := by decide +kernel
theorem dJx4a65c_add_9ea2d_11 : decode cJx4a65c_add_9ea2d 11 = .ok (.aload_n 1, 1) := by decide +kernel
theorem dJx4a65c_add_9ea2d_12 : decode cJx4a65c_add_9ea2d 12 = .ok (.aload_n 0, 1) := by decide +kernel
theorem dJx4a65c_add_9ea2d_13 : decode cJx4a65c_add_9ea2d 13 = .ok (.getfield 9, 3) := by decide +kernel
theorem dJx4a65c_add_9ea2d_16 : decode cJx4a65c_add_9ea2d 16 = .ok (.aload_n 0, 1) := by decide +kernel
theorem dJx4a65c_add_9ea2d_17 : decode cJx4a65c_add_9ea2d 17 = .ok (.getfield 48, 3) := by decide +kernel
theorem dJx4a65c_add_9ea2d_20 : decode cJx4a65c_add_9ea2d 20 = .ok (.invokevirtual 131, 3) := by decide +kernel
theorem dJx4a65c_add_9ea2d_23 : decode cJx4a65c_add_9ea2d 23 = .ok (.iconst 1, 1) := by decide +kernel
theorem dJx4a65c_add_9ea2d_24 : decode cJx4a65c_add_9ea2d 24 = .ok (.ireturn, 1) := by decide +kernel
theorem dJx4a65c_elementData_915e3_0 : decode cJx4a65c_elementData_915e3 0 = .ok (.aload_n 0, 1) := by decide +kernel
theorem dJx4a65c_elementData_915e3_1 : decode cJx4a65c_elementData_915e3 1 = .ok (.getfield 9, 3) := by decide +kernel
theorem dJx4a65c_elementData_915e3_4 : decode cJx4a65c_elementData_915e3 4 = .ok (.iload_n 1, 1) := by decide +kernel
theorem dJx4a65c_elementData_915e3_5 : decode cJx4a65c_elementData_915e3 5 = .ok (.aaload, 1) := by decide +kernel
theorem dJx4a65c_elementData_915e3_6 : decode cJx4a65c_elementData_915e3 6 = .ok (.areturn, 1) := by decide +kernel
theorem dJx4a65c_get_915e3_0 : decode cJx4a65c_get_915e3 0 = .ok (.iload_n 1, 1) := by decide +kernel
theorem dJx4a65c_get_915e3_1 : decode cJx4a65c_get_915e3 1 = .ok (.aload_n 0, 1) := by decide +kernel
theorem dJx4a65c_get_915e3_2 : decode cJx4a65c_get_915e3 2 = .ok (.getfield 48, 3) := by decide +kernel
theorem dJx4a65c_get_915e3_5 : decode cJx4a65c_get_915e3 5 = .ok (.invokestatic 118, 3) := by decide +kernel
theorem dJx4a65c_get_915e3_8 : decode cJx4a65c_get_915e3 8 = .ok (.pop, 1) := by decide +kernel
theorem dJx4a65c_get_915e3_9 : decode cJx4a65c_get_915e3 9 = .ok (.aload_n 0, 1) := by decide +kernel
theorem dJx4a65c_get_915e3_10 : decode cJx4a65c_get_915e3 10 = .ok (.iload_n 1, 1) := by decide +kernel
theorem dJx4a65c_get_915e3_11 : decode cJx4a65c_get_915e3 11 = .ok (.invokevirtual 123, 3) := by decide +kernel
theorem dJx4a65c_get_915e3_14 : decode cJx4a65c_get_915e3 14 = .ok (.areturn, 1) := by decide +kernel
theorem dJx4a65c_grow_92f84_0 : decode cJx4a65c_grow_92f84 0 = .ok (.aload_n 0, 1) := by decide +kernel
theorem dJx4a65c_grow_92f84_1 : decode cJx4a65c_grow_92f84 1 = .ok (.getfield 9, 3) := by decide +kernel
theorem dJx4a65c_grow_92f84_4 : decode cJx4a65c_grow_92f84 4 = .ok (.arraylength, 1) := by decide +kernel
theorem dJx4a65c_grow_92f84_5 : decode cJx4a65c_grow_92f84 5 = .ok (.istore_n 2, 1) := by decide +kernel
theorem dJx4a65c_grow_92f84_6 : decode cJx4a65c_grow_92f84 6 = .ok (.iload_n 2, 1) := by decide +kernel
theorem dJx4a65c_grow_92f84_7 : decode cJx4a65c_grow_92f84 7 = .ok (.ifCond .gt 13, 3) := by decide +kernel
theorem dJx4a65c_grow_92f84_10 : decode cJx4a65c_grow_92f84 10 = .ok (.aload_n 0, 1) := by decide +kernel
theorem dJx4a65c_grow_92f84_11 : decode cJx4a65c_grow_92f84 11 = .ok (.getfield 9, 3) := by decide +kernel
theorem dJx4a65c_grow_92f84_14 : decode cJx4a65c_grow_92f84 14 = .ok (.getstatic 39, 3) := by decide +kernel
theorem dJx4a65c_grow_92f84_17 : decode cJx4a65c_grow_92f84 17 = .ok (.if_acmp .eq 28, 3) := by decide +kernel
theorem dJx4a65c_grow_92f84_20 : decode cJx4a65c_grow_92f84 20 = .ok (.iload_n 2, 1) := by decide +kernel
theorem dJx4a65c_grow_92f84_21 : decode cJx4a65c_grow_92f84 21 = .ok (.iload_n 1, 1) := by decide +kernel
theorem dJx4a65c_grow_92f84_22 : decode cJx4a65c_grow_92f84 22 = .ok (.iload_n 2, 1) := by decide +kernel
theorem dJx4a65c_grow_92f84_23 : decode cJx4a65c_grow_92f84 23 = .ok (.isub, 1) := by decide +kernel
theorem dJx4a65c_grow_92f84_24 : decode cJx4a65c_grow_92f84 24 = .ok (.iload_n 2, 1) := by decide +kernel
theorem dJx4a65c_grow_92f84_25 : decode cJx4a65c_grow_92f84 25 = .ok (.iconst 1, 1) := by decide +kernel
theorem dJx4a65c_grow_92f84_26 : decode cJx4a65c_grow_92f84 26 = .ok (.ishr, 1) := by decide +kernel
theorem dJx4a65c_grow_92f84_27 : decode cJx4a65c_grow_92f84 27 = .ok (.invokestatic 73, 3) := by decide +kernel
theorem dJx4a65c_grow_92f84_30 : decode cJx4a65c_grow_92f84 30 = .ok (.istore_n 3, 1) := by decide +kernel
theorem dJx4a65c_grow_92f84_31 : decode cJx4a65c_grow_92f84 31 = .ok (.aload_n 0, 1) := by decide +kernel
theorem dJx4a65c_grow_92f84_32 : decode cJx4a65c_grow_92f84 32 = .ok (.aload_n 0, 1) := by decide +kernel
theorem dJx4a65c_grow_92f84_33 : decode cJx4a65c_grow_92f84 33 = .ok (.getfield 9, 3) := by decide +kernel
theorem dJx4a65c_grow_92f84_36 : decode cJx4a65c_grow_92f84 36 = .ok (.iload_n 3, 1) := by decide +kernel
theorem dJx4a65c_grow_92f84_37 : decode cJx4a65c_grow_92f84 37 = .ok (.invokestatic 66, 3) := by decide +kernel
theorem dJx4a65c_grow_92f84_40 : decode cJx4a65c_grow_92f84 40 = .ok (.dup_x1, 1) := by decide +kernel
theorem dJx4a65c_grow_92f84_41 : decode cJx4a65c_grow_92f84 41 = .ok (.putfield 9, 3) := by decide +kernel
theorem dJx4a65c_grow_92f84_44 : decode cJx4a65c_grow_92f84 44 = .ok (.areturn, 1) := by decide +kernel
theorem dJx4a65c_grow_92f84_45 : decode cJx4a65c_grow_92f84 45 = .ok (.aload_n 0, 1) := by decide +kernel
theorem dJx4a65c_grow_92f84_46 : decode cJx4a65c_grow_92f84 46 = .ok (.bipush 10, 2) := by decide +kernel
theorem dJx4a65c_grow_92f84_48 : decode cJx4a65c_grow_92f84 48 = .ok (.iload_n 1, 1) := by decide +kernel
theorem dJx4a65c_grow_92f84_49 : decode cJx4a65c_grow_92f84 49 = .ok (.invokestatic 79, 3) := by decide +kernel
theorem dJx4a65c_grow_92f84_52 : decode cJx4a65c_grow_92f84 52 = .ok (.anewarray 7, 3) := by decide +kernel
theorem dJx4a65c_grow_92f84_55 : decode cJx4a65c_grow_92f84 55 = .ok (.dup_x1, 1) := by decide +kernel
theorem dJx4a65c_grow_92f84_56 : decode cJx4a65c_grow_92f84 56 = .ok (.putfield 9, 3) := by decide +kernel
theorem dJx4a65c_grow_92f84_59 : decode cJx4a65c_grow_92f84 59 = .ok (.areturn, 1) := by decide +kernel
theorem dJx4a65c_grow_d5877_0 : decode cJx4a65c_grow_d5877 0 = .ok (.aload_n 0, 1) := by decide +kernel
theorem dJx4a65c_grow_d5877_1 : decode cJx4a65c_grow_d5877 1 = .ok (.aload_n 0, 1) := by decide +kernel
theorem dJx4a65c_grow_d5877_2 : decode cJx4a65c_grow_d5877 2 = .ok (.getfield 48, 3) := by decide +kernel
theorem dJx4a65c_grow_d5877_5 : decode cJx4a65c_grow_d5877 5 = .ok (.iconst 1, 1) := by decide +kernel
theorem dJx4a65c_grow_d5877_6 : decode cJx4a65c_grow_d5877 6 = .ok (.iadd, 1) := by decide +kernel
theorem dJx4a65c_grow_d5877_7 : decode cJx4a65c_grow_d5877 7 = .ok (.invokevirtual 69, 3) := by decide +kernel
end
section
theorem dJx4a65c_grow_d5877_10 : decode cJx4a65c_grow_d5877 10 = .ok (.areturn, 1) := by decide +kernel
theorem dJx4a65c_init_da8c8_0 : decode cJx4a65c_init_da8c8 0 = .ok (.aload_n 0, 1) := by decide +kernel
theorem dJx4a65c_init_da8c8_1 : decode cJx4a65c_init_da8c8 1 = .ok (.invokespecial 1, 3) := by decide +kernel
theorem dJx4a65c_init_da8c8_4 : decode cJx4a65c_init_da8c8 4 = .ok (.aload_n 0, 1) := by decide +kernel
theorem dJx4a65c_init_da8c8_5 : decode cJx4a65c_init_da8c8 5 = .ok (.getstatic 39, 3) := by decide +kernel
theorem dJx4a65c_init_da8c8_8 : decode cJx4a65c_init_da8c8 8 = .ok (.putfield 9, 3) := by decide +kernel
theorem dJx4a65c_init_da8c8_11 : decode cJx4a65c_init_da8c8 11 = .ok (.return_, 1) := by decide +kernel
theorem dJx4a65c_isEmpty_aae02_0 : decode cJx4a65c_isEmpty_aae02 0 = .ok (.aload_n 0, 1) := by decide +kernel
theorem dJx4a65c_isEmpty_aae02_1 : decode cJx4a65c_isEmpty_aae02 1 = .ok (.getfield 48, 3) := by decide +kernel
theorem dJx4a65c_isEmpty_aae02_4 : decode cJx4a65c_isEmpty_aae02 4 = .ok (.ifCond .ne 7, 3) := by decide +kernel
theorem dJx4a65c_isEmpty_aae02_7 : decode cJx4a65c_isEmpty_aae02 7 = .ok (.iconst 1, 1) := by decide +kernel
theorem dJx4a65c_isEmpty_aae02_8 : decode cJx4a65c_isEmpty_aae02 8 = .ok (.goto 4, 3) := by decide +kernel
theorem dJx4a65c_isEmpty_aae02_11 : decode cJx4a65c_isEmpty_aae02 11 = .ok (.iconst 0, 1) := by decide +kernel
theorem dJx4a65c_isEmpty_aae02_12 : decode cJx4a65c_isEmpty_aae02 12 = .ok (.ireturn, 1) := by decide +kernel
theorem dJx4a65c_size_8abf5_0 : decode cJx4a65c_size_8abf5 0 = .ok (.aload_n 0, 1) := by decide +kernel
theorem dJx4a65c_size_8abf5_1 : decode cJx4a65c_size_8abf5 1 = .ok (.getfield 48, 3) := by decide +kernel
theorem dJx4a65c_size_8abf5_4 : decode cJx4a65c_size_8abf5 4 = .ok (.ireturn, 1) := by decide +kernel
theorem dJxa1e45_init_da8c8_0 : decode cJxa1e45_init_da8c8 0 = .ok (.aload_n 0, 1) := by decide +kernel
theorem dJxa1e45_init_da8c8_1 : decode cJxa1e45_init_da8c8 1 = .ok (.invokespecial 1, 3) := by decide +kernel
theorem dJxa1e45_init_da8c8_4 : decode cJxa1e45_init_da8c8 4 = .ok (.return_, 1) := by decide +kernel
theorem dJxc12de_init_da8c8_0 : decode cJxc12de_init_da8c8 0 = .ok (.aload_n 0, 1) := by decide +kernel
theorem dJxc12de_init_da8c8_1 : decode cJxc12de_init_da8c8 1 = .ok (.invokespecial 1, 3) := by decide +kernel
theorem dJxc12de_init_da8c8_4 : decode cJxc12de_init_da8c8 4 = .ok (.aload_n 0, 1) := by decide +kernel
theorem dJxc12de_init_da8c8_5 : decode cJxc12de_init_da8c8 5 = .ok (.iconst 0, 1) := by decide +kernel
theorem dJxc12de_init_da8c8_6 : decode cJxc12de_init_da8c8 6 = .ok (.putfield 7, 3) := by decide +kernel
theorem dJxc12de_init_da8c8_9 : decode cJxc12de_init_da8c8 9 = .ok (.return_, 1) := by decide +kernel
theorem dJxf58ca_floatToIntBits_5c35a_0 : decode cJxf58ca_floatToIntBits_5c35a 0 = .ok (.fload_n 0, 1) := by decide +kernel
theorem dJxf58ca_floatToIntBits_5c35a_1 : decode cJxf58ca_floatToIntBits_5c35a 1 = .ok (.invokestatic 59, 3) := by decide +kernel
theorem dJxf58ca_floatToIntBits_5c35a_4 : decode cJxf58ca_floatToIntBits_5c35a 4 = .ok (.ifCond .ne 8, 3) := by decide +kernel
theorem dJxf58ca_floatToIntBits_5c35a_7 : decode cJxf58ca_floatToIntBits_5c35a 7 = .ok (.fload_n 0, 1) := by decide +kernel
theorem dJxf58ca_floatToIntBits_5c35a_8 : decode cJxf58ca_floatToIntBits_5c35a 8 = .ok (.invokestatic 74, 3) := by decide +kernel
theorem dJxf58ca_floatToIntBits_5c35a_11 : decode cJxf58ca_floatToIntBits_5c35a 11 = .ok (.ireturn, 1) := by decide +kernel
theorem dJxf58ca_floatToIntBits_5c35a_12 : decode cJxf58ca_floatToIntBits_5c35a 12 = .ok (.ldc 77, 2) := by decide +kernel
theorem dJxf58ca_floatToIntBits_5c35a_14 : decode cJxf58ca_floatToIntBits_5c35a 14 = .ok (.ireturn, 1) := by decide +kernel
theorem dJxf58ca_isNaN_12338_0 : decode cJxf58ca_isNaN_12338 0 = .ok (.fload_n 0, 1) := by decide +kernel
theorem dJxf58ca_isNaN_12338_1 : decode cJxf58ca_isNaN_12338 1 = .ok (.fload_n 0, 1) := by decide +kernel
theorem dJxf58ca_isNaN_12338_2 : decode cJxf58ca_isNaN_12338 2 = .ok (.fcmp .l, 1) := by decide +kernel
theorem dJxf58ca_isNaN_12338_3 : decode cJxf58ca_isNaN_12338 3 = .ok (.ifCond .eq 7, 3) := by decide +kernel
theorem dJxf58ca_isNaN_12338_6 : decode cJxf58ca_isNaN_12338 6 = .ok (.iconst 1, 1) := by decide +kernel
theorem dJxf58ca_isNaN_12338_7 : decode cJxf58ca_isNaN_12338 7 = .ok (.goto 4, 3) := by decide +kernel
theorem dJxf58ca_isNaN_12338_10 : decode cJxf58ca_isNaN_12338 10 = .ok (.iconst 0, 1) := by decide +kernel
theorem dJxf58ca_isNaN_12338_11 : decode cJxf58ca_isNaN_12338 11 = .ok (.ireturn, 1) := by decide +kernel
end
section
theorem dL_law_0 : decode cL_law 0 = .ok (.new 8, 3) := by decide +kernel
theorem dL_law_3 : decode cL_law 3 = .ok (.dup, 1) := by decide +kernel
theorem dL_law_4 : decode cL_law 4 = .ok (.invokespecial 240, 3) := by decide +kernel
theorem dL_law_7 : decode cL_law 7 = .ok (.astore_n 1, 1) := by decide +kernel
theorem dL_law_8 : decode cL_law 8 = .ok (.aload_n 0, 1) := by decide +kernel
theorem dL_law_9 : decode cL_law 9 = .ok (.iconst 0, 1) := by decide +kernel
theorem dL_law_10 : decode cL_law 10 = .ok (.invokestatic 241, 3) := by decide +kernel
theorem dL_law_13 : decode cL_law 13 = .ok (.bipush 58, 2) := by decide +kernel
theorem dL_law_15 : decode cL_law 15 = .ok (.invokestatic 245, 3) := by decide +kernel
theorem dL_law_18 : decode cL_law 18 = .ok (.istore_n 2, 1) := by decide +kernel
theorem dL_law_19 : decode cL_law 19 = .ok (.iconst 0, 1) := by decide +kernel
theorem dL_law_20 : decode cL_law 20 = .ok (.istore_n 3, 1) := by decide +kernel
theorem dL_law_21 : decode cL_law 21 = .ok (.iload_n 3, 1) := by decide +kernel
theorem dL_law_22 : decode cL_law 22 = .ok (.iload_n 2, 1) := by decide +kernel
theorem dL_law_23 : decode cL_law 23 = .ok (.if_icmp .ge 1100, 3) := by decide +kernel
theorem dL_law_26 : decode cL_law 26 = .ok (.aload_n 0, 1) := by decide +kernel
theorem dL_law_27 : decode cL_law 27 = .ok (.iconst 1, 1) := by decide +kernel
theorem dL_law_28 : decode cL_law 28 = .ok (.iload_n 3, 1) := by decide +kernel
theorem dL_law_29 : decode cL_law 29 = .ok (.iadd, 1) := by decide +kernel
theorem dL_law_30 : decode cL_law 30 = .ok (.invokestatic 241, 3) := by decide +kernel
theorem dL_law_33 : decode cL_law 33 = .ok (.ldc 248, 2) := by decide +kernel
theorem dL_law_35 : decode cL_law 35 = .ok (.invokestatic 245, 3) := by decide +kernel
theorem dL_law_38 : decode cL_law 38 = .ok (.istore 4, 2) := by decide +kernel
theorem dL_law_40 : decode cL_law 40 = .ok (.iload 4, 2) := by decide +kernel
theorem dL_law_42 : decode cL_law 42 = .ok (.bipush 40, 2) := by decide +kernel
theorem dL_law_44 : decode cL_law 44 = .ok (.idiv, 1) := by decide +kernel
theorem dL_law_45 : decode cL_law 45 = .ok (.istore 5, 2) := by decide +kernel
theorem dL_law_47 : decode cL_law 47 = .ok (.iload 5, 2) := by decide +kernel
theorem dL_law_49 : decode cL_law 49 = .ok (.iconst 1, 1) := by decide +kernel
theorem dL_law_50 : decode cL_law 50 = .ok (.aload_n 1, 1) := by decide +kernel
theorem dL_law_51 : decode cL_law 51 = .ok (.invokestatic 182, 3) := by decide +kernel
theorem dL_law_54 : decode cL_law 54 = .ok (.invokestatic 231, 3) := by decide +kernel
theorem dL_law_57 : decode cL_law 57 = .ok (.irem, 1) := by decide +kernel
theorem dL_law_58 : decode cL_law 58 = .ok (.istore 6, 2) := by decide +kernel
theorem dL_law_60 : decode cL_law 60 = .ok (.iload 5, 2) := by decide +kernel
theorem dL_law_62 : decode cL_law 62 = .ok (.iconst 3, 1) := by decide +kernel
theorem dL_law_63 : decode cL_law 63 = .ok (.idiv, 1) := by decide +kernel
theorem dL_law_64 : decode cL_law 64 = .ok (.iconst 1, 1) := by decide +kernel
theorem dL_law_65 : decode cL_law 65 = .ok (.aload_n 1, 1) := by decide +kernel
theorem dL_law_66 : decode cL_law 66 = .ok (.invokestatic 186, 3) := by decide +kernel
theorem dL_law_69 : decode cL_law 69 = .ok (.invokestatic 231, 3) := by decide +kernel
theorem dL_law_72 : decode cL_law 72 = .ok (.irem, 1) := by decide +kernel
theorem dL_law_73 : decode cL_law 73 = .ok (.istore 7, 2) := by decide +kernel
theorem dL_law_75 : decode cL_law 75 = .ok (.iload_n 3, 1) := by decide +kernel
theorem dL_law_76 : decode cL_law 76 = .ok (.iconst 2, 1) := by decide +kernel
theorem dL_law_77 : decode cL_law 77 = .ok (.irem, 1) := by decide +kernel
theorem dL_law_78 : decode cL_law 78 = .ok (.ifCond .ne 7, 3) := by decide +kernel
theorem dL_law_81 : decode cL_law 81 = .ok (.iconst 1, 1) := by decide +kernel
theorem dL_law_82 : decode cL_law 82 = .ok (.goto 4, 3) := by decide +kernel
theorem dL_law_85 : decode cL_law 85 = .ok (.iconst 0, 1) := by decide +kernel
theorem dL_law_86 : decode cL_law 86 = .ok (.istore 8, 2) := by decide +kernel
theorem dL_law_88 : decode cL_law 88 = .ok (.iload 8, 2) := by decide +kernel
theorem dL_law_90 : decode cL_law 90 = .ok (.ifCond .eq 10, 3) := by decide +kernel
theorem dL_law_93 : decode cL_law 93 = .ok (.aload_n 1, 1) := by decide +kernel
theorem dL_law_94 : decode cL_law 94 = .ok (.invokestatic 249, 3) := by decide +kernel
theorem dL_law_97 : decode cL_law 97 = .ok (.goto 4, 3) := by decide +kernel
theorem dL_law_100 : decode cL_law 100 = .ok (.lconst 0, 1) := by decide +kernel
theorem dL_law_101 : decode cL_law 101 = .ok (.lstore 9, 2) := by decide +kernel
theorem dL_law_103 : decode cL_law 103 = .ok (.iconst 0, 1) := by decide +kernel
theorem dL_law_104 : decode cL_law 104 = .ok (.istore 11, 2) := by decide +kernel
theorem dL_law_106 : decode cL_law 106 = .ok (.iload_n 3, 1) := by decide +kernel
theorem dL_law_107 : decode cL_law 107 = .ok (.iconst 4, 1) := by decide +kernel
theorem dL_law_108 : decode cL_law 108 = .ok (.if_icmp .ge 7, 3) := by decide +kernel
theorem dL_law_111 : decode cL_law 111 = .ok (.iconst 0, 1) := by decide +kernel
theorem dL_law_112 : decode cL_law 112 = .ok (.goto 51, 3) := by decide +kernel
theorem dL_law_115 : decode cL_law 115 = .ok (.iload_n 3, 1) := by decide +kernel
theorem dL_law_116 : decode cL_law 116 = .ok (.bipush 6, 2) := by decide +kernel
theorem dL_law_118 : decode cL_law 118 = .ok (.if_icmp .ge 7, 3) := by decide +kernel
theorem dL_law_121 : decode cL_law 121 = .ok (.iconst 3, 1) := by decide +kernel
theorem dL_law_122 : decode cL_law 122 = .ok (.goto 41, 3) := by decide +kernel
theorem dL_law_125 : decode cL_law 125 = .ok (.iload_n 3, 1) := by decide +kernel
theorem dL_law_126 : decode cL_law 126 = .ok (.bipush 8, 2) := by decide +kernel
theorem dL_law_128 : decode cL_law 128 = .ok (.if_icmp .ge 8, 3) := by decide +kernel
theorem dL_law_131 : decode cL_law 131 = .ok (.bipush 7, 2) := by decide +kernel
theorem dL_law_133 : decode cL_law 133 = .ok (.goto 30, 3) := by decide +kernel
theorem dL_law_136 : decode cL_law 136 = .ok (.iload_n 3, 1) := by decide +kernel
theorem dL_law_137 : decode cL_law 137 = .ok (.bipush 10, 2) := by decide +kernel
theorem dL_law_139 : decode cL_law 139 = .ok (.if_icmp .ge 8, 3) := by decide +kernel
theorem dL_law_142 : decode cL_law 142 = .ok (.bipush 10, 2) := by decide +kernel
theorem dL_law_144 : decode cL_law 144 = .ok (.goto 19, 3) := by decide +kernel
theorem dL_law_147 : decode cL_law 147 = .ok (.iload_n 3, 1) := by decide +kernel
theorem dL_law_148 : decode cL_law 148 = .ok (.bipush 12, 2) := by decide +kernel
theorem dL_law_150 : decode cL_law 150 = .ok (.if_icmp .ge 8, 3) := by decide +kernel
theorem dL_law_153 : decode cL_law 153 = .ok (.bipush 16, 2) := by decide +kernel
theorem dL_law_155 : decode cL_law 155 = .ok (.goto 8, 3) := by decide +kernel
theorem dL_law_158 : decode cL_law 158 = .ok (.iload 4, 2) := by decide +kernel
theorem dL_law_160 : decode cL_law 160 = .ok (.bipush 40, 2) := by decide +kernel
theorem dL_law_162 : decode cL_law 162 = .ok (.irem, 1) := by decide +kernel
theorem dL_law_163 : decode cL_law 163 = .ok (.istore 12, 2) := by decide +kernel
theorem dL_law_165 : decode cL_law 165 = .ok (.iload 12, 2) := by decide +kernel
theorem dL_law_167 : decode cL_law 167 = .ok (.iconst 3, 1) := by decide +kernel
theorem dL_law_168 : decode cL_law 168 = .ok (.if_icmp .ge 34, 3) := by decide +kernel
theorem dL_law_171 : decode cL_law 171 = .ok (.aload_n 1, 1) := by decide +kernel
theorem dL_law_172 : decode cL_law 172 = .ok (.bipush 100, 2) := by decide +kernel
theorem dL_law_174 : decode cL_law 174 = .ok (.iload 5, 2) := by decide +kernel
theorem dL_law_176 : decode cL_law 176 = .ok (.bipush 6, 2) := by decide +kernel
theorem dL_law_178 : decode cL_law 178 = .ok (.irem, 1) := by decide +kernel
theorem dL_law_179 : decode cL_law 179 = .ok (.iload 5, 2) := by decide +kernel
theorem dL_law_181 : decode cL_law 181 = .ok (.bipush 7, 2) := by decide +kernel
theorem dL_law_183 : decode cL_law 183 = .ok (.idiv, 1) := by decide +kernel
theorem dL_law_184 : decode cL_law 184 = .ok (.iconst 3, 1) := by decide +kernel
theorem dL_law_185 : decode cL_law 185 = .ok (.irem, 1) := by decide +kernel
theorem dL_law_186 : decode cL_law 186 = .ok (.iload 5, 2) := by decide +kernel
theorem dL_law_188 : decode cL_law 188 = .ok (.bipush 21, 2) := by decide +kernel
theorem dL_law_190 : decode cL_law 190 = .ok (.idiv, 1) := by decide +kernel
theorem dL_law_191 : decode cL_law 191 = .ok (.bipush 100, 2) := by decide +kernel
theorem dL_law_193 : decode cL_law 193 = .ok (.irem, 1) := by decide +kernel
theorem dL_law_194 : decode cL_law 194 = .ok (.invokestatic 253, 3) := by decide +kernel
theorem dL_law_197 : decode cL_law 197 = .ok (.istore 11, 2) := by decide +kernel
theorem dL_law_199 : decode cL_law 199 = .ok (.goto 877, 3) := by decide +kernel
theorem dL_law_202 : decode cL_law 202 = .ok (.iload 12, 2) := by decide +kernel
theorem dL_law_204 : decode cL_law 204 = .ok (.iconst 5, 1) := by decide +kernel
theorem dL_law_205 : decode cL_law 205 = .ok (.if_icmp .ge 114, 3) := by decide +kernel
theorem dL_law_208 : decode cL_law 208 = .ok (.aload_n 1, 1) := by decide +kernel
theorem dL_law_209 : decode cL_law 209 = .ok (.bipush 6, 2) := by decide +kernel
theorem dL_law_211 : decode cL_law 211 = .ok (.newarray .int, 2) := by decide +kernel
theorem dL_law_213 : decode cL_law 213 = .ok (.dup, 1) := by decide +kernel
theorem dL_law_214 : decode cL_law 214 = .ok (.iconst 0, 1) := by decide +kernel
theorem dL_law_215 : decode cL_law 215 = .ok (.iconst 1, 1) := by decide +kernel
theorem dL_law_216 : decode cL_law 216 = .ok (.iload 5, 2) := by decide +kernel
theorem dL_law_218 : decode cL_law 218 = .ok (.bipush 60, 2) := by decide +kernel
theorem dL_law_220 : decode cL_law 220 = .ok (.irem, 1) := by decide +kernel
theorem dL_law_221 : decode cL_law 221 = .ok (.iadd, 1) := by decide +kernel
theorem dL_law_222 : decode cL_law 222 = .ok (.iastore, 1) := by decide +kernel
theorem dL_law_223 : decode cL_law 223 = .ok (.dup, 1) := by decide +kernel
theorem dL_law_224 : decode cL_law 224 = .ok (.iconst 1, 1) := by decide +kernel
theorem dL_law_225 : decode cL_law 225 = .ok (.iconst 1, 1) := by decide +kernel
theorem dL_law_226 : decode cL_law 226 = .ok (.iload 5, 2) := by decide +kernel
theorem dL_law_228 : decode cL_law 228 = .ok (.bipush 60, 2) := by decide +kernel
theorem dL_law_230 : decode cL_law 230 = .ok (.idiv, 1) := by decide +kernel
theorem dL_law_231 : decode cL_law 231 = .ok (.bipush 63, 2) := by decide +kernel
theorem dL_law_233 : decode cL_law 233 = .ok (.irem, 1) := by decide +kernel
theorem dL_law_234 : decode cL_law 234 = .ok (.iadd, 1) := by decide +kernel
theorem dL_law_235 : decode cL_law 235 = .ok (.iastore, 1) := by decide +kernel
theorem dL_law_236 : decode cL_law 236 = .ok (.dup, 1) := by decide +kernel
theorem dL_law_237 : decode cL_law 237 = .ok (.iconst 2, 1) := by decide +kernel
theorem dL_law_238 : decode cL_law 238 = .ok (.iconst 1, 1) := by decide +kernel
theorem dL_law_239 : decode cL_law 239 = .ok (.iload 5, 2) := by decide +kernel
theorem dL_law_241 : decode cL_law 241 = .ok (.bipush 7, 2) := by decide +kernel
theorem dL_law_243 : decode cL_law 243 = .ok (.idiv, 1) := by decide +kernel
theorem dL_law_244 : decode cL_law 244 = .ok (.bipush 7, 2) := by decide +kernel
theorem dL_law_246 : decode cL_law 246 = .ok (.irem, 1) := by decide +kernel
theorem dL_law_247 : decode cL_law 247 = .ok (.iadd, 1) := by decide +kernel
theorem dL_law_248 : decode cL_law 248 = .ok (.iastore, 1) := by decide +kernel
theorem dL_law_249 : decode cL_law 249 = .ok (.dup, 1) := by decide +kernel
theorem dL_law_250 : decode cL_law 250 = .ok (.iconst 3, 1) := by decide +kernel
theorem dL_law_251 : decode cL_law 251 = .ok (.iconst 1, 1) := by decide +kernel
theorem dL_law_252 : decode cL_law 252 = .ok (.iload 5, 2) := by decide +kernel
theorem dL_law_254 : decode cL_law 254 = .ok (.bipush 11, 2) := by decide +kernel
theorem dL_law_256 : decode cL_law 256 = .ok (.idiv, 1) := by decide +kernel
theorem dL_law_257 : decode cL_law 257 = .ok (.sipush 260, 3) := by decide +kernel
theorem dL_law_260 : decode cL_law 260 = .ok (.irem, 1) := by decide +kernel
theorem dL_law_261 : decode cL_law 261 = .ok (.iadd, 1) := by decide +kernel
theorem dL_law_262 : decode cL_law 262 = .ok (.iastore, 1) := by decide +kernel
theorem dL_law_263 : decode cL_law 263 = .ok (.dup, 1) := by decide +kernel
theorem dL_law_264 : decode cL_law 264 = .ok (.iconst 4, 1) := by decide +kernel
theorem dL_law_265 : decode cL_law 265 = .ok (.iload 5, 2) := by decide +kernel
theorem dL_law_267 : decode cL_law 267 = .ok (.bipush 17, 2) := by decide +kernel
theorem dL_law_269 : decode cL_law 269 = .ok (.idiv, 1) := by decide +kernel
theorem dL_law_270 : decode cL_law 270 = .ok (.iconst 3, 1) := by decide +kernel
theorem dL_law_271 : decode cL_law 271 = .ok (.irem, 1) := by decide +kernel
theorem dL_law_272 : decode cL_law 272 = .ok (.iastore, 1) := by decide +kernel
theorem dL_law_273 : decode cL_law 273 = .ok (.dup, 1) := by decide +kernel
theorem dL_law_274 : decode cL_law 274 = .ok (.iconst 5, 1) := by decide +kernel
theorem dL_law_275 : decode cL_law 275 = .ok (.iload 5, 2) := by decide +kernel
theorem dL_law_277 : decode cL_law 277 = .ok (.bipush 23, 2) := by decide +kernel
theorem dL_law_279 : decode cL_law 279 = .ok (.idiv, 1) := by decide +kernel
theorem dL_law_280 : decode cL_law 280 = .ok (.sipush 256, 3) := by decide +kernel
theorem dL_law_283 : decode cL_law 283 = .ok (.irem, 1) := by decide +kernel
theorem dL_law_284 : decode cL_law 284 = .ok (.iastore, 1) := by decide +kernel
theorem dL_law_285 : decode cL_law 285 = .ok (.invokestatic 257, 3) := by decide +kernel
theorem dL_law_288 : decode cL_law 288 = .ok (.istore 11, 2) := by decide +kernel
theorem dL_law_290 : decode cL_law 290 = .ok (.iload 11, 2) := by decide +kernel
theorem dL_law_292 : decode cL_law 292 = .ok (.ifCond .lt 784, 3) := by decide +kernel
theorem dL_law_295 : decode cL_law 295 = .ok (.aload_n 1, 1) := by decide +kernel
theorem dL_law_296 : decode cL_law 296 = .ok (.iload 11, 2) := by decide +kernel
theorem dL_law_298 : decode cL_law 298 = .ok (.iconst 2, 1) := by decide +kernel
theorem dL_law_299 : decode cL_law 299 = .ok (.invokestatic 172, 3) := by decide +kernel
theorem dL_law_302 : decode cL_law 302 = .ok (.bipush 100, 2) := by decide +kernel
theorem dL_law_304 : decode cL_law 304 = .ok (.if_icmp .ne 13, 3) := by decide +kernel
theorem dL_law_307 : decode cL_law 307 = .ok (.aload_n 1, 1) := by decide +kernel
theorem dL_law_308 : decode cL_law 308 = .ok (.iload 11, 2) := by decide +kernel
theorem dL_law_310 : decode cL_law 310 = .ok (.iconst 5, 1) := by decide +kernel
theorem dL_law_311 : decode cL_law 311 = .ok (.invokestatic 172, 3) := by decide +kernel
theorem dL_law_314 : decode cL_law 314 = .ok (.ifCond .eq 762, 3) := by decide +kernel
theorem dL_law_317 : decode cL_law 317 = .ok (.iconst 0, 1) := by decide +kernel
theorem dL_law_318 : decode cL_law 318 = .ok (.ireturn, 1) := by decide +kernel
theorem dL_law_319 : decode cL_law 319 = .ok (.iload 12, 2) := by decide +kernel
theorem dL_law_321 : decode cL_law 321 = .ok (.bipush 7, 2) := by decide +kernel
theorem dL_law_323 : decode cL_law 323 = .ok (.if_icmp .ge 58, 3) := by decide +kernel
theorem dL_law_326 : decode cL_law 326 = .ok (.aload_n 1, 1) := by decide +kernel
theorem dL_law_327 : decode cL_law 327 = .ok (.iconst 4, 1) := by decide +kernel
theorem dL_law_328 : decode cL_law 328 = .ok (.newarray .int, 2) := by decide +kernel
theorem dL_law_330 : decode cL_law 330 = .ok (.dup, 1) := by decide +kernel
theorem dL_law_331 : decode cL_law 331 = .ok (.iconst 0, 1) := by decide +kernel
theorem dL_law_332 : decode cL_law 332 = .ok (.iload 6, 2) := by decide +kernel
theorem dL_law_334 : decode cL_law 334 = .ok (.iastore, 1) := by decide +kernel
theorem dL_law_335 : decode cL_law 335 = .ok (.dup, 1) := by decide +kernel
theorem dL_law_336 : decode cL_law 336 = .ok (.iconst 1, 1) := by decide +kernel
theorem dL_law_337 : decode cL_law 337 = .ok (.bipush 20, 2) := by decide +kernel
end
section
theorem dL_law_339 : decode cL_law 339 = .ok (.iload 5, 2) := by decide +kernel
theorem dL_law_341 : decode cL_law 341 = .ok (.bipush 7, 2) := by decide +kernel
theorem dL_law_343 : decode cL_law 343 = .ok (.idiv, 1) := by decide +kernel
theorem dL_law_344 : decode cL_law 344 = .ok (.bipush 70, 2) := by decide +kernel
theorem dL_law_346 : decode cL_law 346 = .ok (.irem, 1) := by decide +kernel
theorem dL_law_347 : decode cL_law 347 = .ok (.iadd, 1) := by decide +kernel
theorem dL_law_348 : decode cL_law 348 = .ok (.iastore, 1) := by decide +kernel
theorem dL_law_349 : decode cL_law 349 = .ok (.dup, 1) := by decide +kernel
theorem dL_law_350 : decode cL_law 350 = .ok (.iconst 2, 1) := by decide +kernel
theorem dL_law_351 : decode cL_law 351 = .ok (.iconst 1, 1) := by decide +kernel
theorem dL_law_352 : decode cL_law 352 = .ok (.iload 5, 2) := by decide +kernel
theorem dL_law_354 : decode cL_law 354 = .ok (.bipush 11, 2) := by decide +kernel
theorem dL_law_356 : decode cL_law 356 = .ok (.idiv, 1) := by decide +kernel
theorem dL_law_357 : decode cL_law 357 = .ok (.sipush 260, 3) := by decide +kernel
theorem dL_law_360 : decode cL_law 360 = .ok (.irem, 1) := by decide +kernel
theorem dL_law_361 : decode cL_law 361 = .ok (.iadd, 1) := by decide +kernel
theorem dL_law_362 : decode cL_law 362 = .ok (.iastore, 1) := by decide +kernel
theorem dL_law_363 : decode cL_law 363 = .ok (.dup, 1) := by decide +kernel
theorem dL_law_364 : decode cL_law 364 = .ok (.iconst 3, 1) := by decide +kernel
theorem dL_law_365 : decode cL_law 365 = .ok (.iload 5, 2) := by decide +kernel
theorem dL_law_367 : decode cL_law 367 = .ok (.bipush 17, 2) := by decide +kernel
theorem dL_law_369 : decode cL_law 369 = .ok (.idiv, 1) := by decide +kernel
theorem dL_law_370 : decode cL_law 370 = .ok (.iconst 3, 1) := by decide +kernel
theorem dL_law_371 : decode cL_law 371 = .ok (.irem, 1) := by decide +kernel
theorem dL_law_372 : decode cL_law 372 = .ok (.iastore, 1) := by decide +kernel
theorem dL_law_373 : decode cL_law 373 = .ok (.invokestatic 257, 3) := by decide +kernel
theorem dL_law_376 : decode cL_law 376 = .ok (.istore 11, 2) := by decide +kernel
theorem dL_law_378 : decode cL_law 378 = .ok (.goto 698, 3) := by decide +kernel
theorem dL_law_381 : decode cL_law 381 = .ok (.iload 12, 2) := by decide +kernel
theorem dL_law_383 : decode cL_law 383 = .ok (.bipush 10, 2) := by decide +kernel
theorem dL_law_385 : decode cL_law 385 = .ok (.if_icmp .ge 31, 3) := by decide +kernel
theorem dL_law_388 : decode cL_law 388 = .ok (.aload_n 1, 1) := by decide +kernel
theorem dL_law_389 : decode cL_law 389 = .ok (.iload 6, 2) := by decide +kernel
theorem dL_law_391 : decode cL_law 391 = .ok (.iconst 0, 1) := by decide +kernel
theorem dL_law_392 : decode cL_law 392 = .ok (.invokestatic 172, 3) := by decide +kernel
theorem dL_law_395 : decode cL_law 395 = .ok (.istore 11, 2) := by decide +kernel
theorem dL_law_397 : decode cL_law 397 = .ok (.iload 11, 2) := by decide +kernel
theorem dL_law_399 : decode cL_law 399 = .ok (.ifCond .lt 677, 3) := by decide +kernel
theorem dL_law_402 : decode cL_law 402 = .ok (.aload_n 1, 1) := by decide +kernel
theorem dL_law_403 : decode cL_law 403 = .ok (.iload 6, 2) := by decide +kernel
theorem dL_law_405 : decode cL_law 405 = .ok (.iconst 2, 1) := by decide +kernel
theorem dL_law_406 : decode cL_law 406 = .ok (.invokestatic 172, 3) := by decide +kernel
theorem dL_law_409 : decode cL_law 409 = .ok (.bipush 119, 2) := by decide +kernel
theorem dL_law_411 : decode cL_law 411 = .ok (.if_icmp .eq 665, 3) := by decide +kernel
theorem dL_law_414 : decode cL_law 414 = .ok (.iconst 0, 1) := by decide +kernel
theorem dL_law_415 : decode cL_law 415 = .ok (.ireturn, 1) := by decide +kernel
theorem dL_law_416 : decode cL_law 416 = .ok (.iload 12, 2) := by decide +kernel
theorem dL_law_418 : decode cL_law 418 = .ok (.bipush 13, 2) := by decide +kernel
theorem dL_law_420 : decode cL_law 420 = .ok (.if_icmp .ge 80, 3) := by decide +kernel
theorem dL_law_423 : decode cL_law 423 = .ok (.aload_n 1, 1) := by decide +kernel
theorem dL_law_424 : decode cL_law 424 = .ok (.iconst 0, 1) := by decide +kernel
theorem dL_law_425 : decode cL_law 425 = .ok (.invokestatic 199, 3) := by decide +kernel
theorem dL_law_428 : decode cL_law 428 = .ok (.istore 13, 2) := by decide +kernel
theorem dL_law_430 : decode cL_law 430 = .ok (.aload_n 1, 1) := by decide +kernel
theorem dL_law_431 : decode cL_law 431 = .ok (.iconst 1, 1) := by decide +kernel
theorem dL_law_432 : decode cL_law 432 = .ok (.invokestatic 199, 3) := by decide +kernel
theorem dL_law_435 : decode cL_law 435 = .ok (.istore 11, 2) := by decide +kernel
theorem dL_law_437 : decode cL_law 437 = .ok (.iload 13, 2) := by decide +kernel
theorem dL_law_439 : decode cL_law 439 = .ok (.sipush (-1003), 3) := by decide +kernel
theorem dL_law_442 : decode cL_law 442 = .ok (.if_icmp .ne 7, 3) := by decide +kernel
theorem dL_law_445 : decode cL_law 445 = .ok (.iconst 1, 1) := by decide +kernel
theorem dL_law_446 : decode cL_law 446 = .ok (.goto 4, 3) := by decide +kernel
theorem dL_law_449 : decode cL_law 449 = .ok (.iconst 0, 1) := by decide +kernel
theorem dL_law_450 : decode cL_law 450 = .ok (.iload 11, 2) := by decide +kernel
theorem dL_law_452 : decode cL_law 452 = .ok (.sipush (-1003), 3) := by decide +kernel
theorem dL_law_455 : decode cL_law 455 = .ok (.if_icmp .ne 7, 3) := by decide +kernel
theorem dL_law_458 : decode cL_law 458 = .ok (.iconst 1, 1) := by decide +kernel
theorem dL_law_459 : decode cL_law 459 = .ok (.goto 4, 3) := by decide +kernel
theorem dL_law_462 : decode cL_law 462 = .ok (.iconst 0, 1) := by decide +kernel
theorem dL_law_463 : decode cL_law 463 = .ok (.if_icmp .ne 32, 3) := by decide +kernel
theorem dL_law_466 : decode cL_law 466 = .ok (.iload 13, 2) := by decide +kernel
theorem dL_law_468 : decode cL_law 468 = .ok (.ifCond .lt 29, 3) := by decide +kernel
theorem dL_law_471 : decode cL_law 471 = .ok (.aload_n 1, 1) := by decide +kernel
theorem dL_law_472 : decode cL_law 472 = .ok (.iload 13, 2) := by decide +kernel
theorem dL_law_474 : decode cL_law 474 = .ok (.iconst 2, 1) := by decide +kernel
theorem dL_law_475 : decode cL_law 475 = .ok (.invokestatic 172, 3) := by decide +kernel
theorem dL_law_478 : decode cL_law 478 = .ok (.iload 11, 2) := by decide +kernel
theorem dL_law_480 : decode cL_law 480 = .ok (.bipush 45, 2) := by decide +kernel
theorem dL_law_482 : decode cL_law 482 = .ok (.if_icmp .ne 8, 3) := by decide +kernel
theorem dL_law_485 : decode cL_law 485 = .ok (.bipush 97, 2) := by decide +kernel
theorem dL_law_487 : decode cL_law 487 = .ok (.goto 5, 3) := by decide +kernel
theorem dL_law_490 : decode cL_law 490 = .ok (.bipush 114, 2) := by decide +kernel
theorem dL_law_492 : decode cL_law 492 = .ok (.if_icmp .eq 5, 3) := by decide +kernel
theorem dL_law_495 : decode cL_law 495 = .ok (.iconst 0, 1) := by decide +kernel
theorem dL_law_496 : decode cL_law 496 = .ok (.ireturn, 1) := by decide +kernel
theorem dL_law_497 : decode cL_law 497 = .ok (.goto 579, 3) := by decide +kernel
theorem dL_law_500 : decode cL_law 500 = .ok (.iload 12, 2) := by decide +kernel
theorem dL_law_502 : decode cL_law 502 = .ok (.bipush 14, 2) := by decide +kernel
theorem dL_law_504 : decode cL_law 504 = .ok (.if_icmp .ge 32, 3) := by decide +kernel
theorem dL_law_507 : decode cL_law 507 = .ok (.aload_n 1, 1) := by decide +kernel
theorem dL_law_508 : decode cL_law 508 = .ok (.iload 6, 2) := by decide +kernel
theorem dL_law_510 : decode cL_law 510 = .ok (.iconst 1, 1) := by decide +kernel
theorem dL_law_511 : decode cL_law 511 = .ok (.invokestatic 172, 3) := by decide +kernel
theorem dL_law_514 : decode cL_law 514 = .ok (.istore 11, 2) := by decide +kernel
theorem dL_law_516 : decode cL_law 516 = .ok (.iload 11, 2) := by decide +kernel
theorem dL_law_518 : decode cL_law 518 = .ok (.ifCond .lt 558, 3) := by decide +kernel
theorem dL_law_521 : decode cL_law 521 = .ok (.aload_n 1, 1) := by decide +kernel
theorem dL_law_522 : decode cL_law 522 = .ok (.iload 6, 2) := by decide +kernel
theorem dL_law_524 : decode cL_law 524 = .ok (.iconst 1, 1) := by decide +kernel
theorem dL_law_525 : decode cL_law 525 = .ok (.invokestatic 172, 3) := by decide +kernel
theorem dL_law_528 : decode cL_law 528 = .ok (.sipush (-1003), 3) := by decide +kernel
theorem dL_law_531 : decode cL_law 531 = .ok (.if_icmp .eq 545, 3) := by decide +kernel
theorem dL_law_534 : decode cL_law 534 = .ok (.iconst 0, 1) := by decide +kernel
theorem dL_law_535 : decode cL_law 535 = .ok (.ireturn, 1) := by decide +kernel
theorem dL_law_536 : decode cL_law 536 = .ok (.iload 12, 2) := by decide +kernel
theorem dL_law_538 : decode cL_law 538 = .ok (.bipush 16, 2) := by decide +kernel
theorem dL_law_540 : decode cL_law 540 = .ok (.if_icmp .ge 46, 3) := by decide +kernel
theorem dL_law_543 : decode cL_law 543 = .ok (.iload 5, 2) := by decide +kernel
theorem dL_law_545 : decode cL_law 545 = .ok (.iconst 2, 1) := by decide +kernel
theorem dL_law_546 : decode cL_law 546 = .ok (.irem, 1) := by decide +kernel
theorem dL_law_547 : decode cL_law 547 = .ok (.ifCond .ne 22, 3) := by decide +kernel
theorem dL_law_550 : decode cL_law 550 = .ok (.aload_n 1, 1) := by decide +kernel
theorem dL_law_551 : decode cL_law 551 = .ok (.bipush 115, 2) := by decide +kernel
theorem dL_law_553 : decode cL_law 553 = .ok (.iconst 1, 1) := by decide +kernel
theorem dL_law_554 : decode cL_law 554 = .ok (.iload 5, 2) := by decide +kernel
theorem dL_law_556 : decode cL_law 556 = .ok (.iconst 2, 1) := by decide +kernel
theorem dL_law_557 : decode cL_law 557 = .ok (.idiv, 1) := by decide +kernel
theorem dL_law_558 : decode cL_law 558 = .ok (.sipush 300, 3) := by decide +kernel
theorem dL_law_561 : decode cL_law 561 = .ok (.irem, 1) := by decide +kernel
theorem dL_law_562 : decode cL_law 562 = .ok (.iadd, 1) := by decide +kernel
theorem dL_law_563 : decode cL_law 563 = .ok (.invokestatic 261, 3) := by decide +kernel
theorem dL_law_566 : decode cL_law 566 = .ok (.goto 15, 3) := by decide +kernel
theorem dL_law_569 : decode cL_law 569 = .ok (.aload_n 1, 1) := by decide +kernel
theorem dL_law_570 : decode cL_law 570 = .ok (.bipush 98, 2) := by decide +kernel
theorem dL_law_572 : decode cL_law 572 = .ok (.iload 5, 2) := by decide +kernel
theorem dL_law_574 : decode cL_law 574 = .ok (.iconst 2, 1) := by decide +kernel
theorem dL_law_575 : decode cL_law 575 = .ok (.idiv, 1) := by decide +kernel
theorem dL_law_576 : decode cL_law 576 = .ok (.iconst 4, 1) := by decide +kernel
theorem dL_law_577 : decode cL_law 577 = .ok (.irem, 1) := by decide +kernel
theorem dL_law_578 : decode cL_law 578 = .ok (.invokestatic 261, 3) := by decide +kernel
theorem dL_law_581 : decode cL_law 581 = .ok (.istore 11, 2) := by decide +kernel
theorem dL_law_583 : decode cL_law 583 = .ok (.goto 493, 3) := by decide +kernel
theorem dL_law_586 : decode cL_law 586 = .ok (.iload 12, 2) := by decide +kernel
theorem dL_law_588 : decode cL_law 588 = .ok (.bipush 20, 2) := by decide +kernel
theorem dL_law_590 : decode cL_law 590 = .ok (.if_icmp .ge 59, 3) := by decide +kernel
theorem dL_law_593 : decode cL_law 593 = .ok (.aload_n 1, 1) := by decide +kernel
theorem dL_law_594 : decode cL_law 594 = .ok (.bipush 115, 2) := by decide +kernel
theorem dL_law_596 : decode cL_law 596 = .ok (.iload 6, 2) := by decide +kernel
theorem dL_law_598 : decode cL_law 598 = .ok (.iconst 1, 1) := by decide +kernel
theorem dL_law_599 : decode cL_law 599 = .ok (.iload 5, 2) := by decide +kernel
theorem dL_law_601 : decode cL_law 601 = .ok (.bipush 7, 2) := by decide +kernel
theorem dL_law_603 : decode cL_law 603 = .ok (.idiv, 1) := by decide +kernel
theorem dL_law_604 : decode cL_law 604 = .ok (.bipush 100, 2) := by decide +kernel
theorem dL_law_606 : decode cL_law 606 = .ok (.irem, 1) := by decide +kernel
theorem dL_law_607 : decode cL_law 607 = .ok (.iadd, 1) := by decide +kernel
theorem dL_law_608 : decode cL_law 608 = .ok (.iload 5, 2) := by decide +kernel
theorem dL_law_610 : decode cL_law 610 = .ok (.sipush 700, 3) := by decide +kernel
theorem dL_law_613 : decode cL_law 613 = .ok (.idiv, 1) := by decide +kernel
theorem dL_law_614 : decode cL_law 614 = .ok (.bipush 20, 2) := by decide +kernel
theorem dL_law_616 : decode cL_law 616 = .ok (.irem, 1) := by decide +kernel
theorem dL_law_617 : decode cL_law 617 = .ok (.invokestatic 253, 3) := by decide +kernel
theorem dL_law_620 : decode cL_law 620 = .ok (.istore 11, 2) := by decide +kernel
theorem dL_law_622 : decode cL_law 622 = .ok (.iload 11, 2) := by decide +kernel
theorem dL_law_624 : decode cL_law 624 = .ok (.ifCond .lt 452, 3) := by decide +kernel
theorem dL_law_627 : decode cL_law 627 = .ok (.aload_n 1, 1) := by decide +kernel
theorem dL_law_628 : decode cL_law 628 = .ok (.iload 6, 2) := by decide +kernel
theorem dL_law_630 : decode cL_law 630 = .ok (.iconst 3, 1) := by decide +kernel
theorem dL_law_631 : decode cL_law 631 = .ok (.invokestatic 172, 3) := by decide +kernel
theorem dL_law_634 : decode cL_law 634 = .ok (.iconst 1, 1) := by decide +kernel
theorem dL_law_635 : decode cL_law 635 = .ok (.iload 5, 2) := by decide +kernel
theorem dL_law_637 : decode cL_law 637 = .ok (.bipush 7, 2) := by decide +kernel
theorem dL_law_639 : decode cL_law 639 = .ok (.idiv, 1) := by decide +kernel
theorem dL_law_640 : decode cL_law 640 = .ok (.bipush 100, 2) := by decide +kernel
theorem dL_law_642 : decode cL_law 642 = .ok (.irem, 1) := by decide +kernel
theorem dL_law_643 : decode cL_law 643 = .ok (.iadd, 1) := by decide +kernel
theorem dL_law_644 : decode cL_law 644 = .ok (.if_icmp .eq 432, 3) := by decide +kernel
theorem dL_law_647 : decode cL_law 647 = .ok (.iconst 0, 1) := by decide +kernel
theorem dL_law_648 : decode cL_law 648 = .ok (.ireturn, 1) := by decide +kernel
theorem dL_law_649 : decode cL_law 649 = .ok (.iload 12, 2) := by decide +kernel
theorem dL_law_651 : decode cL_law 651 = .ok (.bipush 22, 2) := by decide +kernel
theorem dL_law_653 : decode cL_law 653 = .ok (.if_icmp .ge 60, 3) := by decide +kernel
theorem dL_law_656 : decode cL_law 656 = .ok (.iconst 1, 1) := by decide +kernel
theorem dL_law_657 : decode cL_law 657 = .ok (.iload 5, 2) := by decide +kernel
theorem dL_law_659 : decode cL_law 659 = .ok (.iconst 4, 1) := by decide +kernel
theorem dL_law_660 : decode cL_law 660 = .ok (.irem, 1) := by decide +kernel
theorem dL_law_661 : decode cL_law 661 = .ok (.iadd, 1) := by decide +kernel
theorem dL_law_662 : decode cL_law 662 = .ok (.istore 13, 2) := by decide +kernel
theorem dL_law_664 : decode cL_law 664 = .ok (.aload_n 1, 1) := by decide +kernel
theorem dL_law_665 : decode cL_law 665 = .ok (.bipush 112, 2) := by decide +kernel
theorem dL_law_667 : decode cL_law 667 = .ok (.iload 6, 2) := by decide +kernel
theorem dL_law_669 : decode cL_law 669 = .ok (.iload 13, 2) := by decide +kernel
theorem dL_law_671 : decode cL_law 671 = .ok (.invokestatic 178, 3) := by decide +kernel
theorem dL_law_674 : decode cL_law 674 = .ok (.istore 14, 2) := by decide +kernel
theorem dL_law_676 : decode cL_law 676 = .ok (.aload_n 1, 1) := by decide +kernel
theorem dL_law_677 : decode cL_law 677 = .ok (.bipush 100, 2) := by decide +kernel
theorem dL_law_679 : decode cL_law 679 = .ok (.iload 13, 2) := by decide +kernel
theorem dL_law_681 : decode cL_law 681 = .ok (.invokestatic 261, 3) := by decide +kernel
theorem dL_law_684 : decode cL_law 684 = .ok (.istore 11, 2) := by decide +kernel
theorem dL_law_686 : decode cL_law 686 = .ok (.iload 11, 2) := by decide +kernel
theorem dL_law_688 : decode cL_law 688 = .ok (.ifCond .lt 22, 3) := by decide +kernel
theorem dL_law_691 : decode cL_law 691 = .ok (.iload 14, 2) := by decide +kernel
theorem dL_law_693 : decode cL_law 693 = .ok (.ifCond .lt 17, 3) := by decide +kernel
theorem dL_law_696 : decode cL_law 696 = .ok (.aload_n 1, 1) := by decide +kernel
theorem dL_law_697 : decode cL_law 697 = .ok (.iload 6, 2) := by decide +kernel
theorem dL_law_699 : decode cL_law 699 = .ok (.iconst 3, 1) := by decide +kernel
theorem dL_law_700 : decode cL_law 700 = .ok (.invokestatic 172, 3) := by decide +kernel
theorem dL_law_703 : decode cL_law 703 = .ok (.iload 14, 2) := by decide +kernel
theorem dL_law_705 : decode cL_law 705 = .ok (.if_icmp .eq 5, 3) := by decide +kernel
theorem dL_law_708 : decode cL_law 708 = .ok (.iconst 0, 1) := by decide +kernel
theorem dL_law_709 : decode cL_law 709 = .ok (.ireturn, 1) := by decide +kernel
end
section
theorem dL_law_710 : decode cL_law 710 = .ok (.goto 366, 3) := by decide +kernel
theorem dL_law_713 : decode cL_law 713 = .ok (.iload 12, 2) := by decide +kernel
theorem dL_law_715 : decode cL_law 715 = .ok (.bipush 28, 2) := by decide +kernel
theorem dL_law_717 : decode cL_law 717 = .ok (.if_icmp .ge 84, 3) := by decide +kernel
theorem dL_law_720 : decode cL_law 720 = .ok (.aload_n 1, 1) := by decide +kernel
theorem dL_law_721 : decode cL_law 721 = .ok (.iload 7, 2) := by decide +kernel
theorem dL_law_723 : decode cL_law 723 = .ok (.iconst 0, 1) := by decide +kernel
theorem dL_law_724 : decode cL_law 724 = .ok (.invokestatic 218, 3) := by decide +kernel
theorem dL_law_727 : decode cL_law 727 = .ok (.istore 13, 2) := by decide +kernel
theorem dL_law_729 : decode cL_law 729 = .ok (.iload 13, 2) := by decide +kernel
theorem dL_law_731 : decode cL_law 731 = .ok (.ifCond .ge 7, 3) := by decide +kernel
theorem dL_law_734 : decode cL_law 734 = .ok (.iconst 0, 1) := by decide +kernel
theorem dL_law_735 : decode cL_law 735 = .ok (.goto 11, 3) := by decide +kernel
theorem dL_law_738 : decode cL_law 738 = .ok (.aload_n 1, 1) := by decide +kernel
theorem dL_law_739 : decode cL_law 739 = .ok (.iload 13, 2) := by decide +kernel
theorem dL_law_741 : decode cL_law 741 = .ok (.bipush 8, 2) := by decide +kernel
theorem dL_law_743 : decode cL_law 743 = .ok (.invokestatic 172, 3) := by decide +kernel
theorem dL_law_746 : decode cL_law 746 = .ok (.istore 14, 2) := by decide +kernel
theorem dL_law_748 : decode cL_law 748 = .ok (.aload_n 1, 1) := by decide +kernel
theorem dL_law_749 : decode cL_law 749 = .ok (.iload 7, 2) := by decide +kernel
theorem dL_law_751 : decode cL_law 751 = .ok (.iconst 1, 1) := by decide +kernel
theorem dL_law_752 : decode cL_law 752 = .ok (.invokestatic 218, 3) := by decide +kernel
theorem dL_law_755 : decode cL_law 755 = .ok (.istore 11, 2) := by decide +kernel
theorem dL_law_757 : decode cL_law 757 = .ok (.iload 11, 2) := by decide +kernel
theorem dL_law_759 : decode cL_law 759 = .ok (.iload 13, 2) := by decide +kernel
theorem dL_law_761 : decode cL_law 761 = .ok (.if_icmp .ne 35, 3) := by decide +kernel
theorem dL_law_764 : decode cL_law 764 = .ok (.iload 11, 2) := by decide +kernel
theorem dL_law_766 : decode cL_law 766 = .ok (.ifCond .lt 32, 3) := by decide +kernel
theorem dL_law_769 : decode cL_law 769 = .ok (.aload_n 1, 1) := by decide +kernel
theorem dL_law_770 : decode cL_law 770 = .ok (.iload 7, 2) := by decide +kernel
theorem dL_law_772 : decode cL_law 772 = .ok (.iconst 2, 1) := by decide +kernel
theorem dL_law_773 : decode cL_law 773 = .ok (.invokestatic 218, 3) := by decide +kernel
theorem dL_law_776 : decode cL_law 776 = .ok (.iload 11, 2) := by decide +kernel
theorem dL_law_778 : decode cL_law 778 = .ok (.if_icmp .ne 18, 3) := by decide +kernel
theorem dL_law_781 : decode cL_law 781 = .ok (.aload_n 1, 1) := by decide +kernel
theorem dL_law_782 : decode cL_law 782 = .ok (.iload 11, 2) := by decide +kernel
theorem dL_law_784 : decode cL_law 784 = .ok (.bipush 8, 2) := by decide +kernel
theorem dL_law_786 : decode cL_law 786 = .ok (.invokestatic 172, 3) := by decide +kernel
theorem dL_law_789 : decode cL_law 789 = .ok (.iload 14, 2) := by decide +kernel
theorem dL_law_791 : decode cL_law 791 = .ok (.iconst 1, 1) := by decide +kernel
theorem dL_law_792 : decode cL_law 792 = .ok (.iadd, 1) := by decide +kernel
theorem dL_law_793 : decode cL_law 793 = .ok (.if_icmp .eq 5, 3) := by decide +kernel
theorem dL_law_796 : decode cL_law 796 = .ok (.iconst 0, 1) := by decide +kernel
theorem dL_law_797 : decode cL_law 797 = .ok (.ireturn, 1) := by decide +kernel
theorem dL_law_798 : decode cL_law 798 = .ok (.goto 278, 3) := by decide +kernel
theorem dL_law_801 : decode cL_law 801 = .ok (.iload 12, 2) := by decide +kernel
theorem dL_law_803 : decode cL_law 803 = .ok (.bipush 34, 2) := by decide +kernel
theorem dL_law_805 : decode cL_law 805 = .ok (.if_icmp .ge 92, 3) := by decide +kernel
theorem dL_law_808 : decode cL_law 808 = .ok (.iload 5, 2) := by decide +kernel
theorem dL_law_810 : decode cL_law 810 = .ok (.bipush 6, 2) := by decide +kernel
theorem dL_law_812 : decode cL_law 812 = .ok (.irem, 1) := by decide +kernel
theorem dL_law_813 : decode cL_law 813 = .ok (.istore 13, 2) := by decide +kernel
theorem dL_law_815 : decode cL_law 815 = .ok (.iload 13, 2) := by decide +kernel
theorem dL_law_817 : decode cL_law 817 = .ok (.ifCond .lt 29, 3) := by decide +kernel
theorem dL_law_820 : decode cL_law 820 = .ok (.aload_n 1, 1) := by decide +kernel
theorem dL_law_821 : decode cL_law 821 = .ok (.bipush 116, 2) := by decide +kernel
theorem dL_law_823 : decode cL_law 823 = .ok (.bipush 97, 2) := by decide +kernel
theorem dL_law_825 : decode cL_law 825 = .ok (.iload 5, 2) := by decide +kernel
theorem dL_law_827 : decode cL_law 827 = .ok (.iconst 2, 1) := by decide +kernel
theorem dL_law_828 : decode cL_law 828 = .ok (.iload 13, 2) := by decide +kernel
theorem dL_law_830 : decode cL_law 830 = .ok (.imul, 1) := by decide +kernel
theorem dL_law_831 : decode cL_law 831 = .ok (.ishr, 1) := by decide +kernel
theorem dL_law_832 : decode cL_law 832 = .ok (.iconst 1, 1) := by decide +kernel
theorem dL_law_833 : decode cL_law 833 = .ok (.iand, 1) := by decide +kernel
theorem dL_law_834 : decode cL_law 834 = .ok (.iadd, 1) := by decide +kernel
theorem dL_law_835 : decode cL_law 835 = .ok (.invokestatic 261, 3) := by decide +kernel
theorem dL_law_838 : decode cL_law 838 = .ok (.istore 14, 2) := by decide +kernel
theorem dL_law_840 : decode cL_law 840 = .ok (.iinc 13 (-1), 3) := by decide +kernel
theorem dL_law_843 : decode cL_law 843 = .ok (.goto (-28), 3) := by decide +kernel
theorem dL_law_846 : decode cL_law 846 = .ok (.aload_n 1, 1) := by decide +kernel
theorem dL_law_847 : decode cL_law 847 = .ok (.invokevirtual 194, 3) := by decide +kernel
theorem dL_law_850 : decode cL_law 850 = .ok (.istore 13, 2) := by decide +kernel
theorem dL_law_852 : decode cL_law 852 = .ok (.aload_n 1, 1) := by decide +kernel
theorem dL_law_853 : decode cL_law 853 = .ok (.iload 7, 2) := by decide +kernel
theorem dL_law_855 : decode cL_law 855 = .ok (.iconst 3, 1) := by decide +kernel
theorem dL_law_856 : decode cL_law 856 = .ok (.invokestatic 218, 3) := by decide +kernel
theorem dL_law_859 : decode cL_law 859 = .ok (.istore 11, 2) := by decide +kernel
theorem dL_law_861 : decode cL_law 861 = .ok (.iload 11, 2) := by decide +kernel
theorem dL_law_863 : decode cL_law 863 = .ok (.ifCond .lt 19, 3) := by decide +kernel
theorem dL_law_866 : decode cL_law 866 = .ok (.iload 11, 2) := by decide +kernel
theorem dL_law_868 : decode cL_law 868 = .ok (.iload 13, 2) := by decide +kernel
theorem dL_law_870 : decode cL_law 870 = .ok (.if_icmp .gt 22, 3) := by decide +kernel
theorem dL_law_873 : decode cL_law 873 = .ok (.aload_n 1, 1) := by decide +kernel
theorem dL_law_874 : decode cL_law 874 = .ok (.invokevirtual 194, 3) := by decide +kernel
theorem dL_law_877 : decode cL_law 877 = .ok (.iload 13, 2) := by decide +kernel
theorem dL_law_879 : decode cL_law 879 = .ok (.if_icmp .lt 13, 3) := by decide +kernel
theorem dL_law_882 : decode cL_law 882 = .ok (.aload_n 1, 1) := by decide +kernel
theorem dL_law_883 : decode cL_law 883 = .ok (.iload 7, 2) := by decide +kernel
theorem dL_law_885 : decode cL_law 885 = .ok (.iconst 3, 1) := by decide +kernel
theorem dL_law_886 : decode cL_law 886 = .ok (.invokestatic 218, 3) := by decide +kernel
theorem dL_law_889 : decode cL_law 889 = .ok (.ifCond .lt 5, 3) := by decide +kernel
theorem dL_law_892 : decode cL_law 892 = .ok (.iconst 0, 1) := by decide +kernel
theorem dL_law_893 : decode cL_law 893 = .ok (.ireturn, 1) := by decide +kernel
theorem dL_law_894 : decode cL_law 894 = .ok (.goto 182, 3) := by decide +kernel
theorem dL_law_897 : decode cL_law 897 = .ok (.iload 12, 2) := by decide +kernel
theorem dL_law_899 : decode cL_law 899 = .ok (.bipush 35, 2) := by decide +kernel
theorem dL_law_901 : decode cL_law 901 = .ok (.if_icmp .ge 59, 3) := by decide +kernel
theorem dL_law_904 : decode cL_law 904 = .ok (.iload 5, 2) := by decide +kernel
theorem dL_law_906 : decode cL_law 906 = .ok (.iconst 2, 1) := by decide +kernel
theorem dL_law_907 : decode cL_law 907 = .ok (.irem, 1) := by decide +kernel
theorem dL_law_908 : decode cL_law 908 = .ok (.ifCond .ne 20, 3) := by decide +kernel
theorem dL_law_911 : decode cL_law 911 = .ok (.aload_n 1, 1) := by decide +kernel
theorem dL_law_912 : decode cL_law 912 = .ok (.bipush 111, 2) := by decide +kernel
theorem dL_law_914 : decode cL_law 914 = .ok (.iload 5, 2) := by decide +kernel
theorem dL_law_916 : decode cL_law 916 = .ok (.iconst 2, 1) := by decide +kernel
theorem dL_law_917 : decode cL_law 917 = .ok (.idiv, 1) := by decide +kernel
theorem dL_law_918 : decode cL_law 918 = .ok (.sipush 1001, 3) := by decide +kernel
theorem dL_law_921 : decode cL_law 921 = .ok (.irem, 1) := by decide +kernel
theorem dL_law_922 : decode cL_law 922 = .ok (.invokestatic 261, 3) := by decide +kernel
theorem dL_law_925 : decode cL_law 925 = .ok (.goto 17, 3) := by decide +kernel
theorem dL_law_928 : decode cL_law 928 = .ok (.aload_n 1, 1) := by decide +kernel
theorem dL_law_929 : decode cL_law 929 = .ok (.bipush 114, 2) := by decide +kernel
theorem dL_law_931 : decode cL_law 931 = .ok (.iload 5, 2) := by decide +kernel
theorem dL_law_933 : decode cL_law 933 = .ok (.iconst 2, 1) := by decide +kernel
theorem dL_law_934 : decode cL_law 934 = .ok (.idiv, 1) := by decide +kernel
theorem dL_law_935 : decode cL_law 935 = .ok (.sipush 2000, 3) := by decide +kernel
theorem dL_law_938 : decode cL_law 938 = .ok (.irem, 1) := by decide +kernel
theorem dL_law_939 : decode cL_law 939 = .ok (.invokestatic 261, 3) := by decide +kernel
theorem dL_law_942 : decode cL_law 942 = .ok (.istore 11, 2) := by decide +kernel
theorem dL_law_944 : decode cL_law 944 = .ok (.iload 11, 2) := by decide +kernel
theorem dL_law_946 : decode cL_law 946 = .ok (.ifCond .lt 7, 3) := by decide +kernel
theorem dL_law_949 : decode cL_law 949 = .ok (.iconst 0, 1) := by decide +kernel
theorem dL_law_950 : decode cL_law 950 = .ok (.goto 5, 3) := by decide +kernel
theorem dL_law_953 : decode cL_law 953 = .ok (.iload 11, 2) := by decide +kernel
theorem dL_law_955 : decode cL_law 955 = .ok (.istore 11, 2) := by decide +kernel
theorem dL_law_957 : decode cL_law 957 = .ok (.goto 119, 3) := by decide +kernel
theorem dL_law_960 : decode cL_law 960 = .ok (.iload 12, 2) := by decide +kernel
theorem dL_law_962 : decode cL_law 962 = .ok (.bipush 38, 2) := by decide +kernel
theorem dL_law_964 : decode cL_law 964 = .ok (.if_icmp .ge 50, 3) := by decide +kernel
theorem dL_law_967 : decode cL_law 967 = .ok (.iconst 1, 1) := by decide +kernel
theorem dL_law_968 : decode cL_law 968 = .ok (.iload 5, 2) := by decide +kernel
theorem dL_law_970 : decode cL_law 970 = .ok (.iconst 5, 1) := by decide +kernel
theorem dL_law_971 : decode cL_law 971 = .ok (.idiv, 1) := by decide +kernel
theorem dL_law_972 : decode cL_law 972 = .ok (.iconst 5, 1) := by decide +kernel
theorem dL_law_973 : decode cL_law 973 = .ok (.irem, 1) := by decide +kernel
theorem dL_law_974 : decode cL_law 974 = .ok (.iadd, 1) := by decide +kernel
theorem dL_law_975 : decode cL_law 975 = .ok (.istore 13, 2) := by decide +kernel
theorem dL_law_977 : decode cL_law 977 = .ok (.aload_n 1, 1) := by decide +kernel
theorem dL_law_978 : decode cL_law 978 = .ok (.bipush 114, 2) := by decide +kernel
theorem dL_law_980 : decode cL_law 980 = .ok (.iload 7, 2) := by decide +kernel
theorem dL_law_982 : decode cL_law 982 = .ok (.iload 13, 2) := by decide +kernel
theorem dL_law_984 : decode cL_law 984 = .ok (.invokestatic 178, 3) := by decide +kernel
theorem dL_law_987 : decode cL_law 987 = .ok (.istore 11, 2) := by decide +kernel
theorem dL_law_989 : decode cL_law 989 = .ok (.iload 11, 2) := by decide +kernel
theorem dL_law_991 : decode cL_law 991 = .ok (.ifCond .lt 20, 3) := by decide +kernel
theorem dL_law_994 : decode cL_law 994 = .ok (.aload_n 1, 1) := by decide +kernel
theorem dL_law_995 : decode cL_law 995 = .ok (.bipush 114, 2) := by decide +kernel
theorem dL_law_997 : decode cL_law 997 = .ok (.iload 7, 2) := by decide +kernel
theorem dL_law_999 : decode cL_law 999 = .ok (.iload 13, 2) := by decide +kernel
theorem dL_law_1001 : decode cL_law 1001 = .ok (.invokestatic 178, 3) := by decide +kernel
theorem dL_law_1004 : decode cL_law 1004 = .ok (.iload 13, 2) := by decide +kernel
theorem dL_law_1006 : decode cL_law 1006 = .ok (.if_icmp .eq 5, 3) := by decide +kernel
theorem dL_law_1009 : decode cL_law 1009 = .ok (.iconst 0, 1) := by decide +kernel
theorem dL_law_1010 : decode cL_law 1010 = .ok (.ireturn, 1) := by decide +kernel
theorem dL_law_1011 : decode cL_law 1011 = .ok (.goto 65, 3) := by decide +kernel
theorem dL_law_1014 : decode cL_law 1014 = .ok (.aload_n 1, 1) := by decide +kernel
theorem dL_law_1015 : decode cL_law 1015 = .ok (.bipush 98, 2) := by decide +kernel
theorem dL_law_1017 : decode cL_law 1017 = .ok (.iload 7, 2) := by decide +kernel
theorem dL_law_1019 : decode cL_law 1019 = .ok (.iload 5, 2) := by decide +kernel
theorem dL_law_1021 : decode cL_law 1021 = .ok (.iconst 5, 1) := by decide +kernel
theorem dL_law_1022 : decode cL_law 1022 = .ok (.idiv, 1) := by decide +kernel
theorem dL_law_1023 : decode cL_law 1023 = .ok (.bipush 8, 2) := by decide +kernel
theorem dL_law_1025 : decode cL_law 1025 = .ok (.irem, 1) := by decide +kernel
theorem dL_law_1026 : decode cL_law 1026 = .ok (.invokestatic 178, 3) := by decide +kernel
theorem dL_law_1029 : decode cL_law 1029 = .ok (.istore 11, 2) := by decide +kernel
theorem dL_law_1031 : decode cL_law 1031 = .ok (.iload 11, 2) := by decide +kernel
theorem dL_law_1033 : decode cL_law 1033 = .ok (.ifCond .lt 43, 3) := by decide +kernel
theorem dL_law_1036 : decode cL_law 1036 = .ok (.aload_n 1, 1) := by decide +kernel
theorem dL_law_1037 : decode cL_law 1037 = .ok (.bipush 111, 2) := by decide +kernel
theorem dL_law_1039 : decode cL_law 1039 = .ok (.iload 7, 2) := by decide +kernel
theorem dL_law_1041 : decode cL_law 1041 = .ok (.iload 5, 2) := by decide +kernel
theorem dL_law_1043 : decode cL_law 1043 = .ok (.iconst 5, 1) := by decide +kernel
theorem dL_law_1044 : decode cL_law 1044 = .ok (.idiv, 1) := by decide +kernel
theorem dL_law_1045 : decode cL_law 1045 = .ok (.bipush 8, 2) := by decide +kernel
theorem dL_law_1047 : decode cL_law 1047 = .ok (.irem, 1) := by decide +kernel
theorem dL_law_1048 : decode cL_law 1048 = .ok (.invokestatic 178, 3) := by decide +kernel
theorem dL_law_1051 : decode cL_law 1051 = .ok (.iconst 1, 1) := by decide +kernel
theorem dL_law_1052 : decode cL_law 1052 = .ok (.if_icmp .ne 22, 3) := by decide +kernel
theorem dL_law_1055 : decode cL_law 1055 = .ok (.aload_n 1, 1) := by decide +kernel
theorem dL_law_1056 : decode cL_law 1056 = .ok (.bipush 117, 2) := by decide +kernel
theorem dL_law_1058 : decode cL_law 1058 = .ok (.iload 7, 2) := by decide +kernel
theorem dL_law_1060 : decode cL_law 1060 = .ok (.iload 5, 2) := by decide +kernel
theorem dL_law_1062 : decode cL_law 1062 = .ok (.iconst 5, 1) := by decide +kernel
theorem dL_law_1063 : decode cL_law 1063 = .ok (.idiv, 1) := by decide +kernel
theorem dL_law_1064 : decode cL_law 1064 = .ok (.bipush 8, 2) := by decide +kernel
theorem dL_law_1066 : decode cL_law 1066 = .ok (.irem, 1) := by decide +kernel
theorem dL_law_1067 : decode cL_law 1067 = .ok (.invokestatic 178, 3) := by decide +kernel
theorem dL_law_1070 : decode cL_law 1070 = .ok (.iconst 1, 1) := by decide +kernel
theorem dL_law_1071 : decode cL_law 1071 = .ok (.if_icmp .eq 5, 3) := by decide +kernel
theorem dL_law_1074 : decode cL_law 1074 = .ok (.iconst 0, 1) := by decide +kernel
theorem dL_law_1075 : decode cL_law 1075 = .ok (.ireturn, 1) := by decide +kernel
theorem dL_law_1076 : decode cL_law 1076 = .ok (.iload 11, 2) := by decide +kernel
theorem dL_law_1078 : decode cL_law 1078 = .ok (.sipush (-1000), 3) := by decide +kernel
theorem dL_law_1081 : decode cL_law 1081 = .ok (.if_icmp .ge 18, 3) := by decide +kernel
theorem dL_law_1084 : decode cL_law 1084 = .ok (.iload 8, 2) := by decide +kernel
theorem dL_law_1086 : decode cL_law 1086 = .ok (.ifCond .eq 13, 3) := by decide +kernel
theorem dL_law_1089 : decode cL_law 1089 = .ok (.aload_n 1, 1) := by decide +kernel
theorem dL_law_1090 : decode cL_law 1090 = .ok (.invokestatic 249, 3) := by decide +kernel
theorem dL_law_1093 : decode cL_law 1093 = .ok (.lload 9, 2) := by decide +kernel
theorem dL_law_1095 : decode cL_law 1095 = .ok (.lcmp, 1) := by decide +kernel
end
section
theorem dL_law_1096 : decode cL_law 1096 = .ok (.ifCond .ne 19, 3) := by decide +kernel
theorem dL_law_1099 : decode cL_law 1099 = .ok (.iload_n 3, 1) := by decide +kernel
theorem dL_law_1100 : decode cL_law 1100 = .ok (.bipush 7, 2) := by decide +kernel
theorem dL_law_1102 : decode cL_law 1102 = .ok (.irem, 1) := by decide +kernel
theorem dL_law_1103 : decode cL_law 1103 = .ok (.bipush 6, 2) := by decide +kernel
theorem dL_law_1105 : decode cL_law 1105 = .ok (.if_icmp .ne 12, 3) := by decide +kernel
theorem dL_law_1108 : decode cL_law 1108 = .ok (.aload_n 1, 1) := by decide +kernel
theorem dL_law_1109 : decode cL_law 1109 = .ok (.invokestatic 265, 3) := by decide +kernel
theorem dL_law_1112 : decode cL_law 1112 = .ok (.ifCond .ne 5, 3) := by decide +kernel
theorem dL_law_1115 : decode cL_law 1115 = .ok (.iconst 0, 1) := by decide +kernel
theorem dL_law_1116 : decode cL_law 1116 = .ok (.ireturn, 1) := by decide +kernel
theorem dL_law_1117 : decode cL_law 1117 = .ok (.iinc 3 1, 3) := by decide +kernel
theorem dL_law_1120 : decode cL_law 1120 = .ok (.goto (-1099), 3) := by decide +kernel
theorem dL_law_1123 : decode cL_law 1123 = .ok (.aload_n 1, 1) := by decide +kernel
theorem dL_law_1124 : decode cL_law 1124 = .ok (.invokestatic 265, 3) := by decide +kernel
theorem dL_law_1127 : decode cL_law 1127 = .ok (.ifCond .ne 5, 3) := by decide +kernel
theorem dL_law_1130 : decode cL_law 1130 = .ok (.iconst 0, 1) := by decide +kernel
theorem dL_law_1131 : decode cL_law 1131 = .ok (.ireturn, 1) := by decide +kernel
theorem dL_law_1132 : decode cL_law 1132 = .ok (.aload_n 1, 1) := by decide +kernel
theorem dL_law_1133 : decode cL_law 1133 = .ok (.invokestatic 249, 3) := by decide +kernel
theorem dL_law_1136 : decode cL_law 1136 = .ok (.lstore_n 3, 1) := by decide +kernel
theorem dL_law_1137 : decode cL_law 1137 = .ok (.aload_n 1, 1) := by decide +kernel
theorem dL_law_1138 : decode cL_law 1138 = .ok (.invokestatic 182, 3) := by decide +kernel
theorem dL_law_1141 : decode cL_law 1141 = .ok (.istore 5, 2) := by decide +kernel
theorem dL_law_1143 : decode cL_law 1143 = .ok (.aload_n 1, 1) := by decide +kernel
theorem dL_law_1144 : decode cL_law 1144 = .ok (.invokestatic 186, 3) := by decide +kernel
theorem dL_law_1147 : decode cL_law 1147 = .ok (.istore 6, 2) := by decide +kernel
theorem dL_law_1149 : decode cL_law 1149 = .ok (.aload_n 1, 1) := by decide +kernel
theorem dL_law_1150 : decode cL_law 1150 = .ok (.invokevirtual 194, 3) := by decide +kernel
theorem dL_law_1153 : decode cL_law 1153 = .ok (.istore 7, 2) := by decide +kernel
theorem dL_law_1155 : decode cL_law 1155 = .ok (.aload_n 1, 1) := by decide +kernel
theorem dL_law_1156 : decode cL_law 1156 = .ok (.bipush 100, 2) := by decide +kernel
theorem dL_law_1158 : decode cL_law 1158 = .ok (.bipush 6, 2) := by decide +kernel
theorem dL_law_1160 : decode cL_law 1160 = .ok (.iconst 0, 1) := by decide +kernel
theorem dL_law_1161 : decode cL_law 1161 = .ok (.iconst 0, 1) := by decide +kernel
theorem dL_law_1162 : decode cL_law 1162 = .ok (.invokestatic 253, 3) := by decide +kernel
theorem dL_law_1165 : decode cL_law 1165 = .ok (.sipush (-1002), 3) := by decide +kernel
theorem dL_law_1168 : decode cL_law 1168 = .ok (.if_icmp .ne 421, 3) := by decide +kernel
theorem dL_law_1171 : decode cL_law 1171 = .ok (.aload_n 1, 1) := by decide +kernel
theorem dL_law_1172 : decode cL_law 1172 = .ok (.bipush 100, 2) := by decide +kernel
theorem dL_law_1174 : decode cL_law 1174 = .ok (.iconst 0, 1) := by decide +kernel
theorem dL_law_1175 : decode cL_law 1175 = .ok (.iconst 3, 1) := by decide +kernel
theorem dL_law_1176 : decode cL_law 1176 = .ok (.iconst 0, 1) := by decide +kernel
theorem dL_law_1177 : decode cL_law 1177 = .ok (.invokestatic 253, 3) := by decide +kernel
theorem dL_law_1180 : decode cL_law 1180 = .ok (.sipush (-1002), 3) := by decide +kernel
theorem dL_law_1183 : decode cL_law 1183 = .ok (.if_icmp .ne 406, 3) := by decide +kernel
theorem dL_law_1186 : decode cL_law 1186 = .ok (.aload_n 1, 1) := by decide +kernel
theorem dL_law_1187 : decode cL_law 1187 = .ok (.bipush 100, 2) := by decide +kernel
theorem dL_law_1189 : decode cL_law 1189 = .ok (.iconst 0, 1) := by decide +kernel
theorem dL_law_1190 : decode cL_law 1190 = .ok (.iconst 0, 1) := by decide +kernel
theorem dL_law_1191 : decode cL_law 1191 = .ok (.bipush 100, 2) := by decide +kernel
theorem dL_law_1193 : decode cL_law 1193 = .ok (.invokestatic 253, 3) := by decide +kernel
theorem dL_law_1196 : decode cL_law 1196 = .ok (.sipush (-1002), 3) := by decide +kernel
theorem dL_law_1199 : decode cL_law 1199 = .ok (.if_icmp .ne 390, 3) := by decide +kernel
theorem dL_law_1202 : decode cL_law 1202 = .ok (.aload_n 1, 1) := by decide +kernel
theorem dL_law_1203 : decode cL_law 1203 = .ok (.bipush 6, 2) := by decide +kernel
theorem dL_law_1205 : decode cL_law 1205 = .ok (.newarray .int, 2) := by decide +kernel
theorem dL_law_1207 : decode cL_law 1207 = .ok (.dup, 1) := by decide +kernel
theorem dL_law_1208 : decode cL_law 1208 = .ok (.iconst 0, 1) := by decide +kernel
theorem dL_law_1209 : decode cL_law 1209 = .ok (.iconst 0, 1) := by decide +kernel
theorem dL_law_1210 : decode cL_law 1210 = .ok (.iastore, 1) := by decide +kernel
theorem dL_law_1211 : decode cL_law 1211 = .ok (.dup, 1) := by decide +kernel
theorem dL_law_1212 : decode cL_law 1212 = .ok (.iconst 1, 1) := by decide +kernel
theorem dL_law_1213 : decode cL_law 1213 = .ok (.iconst 1, 1) := by decide +kernel
theorem dL_law_1214 : decode cL_law 1214 = .ok (.iastore, 1) := by decide +kernel
theorem dL_law_1215 : decode cL_law 1215 = .ok (.dup, 1) := by decide +kernel
theorem dL_law_1216 : decode cL_law 1216 = .ok (.iconst 2, 1) := by decide +kernel
theorem dL_law_1217 : decode cL_law 1217 = .ok (.iconst 1, 1) := by decide +kernel
theorem dL_law_1218 : decode cL_law 1218 = .ok (.iastore, 1) := by decide +kernel
theorem dL_law_1219 : decode cL_law 1219 = .ok (.dup, 1) := by decide +kernel
theorem dL_law_1220 : decode cL_law 1220 = .ok (.iconst 3, 1) := by decide +kernel
theorem dL_law_1221 : decode cL_law 1221 = .ok (.iconst 1, 1) := by decide +kernel
theorem dL_law_1222 : decode cL_law 1222 = .ok (.iastore, 1) := by decide +kernel
theorem dL_law_1223 : decode cL_law 1223 = .ok (.dup, 1) := by decide +kernel
theorem dL_law_1224 : decode cL_law 1224 = .ok (.iconst 4, 1) := by decide +kernel
theorem dL_law_1225 : decode cL_law 1225 = .ok (.iconst 0, 1) := by decide +kernel
theorem dL_law_1226 : decode cL_law 1226 = .ok (.iastore, 1) := by decide +kernel
theorem dL_law_1227 : decode cL_law 1227 = .ok (.dup, 1) := by decide +kernel
theorem dL_law_1228 : decode cL_law 1228 = .ok (.iconst 5, 1) := by decide +kernel
theorem dL_law_1229 : decode cL_law 1229 = .ok (.iconst 0, 1) := by decide +kernel
theorem dL_law_1230 : decode cL_law 1230 = .ok (.iastore, 1) := by decide +kernel
theorem dL_law_1231 : decode cL_law 1231 = .ok (.invokestatic 257, 3) := by decide +kernel
theorem dL_law_1234 : decode cL_law 1234 = .ok (.sipush (-1002), 3) := by decide +kernel
theorem dL_law_1237 : decode cL_law 1237 = .ok (.if_icmp .ne 352, 3) := by decide +kernel
theorem dL_law_1240 : decode cL_law 1240 = .ok (.aload_n 1, 1) := by decide +kernel
theorem dL_law_1241 : decode cL_law 1241 = .ok (.bipush 6, 2) := by decide +kernel
theorem dL_law_1243 : decode cL_law 1243 = .ok (.newarray .int, 2) := by decide +kernel
theorem dL_law_1245 : decode cL_law 1245 = .ok (.dup, 1) := by decide +kernel
theorem dL_law_1246 : decode cL_law 1246 = .ok (.iconst 0, 1) := by decide +kernel
theorem dL_law_1247 : decode cL_law 1247 = .ok (.sipush 999, 3) := by decide +kernel
theorem dL_law_1250 : decode cL_law 1250 = .ok (.iastore, 1) := by decide +kernel
theorem dL_law_1251 : decode cL_law 1251 = .ok (.dup, 1) := by decide +kernel
theorem dL_law_1252 : decode cL_law 1252 = .ok (.iconst 1, 1) := by decide +kernel
theorem dL_law_1253 : decode cL_law 1253 = .ok (.bipush 64, 2) := by decide +kernel
theorem dL_law_1255 : decode cL_law 1255 = .ok (.iastore, 1) := by decide +kernel
theorem dL_law_1256 : decode cL_law 1256 = .ok (.dup, 1) := by decide +kernel
theorem dL_law_1257 : decode cL_law 1257 = .ok (.iconst 2, 1) := by decide +kernel
theorem dL_law_1258 : decode cL_law 1258 = .ok (.iconst 1, 1) := by decide +kernel
theorem dL_law_1259 : decode cL_law 1259 = .ok (.iastore, 1) := by decide +kernel
theorem dL_law_1260 : decode cL_law 1260 = .ok (.dup, 1) := by decide +kernel
theorem dL_law_1261 : decode cL_law 1261 = .ok (.iconst 3, 1) := by decide +kernel
theorem dL_law_1262 : decode cL_law 1262 = .ok (.iconst 1, 1) := by decide +kernel
theorem dL_law_1263 : decode cL_law 1263 = .ok (.iastore, 1) := by decide +kernel
theorem dL_law_1264 : decode cL_law 1264 = .ok (.dup, 1) := by decide +kernel
theorem dL_law_1265 : decode cL_law 1265 = .ok (.iconst 4, 1) := by decide +kernel
theorem dL_law_1266 : decode cL_law 1266 = .ok (.iconst 0, 1) := by decide +kernel
theorem dL_law_1267 : decode cL_law 1267 = .ok (.iastore, 1) := by decide +kernel
theorem dL_law_1268 : decode cL_law 1268 = .ok (.dup, 1) := by decide +kernel
theorem dL_law_1269 : decode cL_law 1269 = .ok (.iconst 5, 1) := by decide +kernel
theorem dL_law_1270 : decode cL_law 1270 = .ok (.iconst 0, 1) := by decide +kernel
theorem dL_law_1271 : decode cL_law 1271 = .ok (.iastore, 1) := by decide +kernel
theorem dL_law_1272 : decode cL_law 1272 = .ok (.invokestatic 257, 3) := by decide +kernel
theorem dL_law_1275 : decode cL_law 1275 = .ok (.sipush (-1002), 3) := by decide +kernel
theorem dL_law_1278 : decode cL_law 1278 = .ok (.if_icmp .ne 311, 3) := by decide +kernel
theorem dL_law_1281 : decode cL_law 1281 = .ok (.aload_n 1, 1) := by decide +kernel
theorem dL_law_1282 : decode cL_law 1282 = .ok (.bipush 6, 2) := by decide +kernel
theorem dL_law_1284 : decode cL_law 1284 = .ok (.newarray .int, 2) := by decide +kernel
theorem dL_law_1286 : decode cL_law 1286 = .ok (.dup, 1) := by decide +kernel
theorem dL_law_1287 : decode cL_law 1287 = .ok (.iconst 0, 1) := by decide +kernel
theorem dL_law_1288 : decode cL_law 1288 = .ok (.sipush 999, 3) := by decide +kernel
theorem dL_law_1291 : decode cL_law 1291 = .ok (.iastore, 1) := by decide +kernel
theorem dL_law_1292 : decode cL_law 1292 = .ok (.dup, 1) := by decide +kernel
theorem dL_law_1293 : decode cL_law 1293 = .ok (.iconst 1, 1) := by decide +kernel
theorem dL_law_1294 : decode cL_law 1294 = .ok (.iconst 1, 1) := by decide +kernel
theorem dL_law_1295 : decode cL_law 1295 = .ok (.iastore, 1) := by decide +kernel
theorem dL_law_1296 : decode cL_law 1296 = .ok (.dup, 1) := by decide +kernel
theorem dL_law_1297 : decode cL_law 1297 = .ok (.iconst 2, 1) := by decide +kernel
theorem dL_law_1298 : decode cL_law 1298 = .ok (.bipush 8, 2) := by decide +kernel
theorem dL_law_1300 : decode cL_law 1300 = .ok (.iastore, 1) := by decide +kernel
theorem dL_law_1301 : decode cL_law 1301 = .ok (.dup, 1) := by decide +kernel
theorem dL_law_1302 : decode cL_law 1302 = .ok (.iconst 3, 1) := by decide +kernel
theorem dL_law_1303 : decode cL_law 1303 = .ok (.iconst 1, 1) := by decide +kernel
theorem dL_law_1304 : decode cL_law 1304 = .ok (.iastore, 1) := by decide +kernel
theorem dL_law_1305 : decode cL_law 1305 = .ok (.dup, 1) := by decide +kernel
theorem dL_law_1306 : decode cL_law 1306 = .ok (.iconst 4, 1) := by decide +kernel
theorem dL_law_1307 : decode cL_law 1307 = .ok (.iconst 0, 1) := by decide +kernel
theorem dL_law_1308 : decode cL_law 1308 = .ok (.iastore, 1) := by decide +kernel
theorem dL_law_1309 : decode cL_law 1309 = .ok (.dup, 1) := by decide +kernel
theorem dL_law_1310 : decode cL_law 1310 = .ok (.iconst 5, 1) := by decide +kernel
theorem dL_law_1311 : decode cL_law 1311 = .ok (.iconst 0, 1) := by decide +kernel
theorem dL_law_1312 : decode cL_law 1312 = .ok (.iastore, 1) := by decide +kernel
theorem dL_law_1313 : decode cL_law 1313 = .ok (.invokestatic 257, 3) := by decide +kernel
theorem dL_law_1316 : decode cL_law 1316 = .ok (.sipush (-1002), 3) := by decide +kernel
theorem dL_law_1319 : decode cL_law 1319 = .ok (.if_icmp .ne 270, 3) := by decide +kernel
theorem dL_law_1322 : decode cL_law 1322 = .ok (.aload_n 1, 1) := by decide +kernel
theorem dL_law_1323 : decode cL_law 1323 = .ok (.bipush 6, 2) := by decide +kernel
theorem dL_law_1325 : decode cL_law 1325 = .ok (.newarray .int, 2) := by decide +kernel
theorem dL_law_1327 : decode cL_law 1327 = .ok (.dup, 1) := by decide +kernel
theorem dL_law_1328 : decode cL_law 1328 = .ok (.iconst 0, 1) := by decide +kernel
theorem dL_law_1329 : decode cL_law 1329 = .ok (.sipush 999, 3) := by decide +kernel
theorem dL_law_1332 : decode cL_law 1332 = .ok (.iastore, 1) := by decide +kernel
theorem dL_law_1333 : decode cL_law 1333 = .ok (.dup, 1) := by decide +kernel
theorem dL_law_1334 : decode cL_law 1334 = .ok (.iconst 1, 1) := by decide +kernel
theorem dL_law_1335 : decode cL_law 1335 = .ok (.iconst 1, 1) := by decide +kernel
theorem dL_law_1336 : decode cL_law 1336 = .ok (.iastore, 1) := by decide +kernel
theorem dL_law_1337 : decode cL_law 1337 = .ok (.dup, 1) := by decide +kernel
theorem dL_law_1338 : decode cL_law 1338 = .ok (.iconst 2, 1) := by decide +kernel
theorem dL_law_1339 : decode cL_law 1339 = .ok (.iconst 1, 1) := by decide +kernel
theorem dL_law_1340 : decode cL_law 1340 = .ok (.iastore, 1) := by decide +kernel
theorem dL_law_1341 : decode cL_law 1341 = .ok (.dup, 1) := by decide +kernel
theorem dL_law_1342 : decode cL_law 1342 = .ok (.iconst 3, 1) := by decide +kernel
theorem dL_law_1343 : decode cL_law 1343 = .ok (.sipush 501, 3) := by decide +kernel
theorem dL_law_1346 : decode cL_law 1346 = .ok (.iastore, 1) := by decide +kernel
theorem dL_law_1347 : decode cL_law 1347 = .ok (.dup, 1) := by decide +kernel
theorem dL_law_1348 : decode cL_law 1348 = .ok (.iconst 4, 1) := by decide +kernel
theorem dL_law_1349 : decode cL_law 1349 = .ok (.iconst 0, 1) := by decide +kernel
theorem dL_law_1350 : decode cL_law 1350 = .ok (.iastore, 1) := by decide +kernel
theorem dL_law_1351 : decode cL_law 1351 = .ok (.dup, 1) := by decide +kernel
theorem dL_law_1352 : decode cL_law 1352 = .ok (.iconst 5, 1) := by decide +kernel
theorem dL_law_1353 : decode cL_law 1353 = .ok (.iconst 0, 1) := by decide +kernel
theorem dL_law_1354 : decode cL_law 1354 = .ok (.iastore, 1) := by decide +kernel
theorem dL_law_1355 : decode cL_law 1355 = .ok (.invokestatic 257, 3) := by decide +kernel
theorem dL_law_1358 : decode cL_law 1358 = .ok (.sipush (-1002), 3) := by decide +kernel
theorem dL_law_1361 : decode cL_law 1361 = .ok (.if_icmp .ne 228, 3) := by decide +kernel
theorem dL_law_1364 : decode cL_law 1364 = .ok (.aload_n 1, 1) := by decide +kernel
theorem dL_law_1365 : decode cL_law 1365 = .ok (.bipush 6, 2) := by decide +kernel
theorem dL_law_1367 : decode cL_law 1367 = .ok (.newarray .int, 2) := by decide +kernel
theorem dL_law_1369 : decode cL_law 1369 = .ok (.dup, 1) := by decide +kernel
theorem dL_law_1370 : decode cL_law 1370 = .ok (.iconst 0, 1) := by decide +kernel
theorem dL_law_1371 : decode cL_law 1371 = .ok (.sipush 999, 3) := by decide +kernel
theorem dL_law_1374 : decode cL_law 1374 = .ok (.iastore, 1) := by decide +kernel
theorem dL_law_1375 : decode cL_law 1375 = .ok (.dup, 1) := by decide +kernel
theorem dL_law_1376 : decode cL_law 1376 = .ok (.iconst 1, 1) := by decide +kernel
theorem dL_law_1377 : decode cL_law 1377 = .ok (.iconst 1, 1) := by decide +kernel
theorem dL_law_1378 : decode cL_law 1378 = .ok (.iastore, 1) := by decide +kernel
theorem dL_law_1379 : decode cL_law 1379 = .ok (.dup, 1) := by decide +kernel
theorem dL_law_1380 : decode cL_law 1380 = .ok (.iconst 2, 1) := by decide +kernel
theorem dL_law_1381 : decode cL_law 1381 = .ok (.iconst 1, 1) := by decide +kernel
theorem dL_law_1382 : decode cL_law 1382 = .ok (.iastore, 1) := by decide +kernel
theorem dL_law_1383 : decode cL_law 1383 = .ok (.dup, 1) := by decide +kernel
theorem dL_law_1384 : decode cL_law 1384 = .ok (.iconst 3, 1) := by decide +kernel
theorem dL_law_1385 : decode cL_law 1385 = .ok (.iconst 1, 1) := by decide +kernel
theorem dL_law_1386 : decode cL_law 1386 = .ok (.iastore, 1) := by decide +kernel
theorem dL_law_1387 : decode cL_law 1387 = .ok (.dup, 1) := by decide +kernel
theorem dL_law_1388 : decode cL_law 1388 = .ok (.iconst 4, 1) := by decide +kernel
theorem dL_law_1389 : decode cL_law 1389 = .ok (.bipush 16, 2) := by decide +kernel
theorem dL_law_1391 : decode cL_law 1391 = .ok (.iastore, 1) := by decide +kernel
theorem dL_law_1392 : decode cL_law 1392 = .ok (.dup, 1) := by decide +kernel
theorem dL_law_1393 : decode cL_law 1393 = .ok (.iconst 5, 1) := by decide +kernel
theorem dL_law_1394 : decode cL_law 1394 = .ok (.iconst 0, 1) := by decide +kernel
end
section
theorem dL_law_1395 : decode cL_law 1395 = .ok (.iastore, 1) := by decide +kernel
theorem dL_law_1396 : decode cL_law 1396 = .ok (.invokestatic 257, 3) := by decide +kernel
theorem dL_law_1399 : decode cL_law 1399 = .ok (.sipush (-1002), 3) := by decide +kernel
theorem dL_law_1402 : decode cL_law 1402 = .ok (.if_icmp .ne 187, 3) := by decide +kernel
theorem dL_law_1405 : decode cL_law 1405 = .ok (.aload_n 1, 1) := by decide +kernel
theorem dL_law_1406 : decode cL_law 1406 = .ok (.bipush 6, 2) := by decide +kernel
theorem dL_law_1408 : decode cL_law 1408 = .ok (.newarray .int, 2) := by decide +kernel
theorem dL_law_1410 : decode cL_law 1410 = .ok (.dup, 1) := by decide +kernel
theorem dL_law_1411 : decode cL_law 1411 = .ok (.iconst 0, 1) := by decide +kernel
theorem dL_law_1412 : decode cL_law 1412 = .ok (.sipush 999, 3) := by decide +kernel
theorem dL_law_1415 : decode cL_law 1415 = .ok (.iastore, 1) := by decide +kernel
theorem dL_law_1416 : decode cL_law 1416 = .ok (.dup, 1) := by decide +kernel
theorem dL_law_1417 : decode cL_law 1417 = .ok (.iconst 1, 1) := by decide +kernel
theorem dL_law_1418 : decode cL_law 1418 = .ok (.iconst 1, 1) := by decide +kernel
theorem dL_law_1419 : decode cL_law 1419 = .ok (.iastore, 1) := by decide +kernel
theorem dL_law_1420 : decode cL_law 1420 = .ok (.dup, 1) := by decide +kernel
theorem dL_law_1421 : decode cL_law 1421 = .ok (.iconst 2, 1) := by decide +kernel
theorem dL_law_1422 : decode cL_law 1422 = .ok (.iconst 1, 1) := by decide +kernel
theorem dL_law_1423 : decode cL_law 1423 = .ok (.iastore, 1) := by decide +kernel
theorem dL_law_1424 : decode cL_law 1424 = .ok (.dup, 1) := by decide +kernel
theorem dL_law_1425 : decode cL_law 1425 = .ok (.iconst 3, 1) := by decide +kernel
theorem dL_law_1426 : decode cL_law 1426 = .ok (.iconst 1, 1) := by decide +kernel
theorem dL_law_1427 : decode cL_law 1427 = .ok (.iastore, 1) := by decide +kernel
theorem dL_law_1428 : decode cL_law 1428 = .ok (.dup, 1) := by decide +kernel
theorem dL_law_1429 : decode cL_law 1429 = .ok (.iconst 4, 1) := by decide +kernel
theorem dL_law_1430 : decode cL_law 1430 = .ok (.iconst 0, 1) := by decide +kernel
theorem dL_law_1431 : decode cL_law 1431 = .ok (.iastore, 1) := by decide +kernel
theorem dL_law_1432 : decode cL_law 1432 = .ok (.dup, 1) := by decide +kernel
theorem dL_law_1433 : decode cL_law 1433 = .ok (.iconst 5, 1) := by decide +kernel
theorem dL_law_1434 : decode cL_law 1434 = .ok (.sipush 256, 3) := by decide +kernel
theorem dL_law_1437 : decode cL_law 1437 = .ok (.iastore, 1) := by decide +kernel
theorem dL_law_1438 : decode cL_law 1438 = .ok (.invokestatic 257, 3) := by decide +kernel
theorem dL_law_1441 : decode cL_law 1441 = .ok (.sipush (-1002), 3) := by decide +kernel
theorem dL_law_1444 : decode cL_law 1444 = .ok (.if_icmp .ne 145, 3) := by decide +kernel
theorem dL_law_1447 : decode cL_law 1447 = .ok (.aload_n 1, 1) := by decide +kernel
theorem dL_law_1448 : decode cL_law 1448 = .ok (.iconst 4, 1) := by decide +kernel
theorem dL_law_1449 : decode cL_law 1449 = .ok (.newarray .int, 2) := by decide +kernel
theorem dL_law_1451 : decode cL_law 1451 = .ok (.dup, 1) := by decide +kernel
theorem dL_law_1452 : decode cL_law 1452 = .ok (.iconst 0, 1) := by decide +kernel
theorem dL_law_1453 : decode cL_law 1453 = .ok (.iload 5, 2) := by decide +kernel
theorem dL_law_1455 : decode cL_law 1455 = .ok (.iastore, 1) := by decide +kernel
theorem dL_law_1456 : decode cL_law 1456 = .ok (.dup, 1) := by decide +kernel
theorem dL_law_1457 : decode cL_law 1457 = .ok (.iconst 1, 1) := by decide +kernel
theorem dL_law_1458 : decode cL_law 1458 = .ok (.iconst 0, 1) := by decide +kernel
theorem dL_law_1459 : decode cL_law 1459 = .ok (.iastore, 1) := by decide +kernel
theorem dL_law_1460 : decode cL_law 1460 = .ok (.dup, 1) := by decide +kernel
theorem dL_law_1461 : decode cL_law 1461 = .ok (.iconst 2, 1) := by decide +kernel
theorem dL_law_1462 : decode cL_law 1462 = .ok (.iconst 0, 1) := by decide +kernel
theorem dL_law_1463 : decode cL_law 1463 = .ok (.iastore, 1) := by decide +kernel
theorem dL_law_1464 : decode cL_law 1464 = .ok (.dup, 1) := by decide +kernel
theorem dL_law_1465 : decode cL_law 1465 = .ok (.iconst 3, 1) := by decide +kernel
theorem dL_law_1466 : decode cL_law 1466 = .ok (.iconst 0, 1) := by decide +kernel
theorem dL_law_1467 : decode cL_law 1467 = .ok (.iastore, 1) := by decide +kernel
theorem dL_law_1468 : decode cL_law 1468 = .ok (.invokestatic 257, 3) := by decide +kernel
theorem dL_law_1471 : decode cL_law 1471 = .ok (.sipush (-1001), 3) := by decide +kernel
theorem dL_law_1474 : decode cL_law 1474 = .ok (.if_icmp .ne 115, 3) := by decide +kernel
theorem dL_law_1477 : decode cL_law 1477 = .ok (.iload 5, 2) := by decide +kernel
theorem dL_law_1479 : decode cL_law 1479 = .ok (.ifCond .le 32, 3) := by decide +kernel
theorem dL_law_1482 : decode cL_law 1482 = .ok (.aload_n 1, 1) := by decide +kernel
theorem dL_law_1483 : decode cL_law 1483 = .ok (.iconst 4, 1) := by decide +kernel
theorem dL_law_1484 : decode cL_law 1484 = .ok (.newarray .int, 2) := by decide +kernel
theorem dL_law_1486 : decode cL_law 1486 = .ok (.dup, 1) := by decide +kernel
theorem dL_law_1487 : decode cL_law 1487 = .ok (.iconst 0, 1) := by decide +kernel
theorem dL_law_1488 : decode cL_law 1488 = .ok (.iconst 0, 1) := by decide +kernel
theorem dL_law_1489 : decode cL_law 1489 = .ok (.iastore, 1) := by decide +kernel
theorem dL_law_1490 : decode cL_law 1490 = .ok (.dup, 1) := by decide +kernel
theorem dL_law_1491 : decode cL_law 1491 = .ok (.iconst 1, 1) := by decide +kernel
theorem dL_law_1492 : decode cL_law 1492 = .ok (.iconst 0, 1) := by decide +kernel
theorem dL_law_1493 : decode cL_law 1493 = .ok (.iastore, 1) := by decide +kernel
theorem dL_law_1494 : decode cL_law 1494 = .ok (.dup, 1) := by decide +kernel
theorem dL_law_1495 : decode cL_law 1495 = .ok (.iconst 2, 1) := by decide +kernel
theorem dL_law_1496 : decode cL_law 1496 = .ok (.iconst 1, 1) := by decide +kernel
theorem dL_law_1497 : decode cL_law 1497 = .ok (.iastore, 1) := by decide +kernel
theorem dL_law_1498 : decode cL_law 1498 = .ok (.dup, 1) := by decide +kernel
theorem dL_law_1499 : decode cL_law 1499 = .ok (.iconst 3, 1) := by decide +kernel
theorem dL_law_1500 : decode cL_law 1500 = .ok (.iconst 0, 1) := by decide +kernel
theorem dL_law_1501 : decode cL_law 1501 = .ok (.iastore, 1) := by decide +kernel
theorem dL_law_1502 : decode cL_law 1502 = .ok (.invokestatic 257, 3) := by decide +kernel
theorem dL_law_1505 : decode cL_law 1505 = .ok (.sipush (-1002), 3) := by decide +kernel
theorem dL_law_1508 : decode cL_law 1508 = .ok (.if_icmp .ne 81, 3) := by decide +kernel
theorem dL_law_1511 : decode cL_law 1511 = .ok (.aload_n 1, 1) := by decide +kernel
theorem dL_law_1512 : decode cL_law 1512 = .ok (.bipush 115, 2) := by decide +kernel
theorem dL_law_1514 : decode cL_law 1514 = .ok (.iload 5, 2) := by decide +kernel
theorem dL_law_1516 : decode cL_law 1516 = .ok (.iconst 0, 1) := by decide +kernel
theorem dL_law_1517 : decode cL_law 1517 = .ok (.iconst 0, 1) := by decide +kernel
theorem dL_law_1518 : decode cL_law 1518 = .ok (.invokestatic 253, 3) := by decide +kernel
theorem dL_law_1521 : decode cL_law 1521 = .ok (.sipush (-1001), 3) := by decide +kernel
theorem dL_law_1524 : decode cL_law 1524 = .ok (.if_icmp .ne 65, 3) := by decide +kernel
theorem dL_law_1527 : decode cL_law 1527 = .ok (.iload 5, 2) := by decide +kernel
theorem dL_law_1529 : decode cL_law 1529 = .ok (.ifCond .le 18, 3) := by decide +kernel
theorem dL_law_1532 : decode cL_law 1532 = .ok (.aload_n 1, 1) := by decide +kernel
theorem dL_law_1533 : decode cL_law 1533 = .ok (.bipush 115, 2) := by decide +kernel
theorem dL_law_1535 : decode cL_law 1535 = .ok (.iconst 0, 1) := by decide +kernel
theorem dL_law_1536 : decode cL_law 1536 = .ok (.iconst 0, 1) := by decide +kernel
theorem dL_law_1537 : decode cL_law 1537 = .ok (.iconst 0, 1) := by decide +kernel
theorem dL_law_1538 : decode cL_law 1538 = .ok (.invokestatic 253, 3) := by decide +kernel
theorem dL_law_1541 : decode cL_law 1541 = .ok (.sipush (-1002), 3) := by decide +kernel
theorem dL_law_1544 : decode cL_law 1544 = .ok (.if_icmp .ne 45, 3) := by decide +kernel
theorem dL_law_1547 : decode cL_law 1547 = .ok (.iload 5, 2) := by decide +kernel
theorem dL_law_1549 : decode cL_law 1549 = .ok (.ifCond .le 19, 3) := by decide +kernel
theorem dL_law_1552 : decode cL_law 1552 = .ok (.aload_n 1, 1) := by decide +kernel
theorem dL_law_1553 : decode cL_law 1553 = .ok (.bipush 115, 2) := by decide +kernel
theorem dL_law_1555 : decode cL_law 1555 = .ok (.iconst 0, 1) := by decide +kernel
theorem dL_law_1556 : decode cL_law 1556 = .ok (.bipush 101, 2) := by decide +kernel
theorem dL_law_1558 : decode cL_law 1558 = .ok (.iconst 0, 1) := by decide +kernel
theorem dL_law_1559 : decode cL_law 1559 = .ok (.invokestatic 253, 3) := by decide +kernel
theorem dL_law_1562 : decode cL_law 1562 = .ok (.sipush (-1002), 3) := by decide +kernel
theorem dL_law_1565 : decode cL_law 1565 = .ok (.if_icmp .ne 24, 3) := by decide +kernel
theorem dL_law_1568 : decode cL_law 1568 = .ok (.iload 5, 2) := by decide +kernel
theorem dL_law_1570 : decode cL_law 1570 = .ok (.ifCond .le 21, 3) := by decide +kernel
theorem dL_law_1573 : decode cL_law 1573 = .ok (.aload_n 1, 1) := by decide +kernel
theorem dL_law_1574 : decode cL_law 1574 = .ok (.bipush 115, 2) := by decide +kernel
theorem dL_law_1576 : decode cL_law 1576 = .ok (.iconst 0, 1) := by decide +kernel
theorem dL_law_1577 : decode cL_law 1577 = .ok (.iconst 1, 1) := by decide +kernel
theorem dL_law_1578 : decode cL_law 1578 = .ok (.bipush 101, 2) := by decide +kernel
theorem dL_law_1580 : decode cL_law 1580 = .ok (.invokestatic 253, 3) := by decide +kernel
theorem dL_law_1583 : decode cL_law 1583 = .ok (.sipush (-1002), 3) := by decide +kernel
theorem dL_law_1586 : decode cL_law 1586 = .ok (.if_icmp .eq 5, 3) := by decide +kernel
theorem dL_law_1589 : decode cL_law 1589 = .ok (.iconst 0, 1) := by decide +kernel
theorem dL_law_1590 : decode cL_law 1590 = .ok (.ireturn, 1) := by decide +kernel
theorem dL_law_1591 : decode cL_law 1591 = .ok (.iconst 0, 1) := by decide +kernel
theorem dL_law_1592 : decode cL_law 1592 = .ok (.istore 8, 2) := by decide +kernel
theorem dL_law_1594 : decode cL_law 1594 = .ok (.iload 8, 2) := by decide +kernel
theorem dL_law_1596 : decode cL_law 1596 = .ok (.bipush 10, 2) := by decide +kernel
theorem dL_law_1598 : decode cL_law 1598 = .ok (.if_icmp .ge 38, 3) := by decide +kernel
theorem dL_law_1601 : decode cL_law 1601 = .ok (.aload_n 1, 1) := by decide +kernel
theorem dL_law_1602 : decode cL_law 1602 = .ok (.iload 5, 2) := by decide +kernel
theorem dL_law_1604 : decode cL_law 1604 = .ok (.iload 8, 2) := by decide +kernel
theorem dL_law_1606 : decode cL_law 1606 = .ok (.invokestatic 172, 3) := by decide +kernel
theorem dL_law_1609 : decode cL_law 1609 = .ok (.sipush (-1001), 3) := by decide +kernel
theorem dL_law_1612 : decode cL_law 1612 = .ok (.if_icmp .ne 16, 3) := by decide +kernel
theorem dL_law_1615 : decode cL_law 1615 = .ok (.aload_n 1, 1) := by decide +kernel
theorem dL_law_1616 : decode cL_law 1616 = .ok (.iconst (-1), 1) := by decide +kernel
theorem dL_law_1617 : decode cL_law 1617 = .ok (.iload 8, 2) := by decide +kernel
theorem dL_law_1619 : decode cL_law 1619 = .ok (.invokestatic 172, 3) := by decide +kernel
theorem dL_law_1622 : decode cL_law 1622 = .ok (.sipush (-1001), 3) := by decide +kernel
theorem dL_law_1625 : decode cL_law 1625 = .ok (.if_icmp .eq 5, 3) := by decide +kernel
theorem dL_law_1628 : decode cL_law 1628 = .ok (.iconst 0, 1) := by decide +kernel
theorem dL_law_1629 : decode cL_law 1629 = .ok (.ireturn, 1) := by decide +kernel
theorem dL_law_1630 : decode cL_law 1630 = .ok (.iinc 8 1, 3) := by decide +kernel
theorem dL_law_1633 : decode cL_law 1633 = .ok (.goto (-39), 3) := by decide +kernel
theorem dL_law_1636 : decode cL_law 1636 = .ok (.iconst 0, 1) := by decide +kernel
theorem dL_law_1637 : decode cL_law 1637 = .ok (.istore 8, 2) := by decide +kernel
theorem dL_law_1639 : decode cL_law 1639 = .ok (.iload 8, 2) := by decide +kernel
theorem dL_law_1641 : decode cL_law 1641 = .ok (.iconst 4, 1) := by decide +kernel
theorem dL_law_1642 : decode cL_law 1642 = .ok (.if_icmp .ge 38, 3) := by decide +kernel
theorem dL_law_1645 : decode cL_law 1645 = .ok (.aload_n 1, 1) := by decide +kernel
theorem dL_law_1646 : decode cL_law 1646 = .ok (.iload 6, 2) := by decide +kernel
theorem dL_law_1648 : decode cL_law 1648 = .ok (.iload 8, 2) := by decide +kernel
theorem dL_law_1650 : decode cL_law 1650 = .ok (.invokestatic 218, 3) := by decide +kernel
theorem dL_law_1653 : decode cL_law 1653 = .ok (.sipush (-1001), 3) := by decide +kernel
theorem dL_law_1656 : decode cL_law 1656 = .ok (.if_icmp .ne 16, 3) := by decide +kernel
theorem dL_law_1659 : decode cL_law 1659 = .ok (.aload_n 1, 1) := by decide +kernel
theorem dL_law_1660 : decode cL_law 1660 = .ok (.iconst (-1), 1) := by decide +kernel
theorem dL_law_1661 : decode cL_law 1661 = .ok (.iload 8, 2) := by decide +kernel
theorem dL_law_1663 : decode cL_law 1663 = .ok (.invokestatic 218, 3) := by decide +kernel
theorem dL_law_1666 : decode cL_law 1666 = .ok (.sipush (-1001), 3) := by decide +kernel
theorem dL_law_1669 : decode cL_law 1669 = .ok (.if_icmp .eq 5, 3) := by decide +kernel
theorem dL_law_1672 : decode cL_law 1672 = .ok (.iconst 0, 1) := by decide +kernel
theorem dL_law_1673 : decode cL_law 1673 = .ok (.ireturn, 1) := by decide +kernel
theorem dL_law_1674 : decode cL_law 1674 = .ok (.iinc 8 1, 3) := by decide +kernel
theorem dL_law_1677 : decode cL_law 1677 = .ok (.goto (-38), 3) := by decide +kernel
theorem dL_law_1680 : decode cL_law 1680 = .ok (.aload_n 1, 1) := by decide +kernel
theorem dL_law_1681 : decode cL_law 1681 = .ok (.bipush 99, 2) := by decide +kernel
theorem dL_law_1683 : decode cL_law 1683 = .ok (.iload 6, 2) := by decide +kernel
theorem dL_law_1685 : decode cL_law 1685 = .ok (.iconst 0, 1) := by decide +kernel
theorem dL_law_1686 : decode cL_law 1686 = .ok (.invokestatic 178, 3) := by decide +kernel
theorem dL_law_1689 : decode cL_law 1689 = .ok (.sipush (-1001), 3) := by decide +kernel
theorem dL_law_1692 : decode cL_law 1692 = .ok (.if_icmp .ne 290, 3) := by decide +kernel
theorem dL_law_1695 : decode cL_law 1695 = .ok (.aload_n 1, 1) := by decide +kernel
theorem dL_law_1696 : decode cL_law 1696 = .ok (.bipush 99, 2) := by decide +kernel
theorem dL_law_1698 : decode cL_law 1698 = .ok (.iconst 0, 1) := by decide +kernel
theorem dL_law_1699 : decode cL_law 1699 = .ok (.iload 5, 2) := by decide +kernel
theorem dL_law_1701 : decode cL_law 1701 = .ok (.invokestatic 178, 3) := by decide +kernel
theorem dL_law_1704 : decode cL_law 1704 = .ok (.sipush (-1001), 3) := by decide +kernel
theorem dL_law_1707 : decode cL_law 1707 = .ok (.if_icmp .ne 275, 3) := by decide +kernel
theorem dL_law_1710 : decode cL_law 1710 = .ok (.aload_n 1, 1) := by decide +kernel
theorem dL_law_1711 : decode cL_law 1711 = .ok (.bipush 114, 2) := by decide +kernel
theorem dL_law_1713 : decode cL_law 1713 = .ok (.iload 6, 2) := by decide +kernel
theorem dL_law_1715 : decode cL_law 1715 = .ok (.iconst 0, 1) := by decide +kernel
theorem dL_law_1716 : decode cL_law 1716 = .ok (.invokestatic 178, 3) := by decide +kernel
theorem dL_law_1719 : decode cL_law 1719 = .ok (.sipush (-1001), 3) := by decide +kernel
theorem dL_law_1722 : decode cL_law 1722 = .ok (.if_icmp .ne 260, 3) := by decide +kernel
theorem dL_law_1725 : decode cL_law 1725 = .ok (.iload 6, 2) := by decide +kernel
theorem dL_law_1727 : decode cL_law 1727 = .ok (.ifCond .le 18, 3) := by decide +kernel
theorem dL_law_1730 : decode cL_law 1730 = .ok (.aload_n 1, 1) := by decide +kernel
theorem dL_law_1731 : decode cL_law 1731 = .ok (.bipush 114, 2) := by decide +kernel
theorem dL_law_1733 : decode cL_law 1733 = .ok (.iconst 0, 1) := by decide +kernel
theorem dL_law_1734 : decode cL_law 1734 = .ok (.bipush 6, 2) := by decide +kernel
theorem dL_law_1736 : decode cL_law 1736 = .ok (.invokestatic 178, 3) := by decide +kernel
theorem dL_law_1739 : decode cL_law 1739 = .ok (.sipush (-1002), 3) := by decide +kernel
theorem dL_law_1742 : decode cL_law 1742 = .ok (.if_icmp .ne 240, 3) := by decide +kernel
theorem dL_law_1745 : decode cL_law 1745 = .ok (.aload_n 1, 1) := by decide +kernel
theorem dL_law_1746 : decode cL_law 1746 = .ok (.bipush 98, 2) := by decide +kernel
theorem dL_law_1748 : decode cL_law 1748 = .ok (.iload 6, 2) := by decide +kernel
theorem dL_law_1750 : decode cL_law 1750 = .ok (.bipush 9, 2) := by decide +kernel
theorem dL_law_1752 : decode cL_law 1752 = .ok (.invokestatic 178, 3) := by decide +kernel
theorem dL_law_1755 : decode cL_law 1755 = .ok (.sipush (-1001), 3) := by decide +kernel
theorem dL_law_1758 : decode cL_law 1758 = .ok (.if_icmp .ne 224, 3) := by decide +kernel
theorem dL_law_1761 : decode cL_law 1761 = .ok (.iload 6, 2) := by decide +kernel
end
section
theorem dL_law_1763 : decode cL_law 1763 = .ok (.ifCond .le 18, 3) := by decide +kernel
theorem dL_law_1766 : decode cL_law 1766 = .ok (.aload_n 1, 1) := by decide +kernel
theorem dL_law_1767 : decode cL_law 1767 = .ok (.bipush 98, 2) := by decide +kernel
theorem dL_law_1769 : decode cL_law 1769 = .ok (.iconst 0, 1) := by decide +kernel
theorem dL_law_1770 : decode cL_law 1770 = .ok (.bipush 8, 2) := by decide +kernel
theorem dL_law_1772 : decode cL_law 1772 = .ok (.invokestatic 178, 3) := by decide +kernel
theorem dL_law_1775 : decode cL_law 1775 = .ok (.sipush (-1002), 3) := by decide +kernel
theorem dL_law_1778 : decode cL_law 1778 = .ok (.if_icmp .ne 204, 3) := by decide +kernel
theorem dL_law_1781 : decode cL_law 1781 = .ok (.iload 6, 2) := by decide +kernel
theorem dL_law_1783 : decode cL_law 1783 = .ok (.ifCond .le 17, 3) := by decide +kernel
theorem dL_law_1786 : decode cL_law 1786 = .ok (.aload_n 1, 1) := by decide +kernel
theorem dL_law_1787 : decode cL_law 1787 = .ok (.bipush 111, 2) := by decide +kernel
theorem dL_law_1789 : decode cL_law 1789 = .ok (.iconst 0, 1) := by decide +kernel
theorem dL_law_1790 : decode cL_law 1790 = .ok (.iconst (-1), 1) := by decide +kernel
theorem dL_law_1791 : decode cL_law 1791 = .ok (.invokestatic 178, 3) := by decide +kernel
theorem dL_law_1794 : decode cL_law 1794 = .ok (.sipush (-1002), 3) := by decide +kernel
theorem dL_law_1797 : decode cL_law 1797 = .ok (.if_icmp .ne 185, 3) := by decide +kernel
theorem dL_law_1800 : decode cL_law 1800 = .ok (.iload 6, 2) := by decide +kernel
theorem dL_law_1802 : decode cL_law 1802 = .ok (.ifCond .le 18, 3) := by decide +kernel
theorem dL_law_1805 : decode cL_law 1805 = .ok (.aload_n 1, 1) := by decide +kernel
theorem dL_law_1806 : decode cL_law 1806 = .ok (.bipush 117, 2) := by decide +kernel
theorem dL_law_1808 : decode cL_law 1808 = .ok (.iconst 0, 1) := by decide +kernel
theorem dL_law_1809 : decode cL_law 1809 = .ok (.bipush 8, 2) := by decide +kernel
theorem dL_law_1811 : decode cL_law 1811 = .ok (.invokestatic 178, 3) := by decide +kernel
theorem dL_law_1814 : decode cL_law 1814 = .ok (.sipush (-1002), 3) := by decide +kernel
theorem dL_law_1817 : decode cL_law 1817 = .ok (.if_icmp .ne 165, 3) := by decide +kernel
theorem dL_law_1820 : decode cL_law 1820 = .ok (.aload_n 1, 1) := by decide +kernel
theorem dL_law_1821 : decode cL_law 1821 = .ok (.bipush 112, 2) := by decide +kernel
theorem dL_law_1823 : decode cL_law 1823 = .ok (.iload 5, 2) := by decide +kernel
theorem dL_law_1825 : decode cL_law 1825 = .ok (.iconst 0, 1) := by decide +kernel
theorem dL_law_1826 : decode cL_law 1826 = .ok (.invokestatic 178, 3) := by decide +kernel
theorem dL_law_1829 : decode cL_law 1829 = .ok (.sipush (-1001), 3) := by decide +kernel
theorem dL_law_1832 : decode cL_law 1832 = .ok (.if_icmp .ne 150, 3) := by decide +kernel
theorem dL_law_1835 : decode cL_law 1835 = .ok (.iload 5, 2) := by decide +kernel
theorem dL_law_1837 : decode cL_law 1837 = .ok (.ifCond .le 18, 3) := by decide +kernel
theorem dL_law_1840 : decode cL_law 1840 = .ok (.aload_n 1, 1) := by decide +kernel
theorem dL_law_1841 : decode cL_law 1841 = .ok (.bipush 112, 2) := by decide +kernel
theorem dL_law_1843 : decode cL_law 1843 = .ok (.iconst 0, 1) := by decide +kernel
theorem dL_law_1844 : decode cL_law 1844 = .ok (.bipush 100, 2) := by decide +kernel
theorem dL_law_1846 : decode cL_law 1846 = .ok (.invokestatic 178, 3) := by decide +kernel
theorem dL_law_1849 : decode cL_law 1849 = .ok (.sipush (-1002), 3) := by decide +kernel
theorem dL_law_1852 : decode cL_law 1852 = .ok (.if_icmp .ne 130, 3) := by decide +kernel
theorem dL_law_1855 : decode cL_law 1855 = .ok (.aload_n 1, 1) := by decide +kernel
theorem dL_law_1856 : decode cL_law 1856 = .ok (.bipush 115, 2) := by decide +kernel
theorem dL_law_1858 : decode cL_law 1858 = .ok (.iconst 0, 1) := by decide +kernel
theorem dL_law_1859 : decode cL_law 1859 = .ok (.invokestatic 261, 3) := by decide +kernel
theorem dL_law_1862 : decode cL_law 1862 = .ok (.sipush (-1002), 3) := by decide +kernel
theorem dL_law_1865 : decode cL_law 1865 = .ok (.if_icmp .ne 117, 3) := by decide +kernel
theorem dL_law_1868 : decode cL_law 1868 = .ok (.aload_n 1, 1) := by decide +kernel
theorem dL_law_1869 : decode cL_law 1869 = .ok (.bipush 115, 2) := by decide +kernel
theorem dL_law_1871 : decode cL_law 1871 = .ok (.sipush 501, 3) := by decide +kernel
theorem dL_law_1874 : decode cL_law 1874 = .ok (.invokestatic 261, 3) := by decide +kernel
theorem dL_law_1877 : decode cL_law 1877 = .ok (.sipush (-1002), 3) := by decide +kernel
theorem dL_law_1880 : decode cL_law 1880 = .ok (.if_icmp .ne 102, 3) := by decide +kernel
theorem dL_law_1883 : decode cL_law 1883 = .ok (.aload_n 1, 1) := by decide +kernel
theorem dL_law_1884 : decode cL_law 1884 = .ok (.bipush 98, 2) := by decide +kernel
theorem dL_law_1886 : decode cL_law 1886 = .ok (.bipush 16, 2) := by decide +kernel
theorem dL_law_1888 : decode cL_law 1888 = .ok (.invokestatic 261, 3) := by decide +kernel
theorem dL_law_1891 : decode cL_law 1891 = .ok (.sipush (-1002), 3) := by decide +kernel
theorem dL_law_1894 : decode cL_law 1894 = .ok (.if_icmp .ne 88, 3) := by decide +kernel
theorem dL_law_1897 : decode cL_law 1897 = .ok (.aload_n 1, 1) := by decide +kernel
theorem dL_law_1898 : decode cL_law 1898 = .ok (.bipush 111, 2) := by decide +kernel
theorem dL_law_1900 : decode cL_law 1900 = .ok (.sipush 1001, 3) := by decide +kernel
theorem dL_law_1903 : decode cL_law 1903 = .ok (.invokestatic 261, 3) := by decide +kernel
theorem dL_law_1906 : decode cL_law 1906 = .ok (.sipush (-1002), 3) := by decide +kernel
theorem dL_law_1909 : decode cL_law 1909 = .ok (.if_icmp .ne 73, 3) := by decide +kernel
theorem dL_law_1912 : decode cL_law 1912 = .ok (.aload_n 1, 1) := by decide +kernel
theorem dL_law_1913 : decode cL_law 1913 = .ok (.bipush 114, 2) := by decide +kernel
theorem dL_law_1915 : decode cL_law 1915 = .ok (.sipush 10000, 3) := by decide +kernel
theorem dL_law_1918 : decode cL_law 1918 = .ok (.invokestatic 261, 3) := by decide +kernel
theorem dL_law_1921 : decode cL_law 1921 = .ok (.sipush (-1002), 3) := by decide +kernel
theorem dL_law_1924 : decode cL_law 1924 = .ok (.if_icmp .ne 58, 3) := by decide +kernel
theorem dL_law_1927 : decode cL_law 1927 = .ok (.aload_n 1, 1) := by decide +kernel
theorem dL_law_1928 : decode cL_law 1928 = .ok (.bipush 100, 2) := by decide +kernel
theorem dL_law_1930 : decode cL_law 1930 = .ok (.iconst 0, 1) := by decide +kernel
theorem dL_law_1931 : decode cL_law 1931 = .ok (.invokestatic 261, 3) := by decide +kernel
theorem dL_law_1934 : decode cL_law 1934 = .ok (.sipush (-1002), 3) := by decide +kernel
theorem dL_law_1937 : decode cL_law 1937 = .ok (.if_icmp .ne 45, 3) := by decide +kernel
theorem dL_law_1940 : decode cL_law 1940 = .ok (.aload_n 1, 1) := by decide +kernel
theorem dL_law_1941 : decode cL_law 1941 = .ok (.bipush 100, 2) := by decide +kernel
theorem dL_law_1943 : decode cL_law 1943 = .ok (.bipush 100, 2) := by decide +kernel
theorem dL_law_1945 : decode cL_law 1945 = .ok (.invokestatic 261, 3) := by decide +kernel
theorem dL_law_1948 : decode cL_law 1948 = .ok (.sipush (-1002), 3) := by decide +kernel
theorem dL_law_1951 : decode cL_law 1951 = .ok (.if_icmp .ne 31, 3) := by decide +kernel
theorem dL_law_1954 : decode cL_law 1954 = .ok (.aload_n 1, 1) := by decide +kernel
theorem dL_law_1955 : decode cL_law 1955 = .ok (.bipush 116, 2) := by decide +kernel
theorem dL_law_1957 : decode cL_law 1957 = .ok (.bipush 123, 2) := by decide +kernel
theorem dL_law_1959 : decode cL_law 1959 = .ok (.invokestatic 261, 3) := by decide +kernel
theorem dL_law_1962 : decode cL_law 1962 = .ok (.sipush (-1002), 3) := by decide +kernel
theorem dL_law_1965 : decode cL_law 1965 = .ok (.if_icmp .ne 17, 3) := by decide +kernel
theorem dL_law_1968 : decode cL_law 1968 = .ok (.aload_n 1, 1) := by decide +kernel
theorem dL_law_1969 : decode cL_law 1969 = .ok (.bipush 116, 2) := by decide +kernel
theorem dL_law_1971 : decode cL_law 1971 = .ok (.bipush 90, 2) := by decide +kernel
theorem dL_law_1973 : decode cL_law 1973 = .ok (.invokestatic 261, 3) := by decide +kernel
theorem dL_law_1976 : decode cL_law 1976 = .ok (.sipush (-1002), 3) := by decide +kernel
theorem dL_law_1979 : decode cL_law 1979 = .ok (.if_icmp .eq 5, 3) := by decide +kernel
theorem dL_law_1982 : decode cL_law 1982 = .ok (.iconst 0, 1) := by decide +kernel
theorem dL_law_1983 : decode cL_law 1983 = .ok (.ireturn, 1) := by decide +kernel
theorem dL_law_1984 : decode cL_law 1984 = .ok (.aload_n 1, 1) := by decide +kernel
theorem dL_law_1985 : decode cL_law 1985 = .ok (.iload 7, 2) := by decide +kernel
theorem dL_law_1987 : decode cL_law 1987 = .ok (.iconst (-1), 1) := by decide +kernel
theorem dL_law_1988 : decode cL_law 1988 = .ok (.invokestatic 223, 3) := by decide +kernel
theorem dL_law_1991 : decode cL_law 1991 = .ok (.sipush (-1001), 3) := by decide +kernel
theorem dL_law_1994 : decode cL_law 1994 = .ok (.if_icmp .ne 151, 3) := by decide +kernel
theorem dL_law_1997 : decode cL_law 1997 = .ok (.aload_n 1, 1) := by decide +kernel
theorem dL_law_1998 : decode cL_law 1998 = .ok (.iconst (-1), 1) := by decide +kernel
theorem dL_law_1999 : decode cL_law 1999 = .ok (.bipush (-2), 2) := by decide +kernel
theorem dL_law_2001 : decode cL_law 2001 = .ok (.invokestatic 223, 3) := by decide +kernel
theorem dL_law_2004 : decode cL_law 2004 = .ok (.sipush (-1001), 3) := by decide +kernel
theorem dL_law_2007 : decode cL_law 2007 = .ok (.if_icmp .ne 138, 3) := by decide +kernel
theorem dL_law_2010 : decode cL_law 2010 = .ok (.aload_n 1, 1) := by decide +kernel
theorem dL_law_2011 : decode cL_law 2011 = .ok (.iload 7, 2) := by decide +kernel
theorem dL_law_2013 : decode cL_law 2013 = .ok (.iconst 0, 1) := by decide +kernel
theorem dL_law_2014 : decode cL_law 2014 = .ok (.invokestatic 223, 3) := by decide +kernel
theorem dL_law_2017 : decode cL_law 2017 = .ok (.sipush (-1001), 3) := by decide +kernel
theorem dL_law_2020 : decode cL_law 2020 = .ok (.if_icmp .ne 125, 3) := by decide +kernel
theorem dL_law_2023 : decode cL_law 2023 = .ok (.iload 7, 2) := by decide +kernel
theorem dL_law_2025 : decode cL_law 2025 = .ok (.ifCond .eq 29, 3) := by decide +kernel
theorem dL_law_2028 : decode cL_law 2028 = .ok (.aload_n 1, 1) := by decide +kernel
theorem dL_law_2029 : decode cL_law 2029 = .ok (.iconst 0, 1) := by decide +kernel
theorem dL_law_2030 : decode cL_law 2030 = .ok (.bipush 6, 2) := by decide +kernel
theorem dL_law_2032 : decode cL_law 2032 = .ok (.invokestatic 223, 3) := by decide +kernel
theorem dL_law_2035 : decode cL_law 2035 = .ok (.sipush (-1005), 3) := by decide +kernel
theorem dL_law_2038 : decode cL_law 2038 = .ok (.if_icmp .ne 107, 3) := by decide +kernel
theorem dL_law_2041 : decode cL_law 2041 = .ok (.aload_n 1, 1) := by decide +kernel
theorem dL_law_2042 : decode cL_law 2042 = .ok (.iconst 0, 1) := by decide +kernel
theorem dL_law_2043 : decode cL_law 2043 = .ok (.bipush (-3), 2) := by decide +kernel
theorem dL_law_2045 : decode cL_law 2045 = .ok (.invokestatic 223, 3) := by decide +kernel
theorem dL_law_2048 : decode cL_law 2048 = .ok (.sipush (-1005), 3) := by decide +kernel
theorem dL_law_2051 : decode cL_law 2051 = .ok (.if_icmp .ne 94, 3) := by decide +kernel
theorem dL_law_2054 : decode cL_law 2054 = .ok (.aload_n 1, 1) := by decide +kernel
theorem dL_law_2055 : decode cL_law 2055 = .ok (.iload 7, 2) := by decide +kernel
theorem dL_law_2057 : decode cL_law 2057 = .ok (.iconst 0, 1) := by decide +kernel
theorem dL_law_2058 : decode cL_law 2058 = .ok (.invokestatic 208, 3) := by decide +kernel
theorem dL_law_2061 : decode cL_law 2061 = .ok (.ldc 149, 2) := by decide +kernel
theorem dL_law_2063 : decode cL_law 2063 = .ok (.fcmp .l, 1) := by decide +kernel
theorem dL_law_2064 : decode cL_law 2064 = .ok (.ifCond .ne 81, 3) := by decide +kernel
theorem dL_law_2067 : decode cL_law 2067 = .ok (.aload_n 1, 1) := by decide +kernel
theorem dL_law_2068 : decode cL_law 2068 = .ok (.iconst 0, 1) := by decide +kernel
theorem dL_law_2069 : decode cL_law 2069 = .ok (.iload 7, 2) := by decide +kernel
theorem dL_law_2071 : decode cL_law 2071 = .ok (.invokestatic 208, 3) := by decide +kernel
theorem dL_law_2074 : decode cL_law 2074 = .ok (.ldc 149, 2) := by decide +kernel
theorem dL_law_2076 : decode cL_law 2076 = .ok (.fcmp .l, 1) := by decide +kernel
theorem dL_law_2077 : decode cL_law 2077 = .ok (.ifCond .ne 68, 3) := by decide +kernel
theorem dL_law_2080 : decode cL_law 2080 = .ok (.aload_n 1, 1) := by decide +kernel
theorem dL_law_2081 : decode cL_law 2081 = .ok (.iload 5, 2) := by decide +kernel
theorem dL_law_2083 : decode cL_law 2083 = .ok (.bipush (-9), 2) := by decide +kernel
theorem dL_law_2085 : decode cL_law 2085 = .ok (.invokestatic 208, 3) := by decide +kernel
theorem dL_law_2088 : decode cL_law 2088 = .ok (.ldc 149, 2) := by decide +kernel
theorem dL_law_2090 : decode cL_law 2090 = .ok (.fcmp .l, 1) := by decide +kernel
theorem dL_law_2091 : decode cL_law 2091 = .ok (.ifCond .ne 54, 3) := by decide +kernel
theorem dL_law_2094 : decode cL_law 2094 = .ok (.aload_n 1, 1) := by decide +kernel
theorem dL_law_2095 : decode cL_law 2095 = .ok (.iload 5, 2) := by decide +kernel
theorem dL_law_2097 : decode cL_law 2097 = .ok (.invokestatic 226, 3) := by decide +kernel
theorem dL_law_2100 : decode cL_law 2100 = .ok (.ldc2_w 154, 3) := by decide +kernel
theorem dL_law_2103 : decode cL_law 2103 = .ok (.dcmp .l, 1) := by decide +kernel
theorem dL_law_2104 : decode cL_law 2104 = .ok (.ifCond .ne 41, 3) := by decide +kernel
theorem dL_law_2107 : decode cL_law 2107 = .ok (.aload_n 1, 1) := by decide +kernel
theorem dL_law_2108 : decode cL_law 2108 = .ok (.iconst (-1), 1) := by decide +kernel
theorem dL_law_2109 : decode cL_law 2109 = .ok (.invokestatic 205, 3) := by decide +kernel
theorem dL_law_2112 : decode cL_law 2112 = .ok (.ldc2_w 164, 3) := by decide +kernel
theorem dL_law_2115 : decode cL_law 2115 = .ok (.lcmp, 1) := by decide +kernel
theorem dL_law_2116 : decode cL_law 2116 = .ok (.ifCond .ne 29, 3) := by decide +kernel
theorem dL_law_2119 : decode cL_law 2119 = .ok (.aload_n 1, 1) := by decide +kernel
theorem dL_law_2120 : decode cL_law 2120 = .ok (.bipush (-9), 2) := by decide +kernel
theorem dL_law_2122 : decode cL_law 2122 = .ok (.iconst (-1), 1) := by decide +kernel
theorem dL_law_2123 : decode cL_law 2123 = .ok (.invokestatic 223, 3) := by decide +kernel
theorem dL_law_2126 : decode cL_law 2126 = .ok (.sipush (-1005), 3) := by decide +kernel
theorem dL_law_2129 : decode cL_law 2129 = .ok (.if_icmp .ne 16, 3) := by decide +kernel
theorem dL_law_2132 : decode cL_law 2132 = .ok (.aload_n 1, 1) := by decide +kernel
theorem dL_law_2133 : decode cL_law 2133 = .ok (.invokestatic 249, 3) := by decide +kernel
theorem dL_law_2136 : decode cL_law 2136 = .ok (.lload_n 3, 1) := by decide +kernel
theorem dL_law_2137 : decode cL_law 2137 = .ok (.lcmp, 1) := by decide +kernel
theorem dL_law_2138 : decode cL_law 2138 = .ok (.ifCond .ne 7, 3) := by decide +kernel
theorem dL_law_2141 : decode cL_law 2141 = .ok (.iconst 1, 1) := by decide +kernel
theorem dL_law_2142 : decode cL_law 2142 = .ok (.goto 4, 3) := by decide +kernel
theorem dL_law_2145 : decode cL_law 2145 = .ok (.iconst 0, 1) := by decide +kernel
theorem dL_law_2146 : decode cL_law 2146 = .ok (.ireturn, 1) := by decide +kernel
end
