/-! more rows: the law's own script (a constant array of the context), remainders, products, switches -/
section GRB
variable {X : Cx} {p : Program} {l : Launch} {e : Env} {R : Room} {s : State} {m : MethodId} {args : Array Value} {below : List Frame} {meth : Method} {c : Code} {nL : Nat} {Q : State → Prop} {k n pc : Nat} {L : GL} {st : List Value} {g : GM} {cc : ByteArray} {own : String}
def irem (x y : Int32) : Int32 := x - x / y * y
def wScl (X : Cx) (r : Option Nat) (K : Int32 → Prop) : Prop := r = some (X.2.2.2 204) ∧ K (Int32.ofNat (X.2.2.2 205))
def wSca (X : Cx) (r : Option Nat) (i : Int32) (K : Int32 → Prop) : Prop := r = some (X.2.2.2 204) ∧ vp_in i (X.2.2.2 205) ∧ K (Int32.ofNat (X.2.2.2 (1000 + i.toNatClampNeg)))
theorem gg_scl {r : Option Nat} {K : Int32 → Prop} (C : FC X p l s m args meth c cc nL own) (d : decode cc pc = .ok (.arraylength, 1)) (hf : wScl X r K) (kk : ∀ v, K v → GG X p l e R s m args below meth c nL Q k n (pc + 1) L (.int v :: st) g) : GG X p l e R s m args below meth c nL Q k n pc L (va_rf r :: st) g := by
  intro H locs ls hP hS hl
  obtain ⟨rfl, hK⟩ := hf
  exact va_tlen C.1.1 C.1.2.1 C.2.1.2.2.2.2.2.2.2.2.2.1.2 hS rfl d (kk _ hK H locs ls hP hS hl)
theorem gg_sca {i : Int32} {r : Option Nat} {K : Int32 → Prop} (C : FC X p l s m args meth c cc nL own) (d : decode cc pc = .ok (.iaload, 1)) (hf : wSca X r i K) (kk : ∀ v, K v → GG X p l e R s m args below meth c nL Q k n (pc + 1) L (.int v :: st) g) : GG X p l e R s m args below meth c nL Q k n pc L (.int i :: va_rf r :: st) g := by
  intro H locs ls hP hS hl
  obtain ⟨rfl, hin, hK⟩ := hf
  exact va_ti C.1.1 C.1.2.1 C.2.1.2.2.2.2.2.2.2.2.2.1.2 hS hin rfl d (kk _ hK H locs ls hP hS hl)
theorem gg_irem {x y : Int32} (C : FC X p l s m args meth c cc nL own) (d : decode cc pc = .ok (.irem, 1)) (hne : ¬ y = 0) (kk : GG X p l e R s m args below meth c nL Q k n (pc + 1) L (.int (irem x y) :: st) g) : GG X p l e R s m args below meth c nL Q k n pc L (.int y :: .int x :: st) g :=
  fun H locs ls hP hS hl => lv_irem C.1.1 C.1.2.1 d hne (kk H locs ls hP hS hl)
theorem gg_lmul {x y : Int64} (C : FC X p l s m args meth c cc nL own) (d : decode cc pc = .ok (.lmul, 1)) (kk : GG X p l e R s m args below meth c nL Q k n (pc + 1) L (.long (x * y) :: st) g) : GG X p l e R s m args below meth c nL Q k n pc L (.long y :: .long x :: st) g :=
  fun H locs ls hP hS hl => lv_lmul C.1.1 C.1.2.1 d (kk H locs ls hP hS hl)
theorem gg_tableOut {dflt lo hi : Int} {offs : Array Int} {len : Nat} {x : Int32} {tgt : Nat} (C : FC X p l s m args meth c cc nL own) (d : decode cc pc = .ok (.tableswitch dflt lo hi offs, len)) (h : x.toInt < lo ∨ hi < x.toInt) (ht : (pc : Int) + dflt = (tgt : Int)) (kk : GG X p l e R s m args below meth c nL Q k n tgt L st g) : GG X p l e R s m args below meth c nL Q k n pc L (.int x :: st) g :=
  fun H locs ls hP hS hl => lv_tableOut C.1.1 C.1.2.1 d h ht (kk H locs ls hP hS hl)
theorem gg_tableIn {dflt lo hi : Int} {offs : Array Int} {len : Nat} {x : Int32} {off : Int} {tgt : Nat} (C : FC X p l s m args meth c cc nL own) (d : decode cc pc = .ok (.tableswitch dflt lo hi offs, len)) (h1 : ¬ x.toInt < lo) (h2 : ¬ hi < x.toInt) (ho : offs[(x.toInt - lo).toNat]? = some off) (ht : (pc : Int) + off = (tgt : Int)) (kk : GG X p l e R s m args below meth c nL Q k n tgt L st g) : GG X p l e R s m args below meth c nL Q k n pc L (.int x :: st) g :=
  fun H locs ls hP hS hl => lv_tableIn C.1.1 C.1.2.1 d h1 h2 ho ht (kk H locs ls hP hS hl)
theorem gg_lookup {dflt : Int} {ps : Array (Int × Int)} {len : Nat} {x : Int32} {off : Int} {tgt : Nat} (C : FC X p l s m args meth c cc nL own) (d : decode cc pc = .ok (.lookupswitch dflt ps, len)) (hp : (ps.toList.zip (ps.toList.drop 1)).all (fun (a, next) => a.1 < next.1) = true) (ho : Op.lookupswitch.offset ps.toList dflt x.toInt = off) (ht : (pc : Int) + off = (tgt : Int)) (kk : GG X p l e R s m args below meth c nL Q k n tgt L st g) : GG X p l e R s m args below meth c nL Q k n pc L (.int x :: st) g :=
  fun H locs ls hP hS hl => lv_lookup C.1.1 C.1.2.1 d hp ho ht (kk H locs ls hP hS hl)
end GRB
theorem sw_ne {x k : Int32} {z : Int} (hz : k.toInt = z) (h : ¬ x = k) : ¬ z = x.toInt := fun e => h (Int32.toInt_inj.mp (e.symm.trans hz.symm))
