/-! the law's loop -/
theorem gg_slen {X : Cx} {p : Program} {l : Launch} {e : Env} {R : Room} {s : State} {m : MethodId} {args : Array Value} {below : List Frame} {meth : Method} {c : Code} {nL : Nat} {Q : State → Prop} {k n pc : Nat} {L : GL} {st : List Value} {g : GM} {cc : ByteArray} {own : String} {b Ls : Nat} {xs : Nat → Int32} (C : FC X p l s m args meth c cc nL own) (hX : va_X b Ls xs s s.heap) (hbl : b < s.heap.size) (hbA : ¬ gA X b) (d : decode cc pc = .ok (.arraylength, 1)) (kk : GG X p l e R s m args below meth c nL Q k n (pc + 1) L (.int (Int32.ofNat Ls) :: st) g) : GG X p l e R s m args below meth c nL Q k n pc L (va_rf (some b) :: st) g :=
  fun H locs ls hP hS hl => va_slen C.1.1 C.1.2.1 hX hbl hbA hS d (kk H locs ls hP hS hl)
theorem gg_tableOut {X : Cx} {p : Program} {l : Launch} {e : Env} {R : Room} {s : State} {m : MethodId} {args : Array Value} {below : List Frame} {meth : Method} {c : Code} {nL : Nat} {Q : State → Prop} {k n pc : Nat} {L : GL} {st : List Value} {g : GM} {cc : ByteArray} {own : String} {dflt lo hi : Int} {offs : Array Int} {len : Nat} {x : Int32} {tgt : Nat} (C : FC X p l s m args meth c cc nL own) (d : decode cc pc = .ok (.tableswitch dflt lo hi offs, len)) (h : x.toInt < lo ∨ hi < x.toInt) (ht : (pc : Int) + dflt = (tgt : Int)) (kk : GG X p l e R s m args below meth c nL Q k n tgt L st g) : GG X p l e R s m args below meth c nL Q k n pc L (.int x :: st) g :=
  fun H locs ls hP hS hl => lv_tableOut C.1.1 C.1.2.1 d h ht (kk H locs ls hP hS hl)
theorem gg_tableIn {X : Cx} {p : Program} {l : Launch} {e : Env} {R : Room} {s : State} {m : MethodId} {args : Array Value} {below : List Frame} {meth : Method} {c : Code} {nL : Nat} {Q : State → Prop} {k n pc : Nat} {L : GL} {st : List Value} {g : GM} {cc : ByteArray} {own : String} {dflt lo hi : Int} {offs : Array Int} {len : Nat} {x : Int32} {off : Int} {tgt : Nat} (C : FC X p l s m args meth c cc nL own) (d : decode cc pc = .ok (.tableswitch dflt lo hi offs, len)) (h1 : ¬ x.toInt < lo) (h2 : ¬ hi < x.toInt) (ho : offs[(x.toInt - lo).toNat]? = some off) (ht : (pc : Int) + off = (tgt : Int)) (kk : GG X p l e R s m args below meth c nL Q k n tgt L st g) : GG X p l e R s m args below meth c nL Q k n pc L (.int x :: st) g :=
  fun H locs ls hP hS hl => lv_tableIn C.1.1 C.1.2.1 d h1 h2 ho ht (kk H locs ls hP hS hl)
theorem gg_icmpgt {X : Cx} {p : Program} {l : Launch} {e : Env} {R : Room} {s : State} {m : MethodId} {args : Array Value} {below : List Frame} {meth : Method} {c : Code} {nL : Nat} {Q : State → Prop} {k n pc : Nat} {L : GL} {st : List Value} {g : GM} {cc : ByteArray} {own : String} {x y : Int32} {off : Int} {tgt : Nat} (C : FC X p l s m args meth c cc nL own) (d : decode cc pc = .ok (.if_icmp .gt off, 3)) (ht : (pc : Int) + off = (tgt : Int)) (kt : y < x → GG X p l e R s m args below meth c nL Q k n tgt L st g) (kf : ¬ y < x → GG X p l e R s m args below meth c nL Q k n (pc + 3) L st g) : GG X p l e R s m args below meth c nL Q k n pc L (.int y :: .int x :: st) g :=
  fun H locs ls hP hS hl => lv_icmp_gt C.1.1 C.1.2.1 d ht (fun h => kt h H locs ls hP hS hl) (fun h => kf h H locs ls hP hS hl)
theorem lw_toI {z : Nat} (h : z < 2 ^ 31) : (Int32.ofNat z).toInt = (z : Int) := Int32.toInt_ofNat_of_lt h
theorem lw_sub7 {z : Nat} (h : z < 100000) : (Int32.ofNat z - 7).toInt = (z : Int) - 7 := by
  rw [Int32.toInt_sub, lw_toI (by omega), show (7 : Int32).toInt = 7 from rfl]
  exact Int.bmod_eq_of_le (by omega) (by omega)
theorem lw_in {i j z : Nat} (hj : j < 7) (h : 7 * i + 7 ≤ z) (hz : z < 100000) : vp_in (Int32.ofNat (7 * i) + Int32.ofNat j) z := by
  rw [show Int32.ofNat (7 * i) + Int32.ofNat j = Int32.ofNat (7 * i + j) from (Int32.ofNat_add ..).symm]
  exact vp_in_nI (n := 7 * i + j) (by omega) (by omega)
/-- what the cases owe: from the invariant, over a script that holds seven more ints -/
def lwN (X : Cx) (LI : Option Nat → Option Nat → Option Nat → Option Nat → GM → Prop) : Prop := ∀ (xs : Nat → Int32) (Ls b i : Nat) (v1 v2 v3 v4 : Option Nat) (g : GM), 7 * i + 7 ≤ Ls → Ls < 100000 → (∀ j : Nat, j < 7 → vp_in (Int32.ofNat (7 * i) + Int32.ofNat j) Ls) → LI v1 v2 v3 v4 g → w_law_0 X xs Ls b (LI v1 v2 v3 v4) v1 v2 v3 v4 (Int32.ofNat (7 * i)) g ∧ w_law_1 X xs Ls b (LI v1 v2 v3 v4) v1 v2 v3 v4 (Int32.ofNat (7 * i)) g ∧ w_law_2 X xs Ls b (LI v1 v2 v3 v4) v1 v2 v3 v4 (Int32.ofNat (7 * i)) g ∧ w_law_3 X xs Ls b (LI v1 v2 v3 v4) v1 v2 v3 v4 (Int32.ofNat (7 * i)) g ∧ w_law_4 X xs Ls b (LI v1 v2 v3 v4) v1 v2 v3 v4 (Int32.ofNat (7 * i)) g ∧ w_law_5 X xs Ls b (LI v1 v2 v3 v4) v1 v2 v3 v4 (Int32.ofNat (7 * i)) g ∧ w_law_6 X xs Ls b (LI v1 v2 v3 v4) v1 v2 v3 v4 (Int32.ofNat (7 * i)) g ∧ w_law_7 X xs Ls b (LI v1 v2 v3 v4) v1 v2 v3 v4 (Int32.ofNat (7 * i)) g ∧ w_law_8 X xs Ls b (LI v1 v2 v3 v4) v1 v2 v3 v4 (Int32.ofNat (7 * i)) g ∧ w_law_9 X xs Ls b (LI v1 v2 v3 v4) v1 v2 v3 v4 (Int32.ofNat (7 * i)) g ∧ w_law_10 X xs Ls b (LI v1 v2 v3 v4) v1 v2 v3 v4 (Int32.ofNat (7 * i)) g ∧ w_law_11 X xs Ls b (LI v1 v2 v3 v4) v1 v2 v3 v4 (Int32.ofNat (7 * i)) g ∧ w_law_12 X xs Ls b (LI v1 v2 v3 v4) v1 v2 v3 v4 (Int32.ofNat (7 * i)) g ∧ w_law_13 X xs Ls b (LI v1 v2 v3 v4) v1 v2 v3 v4 (Int32.ofNat (7 * i)) g ∧ w_law_14 X xs Ls b (LI v1 v2 v3 v4) v1 v2 v3 v4 (Int32.ofNat (7 * i)) g ∧ w_law_15 X xs Ls b (LI v1 v2 v3 v4) v1 v2 v3 v4 (Int32.ofNat (7 * i)) g ∧ w_law_16 X xs Ls b (LI v1 v2 v3 v4) v1 v2 v3 v4 (Int32.ofNat (7 * i)) g ∧ w_law_17 X xs Ls b (LI v1 v2 v3 v4) v1 v2 v3 v4 (Int32.ofNat (7 * i)) g ∧ w_law_18 X xs Ls b (LI v1 v2 v3 v4) v1 v2 v3 v4 (Int32.ofNat (7 * i)) g ∧ w_law_19 X xs Ls b (LI v1 v2 v3 v4) v1 v2 v3 v4 (Int32.ofNat (7 * i)) g ∧ w_law_20 X xs Ls b (LI v1 v2 v3 v4) v1 v2 v3 v4 (Int32.ofNat (7 * i)) g ∧ w_law_21 X xs Ls b (LI v1 v2 v3 v4) v1 v2 v3 v4 (Int32.ofNat (7 * i)) g ∧ w_law_22 X xs Ls b (LI v1 v2 v3 v4) v1 v2 v3 v4 (Int32.ofNat (7 * i)) g ∧ w_law_23 X xs Ls b (LI v1 v2 v3 v4) v1 v2 v3 v4 (Int32.ofNat (7 * i)) g ∧ w_law_24 X xs Ls b (LI v1 v2 v3 v4) v1 v2 v3 v4 (Int32.ofNat (7 * i)) g ∧ w_law_25 X xs Ls b (LI v1 v2 v3 v4) v1 v2 v3 v4 (Int32.ofNat (7 * i)) g ∧ w_law_26 X xs Ls b (LI v1 v2 v3 v4) v1 v2 v3 v4 (Int32.ofNat (7 * i)) g ∧ w_law_27 X xs Ls b (LI v1 v2 v3 v4) v1 v2 v3 v4 (Int32.ofNat (7 * i)) g ∧ w_law_28 X xs Ls b (LI v1 v2 v3 v4) v1 v2 v3 v4 (Int32.ofNat (7 * i)) g ∧ w_law_29 X xs Ls b (LI v1 v2 v3 v4) v1 v2 v3 v4 (Int32.ofNat (7 * i)) g ∧ w_law_30 X xs Ls b (LI v1 v2 v3 v4) v1 v2 v3 v4 (Int32.ofNat (7 * i)) g ∧ w_law_31 X xs Ls b (LI v1 v2 v3 v4) v1 v2 v3 v4 (Int32.ofNat (7 * i)) g ∧ w_law_32 X xs Ls b (LI v1 v2 v3 v4) v1 v2 v3 v4 (Int32.ofNat (7 * i)) g ∧ w_law_33 X xs Ls b (LI v1 v2 v3 v4) v1 v2 v3 v4 (Int32.ofNat (7 * i)) g ∧ w_law_34 X xs Ls b (LI v1 v2 v3 v4) v1 v2 v3 v4 (Int32.ofNat (7 * i)) g ∧ w_law_35 X xs Ls b (LI v1 v2 v3 v4) v1 v2 v3 v4 (Int32.ofNat (7 * i)) g ∧ w_law_36 X xs Ls b (LI v1 v2 v3 v4) v1 v2 v3 v4 (Int32.ofNat (7 * i)) g ∧ w_law_37 X xs Ls b (LI v1 v2 v3 v4) v1 v2 v3 v4 (Int32.ofNat (7 * i)) g ∧ w_law_38 X xs Ls b (LI v1 v2 v3 v4) v1 v2 v3 v4 (Int32.ofNat (7 * i)) g ∧ w_law_39 X xs Ls b (LI v1 v2 v3 v4) v1 v2 v3 v4 (Int32.ofNat (7 * i)) g ∧ w_law_40 X xs Ls b (LI v1 v2 v3 v4) v1 v2 v3 v4 (Int32.ofNat (7 * i)) g ∧ w_law_41 X xs Ls b (LI v1 v2 v3 v4) v1 v2 v3 v4 (Int32.ofNat (7 * i)) g ∧ w_law_42 X xs Ls b (LI v1 v2 v3 v4) v1 v2 v3 v4 (Int32.ofNat (7 * i)) g ∧ w_law_43 X xs Ls b (LI v1 v2 v3 v4) v1 v2 v3 v4 (Int32.ofNat (7 * i)) g
set_option maxHeartbeats 4000000 in
set_option maxRecDepth 100000 in
theorem lw_loop {X : Cx} {p : Program} {l : Launch} {e : Env} {s : State} {m : MethodId} {args : Array Value} {below : List Frame} {meth : Method} {c : Code} {Q : State → Prop} {b Ls : Nat} {xs : Nat → Int32} (hfl : l.stackTraces = false) (C : FC X p l s m args meth c code 9 "ReleasetrainLaw") (hX : va_X b Ls xs s s.heap) (hbl : b < s.heap.size) (hbA : ¬ gA X b) (hLs : Ls ≤ 3584) {LI : Option Nat → Option Nat → Option Nat → Option Nat → GM → Prop} (hN : lwN X LI)
    (hend : ∀ (L : GL) (g : GM), GG X p l e room_1 s m args below meth c 9 Q 603072 7186538 2923 L [] g) : ∀ (f i : Nat) (v1 v2 v3 v4 : Option Nat) (g : GM), i + f = 513 → LI v1 v2 v3 v4 g → GG X p l e room_1 s m args below meth c 9 Q (83 + 60 * i) (982 + 4000 * i) 28 [some (va_rf (some b)), some (va_rf v1), some (va_rf v2), some (va_rf v3), some (va_rf v4), some (.int (Int32.ofNat (7 * i))), none, none, none] [] g := by
  intro f
  induction f with
  | zero =>
    intro i v1 v2 v3 v4 g hi hI
    have C0 : FC X p l s m args meth c cL_law 9 "ReleasetrainLaw" := C
    refine gg_widen (k' := 603072) (n' := 7186538) (by omega) (by omega) ?_
    refine gg_iload C0 dL_law_28 rfl ?_
    refine gg_aload_n C0 dL_law_30 rfl ?_
    refine gg_slen C0 hX hbl hbA dL_law_31 ?_
    refine gg_bipush (v := 7) C0 dL_law_32 (by decide) ?_
    refine gg_isub C0 dL_law_34 ?_
    refine gg_icmpgt (tgt := 2923) C0 dL_law_35 (by decide) (fun _ => hend _ _) (fun hc => ?_)
    exact absurd (show Int32.ofNat Ls - 7 < Int32.ofNat (7 * i) by rw [Int32.lt_iff_toInt_lt, lw_sub7 (by omega), lw_toI (by omega)]; omega) hc
  | succ f ih =>
    intro i v1 v2 v3 v4 g hi hI
    have C0 : FC X p l s m args meth c cL_law 9 "ReleasetrainLaw" := C
    refine gg_iload C0 dL_law_28 rfl ?_
    refine gg_aload_n C0 dL_law_30 rfl ?_
    refine gg_slen C0 hX hbl hbA dL_law_31 ?_
    refine gg_bipush (v := 7) C0 dL_law_32 (by decide) ?_
    refine gg_isub C0 dL_law_34 ?_
    refine gg_icmpgt (tgt := 2923) C0 dL_law_35 (by decide) (fun _ => gg_widen (by omega) (by omega) (hend _ _)) (fun hc => ?_)
    have hle : 7 * i + 7 ≤ Ls := by
      rw [Int32.lt_iff_toInt_lt, lw_sub7 (by omega), lw_toI (by omega)] at hc
      omega
    have hin := fun (j : Nat) (hj : j < 7) => lw_in (i := i) (z := Ls) hj hle (by omega)
    have hw := hN xs Ls b i v1 v2 v3 v4 g hle (by omega) hin hI
    refine gg_aload_n C0 dL_law_38 rfl ?_
    refine gg_iload C0 dL_law_39 rfl ?_
    refine gg_sld C0 hX hbl hbA dL_law_41 (by have := hin 0 (by omega); rwa [show Int32.ofNat (7 * i) + Int32.ofNat 0 = Int32.ofNat (7 * i) from Int32.add_zero _] at this) ?_
    refine gg_bipush (v := 63) C0 dL_law_42 (by decide) ?_
    refine gg_iand C0 dL_law_44 ?_
    have hgo : ∀ g', LI v1 v2 v3 v4 g' → GG X p l e room_1 s m args below meth c 9 Q (83 + 60 * i + 60) (982 + 4000 * i + 4000) 2917 [some (va_rf (some b)), some (va_rf v1), some (va_rf v2), some (va_rf v3), some (va_rf v4), some (.int (Int32.ofNat (7 * i))), none, none, none] [] g' := by
      intro g' hI'
      refine gg_iinc (v := Int32.ofNat (7 * (i + 1))) C0 dL_law_2917 rfl (by rw [show Int32.ofInt 7 = Int32.ofNat 7 from rfl, ← Int32.ofNat_add]; rfl) (Or.inr (Or.inr ⟨_, rfl, gcat _⟩)) (by omega) rfl ?_
      refine gg_goto (tgt := 28) C0 dL_law_2920 (by decide) ?_
      have K := ih (i + 1) v1 v2 v3 v4 g' (by omega) hI'
      exact K
    generalize xs (Int32.ofNat (7 * i)).toNatClampNeg &&& 63 = x
    by_cases h0 : x = 0
    · subst h0
      refine gg_tableIn (tgt := 236) C0 dL_law_45 (by decide) (by decide) (off := 191) (by decide) (by decide) ?_
      exact lc_0 hfl C0 hX hbl hbA (by omega) (by omega) hgo (hw.1)
    by_cases h1 : x = 1
    · subst h1
      refine gg_tableIn (tgt := 316) C0 dL_law_45 (by decide) (by decide) (off := 271) (by decide) (by decide) ?_
      exact lc_1 hfl C0 hX hbl hbA (by omega) (by omega) hgo (hw.2.1)
    by_cases h2 : x = 2
    · subst h2
      refine gg_tableIn (tgt := 434) C0 dL_law_45 (by decide) (by decide) (off := 389) (by decide) (by decide) ?_
      exact lc_2 hfl C0 hX hbl hbA (by omega) (by omega) hgo (hw.2.2.1)
    by_cases h3 : x = 3
    · subst h3
      refine gg_tableIn (tgt := 526) C0 dL_law_45 (by decide) (by decide) (off := 481) (by decide) (by decide) ?_
      exact lc_3 hfl C0 hX hbl hbA (by omega) (by omega) hgo (hw.2.2.2.1)
    by_cases h4 : x = 4
    · subst h4
      refine gg_tableIn (tgt := 582) C0 dL_law_45 (by decide) (by decide) (off := 537) (by decide) (by decide) ?_
      exact lc_4 hfl C0 hX hbl hbA (by omega) (by omega) hgo (hw.2.2.2.2.1)
    by_cases h5 : x = 5
    · subst h5
      refine gg_tableIn (tgt := 626) C0 dL_law_45 (by decide) (by decide) (off := 581) (by decide) (by decide) ?_
      exact lc_5 hfl C0 hX hbl hbA (by omega) (by omega) hgo (hw.2.2.2.2.2.1)
    by_cases h6 : x = 6
    · subst h6
      refine gg_tableIn (tgt := 670) C0 dL_law_45 (by decide) (by decide) (off := 625) (by decide) (by decide) ?_
      exact lc_6 hfl C0 hX hbl hbA (by omega) (by omega) hgo (hw.2.2.2.2.2.2.1)
    by_cases h7 : x = 7
    · subst h7
      refine gg_tableIn (tgt := 726) C0 dL_law_45 (by decide) (by decide) (off := 681) (by decide) (by decide) ?_
      exact lc_7 hfl C0 hX hbl hbA (by omega) (by omega) hgo (hw.2.2.2.2.2.2.2.1)
    by_cases h8 : x = 8
    · subst h8
      refine gg_tableIn (tgt := 782) C0 dL_law_45 (by decide) (by decide) (off := 737) (by decide) (by decide) ?_
      exact lc_8 hfl C0 hX hbl hbA (by omega) (by omega) hgo (hw.2.2.2.2.2.2.2.2.1)
    by_cases h9 : x = 9
    · subst h9
      refine gg_tableIn (tgt := 838) C0 dL_law_45 (by decide) (by decide) (off := 793) (by decide) (by decide) ?_
      exact lc_9 hfl C0 hX hbl hbA (by omega) (by omega) hgo (hw.2.2.2.2.2.2.2.2.2.1)
    by_cases h10 : x = 10
    · subst h10
      refine gg_tableIn (tgt := 894) C0 dL_law_45 (by decide) (by decide) (off := 849) (by decide) (by decide) ?_
      exact lc_10 hfl C0 hX hbl hbA (by omega) (by omega) hgo (hw.2.2.2.2.2.2.2.2.2.2.1)
    by_cases h11 : x = 11
    · subst h11
      refine gg_tableIn (tgt := 974) C0 dL_law_45 (by decide) (by decide) (off := 929) (by decide) (by decide) ?_
      exact lc_11 hfl C0 hX hbl hbA (by omega) (by omega) hgo (hw.2.2.2.2.2.2.2.2.2.2.2.1)
    by_cases h12 : x = 12
    · subst h12
      refine gg_tableIn (tgt := 1030) C0 dL_law_45 (by decide) (by decide) (off := 985) (by decide) (by decide) ?_
      exact lc_12 hfl C0 hX hbl hbA (by omega) (by omega) hgo (hw.2.2.2.2.2.2.2.2.2.2.2.2.1)
    by_cases h13 : x = 13
    · subst h13
      refine gg_tableIn (tgt := 1098) C0 dL_law_45 (by decide) (by decide) (off := 1053) (by decide) (by decide) ?_
      exact lc_13 hfl C0 hX hbl hbA (by omega) (by omega) hgo (hw.2.2.2.2.2.2.2.2.2.2.2.2.2.1)
    by_cases h14 : x = 14
    · subst h14
      refine gg_tableIn (tgt := 1154) C0 dL_law_45 (by decide) (by decide) (off := 1109) (by decide) (by decide) ?_
      exact lc_14 hfl C0 hX hbl hbA (by omega) (by omega) hgo (hw.2.2.2.2.2.2.2.2.2.2.2.2.2.2.1)
    by_cases h15 : x = 15
    · subst h15
      refine gg_tableIn (tgt := 1210) C0 dL_law_45 (by decide) (by decide) (off := 1165) (by decide) (by decide) ?_
      exact lc_15 hfl C0 hX hbl hbA (by omega) (by omega) hgo (hw.2.2.2.2.2.2.2.2.2.2.2.2.2.2.2.1)
    by_cases h16 : x = 16
    · subst h16
      refine gg_tableIn (tgt := 1285) C0 dL_law_45 (by decide) (by decide) (off := 1240) (by decide) (by decide) ?_
      exact lc_16 hfl C0 hX hbl hbA (by omega) (by omega) hgo (hw.2.2.2.2.2.2.2.2.2.2.2.2.2.2.2.2.1)
    by_cases h17 : x = 17
    · subst h17
      refine gg_tableIn (tgt := 1341) C0 dL_law_45 (by decide) (by decide) (off := 1296) (by decide) (by decide) ?_
      exact lc_17 hfl C0 hX hbl hbA (by omega) (by omega) hgo (hw.2.2.2.2.2.2.2.2.2.2.2.2.2.2.2.2.2.1)
    by_cases h18 : x = 18
    · subst h18
      refine gg_tableIn (tgt := 1397) C0 dL_law_45 (by decide) (by decide) (off := 1352) (by decide) (by decide) ?_
      exact lc_18 hfl C0 hX hbl hbA (by omega) (by omega) hgo (hw.2.2.2.2.2.2.2.2.2.2.2.2.2.2.2.2.2.2.1)
    by_cases h19 : x = 19
    · subst h19
      refine gg_tableIn (tgt := 1453) C0 dL_law_45 (by decide) (by decide) (off := 1408) (by decide) (by decide) ?_
      exact lc_19 hfl C0 hX hbl hbA (by omega) (by omega) hgo (hw.2.2.2.2.2.2.2.2.2.2.2.2.2.2.2.2.2.2.2.1)
    by_cases h20 : x = 20
    · subst h20
      refine gg_tableIn (tgt := 1509) C0 dL_law_45 (by decide) (by decide) (off := 1464) (by decide) (by decide) ?_
      exact lc_20 hfl C0 hX hbl hbA (by omega) (by omega) hgo (hw.2.2.2.2.2.2.2.2.2.2.2.2.2.2.2.2.2.2.2.2.1)
    by_cases h21 : x = 21
    · subst h21
      refine gg_tableIn (tgt := 1565) C0 dL_law_45 (by decide) (by decide) (off := 1520) (by decide) (by decide) ?_
      exact lc_21 hfl C0 hX hbl hbA (by omega) (by omega) hgo (hw.2.2.2.2.2.2.2.2.2.2.2.2.2.2.2.2.2.2.2.2.2.1)
    by_cases h22 : x = 22
    · subst h22
      refine gg_tableIn (tgt := 1621) C0 dL_law_45 (by decide) (by decide) (off := 1576) (by decide) (by decide) ?_
      exact lc_22 hfl C0 hX hbl hbA (by omega) (by omega) hgo (hw.2.2.2.2.2.2.2.2.2.2.2.2.2.2.2.2.2.2.2.2.2.2.1)
    by_cases h23 : x = 23
    · subst h23
      refine gg_tableIn (tgt := 1677) C0 dL_law_45 (by decide) (by decide) (off := 1632) (by decide) (by decide) ?_
      exact lc_23 hfl C0 hX hbl hbA (by omega) (by omega) hgo (hw.2.2.2.2.2.2.2.2.2.2.2.2.2.2.2.2.2.2.2.2.2.2.2.1)
    by_cases h24 : x = 24
    · subst h24
      refine gg_tableIn (tgt := 1735) C0 dL_law_45 (by decide) (by decide) (off := 1690) (by decide) (by decide) ?_
      exact lc_24 hfl C0 hX hbl hbA (by omega) (by omega) hgo (hw.2.2.2.2.2.2.2.2.2.2.2.2.2.2.2.2.2.2.2.2.2.2.2.2.1)
    by_cases h25 : x = 25
    · subst h25
      refine gg_tableIn (tgt := 1791) C0 dL_law_45 (by decide) (by decide) (off := 1746) (by decide) (by decide) ?_
      exact lc_25 hfl C0 hX hbl hbA (by omega) (by omega) hgo (hw.2.2.2.2.2.2.2.2.2.2.2.2.2.2.2.2.2.2.2.2.2.2.2.2.2.1)
    by_cases h26 : x = 26
    · subst h26
      refine gg_tableIn (tgt := 1804) C0 dL_law_45 (by decide) (by decide) (off := 1759) (by decide) (by decide) ?_
      exact lc_26 hfl C0 hX hbl hbA (by omega) (by omega) hgo (hw.2.2.2.2.2.2.2.2.2.2.2.2.2.2.2.2.2.2.2.2.2.2.2.2.2.2.1)
    by_cases h27 : x = 27
    · subst h27
      refine gg_tableIn (tgt := 1860) C0 dL_law_45 (by decide) (by decide) (off := 1815) (by decide) (by decide) ?_
      exact lc_27 hfl C0 hX hbl hbA (by omega) (by omega) hgo (hw.2.2.2.2.2.2.2.2.2.2.2.2.2.2.2.2.2.2.2.2.2.2.2.2.2.2.2.1)
    by_cases h28 : x = 28
    · subst h28
      refine gg_tableIn (tgt := 1928) C0 dL_law_45 (by decide) (by decide) (off := 1883) (by decide) (by decide) ?_
      exact lc_28 hfl C0 hX hbl hbA (by omega) (by omega) hgo (hw.2.2.2.2.2.2.2.2.2.2.2.2.2.2.2.2.2.2.2.2.2.2.2.2.2.2.2.2.1)
    by_cases h29 : x = 29
    · subst h29
      refine gg_tableIn (tgt := 2018) C0 dL_law_45 (by decide) (by decide) (off := 1973) (by decide) (by decide) ?_
      exact lc_29 hfl C0 hX hbl hbA (by omega) (by omega) hgo (hw.2.2.2.2.2.2.2.2.2.2.2.2.2.2.2.2.2.2.2.2.2.2.2.2.2.2.2.2.2.1)
    by_cases h30 : x = 30
    · subst h30
      refine gg_tableIn (tgt := 2074) C0 dL_law_45 (by decide) (by decide) (off := 2029) (by decide) (by decide) ?_
      exact lc_30 hfl C0 hX hbl hbA (by omega) (by omega) hgo (hw.2.2.2.2.2.2.2.2.2.2.2.2.2.2.2.2.2.2.2.2.2.2.2.2.2.2.2.2.2.2.1)
    by_cases h31 : x = 31
    · subst h31
      refine gg_tableIn (tgt := 2118) C0 dL_law_45 (by decide) (by decide) (off := 2073) (by decide) (by decide) ?_
      exact lc_31 hfl C0 hX hbl hbA (by omega) (by omega) hgo (hw.2.2.2.2.2.2.2.2.2.2.2.2.2.2.2.2.2.2.2.2.2.2.2.2.2.2.2.2.2.2.2.1)
    by_cases h32 : x = 32
    · subst h32
      refine gg_tableIn (tgt := 2174) C0 dL_law_45 (by decide) (by decide) (off := 2129) (by decide) (by decide) ?_
      exact lc_32 hfl C0 hX hbl hbA (by omega) (by omega) hgo (hw.2.2.2.2.2.2.2.2.2.2.2.2.2.2.2.2.2.2.2.2.2.2.2.2.2.2.2.2.2.2.2.2.1)
    by_cases h33 : x = 33
    · subst h33
      refine gg_tableIn (tgt := 2230) C0 dL_law_45 (by decide) (by decide) (off := 2185) (by decide) (by decide) ?_
      exact lc_33 hfl C0 hX hbl hbA (by omega) (by omega) hgo (hw.2.2.2.2.2.2.2.2.2.2.2.2.2.2.2.2.2.2.2.2.2.2.2.2.2.2.2.2.2.2.2.2.2.1)
    by_cases h34 : x = 34
    · subst h34
      refine gg_tableIn (tgt := 2308) C0 dL_law_45 (by decide) (by decide) (off := 2263) (by decide) (by decide) ?_
      exact lc_34 hfl C0 hX hbl hbA (by omega) (by omega) hgo (hw.2.2.2.2.2.2.2.2.2.2.2.2.2.2.2.2.2.2.2.2.2.2.2.2.2.2.2.2.2.2.2.2.2.2.1)
    by_cases h35 : x = 35
    · subst h35
      refine gg_tableIn (tgt := 2376) C0 dL_law_45 (by decide) (by decide) (off := 2331) (by decide) (by decide) ?_
      exact lc_35 hfl C0 hX hbl hbA (by omega) (by omega) hgo (hw.2.2.2.2.2.2.2.2.2.2.2.2.2.2.2.2.2.2.2.2.2.2.2.2.2.2.2.2.2.2.2.2.2.2.2.1)
    by_cases h36 : x = 36
    · subst h36
      refine gg_tableIn (tgt := 2453) C0 dL_law_45 (by decide) (by decide) (off := 2408) (by decide) (by decide) ?_
      exact lc_36 hfl C0 hX hbl hbA (by omega) (by omega) hgo (hw.2.2.2.2.2.2.2.2.2.2.2.2.2.2.2.2.2.2.2.2.2.2.2.2.2.2.2.2.2.2.2.2.2.2.2.2.1)
    by_cases h37 : x = 37
    · subst h37
      refine gg_tableIn (tgt := 2508) C0 dL_law_45 (by decide) (by decide) (off := 2463) (by decide) (by decide) ?_
      exact lc_37 hfl C0 hX hbl hbA (by omega) (by omega) hgo (hw.2.2.2.2.2.2.2.2.2.2.2.2.2.2.2.2.2.2.2.2.2.2.2.2.2.2.2.2.2.2.2.2.2.2.2.2.2.1)
    by_cases h38 : x = 38
    · subst h38
      refine gg_tableIn (tgt := 2576) C0 dL_law_45 (by decide) (by decide) (off := 2531) (by decide) (by decide) ?_
      exact lc_38 hfl C0 hX hbl hbA (by omega) (by omega) hgo (hw.2.2.2.2.2.2.2.2.2.2.2.2.2.2.2.2.2.2.2.2.2.2.2.2.2.2.2.2.2.2.2.2.2.2.2.2.2.2.1)
    by_cases h39 : x = 39
    · subst h39
      refine gg_tableIn (tgt := 2651) C0 dL_law_45 (by decide) (by decide) (off := 2606) (by decide) (by decide) ?_
      exact lc_39 hfl C0 hX hbl hbA (by omega) (by omega) hgo (hw.2.2.2.2.2.2.2.2.2.2.2.2.2.2.2.2.2.2.2.2.2.2.2.2.2.2.2.2.2.2.2.2.2.2.2.2.2.2.2.1)
    by_cases h40 : x = 40
    · subst h40
      refine gg_tableIn (tgt := 2726) C0 dL_law_45 (by decide) (by decide) (off := 2681) (by decide) (by decide) ?_
      exact lc_40 hfl C0 hX hbl hbA (by omega) (by omega) hgo (hw.2.2.2.2.2.2.2.2.2.2.2.2.2.2.2.2.2.2.2.2.2.2.2.2.2.2.2.2.2.2.2.2.2.2.2.2.2.2.2.2.1)
    by_cases h41 : x = 41
    · subst h41
      refine gg_tableIn (tgt := 2739) C0 dL_law_45 (by decide) (by decide) (off := 2694) (by decide) (by decide) ?_
      exact lc_41 hfl C0 hX hbl hbA (by omega) (by omega) hgo (hw.2.2.2.2.2.2.2.2.2.2.2.2.2.2.2.2.2.2.2.2.2.2.2.2.2.2.2.2.2.2.2.2.2.2.2.2.2.2.2.2.2.1)
    by_cases h42 : x = 42
    · subst h42
      refine gg_tableIn (tgt := 2795) C0 dL_law_45 (by decide) (by decide) (off := 2750) (by decide) (by decide) ?_
      exact lc_42 hfl C0 hX hbl hbA (by omega) (by omega) hgo (hw.2.2.2.2.2.2.2.2.2.2.2.2.2.2.2.2.2.2.2.2.2.2.2.2.2.2.2.2.2.2.2.2.2.2.2.2.2.2.2.2.2.2.1)
    by_cases h43 : x = 43
    · subst h43
      refine gg_tableIn (tgt := 2851) C0 dL_law_45 (by decide) (by decide) (off := 2806) (by decide) (by decide) ?_
      exact lc_43 hfl C0 hX hbl hbA (by omega) (by omega) hgo (hw.2.2.2.2.2.2.2.2.2.2.2.2.2.2.2.2.2.2.2.2.2.2.2.2.2.2.2.2.2.2.2.2.2.2.2.2.2.2.2.2.2.2.2)
    refine gg_tableOut (tgt := 2917) C0 dL_law_45 ?_ (by decide) (gg_widen (by omega) (by omega) (hgo g hI))
    have hne : ∀ z : Nat, z < 44 → x.toInt ≠ (z : Int) := by
      intro z hz hx
      have hx' : x = Int32.ofNat z := Int32.toInt_inj.mp (by rw [hx, lw_toI (by omega)])
      match z, hz with
      | 0, _ => exact h0 hx'
      | 1, _ => exact h1 hx'
      | 2, _ => exact h2 hx'
      | 3, _ => exact h3 hx'
      | 4, _ => exact h4 hx'
      | 5, _ => exact h5 hx'
      | 6, _ => exact h6 hx'
      | 7, _ => exact h7 hx'
      | 8, _ => exact h8 hx'
      | 9, _ => exact h9 hx'
      | 10, _ => exact h10 hx'
      | 11, _ => exact h11 hx'
      | 12, _ => exact h12 hx'
      | 13, _ => exact h13 hx'
      | 14, _ => exact h14 hx'
      | 15, _ => exact h15 hx'
      | 16, _ => exact h16 hx'
      | 17, _ => exact h17 hx'
      | 18, _ => exact h18 hx'
      | 19, _ => exact h19 hx'
      | 20, _ => exact h20 hx'
      | 21, _ => exact h21 hx'
      | 22, _ => exact h22 hx'
      | 23, _ => exact h23 hx'
      | 24, _ => exact h24 hx'
      | 25, _ => exact h25 hx'
      | 26, _ => exact h26 hx'
      | 27, _ => exact h27 hx'
      | 28, _ => exact h28 hx'
      | 29, _ => exact h29 hx'
      | 30, _ => exact h30 hx'
      | 31, _ => exact h31 hx'
      | 32, _ => exact h32 hx'
      | 33, _ => exact h33 hx'
      | 34, _ => exact h34 hx'
      | 35, _ => exact h35 hx'
      | 36, _ => exact h36 hx'
      | 37, _ => exact h37 hx'
      | 38, _ => exact h38 hx'
      | 39, _ => exact h39 hx'
      | 40, _ => exact h40 hx'
      | 41, _ => exact h41 hx'
      | 42, _ => exact h42 hx'
      | 43, _ => exact h43 hx'
      | z + 44, hz => omega
    by_cases a : x.toInt < 0
    · exact Or.inl a
    · by_cases b : 43 < x.toInt
      · exact Or.inr b
      · exact absurd (Int.toNat_of_nonneg (by omega)).symm (hne x.toInt.toNat (by omega))
