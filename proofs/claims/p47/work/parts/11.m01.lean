def w_Jx4a65c_size_8abf5 (X : Cx) (post : Int32 → GM → Prop) (px : String → GM → Prop) (v0 : Option Nat) (g : GM) : Prop :=
  wGetI g v0 10 2 (fun (i1 : Int32) => post i1 g)
abbrev rm_Jx4a65c_size_8abf5 : Room := { frames := 0, cells := 0, slots := 0, locals := 0 }
set_option maxHeartbeats 4000000 in
set_option maxRecDepth 100000 in
theorem m_Jx4a65c_size_8abf5 {X : Cx} {l : Launch} (hfl : l.stackTraces = false) {post : Int32 → GM → Prop} {px : String → GM → Prop} {v0 : Option Nat} {g : GM} (hf : w_Jx4a65c_size_8abf5 X post px v0 g) : gMet X l yJx4a65c_size_8abf5 cJx4a65c_size_8abf5 1 (some .int) rm_Jx4a65c_size_8abf5 [va_rf v0] g (qI X post) px := by
  refine gg_enter (L := [some (va_rf v0)]) hfl (by decide +kernel) (by simp [lg_sl, gcat, gcI, gcL, gcF, gcD]) (by simp [gll, lv_args, gcat, gcI, gcL, gcF, gcD]) ?_
  intro p e s m args below meth c C hr ht hm
  have C : FC X p l s m args meth c cJx4a65c_size_8abf5 1 "java/util/ArrayList" := C
  unfold w_Jx4a65c_size_8abf5 at hf
  refine gg_aload_n C dJx4a65c_size_8abf5_0 rfl ?_
  refine gg_getI C dJx4a65c_size_8abf5_1 lk_Jx4a65c_48 hf (fun i1 hf => ?_)
  exact gg_iret C hr (by decide) (by decide) dJx4a65c_size_8abf5_4 rfl hf

def w_J8_newLength_cabcc_b21 (X : Cx) (post : Int32 → GM → Prop) (px : String → GM → Prop)  (l0 : Int32) (l1 : Int32) (g : GM) : Prop :=
  False
def w_J8_newLength_cabcc (X : Cx) (post : Int32 → GM → Prop) (px : String → GM → Prop) (v0 : Int32) (v1 : Int32) (v2 : Int32) (g : GM) : Prop :=
  (if (v0 + (if v1 < v2 then v2 else v1)) ≤ (0 : Int32) then w_J8_newLength_cabcc_b21 X post px v0 v1 g else (if (2147483639 : Int32) < (v0 + (if v1 < v2 then v2 else v1)) then w_J8_newLength_cabcc_b21 X post px v0 v1 g else post (v0 + (if v1 < v2 then v2 else v1)) g))
abbrev rm_J8_newLength_cabcc : Room := { frames := 1, cells := 0, slots := 0, locals := 17 }
set_option maxHeartbeats 4000000 in
set_option maxRecDepth 100000 in
theorem m_J8_newLength_cabcc {X : Cx} {l : Launch} (hfl : l.stackTraces = false) {post : Int32 → GM → Prop} {px : String → GM → Prop} {v0 : Int32} {v1 : Int32} {v2 : Int32} {g : GM} (hf : w_J8_newLength_cabcc X post px v0 v1 v2 g) : gMet X l yJ8_newLength_cabcc cJ8_newLength_cabcc 4 (some .int) rm_J8_newLength_cabcc [.int v0, .int v1, .int v2] g (qI X post) px := by
  refine gg_enter (L := [some (.int v0), some (.int v1), some (.int v2), none]) hfl (by decide +kernel) (by simp [lg_sl, gcat, gcI, gcL, gcF, gcD]) (by simp [gll, lv_args, gcat, gcI, gcL, gcF, gcD]) ?_
  intro p e s m args below meth c C hr ht hm
  have C : FC X p l s m args meth c cJ8_newLength_cabcc 4 "jdk/internal/util/ArraysSupport" := C
  have hb_21 : ∀ (l0 : Int32) (l1 : Int32) (g : GM), w_J8_newLength_cabcc_b21 X post px  l0 l1 g → GG X p l e rm_J8_newLength_cabcc s m args below meth c 4 (vx_MQ below (qI X post) (gXC X px) args s rm_J8_newLength_cabcc.cells rm_J8_newLength_cabcc.slots (gA X)) 0 0 21 [some (.int l0), some (.int l1), none, none] [] g := by
    intro  l0 l1 g hf
    unfold w_J8_newLength_cabcc_b21 at hf
    refine gg_iload_n C dJ8_newLength_cabcc_21 rfl ?_
    refine gg_iload_n C dJ8_newLength_cabcc_22 rfl ?_
    exact hf.elim
  unfold w_J8_newLength_cabcc at hf
  refine gg_iload_n C dJ8_newLength_cabcc_0 rfl ?_
  refine gg_iload_n C dJ8_newLength_cabcc_1 rfl ?_
  refine gg_iload_n C dJ8_newLength_cabcc_2 rfl ?_
  refine gg_mmax C dJ8_newLength_cabcc_3 tw_448 tw_449 tw_44 tw_max (by decide) (by simp [gcat, gcI, gcL, gcF, gcD]) (by decide) (by decide) ?_
  refine gg_iadd C dJ8_newLength_cabcc_6 ?_
  refine gg_istore_n (L' := [some (.int v0), some (.int v1), some (.int v2), some (.int (v0 + (if v1 < v2 then v2 else v1)))]) C dJ8_newLength_cabcc_7 (Or.inr (Or.inr ⟨_, rfl, rfl⟩)) (by decide) rfl ?_
  refine gg_iconst C dJ8_newLength_cabcc_8 (v := (0 : Int32)) (by decide) ?_
  refine gg_iload_n C dJ8_newLength_cabcc_9 rfl ?_
  refine gg_icmp_ge (tgt := 21) C dJ8_newLength_cabcc_10 (by decide) hf (fun hf => ?_) (fun hf => ?_)
  · exact gg_sub (L' := [some (.int v0), some (.int v1), none, none]) (by first | exact ⟨rfl, ⟨rfl, trivial⟩⟩ | simp [gsub]) (hb_21 _ _ _ hf)
  · refine gg_iload_n C dJ8_newLength_cabcc_13 rfl ?_
    refine gg_ldc C dJ8_newLength_cabcc_14 (v := (2147483639 : Int32)) tw_451 ?_
    refine gg_icmp_gt (tgt := 21) C dJ8_newLength_cabcc_16 (by decide) hf (fun hf => ?_) (fun hf => ?_)
    · exact gg_sub (L' := [some (.int v0), some (.int v1), none, none]) (by first | exact ⟨rfl, ⟨rfl, trivial⟩⟩ | simp [gsub]) (hb_21 _ _ _ hf)
    · refine gg_iload_n C dJ8_newLength_cabcc_19 rfl ?_
      exact gg_iret C hr (by decide) (by decide) dJ8_newLength_cabcc_20 rfl hf

def w_J7_copyOf_6403c (X : Cx) (post : Option Nat → GM → Prop) (px : String → GM → Prop) (v0 : Option Nat) (v1 : Int32) (v2 : Option Nat) (g : GM) : Prop :=
  (if v2 = (some (X.2.2.2 203)) then (¬ v1 < 0 ∧ (v1).toNatClampNeg ≤ 64 ∧ wNew X g (.inl (4, (v1).toNatClampNeg, .inr (.inr (.inr (.inr (fun _ => none)))))) (fun q1 g2 => wLen X g2 v0 (fun (i3 : Int32) => wCpyQ g2 v0 (0 : Int32) (some q1) (0 : Int32) (if v1 < i3 then v1 else i3) (fun g4 => post (some q1) g4)))) else False)
abbrev rm_J7_copyOf_6403c : Room := { frames := 1, cells := 1, slots := 64, locals := 80 }
set_option maxHeartbeats 4000000 in
set_option maxRecDepth 100000 in
theorem m_J7_copyOf_6403c {X : Cx} {l : Launch} (hfl : l.stackTraces = false) {post : Option Nat → GM → Prop} {px : String → GM → Prop} {v0 : Option Nat} {v1 : Int32} {v2 : Option Nat} {g : GM} (hf : w_J7_copyOf_6403c X post px v0 v1 v2 g) : gMet X l yJ7_copyOf_6403c cJ7_copyOf_6403c 4 (some (.array (.object "java/lang/Object"))) rm_J7_copyOf_6403c [va_rf v0, .int v1, va_rf v2] g (qR X post) px := by
  refine gg_enter (L := [some (va_rf v0), some (.int v1), some (va_rf v2), none]) hfl (by decide +kernel) (by simp [lg_sl, gcat, gcI, gcL, gcF, gcD]) (by simp [gll, lv_args, gcat, gcI, gcL, gcF, gcD]) ?_
  intro p e s m args below meth c C hr ht hm
  have C : FC X p l s m args meth c cJ7_copyOf_6403c 4 "java/util/Arrays" := C
  unfold w_J7_copyOf_6403c at hf
  refine gg_aload_n C dJ7_copyOf_6403c_0 rfl ?_
  refine gg_ldcM C dJ7_copyOf_6403c_1 tw_484 ?_
  refine gg_acmp_ne (tgt := 13) C dJ7_copyOf_6403c_3 (by decide) hf (fun hf => ?_) (fun hf => ?_)
  · refine gg_aload_n C dJ7_copyOf_6403c_13 rfl ?_
    exact hf.elim
  · refine gg_iload_n C dJ7_copyOf_6403c_6 rfl ?_
    refine gg_newobj' (cap := 64) C dJ7_copyOf_6403c_7 tw_486 (by decide) (by decide) (by decide) rfl rfl hf (fun q1 g2 hf => ?_)
    refine gg_goto (tgt := 24) C dJ7_copyOf_6403c_10 (by decide) ?_
    refine gg_astore_n (L' := [some (va_rf v0), some (.int v1), some (va_rf v2), some (va_rf (some q1))]) C dJ7_copyOf_6403c_24 (Or.inr (Or.inr ⟨_, rfl, gcat _⟩)) (by decide) rfl ?_
    refine gg_aload_n C dJ7_copyOf_6403c_25 rfl ?_
    refine gg_iconst C dJ7_copyOf_6403c_26 (v := (0 : Int32)) (by decide) ?_
    refine gg_aload_n C dJ7_copyOf_6403c_27 rfl ?_
    refine gg_iconst C dJ7_copyOf_6403c_28 (v := (0 : Int32)) (by decide) ?_
    refine gg_aload_n C dJ7_copyOf_6403c_29 rfl ?_
    refine gg_alen C dJ7_copyOf_6403c_30 hf (fun i3 hf => ?_)
    refine gg_iload_n C dJ7_copyOf_6403c_31 rfl ?_
    refine gg_mmin C dJ7_copyOf_6403c_32 tw_487 tw_488 tw_44 tw_min (by decide) (by simp [gcat, gcI, gcL, gcF, gcD]) (by decide) (by decide) ?_
    refine gg_cpyQ C dJ7_copyOf_6403c_35 tw_490 tw_492 tw_491 tw_46 (by decide) (by simp [gcat, gcI, gcL, gcF, gcD]; decide +kernel) hf (fun g4 hf => ?_)
    refine gg_aload_n C dJ7_copyOf_6403c_38 rfl ?_
    exact gg_aret C hr (Or.inr ⟨_, rfl⟩) (by decide) (by decide) dJ7_copyOf_6403c_39 hf

def w_J7_copyOf_1904c (X : Cx) (post : Option Nat → GM → Prop) (px : String → GM → Prop) (v0 : Option Nat) (v1 : Int32) (g : GM) : Prop :=
  (∃ (a N : Nat) (f : Nat → Option Nat), v0 = some a ∧ g a = some (.inl (4, N, .inr (.inr (.inr (.inr f))))) ∧ w_J7_copyOf_6403c X (fun (r2 : Option Nat) (g1 : GM) => post r2 g1) px v0 v1 (some (X.2.2.2 203)) g)
abbrev rm_J7_copyOf_1904c : Room := { frames := 2, cells := 1, slots := 64, locals := 103 }
set_option maxHeartbeats 4000000 in
set_option maxRecDepth 100000 in
theorem m_J7_copyOf_1904c {X : Cx} {l : Launch} (hfl : l.stackTraces = false) {post : Option Nat → GM → Prop} {px : String → GM → Prop} {v0 : Option Nat} {v1 : Int32} {g : GM} (hf : w_J7_copyOf_1904c X post px v0 v1 g) : gMet X l yJ7_copyOf_1904c cJ7_copyOf_1904c 2 (some (.array (.object "java/lang/Object"))) rm_J7_copyOf_1904c [va_rf v0, .int v1] g (qR X post) px := by
  refine gg_enter (L := [some (va_rf v0), some (.int v1)]) hfl (by decide +kernel) (by simp [lg_sl, gcat, gcI, gcL, gcF, gcD]) (by simp [gll, lv_args, gcat, gcI, gcL, gcF, gcD]) ?_
  intro p e s m args below meth c C hr ht hm
  have C : FC X p l s m args meth c cJ7_copyOf_1904c 2 "java/util/Arrays" := C
  unfold w_J7_copyOf_1904c at hf
  refine gg_aload_n C dJ7_copyOf_1904c_0 rfl ?_
  refine gg_iload_n C dJ7_copyOf_1904c_1 rfl ?_
  refine gg_aload_n C dJ7_copyOf_1904c_2 rfl ?_
  refine gg_getClass C dJ7_copyOf_1904c_3 tw_458 (by decide +kernel) tw_1407 tw_459 tw_480 (by decide) (by simp [gcat, gcI, gcL, gcF, gcD]) hf (fun hf => ?_)
  refine gr_R (k' := 1) (n' := 64) (gk_S (As := [va_rf v0, .int v1, va_rf (some (X.2.2.2 203))]) (rest := []) C dJ7_copyOf_1904c_6 tw_481 tw_482 tw_45 tw_483 gd_J7_copyOf_6403c rfl ⟨by decide, by decide⟩ (by simp [gcat, gcI, gcL, gcF, gcD]) ⟨by decide, by decide⟩ (m_J7_copyOf_6403c hfl hf)) rfl rfl (fun E g9 h9 => gx_out C (fun x hx => (ht x hx).elim) (by decide) (by decide) h9) (fun r2 g1 hf => ?_)
  exact gg_aret C hr (Or.inr ⟨_, rfl⟩) (by decide) (by decide) dJ7_copyOf_1904c_9 hf

def w_Jx4a65c_grow_92f84_b20 (X : Cx) (post : Option Nat → GM → Prop) (px : String → GM → Prop)  (l0 : Option Nat) (l1 : Int32) (l2 : Int32) (g : GM) : Prop :=
  w_J8_newLength_cabcc X (fun (i4 : Int32) (g3 : GM) => wGetR g3 l0 10 1 (fun (r5 : Option Nat) => w_J7_copyOf_1904c X (fun (r7 : Option Nat) (g6 : GM) => wPut g6 l0 10 1 (va_rf r7) (fun g8 => post r7 g8)) px r5 i4 g3)) px l2 (l1 - l2) (l2 >>> ((1 : Int32) &&& 31)) g
def w_Jx4a65c_grow_92f84 (X : Cx) (post : Option Nat → GM → Prop) (px : String → GM → Prop) (v0 : Option Nat) (v1 : Int32) (g : GM) : Prop :=
  wGetR g v0 10 1 (fun (r1 : Option Nat) => wLen X g r1 (fun (i2 : Int32) => (if 0 < i2 then w_Jx4a65c_grow_92f84_b20 X post px v0 v1 i2 g else wGetR g v0 10 1 (fun (r9 : Option Nat) => (if r9 = (some (X.2.2.2 200)) then (¬ (if (10 : Int32) < v1 then v1 else (10 : Int32)) < 0 ∧ ((if (10 : Int32) < v1 then v1 else (10 : Int32))).toNatClampNeg ≤ 64 ∧ wNew X g (.inl (4, ((if (10 : Int32) < v1 then v1 else (10 : Int32))).toNatClampNeg, .inr (.inr (.inr (.inr (fun _ => none)))))) (fun q10 g11 => wPut g11 v0 10 1 (va_rf (some q10)) (fun g12 => post (some q10) g12))) else w_Jx4a65c_grow_92f84_b20 X post px v0 v1 i2 g)))))
abbrev rm_Jx4a65c_grow_92f84 : Room := { frames := 3, cells := 1, slots := 64, locals := 124 }
set_option maxHeartbeats 4000000 in
set_option maxRecDepth 100000 in
theorem m_Jx4a65c_grow_92f84 {X : Cx} {l : Launch} (hfl : l.stackTraces = false) {post : Option Nat → GM → Prop} {px : String → GM → Prop} {v0 : Option Nat} {v1 : Int32} {g : GM} (hf : w_Jx4a65c_grow_92f84 X post px v0 v1 g) : gMet X l yJx4a65c_grow_92f84 cJx4a65c_grow_92f84 4 (some (.array (.object "java/lang/Object"))) rm_Jx4a65c_grow_92f84 [va_rf v0, .int v1] g (qR X post) px := by
  refine gg_enter (L := [some (va_rf v0), some (.int v1), none, none]) hfl (by decide +kernel) (by simp [lg_sl, gcat, gcI, gcL, gcF, gcD]) (by simp [gll, lv_args, gcat, gcI, gcL, gcF, gcD]) ?_
  intro p e s m args below meth c C hr ht hm
  have C : FC X p l s m args meth c cJx4a65c_grow_92f84 4 "java/util/ArrayList" := C
  have hb_20 : ∀ (l0 : Option Nat) (l1 : Int32) (l2 : Int32) (g : GM), w_Jx4a65c_grow_92f84_b20 X post px  l0 l1 l2 g → GG X p l e rm_Jx4a65c_grow_92f84 s m args below meth c 4 (vx_MQ below (qR X post) (gXC X px) args s rm_Jx4a65c_grow_92f84.cells rm_Jx4a65c_grow_92f84.slots (gA X)) 0 0 20 [some (va_rf l0), some (.int l1), some (.int l2), none] [] g := by
    intro  l0 l1 l2 g hf
    unfold w_Jx4a65c_grow_92f84_b20 at hf
    refine gg_iload_n C dJx4a65c_grow_92f84_20 rfl ?_
    refine gg_iload_n C dJx4a65c_grow_92f84_21 rfl ?_
    refine gg_iload_n C dJx4a65c_grow_92f84_22 rfl ?_
    refine gg_isub C dJx4a65c_grow_92f84_23 ?_
    refine gg_iload_n C dJx4a65c_grow_92f84_24 rfl ?_
    refine gg_iconst C dJx4a65c_grow_92f84_25 (v := (1 : Int32)) (by decide) ?_
    refine gg_ishr C dJx4a65c_grow_92f84_26 ?_
    refine gr_I (k' := 0) (n' := 0) (gk_S (As := [.int l2, .int (l1 - l2), .int (l2 >>> ((1 : Int32) &&& 31))]) (rest := []) C dJx4a65c_grow_92f84_27 tw_445 tw_446 tw_43 tw_447 gd_J8_newLength_cabcc rfl ⟨by decide, by decide⟩ (by simp [gcat, gcI, gcL, gcF, gcD]) ⟨by decide, by decide⟩ (m_J8_newLength_cabcc hfl hf)) rfl rfl (fun E g9 h9 => gx_out C (fun x hx => (ht x hx).elim) (by decide) (by decide) h9) (fun i4 g3 hf => ?_)
    refine gg_istore_n (L' := [some (va_rf l0), some (.int l1), some (.int l2), some (.int i4)]) C dJx4a65c_grow_92f84_30 (Or.inr (Or.inr ⟨_, rfl, rfl⟩)) (by decide) rfl ?_
    refine gg_aload_n C dJx4a65c_grow_92f84_31 rfl ?_
    refine gg_aload_n C dJx4a65c_grow_92f84_32 rfl ?_
    refine gg_getR C dJx4a65c_grow_92f84_33 lk_Jx4a65c_9 hf (fun r5 hf => ?_)
    refine gg_iload_n C dJx4a65c_grow_92f84_36 rfl ?_
    refine gr_R (k' := 1) (n' := 64) (gk_S (As := [va_rf r5, .int i4]) (rest := [va_rf l0]) C dJx4a65c_grow_92f84_37 tw_455 tw_456 tw_45 tw_457 gd_J7_copyOf_1904c rfl ⟨by decide, by decide⟩ (by simp [gcat, gcI, gcL, gcF, gcD]) ⟨by decide, by decide⟩ (m_J7_copyOf_1904c hfl hf)) rfl rfl (fun E g9 h9 => gx_out C (fun x hx => (ht x hx).elim) (by decide) (by decide) h9) (fun r7 g6 hf => ?_)
    refine gg_dup_x1 C dJx4a65c_grow_92f84_40 (gcat _) (gcat _) ?_
    refine gg_put C dJx4a65c_grow_92f84_41 pk_Jx4a65c_9 (gNar_arr _ _) hf (fun g8 hf => ?_)
    exact gg_aret C hr (Or.inr ⟨_, rfl⟩) (by decide) (by decide) dJx4a65c_grow_92f84_44 hf
  unfold w_Jx4a65c_grow_92f84 at hf
  refine gg_aload_n C dJx4a65c_grow_92f84_0 rfl ?_
  refine gg_getR C dJx4a65c_grow_92f84_1 lk_Jx4a65c_9 hf (fun r1 hf => ?_)
  refine gg_alen C dJx4a65c_grow_92f84_4 hf (fun i2 hf => ?_)
  refine gg_istore_n (L' := [some (va_rf v0), some (.int v1), some (.int i2), none]) C dJx4a65c_grow_92f84_5 (Or.inr (Or.inr ⟨_, rfl, rfl⟩)) (by decide) rfl ?_
  refine gg_iload_n C dJx4a65c_grow_92f84_6 rfl ?_
  refine gg_if_gt (tgt := 20) C dJx4a65c_grow_92f84_7 (by decide) hf (fun hf => ?_) (fun hf => ?_)
  · exact hb_20 _ _ _ _ hf
  · refine gg_aload_n C dJx4a65c_grow_92f84_10 rfl ?_
    refine gg_getR C dJx4a65c_grow_92f84_11 lk_Jx4a65c_9 hf (fun r9 hf => ?_)
    refine gg_s_empty C dJx4a65c_grow_92f84_14 tw_81 ?_
    refine gg_acmp_eq (tgt := 45) C dJx4a65c_grow_92f84_17 (by decide) hf (fun hf => ?_) (fun hf => ?_)
    · refine gg_aload_n C dJx4a65c_grow_92f84_45 rfl ?_
      refine gg_bipush C dJx4a65c_grow_92f84_46 (v := (10 : Int32)) (by decide) ?_
      refine gg_iload_n C dJx4a65c_grow_92f84_48 rfl ?_
      refine gg_mmax C dJx4a65c_grow_92f84_49 tw_493 tw_449 tw_44 tw_max (by decide) (by simp [gcat, gcI, gcL, gcF, gcD]) (by decide) (by decide) ?_
      refine gg_newobj' (cap := 64) C dJx4a65c_grow_92f84_52 tw_494 (by decide) (by decide) (by decide) rfl rfl hf (fun q10 g11 hf => ?_)
      refine gg_dup_x1 C dJx4a65c_grow_92f84_55 (gcat _) (gcat _) ?_
      refine gg_put C dJx4a65c_grow_92f84_56 pk_Jx4a65c_9 (gNar_arr _ _) hf (fun g12 hf => ?_)
      exact gg_aret C hr (Or.inr ⟨_, rfl⟩) (by decide) (by decide) dJx4a65c_grow_92f84_59 hf
    · exact hb_20 _ _ _ _ hf

def w_Jx4a65c_grow_d5877 (X : Cx) (post : Option Nat → GM → Prop) (px : String → GM → Prop) (v0 : Option Nat) (g : GM) : Prop :=
  wGetI g v0 10 2 (fun (i1 : Int32) => wIs g v0 10 (w_Jx4a65c_grow_92f84 X (fun (r3 : Option Nat) (g2 : GM) => post r3 g2) px v0 (i1 + (1 : Int32)) g))
abbrev rm_Jx4a65c_grow_d5877 : Room := { frames := 4, cells := 1, slots := 64, locals := 147 }
set_option maxHeartbeats 4000000 in
set_option maxRecDepth 100000 in
theorem m_Jx4a65c_grow_d5877 {X : Cx} {l : Launch} (hfl : l.stackTraces = false) {post : Option Nat → GM → Prop} {px : String → GM → Prop} {v0 : Option Nat} {g : GM} (hf : w_Jx4a65c_grow_d5877 X post px v0 g) : gMet X l yJx4a65c_grow_d5877 cJx4a65c_grow_d5877 1 (some (.array (.object "java/lang/Object"))) rm_Jx4a65c_grow_d5877 [va_rf v0] g (qR X post) px := by
  refine gg_enter (L := [some (va_rf v0)]) hfl (by decide +kernel) (by simp [lg_sl, gcat, gcI, gcL, gcF, gcD]) (by simp [gll, lv_args, gcat, gcI, gcL, gcF, gcD]) ?_
  intro p e s m args below meth c C hr ht hm
  have C : FC X p l s m args meth c cJx4a65c_grow_d5877 1 "java/util/ArrayList" := C
  unfold w_Jx4a65c_grow_d5877 at hf
  refine gg_aload_n C dJx4a65c_grow_d5877_0 rfl ?_
  refine gg_aload_n C dJx4a65c_grow_d5877_1 rfl ?_
  refine gg_getI C dJx4a65c_grow_d5877_2 lk_Jx4a65c_48 hf (fun i1 hf => ?_)
  refine gg_iconst C dJx4a65c_grow_d5877_5 (v := (1 : Int32)) (by decide) ?_
  refine gg_iadd C dJx4a65c_grow_d5877_6 ?_
  refine gr_R (k' := 1) (n' := 64) (gk_V (ci := 10) (As := [.int (i1 + (1 : Int32))]) (rest := []) C dJx4a65c_grow_d5877_7 rfl rfl tw_441 tw_443 tw_6 tw_28 tw_444 gd_Jx4a65c_grow_92f84 rfl ⟨by decide, by decide⟩ (by simp [gcat, gcI, gcL, gcF, gcD]) ⟨by decide, by decide⟩ hf (fun hf => m_Jx4a65c_grow_92f84 hfl hf)) rfl rfl (fun E g9 h9 => gx_out C (fun x hx => (ht x hx).elim) (by decide) (by decide) h9) (fun r3 g2 hf => ?_)
  exact gg_aret C hr (Or.inr ⟨_, rfl⟩) (by decide) (by decide) dJx4a65c_grow_d5877_10 hf

def w_Jx4a65c_add_72be8_b11 (X : Cx) (post : GM → Prop) (px : String → GM → Prop)  (l0 : Option Nat) (l1 : Option Nat) (l2 : Option Nat) (l3 : Int32) (g : GM) : Prop :=
  wAstq g l2 l3 l1 (fun g2 => wPut g2 l0 10 2 (.int (l3 + (1 : Int32))) (fun g3 => post g3))
def w_Jx4a65c_add_72be8 (X : Cx) (post : GM → Prop) (px : String → GM → Prop) (v0 : Option Nat) (v1 : Option Nat) (v2 : Option Nat) (v3 : Int32) (g : GM) : Prop :=
  wLen X g v2 (fun (i1 : Int32) => (if v3 = i1 then wIs g v0 10 (w_Jx4a65c_grow_d5877 X (fun (r5 : Option Nat) (g4 : GM) => w_Jx4a65c_add_72be8_b11 X post px v0 v1 r5 v3 g4) px v0 g) else w_Jx4a65c_add_72be8_b11 X post px v0 v1 v2 v3 g))
abbrev rm_Jx4a65c_add_72be8 : Room := { frames := 5, cells := 1, slots := 64, locals := 167 }
set_option maxHeartbeats 4000000 in
set_option maxRecDepth 100000 in
theorem m_Jx4a65c_add_72be8 {X : Cx} {l : Launch} (hfl : l.stackTraces = false) {post : GM → Prop} {px : String → GM → Prop} {v0 : Option Nat} {v1 : Option Nat} {v2 : Option Nat} {v3 : Int32} {g : GM} (hf : w_Jx4a65c_add_72be8 X post px v0 v1 v2 v3 g) : gMet X l yJx4a65c_add_72be8 cJx4a65c_add_72be8 4 none rm_Jx4a65c_add_72be8 [va_rf v0, va_rf v1, va_rf v2, .int v3] g (qV X post) px := by
  refine gg_enter (L := [some (va_rf v0), some (va_rf v1), some (va_rf v2), some (.int v3)]) hfl (by decide +kernel) (by simp [lg_sl, gcat, gcI, gcL, gcF, gcD]) (by simp [gll, lv_args, gcat, gcI, gcL, gcF, gcD]) ?_
  intro p e s m args below meth c C hr ht hm
  have C : FC X p l s m args meth c cJx4a65c_add_72be8 4 "java/util/ArrayList" := C
  have hb_11 : ∀ (l0 : Option Nat) (l1 : Option Nat) (l2 : Option Nat) (l3 : Int32) (g : GM), w_Jx4a65c_add_72be8_b11 X post px  l0 l1 l2 l3 g → GG X p l e rm_Jx4a65c_add_72be8 s m args below meth c 4 (vx_MQ below (qV X post) (gXC X px) args s rm_Jx4a65c_add_72be8.cells rm_Jx4a65c_add_72be8.slots (gA X)) 1 64 11 [some (va_rf l0), some (va_rf l1), some (va_rf l2), some (.int l3)] [] g := by
    intro  l0 l1 l2 l3 g hf
    unfold w_Jx4a65c_add_72be8_b11 at hf
    refine gg_aload_n C dJx4a65c_add_72be8_11 rfl ?_
    refine gg_iload_n C dJx4a65c_add_72be8_12 rfl ?_
    refine gg_aload_n C dJx4a65c_add_72be8_13 rfl ?_
    refine gg_aastore C dJx4a65c_add_72be8_14 hf (fun g2 hf => ?_)
    refine gg_aload_n C dJx4a65c_add_72be8_15 rfl ?_
    refine gg_iload_n C dJx4a65c_add_72be8_16 rfl ?_
    refine gg_iconst C dJx4a65c_add_72be8_17 (v := (1 : Int32)) (by decide) ?_
    refine gg_iadd C dJx4a65c_add_72be8_18 ?_
    refine gg_put C dJx4a65c_add_72be8_19 pk_Jx4a65c_48 (gNar_int _) hf (fun g3 hf => ?_)
    exact gg_vret C hr (by decide) (by decide) dJx4a65c_add_72be8_22 hf
  unfold w_Jx4a65c_add_72be8 at hf
  refine gg_iload_n C dJx4a65c_add_72be8_0 rfl ?_
  refine gg_aload_n C dJx4a65c_add_72be8_1 rfl ?_
  refine gg_alen C dJx4a65c_add_72be8_2 hf (fun i1 hf => ?_)
  refine gg_icmp_ne (tgt := 11) C dJx4a65c_add_72be8_3 (by decide) hf (fun hf => ?_) (fun hf => ?_)
  · exact gg_widen (k' := 1) (n' := 64) (by decide) (by decide) (hb_11 _ _ _ _ _ hf)
  · refine gg_aload_n C dJx4a65c_add_72be8_6 rfl ?_
    refine gr_R (k' := 1) (n' := 64) (gk_V (ci := 10) (As := []) (rest := []) C dJx4a65c_add_72be8_7 rfl rfl tw_437 tw_439 tw_5 tw_28 tw_440 gd_Jx4a65c_grow_d5877 rfl ⟨by decide, by decide⟩ (by simp [gcat, gcI, gcL, gcF, gcD]) ⟨by decide, by decide⟩ hf (fun hf => m_Jx4a65c_grow_d5877 hfl hf)) rfl rfl (fun E g9 h9 => gx_out C (fun x hx => (ht x hx).elim) (by decide) (by decide) h9) (fun r5 g4 hf => ?_)
    refine gg_astore_n (L' := [some (va_rf v0), some (va_rf v1), some (va_rf r5), some (.int v3)]) C dJx4a65c_add_72be8_10 (Or.inr (Or.inr ⟨_, rfl, gcat _⟩)) (by decide) rfl ?_
    exact hb_11 _ _ _ _ _ hf

def w_Jx4a65c_add_9ea2d (X : Cx) (post : Int32 → GM → Prop) (px : String → GM → Prop) (v0 : Option Nat) (v1 : Option Nat) (g : GM) : Prop :=
  wGetI g v0 10 0 (fun (i1 : Int32) => wPut g v0 10 0 (.int (i1 + (1 : Int32))) (fun g2 => wGetR g2 v0 10 1 (fun (r3 : Option Nat) => wGetI g2 v0 10 2 (fun (i4 : Int32) => wIs g2 v0 10 (w_Jx4a65c_add_72be8 X (fun (g5 : GM) => post (1 : Int32) g5) px v0 v1 r3 i4 g2)))))
abbrev rm_Jx4a65c_add_9ea2d : Room := { frames := 6, cells := 1, slots := 64, locals := 190 }
set_option maxHeartbeats 4000000 in
set_option maxRecDepth 100000 in
theorem m_Jx4a65c_add_9ea2d {X : Cx} {l : Launch} (hfl : l.stackTraces = false) {post : Int32 → GM → Prop} {px : String → GM → Prop} {v0 : Option Nat} {v1 : Option Nat} {g : GM} (hf : w_Jx4a65c_add_9ea2d X post px v0 v1 g) : gMet X l yJx4a65c_add_9ea2d cJx4a65c_add_9ea2d 2 (some .boolean) rm_Jx4a65c_add_9ea2d [va_rf v0, va_rf v1] g (qI X post) px := by
  refine gg_enter (L := [some (va_rf v0), some (va_rf v1)]) hfl (by decide +kernel) (by simp [lg_sl, gcat, gcI, gcL, gcF, gcD]) (by simp [gll, lv_args, gcat, gcI, gcL, gcF, gcD]) ?_
  intro p e s m args below meth c C hr ht hm
  have C : FC X p l s m args meth c cJx4a65c_add_9ea2d 2 "java/util/ArrayList" := C
  unfold w_Jx4a65c_add_9ea2d at hf
  refine gg_aload_n C dJx4a65c_add_9ea2d_0 rfl ?_
  refine gg_dup C dJx4a65c_add_9ea2d_1 (gcat _) ?_
  refine gg_getI C dJx4a65c_add_9ea2d_2 lk_Jx4a65c_63 hf (fun i1 hf => ?_)
  refine gg_iconst C dJx4a65c_add_9ea2d_5 (v := (1 : Int32)) (by decide) ?_
  refine gg_iadd C dJx4a65c_add_9ea2d_6 ?_
  refine gg_put C dJx4a65c_add_9ea2d_7 pk_Jx4a65c_63 (gNar_int _) hf (fun g2 hf => ?_)
  refine gg_aload_n C dJx4a65c_add_9ea2d_10 rfl ?_
  refine gg_aload_n C dJx4a65c_add_9ea2d_11 rfl ?_
  refine gg_aload_n C dJx4a65c_add_9ea2d_12 rfl ?_
  refine gg_getR C dJx4a65c_add_9ea2d_13 lk_Jx4a65c_9 hf (fun r3 hf => ?_)
  refine gg_aload_n C dJx4a65c_add_9ea2d_16 rfl ?_
  refine gg_getI C dJx4a65c_add_9ea2d_17 lk_Jx4a65c_48 hf (fun i4 hf => ?_)
  refine gr_V (k' := 1) (n' := 64) (gk_V (ci := 10) (As := [va_rf v1, va_rf r3, .int i4]) (rest := []) C dJx4a65c_add_9ea2d_20 rfl rfl tw_433 tw_435 tw_4 tw_28 tw_436 gd_Jx4a65c_add_72be8 rfl ⟨by decide, by decide⟩ (by simp [gcat, gcI, gcL, gcF, gcD]) ⟨by decide, by decide⟩ hf (fun hf => m_Jx4a65c_add_72be8 hfl hf)) rfl rfl (fun E g9 h9 => gx_out C (fun x hx => (ht x hx).elim) (by decide) (by decide) h9) (fun g5 hf => ?_)
  refine gg_iconst C dJx4a65c_add_9ea2d_23 (v := (1 : Int32)) (by decide) ?_
  exact gg_iret C hr (by decide) (by decide) dJx4a65c_add_9ea2d_24 rfl hf

def w_J3_checkIndex_8e157_b9 (X : Cx) (post : Int32 → GM → Prop) (px : String → GM → Prop)  (l0 : Int32) (l1 : Int32) (l2 : Option Nat) (g : GM) : Prop :=
  False
def w_J3_checkIndex_8e157 (X : Cx) (post : Int32 → GM → Prop) (px : String → GM → Prop) (v0 : Int32) (v1 : Int32) (v2 : Option Nat) (g : GM) : Prop :=
  (if v0 < 0 then w_J3_checkIndex_8e157_b9 X post px v0 v1 v2 g else (if v0 < v1 then post v0 g else w_J3_checkIndex_8e157_b9 X post px v0 v1 v2 g))
abbrev rm_J3_checkIndex_8e157 : Room := { frames := 0, cells := 0, slots := 0, locals := 0 }
set_option maxHeartbeats 4000000 in
set_option maxRecDepth 100000 in
theorem m_J3_checkIndex_8e157 {X : Cx} {l : Launch} (hfl : l.stackTraces = false) {post : Int32 → GM → Prop} {px : String → GM → Prop} {v0 : Int32} {v1 : Int32} {v2 : Option Nat} {g : GM} (hf : w_J3_checkIndex_8e157 X post px v0 v1 v2 g) : gMet X l yJ3_checkIndex_8e157 cJ3_checkIndex_8e157 3 (some .int) rm_J3_checkIndex_8e157 [.int v0, .int v1, va_rf v2] g (qI X post) px := by
  refine gg_enter (L := [some (.int v0), some (.int v1), some (va_rf v2)]) hfl (by decide +kernel) (by simp [lg_sl, gcat, gcI, gcL, gcF, gcD]) (by simp [gll, lv_args, gcat, gcI, gcL, gcF, gcD]) ?_
  intro p e s m args below meth c C hr ht hm
  have C : FC X p l s m args meth c cJ3_checkIndex_8e157 3 "jdk/internal/util/Preconditions" := C
  have hb_9 : ∀ (l0 : Int32) (l1 : Int32) (l2 : Option Nat) (g : GM), w_J3_checkIndex_8e157_b9 X post px  l0 l1 l2 g → GG X p l e rm_J3_checkIndex_8e157 s m args below meth c 3 (vx_MQ below (qI X post) (gXC X px) args s rm_J3_checkIndex_8e157.cells rm_J3_checkIndex_8e157.slots (gA X)) 0 0 9 [some (.int l0), some (.int l1), some (va_rf l2)] [] g := by
    intro  l0 l1 l2 g hf
    unfold w_J3_checkIndex_8e157_b9 at hf
    refine gg_aload_n C dJ3_checkIndex_8e157_9 rfl ?_
    refine gg_iload_n C dJ3_checkIndex_8e157_10 rfl ?_
    refine gg_iload_n C dJ3_checkIndex_8e157_11 rfl ?_
    exact hf.elim
  unfold w_J3_checkIndex_8e157 at hf
  refine gg_iload_n C dJ3_checkIndex_8e157_0 rfl ?_
  refine gg_if_lt (tgt := 9) C dJ3_checkIndex_8e157_1 (by decide) hf (fun hf => ?_) (fun hf => ?_)
  · exact hb_9 _ _ _ _ hf
  · refine gg_iload_n C dJ3_checkIndex_8e157_4 rfl ?_
    refine gg_iload_n C dJ3_checkIndex_8e157_5 rfl ?_
    refine gg_icmp_lt (tgt := 16) C dJ3_checkIndex_8e157_6 (by decide) hf (fun hf => ?_) (fun hf => ?_)
    · refine gg_iload_n C dJ3_checkIndex_8e157_16 rfl ?_
      exact gg_iret C hr (by decide) (by decide) dJ3_checkIndex_8e157_17 rfl hf
    · exact hb_9 _ _ _ _ hf

def w_J15_checkIndex_7cf53 (X : Cx) (post : Int32 → GM → Prop) (px : String → GM → Prop) (v0 : Int32) (v1 : Int32) (g : GM) : Prop :=
  w_J3_checkIndex_8e157 X (fun (i2 : Int32) (g1 : GM) => post i2 g1) px v0 v1 none g
abbrev rm_J15_checkIndex_7cf53 : Room := { frames := 1, cells := 0, slots := 0, locals := 22 }
set_option maxHeartbeats 4000000 in
set_option maxRecDepth 100000 in
theorem m_J15_checkIndex_7cf53 {X : Cx} {l : Launch} (hfl : l.stackTraces = false) {post : Int32 → GM → Prop} {px : String → GM → Prop} {v0 : Int32} {v1 : Int32} {g : GM} (hf : w_J15_checkIndex_7cf53 X post px v0 v1 g) : gMet X l yJ15_checkIndex_7cf53 cJ15_checkIndex_7cf53 2 (some .int) rm_J15_checkIndex_7cf53 [.int v0, .int v1] g (qI X post) px := by
  refine gg_enter (L := [some (.int v0), some (.int v1)]) hfl (by decide +kernel) (by simp [lg_sl, gcat, gcI, gcL, gcF, gcD]) (by simp [gll, lv_args, gcat, gcI, gcL, gcF, gcD]) ?_
  intro p e s m args below meth c C hr ht hm
  have C : FC X p l s m args meth c cJ15_checkIndex_7cf53 2 "java/util/Objects" := C
  unfold w_J15_checkIndex_7cf53 at hf
  refine gg_iload_n C dJ15_checkIndex_7cf53_0 rfl ?_
  refine gg_iload_n C dJ15_checkIndex_7cf53_1 rfl ?_
  refine gg_null C dJ15_checkIndex_7cf53_2 ?_
  refine gr_I (k' := 0) (n' := 0) (gk_S (As := [.int v0, .int v1, va_rf none]) (rest := []) C dJ15_checkIndex_7cf53_3 tw_295 tw_296 tw_39 tw_297 gd_J3_checkIndex_8e157 rfl ⟨by decide, by decide⟩ (by simp [gcat, gcI, gcL, gcF, gcD]) ⟨by decide, by decide⟩ (m_J3_checkIndex_8e157 hfl hf)) rfl rfl (fun E g9 h9 => gx_out C (fun x hx => (ht x hx).elim) (by decide) (by decide) h9) (fun i2 g1 hf => ?_)
  exact gg_iret C hr (by decide) (by decide) dJ15_checkIndex_7cf53_6 rfl hf

def w_Jx4a65c_elementData_915e3 (X : Cx) (post : Option Nat → GM → Prop) (px : String → GM → Prop) (v0 : Option Nat) (v1 : Int32) (g : GM) : Prop :=
  wGetR g v0 10 1 (fun (r1 : Option Nat) => wAldq g r1 v1 4 (fun (r2 : Option Nat) => post r2 g))
abbrev rm_Jx4a65c_elementData_915e3 : Room := { frames := 0, cells := 0, slots := 0, locals := 0 }
set_option maxHeartbeats 4000000 in
set_option maxRecDepth 100000 in
theorem m_Jx4a65c_elementData_915e3 {X : Cx} {l : Launch} (hfl : l.stackTraces = false) {post : Option Nat → GM → Prop} {px : String → GM → Prop} {v0 : Option Nat} {v1 : Int32} {g : GM} (hf : w_Jx4a65c_elementData_915e3 X post px v0 v1 g) : gMet X l yJx4a65c_elementData_915e3 cJx4a65c_elementData_915e3 2 (some (.object "java/lang/Object")) rm_Jx4a65c_elementData_915e3 [va_rf v0, .int v1] g (qR X post) px := by
  refine gg_enter (L := [some (va_rf v0), some (.int v1)]) hfl (by decide +kernel) (by simp [lg_sl, gcat, gcI, gcL, gcF, gcD]) (by simp [gll, lv_args, gcat, gcI, gcL, gcF, gcD]) ?_
  intro p e s m args below meth c C hr ht hm
  have C : FC X p l s m args meth c cJx4a65c_elementData_915e3 2 "java/util/ArrayList" := C
  unfold w_Jx4a65c_elementData_915e3 at hf
  refine gg_aload_n C dJx4a65c_elementData_915e3_0 rfl ?_
  refine gg_getR C dJx4a65c_elementData_915e3_1 lk_Jx4a65c_9 hf (fun r1 hf => ?_)
  refine gg_iload_n C dJx4a65c_elementData_915e3_4 rfl ?_
  refine gg_aaload (kd := 4) C dJx4a65c_elementData_915e3_5 rfl rfl hf (fun r2 hf => ?_)
  exact gg_aret C hr (Or.inl ⟨_, rfl⟩) (by decide) (by decide) dJx4a65c_elementData_915e3_6 hf

def w_Jx4a65c_get_915e3 (X : Cx) (post : Option Nat → GM → Prop) (px : String → GM → Prop) (v0 : Option Nat) (v1 : Int32) (g : GM) : Prop :=
  wGetI g v0 10 2 (fun (i1 : Int32) => w_J15_checkIndex_7cf53 X (fun (i3 : Int32) (g2 : GM) => wIs g2 v0 10 (w_Jx4a65c_elementData_915e3 X (fun (r5 : Option Nat) (g4 : GM) => post r5 g4) px v0 v1 g2)) px v1 i1 g)
abbrev rm_Jx4a65c_get_915e3 : Room := { frames := 2, cells := 0, slots := 0, locals := 43 }
set_option maxHeartbeats 4000000 in
set_option maxRecDepth 100000 in
theorem m_Jx4a65c_get_915e3 {X : Cx} {l : Launch} (hfl : l.stackTraces = false) {post : Option Nat → GM → Prop} {px : String → GM → Prop} {v0 : Option Nat} {v1 : Int32} {g : GM} (hf : w_Jx4a65c_get_915e3 X post px v0 v1 g) : gMet X l yJx4a65c_get_915e3 cJx4a65c_get_915e3 2 (some (.object "java/lang/Object")) rm_Jx4a65c_get_915e3 [va_rf v0, .int v1] g (qR X post) px := by
  refine gg_enter (L := [some (va_rf v0), some (.int v1)]) hfl (by decide +kernel) (by simp [lg_sl, gcat, gcI, gcL, gcF, gcD]) (by simp [gll, lv_args, gcat, gcI, gcL, gcF, gcD]) ?_
  intro p e s m args below meth c C hr ht hm
  have C : FC X p l s m args meth c cJx4a65c_get_915e3 2 "java/util/ArrayList" := C
  unfold w_Jx4a65c_get_915e3 at hf
  refine gg_iload_n C dJx4a65c_get_915e3_0 rfl ?_
  refine gg_aload_n C dJx4a65c_get_915e3_1 rfl ?_
  refine gg_getI C dJx4a65c_get_915e3_2 lk_Jx4a65c_48 hf (fun i1 hf => ?_)
  refine gr_I (k' := 0) (n' := 0) (gk_S (As := [.int v1, .int i1]) (rest := []) C dJx4a65c_get_915e3_5 tw_292 tw_293 tw_38 tw_294 gd_J15_checkIndex_7cf53 rfl ⟨by decide, by decide⟩ (by simp [gcat, gcI, gcL, gcF, gcD]) ⟨by decide, by decide⟩ (m_J15_checkIndex_7cf53 hfl hf)) rfl rfl (fun E g9 h9 => gx_out C (fun x hx => (ht x hx).elim) (by decide) (by decide) h9) (fun i3 g2 hf => ?_)
  refine gg_pop C dJx4a65c_get_915e3_8 (rfl) ?_
  refine gg_aload_n C dJx4a65c_get_915e3_9 rfl ?_
  refine gg_iload_n C dJx4a65c_get_915e3_10 rfl ?_
  refine gr_R (k' := 0) (n' := 0) (gk_V (ci := 10) (As := [.int v1]) (rest := []) C dJx4a65c_get_915e3_11 rfl rfl tw_298 tw_299 tw_300 tw_28 tw_301 gd_Jx4a65c_elementData_915e3 rfl ⟨by decide, by decide⟩ (by simp [gcat, gcI, gcL, gcF, gcD]) ⟨by decide, by decide⟩ hf (fun hf => m_Jx4a65c_elementData_915e3 hfl hf)) rfl rfl (fun E g9 h9 => gx_out C (fun x hx => (ht x hx).elim) (by decide) (by decide) h9) (fun r5 g4 hf => ?_)
  exact gg_aret C hr (Or.inl ⟨_, rfl⟩) (by decide) (by decide) dJx4a65c_get_915e3_14 hf

def w_X7_kindFor_b47 (X : Cx) (post : Option Nat → GM → Prop) (px : String → GM → Prop) (k2 : Option Nat → Int32 → Int32 → Int32 → GM → Prop) (l0 : Option Nat) (l1 : Int32) (l2 : Int32) (l3 : Int32) (g : GM) : Prop :=
  k2 l0 l1 l2 (l3 + 1) g
def w_X7_kindFor_l2 (X : Cx) (post : Option Nat → GM → Prop) (px : String → GM → Prop)  : Nat → Option Nat → Int32 → Int32 → Int32 → GM → Prop
  | 0, _, _, _, _, _ => False
  | f + 1, l0, l1, l2, l3, g => wGetR g l0 7 1 (fun (r1 : Option Nat) => wIs g r1 10 (w_Jx4a65c_size_8abf5 X (fun (i3 : Int32) (g2 : GM) => (if i3 ≤ l3 then wNew X g2 (.inr (3, [.int 0, .int 0, .null])) (fun q4 g5 => w_X3_init X (fun (g6 : GM) => wGetR g6 l0 7 1 (fun (r7 : Option Nat) => wIs g6 r7 10 (w_Jx4a65c_add_9ea2d X (fun (i9 : Int32) (g8 : GM) => post (some q4) g8) px r7 (some q4) g6))) px (some q4) l1 l2 g5) else wGetR g2 l0 7 1 (fun (r10 : Option Nat) => wIs g2 r10 10 (w_Jx4a65c_get_915e3 X (fun (r12 : Option Nat) (g11 : GM) => wIs g11 r12 3 (wGetI g11 r12 3 0 (fun (i13 : Int32) => (if i13 = l1 then wGetI g11 r12 3 1 (fun (i14 : Int32) => (if i14 = l2 then post r12 g11 else w_X7_kindFor_b47 X post px (w_X7_kindFor_l2 X post px f) l0 l1 l2 l3 g11)) else w_X7_kindFor_b47 X post px (w_X7_kindFor_l2 X post px f) l0 l1 l2 l3 g11)))) px r10 l3 g2)))) px r1 g))
def w_X7_kindFor (X : Cx) (post : Option Nat → GM → Prop) (px : String → GM → Prop) (v0 : Option Nat) (v1 : Int32) (v2 : Int32) (g : GM) : Prop :=
  w_X7_kindFor_l2 X post px 3000 v0 v1 v2 (0 : Int32) g
abbrev rm_X7_kindFor : Room := { frames := 7, cells := 4, slots := 170, locals := 211 }
set_option maxHeartbeats 4000000 in
set_option maxRecDepth 100000 in
theorem m_X7_kindFor {X : Cx} {l : Launch} (hfl : l.stackTraces = false) {post : Option Nat → GM → Prop} {px : String → GM → Prop} {v0 : Option Nat} {v1 : Int32} {v2 : Int32} {g : GM} (hf : w_X7_kindFor X post px v0 v1 v2 g) : gMet X l yX7_kindFor cX7_kindFor 5 (some (.object "Releasetrain$DeviceKind")) rm_X7_kindFor [va_rf v0, .int v1, .int v2] g (qR X post) px := by
  refine gg_enter (L := [some (va_rf v0), some (.int v1), some (.int v2), none, none]) hfl (by decide +kernel) (by simp [lg_sl, gcat, gcI, gcL, gcF, gcD]) (by simp [gll, lv_args, gcat, gcI, gcL, gcF, gcD]) ?_
  intro p e s m args below meth c C hr ht hm
  have C : FC X p l s m args meth c cX7_kindFor 5 "Releasetrain" := C
  have hb_47 : ∀ (k2 : Option Nat → Int32 → Int32 → Int32 → GM → Prop), (∀ (l0 : Option Nat) (l1 : Int32) (l2 : Int32) (l3 : Int32) (g : GM), k2 l0 l1 l2 l3 g → GG X p l e rm_X7_kindFor s m args below meth c 5 (vx_MQ below (qR X post) (gXC X px) args s rm_X7_kindFor.cells rm_X7_kindFor.slots (gA X)) 0 0 2 [some (va_rf l0), some (.int l1), some (.int l2), some (.int l3), none] [] g) → ∀ (l0 : Option Nat) (l1 : Int32) (l2 : Int32) (l3 : Int32) (g : GM), w_X7_kindFor_b47 X post px k2 l0 l1 l2 l3 g → GG X p l e rm_X7_kindFor s m args below meth c 5 (vx_MQ below (qR X post) (gXC X px) args s rm_X7_kindFor.cells rm_X7_kindFor.slots (gA X)) 0 0 47 [some (va_rf l0), some (.int l1), some (.int l2), some (.int l3), none] [] g := by
    intro k2 hk2 l0 l1 l2 l3 g hf
    unfold w_X7_kindFor_b47 at hf
    refine gg_iinc (L' := [some (va_rf l0), some (.int l1), some (.int l2), some (.int (l3 + 1)), none]) C dX7_kindFor_47 rfl (v := (l3 + 1)) rfl (Or.inr (Or.inr ⟨_, rfl, rfl⟩)) (by decide) rfl ?_
    refine gg_goto (tgt := 2) C dX7_kindFor_50 (by decide) ?_
    exact hk2 _ _ _ _ _ hf
  have hb_2 : ∀ (f : Nat) (l0 : Option Nat) (l1 : Int32) (l2 : Int32) (l3 : Int32) (g : GM), w_X7_kindFor_l2 X post px  f l0 l1 l2 l3 g → GG X p l e rm_X7_kindFor s m args below meth c 5 (vx_MQ below (qR X post) (gXC X px) args s rm_X7_kindFor.cells rm_X7_kindFor.slots (gA X)) 0 0 2 [some (va_rf l0), some (.int l1), some (.int l2), some (.int l3), none] [] g := by
    intro  f
    induction f with
    | zero => intro l0 l1 l2 l3 g hf; exact (show False from hf).elim
    | succ f ih =>
      intro l0 l1 l2 l3 g hf
      rw [w_X7_kindFor_l2] at hf
      refine gg_iload_n C dX7_kindFor_2 rfl ?_
      refine gg_aload_n C dX7_kindFor_3 rfl ?_
      refine gg_getR C dX7_kindFor_4 lk_X7_16 hf (fun r1 hf => ?_)
      refine gr_I (k' := 0) (n' := 0) (gk_V (ci := 10) (As := []) (rest := [.int l3]) C dX7_kindFor_7 rfl rfl tw_189 tw_190 tw_191 tw_28 tw_192 gd_Jx4a65c_size_8abf5 rfl ⟨by decide, by decide⟩ (by simp [gcat, gcI, gcL, gcF, gcD]) ⟨by decide, by decide⟩ hf (fun hf => m_Jx4a65c_size_8abf5 hfl hf)) rfl rfl (fun E g9 h9 => gx_out C (fun x hx => (ht x hx).elim) (by decide) (by decide) h9) (fun i3 g2 hf => ?_)
      refine gg_icmp_ge (tgt := 53) C dX7_kindFor_10 (by decide) hf (fun hf => ?_) (fun hf => ?_)
      · refine gg_new (k' := 1) (n' := 3) C dX7_kindFor_53 nk_X7_97 (by decide) (by decide) rfl rfl hf (fun q4 g5 hf => ?_)
        refine gg_dup C dX7_kindFor_56 (gcat _) ?_
        refine gg_iload_n C dX7_kindFor_57 rfl ?_
        refine gg_iload_n C dX7_kindFor_58 rfl ?_
        refine gr_V (k' := 3) (n' := 106) (gk_I (As := [.int l1, .int l2]) (rest := [va_rf (some q4)]) C dX7_kindFor_59 rfl tw_563 tw_564 tw_57 tw_565 gd_X3_init rfl ⟨by decide, by decide⟩ (by simp [gcat, gcI, gcL, gcF, gcD]) ⟨by decide, by decide⟩ (m_X3_init hfl hf)) rfl rfl (fun E g9 h9 => gx_out C (fun x hx => (ht x hx).elim) (by decide) (by decide) h9) (fun g6 hf => ?_)
        refine gg_astore_n (L' := [some (va_rf l0), some (.int l1), some (.int l2), some (va_rf (some q4)), none]) C dX7_kindFor_62 (Or.inr (Or.inr ⟨_, rfl, rfl⟩)) (by decide) rfl ?_
        refine gg_aload_n C dX7_kindFor_63 rfl ?_
        refine gg_getR C dX7_kindFor_64 lk_X7_16 hf (fun r7 hf => ?_)
        refine gg_aload_n C dX7_kindFor_67 rfl ?_
        refine gr_I (k' := 4) (n' := 170) (gk_V (ci := 10) (As := [va_rf (some q4)]) (rest := []) C dX7_kindFor_68 rfl rfl tw_429 tw_430 tw_431 tw_28 tw_432 gd_Jx4a65c_add_9ea2d rfl ⟨by decide, by decide⟩ (by simp [gcat, gcI, gcL, gcF, gcD]) ⟨by decide, by decide⟩ hf (fun hf => m_Jx4a65c_add_9ea2d hfl hf)) rfl rfl (fun E g9 h9 => gx_out C (fun x hx => (ht x hx).elim) (by decide) (by decide) h9) (fun i9 g8 hf => ?_)
        refine gg_pop C dX7_kindFor_71 (rfl) ?_
        refine gg_aload_n C dX7_kindFor_72 rfl ?_
        exact gg_aret C hr (Or.inl ⟨_, rfl⟩) (by decide) (by decide) dX7_kindFor_73 hf
      · refine gg_aload_n C dX7_kindFor_13 rfl ?_
        refine gg_getR C dX7_kindFor_14 lk_X7_16 hf (fun r10 hf => ?_)
        refine gg_iload_n C dX7_kindFor_17 rfl ?_
        refine gr_R (k' := 0) (n' := 0) (gk_V (ci := 10) (As := [.int l3]) (rest := []) C dX7_kindFor_18 rfl rfl tw_288 tw_289 tw_290 tw_28 tw_291 gd_Jx4a65c_get_915e3 rfl ⟨by decide, by decide⟩ (by simp [gcat, gcI, gcL, gcF, gcD]) ⟨by decide, by decide⟩ hf (fun hf => m_Jx4a65c_get_915e3 hfl hf)) rfl rfl (fun E g9 h9 => gx_out C (fun x hx => (ht x hx).elim) (by decide) (by decide) h9) (fun r12 g11 hf => ?_)
        refine gg_ccast (ci := 3) C dX7_kindFor_21 rfl tw_561 hf (fun hf => ?_)
        refine gg_astore (L' := [some (va_rf l0), some (.int l1), some (.int l2), some (.int l3), some (va_rf r12)]) C dX7_kindFor_24 (Or.inr (Or.inr ⟨_, rfl, rfl⟩)) (by decide) rfl ?_
        refine gg_aload C dX7_kindFor_26 rfl ?_
        refine gg_getI C dX7_kindFor_28 lk_X7_197 hf (fun i13 hf => ?_)
        refine gg_iload_n C dX7_kindFor_31 rfl ?_
        refine gg_icmp_ne (tgt := 47) C dX7_kindFor_32 (by decide) hf (fun hf => ?_) (fun hf => ?_)
        · exact gg_sub (L' := [some (va_rf l0), some (.int l1), some (.int l2), some (.int l3), none]) (by first | exact ⟨rfl, ⟨rfl, ⟨rfl, ⟨rfl, trivial⟩⟩⟩⟩ | simp [gsub]) (hb_47 _ ih _ _ _ _ _ hf)
        · refine gg_aload C dX7_kindFor_35 rfl ?_
          refine gg_getI C dX7_kindFor_37 lk_X7_200 hf (fun i14 hf => ?_)
          refine gg_iload_n C dX7_kindFor_40 rfl ?_
          refine gg_icmp_ne (tgt := 47) C dX7_kindFor_41 (by decide) hf (fun hf => ?_) (fun hf => ?_)
          · exact gg_sub (L' := [some (va_rf l0), some (.int l1), some (.int l2), some (.int l3), none]) (by first | exact ⟨rfl, ⟨rfl, ⟨rfl, ⟨rfl, trivial⟩⟩⟩⟩ | simp [gsub]) (hb_47 _ ih _ _ _ _ _ hf)
          · refine gg_aload C dX7_kindFor_44 rfl ?_
            exact gg_aret C hr (Or.inl ⟨_, rfl⟩) (by decide) (by decide) dX7_kindFor_46 hf
  unfold w_X7_kindFor at hf
  refine gg_iconst C dX7_kindFor_0 (v := (0 : Int32)) (by decide) ?_
  refine gg_istore_n (L' := [some (va_rf v0), some (.int v1), some (.int v2), some (.int (0 : Int32)), none]) C dX7_kindFor_1 (Or.inr (Or.inr ⟨_, rfl, rfl⟩)) (by decide) rfl ?_
  exact hb_2 _ _ _ _ _ _ hf

def w_X7_addDevice_b28 (X : Cx) (post : Int32 → GM → Prop) (px : String → GM → Prop)   (g : GM) : Prop :=
  px "java/lang/IllegalArgumentException" g
def w_X7_addDevice (X : Cx) (post : Int32 → GM → Prop) (px : String → GM → Prop) (v0 : Option Nat) (v1 : Int32) (v2 : Int32) (v3 : Int32) (g : GM) : Prop :=
  w_X7_outside X (fun (i2 : Int32) (g1 : GM) => (if i2 = 0 then w_X7_outside X (fun (i4 : Int32) (g3 : GM) => (if i4 = 0 then w_X7_outside X (fun (i6 : Int32) (g5 : GM) => (if i6 = 0 then wGetR g5 v0 7 0 (fun (r7 : Option Nat) => wIs g5 r7 10 (w_Jx4a65c_size_8abf5 X (fun (i9 : Int32) (g8 : GM) => (if i9 < (12 : Int32) then wGetR g8 v0 7 0 (fun (r10 : Option Nat) => wNew X g8 (.inr (2, [.int 0, .int 0, .int 0, .null, .int 0, .int 0])) (fun q11 g12 => w_X2_init X (fun (g13 : GM) => wIs g13 r10 10 (w_Jx4a65c_add_9ea2d X (fun (i15 : Int32) (g14 : GM) => wIs g14 v0 7 (w_X7_kindFor X (fun (r17 : Option Nat) (g16 : GM) => wGetR g16 r17 3 2 (fun (r18 : Option Nat) => wIs g16 r18 0 (w_X0_change X (fun (g19 : GM) => wGetR g19 v0 7 0 (fun (r20 : Option Nat) => wIs g19 r20 10 (w_Jx4a65c_size_8abf5 X (fun (i22 : Int32) (g21 : GM) => post (i22 - (1 : Int32)) g21) px r20 g19))) px r18 v3 (1 : Int32) g16))) px v0 v1 v2 g14)) px r10 (some q11) g13)) px (some q11) v1 v2 v3 g12)) else px "java/lang/IllegalStateException" g8)) px r7 g5)) else w_X7_addDevice_b28 X post px g5)) px v3 (0 : Int32) (99 : Int32) g3 else w_X7_addDevice_b28 X post px g3)) px v2 (0 : Int32) (2 : Int32) g1 else w_X7_addDevice_b28 X post px g1)) px v1 (0 : Int32) (5 : Int32) g
abbrev rm_X7_addDevice : Room := { frames := 8, cells := 6, slots := 240, locals := 235 }
set_option maxHeartbeats 4000000 in
set_option maxRecDepth 100000 in
theorem m_X7_addDevice {X : Cx} {l : Launch} (hfl : l.stackTraces = false) {post : Int32 → GM → Prop} {px : String → GM → Prop} {v0 : Option Nat} {v1 : Int32} {v2 : Int32} {v3 : Int32} {g : GM} (hf : w_X7_addDevice X post px v0 v1 v2 v3 g) : gMet X l yX7_addDevice cX7_addDevice 4 (some .int) rm_X7_addDevice [va_rf v0, .int v1, .int v2, .int v3] g (qI X post) px := by
  refine gg_enter (L := [some (va_rf v0), some (.int v1), some (.int v2), some (.int v3)]) hfl (by decide +kernel) (by simp [lg_sl, gcat, gcI, gcL, gcF, gcD]) (by simp [gll, lv_args, gcat, gcI, gcL, gcF, gcD]) ?_
  intro p e s m args below meth c C hr ht hm
  have C : FC X p l s m args meth c cX7_addDevice 4 "Releasetrain" := C
  have hb_28 : ∀  (g : GM), w_X7_addDevice_b28 X post px   g → GG X p l e rm_X7_addDevice s m args below meth c 4 (vx_MQ below (qI X post) (gXC X px) args s rm_X7_addDevice.cells rm_X7_addDevice.slots (gA X)) 0 0 28 [none, none, none, none] [] g := by
    intro   g hf
    unfold w_X7_addDevice_b28 at hf
    exact gg_throw (cls := "java/lang/IllegalArgumentException") (names := ["java/lang/RuntimeException", "java/lang/Exception"]) C (by decide +kernel) (by decide +kernel) tw_307 tw_50 xk_X7_71 (show ("Releasetrain", 69, "a number is out of range", 20) ∈ gStr by decide +kernel) dX7_addDevice_28 dX7_addDevice_31 dX7_addDevice_32 dX7_addDevice_34 dX7_addDevice_37 (fun x hx => (ht x hx).elim) (by decide) (by simp [gcat, gcI, gcL, gcF, gcD]) (by decide) (by decide) (by decide) (by decide) hf
  unfold w_X7_addDevice at hf
  refine gg_iload_n C dX7_addDevice_0 rfl ?_
  refine gg_iconst C dX7_addDevice_1 (v := (0 : Int32)) (by decide) ?_
  refine gg_iconst C dX7_addDevice_2 (v := (5 : Int32)) (by decide) ?_
  refine gr_I (k' := 0) (n' := 0) (gk_S (As := [.int v1, .int (0 : Int32), .int (5 : Int32)]) (rest := []) C dX7_addDevice_3 tw_213 tw_214 tw_25 tw_215 gd_X7_outside rfl ⟨by decide, by decide⟩ (by simp [gcat, gcI, gcL, gcF, gcD]) ⟨by decide, by decide⟩ (m_X7_outside hfl hf)) rfl rfl (fun E g9 h9 => gx_out C (fun x hx => (ht x hx).elim) (by decide) (by decide) h9) (fun i2 g1 hf => ?_)
  refine gg_if_ne (tgt := 28) C dX7_addDevice_6 (by decide) hf (fun hf => ?_) (fun hf => ?_)
  · exact gg_sub (L' := [none, none, none, none]) (by first | exact trivial | simp [gsub]) (hb_28 _ hf)
  · refine gg_iload_n C dX7_addDevice_9 rfl ?_
    refine gg_iconst C dX7_addDevice_10 (v := (0 : Int32)) (by decide) ?_
    refine gg_iconst C dX7_addDevice_11 (v := (2 : Int32)) (by decide) ?_
    refine gr_I (k' := 0) (n' := 0) (gk_S (As := [.int v2, .int (0 : Int32), .int (2 : Int32)]) (rest := []) C dX7_addDevice_12 tw_213 tw_214 tw_25 tw_215 gd_X7_outside rfl ⟨by decide, by decide⟩ (by simp [gcat, gcI, gcL, gcF, gcD]) ⟨by decide, by decide⟩ (m_X7_outside hfl hf)) rfl rfl (fun E g9 h9 => gx_out C (fun x hx => (ht x hx).elim) (by decide) (by decide) h9) (fun i4 g3 hf => ?_)
    refine gg_if_ne (tgt := 28) C dX7_addDevice_15 (by decide) hf (fun hf => ?_) (fun hf => ?_)
    · exact gg_sub (L' := [none, none, none, none]) (by first | exact trivial | simp [gsub]) (hb_28 _ hf)
    · refine gg_iload_n C dX7_addDevice_18 rfl ?_
      refine gg_iconst C dX7_addDevice_19 (v := (0 : Int32)) (by decide) ?_
      refine gg_bipush C dX7_addDevice_20 (v := (99 : Int32)) (by decide) ?_
      refine gr_I (k' := 0) (n' := 0) (gk_S (As := [.int v3, .int (0 : Int32), .int (99 : Int32)]) (rest := []) C dX7_addDevice_22 tw_213 tw_214 tw_25 tw_215 gd_X7_outside rfl ⟨by decide, by decide⟩ (by simp [gcat, gcI, gcL, gcF, gcD]) ⟨by decide, by decide⟩ (m_X7_outside hfl hf)) rfl rfl (fun E g9 h9 => gx_out C (fun x hx => (ht x hx).elim) (by decide) (by decide) h9) (fun i6 g5 hf => ?_)
      refine gg_if_eq (tgt := 38) C dX7_addDevice_25 (by decide) hf (fun hf => ?_) (fun hf => ?_)
      · refine gg_aload_n C dX7_addDevice_38 rfl ?_
        refine gg_getR C dX7_addDevice_39 lk_X7_10 hf (fun r7 hf => ?_)
        refine gr_I (k' := 0) (n' := 0) (gk_V (ci := 10) (As := []) (rest := []) C dX7_addDevice_42 rfl rfl tw_189 tw_190 tw_191 tw_28 tw_192 gd_Jx4a65c_size_8abf5 rfl ⟨by decide, by decide⟩ (by simp [gcat, gcI, gcL, gcF, gcD]) ⟨by decide, by decide⟩ hf (fun hf => m_Jx4a65c_size_8abf5 hfl hf)) rfl rfl (fun E g9 h9 => gx_out C (fun x hx => (ht x hx).elim) (by decide) (by decide) h9) (fun i9 g8 hf => ?_)
        refine gg_bipush C dX7_addDevice_45 (v := (12 : Int32)) (by decide) ?_
        refine gg_icmp_lt (tgt := 60) C dX7_addDevice_47 (by decide) hf (fun hf => ?_) (fun hf => ?_)
        · refine gg_aload_n C dX7_addDevice_60 rfl ?_
          refine gg_getR C dX7_addDevice_61 lk_X7_10 hf (fun r10 hf => ?_)
          refine gg_new (k' := 1) (n' := 6) C dX7_addDevice_64 nk_X7_83 (by decide) (by decide) rfl rfl hf (fun q11 g12 hf => ?_)
          refine gg_dup C dX7_addDevice_67 (gcat _) ?_
          refine gg_iload_n C dX7_addDevice_68 rfl ?_
          refine gg_iload_n C dX7_addDevice_69 rfl ?_
          refine gg_iload_n C dX7_addDevice_70 rfl ?_
          refine gr_V (k' := 1) (n' := 6) (gk_I (As := [.int v1, .int v2, .int v3]) (rest := [va_rf (some q11), va_rf r10]) C dX7_addDevice_71 rfl tw_528 tw_529 tw_56 tw_530 gd_X2_init rfl ⟨by decide, by decide⟩ (by simp [gcat, gcI, gcL, gcF, gcD]) ⟨by decide, by decide⟩ (m_X2_init hfl hf)) rfl rfl (fun E g9 h9 => gx_out C (fun x hx => (ht x hx).elim) (by decide) (by decide) h9) (fun g13 hf => ?_)
          refine gr_I (k' := 2) (n' := 70) (gk_V (ci := 10) (As := [va_rf (some q11)]) (rest := []) C dX7_addDevice_74 rfl rfl tw_429 tw_430 tw_431 tw_28 tw_432 gd_Jx4a65c_add_9ea2d rfl ⟨by decide, by decide⟩ (by simp [gcat, gcI, gcL, gcF, gcD]) ⟨by decide, by decide⟩ hf (fun hf => m_Jx4a65c_add_9ea2d hfl hf)) rfl rfl (fun E g9 h9 => gx_out C (fun x hx => (ht x hx).elim) (by decide) (by decide) h9) (fun i15 g14 hf => ?_)
          refine gg_pop C dX7_addDevice_77 (rfl) ?_
          refine gg_aload_n C dX7_addDevice_78 rfl ?_
          refine gg_iload_n C dX7_addDevice_79 rfl ?_
          refine gg_iload_n C dX7_addDevice_80 rfl ?_
          refine gr_R (k' := 6) (n' := 240) (gk_V (ci := 7) (As := [.int v1, .int v2]) (rest := []) C dX7_addDevice_81 rfl rfl tw_557 tw_559 tw_7 tw_25 tw_560 gd_X7_kindFor rfl ⟨by decide, by decide⟩ (by simp [gcat, gcI, gcL, gcF, gcD]) ⟨by decide, by decide⟩ hf (fun hf => m_X7_kindFor hfl hf)) rfl rfl (fun E g9 h9 => gx_out C (fun x hx => (ht x hx).elim) (by decide) (by decide) h9) (fun r17 g16 hf => ?_)
          refine gg_getR C dX7_addDevice_84 lk_X7_96 hf (fun r18 hf => ?_)
          refine gg_iload_n C dX7_addDevice_87 rfl ?_
          refine gg_iconst C dX7_addDevice_88 (v := (1 : Int32)) (by decide) ?_
          refine gr_V (k' := 6) (n' := 240) (gk_V (ci := 0) (As := [.int v3, .int (1 : Int32)]) (rest := []) C dX7_addDevice_89 rfl rfl tw_582 tw_583 tw_584 tw_58 tw_585 gd_X0_change rfl ⟨by decide, by decide⟩ (by simp [gcat, gcI, gcL, gcF, gcD]) ⟨by decide, by decide⟩ hf (fun hf => m_X0_change hfl hf)) rfl rfl (fun E g9 h9 => gx_out C (fun x hx => (ht x hx).elim) (by decide) (by decide) h9) (fun g19 hf => ?_)
          refine gg_aload_n C dX7_addDevice_92 rfl ?_
          refine gg_getR C dX7_addDevice_93 lk_X7_10 hf (fun r20 hf => ?_)
          refine gr_I (k' := 6) (n' := 240) (gk_V (ci := 10) (As := []) (rest := []) C dX7_addDevice_96 rfl rfl tw_189 tw_190 tw_191 tw_28 tw_192 gd_Jx4a65c_size_8abf5 rfl ⟨by decide, by decide⟩ (by simp [gcat, gcI, gcL, gcF, gcD]) ⟨by decide, by decide⟩ hf (fun hf => m_Jx4a65c_size_8abf5 hfl hf)) rfl rfl (fun E g9 h9 => gx_out C (fun x hx => (ht x hx).elim) (by decide) (by decide) h9) (fun i22 g21 hf => ?_)
          refine gg_iconst C dX7_addDevice_99 (v := (1 : Int32)) (by decide) ?_
          refine gg_isub C dX7_addDevice_100 ?_
          exact gg_iret C hr (by decide) (by decide) dX7_addDevice_101 rfl hf
        · exact gg_throw (cls := "java/lang/IllegalStateException") (names := ["java/lang/RuntimeException", "java/lang/Exception"]) C (by decide +kernel) (by decide +kernel) tw_327 tw_40 xk_X7_82 (show ("Releasetrain", 80, "there are 12 devices", 21) ∈ gStr by decide +kernel) dX7_addDevice_50 dX7_addDevice_53 dX7_addDevice_54 dX7_addDevice_56 dX7_addDevice_59 (fun x hx => (ht x hx).elim) (by decide) (by simp [gcat, gcI, gcL, gcF, gcD]) (by decide) (by decide) (by decide) (by decide) hf
      · exact gg_sub (L' := [none, none, none, none]) (by first | exact trivial | simp [gsub]) (hb_28 _ hf)

def w_X7_hasVersion_l2 (X : Cx) (post : Int32 → GM → Prop) (px : String → GM → Prop)  : Nat → Option Nat → Int32 → Int32 → GM → Prop
  | 0, _, _, _, _ => False
  | f + 1, l0, l1, l2, g => wGetR g l0 7 2 (fun (r1 : Option Nat) => wIs g r1 10 (w_Jx4a65c_size_8abf5 X (fun (i3 : Int32) (g2 : GM) => (if i3 ≤ l2 then post (0 : Int32) g2 else wGetR g2 l0 7 2 (fun (r4 : Option Nat) => wIs g2 r4 10 (w_Jx4a65c_get_915e3 X (fun (r6 : Option Nat) (g5 : GM) => wIs g5 r6 1 (wGetI g5 r6 1 1 (fun (i7 : Int32) => (if i7 = l1 then post (1 : Int32) g5 else w_X7_hasVersion_l2 X post px f l0 l1 (l2 + 1) g5)))) px r4 l2 g2)))) px r1 g))
def w_X7_hasVersion (X : Cx) (post : Int32 → GM → Prop) (px : String → GM → Prop) (v0 : Option Nat) (v1 : Int32) (g : GM) : Prop :=
  w_X7_hasVersion_l2 X post px 3000 v0 v1 (0 : Int32) g
abbrev rm_X7_hasVersion : Room := { frames := 3, cells := 0, slots := 0, locals := 64 }
set_option maxHeartbeats 4000000 in
set_option maxRecDepth 100000 in
theorem m_X7_hasVersion {X : Cx} {l : Launch} (hfl : l.stackTraces = false) {post : Int32 → GM → Prop} {px : String → GM → Prop} {v0 : Option Nat} {v1 : Int32} {g : GM} (hf : w_X7_hasVersion X post px v0 v1 g) : gMet X l yX7_hasVersion cX7_hasVersion 3 (some .boolean) rm_X7_hasVersion [va_rf v0, .int v1] g (qI X post) px := by
  refine gg_enter (L := [some (va_rf v0), some (.int v1), none]) hfl (by decide +kernel) (by simp [lg_sl, gcat, gcI, gcL, gcF, gcD]) (by simp [gll, lv_args, gcat, gcI, gcL, gcF, gcD]) ?_
  intro p e s m args below meth c C hr ht hm
  have C : FC X p l s m args meth c cX7_hasVersion 3 "Releasetrain" := C
  have hb_2 : ∀ (f : Nat) (l0 : Option Nat) (l1 : Int32) (l2 : Int32) (g : GM), w_X7_hasVersion_l2 X post px  f l0 l1 l2 g → GG X p l e rm_X7_hasVersion s m args below meth c 3 (vx_MQ below (qI X post) (gXC X px) args s rm_X7_hasVersion.cells rm_X7_hasVersion.slots (gA X)) 0 0 2 [some (va_rf l0), some (.int l1), some (.int l2)] [] g := by
    intro  f
    induction f with
    | zero => intro l0 l1 l2 g hf; exact (show False from hf).elim
    | succ f ih =>
      intro l0 l1 l2 g hf
      rw [w_X7_hasVersion_l2] at hf
      refine gg_iload_n C dX7_hasVersion_2 rfl ?_
      refine gg_aload_n C dX7_hasVersion_3 rfl ?_
      refine gg_getR C dX7_hasVersion_4 lk_X7_19 hf (fun r1 hf => ?_)
      refine gr_I (k' := 0) (n' := 0) (gk_V (ci := 10) (As := []) (rest := [.int l2]) C dX7_hasVersion_7 rfl rfl tw_189 tw_190 tw_191 tw_28 tw_192 gd_Jx4a65c_size_8abf5 rfl ⟨by decide, by decide⟩ (by simp [gcat, gcI, gcL, gcF, gcD]) ⟨by decide, by decide⟩ hf (fun hf => m_Jx4a65c_size_8abf5 hfl hf)) rfl rfl (fun E g9 h9 => gx_out C (fun x hx => (ht x hx).elim) (by decide) (by decide) h9) (fun i3 g2 hf => ?_)
      refine gg_icmp_ge (tgt := 39) C dX7_hasVersion_10 (by decide) hf (fun hf => ?_) (fun hf => ?_)
      · refine gg_iconst C dX7_hasVersion_39 (v := (0 : Int32)) (by decide) ?_
        exact gg_iret C hr (by decide) (by decide) dX7_hasVersion_40 rfl hf
      · refine gg_aload_n C dX7_hasVersion_13 rfl ?_
        refine gg_getR C dX7_hasVersion_14 lk_X7_19 hf (fun r4 hf => ?_)
        refine gg_iload_n C dX7_hasVersion_17 rfl ?_
        refine gr_R (k' := 0) (n' := 0) (gk_V (ci := 10) (As := [.int l2]) (rest := []) C dX7_hasVersion_18 rfl rfl tw_288 tw_289 tw_290 tw_28 tw_291 gd_Jx4a65c_get_915e3 rfl ⟨by decide, by decide⟩ (by simp [gcat, gcI, gcL, gcF, gcD]) ⟨by decide, by decide⟩ hf (fun hf => m_Jx4a65c_get_915e3 hfl hf)) rfl rfl (fun E g9 h9 => gx_out C (fun x hx => (ht x hx).elim) (by decide) (by decide) h9) (fun r6 g5 hf => ?_)
        refine gg_ccast (ci := 1) C dX7_hasVersion_21 rfl tw_302 hf (fun hf => ?_)
        refine gg_getI C dX7_hasVersion_24 lk_X7_364 hf (fun i7 hf => ?_)
        refine gg_iload_n C dX7_hasVersion_27 rfl ?_
        refine gg_icmp_ne (tgt := 33) C dX7_hasVersion_28 (by decide) hf (fun hf => ?_) (fun hf => ?_)
        · refine gg_iinc (L' := [some (va_rf l0), some (.int l1), some (.int (l2 + 1))]) C dX7_hasVersion_33 rfl (v := (l2 + 1)) rfl (Or.inr (Or.inr ⟨_, rfl, rfl⟩)) (by decide) rfl ?_
          refine gg_goto (tgt := 2) C dX7_hasVersion_36 (by decide) ?_
          exact ih _ _ _ _ hf
        · refine gg_iconst C dX7_hasVersion_31 (v := (1 : Int32)) (by decide) ?_
          exact gg_iret C hr (by decide) (by decide) dX7_hasVersion_32 rfl hf
  unfold w_X7_hasVersion at hf
  refine gg_iconst C dX7_hasVersion_0 (v := (0 : Int32)) (by decide) ?_
  refine gg_istore_n (L' := [some (va_rf v0), some (.int v1), some (.int (0 : Int32))]) C dX7_hasVersion_1 (Or.inr (Or.inr ⟨_, rfl, rfl⟩)) (by decide) rfl ?_
  exact hb_2 _ _ _ _ _ hf

def w_X7_addDraft_b33 (X : Cx) (post : Int32 → GM → Prop) (px : String → GM → Prop)   (g : GM) : Prop :=
  px "java/lang/IllegalArgumentException" g
def w_X7_addDraft_b63 (X : Cx) (post : Int32 → GM → Prop) (px : String → GM → Prop)   (g : GM) : Prop :=
  px "java/lang/IllegalStateException" g
def w_X7_addDraft (X : Cx) (post : Int32 → GM → Prop) (px : String → GM → Prop) (v0 : Option Nat) (v1 : Int32) (v2 : Option Nat) (v3 : Int32) (v4 : Int32) (v5 : Option Nat) (g : GM) : Prop :=
  w_X7_outside X (fun (i2 : Int32) (g1 : GM) => (if i2 = 0 then w_X7_outside X (fun (i4 : Int32) (g3 : GM) => (if i4 = 0 then w_X7_outside X (fun (i6 : Int32) (g5 : GM) => (if i6 = 0 then wIs g5 v0 7 (w_X7_hasVersion X (fun (i8 : Int32) (g7 : GM) => (if i8 = 0 then wGetR g7 v0 7 2 (fun (r9 : Option Nat) => wIs g7 r9 10 (w_Jx4a65c_size_8abf5 X (fun (i11 : Int32) (g10 : GM) => (if i11 < (10 : Int32) then wNew X g10 (.inr (1, [.int 0, .int 0, .null, .int 0, .int 0, .null, .null, .int 0, .int 0, .int 0, .int 0, .int 0, .int 0, .int 0, .int 0, .int 0])) (fun q12 g13 => wGetR g13 v0 7 2 (fun (r14 : Option Nat) => wIs g13 r14 10 (w_Jx4a65c_size_8abf5 X (fun (i16 : Int32) (g15 : GM) => w_X1_init X (fun (g17 : GM) => wGetR g17 v0 7 2 (fun (r18 : Option Nat) => wIs g17 r18 10 (w_Jx4a65c_add_9ea2d X (fun (i20 : Int32) (g19 : GM) => wGetI g19 (some q12) 1 0 (fun (i21 : Int32) => post i21 g19)) px r18 (some q12) g17))) px (some q12) i16 v1 v2 v3 v4 v5 g15) px r14 g13))) else w_X7_addDraft_b63 X post px g10)) px r9 g7)) else w_X7_addDraft_b63 X post px g7)) px v0 v1 g5) else w_X7_addDraft_b33 X post px g5)) px v4 (0 : Int32) (15 : Int32) g3 else w_X7_addDraft_b33 X post px g3)) px v3 (1 : Int32) (500 : Int32) g1 else w_X7_addDraft_b33 X post px g1)) px v1 (1 : Int32) (999 : Int32) g
abbrev rm_X7_addDraft : Room := { frames := 7, cells := 4, slots := 183, locals := 211 }
set_option maxHeartbeats 4000000 in
set_option maxRecDepth 100000 in
theorem m_X7_addDraft {X : Cx} {l : Launch} (hfl : l.stackTraces = false) {post : Int32 → GM → Prop} {px : String → GM → Prop} {v0 : Option Nat} {v1 : Int32} {v2 : Option Nat} {v3 : Int32} {v4 : Int32} {v5 : Option Nat} {g : GM} (hf : w_X7_addDraft X post px v0 v1 v2 v3 v4 v5 g) : gMet X l yX7_addDraft cX7_addDraft 7 (some .int) rm_X7_addDraft [va_rf v0, .int v1, va_rf v2, .int v3, .int v4, va_rf v5] g (qI X post) px := by
  refine gg_enter (L := [some (va_rf v0), some (.int v1), some (va_rf v2), some (.int v3), some (.int v4), some (va_rf v5), none]) hfl (by decide +kernel) (by simp [lg_sl, gcat, gcI, gcL, gcF, gcD]) (by simp [gll, lv_args, gcat, gcI, gcL, gcF, gcD]) ?_
  intro p e s m args below meth c C hr ht hm
  have C : FC X p l s m args meth c cX7_addDraft 7 "Releasetrain" := C
  have hb_33 : ∀  (g : GM), w_X7_addDraft_b33 X post px   g → GG X p l e rm_X7_addDraft s m args below meth c 7 (vx_MQ below (qI X post) (gXC X px) args s rm_X7_addDraft.cells rm_X7_addDraft.slots (gA X)) 0 0 33 [none, none, none, none, none, none, none] [] g := by
    intro   g hf
    unfold w_X7_addDraft_b33 at hf
    exact gg_throw (cls := "java/lang/IllegalArgumentException") (names := ["java/lang/RuntimeException", "java/lang/Exception"]) C (by decide +kernel) (by decide +kernel) tw_307 tw_50 xk_X7_71 (show ("Releasetrain", 69, "a number is out of range", 20) ∈ gStr by decide +kernel) dX7_addDraft_33 dX7_addDraft_36 dX7_addDraft_37 dX7_addDraft_39 dX7_addDraft_42 (fun x hx => (ht x hx).elim) (by decide) (by simp [gcat, gcI, gcL, gcF, gcD]) (by decide) (by decide) (by decide) (by decide) hf
  have hb_63 : ∀  (g : GM), w_X7_addDraft_b63 X post px   g → GG X p l e rm_X7_addDraft s m args below meth c 7 (vx_MQ below (qI X post) (gXC X px) args s rm_X7_addDraft.cells rm_X7_addDraft.slots (gA X)) 0 0 63 [none, none, none, none, none, none, none] [] g := by
    intro   g hf
    unfold w_X7_addDraft_b63 at hf
    exact gg_throwW (cls := "java/lang/IllegalStateException") (names := ["java/lang/RuntimeException", "java/lang/Exception"]) C (by decide +kernel) (by decide +kernel) tw_327 tw_40 xk_X7_82 (show ("Releasetrain", 413, "a build has this version, or there are 10 builds", 45) ∈ gStr by decide +kernel) dX7_addDraft_63 dX7_addDraft_66 dX7_addDraft_67 dX7_addDraft_70 dX7_addDraft_73 (fun x hx => (ht x hx).elim) (by decide) (by simp [gcat, gcI, gcL, gcF, gcD]) (by decide) (by decide) (by decide) (by decide) hf
  unfold w_X7_addDraft at hf
  refine gg_iload_n C dX7_addDraft_0 rfl ?_
  refine gg_iconst C dX7_addDraft_1 (v := (1 : Int32)) (by decide) ?_
  refine gg_sipush C dX7_addDraft_2 (v := (999 : Int32)) (by decide) ?_
  refine gr_I (k' := 0) (n' := 0) (gk_S (As := [.int v1, .int (1 : Int32), .int (999 : Int32)]) (rest := []) C dX7_addDraft_5 tw_213 tw_214 tw_25 tw_215 gd_X7_outside rfl ⟨by decide, by decide⟩ (by simp [gcat, gcI, gcL, gcF, gcD]) ⟨by decide, by decide⟩ (m_X7_outside hfl hf)) rfl rfl (fun E g9 h9 => gx_out C (fun x hx => (ht x hx).elim) (by decide) (by decide) h9) (fun i2 g1 hf => ?_)
  refine gg_if_ne (tgt := 33) C dX7_addDraft_8 (by decide) hf (fun hf => ?_) (fun hf => ?_)
  · exact gg_sub (L' := [none, none, none, none, none, none, none]) (by first | exact trivial | simp [gsub]) (hb_33 _ hf)
  · refine gg_iload_n C dX7_addDraft_11 rfl ?_
    refine gg_iconst C dX7_addDraft_12 (v := (1 : Int32)) (by decide) ?_
    refine gg_sipush C dX7_addDraft_13 (v := (500 : Int32)) (by decide) ?_
    refine gr_I (k' := 0) (n' := 0) (gk_S (As := [.int v3, .int (1 : Int32), .int (500 : Int32)]) (rest := []) C dX7_addDraft_16 tw_213 tw_214 tw_25 tw_215 gd_X7_outside rfl ⟨by decide, by decide⟩ (by simp [gcat, gcI, gcL, gcF, gcD]) ⟨by decide, by decide⟩ (m_X7_outside hfl hf)) rfl rfl (fun E g9 h9 => gx_out C (fun x hx => (ht x hx).elim) (by decide) (by decide) h9) (fun i4 g3 hf => ?_)
    refine gg_if_ne (tgt := 33) C dX7_addDraft_19 (by decide) hf (fun hf => ?_) (fun hf => ?_)
    · exact gg_sub (L' := [none, none, none, none, none, none, none]) (by first | exact trivial | simp [gsub]) (hb_33 _ hf)
    · refine gg_iload C dX7_addDraft_22 rfl ?_
      refine gg_iconst C dX7_addDraft_24 (v := (0 : Int32)) (by decide) ?_
      refine gg_bipush C dX7_addDraft_25 (v := (15 : Int32)) (by decide) ?_
      refine gr_I (k' := 0) (n' := 0) (gk_S (As := [.int v4, .int (0 : Int32), .int (15 : Int32)]) (rest := []) C dX7_addDraft_27 tw_213 tw_214 tw_25 tw_215 gd_X7_outside rfl ⟨by decide, by decide⟩ (by simp [gcat, gcI, gcL, gcF, gcD]) ⟨by decide, by decide⟩ (m_X7_outside hfl hf)) rfl rfl (fun E g9 h9 => gx_out C (fun x hx => (ht x hx).elim) (by decide) (by decide) h9) (fun i6 g5 hf => ?_)
      refine gg_if_eq (tgt := 43) C dX7_addDraft_30 (by decide) hf (fun hf => ?_) (fun hf => ?_)
      · refine gg_aload_n C dX7_addDraft_43 rfl ?_
        refine gg_iload_n C dX7_addDraft_44 rfl ?_
        refine gr_I (k' := 0) (n' := 0) (gk_V (ci := 7) (As := [.int v1]) (rest := []) C dX7_addDraft_45 rfl rfl tw_323 tw_325 tw_3 tw_25 tw_326 gd_X7_hasVersion rfl ⟨by decide, by decide⟩ (by simp [gcat, gcI, gcL, gcF, gcD]) ⟨by decide, by decide⟩ hf (fun hf => m_X7_hasVersion hfl hf)) rfl rfl (fun E g9 h9 => gx_out C (fun x hx => (ht x hx).elim) (by decide) (by decide) h9) (fun i8 g7 hf => ?_)
        refine gg_if_ne (tgt := 63) C dX7_addDraft_48 (by decide) hf (fun hf => ?_) (fun hf => ?_)
        · exact gg_sub (L' := [none, none, none, none, none, none, none]) (by first | exact trivial | simp [gsub]) (hb_63 _ hf)
        · refine gg_aload_n C dX7_addDraft_51 rfl ?_
          refine gg_getR C dX7_addDraft_52 lk_X7_19 hf (fun r9 hf => ?_)
          refine gr_I (k' := 0) (n' := 0) (gk_V (ci := 10) (As := []) (rest := []) C dX7_addDraft_55 rfl rfl tw_189 tw_190 tw_191 tw_28 tw_192 gd_Jx4a65c_size_8abf5 rfl ⟨by decide, by decide⟩ (by simp [gcat, gcI, gcL, gcF, gcD]) ⟨by decide, by decide⟩ hf (fun hf => m_Jx4a65c_size_8abf5 hfl hf)) rfl rfl (fun E g9 h9 => gx_out C (fun x hx => (ht x hx).elim) (by decide) (by decide) h9) (fun i11 g10 hf => ?_)
          refine gg_bipush C dX7_addDraft_58 (v := (10 : Int32)) (by decide) ?_
          refine gg_icmp_lt (tgt := 74) C dX7_addDraft_60 (by decide) hf (fun hf => ?_) (fun hf => ?_)
          · refine gg_new (k' := 1) (n' := 16) C dX7_addDraft_74 nk_X7_120 (by decide) (by decide) rfl rfl hf (fun q12 g13 hf => ?_)
            refine gg_dup C dX7_addDraft_77 (gcat _) ?_
            refine gg_aload_n C dX7_addDraft_78 rfl ?_
            refine gg_getR C dX7_addDraft_79 lk_X7_19 hf (fun r14 hf => ?_)
            refine gr_I (k' := 1) (n' := 16) (gk_V (ci := 10) (As := []) (rest := [va_rf (some q12), va_rf (some q12)]) C dX7_addDraft_82 rfl rfl tw_189 tw_190 tw_191 tw_28 tw_192 gd_Jx4a65c_size_8abf5 rfl ⟨by decide, by decide⟩ (by simp [gcat, gcI, gcL, gcF, gcD]) ⟨by decide, by decide⟩ hf (fun hf => m_Jx4a65c_size_8abf5 hfl hf)) rfl rfl (fun E g9 h9 => gx_out C (fun x hx => (ht x hx).elim) (by decide) (by decide) h9) (fun i16 g15 hf => ?_)
            refine gg_iload_n C dX7_addDraft_85 rfl ?_
            refine gg_aload_n C dX7_addDraft_86 rfl ?_
            refine gg_iload_n C dX7_addDraft_87 rfl ?_
            refine gg_iload C dX7_addDraft_88 rfl ?_
            refine gg_aload C dX7_addDraft_90 rfl ?_
            refine gr_V (k' := 3) (n' := 119) (gk_I (As := [.int i16, .int v1, va_rf v2, .int v3, .int v4, va_rf v5]) (rest := [va_rf (some q12)]) C dX7_addDraft_92 rfl tw_344 tw_345 tw_59 tw_346 gd_X1_init rfl ⟨by decide, by decide⟩ (by simp [gcat, gcI, gcL, gcF, gcD]) ⟨by decide, by decide⟩ (m_X1_init hfl hf)) rfl rfl (fun E g9 h9 => gx_out C (fun x hx => (ht x hx).elim) (by decide) (by decide) h9) (fun g17 hf => ?_)
            refine gg_astore (L' := [some (va_rf v0), some (.int v1), some (va_rf v2), some (.int v3), some (.int v4), some (va_rf v5), some (va_rf (some q12))]) C dX7_addDraft_95 (Or.inr (Or.inr ⟨_, rfl, gcat _⟩)) (by decide) rfl ?_
            refine gg_aload_n C dX7_addDraft_97 rfl ?_
            refine gg_getR C dX7_addDraft_98 lk_X7_19 hf (fun r18 hf => ?_)
            refine gg_aload C dX7_addDraft_101 rfl ?_
            refine gr_I (k' := 4) (n' := 183) (gk_V (ci := 10) (As := [va_rf (some q12)]) (rest := []) C dX7_addDraft_103 rfl rfl tw_429 tw_430 tw_431 tw_28 tw_432 gd_Jx4a65c_add_9ea2d rfl ⟨by decide, by decide⟩ (by simp [gcat, gcI, gcL, gcF, gcD]) ⟨by decide, by decide⟩ hf (fun hf => m_Jx4a65c_add_9ea2d hfl hf)) rfl rfl (fun E g9 h9 => gx_out C (fun x hx => (ht x hx).elim) (by decide) (by decide) h9) (fun i20 g19 hf => ?_)
            refine gg_pop C dX7_addDraft_106 (rfl) ?_
            refine gg_aload C dX7_addDraft_107 rfl ?_
            refine gg_getI C dX7_addDraft_109 lk_X7_142 hf (fun i21 hf => ?_)
            exact gg_iret C hr (by decide) (by decide) dX7_addDraft_112 rfl hf
          · exact gg_sub (L' := [none, none, none, none, none, none, none]) (by first | exact trivial | simp [gsub]) (hb_63 _ hf)
      · exact gg_sub (L' := [none, none, none, none, none, none, none]) (by first | exact trivial | simp [gsub]) (hb_33 _ hf)

def w_X7_addBuild_b32 (X : Cx) (post : Int32 → GM → Prop) (px : String → GM → Prop)   (g : GM) : Prop :=
  px "java/lang/IllegalArgumentException" g
def w_X7_addBuild (X : Cx) (post : Int32 → GM → Prop) (px : String → GM → Prop) (v0 : Option Nat) (v1 : Int32) (v2 : Int32) (v3 : Int32) (v4 : Int32) (v5 : Int32) (v6 : Int32) (g : GM) : Prop :=
  w_X7_outside X (fun (i2 : Int32) (g1 : GM) => (if i2 = 0 then w_X7_outside X (fun (i4 : Int32) (g3 : GM) => (if i4 = 0 then w_X7_outside X (fun (i6 : Int32) (g5 : GM) => (if i6 = 0 then wNew X g5 (.inr (5, [.int 0, .int 0, .int 0])) (fun q7 g8 => w_X5_init X (fun (g9 : GM) => wIs g9 v0 7 (w_X7_addDraft X (fun (i11 : Int32) (g10 : GM) => post i11 g10) px v0 v1 (some q7) v4 v5 none g9)) px (some q7) v2 v3 v6 g8) else w_X7_addBuild_b32 X post px g5)) px v6 (0 : Int32) (255 : Int32) g3 else w_X7_addBuild_b32 X post px g3)) px v3 (1 : Int32) (7 : Int32) g1 else w_X7_addBuild_b32 X post px g1)) px v2 (1 : Int32) (63 : Int32) g
abbrev rm_X7_addBuild : Room := { frames := 8, cells := 5, slots := 186, locals := 237 }
set_option maxHeartbeats 4000000 in
set_option maxRecDepth 100000 in
theorem m_X7_addBuild {X : Cx} {l : Launch} (hfl : l.stackTraces = false) {post : Int32 → GM → Prop} {px : String → GM → Prop} {v0 : Option Nat} {v1 : Int32} {v2 : Int32} {v3 : Int32} {v4 : Int32} {v5 : Int32} {v6 : Int32} {g : GM} (hf : w_X7_addBuild X post px v0 v1 v2 v3 v4 v5 v6 g) : gMet X l yX7_addBuild cX7_addBuild 7 (some .int) rm_X7_addBuild [va_rf v0, .int v1, .int v2, .int v3, .int v4, .int v5, .int v6] g (qI X post) px := by
  refine gg_enter (L := [some (va_rf v0), some (.int v1), some (.int v2), some (.int v3), some (.int v4), some (.int v5), some (.int v6)]) hfl (by decide +kernel) (by simp [lg_sl, gcat, gcI, gcL, gcF, gcD]) (by simp [gll, lv_args, gcat, gcI, gcL, gcF, gcD]) ?_
  intro p e s m args below meth c C hr ht hm
  have C : FC X p l s m args meth c cX7_addBuild 7 "Releasetrain" := C
  have hb_32 : ∀  (g : GM), w_X7_addBuild_b32 X post px   g → GG X p l e rm_X7_addBuild s m args below meth c 7 (vx_MQ below (qI X post) (gXC X px) args s rm_X7_addBuild.cells rm_X7_addBuild.slots (gA X)) 0 0 32 [none, none, none, none, none, none, none] [] g := by
    intro   g hf
    unfold w_X7_addBuild_b32 at hf
    exact gg_throw (cls := "java/lang/IllegalArgumentException") (names := ["java/lang/RuntimeException", "java/lang/Exception"]) C (by decide +kernel) (by decide +kernel) tw_307 tw_50 xk_X7_71 (show ("Releasetrain", 69, "a number is out of range", 20) ∈ gStr by decide +kernel) dX7_addBuild_32 dX7_addBuild_35 dX7_addBuild_36 dX7_addBuild_38 dX7_addBuild_41 (fun x hx => (ht x hx).elim) (by decide) (by simp [gcat, gcI, gcL, gcF, gcD]) (by decide) (by decide) (by decide) (by decide) hf
  unfold w_X7_addBuild at hf
  refine gg_iload_n C dX7_addBuild_0 rfl ?_
  refine gg_iconst C dX7_addBuild_1 (v := (1 : Int32)) (by decide) ?_
  refine gg_bipush C dX7_addBuild_2 (v := (63 : Int32)) (by decide) ?_
  refine gr_I (k' := 0) (n' := 0) (gk_S (As := [.int v2, .int (1 : Int32), .int (63 : Int32)]) (rest := []) C dX7_addBuild_4 tw_213 tw_214 tw_25 tw_215 gd_X7_outside rfl ⟨by decide, by decide⟩ (by simp [gcat, gcI, gcL, gcF, gcD]) ⟨by decide, by decide⟩ (m_X7_outside hfl hf)) rfl rfl (fun E g9 h9 => gx_out C (fun x hx => (ht x hx).elim) (by decide) (by decide) h9) (fun i2 g1 hf => ?_)
  refine gg_if_ne (tgt := 32) C dX7_addBuild_7 (by decide) hf (fun hf => ?_) (fun hf => ?_)
  · exact gg_sub (L' := [none, none, none, none, none, none, none]) (by first | exact trivial | simp [gsub]) (hb_32 _ hf)
  · refine gg_iload_n C dX7_addBuild_10 rfl ?_
    refine gg_iconst C dX7_addBuild_11 (v := (1 : Int32)) (by decide) ?_
    refine gg_bipush C dX7_addBuild_12 (v := (7 : Int32)) (by decide) ?_
    refine gr_I (k' := 0) (n' := 0) (gk_S (As := [.int v3, .int (1 : Int32), .int (7 : Int32)]) (rest := []) C dX7_addBuild_14 tw_213 tw_214 tw_25 tw_215 gd_X7_outside rfl ⟨by decide, by decide⟩ (by simp [gcat, gcI, gcL, gcF, gcD]) ⟨by decide, by decide⟩ (m_X7_outside hfl hf)) rfl rfl (fun E g9 h9 => gx_out C (fun x hx => (ht x hx).elim) (by decide) (by decide) h9) (fun i4 g3 hf => ?_)
    refine gg_if_ne (tgt := 32) C dX7_addBuild_17 (by decide) hf (fun hf => ?_) (fun hf => ?_)
    · exact gg_sub (L' := [none, none, none, none, none, none, none]) (by first | exact trivial | simp [gsub]) (hb_32 _ hf)
    · refine gg_iload C dX7_addBuild_20 rfl ?_
      refine gg_iconst C dX7_addBuild_22 (v := (0 : Int32)) (by decide) ?_
      refine gg_sipush C dX7_addBuild_23 (v := (255 : Int32)) (by decide) ?_
      refine gr_I (k' := 0) (n' := 0) (gk_S (As := [.int v6, .int (0 : Int32), .int (255 : Int32)]) (rest := []) C dX7_addBuild_26 tw_213 tw_214 tw_25 tw_215 gd_X7_outside rfl ⟨by decide, by decide⟩ (by simp [gcat, gcI, gcL, gcF, gcD]) ⟨by decide, by decide⟩ (m_X7_outside hfl hf)) rfl rfl (fun E g9 h9 => gx_out C (fun x hx => (ht x hx).elim) (by decide) (by decide) h9) (fun i6 g5 hf => ?_)
      refine gg_if_eq (tgt := 42) C dX7_addBuild_29 (by decide) hf (fun hf => ?_) (fun hf => ?_)
      · refine gg_aload_n C dX7_addBuild_42 rfl ?_
        refine gg_iload_n C dX7_addBuild_43 rfl ?_
        refine gg_new (k' := 1) (n' := 3) C dX7_addBuild_44 nk_X7_108 (by decide) (by decide) rfl rfl hf (fun q7 g8 hf => ?_)
        refine gg_dup C dX7_addBuild_47 (gcat _) ?_
        refine gg_iload_n C dX7_addBuild_48 rfl ?_
        refine gg_iload_n C dX7_addBuild_49 rfl ?_
        refine gg_iload C dX7_addBuild_50 rfl ?_
        refine gr_V (k' := 1) (n' := 3) (gk_I (As := [.int v2, .int v3, .int v6]) (rest := [va_rf (some q7), .int v1, va_rf v0]) C dX7_addBuild_52 rfl tw_501 tw_502 tw_60 tw_503 gd_X5_init rfl ⟨by decide, by decide⟩ (by simp [gcat, gcI, gcL, gcF, gcD]) ⟨by decide, by decide⟩ (m_X5_init hfl hf)) rfl rfl (fun E g9 h9 => gx_out C (fun x hx => (ht x hx).elim) (by decide) (by decide) h9) (fun g9 hf => ?_)
        refine gg_iload C dX7_addBuild_55 rfl ?_
        refine gg_iload C dX7_addBuild_57 rfl ?_
        refine gg_null C dX7_addBuild_59 ?_
        refine gr_I (k' := 5) (n' := 186) (gk_V (ci := 7) (As := [.int v1, va_rf (some q7), .int v4, .int v5, va_rf none]) (rest := []) C dX7_addBuild_60 rfl rfl tw_303 tw_305 tw_2 tw_25 tw_306 gd_X7_addDraft rfl ⟨by decide, by decide⟩ (by simp [gcat, gcI, gcL, gcF, gcD]) ⟨by decide, by decide⟩ hf (fun hf => m_X7_addDraft hfl hf)) rfl rfl (fun E g9 h9 => gx_out C (fun x hx => (ht x hx).elim) (by decide) (by decide) h9) (fun i11 g10 hf => ?_)
        exact gg_iret C hr (by decide) (by decide) dX7_addBuild_63 rfl hf
      · exact gg_sub (L' := [none, none, none, none, none, none, none]) (by first | exact trivial | simp [gsub]) (hb_32 _ hf)

def w_X7_knownBuild (X : Cx) (post : Option Nat → GM → Prop) (px : String → GM → Prop) (v0 : Option Nat) (v1 : Int32) (g : GM) : Prop :=
  wGetR g v0 7 2 (fun (r1 : Option Nat) => wIs g r1 10 (w_Jx4a65c_size_8abf5 X (fun (i3 : Int32) (g2 : GM) => w_X7_outside X (fun (i5 : Int32) (g4 : GM) => (if i5 = 0 then wGetR g4 v0 7 2 (fun (r6 : Option Nat) => wIs g4 r6 10 (w_Jx4a65c_get_915e3 X (fun (r8 : Option Nat) (g7 : GM) => wIs g7 r8 1 (post r8 g7)) px r6 v1 g4)) else px "java/util/NoSuchElementException" g4)) px v1 (0 : Int32) (i3 - (1 : Int32)) g2) px r1 g))
abbrev rm_X7_knownBuild : Room := { frames := 6, cells := 1, slots := 6, locals := 82 }
set_option maxHeartbeats 4000000 in
set_option maxRecDepth 100000 in
theorem m_X7_knownBuild {X : Cx} {l : Launch} (hfl : l.stackTraces = false) {post : Option Nat → GM → Prop} {px : String → GM → Prop} {v0 : Option Nat} {v1 : Int32} {g : GM} (hf : w_X7_knownBuild X post px v0 v1 g) : gMet X l yX7_knownBuild cX7_knownBuild 2 (some (.object "Releasetrain$Build")) rm_X7_knownBuild [va_rf v0, .int v1] g (qR X post) px := by
  refine gg_enter (L := [some (va_rf v0), some (.int v1)]) hfl (by decide +kernel) (by simp [lg_sl, gcat, gcI, gcL, gcF, gcD]) (by simp [gll, lv_args, gcat, gcI, gcL, gcF, gcD]) ?_
  intro p e s m args below meth c C hr ht hm
  have C : FC X p l s m args meth c cX7_knownBuild 2 "Releasetrain" := C
  unfold w_X7_knownBuild at hf
  refine gg_iload_n C dX7_knownBuild_0 rfl ?_
  refine gg_iconst C dX7_knownBuild_1 (v := (0 : Int32)) (by decide) ?_
  refine gg_aload_n C dX7_knownBuild_2 rfl ?_
  refine gg_getR C dX7_knownBuild_3 lk_X7_19 hf (fun r1 hf => ?_)
  refine gr_I (k' := 0) (n' := 0) (gk_V (ci := 10) (As := []) (rest := [.int (0 : Int32), .int v1]) C dX7_knownBuild_6 rfl rfl tw_189 tw_190 tw_191 tw_28 tw_192 gd_Jx4a65c_size_8abf5 rfl ⟨by decide, by decide⟩ (by simp [gcat, gcI, gcL, gcF, gcD]) ⟨by decide, by decide⟩ hf (fun hf => m_Jx4a65c_size_8abf5 hfl hf)) rfl rfl (fun E g9 h9 => gx_out C (fun x hx => (ht x hx).elim) (by decide) (by decide) h9) (fun i3 g2 hf => ?_)
  refine gg_iconst C dX7_knownBuild_9 (v := (1 : Int32)) (by decide) ?_
  refine gg_isub C dX7_knownBuild_10 ?_
  refine gr_I (k' := 0) (n' := 0) (gk_S (As := [.int v1, .int (0 : Int32), .int (i3 - (1 : Int32))]) (rest := []) C dX7_knownBuild_11 tw_213 tw_214 tw_25 tw_215 gd_X7_outside rfl ⟨by decide, by decide⟩ (by simp [gcat, gcI, gcL, gcF, gcD]) ⟨by decide, by decide⟩ (m_X7_outside hfl hf)) rfl rfl (fun E g9 h9 => gx_out C (fun x hx => (ht x hx).elim) (by decide) (by decide) h9) (fun i5 g4 hf => ?_)
  refine gg_if_eq (tgt := 28) C dX7_knownBuild_14 (by decide) hf (fun hf => ?_) (fun hf => ?_)
  · refine gg_aload_n C dX7_knownBuild_28 rfl ?_
    refine gg_getR C dX7_knownBuild_29 lk_X7_19 hf (fun r6 hf => ?_)
    refine gg_iload_n C dX7_knownBuild_32 rfl ?_
    refine gr_R (k' := 0) (n' := 0) (gk_V (ci := 10) (As := [.int v1]) (rest := []) C dX7_knownBuild_33 rfl rfl tw_288 tw_289 tw_290 tw_28 tw_291 gd_Jx4a65c_get_915e3 rfl ⟨by decide, by decide⟩ (by simp [gcat, gcI, gcL, gcF, gcD]) ⟨by decide, by decide⟩ hf (fun hf => m_Jx4a65c_get_915e3 hfl hf)) rfl rfl (fun E g9 h9 => gx_out C (fun x hx => (ht x hx).elim) (by decide) (by decide) h9) (fun r8 g7 hf => ?_)
    refine gg_ccast (ci := 1) C dX7_knownBuild_36 rfl tw_302 hf (fun hf => ?_)
    exact gg_aret C hr (Or.inl ⟨_, rfl⟩) (by decide) (by decide) dX7_knownBuild_39 hf
  · exact gg_throwX (cls := "java/util/NoSuchElementException") (names := ["java/lang/RuntimeException", "java/lang/Exception"]) C gnsee.2.1 gnsee.2.2.1 gnsee.2.2.2.1 gnsee.2.2.2.2 (by decide +kernel) (by decide +kernel) tw_216 tw_37 gnsee.1 (show ("Releasetrain", 397, "there is no such build", 40) ∈ gStr by decide +kernel) dX7_knownBuild_17 dX7_knownBuild_20 dX7_knownBuild_21 dX7_knownBuild_24 dX7_knownBuild_27 (fun x hx => (ht x hx).elim) (by decide) (by simp [gcat, gcI, gcL, gcF, gcD]) (by decide) (by decide) (by decide) (by decide) hf

def w_X7_addFix (X : Cx) (post : Int32 → GM → Prop) (px : String → GM → Prop) (v0 : Option Nat) (v1 : Int32) (v2 : Int32) (v3 : Int32) (v4 : Int32) (g : GM) : Prop :=
  wIs g v0 7 (w_X7_knownBuild X (fun (r2 : Option Nat) (g1 : GM) => wGetR g1 r2 1 2 (fun (r3 : Option Nat) => wIs g1 v0 7 (w_X7_addDraft X (fun (i5 : Int32) (g4 : GM) => post i5 g4) px v0 v2 r3 v3 v4 r2 g1))) px v0 v1 g)
abbrev rm_X7_addFix : Room := { frames := 8, cells := 5, slots := 189, locals := 237 }
set_option maxHeartbeats 4000000 in
set_option maxRecDepth 100000 in
theorem m_X7_addFix {X : Cx} {l : Launch} (hfl : l.stackTraces = false) {post : Int32 → GM → Prop} {px : String → GM → Prop} {v0 : Option Nat} {v1 : Int32} {v2 : Int32} {v3 : Int32} {v4 : Int32} {g : GM} (hf : w_X7_addFix X post px v0 v1 v2 v3 v4 g) : gMet X l yX7_addFix cX7_addFix 6 (some .int) rm_X7_addFix [va_rf v0, .int v1, .int v2, .int v3, .int v4] g (qI X post) px := by
  refine gg_enter (L := [some (va_rf v0), some (.int v1), some (.int v2), some (.int v3), some (.int v4), none]) hfl (by decide +kernel) (by simp [lg_sl, gcat, gcI, gcL, gcF, gcD]) (by simp [gll, lv_args, gcat, gcI, gcL, gcF, gcD]) ?_
  intro p e s m args below meth c C hr ht hm
  have C : FC X p l s m args meth c cX7_addFix 6 "Releasetrain" := C
  unfold w_X7_addFix at hf
  refine gg_aload_n C dX7_addFix_0 rfl ?_
  refine gg_iload_n C dX7_addFix_1 rfl ?_
  refine gr_R (k' := 1) (n' := 6) (gk_V (ci := 7) (As := [.int v1]) (rest := []) C dX7_addFix_2 rfl rfl tw_209 tw_211 tw_0 tw_25 tw_212 gd_X7_knownBuild rfl ⟨by decide, by decide⟩ (by simp [gcat, gcI, gcL, gcF, gcD]) ⟨by decide, by decide⟩ hf (fun hf => m_X7_knownBuild hfl hf)) rfl rfl (fun E g9 h9 => gx_out C (fun x hx => (ht x hx).elim) (by decide) (by decide) h9) (fun r2 g1 hf => ?_)
  refine gg_astore (L' := [some (va_rf v0), some (.int v1), some (.int v2), some (.int v3), some (.int v4), some (va_rf r2)]) C dX7_addFix_5 (Or.inr (Or.inr ⟨_, rfl, rfl⟩)) (by decide) rfl ?_
  refine gg_aload_n C dX7_addFix_7 rfl ?_
  refine gg_iload_n C dX7_addFix_8 rfl ?_
  refine gg_aload C dX7_addFix_9 rfl ?_
  refine gg_getR C dX7_addFix_11 lk_X7_119 hf (fun r3 hf => ?_)
  refine gg_iload_n C dX7_addFix_14 rfl ?_
  refine gg_iload C dX7_addFix_15 rfl ?_
  refine gg_aload C dX7_addFix_17 rfl ?_
  refine gr_I (k' := 5) (n' := 189) (gk_V (ci := 7) (As := [.int v2, va_rf r3, .int v3, .int v4, va_rf r2]) (rest := []) C dX7_addFix_19 rfl rfl tw_303 tw_305 tw_2 tw_25 tw_306 gd_X7_addDraft rfl ⟨by decide, by decide⟩ (by simp [gcat, gcI, gcL, gcF, gcD]) ⟨by decide, by decide⟩ hf (fun hf => m_X7_addDraft hfl hf)) rfl rfl (fun E g9 h9 => gx_out C (fun x hx => (ht x hx).elim) (by decide) (by decide) h9) (fun i5 g4 hf => ?_)
  exact gg_iret C hr (by decide) (by decide) dX7_addFix_22 rfl hf

def w_X7_queue (X : Cx) (post : GM → Prop) (px : String → GM → Prop) (v0 : Option Nat) (v1 : Option Nat) (g : GM) : Prop :=
  wPut g v1 1 7 (.int (119 : Int32)) (fun g1 => wGetI g1 v0 7 9 (fun (i2 : Int32) => wPut g1 v1 1 9 (.int i2) (fun g3 => wGetI g3 v0 7 9 (fun (i4 : Int32) => wPut g3 v0 7 9 (.int (i4 + (1 : Int32))) (fun g5 => post g5)))))
abbrev rm_X7_queue : Room := { frames := 0, cells := 0, slots := 0, locals := 0 }
set_option maxHeartbeats 4000000 in
set_option maxRecDepth 100000 in
theorem m_X7_queue {X : Cx} {l : Launch} (hfl : l.stackTraces = false) {post : GM → Prop} {px : String → GM → Prop} {v0 : Option Nat} {v1 : Option Nat} {g : GM} (hf : w_X7_queue X post px v0 v1 g) : gMet X l yX7_queue cX7_queue 2 none rm_X7_queue [va_rf v0, va_rf v1] g (qV X post) px := by
  refine gg_enter (L := [some (va_rf v0), some (va_rf v1)]) hfl (by decide +kernel) (by simp [lg_sl, gcat, gcI, gcL, gcF, gcD]) (by simp [gll, lv_args, gcat, gcI, gcL, gcF, gcD]) ?_
  intro p e s m args below meth c C hr ht hm
  have C : FC X p l s m args meth c cX7_queue 2 "Releasetrain" := C
  unfold w_X7_queue at hf
  refine gg_aload_n C dX7_queue_0 rfl ?_
  refine gg_bipush C dX7_queue_1 (v := (119 : Int32)) (by decide) ?_
  refine gg_put C dX7_queue_3 pk_X7_125 ⟨rfl, rfl⟩ hf (fun g1 hf => ?_)
  refine gg_aload_n C dX7_queue_6 rfl ?_
  refine gg_aload_n C dX7_queue_7 rfl ?_
  refine gg_getI C dX7_queue_8 lk_X7_49 hf (fun i2 hf => ?_)
  refine gg_put C dX7_queue_11 pk_X7_418 (gNar_int _) hf (fun g3 hf => ?_)
  refine gg_aload_n C dX7_queue_14 rfl ?_
  refine gg_dup C dX7_queue_15 (gcat _) ?_
  refine gg_getI C dX7_queue_16 lk_X7_49 hf (fun i4 hf => ?_)
  refine gg_iconst C dX7_queue_19 (v := (1 : Int32)) (by decide) ?_
  refine gg_iadd C dX7_queue_20 ?_
  refine gg_put C dX7_queue_21 pk_X7_49 (gNar_int _) hf (fun g5 hf => ?_)
  exact gg_vret C hr (by decide) (by decide) dX7_queue_24 hf

def w_X7_countWaiting_b37 (X : Cx) (post : Int32 → GM → Prop) (px : String → GM → Prop) (k4 : Option Nat → Int32 → Int32 → GM → Prop) (l0 : Option Nat) (l1 : Int32) (l2 : Int32) (g : GM) : Prop :=
  k4 l0 l1 (l2 + 1) g
def w_X7_countWaiting_l4 (X : Cx) (post : Int32 → GM → Prop) (px : String → GM → Prop)  : Nat → Option Nat → Int32 → Int32 → GM → Prop
  | 0, _, _, _, _ => False
  | f + 1, l0, l1, l2, g => wGetR g l0 7 2 (fun (r1 : Option Nat) => wIs g r1 10 (w_Jx4a65c_size_8abf5 X (fun (i3 : Int32) (g2 : GM) => (if i3 ≤ l2 then post l1 g2 else wGetR g2 l0 7 2 (fun (r4 : Option Nat) => wIs g2 r4 10 (w_Jx4a65c_get_915e3 X (fun (r6 : Option Nat) (g5 : GM) => wIs g5 r6 1 (wGetI g5 r6 1 7 (fun (i7 : Int32) => (if i7 = (119 : Int32) then w_X7_countWaiting_b37 X post px (w_X7_countWaiting_l4 X post px f) l0 (l1 + 1) l2 g5 else w_X7_countWaiting_b37 X post px (w_X7_countWaiting_l4 X post px f) l0 l1 l2 g5)))) px r4 l2 g2)))) px r1 g))
def w_X7_countWaiting (X : Cx) (post : Int32 → GM → Prop) (px : String → GM → Prop) (v0 : Option Nat) (g : GM) : Prop :=
  w_X7_countWaiting_l4 X post px 3000 v0 (0 : Int32) (0 : Int32) g
abbrev rm_X7_countWaiting : Room := { frames := 3, cells := 0, slots := 0, locals := 64 }
set_option maxHeartbeats 4000000 in
set_option maxRecDepth 100000 in
theorem m_X7_countWaiting {X : Cx} {l : Launch} (hfl : l.stackTraces = false) {post : Int32 → GM → Prop} {px : String → GM → Prop} {v0 : Option Nat} {g : GM} (hf : w_X7_countWaiting X post px v0 g) : gMet X l yX7_countWaiting cX7_countWaiting 3 (some .int) rm_X7_countWaiting [va_rf v0] g (qI X post) px := by
  refine gg_enter (L := [some (va_rf v0), none, none]) hfl (by decide +kernel) (by simp [lg_sl, gcat, gcI, gcL, gcF, gcD]) (by simp [gll, lv_args, gcat, gcI, gcL, gcF, gcD]) ?_
  intro p e s m args below meth c C hr ht hm
  have C : FC X p l s m args meth c cX7_countWaiting 3 "Releasetrain" := C
  have hb_37 : ∀ (k4 : Option Nat → Int32 → Int32 → GM → Prop), (∀ (l0 : Option Nat) (l1 : Int32) (l2 : Int32) (g : GM), k4 l0 l1 l2 g → GG X p l e rm_X7_countWaiting s m args below meth c 3 (vx_MQ below (qI X post) (gXC X px) args s rm_X7_countWaiting.cells rm_X7_countWaiting.slots (gA X)) 0 0 4 [some (va_rf l0), some (.int l1), some (.int l2)] [] g) → ∀ (l0 : Option Nat) (l1 : Int32) (l2 : Int32) (g : GM), w_X7_countWaiting_b37 X post px k4 l0 l1 l2 g → GG X p l e rm_X7_countWaiting s m args below meth c 3 (vx_MQ below (qI X post) (gXC X px) args s rm_X7_countWaiting.cells rm_X7_countWaiting.slots (gA X)) 0 0 37 [some (va_rf l0), some (.int l1), some (.int l2)] [] g := by
    intro k4 hk4 l0 l1 l2 g hf
    unfold w_X7_countWaiting_b37 at hf
    refine gg_iinc (L' := [some (va_rf l0), some (.int l1), some (.int (l2 + 1))]) C dX7_countWaiting_37 rfl (v := (l2 + 1)) rfl (Or.inr (Or.inr ⟨_, rfl, rfl⟩)) (by decide) rfl ?_
    refine gg_goto (tgt := 4) C dX7_countWaiting_40 (by decide) ?_
    exact hk4 _ _ _ _ hf
  have hb_4 : ∀ (f : Nat) (l0 : Option Nat) (l1 : Int32) (l2 : Int32) (g : GM), w_X7_countWaiting_l4 X post px  f l0 l1 l2 g → GG X p l e rm_X7_countWaiting s m args below meth c 3 (vx_MQ below (qI X post) (gXC X px) args s rm_X7_countWaiting.cells rm_X7_countWaiting.slots (gA X)) 0 0 4 [some (va_rf l0), some (.int l1), some (.int l2)] [] g := by
    intro  f
    induction f with
    | zero => intro l0 l1 l2 g hf; exact (show False from hf).elim
    | succ f ih =>
      intro l0 l1 l2 g hf
      rw [w_X7_countWaiting_l4] at hf
      refine gg_iload_n C dX7_countWaiting_4 rfl ?_
      refine gg_aload_n C dX7_countWaiting_5 rfl ?_
      refine gg_getR C dX7_countWaiting_6 lk_X7_19 hf (fun r1 hf => ?_)
      refine gr_I (k' := 0) (n' := 0) (gk_V (ci := 10) (As := []) (rest := [.int l2]) C dX7_countWaiting_9 rfl rfl tw_189 tw_190 tw_191 tw_28 tw_192 gd_Jx4a65c_size_8abf5 rfl ⟨by decide, by decide⟩ (by simp [gcat, gcI, gcL, gcF, gcD]) ⟨by decide, by decide⟩ hf (fun hf => m_Jx4a65c_size_8abf5 hfl hf)) rfl rfl (fun E g9 h9 => gx_out C (fun x hx => (ht x hx).elim) (by decide) (by decide) h9) (fun i3 g2 hf => ?_)
      refine gg_icmp_ge (tgt := 43) C dX7_countWaiting_12 (by decide) hf (fun hf => ?_) (fun hf => ?_)
      · refine gg_iload_n C dX7_countWaiting_43 rfl ?_
        exact gg_iret C hr (by decide) (by decide) dX7_countWaiting_44 rfl hf
      · refine gg_aload_n C dX7_countWaiting_15 rfl ?_
        refine gg_getR C dX7_countWaiting_16 lk_X7_19 hf (fun r4 hf => ?_)
        refine gg_iload_n C dX7_countWaiting_19 rfl ?_
        refine gr_R (k' := 0) (n' := 0) (gk_V (ci := 10) (As := [.int l2]) (rest := []) C dX7_countWaiting_20 rfl rfl tw_288 tw_289 tw_290 tw_28 tw_291 gd_Jx4a65c_get_915e3 rfl ⟨by decide, by decide⟩ (by simp [gcat, gcI, gcL, gcF, gcD]) ⟨by decide, by decide⟩ hf (fun hf => m_Jx4a65c_get_915e3 hfl hf)) rfl rfl (fun E g9 h9 => gx_out C (fun x hx => (ht x hx).elim) (by decide) (by decide) h9) (fun r6 g5 hf => ?_)
        refine gg_ccast (ci := 1) C dX7_countWaiting_23 rfl tw_302 hf (fun hf => ?_)
        refine gg_getI C dX7_countWaiting_26 lk_X7_125 hf (fun i7 hf => ?_)
        refine gg_bipush C dX7_countWaiting_29 (v := (119 : Int32)) (by decide) ?_
        refine gg_icmp_ne (tgt := 37) C dX7_countWaiting_31 (by decide) hf (fun hf => ?_) (fun hf => ?_)
        · exact hb_37 _ ih _ _ _ _ hf
        · refine gg_iinc (L' := [some (va_rf l0), some (.int (l1 + 1)), some (.int l2)]) C dX7_countWaiting_34 rfl (v := (l1 + 1)) rfl (Or.inr (Or.inr ⟨_, rfl, gcat _⟩)) (by decide) rfl ?_
          exact hb_37 _ ih _ _ _ _ hf
  unfold w_X7_countWaiting at hf
  refine gg_iconst C dX7_countWaiting_0 (v := (0 : Int32)) (by decide) ?_
  refine gg_istore_n (L' := [some (va_rf v0), some (.int (0 : Int32)), none]) C dX7_countWaiting_1 (Or.inr (Or.inr ⟨_, rfl, gcat _⟩)) (by decide) rfl ?_
  refine gg_iconst C dX7_countWaiting_2 (v := (0 : Int32)) (by decide) ?_
  refine gg_istore_n (L' := [some (va_rf v0), some (.int (0 : Int32)), some (.int (0 : Int32))]) C dX7_countWaiting_3 (Or.inr (Or.inr ⟨_, rfl, rfl⟩)) (by decide) rfl ?_
  exact hb_4 _ _ _ _ _ hf

def w_X7_submit (X : Cx) (post : Int32 → GM → Prop) (px : String → GM → Prop) (v0 : Option Nat) (v1 : Int32) (g : GM) : Prop :=
  wIs g v0 7 (w_X7_knownBuild X (fun (r2 : Option Nat) (g1 : GM) => wGetI g1 r2 1 7 (fun (i3 : Int32) => (if i3 = (100 : Int32) then wIs g1 v0 7 (w_X7_queue X (fun (g4 : GM) => wIs g4 v0 7 (w_X7_countWaiting X (fun (i6 : Int32) (g5 : GM) => post i6 g5) px v0 g4)) px v0 r2 g1) else px "java/lang/IllegalStateException" g1))) px v0 v1 g)
abbrev rm_X7_submit : Room := { frames := 7, cells := 2, slots := 12, locals := 103 }
set_option maxHeartbeats 4000000 in
set_option maxRecDepth 100000 in
theorem m_X7_submit {X : Cx} {l : Launch} (hfl : l.stackTraces = false) {post : Int32 → GM → Prop} {px : String → GM → Prop} {v0 : Option Nat} {v1 : Int32} {g : GM} (hf : w_X7_submit X post px v0 v1 g) : gMet X l yX7_submit cX7_submit 3 (some .int) rm_X7_submit [va_rf v0, .int v1] g (qI X post) px := by
  refine gg_enter (L := [some (va_rf v0), some (.int v1), none]) hfl (by decide +kernel) (by simp [lg_sl, gcat, gcI, gcL, gcF, gcD]) (by simp [gll, lv_args, gcat, gcI, gcL, gcF, gcD]) ?_
  intro p e s m args below meth c C hr ht hm
  have C : FC X p l s m args meth c cX7_submit 3 "Releasetrain" := C
  unfold w_X7_submit at hf
  refine gg_aload_n C dX7_submit_0 rfl ?_
  refine gg_iload_n C dX7_submit_1 rfl ?_
  refine gr_R (k' := 1) (n' := 6) (gk_V (ci := 7) (As := [.int v1]) (rest := []) C dX7_submit_2 rfl rfl tw_209 tw_211 tw_0 tw_25 tw_212 gd_X7_knownBuild rfl ⟨by decide, by decide⟩ (by simp [gcat, gcI, gcL, gcF, gcD]) ⟨by decide, by decide⟩ hf (fun hf => m_X7_knownBuild hfl hf)) rfl rfl (fun E g9 h9 => gx_out C (fun x hx => (ht x hx).elim) (by decide) (by decide) h9) (fun r2 g1 hf => ?_)
  refine gg_astore_n (L' := [some (va_rf v0), some (.int v1), some (va_rf r2)]) C dX7_submit_5 (Or.inr (Or.inr ⟨_, rfl, rfl⟩)) (by decide) rfl ?_
  refine gg_aload_n C dX7_submit_6 rfl ?_
  refine gg_getI C dX7_submit_7 lk_X7_125 hf (fun i3 hf => ?_)
  refine gg_bipush C dX7_submit_10 (v := (100 : Int32)) (by decide) ?_
  refine gg_icmp_eq (tgt := 25) C dX7_submit_12 (by decide) hf (fun hf => ?_) (fun hf => ?_)
  · refine gg_aload_n C dX7_submit_25 rfl ?_
    refine gg_aload_n C dX7_submit_26 rfl ?_
    refine gr_V (k' := 1) (n' := 6) (gk_V (ci := 7) (As := [va_rf r2]) (rest := []) C dX7_submit_27 rfl rfl tw_615 tw_617 tw_8 tw_25 tw_618 gd_X7_queue rfl ⟨by decide, by decide⟩ (by simp [gcat, gcI, gcL, gcF, gcD]) ⟨by decide, by decide⟩ hf (fun hf => m_X7_queue hfl hf)) rfl rfl (fun E g9 h9 => gx_out C (fun x hx => (ht x hx).elim) (by decide) (by decide) h9) (fun g4 hf => ?_)
    refine gg_aload_n C dX7_submit_30 rfl ?_
    refine gr_I (k' := 1) (n' := 6) (gk_V (ci := 7) (As := []) (rest := []) C dX7_submit_31 rfl rfl tw_619 tw_621 tw_9 tw_25 tw_622 gd_X7_countWaiting rfl ⟨by decide, by decide⟩ (by simp [gcat, gcI, gcL, gcF, gcD]) ⟨by decide, by decide⟩ hf (fun hf => m_X7_countWaiting hfl hf)) rfl rfl (fun E g9 h9 => gx_out C (fun x hx => (ht x hx).elim) (by decide) (by decide) h9) (fun i6 g5 hf => ?_)
    exact gg_iret C hr (by decide) (by decide) dX7_submit_34 rfl hf
  · exact gg_throw (cls := "java/lang/IllegalStateException") (names := ["java/lang/RuntimeException", "java/lang/Exception"]) C (by decide +kernel) (by decide +kernel) tw_327 tw_40 xk_X7_82 (show ("Releasetrain", 129, "it is no draft", 22) ∈ gStr by decide +kernel) dX7_submit_15 dX7_submit_18 dX7_submit_19 dX7_submit_21 dX7_submit_24 (fun x hx => (ht x hx).elim) (by decide) (by simp [gcat, gcI, gcL, gcF, gcD]) (by decide) (by decide) (by decide) (by decide) hf

def w_X7_firstWaiting_b50 (X : Cx) (post : Option Nat → GM → Prop) (px : String → GM → Prop) (k4 : Option Nat → Option Nat → Int32 → GM → Prop) (l0 : Option Nat) (l1 : Option Nat) (l2 : Int32) (g : GM) : Prop :=
  k4 l0 l1 (l2 + 1) g
def w_X7_firstWaiting_b48 (X : Cx) (post : Option Nat → GM → Prop) (px : String → GM → Prop) (k4 : Option Nat → Option Nat → Int32 → GM → Prop) (l0 : Option Nat) (l2 : Int32) (l3 : Option Nat) (g : GM) : Prop :=
  w_X7_firstWaiting_b50 X post px k4 l0 l3 l2 g
def w_X7_firstWaiting_l4 (X : Cx) (post : Option Nat → GM → Prop) (px : String → GM → Prop)  : Nat → Option Nat → Option Nat → Int32 → GM → Prop
  | 0, _, _, _, _ => False
  | f + 1, l0, l1, l2, g => wGetR g l0 7 2 (fun (r1 : Option Nat) => wIs g r1 10 (w_Jx4a65c_size_8abf5 X (fun (i3 : Int32) (g2 : GM) => (if i3 ≤ l2 then (if l1 = none then px "java/lang/IllegalStateException" g2 else post l1 g2) else wGetR g2 l0 7 2 (fun (r4 : Option Nat) => wIs g2 r4 10 (w_Jx4a65c_get_915e3 X (fun (r6 : Option Nat) (g5 : GM) => wIs g5 r6 1 (wGetI g5 r6 1 7 (fun (i7 : Int32) => (if i7 = (119 : Int32) then (if l1 = none then w_X7_firstWaiting_b48 X post px (w_X7_firstWaiting_l4 X post px f) l0 l2 r6 g5 else wIs g5 r6 1 (w_X1_isReviewedAheadOf X (fun (i9 : Int32) (g8 : GM) => (if i9 = 0 then w_X7_firstWaiting_b50 X post px (w_X7_firstWaiting_l4 X post px f) l0 l1 l2 g8 else w_X7_firstWaiting_b48 X post px (w_X7_firstWaiting_l4 X post px f) l0 l2 r6 g8)) px r6 l1 g5)) else w_X7_firstWaiting_b50 X post px (w_X7_firstWaiting_l4 X post px f) l0 l1 l2 g5)))) px r4 l2 g2)))) px r1 g))
def w_X7_firstWaiting (X : Cx) (post : Option Nat → GM → Prop) (px : String → GM → Prop) (v0 : Option Nat) (g : GM) : Prop :=
  w_X7_firstWaiting_l4 X post px 3000 v0 none (0 : Int32) g
abbrev rm_X7_firstWaiting : Room := { frames := 6, cells := 1, slots := 6, locals := 82 }
set_option maxHeartbeats 4000000 in
set_option maxRecDepth 100000 in
theorem m_X7_firstWaiting {X : Cx} {l : Launch} (hfl : l.stackTraces = false) {post : Option Nat → GM → Prop} {px : String → GM → Prop} {v0 : Option Nat} {g : GM} (hf : w_X7_firstWaiting X post px v0 g) : gMet X l yX7_firstWaiting cX7_firstWaiting 4 (some (.object "Releasetrain$Build")) rm_X7_firstWaiting [va_rf v0] g (qR X post) px := by
  refine gg_enter (L := [some (va_rf v0), none, none, none]) hfl (by decide +kernel) (by simp [lg_sl, gcat, gcI, gcL, gcF, gcD]) (by simp [gll, lv_args, gcat, gcI, gcL, gcF, gcD]) ?_
  intro p e s m args below meth c C hr ht hm
  have C : FC X p l s m args meth c cX7_firstWaiting 4 "Releasetrain" := C
  have hb_50 : ∀ (k4 : Option Nat → Option Nat → Int32 → GM → Prop), (∀ (l0 : Option Nat) (l1 : Option Nat) (l2 : Int32) (g : GM), k4 l0 l1 l2 g → GG X p l e rm_X7_firstWaiting s m args below meth c 4 (vx_MQ below (qR X post) (gXC X px) args s rm_X7_firstWaiting.cells rm_X7_firstWaiting.slots (gA X)) 0 0 4 [some (va_rf l0), some (va_rf l1), some (.int l2), none] [] g) → ∀ (l0 : Option Nat) (l1 : Option Nat) (l2 : Int32) (g : GM), w_X7_firstWaiting_b50 X post px k4 l0 l1 l2 g → GG X p l e rm_X7_firstWaiting s m args below meth c 4 (vx_MQ below (qR X post) (gXC X px) args s rm_X7_firstWaiting.cells rm_X7_firstWaiting.slots (gA X)) 0 0 50 [some (va_rf l0), some (va_rf l1), some (.int l2), none] [] g := by
    intro k4 hk4 l0 l1 l2 g hf
    unfold w_X7_firstWaiting_b50 at hf
    refine gg_iinc (L' := [some (va_rf l0), some (va_rf l1), some (.int (l2 + 1)), none]) C dX7_firstWaiting_50 rfl (v := (l2 + 1)) rfl (Or.inr (Or.inr ⟨_, rfl, gcat _⟩)) (by decide) rfl ?_
    refine gg_goto (tgt := 4) C dX7_firstWaiting_53 (by decide) ?_
    exact hk4 _ _ _ _ hf
  have hb_48 : ∀ (k4 : Option Nat → Option Nat → Int32 → GM → Prop), (∀ (l0 : Option Nat) (l1 : Option Nat) (l2 : Int32) (g : GM), k4 l0 l1 l2 g → GG X p l e rm_X7_firstWaiting s m args below meth c 4 (vx_MQ below (qR X post) (gXC X px) args s rm_X7_firstWaiting.cells rm_X7_firstWaiting.slots (gA X)) 0 0 4 [some (va_rf l0), some (va_rf l1), some (.int l2), none] [] g) → ∀ (l0 : Option Nat) (l2 : Int32) (l3 : Option Nat) (g : GM), w_X7_firstWaiting_b48 X post px k4 l0 l2 l3 g → GG X p l e rm_X7_firstWaiting s m args below meth c 4 (vx_MQ below (qR X post) (gXC X px) args s rm_X7_firstWaiting.cells rm_X7_firstWaiting.slots (gA X)) 0 0 48 [some (va_rf l0), none, some (.int l2), some (va_rf l3)] [] g := by
    intro k4 hk4 l0 l2 l3 g hf
    unfold w_X7_firstWaiting_b48 at hf
    refine gg_aload_n C dX7_firstWaiting_48 rfl ?_
    refine gg_astore_n (L' := [some (va_rf l0), some (va_rf l3), some (.int l2), some (va_rf l3)]) C dX7_firstWaiting_49 (Or.inr (Or.inr ⟨_, rfl, gcat _⟩)) (by decide) rfl ?_
    exact gg_sub (L' := [some (va_rf l0), some (va_rf l3), some (.int l2), none]) (by first | exact ⟨rfl, ⟨rfl, ⟨rfl, trivial⟩⟩⟩ | simp [gsub]) (hb_50 _ hk4 _ _ _ _ hf)
  have hb_4 : ∀ (f : Nat) (l0 : Option Nat) (l1 : Option Nat) (l2 : Int32) (g : GM), w_X7_firstWaiting_l4 X post px  f l0 l1 l2 g → GG X p l e rm_X7_firstWaiting s m args below meth c 4 (vx_MQ below (qR X post) (gXC X px) args s rm_X7_firstWaiting.cells rm_X7_firstWaiting.slots (gA X)) 0 0 4 [some (va_rf l0), some (va_rf l1), some (.int l2), none] [] g := by
    intro  f
    induction f with
    | zero => intro l0 l1 l2 g hf; exact (show False from hf).elim
    | succ f ih =>
      intro l0 l1 l2 g hf
      rw [w_X7_firstWaiting_l4] at hf
      refine gg_iload_n C dX7_firstWaiting_4 rfl ?_
      refine gg_aload_n C dX7_firstWaiting_5 rfl ?_
      refine gg_getR C dX7_firstWaiting_6 lk_X7_19 hf (fun r1 hf => ?_)
      refine gr_I (k' := 0) (n' := 0) (gk_V (ci := 10) (As := []) (rest := [.int l2]) C dX7_firstWaiting_9 rfl rfl tw_189 tw_190 tw_191 tw_28 tw_192 gd_Jx4a65c_size_8abf5 rfl ⟨by decide, by decide⟩ (by simp [gcat, gcI, gcL, gcF, gcD]) ⟨by decide, by decide⟩ hf (fun hf => m_Jx4a65c_size_8abf5 hfl hf)) rfl rfl (fun E g9 h9 => gx_out C (fun x hx => (ht x hx).elim) (by decide) (by decide) h9) (fun i3 g2 hf => ?_)
      refine gg_icmp_ge (tgt := 56) C dX7_firstWaiting_12 (by decide) hf (fun hf => ?_) (fun hf => ?_)
      · refine gg_aload_n C dX7_firstWaiting_56 rfl ?_
        refine gg_ifnonnull (tgt := 71) C dX7_firstWaiting_57 (by decide) hf (fun hf => ?_) (fun hf => ?_)
        · refine gg_aload_n C dX7_firstWaiting_71 rfl ?_
          exact gg_aret C hr (Or.inl ⟨_, rfl⟩) (by decide) (by decide) dX7_firstWaiting_72 hf
        · exact gg_throwW (cls := "java/lang/IllegalStateException") (names := ["java/lang/RuntimeException", "java/lang/Exception"]) C (by decide +kernel) (by decide +kernel) tw_327 tw_40 xk_X7_82 (show ("Releasetrain", 424, "none waits", 46) ∈ gStr by decide +kernel) dX7_firstWaiting_60 dX7_firstWaiting_63 dX7_firstWaiting_64 dX7_firstWaiting_67 dX7_firstWaiting_70 (fun x hx => (ht x hx).elim) (by decide) (by simp [gcat, gcI, gcL, gcF, gcD]) (by decide) (by decide) (by decide) (by decide) hf
      · refine gg_aload_n C dX7_firstWaiting_15 rfl ?_
        refine gg_getR C dX7_firstWaiting_16 lk_X7_19 hf (fun r4 hf => ?_)
        refine gg_iload_n C dX7_firstWaiting_19 rfl ?_
        refine gr_R (k' := 0) (n' := 0) (gk_V (ci := 10) (As := [.int l2]) (rest := []) C dX7_firstWaiting_20 rfl rfl tw_288 tw_289 tw_290 tw_28 tw_291 gd_Jx4a65c_get_915e3 rfl ⟨by decide, by decide⟩ (by simp [gcat, gcI, gcL, gcF, gcD]) ⟨by decide, by decide⟩ hf (fun hf => m_Jx4a65c_get_915e3 hfl hf)) rfl rfl (fun E g9 h9 => gx_out C (fun x hx => (ht x hx).elim) (by decide) (by decide) h9) (fun r6 g5 hf => ?_)
        refine gg_ccast (ci := 1) C dX7_firstWaiting_23 rfl tw_302 hf (fun hf => ?_)
        refine gg_astore_n (L' := [some (va_rf l0), some (va_rf l1), some (.int l2), some (va_rf r6)]) C dX7_firstWaiting_26 (Or.inr (Or.inr ⟨_, rfl, rfl⟩)) (by decide) rfl ?_
        refine gg_aload_n C dX7_firstWaiting_27 rfl ?_
        refine gg_getI C dX7_firstWaiting_28 lk_X7_125 hf (fun i7 hf => ?_)
        refine gg_bipush C dX7_firstWaiting_31 (v := (119 : Int32)) (by decide) ?_
        refine gg_icmp_ne (tgt := 50) C dX7_firstWaiting_33 (by decide) hf (fun hf => ?_) (fun hf => ?_)
        · exact gg_sub (L' := [some (va_rf l0), some (va_rf l1), some (.int l2), none]) (by first | exact ⟨rfl, ⟨rfl, ⟨rfl, trivial⟩⟩⟩ | simp [gsub]) (hb_50 _ ih _ _ _ _ hf)
        · refine gg_aload_n C dX7_firstWaiting_36 rfl ?_
          refine gg_ifnull (tgt := 48) C dX7_firstWaiting_37 (by decide) hf (fun hf => ?_) (fun hf => ?_)
          · exact gg_sub (L' := [some (va_rf l0), none, some (.int l2), some (va_rf r6)]) (by first | exact ⟨rfl, ⟨rfl, ⟨rfl, trivial⟩⟩⟩ | simp [gsub]) (hb_48 _ ih _ _ _ _ hf)
          · refine gg_aload_n C dX7_firstWaiting_40 rfl ?_
            refine gg_aload_n C dX7_firstWaiting_41 rfl ?_
            refine gr_I (k' := 0) (n' := 0) (gk_V (ci := 1) (As := [va_rf l1]) (rest := []) C dX7_firstWaiting_42 rfl rfl tw_1210 tw_1211 tw_1212 tw_59 tw_1213 gd_X1_isReviewedAheadOf rfl ⟨by decide, by decide⟩ (by simp [gcat, gcI, gcL, gcF, gcD]) ⟨by decide, by decide⟩ hf (fun hf => m_X1_isReviewedAheadOf hfl hf)) rfl rfl (fun E g9 h9 => gx_out C (fun x hx => (ht x hx).elim) (by decide) (by decide) h9) (fun i9 g8 hf => ?_)
            refine gg_if_eq (tgt := 50) C dX7_firstWaiting_45 (by decide) hf (fun hf => ?_) (fun hf => ?_)
            · exact gg_sub (L' := [some (va_rf l0), some (va_rf l1), some (.int l2), none]) (by first | exact ⟨rfl, ⟨rfl, ⟨rfl, trivial⟩⟩⟩ | simp [gsub]) (hb_50 _ ih _ _ _ _ hf)
            · exact gg_sub (L' := [some (va_rf l0), none, some (.int l2), some (va_rf r6)]) (by first | exact ⟨rfl, ⟨rfl, ⟨rfl, trivial⟩⟩⟩ | simp [gsub]) (hb_48 _ ih _ _ _ _ hf)
  unfold w_X7_firstWaiting at hf
  refine gg_null C dX7_firstWaiting_0 ?_
  refine gg_astore_n (L' := [some (va_rf v0), some (va_rf none), none, none]) C dX7_firstWaiting_1 (Or.inr (Or.inr ⟨_, rfl, gcat _⟩)) (by decide) rfl ?_
  refine gg_iconst C dX7_firstWaiting_2 (v := (0 : Int32)) (by decide) ?_
  refine gg_istore_n (L' := [some (va_rf v0), some (va_rf none), some (.int (0 : Int32)), none]) C dX7_firstWaiting_3 (Or.inr (Or.inr ⟨_, rfl, gcat _⟩)) (by decide) rfl ?_
  exact hb_4 _ _ _ _ _ hf
