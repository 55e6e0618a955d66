def w_X8_holdOf_b48 (X : Cx) (post : Int32 → GM → Prop) (px : String → GM → Prop)  (t0 : Int32) (g : GM) : Prop :=
  (narrow .char (.int t0) = .int t0 ∧ post t0 g)
def w_X8_holdOf_b28 (X : Cx) (post : Int32 → GM → Prop) (px : String → GM → Prop)  (l0 : Option Nat) (l1 : Int32) (t0 : Int32) (t1 : Option Nat) (g : GM) : Prop :=
  wPut g t1 8 36 (.int t0) (fun g5 => wGetI g5 l0 8 36 (fun (i6 : Int32) => (if i6 ≤ 0 then wIs g5 l0 8 (w_X8_hold X (fun (i8 : Int32) (g7 : GM) => w_X8_holdOf_b48 X post px i8 g7) px l0 l1 g5) else w_X8_holdOf_b48 X post px (32 : Int32) g5)))
def w_X8_holdOf (X : Cx) (post : Int32 → GM → Prop) (px : String → GM → Prop) (v0 : Option Nat) (v1 : Int32) (g : GM) : Prop :=
  wIs g v0 8 (w_X8_noBuild X (fun (i2 : Int32) (g1 : GM) => (if i2 = 0 then wGetR g1 v0 8 14 (fun (r3 : Option Nat) => wAld g1 r3 v1 1 (fun (i4 : Int32) => (if i4 = (97 : Int32) then w_X8_holdOf_b28 X post px v0 v1 (0 : Int32) v0 g1 else w_X8_holdOf_b28 X post px v0 v1 (2 : Int32) v0 g1))) else post (32 : Int32) g1)) px v0 v1 g)
abbrev rm_X8_holdOf : Room := { frames := 3, cells := 0, slots := 0, locals := 67 }
set_option maxHeartbeats 4000000 in
set_option maxRecDepth 100000 in
theorem m_X8_holdOf {X : Cx} {l : Launch} (hfl : l.stackTraces = false) {post : Int32 → GM → Prop} {px : String → GM → Prop} {v0 : Option Nat} {v1 : Int32} {g : GM} (hf : w_X8_holdOf X post px v0 v1 g) : gMet X l yX8_holdOf cX8_holdOf 2 (some .char) rm_X8_holdOf [va_rf v0, .int v1] g (qI X post) px := by
  refine gg_enter (L := [some (va_rf v0), some (.int v1)]) hfl (by decide +kernel) (by simp [lg_sl, gcat, gcI, gcL, gcF, gcD]) (by simp [gll, lv_args, gcat, gcI, gcL, gcF, gcD]) ?_
  intro p e s m args below meth c C hr ht hm
  have C : FC X p l s m args meth c cX8_holdOf 2 "ReleasetrainModel" := C
  have hb_48 : ∀ (t0 : Int32) (g : GM), w_X8_holdOf_b48 X post px  t0 g → GG X p l e rm_X8_holdOf s m args below meth c 2 (vx_MQ below (qI X post) (gXC X px) args s rm_X8_holdOf.cells rm_X8_holdOf.slots (gA X)) 0 0 48 [none, none] [.int t0] g := by
    intro  t0 g hf
    unfold w_X8_holdOf_b48 at hf
    exact gg_iret C hr (by decide) (by decide) dX8_holdOf_48 hf.1 hf.2
  have hb_28 : ∀ (l0 : Option Nat) (l1 : Int32) (t0 : Int32) (t1 : Option Nat) (g : GM), w_X8_holdOf_b28 X post px  l0 l1 t0 t1 g → GG X p l e rm_X8_holdOf s m args below meth c 2 (vx_MQ below (qI X post) (gXC X px) args s rm_X8_holdOf.cells rm_X8_holdOf.slots (gA X)) 0 0 28 [some (va_rf l0), some (.int l1)] [.int t0, va_rf t1] g := by
    intro  l0 l1 t0 t1 g hf
    unfold w_X8_holdOf_b28 at hf
    refine gg_put C dX8_holdOf_28 pk_X8_110 (gNar_int _) hf (fun g5 hf => ?_)
    refine gg_aload_n C dX8_holdOf_31 rfl ?_
    refine gg_getI C dX8_holdOf_32 lk_X8_110 hf (fun i6 hf => ?_)
    refine gg_if_le (tgt := 43) C dX8_holdOf_35 (by decide) hf (fun hf => ?_) (fun hf => ?_)
    · refine gg_aload_n C dX8_holdOf_43 rfl ?_
      refine gg_iload_n C dX8_holdOf_44 rfl ?_
      refine gr_I (k' := 0) (n' := 0) (gk_V (ci := 8) (As := [.int l1]) (rest := []) C dX8_holdOf_45 rfl rfl tw_1667 tw_1669 tw_33 tw_56 tw_1670 gd_X8_hold rfl ⟨by decide, by decide⟩ (by simp [gcat, gcI, gcL, gcF, gcD]) ⟨by decide, by decide⟩ hf (fun hf => m_X8_hold hfl hf)) rfl rfl (fun E g9 h9 => gx_out C (fun x hx => (ht x hx).elim) (by decide) (by decide) h9) (fun i8 g7 hf => ?_)
      exact gg_sub (L' := [none, none]) (by first | exact trivial | simp [gsub]) (hb_48 _ _ hf)
    · refine gg_bipush C dX8_holdOf_38 (v := (32 : Int32)) (by decide) ?_
      refine gg_goto (tgt := 48) C dX8_holdOf_40 (by decide) ?_
      exact gg_sub (L' := [none, none]) (by first | exact trivial | simp [gsub]) (hb_48 _ _ hf)
  unfold w_X8_holdOf at hf
  refine gg_aload_n C dX8_holdOf_0 rfl ?_
  refine gg_iload_n C dX8_holdOf_1 rfl ?_
  refine gr_I (k' := 0) (n' := 0) (gk_V (ci := 8) (As := [.int v1]) (rest := []) C dX8_holdOf_2 rfl rfl tw_1599 tw_1601 tw_26 tw_56 tw_1602 gd_X8_noBuild rfl ⟨by decide, by decide⟩ (by simp [gcat, gcI, gcL, gcF, gcD]) ⟨by decide, by decide⟩ hf (fun hf => m_X8_noBuild hfl hf)) rfl rfl (fun E g9 h9 => gx_out C (fun x hx => (ht x hx).elim) (by decide) (by decide) h9) (fun i2 g1 hf => ?_)
  refine gg_if_eq (tgt := 11) C dX8_holdOf_5 (by decide) hf (fun hf => ?_) (fun hf => ?_)
  · refine gg_aload_n C dX8_holdOf_11 rfl ?_
    refine gg_aload_n C dX8_holdOf_12 rfl ?_
    refine gg_getR C dX8_holdOf_13 lk_X8_51 hf (fun r3 hf => ?_)
    refine gg_iload_n C dX8_holdOf_16 rfl ?_
    refine gg_cald C dX8_holdOf_17 hf (fun i4 hf => ?_)
    refine gg_bipush C dX8_holdOf_18 (v := (97 : Int32)) (by decide) ?_
    refine gg_icmp_ne (tgt := 27) C dX8_holdOf_20 (by decide) hf (fun hf => ?_) (fun hf => ?_)
    · refine gg_iconst C dX8_holdOf_27 (v := (2 : Int32)) (by decide) ?_
      exact hb_28 _ _ _ _ _ hf
    · refine gg_iconst C dX8_holdOf_23 (v := (0 : Int32)) (by decide) ?_
      refine gg_goto (tgt := 28) C dX8_holdOf_24 (by decide) ?_
      exact hb_28 _ _ _ _ _ hf
  · refine gg_bipush C dX8_holdOf_8 (v := (32 : Int32)) (by decide) ?_
    exact gg_iret C hr (by decide) (by decide) dX8_holdOf_10 rfl hf

def w_X8_could_b111 (X : Cx) (post : Int32 → GM → Prop) (px : String → GM → Prop)  (t0 : Int32) (g : GM) : Prop :=
  (narrow .boolean (.int t0) = .int t0 ∧ post t0 g)
def w_X8_could_b110 (X : Cx) (post : Int32 → GM → Prop) (px : String → GM → Prop)   (g : GM) : Prop :=
  w_X8_could_b111 X post px (0 : Int32) g
def w_X8_could_b106 (X : Cx) (post : Int32 → GM → Prop) (px : String → GM → Prop)   (g : GM) : Prop :=
  w_X8_could_b111 X post px (1 : Int32) g
def w_X8_could_b72 (X : Cx) (post : Int32 → GM → Prop) (px : String → GM → Prop)  (l0 : Option Nat) (l1 : Int32) (l2 : Int32) (l3 : Int32) (t0 : Int32) (g : GM) : Prop :=
  wIs g l0 8 (w_X8_rolls X (fun (i10 : Int32) (g9 : GM) => (if i10 = 0 then w_X8_could_b110 X post px g9 else (if l3 = 0 then w_X8_could_b110 X post px g9 else wGetR g9 l0 8 2 (fun (r11 : Option Nat) => wAld g9 r11 l1 0 (fun (i12 : Int32) => wGetR g9 l0 8 17 (fun (r13 : Option Nat) => wAld g9 r13 l2 0 (fun (i14 : Int32) => (if i12 < i14 then w_X8_could_b106 X post px g9 else (if t0 = 0 then w_X8_could_b110 X post px g9 else w_X8_could_b106 X post px g9))))))))) px l0 l2 g)
def w_X8_could_b71 (X : Cx) (post : Int32 → GM → Prop) (px : String → GM → Prop)  (l0 : Option Nat) (l1 : Int32) (l2 : Int32) (l3 : Int32) (g : GM) : Prop :=
  w_X8_could_b72 X post px l0 l1 l2 l3 (0 : Int32) g
def w_X8_could_b41 (X : Cx) (post : Int32 → GM → Prop) (px : String → GM → Prop)  (l0 : Option Nat) (l1 : Int32) (l2 : Int32) (t0 : Int32) (g : GM) : Prop :=
  wGetR g l0 8 3 (fun (r7 : Option Nat) => wAld g r7 l1 0 (fun (i8 : Int32) => (if i8 = (-1 : Int32) then w_X8_could_b71 X post px l0 l1 l2 t0 g else wGetR g l0 8 13 (fun (r15 : Option Nat) => wAld g r15 l2 0 (fun (i16 : Int32) => wGetR g l0 8 3 (fun (r17 : Option Nat) => wAld g r17 l1 0 (fun (i18 : Int32) => (if i16 = i18 then w_X8_could_b72 X post px l0 l1 l2 t0 (1 : Int32) g else w_X8_could_b71 X post px l0 l1 l2 t0 g))))))))
def w_X8_could_b40 (X : Cx) (post : Int32 → GM → Prop) (px : String → GM → Prop)  (l0 : Option Nat) (l1 : Int32) (l2 : Int32) (g : GM) : Prop :=
  w_X8_could_b41 X post px l0 l1 l2 (0 : Int32) g
def w_X8_could (X : Cx) (post : Int32 → GM → Prop) (px : String → GM → Prop) (v0 : Option Nat) (v1 : Int32) (v2 : Int32) (g : GM) : Prop :=
  wGetR g v0 8 8 (fun (r1 : Option Nat) => wAld g r1 v2 0 (fun (i2 : Int32) => wGetR g v0 8 0 (fun (r3 : Option Nat) => wAld g r3 v1 0 (fun (i4 : Int32) => w_X8_has X (fun (i6 : Int32) (g5 : GM) => (if i6 = 0 then w_X8_could_b40 X post px v0 v1 v2 g5 else wGetR g5 v0 8 9 (fun (r19 : Option Nat) => wAld g5 r19 v2 0 (fun (i20 : Int32) => wGetR g5 v0 8 1 (fun (r21 : Option Nat) => wAld g5 r21 v1 0 (fun (i22 : Int32) => w_X8_has X (fun (i24 : Int32) (g23 : GM) => (if i24 = 0 then w_X8_could_b40 X post px v0 v1 v2 g23 else w_X8_could_b41 X post px v0 v1 v2 (1 : Int32) g23)) px i20 i22 g5)))))) px i2 i4 g))))
abbrev rm_X8_could : Room := { frames := 4, cells := 0, slots := 0, locals := 88 }
set_option maxHeartbeats 4000000 in
set_option maxRecDepth 100000 in
theorem m_X8_could {X : Cx} {l : Launch} (hfl : l.stackTraces = false) {post : Int32 → GM → Prop} {px : String → GM → Prop} {v0 : Option Nat} {v1 : Int32} {v2 : Int32} {g : GM} (hf : w_X8_could X post px v0 v1 v2 g) : gMet X l yX8_could cX8_could 5 (some .boolean) rm_X8_could [va_rf v0, .int v1, .int v2] g (qI X post) px := by
  refine gg_enter (L := [some (va_rf v0), some (.int v1), some (.int v2), none, none]) hfl (by decide +kernel) (by simp [lg_sl, gcat, gcI, gcL, gcF, gcD]) (by simp [gll, lv_args, gcat, gcI, gcL, gcF, gcD]) ?_
  intro p e s m args below meth c C hr ht hm
  have C : FC X p l s m args meth c cX8_could 5 "ReleasetrainModel" := C
  have hb_111 : ∀ (t0 : Int32) (g : GM), w_X8_could_b111 X post px  t0 g → GG X p l e rm_X8_could s m args below meth c 5 (vx_MQ below (qI X post) (gXC X px) args s rm_X8_could.cells rm_X8_could.slots (gA X)) 0 0 111 [none, none, none, none, none] [.int t0] g := by
    intro  t0 g hf
    unfold w_X8_could_b111 at hf
    exact gg_iret C hr (by decide) (by decide) dX8_could_111 hf.1 hf.2
  have hb_110 : ∀  (g : GM), w_X8_could_b110 X post px   g → GG X p l e rm_X8_could s m args below meth c 5 (vx_MQ below (qI X post) (gXC X px) args s rm_X8_could.cells rm_X8_could.slots (gA X)) 0 0 110 [none, none, none, none, none] [] g := by
    intro   g hf
    unfold w_X8_could_b110 at hf
    refine gg_iconst C dX8_could_110 (v := (0 : Int32)) (by decide) ?_
    exact hb_111 _ _ hf
  have hb_106 : ∀  (g : GM), w_X8_could_b106 X post px   g → GG X p l e rm_X8_could s m args below meth c 5 (vx_MQ below (qI X post) (gXC X px) args s rm_X8_could.cells rm_X8_could.slots (gA X)) 0 0 106 [none, none, none, none, none] [] g := by
    intro   g hf
    unfold w_X8_could_b106 at hf
    refine gg_iconst C dX8_could_106 (v := (1 : Int32)) (by decide) ?_
    refine gg_goto (tgt := 111) C dX8_could_107 (by decide) ?_
    exact hb_111 _ _ hf
  have hb_72 : ∀ (l0 : Option Nat) (l1 : Int32) (l2 : Int32) (l3 : Int32) (t0 : Int32) (g : GM), w_X8_could_b72 X post px  l0 l1 l2 l3 t0 g → GG X p l e rm_X8_could s m args below meth c 5 (vx_MQ below (qI X post) (gXC X px) args s rm_X8_could.cells rm_X8_could.slots (gA X)) 0 0 72 [some (va_rf l0), some (.int l1), some (.int l2), some (.int l3), none] [.int t0] g := by
    intro  l0 l1 l2 l3 t0 g hf
    unfold w_X8_could_b72 at hf
    refine gg_istore (L' := [some (va_rf l0), some (.int l1), some (.int l2), some (.int l3), some (.int t0)]) C dX8_could_72 (Or.inr (Or.inr ⟨_, rfl, rfl⟩)) (by decide) rfl ?_
    refine gg_aload_n C dX8_could_74 rfl ?_
    refine gg_iload_n C dX8_could_75 rfl ?_
    refine gr_I (k' := 0) (n' := 0) (gk_V (ci := 8) (As := [.int l2]) (rest := []) C dX8_could_76 rfl rfl tw_1663 tw_1665 tw_32 tw_56 tw_1666 gd_X8_rolls rfl ⟨by decide, by decide⟩ (by simp [gcat, gcI, gcL, gcF, gcD]) ⟨by decide, by decide⟩ hf (fun hf => m_X8_rolls hfl hf)) rfl rfl (fun E g9 h9 => gx_out C (fun x hx => (ht x hx).elim) (by decide) (by decide) h9) (fun i10 g9 hf => ?_)
    refine gg_if_eq (tgt := 110) C dX8_could_79 (by decide) hf (fun hf => ?_) (fun hf => ?_)
    · exact gg_sub (L' := [none, none, none, none, none]) (by first | exact trivial | simp [gsub]) (hb_110 _ hf)
    · refine gg_iload_n C dX8_could_82 rfl ?_
      refine gg_if_eq (tgt := 110) C dX8_could_83 (by decide) hf (fun hf => ?_) (fun hf => ?_)
      · exact gg_sub (L' := [none, none, none, none, none]) (by first | exact trivial | simp [gsub]) (hb_110 _ hf)
      · refine gg_aload_n C dX8_could_86 rfl ?_
        refine gg_getR C dX8_could_87 lk_X8_16 hf (fun r11 hf => ?_)
        refine gg_iload_n C dX8_could_90 rfl ?_
        refine gg_iald C dX8_could_91 hf (fun i12 hf => ?_)
        refine gg_aload_n C dX8_could_92 rfl ?_
        refine gg_getR C dX8_could_93 lk_X8_62 hf (fun r13 hf => ?_)
        refine gg_iload_n C dX8_could_96 rfl ?_
        refine gg_iald C dX8_could_97 hf (fun i14 hf => ?_)
        refine gg_icmp_lt (tgt := 106) C dX8_could_98 (by decide) hf (fun hf => ?_) (fun hf => ?_)
        · exact gg_sub (L' := [none, none, none, none, none]) (by first | exact trivial | simp [gsub]) (hb_106 _ hf)
        · refine gg_iload C dX8_could_101 rfl ?_
          refine gg_if_eq (tgt := 110) C dX8_could_103 (by decide) hf (fun hf => ?_) (fun hf => ?_)
          · exact gg_sub (L' := [none, none, none, none, none]) (by first | exact trivial | simp [gsub]) (hb_110 _ hf)
          · exact gg_sub (L' := [none, none, none, none, none]) (by first | exact trivial | simp [gsub]) (hb_106 _ hf)
  have hb_71 : ∀ (l0 : Option Nat) (l1 : Int32) (l2 : Int32) (l3 : Int32) (g : GM), w_X8_could_b71 X post px  l0 l1 l2 l3 g → GG X p l e rm_X8_could s m args below meth c 5 (vx_MQ below (qI X post) (gXC X px) args s rm_X8_could.cells rm_X8_could.slots (gA X)) 0 0 71 [some (va_rf l0), some (.int l1), some (.int l2), some (.int l3), none] [] g := by
    intro  l0 l1 l2 l3 g hf
    unfold w_X8_could_b71 at hf
    refine gg_iconst C dX8_could_71 (v := (0 : Int32)) (by decide) ?_
    exact hb_72 _ _ _ _ _ _ hf
  have hb_41 : ∀ (l0 : Option Nat) (l1 : Int32) (l2 : Int32) (t0 : Int32) (g : GM), w_X8_could_b41 X post px  l0 l1 l2 t0 g → GG X p l e rm_X8_could s m args below meth c 5 (vx_MQ below (qI X post) (gXC X px) args s rm_X8_could.cells rm_X8_could.slots (gA X)) 0 0 41 [some (va_rf l0), some (.int l1), some (.int l2), none, none] [.int t0] g := by
    intro  l0 l1 l2 t0 g hf
    unfold w_X8_could_b41 at hf
    refine gg_istore_n (L' := [some (va_rf l0), some (.int l1), some (.int l2), some (.int t0), none]) C dX8_could_41 (Or.inr (Or.inr ⟨_, rfl, rfl⟩)) (by decide) rfl ?_
    refine gg_aload_n C dX8_could_42 rfl ?_
    refine gg_getR C dX8_could_43 lk_X8_19 hf (fun r7 hf => ?_)
    refine gg_iload_n C dX8_could_46 rfl ?_
    refine gg_iald C dX8_could_47 hf (fun i8 hf => ?_)
    refine gg_iconst C dX8_could_48 (v := (-1 : Int32)) (by decide) ?_
    refine gg_icmp_eq (tgt := 71) C dX8_could_49 (by decide) hf (fun hf => ?_) (fun hf => ?_)
    · exact hb_71 _ _ _ _ _ hf
    · refine gg_aload_n C dX8_could_52 rfl ?_
      refine gg_getR C dX8_could_53 lk_X8_48 hf (fun r15 hf => ?_)
      refine gg_iload_n C dX8_could_56 rfl ?_
      refine gg_iald C dX8_could_57 hf (fun i16 hf => ?_)
      refine gg_aload_n C dX8_could_58 rfl ?_
      refine gg_getR C dX8_could_59 lk_X8_19 hf (fun r17 hf => ?_)
      refine gg_iload_n C dX8_could_62 rfl ?_
      refine gg_iald C dX8_could_63 hf (fun i18 hf => ?_)
      refine gg_icmp_ne (tgt := 71) C dX8_could_64 (by decide) hf (fun hf => ?_) (fun hf => ?_)
      · exact hb_71 _ _ _ _ _ hf
      · refine gg_iconst C dX8_could_67 (v := (1 : Int32)) (by decide) ?_
        refine gg_goto (tgt := 72) C dX8_could_68 (by decide) ?_
        exact hb_72 _ _ _ _ _ _ hf
  have hb_40 : ∀ (l0 : Option Nat) (l1 : Int32) (l2 : Int32) (g : GM), w_X8_could_b40 X post px  l0 l1 l2 g → GG X p l e rm_X8_could s m args below meth c 5 (vx_MQ below (qI X post) (gXC X px) args s rm_X8_could.cells rm_X8_could.slots (gA X)) 0 0 40 [some (va_rf l0), some (.int l1), some (.int l2), none, none] [] g := by
    intro  l0 l1 l2 g hf
    unfold w_X8_could_b40 at hf
    refine gg_iconst C dX8_could_40 (v := (0 : Int32)) (by decide) ?_
    exact hb_41 _ _ _ _ _ hf
  unfold w_X8_could at hf
  refine gg_aload_n C dX8_could_0 rfl ?_
  refine gg_getR C dX8_could_1 lk_X8_33 hf (fun r1 hf => ?_)
  refine gg_iload_n C dX8_could_4 rfl ?_
  refine gg_iald C dX8_could_5 hf (fun i2 hf => ?_)
  refine gg_aload_n C dX8_could_6 rfl ?_
  refine gg_getR C dX8_could_7 lk_X8_9 hf (fun r3 hf => ?_)
  refine gg_iload_n C dX8_could_10 rfl ?_
  refine gg_iald C dX8_could_11 hf (fun i4 hf => ?_)
  refine gr_I (k' := 0) (n' := 0) (gk_S (As := [.int i2, .int i4]) (rest := []) C dX8_could_12 tw_1705 tw_1706 tw_56 tw_1707 gd_X8_has rfl ⟨by decide, by decide⟩ (by simp [gcat, gcI, gcL, gcF, gcD]) ⟨by decide, by decide⟩ (m_X8_has hfl hf)) rfl rfl (fun E g9 h9 => gx_out C (fun x hx => (ht x hx).elim) (by decide) (by decide) h9) (fun i6 g5 hf => ?_)
  refine gg_if_eq (tgt := 40) C dX8_could_15 (by decide) hf (fun hf => ?_) (fun hf => ?_)
  · exact hb_40 _ _ _ _ hf
  · refine gg_aload_n C dX8_could_18 rfl ?_
    refine gg_getR C dX8_could_19 lk_X8_36 hf (fun r19 hf => ?_)
    refine gg_iload_n C dX8_could_22 rfl ?_
    refine gg_iald C dX8_could_23 hf (fun i20 hf => ?_)
    refine gg_aload_n C dX8_could_24 rfl ?_
    refine gg_getR C dX8_could_25 lk_X8_13 hf (fun r21 hf => ?_)
    refine gg_iload_n C dX8_could_28 rfl ?_
    refine gg_iald C dX8_could_29 hf (fun i22 hf => ?_)
    refine gr_I (k' := 0) (n' := 0) (gk_S (As := [.int i20, .int i22]) (rest := []) C dX8_could_30 tw_1705 tw_1706 tw_56 tw_1707 gd_X8_has rfl ⟨by decide, by decide⟩ (by simp [gcat, gcI, gcL, gcF, gcD]) ⟨by decide, by decide⟩ (m_X8_has hfl hf)) rfl rfl (fun E g9 h9 => gx_out C (fun x hx => (ht x hx).elim) (by decide) (by decide) h9) (fun i24 g23 hf => ?_)
    refine gg_if_eq (tgt := 40) C dX8_could_33 (by decide) hf (fun hf => ?_) (fun hf => ?_)
    · exact hb_40 _ _ _ _ hf
    · refine gg_iconst C dX8_could_36 (v := (1 : Int32)) (by decide) ?_
      refine gg_goto (tgt := 41) C dX8_could_37 (by decide) ?_
      exact hb_41 _ _ _ _ _ hf

def w_X8_couldHave_b46 (X : Cx) (post : Int32 → GM → Prop) (px : String → GM → Prop)  (t0 : Int32) (g : GM) : Prop :=
  (narrow .boolean (.int t0) = .int t0 ∧ post t0 g)
def w_X8_couldHave_b45 (X : Cx) (post : Int32 → GM → Prop) (px : String → GM → Prop)   (g : GM) : Prop :=
  w_X8_couldHave_b46 X post px (0 : Int32) g
def w_X8_couldHave_b22 (X : Cx) (post : Int32 → GM → Prop) (px : String → GM → Prop)  (l0 : Option Nat) (l1 : Int32) (l2 : Int32) (t0 : Int32) (t1 : Option Nat) (g : GM) : Prop :=
  wPut g t1 8 36 (.int t0) (fun g3 => wGetI g3 l0 8 36 (fun (i4 : Int32) => (if i4 = 0 then wIs g3 l0 8 (w_X8_could X (fun (i6 : Int32) (g5 : GM) => (if i6 = 0 then w_X8_couldHave_b45 X post px g5 else w_X8_couldHave_b46 X post px (1 : Int32) g5)) px l0 l1 l2 g3) else w_X8_couldHave_b45 X post px g3)))
def w_X8_couldHave_b21 (X : Cx) (post : Int32 → GM → Prop) (px : String → GM → Prop)  (l0 : Option Nat) (l1 : Int32) (l2 : Int32) (t0 : Option Nat) (g : GM) : Prop :=
  w_X8_couldHave_b22 X post px l0 l1 l2 (1 : Int32) t0 g
def w_X8_couldHave (X : Cx) (post : Int32 → GM → Prop) (px : String → GM → Prop) (v0 : Option Nat) (v1 : Int32) (v2 : Int32) (g : GM) : Prop :=
  wIs g v0 8 (w_X8_isDevice X (fun (i2 : Int32) (g1 : GM) => (if i2 = 0 then w_X8_couldHave_b21 X post px v0 v1 v2 v0 g1 else wIs g1 v0 8 (w_X8_isBuild X (fun (i8 : Int32) (g7 : GM) => (if i8 = 0 then w_X8_couldHave_b21 X post px v0 v1 v2 v0 g7 else w_X8_couldHave_b22 X post px v0 v1 v2 (0 : Int32) v0 g7)) px v0 v2 g1))) px v0 v1 g)
abbrev rm_X8_couldHave : Room := { frames := 5, cells := 0, slots := 0, locals := 112 }
set_option maxHeartbeats 4000000 in
set_option maxRecDepth 100000 in
theorem m_X8_couldHave {X : Cx} {l : Launch} (hfl : l.stackTraces = false) {post : Int32 → GM → Prop} {px : String → GM → Prop} {v0 : Option Nat} {v1 : Int32} {v2 : Int32} {g : GM} (hf : w_X8_couldHave X post px v0 v1 v2 g) : gMet X l yX8_couldHave cX8_couldHave 3 (some .boolean) rm_X8_couldHave [va_rf v0, .int v1, .int v2] g (qI X post) px := by
  refine gg_enter (L := [some (va_rf v0), some (.int v1), some (.int v2)]) hfl (by decide +kernel) (by simp [lg_sl, gcat, gcI, gcL, gcF, gcD]) (by simp [gll, lv_args, gcat, gcI, gcL, gcF, gcD]) ?_
  intro p e s m args below meth c C hr ht hm
  have C : FC X p l s m args meth c cX8_couldHave 3 "ReleasetrainModel" := C
  have hb_46 : ∀ (t0 : Int32) (g : GM), w_X8_couldHave_b46 X post px  t0 g → GG X p l e rm_X8_couldHave s m args below meth c 3 (vx_MQ below (qI X post) (gXC X px) args s rm_X8_couldHave.cells rm_X8_couldHave.slots (gA X)) 0 0 46 [none, none, none] [.int t0] g := by
    intro  t0 g hf
    unfold w_X8_couldHave_b46 at hf
    exact gg_iret C hr (by decide) (by decide) dX8_couldHave_46 hf.1 hf.2
  have hb_45 : ∀  (g : GM), w_X8_couldHave_b45 X post px   g → GG X p l e rm_X8_couldHave s m args below meth c 3 (vx_MQ below (qI X post) (gXC X px) args s rm_X8_couldHave.cells rm_X8_couldHave.slots (gA X)) 0 0 45 [none, none, none] [] g := by
    intro   g hf
    unfold w_X8_couldHave_b45 at hf
    refine gg_iconst C dX8_couldHave_45 (v := (0 : Int32)) (by decide) ?_
    exact hb_46 _ _ hf
  have hb_22 : ∀ (l0 : Option Nat) (l1 : Int32) (l2 : Int32) (t0 : Int32) (t1 : Option Nat) (g : GM), w_X8_couldHave_b22 X post px  l0 l1 l2 t0 t1 g → GG X p l e rm_X8_couldHave s m args below meth c 3 (vx_MQ below (qI X post) (gXC X px) args s rm_X8_couldHave.cells rm_X8_couldHave.slots (gA X)) 0 0 22 [some (va_rf l0), some (.int l1), some (.int l2)] [.int t0, va_rf t1] g := by
    intro  l0 l1 l2 t0 t1 g hf
    unfold w_X8_couldHave_b22 at hf
    refine gg_put C dX8_couldHave_22 pk_X8_110 (gNar_int _) hf (fun g3 hf => ?_)
    refine gg_aload_n C dX8_couldHave_25 rfl ?_
    refine gg_getI C dX8_couldHave_26 lk_X8_110 hf (fun i4 hf => ?_)
    refine gg_if_ne (tgt := 45) C dX8_couldHave_29 (by decide) hf (fun hf => ?_) (fun hf => ?_)
    · exact gg_sub (L' := [none, none, none]) (by first | exact trivial | simp [gsub]) (hb_45 _ hf)
    · refine gg_aload_n C dX8_couldHave_32 rfl ?_
      refine gg_iload_n C dX8_couldHave_33 rfl ?_
      refine gg_iload_n C dX8_couldHave_34 rfl ?_
      refine gr_I (k' := 0) (n' := 0) (gk_V (ci := 8) (As := [.int l1, .int l2]) (rest := []) C dX8_couldHave_35 rfl rfl tw_1701 tw_1703 tw_38 tw_56 tw_1704 gd_X8_could rfl ⟨by decide, by decide⟩ (by simp [gcat, gcI, gcL, gcF, gcD]) ⟨by decide, by decide⟩ hf (fun hf => m_X8_could hfl hf)) rfl rfl (fun E g9 h9 => gx_out C (fun x hx => (ht x hx).elim) (by decide) (by decide) h9) (fun i6 g5 hf => ?_)
      refine gg_if_eq (tgt := 45) C dX8_couldHave_38 (by decide) hf (fun hf => ?_) (fun hf => ?_)
      · exact gg_sub (L' := [none, none, none]) (by first | exact trivial | simp [gsub]) (hb_45 _ hf)
      · refine gg_iconst C dX8_couldHave_41 (v := (1 : Int32)) (by decide) ?_
        refine gg_goto (tgt := 46) C dX8_couldHave_42 (by decide) ?_
        exact gg_sub (L' := [none, none, none]) (by first | exact trivial | simp [gsub]) (hb_46 _ _ hf)
  have hb_21 : ∀ (l0 : Option Nat) (l1 : Int32) (l2 : Int32) (t0 : Option Nat) (g : GM), w_X8_couldHave_b21 X post px  l0 l1 l2 t0 g → GG X p l e rm_X8_couldHave s m args below meth c 3 (vx_MQ below (qI X post) (gXC X px) args s rm_X8_couldHave.cells rm_X8_couldHave.slots (gA X)) 0 0 21 [some (va_rf l0), some (.int l1), some (.int l2)] [va_rf t0] g := by
    intro  l0 l1 l2 t0 g hf
    unfold w_X8_couldHave_b21 at hf
    refine gg_iconst C dX8_couldHave_21 (v := (1 : Int32)) (by decide) ?_
    exact hb_22 _ _ _ _ _ _ hf
  unfold w_X8_couldHave at hf
  refine gg_aload_n C dX8_couldHave_0 rfl ?_
  refine gg_aload_n C dX8_couldHave_1 rfl ?_
  refine gg_iload_n C dX8_couldHave_2 rfl ?_
  refine gr_I (k' := 0) (n' := 0) (gk_V (ci := 8) (As := [.int v1]) (rest := [va_rf v0]) C dX8_couldHave_3 rfl rfl tw_1697 tw_1699 tw_37 tw_56 tw_1700 gd_X8_isDevice rfl ⟨by decide, by decide⟩ (by simp [gcat, gcI, gcL, gcF, gcD]) ⟨by decide, by decide⟩ hf (fun hf => m_X8_isDevice hfl hf)) rfl rfl (fun E g9 h9 => gx_out C (fun x hx => (ht x hx).elim) (by decide) (by decide) h9) (fun i2 g1 hf => ?_)
  refine gg_if_eq (tgt := 21) C dX8_couldHave_6 (by decide) hf (fun hf => ?_) (fun hf => ?_)
  · exact hb_21 _ _ _ _ _ hf
  · refine gg_aload_n C dX8_couldHave_9 rfl ?_
    refine gg_iload_n C dX8_couldHave_10 rfl ?_
    refine gr_I (k' := 0) (n' := 0) (gk_V (ci := 8) (As := [.int v2]) (rest := [va_rf v0]) C dX8_couldHave_11 rfl rfl tw_1603 tw_1605 tw_27 tw_56 tw_1606 gd_X8_isBuild rfl ⟨by decide, by decide⟩ (by simp [gcat, gcI, gcL, gcF, gcD]) ⟨by decide, by decide⟩ hf (fun hf => m_X8_isBuild hfl hf)) rfl rfl (fun E g9 h9 => gx_out C (fun x hx => (ht x hx).elim) (by decide) (by decide) h9) (fun i8 g7 hf => ?_)
    refine gg_if_eq (tgt := 21) C dX8_couldHave_14 (by decide) hf (fun hf => ?_) (fun hf => ?_)
    · exact hb_21 _ _ _ _ _ hf
    · refine gg_iconst C dX8_couldHave_17 (v := (0 : Int32)) (by decide) ?_
      refine gg_goto (tgt := 22) C dX8_couldHave_18 (by decide) ?_
      exact hb_22 _ _ _ _ _ _ hf

def w_X8_reach_b37 (X : Cx) (post : Int32 → GM → Prop) (px : String → GM → Prop) (k14 : Option Nat → Int32 → Int32 → Int32 → GM → Prop) (l0 : Option Nat) (l1 : Int32) (l3 : Int32) (t0 : Int32) (t1 : Int32) (g : GM) : Prop :=
  k14 l0 l1 (t1 + t0) (l3 + 1) g
def w_X8_reach_l14 (X : Cx) (post : Int32 → GM → Prop) (px : String → GM → Prop)  : Nat → Option Nat → Int32 → Int32 → Int32 → GM → Prop
  | 0, _, _, _, _, _ => False
  | f + 1, l0, l1, l2, l3, g => wGetI g l0 8 6 (fun (i3 : Int32) => (if i3 ≤ l3 then post l2 g else wIs g l0 8 (w_X8_could X (fun (i5 : Int32) (g4 : GM) => (if i5 = 0 then w_X8_reach_b37 X post px (w_X8_reach_l14 X post px f) l0 l1 l3 (0 : Int32) l2 g4 else w_X8_reach_b37 X post px (w_X8_reach_l14 X post px f) l0 l1 l3 (1 : Int32) l2 g4)) px l0 l3 l1 g)))
def w_X8_reach (X : Cx) (post : Int32 → GM → Prop) (px : String → GM → Prop) (v0 : Option Nat) (v1 : Int32) (g : GM) : Prop :=
  wIs g v0 8 (w_X8_noBuild X (fun (i2 : Int32) (g1 : GM) => (if i2 = 0 then w_X8_reach_l14 X post px 3000 v0 v1 (0 : Int32) (0 : Int32) g1 else post (0 : Int32) g1)) px v0 v1 g)
abbrev rm_X8_reach : Room := { frames := 5, cells := 0, slots := 0, locals := 112 }
set_option maxHeartbeats 4000000 in
set_option maxRecDepth 100000 in
theorem m_X8_reach {X : Cx} {l : Launch} (hfl : l.stackTraces = false) {post : Int32 → GM → Prop} {px : String → GM → Prop} {v0 : Option Nat} {v1 : Int32} {g : GM} (hf : w_X8_reach X post px v0 v1 g) : gMet X l yX8_reach cX8_reach 4 (some .int) rm_X8_reach [va_rf v0, .int v1] g (qI X post) px := by
  refine gg_enter (L := [some (va_rf v0), some (.int v1), none, none]) hfl (by decide +kernel) (by simp [lg_sl, gcat, gcI, gcL, gcF, gcD]) (by simp [gll, lv_args, gcat, gcI, gcL, gcF, gcD]) ?_
  intro p e s m args below meth c C hr ht hm
  have C : FC X p l s m args meth c cX8_reach 4 "ReleasetrainModel" := C
  have hb_37 : ∀ (k14 : Option Nat → Int32 → Int32 → Int32 → GM → Prop), (∀ (l0 : Option Nat) (l1 : Int32) (l2 : Int32) (l3 : Int32) (g : GM), k14 l0 l1 l2 l3 g → GG X p l e rm_X8_reach s m args below meth c 4 (vx_MQ below (qI X post) (gXC X px) args s rm_X8_reach.cells rm_X8_reach.slots (gA X)) 0 0 14 [some (va_rf l0), some (.int l1), some (.int l2), some (.int l3)] [] g) → ∀ (l0 : Option Nat) (l1 : Int32) (l3 : Int32) (t0 : Int32) (t1 : Int32) (g : GM), w_X8_reach_b37 X post px k14 l0 l1 l3 t0 t1 g → GG X p l e rm_X8_reach s m args below meth c 4 (vx_MQ below (qI X post) (gXC X px) args s rm_X8_reach.cells rm_X8_reach.slots (gA X)) 0 0 37 [some (va_rf l0), some (.int l1), none, some (.int l3)] [.int t0, .int t1] g := by
    intro k14 hk14 l0 l1 l3 t0 t1 g hf
    unfold w_X8_reach_b37 at hf
    refine gg_iadd C dX8_reach_37 ?_
    refine gg_istore_n (L' := [some (va_rf l0), some (.int l1), some (.int (t1 + t0)), some (.int l3)]) C dX8_reach_38 (Or.inr (Or.inr ⟨_, rfl, rfl⟩)) (by decide) rfl ?_
    refine gg_iinc (L' := [some (va_rf l0), some (.int l1), some (.int (t1 + t0)), some (.int (l3 + 1))]) C dX8_reach_39 rfl (v := (l3 + 1)) rfl (Or.inr (Or.inr ⟨_, rfl, rfl⟩)) (by decide) rfl ?_
    refine gg_goto (tgt := 14) C dX8_reach_42 (by decide) ?_
    exact hk14 _ _ _ _ _ hf
  have hb_14 : ∀ (f : Nat) (l0 : Option Nat) (l1 : Int32) (l2 : Int32) (l3 : Int32) (g : GM), w_X8_reach_l14 X post px  f l0 l1 l2 l3 g → GG X p l e rm_X8_reach s m args below meth c 4 (vx_MQ below (qI X post) (gXC X px) args s rm_X8_reach.cells rm_X8_reach.slots (gA X)) 0 0 14 [some (va_rf l0), some (.int l1), some (.int l2), some (.int l3)] [] g := by
    intro  f
    induction f with
    | zero => intro l0 l1 l2 l3 g hf; exact (show False from hf).elim
    | succ f ih =>
      intro l0 l1 l2 l3 g hf
      rw [w_X8_reach_l14] at hf
      refine gg_iload_n C dX8_reach_14 rfl ?_
      refine gg_aload_n C dX8_reach_15 rfl ?_
      refine gg_getI C dX8_reach_16 lk_X8_113 hf (fun i3 hf => ?_)
      refine gg_icmp_ge (tgt := 45) C dX8_reach_19 (by decide) hf (fun hf => ?_) (fun hf => ?_)
      · refine gg_iload_n C dX8_reach_45 rfl ?_
        exact gg_iret C hr (by decide) (by decide) dX8_reach_46 rfl hf
      · refine gg_iload_n C dX8_reach_22 rfl ?_
        refine gg_aload_n C dX8_reach_23 rfl ?_
        refine gg_iload_n C dX8_reach_24 rfl ?_
        refine gg_iload_n C dX8_reach_25 rfl ?_
        refine gr_I (k' := 0) (n' := 0) (gk_V (ci := 8) (As := [.int l3, .int l1]) (rest := [.int l2]) C dX8_reach_26 rfl rfl tw_1701 tw_1703 tw_38 tw_56 tw_1704 gd_X8_could rfl ⟨by decide, by decide⟩ (by simp [gcat, gcI, gcL, gcF, gcD]) ⟨by decide, by decide⟩ hf (fun hf => m_X8_could hfl hf)) rfl rfl (fun E g9 h9 => gx_out C (fun x hx => (ht x hx).elim) (by decide) (by decide) h9) (fun i5 g4 hf => ?_)
        refine gg_if_eq (tgt := 36) C dX8_reach_29 (by decide) hf (fun hf => ?_) (fun hf => ?_)
        · refine gg_iconst C dX8_reach_36 (v := (0 : Int32)) (by decide) ?_
          exact gg_sub (L' := [some (va_rf l0), some (.int l1), none, some (.int l3)]) (by first | exact ⟨rfl, ⟨rfl, ⟨rfl, trivial⟩⟩⟩ | simp [gsub]) (hb_37 _ ih _ _ _ _ _ _ hf)
        · refine gg_iconst C dX8_reach_32 (v := (1 : Int32)) (by decide) ?_
          refine gg_goto (tgt := 37) C dX8_reach_33 (by decide) ?_
          exact gg_sub (L' := [some (va_rf l0), some (.int l1), none, some (.int l3)]) (by first | exact ⟨rfl, ⟨rfl, ⟨rfl, trivial⟩⟩⟩ | simp [gsub]) (hb_37 _ ih _ _ _ _ _ _ hf)
  unfold w_X8_reach at hf
  refine gg_aload_n C dX8_reach_0 rfl ?_
  refine gg_iload_n C dX8_reach_1 rfl ?_
  refine gr_I (k' := 0) (n' := 0) (gk_V (ci := 8) (As := [.int v1]) (rest := []) C dX8_reach_2 rfl rfl tw_1599 tw_1601 tw_26 tw_56 tw_1602 gd_X8_noBuild rfl ⟨by decide, by decide⟩ (by simp [gcat, gcI, gcL, gcF, gcD]) ⟨by decide, by decide⟩ hf (fun hf => m_X8_noBuild hfl hf)) rfl rfl (fun E g9 h9 => gx_out C (fun x hx => (ht x hx).elim) (by decide) (by decide) h9) (fun i2 g1 hf => ?_)
  refine gg_if_eq (tgt := 10) C dX8_reach_5 (by decide) hf (fun hf => ?_) (fun hf => ?_)
  · refine gg_iconst C dX8_reach_10 (v := (0 : Int32)) (by decide) ?_
    refine gg_istore_n (L' := [some (va_rf v0), some (.int v1), some (.int (0 : Int32)), none]) C dX8_reach_11 (Or.inr (Or.inr ⟨_, rfl, rfl⟩)) (by decide) rfl ?_
    refine gg_iconst C dX8_reach_12 (v := (0 : Int32)) (by decide) ?_
    refine gg_istore_n (L' := [some (va_rf v0), some (.int v1), some (.int (0 : Int32)), some (.int (0 : Int32))]) C dX8_reach_13 (Or.inr (Or.inr ⟨_, rfl, rfl⟩)) (by decide) rfl ?_
    exact hb_14 _ _ _ _ _ _ hf
  · refine gg_iconst C dX8_reach_8 (v := (0 : Int32)) (by decide) ?_
    exact gg_iret C hr (by decide) (by decide) dX8_reach_9 rfl hf

def w_X8_reachByDevices (X : Cx) (post : Int32 → GM → Prop) (px : String → GM → Prop) (v0 : Option Nat) (v1 : Int32) (g : GM) : Prop :=
  wIs g v0 8 (w_X8_reach X (fun (i2 : Int32) (g1 : GM) => post i2 g1) px v0 v1 g)
abbrev rm_X8_reachByDevices : Room := { frames := 6, cells := 0, slots := 0, locals := 135 }
set_option maxHeartbeats 4000000 in
set_option maxRecDepth 100000 in
theorem m_X8_reachByDevices {X : Cx} {l : Launch} (hfl : l.stackTraces = false) {post : Int32 → GM → Prop} {px : String → GM → Prop} {v0 : Option Nat} {v1 : Int32} {g : GM} (hf : w_X8_reachByDevices X post px v0 v1 g) : gMet X l yX8_reachByDevices cX8_reachByDevices 2 (some .int) rm_X8_reachByDevices [va_rf v0, .int v1] g (qI X post) px := by
  refine gg_enter (L := [some (va_rf v0), some (.int v1)]) hfl (by decide +kernel) (by simp [lg_sl, gcat, gcI, gcL, gcF, gcD]) (by simp [gll, lv_args, gcat, gcI, gcL, gcF, gcD]) ?_
  intro p e s m args below meth c C hr ht hm
  have C : FC X p l s m args meth c cX8_reachByDevices 2 "ReleasetrainModel" := C
  unfold w_X8_reachByDevices at hf
  refine gg_aload_n C dX8_reachByDevices_0 rfl ?_
  refine gg_iload_n C dX8_reachByDevices_1 rfl ?_
  refine gr_I (k' := 0) (n' := 0) (gk_V (ci := 8) (As := [.int v1]) (rest := []) C dX8_reachByDevices_2 rfl rfl tw_1716 tw_1709 tw_1710 tw_56 tw_1711 gd_X8_reach rfl ⟨by decide, by decide⟩ (by simp [gcat, gcI, gcL, gcF, gcD]) ⟨by decide, by decide⟩ hf (fun hf => m_X8_reach hfl hf)) rfl rfl (fun E g9 h9 => gx_out C (fun x hx => (ht x hx).elim) (by decide) (by decide) h9) (fun i2 g1 hf => ?_)
  exact gg_iret C hr (by decide) (by decide) dX8_reachByDevices_5 rfl hf

def w_X8_given_b141 (X : Cx) (post : Int32 → GM → Prop) (px : String → GM → Prop) (k4 : Option Nat → Int32 → Int32 → Int32 → GM → Prop) (l0 : Option Nat) (l1 : Int32) (l2 : Int32) (l3 : Int32) (g : GM) : Prop :=
  k4 l0 l1 l2 (l3 + 1) g
def w_X8_given_b140 (X : Cx) (post : Int32 → GM → Prop) (px : String → GM → Prop) (k4 : Option Nat → Int32 → Int32 → Int32 → GM → Prop) (l0 : Option Nat) (l1 : Int32) (l3 : Int32) (t0 : Int32) (g : GM) : Prop :=
  w_X8_given_b141 X post px k4 l0 l1 t0 l3 g
def w_X8_given_b128 (X : Cx) (post : Int32 → GM → Prop) (px : String → GM → Prop) (k4 : Option Nat → Int32 → Int32 → Int32 → GM → Prop) (l0 : Option Nat) (l1 : Int32) (l2 : Int32) (l3 : Int32) (t0 : Int32) (g : GM) : Prop :=
  (if t0 = 0 then w_X8_given_b140 X post px k4 l0 l1 l3 l2 g else w_X8_given_b140 X post px k4 l0 l1 l3 l3 g)
def w_X8_given_b123 (X : Cx) (post : Int32 → GM → Prop) (px : String → GM → Prop) (k4 : Option Nat → Int32 → Int32 → Int32 → GM → Prop) (l0 : Option Nat) (l1 : Int32) (l2 : Int32) (l3 : Int32) (g : GM) : Prop :=
  w_X8_given_b128 X post px k4 l0 l1 l2 l3 (1 : Int32) g
def w_X8_given_b127 (X : Cx) (post : Int32 → GM → Prop) (px : String → GM → Prop) (k4 : Option Nat → Int32 → Int32 → Int32 → GM → Prop) (l0 : Option Nat) (l1 : Int32) (l2 : Int32) (l3 : Int32) (g : GM) : Prop :=
  w_X8_given_b128 X post px k4 l0 l1 l2 l3 (0 : Int32) g
def w_X8_given_b105 (X : Cx) (post : Int32 → GM → Prop) (px : String → GM → Prop) (k4 : Option Nat → Int32 → Int32 → Int32 → GM → Prop) (l0 : Option Nat) (l1 : Int32) (l2 : Int32) (l3 : Int32) (t0 : Int32) (t1 : Int32) (g : GM) : Prop :=
  (if t1 = t0 then wGetR g l0 8 7 (fun (r10 : Option Nat) => wAld g r10 l3 0 (fun (i11 : Int32) => wGetR g l0 8 7 (fun (r12 : Option Nat) => wAld g r12 l2 0 (fun (i13 : Int32) => (if i11 ≤ i13 then w_X8_given_b127 X post px k4 l0 l1 l2 l3 g else w_X8_given_b123 X post px k4 l0 l1 l2 l3 g))))) else w_X8_given_b127 X post px k4 l0 l1 l2 l3 g)
def w_X8_given_b88 (X : Cx) (post : Int32 → GM → Prop) (px : String → GM → Prop) (k4 : Option Nat → Int32 → Int32 → Int32 → GM → Prop) (l0 : Option Nat) (l1 : Int32) (l2 : Int32) (l3 : Int32) (l4 : Int32) (g : GM) : Prop :=
  wGetR g l0 8 13 (fun (r8 : Option Nat) => wAld g r8 l2 0 (fun (i9 : Int32) => (if i9 = (-1 : Int32) then w_X8_given_b105 X post px k4 l0 l1 l2 l3 (0 : Int32) l4 g else w_X8_given_b105 X post px k4 l0 l1 l2 l3 (1 : Int32) l4 g)))
def w_X8_given_b66 (X : Cx) (post : Int32 → GM → Prop) (px : String → GM → Prop) (k4 : Option Nat → Int32 → Int32 → Int32 → GM → Prop) (l0 : Option Nat) (l1 : Int32) (l2 : Int32) (l3 : Int32) (t0 : Int32) (g : GM) : Prop :=
  (if l2 = (-1 : Int32) then w_X8_given_b123 X post px k4 l0 l1 l2 l3 g else (if t0 = 0 then w_X8_given_b88 X post px k4 l0 l1 l2 l3 t0 g else wGetR g l0 8 13 (fun (r14 : Option Nat) => wAld g r14 l2 0 (fun (i15 : Int32) => (if i15 = (-1 : Int32) then w_X8_given_b123 X post px k4 l0 l1 l2 l3 g else w_X8_given_b88 X post px k4 l0 l1 l2 l3 t0 g)))))
def w_X8_given_b51 (X : Cx) (post : Int32 → GM → Prop) (px : String → GM → Prop) (k4 : Option Nat → Int32 → Int32 → Int32 → GM → Prop) (l0 : Option Nat) (l1 : Int32) (l2 : Int32) (l3 : Int32) (g : GM) : Prop :=
  wGetR g l0 8 13 (fun (r6 : Option Nat) => wAld g r6 l3 0 (fun (i7 : Int32) => (if i7 = (-1 : Int32) then w_X8_given_b66 X post px k4 l0 l1 l2 l3 (0 : Int32) g else w_X8_given_b66 X post px k4 l0 l1 l2 l3 (1 : Int32) g)))
def w_X8_given_l4 (X : Cx) (post : Int32 → GM → Prop) (px : String → GM → Prop)  : Nat → Option Nat → Int32 → Int32 → Int32 → GM → Prop
  | 0, _, _, _, _, _ => False
  | f + 1, l0, l1, l2, l3, g => wGetI g l0 8 21 (fun (i1 : Int32) => (if i1 ≤ l3 then post l2 g else wIs g l0 8 (w_X8_could X (fun (i3 : Int32) (g2 : GM) => (if i3 = 0 then w_X8_given_b141 X post px (w_X8_given_l4 X post px f) l0 l1 l2 l3 g2 else wGetR g2 l0 8 3 (fun (r4 : Option Nat) => wAld g2 r4 l1 0 (fun (i5 : Int32) => (if i5 = (-1 : Int32) then w_X8_given_b51 X post px (w_X8_given_l4 X post px f) l0 l1 l2 l3 g2 else wGetR g2 l0 8 7 (fun (r16 : Option Nat) => wAld g2 r16 l3 0 (fun (i17 : Int32) => wGetR g2 l0 8 7 (fun (r18 : Option Nat) => wGetR g2 l0 8 3 (fun (r19 : Option Nat) => wAld g2 r19 l1 0 (fun (i20 : Int32) => wAld g2 r18 i20 0 (fun (i21 : Int32) => (if i17 ≤ i21 then w_X8_given_b141 X post px (w_X8_given_l4 X post px f) l0 l1 l2 l3 g2 else w_X8_given_b51 X post px (w_X8_given_l4 X post px f) l0 l1 l2 l3 g2)))))))))))) px l0 l1 l3 g)))
def w_X8_given (X : Cx) (post : Int32 → GM → Prop) (px : String → GM → Prop) (v0 : Option Nat) (v1 : Int32) (g : GM) : Prop :=
  w_X8_given_l4 X post px 3000 v0 v1 (-1 : Int32) (0 : Int32) g
abbrev rm_X8_given : Room := { frames := 5, cells := 0, slots := 0, locals := 112 }
set_option maxHeartbeats 4000000 in
set_option maxRecDepth 100000 in
theorem m_X8_given {X : Cx} {l : Launch} (hfl : l.stackTraces = false) {post : Int32 → GM → Prop} {px : String → GM → Prop} {v0 : Option Nat} {v1 : Int32} {g : GM} (hf : w_X8_given X post px v0 v1 g) : gMet X l yX8_given cX8_given 6 (some .int) rm_X8_given [va_rf v0, .int v1] g (qI X post) px := by
  refine gg_enter (L := [some (va_rf v0), some (.int v1), none, none, none, none]) hfl (by decide +kernel) (by simp [lg_sl, gcat, gcI, gcL, gcF, gcD]) (by simp [gll, lv_args, gcat, gcI, gcL, gcF, gcD]) ?_
  intro p e s m args below meth c C hr ht hm
  have C : FC X p l s m args meth c cX8_given 6 "ReleasetrainModel" := C
  have hb_141 : ∀ (k4 : Option Nat → Int32 → Int32 → Int32 → GM → Prop), (∀ (l0 : Option Nat) (l1 : Int32) (l2 : Int32) (l3 : Int32) (g : GM), k4 l0 l1 l2 l3 g → GG X p l e rm_X8_given s m args below meth c 6 (vx_MQ below (qI X post) (gXC X px) args s rm_X8_given.cells rm_X8_given.slots (gA X)) 0 0 4 [some (va_rf l0), some (.int l1), some (.int l2), some (.int l3), none, none] [] g) → ∀ (l0 : Option Nat) (l1 : Int32) (l2 : Int32) (l3 : Int32) (g : GM), w_X8_given_b141 X post px k4 l0 l1 l2 l3 g → GG X p l e rm_X8_given s m args below meth c 6 (vx_MQ below (qI X post) (gXC X px) args s rm_X8_given.cells rm_X8_given.slots (gA X)) 0 0 141 [some (va_rf l0), some (.int l1), some (.int l2), some (.int l3), none, none] [] g := by
    intro k4 hk4 l0 l1 l2 l3 g hf
    unfold w_X8_given_b141 at hf
    refine gg_iinc (L' := [some (va_rf l0), some (.int l1), some (.int l2), some (.int (l3 + 1)), none, none]) C dX8_given_141 rfl (v := (l3 + 1)) rfl (Or.inr (Or.inr ⟨_, rfl, rfl⟩)) (by decide) rfl ?_
    refine gg_goto (tgt := 4) C dX8_given_144 (by decide) ?_
    exact hk4 _ _ _ _ _ hf
  have hb_140 : ∀ (k4 : Option Nat → Int32 → Int32 → Int32 → GM → Prop), (∀ (l0 : Option Nat) (l1 : Int32) (l2 : Int32) (l3 : Int32) (g : GM), k4 l0 l1 l2 l3 g → GG X p l e rm_X8_given s m args below meth c 6 (vx_MQ below (qI X post) (gXC X px) args s rm_X8_given.cells rm_X8_given.slots (gA X)) 0 0 4 [some (va_rf l0), some (.int l1), some (.int l2), some (.int l3), none, none] [] g) → ∀ (l0 : Option Nat) (l1 : Int32) (l3 : Int32) (t0 : Int32) (g : GM), w_X8_given_b140 X post px k4 l0 l1 l3 t0 g → GG X p l e rm_X8_given s m args below meth c 6 (vx_MQ below (qI X post) (gXC X px) args s rm_X8_given.cells rm_X8_given.slots (gA X)) 0 0 140 [some (va_rf l0), some (.int l1), none, some (.int l3), none, none] [.int t0] g := by
    intro k4 hk4 l0 l1 l3 t0 g hf
    unfold w_X8_given_b140 at hf
    refine gg_istore_n (L' := [some (va_rf l0), some (.int l1), some (.int t0), some (.int l3), none, none]) C dX8_given_140 (Or.inr (Or.inr ⟨_, rfl, rfl⟩)) (by decide) rfl ?_
    exact hb_141 _ hk4 _ _ _ _ _ hf
  have hb_128 : ∀ (k4 : Option Nat → Int32 → Int32 → Int32 → GM → Prop), (∀ (l0 : Option Nat) (l1 : Int32) (l2 : Int32) (l3 : Int32) (g : GM), k4 l0 l1 l2 l3 g → GG X p l e rm_X8_given s m args below meth c 6 (vx_MQ below (qI X post) (gXC X px) args s rm_X8_given.cells rm_X8_given.slots (gA X)) 0 0 4 [some (va_rf l0), some (.int l1), some (.int l2), some (.int l3), none, none] [] g) → ∀ (l0 : Option Nat) (l1 : Int32) (l2 : Int32) (l3 : Int32) (t0 : Int32) (g : GM), w_X8_given_b128 X post px k4 l0 l1 l2 l3 t0 g → GG X p l e rm_X8_given s m args below meth c 6 (vx_MQ below (qI X post) (gXC X px) args s rm_X8_given.cells rm_X8_given.slots (gA X)) 0 0 128 [some (va_rf l0), some (.int l1), some (.int l2), some (.int l3), none, none] [.int t0] g := by
    intro k4 hk4 l0 l1 l2 l3 t0 g hf
    unfold w_X8_given_b128 at hf
    refine gg_istore (L' := [some (va_rf l0), some (.int l1), some (.int l2), some (.int l3), none, some (.int t0)]) C dX8_given_128 (Or.inr (Or.inl rfl)) (by decide) rfl ?_
    refine gg_iload C dX8_given_130 rfl ?_
    refine gg_if_eq (tgt := 139) C dX8_given_132 (by decide) hf (fun hf => ?_) (fun hf => ?_)
    · refine gg_iload_n C dX8_given_139 rfl ?_
      exact gg_sub (L' := [some (va_rf l0), some (.int l1), none, some (.int l3), none, none]) (by first | exact ⟨rfl, ⟨rfl, ⟨rfl, trivial⟩⟩⟩ | simp [gsub]) (hb_140 _ hk4 _ _ _ _ _ hf)
    · refine gg_iload_n C dX8_given_135 rfl ?_
      refine gg_goto (tgt := 140) C dX8_given_136 (by decide) ?_
      exact gg_sub (L' := [some (va_rf l0), some (.int l1), none, some (.int l3), none, none]) (by first | exact ⟨rfl, ⟨rfl, ⟨rfl, trivial⟩⟩⟩ | simp [gsub]) (hb_140 _ hk4 _ _ _ _ _ hf)
  have hb_123 : ∀ (k4 : Option Nat → Int32 → Int32 → Int32 → GM → Prop), (∀ (l0 : Option Nat) (l1 : Int32) (l2 : Int32) (l3 : Int32) (g : GM), k4 l0 l1 l2 l3 g → GG X p l e rm_X8_given s m args below meth c 6 (vx_MQ below (qI X post) (gXC X px) args s rm_X8_given.cells rm_X8_given.slots (gA X)) 0 0 4 [some (va_rf l0), some (.int l1), some (.int l2), some (.int l3), none, none] [] g) → ∀ (l0 : Option Nat) (l1 : Int32) (l2 : Int32) (l3 : Int32) (g : GM), w_X8_given_b123 X post px k4 l0 l1 l2 l3 g → GG X p l e rm_X8_given s m args below meth c 6 (vx_MQ below (qI X post) (gXC X px) args s rm_X8_given.cells rm_X8_given.slots (gA X)) 0 0 123 [some (va_rf l0), some (.int l1), some (.int l2), some (.int l3), none, none] [] g := by
    intro k4 hk4 l0 l1 l2 l3 g hf
    unfold w_X8_given_b123 at hf
    refine gg_iconst C dX8_given_123 (v := (1 : Int32)) (by decide) ?_
    refine gg_goto (tgt := 128) C dX8_given_124 (by decide) ?_
    exact hb_128 _ hk4 _ _ _ _ _ _ hf
  have hb_127 : ∀ (k4 : Option Nat → Int32 → Int32 → Int32 → GM → Prop), (∀ (l0 : Option Nat) (l1 : Int32) (l2 : Int32) (l3 : Int32) (g : GM), k4 l0 l1 l2 l3 g → GG X p l e rm_X8_given s m args below meth c 6 (vx_MQ below (qI X post) (gXC X px) args s rm_X8_given.cells rm_X8_given.slots (gA X)) 0 0 4 [some (va_rf l0), some (.int l1), some (.int l2), some (.int l3), none, none] [] g) → ∀ (l0 : Option Nat) (l1 : Int32) (l2 : Int32) (l3 : Int32) (g : GM), w_X8_given_b127 X post px k4 l0 l1 l2 l3 g → GG X p l e rm_X8_given s m args below meth c 6 (vx_MQ below (qI X post) (gXC X px) args s rm_X8_given.cells rm_X8_given.slots (gA X)) 0 0 127 [some (va_rf l0), some (.int l1), some (.int l2), some (.int l3), none, none] [] g := by
    intro k4 hk4 l0 l1 l2 l3 g hf
    unfold w_X8_given_b127 at hf
    refine gg_iconst C dX8_given_127 (v := (0 : Int32)) (by decide) ?_
    exact hb_128 _ hk4 _ _ _ _ _ _ hf
  have hb_105 : ∀ (k4 : Option Nat → Int32 → Int32 → Int32 → GM → Prop), (∀ (l0 : Option Nat) (l1 : Int32) (l2 : Int32) (l3 : Int32) (g : GM), k4 l0 l1 l2 l3 g → GG X p l e rm_X8_given s m args below meth c 6 (vx_MQ below (qI X post) (gXC X px) args s rm_X8_given.cells rm_X8_given.slots (gA X)) 0 0 4 [some (va_rf l0), some (.int l1), some (.int l2), some (.int l3), none, none] [] g) → ∀ (l0 : Option Nat) (l1 : Int32) (l2 : Int32) (l3 : Int32) (t0 : Int32) (t1 : Int32) (g : GM), w_X8_given_b105 X post px k4 l0 l1 l2 l3 t0 t1 g → GG X p l e rm_X8_given s m args below meth c 6 (vx_MQ below (qI X post) (gXC X px) args s rm_X8_given.cells rm_X8_given.slots (gA X)) 0 0 105 [some (va_rf l0), some (.int l1), some (.int l2), some (.int l3), none, none] [.int t0, .int t1] g := by
    intro k4 hk4 l0 l1 l2 l3 t0 t1 g hf
    unfold w_X8_given_b105 at hf
    refine gg_icmp_ne (tgt := 127) C dX8_given_105 (by decide) hf (fun hf => ?_) (fun hf => ?_)
    · exact hb_127 _ hk4 _ _ _ _ _ hf
    · refine gg_aload_n C dX8_given_108 rfl ?_
      refine gg_getR C dX8_given_109 lk_X8_30 hf (fun r10 hf => ?_)
      refine gg_iload_n C dX8_given_112 rfl ?_
      refine gg_iald C dX8_given_113 hf (fun i11 hf => ?_)
      refine gg_aload_n C dX8_given_114 rfl ?_
      refine gg_getR C dX8_given_115 lk_X8_30 hf (fun r12 hf => ?_)
      refine gg_iload_n C dX8_given_118 rfl ?_
      refine gg_iald C dX8_given_119 hf (fun i13 hf => ?_)
      refine gg_icmp_le (tgt := 127) C dX8_given_120 (by decide) hf (fun hf => ?_) (fun hf => ?_)
      · exact hb_127 _ hk4 _ _ _ _ _ hf
      · exact hb_123 _ hk4 _ _ _ _ _ hf
  have hb_88 : ∀ (k4 : Option Nat → Int32 → Int32 → Int32 → GM → Prop), (∀ (l0 : Option Nat) (l1 : Int32) (l2 : Int32) (l3 : Int32) (g : GM), k4 l0 l1 l2 l3 g → GG X p l e rm_X8_given s m args below meth c 6 (vx_MQ below (qI X post) (gXC X px) args s rm_X8_given.cells rm_X8_given.slots (gA X)) 0 0 4 [some (va_rf l0), some (.int l1), some (.int l2), some (.int l3), none, none] [] g) → ∀ (l0 : Option Nat) (l1 : Int32) (l2 : Int32) (l3 : Int32) (l4 : Int32) (g : GM), w_X8_given_b88 X post px k4 l0 l1 l2 l3 l4 g → GG X p l e rm_X8_given s m args below meth c 6 (vx_MQ below (qI X post) (gXC X px) args s rm_X8_given.cells rm_X8_given.slots (gA X)) 0 0 88 [some (va_rf l0), some (.int l1), some (.int l2), some (.int l3), some (.int l4), none] [] g := by
    intro k4 hk4 l0 l1 l2 l3 l4 g hf
    unfold w_X8_given_b88 at hf
    refine gg_iload C dX8_given_88 rfl ?_
    refine gg_aload_n C dX8_given_90 rfl ?_
    refine gg_getR C dX8_given_91 lk_X8_48 hf (fun r8 hf => ?_)
    refine gg_iload_n C dX8_given_94 rfl ?_
    refine gg_iald C dX8_given_95 hf (fun i9 hf => ?_)
    refine gg_iconst C dX8_given_96 (v := (-1 : Int32)) (by decide) ?_
    refine gg_icmp_eq (tgt := 104) C dX8_given_97 (by decide) hf (fun hf => ?_) (fun hf => ?_)
    · refine gg_iconst C dX8_given_104 (v := (0 : Int32)) (by decide) ?_
      exact gg_sub (L' := [some (va_rf l0), some (.int l1), some (.int l2), some (.int l3), none, none]) (by first | exact ⟨rfl, ⟨rfl, ⟨rfl, ⟨rfl, trivial⟩⟩⟩⟩ | simp [gsub]) (hb_105 _ hk4 _ _ _ _ _ _ _ hf)
    · refine gg_iconst C dX8_given_100 (v := (1 : Int32)) (by decide) ?_
      refine gg_goto (tgt := 105) C dX8_given_101 (by decide) ?_
      exact gg_sub (L' := [some (va_rf l0), some (.int l1), some (.int l2), some (.int l3), none, none]) (by first | exact ⟨rfl, ⟨rfl, ⟨rfl, ⟨rfl, trivial⟩⟩⟩⟩ | simp [gsub]) (hb_105 _ hk4 _ _ _ _ _ _ _ hf)
  have hb_66 : ∀ (k4 : Option Nat → Int32 → Int32 → Int32 → GM → Prop), (∀ (l0 : Option Nat) (l1 : Int32) (l2 : Int32) (l3 : Int32) (g : GM), k4 l0 l1 l2 l3 g → GG X p l e rm_X8_given s m args below meth c 6 (vx_MQ below (qI X post) (gXC X px) args s rm_X8_given.cells rm_X8_given.slots (gA X)) 0 0 4 [some (va_rf l0), some (.int l1), some (.int l2), some (.int l3), none, none] [] g) → ∀ (l0 : Option Nat) (l1 : Int32) (l2 : Int32) (l3 : Int32) (t0 : Int32) (g : GM), w_X8_given_b66 X post px k4 l0 l1 l2 l3 t0 g → GG X p l e rm_X8_given s m args below meth c 6 (vx_MQ below (qI X post) (gXC X px) args s rm_X8_given.cells rm_X8_given.slots (gA X)) 0 0 66 [some (va_rf l0), some (.int l1), some (.int l2), some (.int l3), none, none] [.int t0] g := by
    intro k4 hk4 l0 l1 l2 l3 t0 g hf
    unfold w_X8_given_b66 at hf
    refine gg_istore (L' := [some (va_rf l0), some (.int l1), some (.int l2), some (.int l3), some (.int t0), none]) C dX8_given_66 (Or.inr (Or.inr ⟨_, rfl, rfl⟩)) (by decide) rfl ?_
    refine gg_iload_n C dX8_given_68 rfl ?_
    refine gg_iconst C dX8_given_69 (v := (-1 : Int32)) (by decide) ?_
    refine gg_icmp_eq (tgt := 123) C dX8_given_70 (by decide) hf (fun hf => ?_) (fun hf => ?_)
    · exact gg_sub (L' := [some (va_rf l0), some (.int l1), some (.int l2), some (.int l3), none, none]) (by first | exact ⟨rfl, ⟨rfl, ⟨rfl, ⟨rfl, trivial⟩⟩⟩⟩ | simp [gsub]) (hb_123 _ hk4 _ _ _ _ _ hf)
    · refine gg_iload C dX8_given_73 rfl ?_
      refine gg_if_eq (tgt := 88) C dX8_given_75 (by decide) hf (fun hf => ?_) (fun hf => ?_)
      · exact hb_88 _ hk4 _ _ _ _ _ _ hf
      · refine gg_aload_n C dX8_given_78 rfl ?_
        refine gg_getR C dX8_given_79 lk_X8_48 hf (fun r14 hf => ?_)
        refine gg_iload_n C dX8_given_82 rfl ?_
        refine gg_iald C dX8_given_83 hf (fun i15 hf => ?_)
        refine gg_iconst C dX8_given_84 (v := (-1 : Int32)) (by decide) ?_
        refine gg_icmp_eq (tgt := 123) C dX8_given_85 (by decide) hf (fun hf => ?_) (fun hf => ?_)
        · exact gg_sub (L' := [some (va_rf l0), some (.int l1), some (.int l2), some (.int l3), none, none]) (by first | exact ⟨rfl, ⟨rfl, ⟨rfl, ⟨rfl, trivial⟩⟩⟩⟩ | simp [gsub]) (hb_123 _ hk4 _ _ _ _ _ hf)
        · exact hb_88 _ hk4 _ _ _ _ _ _ hf
  have hb_51 : ∀ (k4 : Option Nat → Int32 → Int32 → Int32 → GM → Prop), (∀ (l0 : Option Nat) (l1 : Int32) (l2 : Int32) (l3 : Int32) (g : GM), k4 l0 l1 l2 l3 g → GG X p l e rm_X8_given s m args below meth c 6 (vx_MQ below (qI X post) (gXC X px) args s rm_X8_given.cells rm_X8_given.slots (gA X)) 0 0 4 [some (va_rf l0), some (.int l1), some (.int l2), some (.int l3), none, none] [] g) → ∀ (l0 : Option Nat) (l1 : Int32) (l2 : Int32) (l3 : Int32) (g : GM), w_X8_given_b51 X post px k4 l0 l1 l2 l3 g → GG X p l e rm_X8_given s m args below meth c 6 (vx_MQ below (qI X post) (gXC X px) args s rm_X8_given.cells rm_X8_given.slots (gA X)) 0 0 51 [some (va_rf l0), some (.int l1), some (.int l2), some (.int l3), none, none] [] g := by
    intro k4 hk4 l0 l1 l2 l3 g hf
    unfold w_X8_given_b51 at hf
    refine gg_aload_n C dX8_given_51 rfl ?_
    refine gg_getR C dX8_given_52 lk_X8_48 hf (fun r6 hf => ?_)
    refine gg_iload_n C dX8_given_55 rfl ?_
    refine gg_iald C dX8_given_56 hf (fun i7 hf => ?_)
    refine gg_iconst C dX8_given_57 (v := (-1 : Int32)) (by decide) ?_
    refine gg_icmp_eq (tgt := 65) C dX8_given_58 (by decide) hf (fun hf => ?_) (fun hf => ?_)
    · refine gg_iconst C dX8_given_65 (v := (0 : Int32)) (by decide) ?_
      exact hb_66 _ hk4 _ _ _ _ _ _ hf
    · refine gg_iconst C dX8_given_61 (v := (1 : Int32)) (by decide) ?_
      refine gg_goto (tgt := 66) C dX8_given_62 (by decide) ?_
      exact hb_66 _ hk4 _ _ _ _ _ _ hf
  have hb_4 : ∀ (f : Nat) (l0 : Option Nat) (l1 : Int32) (l2 : Int32) (l3 : Int32) (g : GM), w_X8_given_l4 X post px  f l0 l1 l2 l3 g → GG X p l e rm_X8_given s m args below meth c 6 (vx_MQ below (qI X post) (gXC X px) args s rm_X8_given.cells rm_X8_given.slots (gA X)) 0 0 4 [some (va_rf l0), some (.int l1), some (.int l2), some (.int l3), none, none] [] g := by
    intro  f
    induction f with
    | zero => intro l0 l1 l2 l3 g hf; exact (show False from hf).elim
    | succ f ih =>
      intro l0 l1 l2 l3 g hf
      rw [w_X8_given_l4] at hf
      refine gg_iload_n C dX8_given_4 rfl ?_
      refine gg_aload_n C dX8_given_5 rfl ?_
      refine gg_getI C dX8_given_6 lk_X8_120 hf (fun i1 hf => ?_)
      refine gg_icmp_ge (tgt := 147) C dX8_given_9 (by decide) hf (fun hf => ?_) (fun hf => ?_)
      · refine gg_iload_n C dX8_given_147 rfl ?_
        exact gg_iret C hr (by decide) (by decide) dX8_given_148 rfl hf
      · refine gg_aload_n C dX8_given_12 rfl ?_
        refine gg_iload_n C dX8_given_13 rfl ?_
        refine gg_iload_n C dX8_given_14 rfl ?_
        refine gr_I (k' := 0) (n' := 0) (gk_V (ci := 8) (As := [.int l1, .int l3]) (rest := []) C dX8_given_15 rfl rfl tw_1701 tw_1703 tw_38 tw_56 tw_1704 gd_X8_could rfl ⟨by decide, by decide⟩ (by simp [gcat, gcI, gcL, gcF, gcD]) ⟨by decide, by decide⟩ hf (fun hf => m_X8_could hfl hf)) rfl rfl (fun E g9 h9 => gx_out C (fun x hx => (ht x hx).elim) (by decide) (by decide) h9) (fun i3 g2 hf => ?_)
        refine gg_if_eq (tgt := 141) C dX8_given_18 (by decide) hf (fun hf => ?_) (fun hf => ?_)
        · exact hb_141 _ ih _ _ _ _ _ hf
        · refine gg_aload_n C dX8_given_21 rfl ?_
          refine gg_getR C dX8_given_22 lk_X8_19 hf (fun r4 hf => ?_)
          refine gg_iload_n C dX8_given_25 rfl ?_
          refine gg_iald C dX8_given_26 hf (fun i5 hf => ?_)
          refine gg_iconst C dX8_given_27 (v := (-1 : Int32)) (by decide) ?_
          refine gg_icmp_eq (tgt := 51) C dX8_given_28 (by decide) hf (fun hf => ?_) (fun hf => ?_)
          · exact hb_51 _ ih _ _ _ _ _ hf
          · refine gg_aload_n C dX8_given_31 rfl ?_
            refine gg_getR C dX8_given_32 lk_X8_30 hf (fun r16 hf => ?_)
            refine gg_iload_n C dX8_given_35 rfl ?_
            refine gg_iald C dX8_given_36 hf (fun i17 hf => ?_)
            refine gg_aload_n C dX8_given_37 rfl ?_
            refine gg_getR C dX8_given_38 lk_X8_30 hf (fun r18 hf => ?_)
            refine gg_aload_n C dX8_given_41 rfl ?_
            refine gg_getR C dX8_given_42 lk_X8_19 hf (fun r19 hf => ?_)
            refine gg_iload_n C dX8_given_45 rfl ?_
            refine gg_iald C dX8_given_46 hf (fun i20 hf => ?_)
            refine gg_iald C dX8_given_47 hf (fun i21 hf => ?_)
            refine gg_icmp_le (tgt := 141) C dX8_given_48 (by decide) hf (fun hf => ?_) (fun hf => ?_)
            · exact hb_141 _ ih _ _ _ _ _ hf
            · exact hb_51 _ ih _ _ _ _ _ hf
  unfold w_X8_given at hf
  refine gg_iconst C dX8_given_0 (v := (-1 : Int32)) (by decide) ?_
  refine gg_istore_n (L' := [some (va_rf v0), some (.int v1), some (.int (-1 : Int32)), none, none, none]) C dX8_given_1 (Or.inr (Or.inr ⟨_, rfl, rfl⟩)) (by decide) rfl ?_
  refine gg_iconst C dX8_given_2 (v := (0 : Int32)) (by decide) ?_
  refine gg_istore_n (L' := [some (va_rf v0), some (.int v1), some (.int (-1 : Int32)), some (.int (0 : Int32)), none, none]) C dX8_given_3 (Or.inr (Or.inr ⟨_, rfl, rfl⟩)) (by decide) rfl ?_
  exact hb_4 _ _ _ _ _ _ hf

def w_X8_offered_b42 (X : Cx) (post : Int32 → GM → Prop) (px : String → GM → Prop)  (t0 : Int32) (g : GM) : Prop :=
  post t0 g
def w_X8_offered_b27 (X : Cx) (post : Int32 → GM → Prop) (px : String → GM → Prop)  (l0 : Option Nat) (l2 : Int32) (t0 : Int32) (t1 : Option Nat) (g : GM) : Prop :=
  wPut g t1 8 36 (.int t0) (fun g5 => wGetI g5 l0 8 36 (fun (i6 : Int32) => (if i6 ≤ 0 then w_X8_offered_b42 X post px l2 g5 else w_X8_offered_b42 X post px (0 : Int32) g5)))
def w_X8_offered (X : Cx) (post : Int32 → GM → Prop) (px : String → GM → Prop) (v0 : Option Nat) (v1 : Int32) (g : GM) : Prop :=
  wIs g v0 8 (w_X8_noDevice X (fun (i2 : Int32) (g1 : GM) => (if i2 = 0 then wIs g1 v0 8 (w_X8_given X (fun (i4 : Int32) (g3 : GM) => (if i4 = (-1 : Int32) then w_X8_offered_b27 X post px v0 i4 (2 : Int32) v0 g3 else w_X8_offered_b27 X post px v0 i4 (0 : Int32) v0 g3)) px v0 v1 g1) else post (0 : Int32) g1)) px v0 v1 g)
abbrev rm_X8_offered : Room := { frames := 6, cells := 0, slots := 0, locals := 137 }
set_option maxHeartbeats 4000000 in
set_option maxRecDepth 100000 in
theorem m_X8_offered {X : Cx} {l : Launch} (hfl : l.stackTraces = false) {post : Int32 → GM → Prop} {px : String → GM → Prop} {v0 : Option Nat} {v1 : Int32} {g : GM} (hf : w_X8_offered X post px v0 v1 g) : gMet X l yX8_offered cX8_offered 3 (some .int) rm_X8_offered [va_rf v0, .int v1] g (qI X post) px := by
  refine gg_enter (L := [some (va_rf v0), some (.int v1), none]) hfl (by decide +kernel) (by simp [lg_sl, gcat, gcI, gcL, gcF, gcD]) (by simp [gll, lv_args, gcat, gcI, gcL, gcF, gcD]) ?_
  intro p e s m args below meth c C hr ht hm
  have C : FC X p l s m args meth c cX8_offered 3 "ReleasetrainModel" := C
  have hb_42 : ∀ (t0 : Int32) (g : GM), w_X8_offered_b42 X post px  t0 g → GG X p l e rm_X8_offered s m args below meth c 3 (vx_MQ below (qI X post) (gXC X px) args s rm_X8_offered.cells rm_X8_offered.slots (gA X)) 0 0 42 [none, none, none] [.int t0] g := by
    intro  t0 g hf
    unfold w_X8_offered_b42 at hf
    exact gg_iret C hr (by decide) (by decide) dX8_offered_42 rfl hf
  have hb_27 : ∀ (l0 : Option Nat) (l2 : Int32) (t0 : Int32) (t1 : Option Nat) (g : GM), w_X8_offered_b27 X post px  l0 l2 t0 t1 g → GG X p l e rm_X8_offered s m args below meth c 3 (vx_MQ below (qI X post) (gXC X px) args s rm_X8_offered.cells rm_X8_offered.slots (gA X)) 0 0 27 [some (va_rf l0), none, some (.int l2)] [.int t0, va_rf t1] g := by
    intro  l0 l2 t0 t1 g hf
    unfold w_X8_offered_b27 at hf
    refine gg_put C dX8_offered_27 pk_X8_110 (gNar_int _) hf (fun g5 hf => ?_)
    refine gg_aload_n C dX8_offered_30 rfl ?_
    refine gg_getI C dX8_offered_31 lk_X8_110 hf (fun i6 hf => ?_)
    refine gg_if_le (tgt := 41) C dX8_offered_34 (by decide) hf (fun hf => ?_) (fun hf => ?_)
    · refine gg_iload_n C dX8_offered_41 rfl ?_
      exact gg_sub (L' := [none, none, none]) (by first | exact trivial | simp [gsub]) (hb_42 _ _ hf)
    · refine gg_iconst C dX8_offered_37 (v := (0 : Int32)) (by decide) ?_
      refine gg_goto (tgt := 42) C dX8_offered_38 (by decide) ?_
      exact gg_sub (L' := [none, none, none]) (by first | exact trivial | simp [gsub]) (hb_42 _ _ hf)
  unfold w_X8_offered at hf
  refine gg_aload_n C dX8_offered_0 rfl ?_
  refine gg_iload_n C dX8_offered_1 rfl ?_
  refine gr_I (k' := 0) (n' := 0) (gk_V (ci := 8) (As := [.int v1]) (rest := []) C dX8_offered_2 rfl rfl tw_1721 tw_1723 tw_39 tw_56 tw_1724 gd_X8_noDevice rfl ⟨by decide, by decide⟩ (by simp [gcat, gcI, gcL, gcF, gcD]) ⟨by decide, by decide⟩ hf (fun hf => m_X8_noDevice hfl hf)) rfl rfl (fun E g9 h9 => gx_out C (fun x hx => (ht x hx).elim) (by decide) (by decide) h9) (fun i2 g1 hf => ?_)
  refine gg_if_eq (tgt := 10) C dX8_offered_5 (by decide) hf (fun hf => ?_) (fun hf => ?_)
  · refine gg_aload_n C dX8_offered_10 rfl ?_
    refine gg_iload_n C dX8_offered_11 rfl ?_
    refine gr_I (k' := 0) (n' := 0) (gk_V (ci := 8) (As := [.int v1]) (rest := []) C dX8_offered_12 rfl rfl tw_1725 tw_1727 tw_40 tw_56 tw_1728 gd_X8_given rfl ⟨by decide, by decide⟩ (by simp [gcat, gcI, gcL, gcF, gcD]) ⟨by decide, by decide⟩ hf (fun hf => m_X8_given hfl hf)) rfl rfl (fun E g9 h9 => gx_out C (fun x hx => (ht x hx).elim) (by decide) (by decide) h9) (fun i4 g3 hf => ?_)
    refine gg_istore_n (L' := [some (va_rf v0), some (.int v1), some (.int i4)]) C dX8_offered_15 (Or.inr (Or.inr ⟨_, rfl, rfl⟩)) (by decide) rfl ?_
    refine gg_aload_n C dX8_offered_16 rfl ?_
    refine gg_iload_n C dX8_offered_17 rfl ?_
    refine gg_iconst C dX8_offered_18 (v := (-1 : Int32)) (by decide) ?_
    refine gg_icmp_ne (tgt := 26) C dX8_offered_19 (by decide) hf (fun hf => ?_) (fun hf => ?_)
    · refine gg_iconst C dX8_offered_26 (v := (0 : Int32)) (by decide) ?_
      exact gg_sub (L' := [some (va_rf v0), none, some (.int i4)]) (by first | exact ⟨rfl, ⟨rfl, trivial⟩⟩ | simp [gsub]) (hb_27 _ _ _ _ _ hf)
    · refine gg_iconst C dX8_offered_22 (v := (2 : Int32)) (by decide) ?_
      refine gg_goto (tgt := 27) C dX8_offered_23 (by decide) ?_
      exact gg_sub (L' := [some (va_rf v0), none, some (.int i4)]) (by first | exact ⟨rfl, ⟨rfl, trivial⟩⟩ | simp [gsub]) (hb_27 _ _ _ _ _ hf)
  · refine gg_iconst C dX8_offered_8 (v := (0 : Int32)) (by decide) ?_
    exact gg_iret C hr (by decide) (by decide) dX8_offered_9 rfl hf

def w_X8_update_b27 (X : Cx) (post : Int32 → GM → Prop) (px : String → GM → Prop)  (l0 : Option Nat) (l1 : Int32) (l2 : Int32) (t0 : Int32) (t1 : Option Nat) (g : GM) : Prop :=
  wPut g t1 8 36 (.int t0) (fun g5 => wGetI g5 l0 8 36 (fun (i6 : Int32) => (if i6 ≤ 0 then wGetR g5 l0 8 3 (fun (r7 : Option Nat) => wAst g5 r7 l1 0 l2 (fun g8 => wGetR g8 l0 8 19 (fun (r9 : Option Nat) => wAld g8 r9 l2 0 (fun (i10 : Int32) => wAst g8 r9 l2 0 (i10 + (1 : Int32)) (fun g11 => post l2 g11))))) else post (0 : Int32) g5)))
def w_X8_update (X : Cx) (post : Int32 → GM → Prop) (px : String → GM → Prop) (v0 : Option Nat) (v1 : Int32) (g : GM) : Prop :=
  wIs g v0 8 (w_X8_noDevice X (fun (i2 : Int32) (g1 : GM) => (if i2 = 0 then wIs g1 v0 8 (w_X8_given X (fun (i4 : Int32) (g3 : GM) => (if i4 = (-1 : Int32) then w_X8_update_b27 X post px v0 v1 i4 (2 : Int32) v0 g3 else w_X8_update_b27 X post px v0 v1 i4 (0 : Int32) v0 g3)) px v0 v1 g1) else post (0 : Int32) g1)) px v0 v1 g)
abbrev rm_X8_update : Room := { frames := 6, cells := 0, slots := 0, locals := 137 }
set_option maxHeartbeats 4000000 in
set_option maxRecDepth 100000 in
theorem m_X8_update {X : Cx} {l : Launch} (hfl : l.stackTraces = false) {post : Int32 → GM → Prop} {px : String → GM → Prop} {v0 : Option Nat} {v1 : Int32} {g : GM} (hf : w_X8_update X post px v0 v1 g) : gMet X l yX8_update cX8_update 3 (some .int) rm_X8_update [va_rf v0, .int v1] g (qI X post) px := by
  refine gg_enter (L := [some (va_rf v0), some (.int v1), none]) hfl (by decide +kernel) (by simp [lg_sl, gcat, gcI, gcL, gcF, gcD]) (by simp [gll, lv_args, gcat, gcI, gcL, gcF, gcD]) ?_
  intro p e s m args below meth c C hr ht hm
  have C : FC X p l s m args meth c cX8_update 3 "ReleasetrainModel" := C
  have hb_27 : ∀ (l0 : Option Nat) (l1 : Int32) (l2 : Int32) (t0 : Int32) (t1 : Option Nat) (g : GM), w_X8_update_b27 X post px  l0 l1 l2 t0 t1 g → GG X p l e rm_X8_update s m args below meth c 3 (vx_MQ below (qI X post) (gXC X px) args s rm_X8_update.cells rm_X8_update.slots (gA X)) 0 0 27 [some (va_rf l0), some (.int l1), some (.int l2)] [.int t0, va_rf t1] g := by
    intro  l0 l1 l2 t0 t1 g hf
    unfold w_X8_update_b27 at hf
    refine gg_put C dX8_update_27 pk_X8_110 (gNar_int _) hf (fun g5 hf => ?_)
    refine gg_aload_n C dX8_update_30 rfl ?_
    refine gg_getI C dX8_update_31 lk_X8_110 hf (fun i6 hf => ?_)
    refine gg_if_le (tgt := 39) C dX8_update_34 (by decide) hf (fun hf => ?_) (fun hf => ?_)
    · refine gg_aload_n C dX8_update_39 rfl ?_
      refine gg_getR C dX8_update_40 lk_X8_19 hf (fun r7 hf => ?_)
      refine gg_iload_n C dX8_update_43 rfl ?_
      refine gg_iload_n C dX8_update_44 rfl ?_
      refine gg_iast C dX8_update_45 hf (fun g8 hf => ?_)
      refine gg_aload_n C dX8_update_46 rfl ?_
      refine gg_getR C dX8_update_47 lk_X8_68 hf (fun r9 hf => ?_)
      refine gg_iload_n C dX8_update_50 rfl ?_
      refine gg_dup2 C dX8_update_51 (rfl) (gcat _) ?_
      refine gg_iald C dX8_update_52 hf (fun i10 hf => ?_)
      refine gg_iconst C dX8_update_53 (v := (1 : Int32)) (by decide) ?_
      refine gg_iadd C dX8_update_54 ?_
      refine gg_iast C dX8_update_55 hf (fun g11 hf => ?_)
      refine gg_iload_n C dX8_update_56 rfl ?_
      exact gg_iret C hr (by decide) (by decide) dX8_update_57 rfl hf
    · refine gg_iconst C dX8_update_37 (v := (0 : Int32)) (by decide) ?_
      exact gg_iret C hr (by decide) (by decide) dX8_update_38 rfl hf
  unfold w_X8_update at hf
  refine gg_aload_n C dX8_update_0 rfl ?_
  refine gg_iload_n C dX8_update_1 rfl ?_
  refine gr_I (k' := 0) (n' := 0) (gk_V (ci := 8) (As := [.int v1]) (rest := []) C dX8_update_2 rfl rfl tw_1721 tw_1723 tw_39 tw_56 tw_1724 gd_X8_noDevice rfl ⟨by decide, by decide⟩ (by simp [gcat, gcI, gcL, gcF, gcD]) ⟨by decide, by decide⟩ hf (fun hf => m_X8_noDevice hfl hf)) rfl rfl (fun E g9 h9 => gx_out C (fun x hx => (ht x hx).elim) (by decide) (by decide) h9) (fun i2 g1 hf => ?_)
  refine gg_if_eq (tgt := 10) C dX8_update_5 (by decide) hf (fun hf => ?_) (fun hf => ?_)
  · refine gg_aload_n C dX8_update_10 rfl ?_
    refine gg_iload_n C dX8_update_11 rfl ?_
    refine gr_I (k' := 0) (n' := 0) (gk_V (ci := 8) (As := [.int v1]) (rest := []) C dX8_update_12 rfl rfl tw_1725 tw_1727 tw_40 tw_56 tw_1728 gd_X8_given rfl ⟨by decide, by decide⟩ (by simp [gcat, gcI, gcL, gcF, gcD]) ⟨by decide, by decide⟩ hf (fun hf => m_X8_given hfl hf)) rfl rfl (fun E g9 h9 => gx_out C (fun x hx => (ht x hx).elim) (by decide) (by decide) h9) (fun i4 g3 hf => ?_)
    refine gg_istore_n (L' := [some (va_rf v0), some (.int v1), some (.int i4)]) C dX8_update_15 (Or.inr (Or.inr ⟨_, rfl, rfl⟩)) (by decide) rfl ?_
    refine gg_aload_n C dX8_update_16 rfl ?_
    refine gg_iload_n C dX8_update_17 rfl ?_
    refine gg_iconst C dX8_update_18 (v := (-1 : Int32)) (by decide) ?_
    refine gg_icmp_ne (tgt := 26) C dX8_update_19 (by decide) hf (fun hf => ?_) (fun hf => ?_)
    · refine gg_iconst C dX8_update_26 (v := (0 : Int32)) (by decide) ?_
      exact hb_27 _ _ _ _ _ _ hf
    · refine gg_iconst C dX8_update_22 (v := (2 : Int32)) (by decide) ?_
      refine gg_goto (tgt := 27) C dX8_update_23 (by decide) ?_
      exact hb_27 _ _ _ _ _ _ hf
  · refine gg_iconst C dX8_update_8 (v := (0 : Int32)) (by decide) ?_
    exact gg_iret C hr (by decide) (by decide) dX8_update_9 rfl hf

def w_X8_buildOf_b46 (X : Cx) (post : Int32 → GM → Prop) (px : String → GM → Prop)  (t0 : Int32) (g : GM) : Prop :=
  post t0 g
def w_X8_buildOf_b26 (X : Cx) (post : Int32 → GM → Prop) (px : String → GM → Prop)  (l0 : Option Nat) (l1 : Int32) (t0 : Int32) (t1 : Option Nat) (g : GM) : Prop :=
  wPut g t1 8 36 (.int t0) (fun g5 => wGetI g5 l0 8 36 (fun (i6 : Int32) => (if i6 ≤ 0 then wGetR g5 l0 8 3 (fun (r7 : Option Nat) => wAld g5 r7 l1 0 (fun (i8 : Int32) => w_X8_buildOf_b46 X post px i8 g5)) else w_X8_buildOf_b46 X post px (0 : Int32) g5)))
def w_X8_buildOf (X : Cx) (post : Int32 → GM → Prop) (px : String → GM → Prop) (v0 : Option Nat) (v1 : Int32) (g : GM) : Prop :=
  wIs g v0 8 (w_X8_noDevice X (fun (i2 : Int32) (g1 : GM) => (if i2 = 0 then wGetR g1 v0 8 3 (fun (r3 : Option Nat) => wAld g1 r3 v1 0 (fun (i4 : Int32) => (if i4 = (-1 : Int32) then w_X8_buildOf_b26 X post px v0 v1 (2 : Int32) v0 g1 else w_X8_buildOf_b26 X post px v0 v1 (0 : Int32) v0 g1))) else post (0 : Int32) g1)) px v0 v1 g)
abbrev rm_X8_buildOf : Room := { frames := 3, cells := 0, slots := 0, locals := 64 }
set_option maxHeartbeats 4000000 in
set_option maxRecDepth 100000 in
theorem m_X8_buildOf {X : Cx} {l : Launch} (hfl : l.stackTraces = false) {post : Int32 → GM → Prop} {px : String → GM → Prop} {v0 : Option Nat} {v1 : Int32} {g : GM} (hf : w_X8_buildOf X post px v0 v1 g) : gMet X l yX8_buildOf cX8_buildOf 2 (some .int) rm_X8_buildOf [va_rf v0, .int v1] g (qI X post) px := by
  refine gg_enter (L := [some (va_rf v0), some (.int v1)]) hfl (by decide +kernel) (by simp [lg_sl, gcat, gcI, gcL, gcF, gcD]) (by simp [gll, lv_args, gcat, gcI, gcL, gcF, gcD]) ?_
  intro p e s m args below meth c C hr ht hm
  have C : FC X p l s m args meth c cX8_buildOf 2 "ReleasetrainModel" := C
  have hb_46 : ∀ (t0 : Int32) (g : GM), w_X8_buildOf_b46 X post px  t0 g → GG X p l e rm_X8_buildOf s m args below meth c 2 (vx_MQ below (qI X post) (gXC X px) args s rm_X8_buildOf.cells rm_X8_buildOf.slots (gA X)) 0 0 46 [none, none] [.int t0] g := by
    intro  t0 g hf
    unfold w_X8_buildOf_b46 at hf
    exact gg_iret C hr (by decide) (by decide) dX8_buildOf_46 rfl hf
  have hb_26 : ∀ (l0 : Option Nat) (l1 : Int32) (t0 : Int32) (t1 : Option Nat) (g : GM), w_X8_buildOf_b26 X post px  l0 l1 t0 t1 g → GG X p l e rm_X8_buildOf s m args below meth c 2 (vx_MQ below (qI X post) (gXC X px) args s rm_X8_buildOf.cells rm_X8_buildOf.slots (gA X)) 0 0 26 [some (va_rf l0), some (.int l1)] [.int t0, va_rf t1] g := by
    intro  l0 l1 t0 t1 g hf
    unfold w_X8_buildOf_b26 at hf
    refine gg_put C dX8_buildOf_26 pk_X8_110 (gNar_int _) hf (fun g5 hf => ?_)
    refine gg_aload_n C dX8_buildOf_29 rfl ?_
    refine gg_getI C dX8_buildOf_30 lk_X8_110 hf (fun i6 hf => ?_)
    refine gg_if_le (tgt := 40) C dX8_buildOf_33 (by decide) hf (fun hf => ?_) (fun hf => ?_)
    · refine gg_aload_n C dX8_buildOf_40 rfl ?_
      refine gg_getR C dX8_buildOf_41 lk_X8_19 hf (fun r7 hf => ?_)
      refine gg_iload_n C dX8_buildOf_44 rfl ?_
      refine gg_iald C dX8_buildOf_45 hf (fun i8 hf => ?_)
      exact gg_sub (L' := [none, none]) (by first | exact trivial | simp [gsub]) (hb_46 _ _ hf)
    · refine gg_iconst C dX8_buildOf_36 (v := (0 : Int32)) (by decide) ?_
      refine gg_goto (tgt := 46) C dX8_buildOf_37 (by decide) ?_
      exact gg_sub (L' := [none, none]) (by first | exact trivial | simp [gsub]) (hb_46 _ _ hf)
  unfold w_X8_buildOf at hf
  refine gg_aload_n C dX8_buildOf_0 rfl ?_
  refine gg_iload_n C dX8_buildOf_1 rfl ?_
  refine gr_I (k' := 0) (n' := 0) (gk_V (ci := 8) (As := [.int v1]) (rest := []) C dX8_buildOf_2 rfl rfl tw_1721 tw_1723 tw_39 tw_56 tw_1724 gd_X8_noDevice rfl ⟨by decide, by decide⟩ (by simp [gcat, gcI, gcL, gcF, gcD]) ⟨by decide, by decide⟩ hf (fun hf => m_X8_noDevice hfl hf)) rfl rfl (fun E g9 h9 => gx_out C (fun x hx => (ht x hx).elim) (by decide) (by decide) h9) (fun i2 g1 hf => ?_)
  refine gg_if_eq (tgt := 10) C dX8_buildOf_5 (by decide) hf (fun hf => ?_) (fun hf => ?_)
  · refine gg_aload_n C dX8_buildOf_10 rfl ?_
    refine gg_aload_n C dX8_buildOf_11 rfl ?_
    refine gg_getR C dX8_buildOf_12 lk_X8_19 hf (fun r3 hf => ?_)
    refine gg_iload_n C dX8_buildOf_15 rfl ?_
    refine gg_iald C dX8_buildOf_16 hf (fun i4 hf => ?_)
    refine gg_iconst C dX8_buildOf_17 (v := (-1 : Int32)) (by decide) ?_
    refine gg_icmp_ne (tgt := 25) C dX8_buildOf_18 (by decide) hf (fun hf => ?_) (fun hf => ?_)
    · refine gg_iconst C dX8_buildOf_25 (v := (0 : Int32)) (by decide) ?_
      exact hb_26 _ _ _ _ _ hf
    · refine gg_iconst C dX8_buildOf_21 (v := (2 : Int32)) (by decide) ?_
      refine gg_goto (tgt := 26) C dX8_buildOf_22 (by decide) ?_
      exact hb_26 _ _ _ _ _ hf
  · refine gg_iconst C dX8_buildOf_8 (v := (0 : Int32)) (by decide) ?_
    exact gg_iret C hr (by decide) (by decide) dX8_buildOf_9 rfl hf

def w_X8_devicesWith_b38 (X : Cx) (post : Int32 → GM → Prop) (px : String → GM → Prop) (k14 : Option Nat → Int32 → Int32 → Int32 → GM → Prop) (l0 : Option Nat) (l1 : Int32) (l3 : Int32) (t0 : Int32) (t1 : Int32) (g : GM) : Prop :=
  k14 l0 l1 (t1 + t0) (l3 + 1) g
def w_X8_devicesWith_l14 (X : Cx) (post : Int32 → GM → Prop) (px : String → GM → Prop)  : Nat → Option Nat → Int32 → Int32 → Int32 → GM → Prop
  | 0, _, _, _, _, _ => False
  | f + 1, l0, l1, l2, l3, g => wGetI g l0 8 6 (fun (i3 : Int32) => (if i3 ≤ l3 then post l2 g else wGetR g l0 8 3 (fun (r4 : Option Nat) => wAld g r4 l3 0 (fun (i5 : Int32) => (if i5 = l1 then w_X8_devicesWith_b38 X post px (w_X8_devicesWith_l14 X post px f) l0 l1 l3 (1 : Int32) l2 g else w_X8_devicesWith_b38 X post px (w_X8_devicesWith_l14 X post px f) l0 l1 l3 (0 : Int32) l2 g)))))
def w_X8_devicesWith (X : Cx) (post : Int32 → GM → Prop) (px : String → GM → Prop) (v0 : Option Nat) (v1 : Int32) (g : GM) : Prop :=
  wIs g v0 8 (w_X8_noBuild X (fun (i2 : Int32) (g1 : GM) => (if i2 = 0 then w_X8_devicesWith_l14 X post px 3000 v0 v1 (0 : Int32) (0 : Int32) g1 else post (0 : Int32) g1)) px v0 v1 g)
abbrev rm_X8_devicesWith : Room := { frames := 3, cells := 0, slots := 0, locals := 64 }
set_option maxHeartbeats 4000000 in
set_option maxRecDepth 100000 in
theorem m_X8_devicesWith {X : Cx} {l : Launch} (hfl : l.stackTraces = false) {post : Int32 → GM → Prop} {px : String → GM → Prop} {v0 : Option Nat} {v1 : Int32} {g : GM} (hf : w_X8_devicesWith X post px v0 v1 g) : gMet X l yX8_devicesWith cX8_devicesWith 4 (some .int) rm_X8_devicesWith [va_rf v0, .int v1] g (qI X post) px := by
  refine gg_enter (L := [some (va_rf v0), some (.int v1), none, none]) hfl (by decide +kernel) (by simp [lg_sl, gcat, gcI, gcL, gcF, gcD]) (by simp [gll, lv_args, gcat, gcI, gcL, gcF, gcD]) ?_
  intro p e s m args below meth c C hr ht hm
  have C : FC X p l s m args meth c cX8_devicesWith 4 "ReleasetrainModel" := C
  have hb_38 : ∀ (k14 : Option Nat → Int32 → Int32 → Int32 → GM → Prop), (∀ (l0 : Option Nat) (l1 : Int32) (l2 : Int32) (l3 : Int32) (g : GM), k14 l0 l1 l2 l3 g → GG X p l e rm_X8_devicesWith s m args below meth c 4 (vx_MQ below (qI X post) (gXC X px) args s rm_X8_devicesWith.cells rm_X8_devicesWith.slots (gA X)) 0 0 14 [some (va_rf l0), some (.int l1), some (.int l2), some (.int l3)] [] g) → ∀ (l0 : Option Nat) (l1 : Int32) (l3 : Int32) (t0 : Int32) (t1 : Int32) (g : GM), w_X8_devicesWith_b38 X post px k14 l0 l1 l3 t0 t1 g → GG X p l e rm_X8_devicesWith s m args below meth c 4 (vx_MQ below (qI X post) (gXC X px) args s rm_X8_devicesWith.cells rm_X8_devicesWith.slots (gA X)) 0 0 38 [some (va_rf l0), some (.int l1), none, some (.int l3)] [.int t0, .int t1] g := by
    intro k14 hk14 l0 l1 l3 t0 t1 g hf
    unfold w_X8_devicesWith_b38 at hf
    refine gg_iadd C dX8_devicesWith_38 ?_
    refine gg_istore_n (L' := [some (va_rf l0), some (.int l1), some (.int (t1 + t0)), some (.int l3)]) C dX8_devicesWith_39 (Or.inr (Or.inr ⟨_, rfl, rfl⟩)) (by decide) rfl ?_
    refine gg_iinc (L' := [some (va_rf l0), some (.int l1), some (.int (t1 + t0)), some (.int (l3 + 1))]) C dX8_devicesWith_40 rfl (v := (l3 + 1)) rfl (Or.inr (Or.inr ⟨_, rfl, rfl⟩)) (by decide) rfl ?_
    refine gg_goto (tgt := 14) C dX8_devicesWith_43 (by decide) ?_
    exact hk14 _ _ _ _ _ hf
  have hb_14 : ∀ (f : Nat) (l0 : Option Nat) (l1 : Int32) (l2 : Int32) (l3 : Int32) (g : GM), w_X8_devicesWith_l14 X post px  f l0 l1 l2 l3 g → GG X p l e rm_X8_devicesWith s m args below meth c 4 (vx_MQ below (qI X post) (gXC X px) args s rm_X8_devicesWith.cells rm_X8_devicesWith.slots (gA X)) 0 0 14 [some (va_rf l0), some (.int l1), some (.int l2), some (.int l3)] [] g := by
    intro  f
    induction f with
    | zero => intro l0 l1 l2 l3 g hf; exact (show False from hf).elim
    | succ f ih =>
      intro l0 l1 l2 l3 g hf
      rw [w_X8_devicesWith_l14] at hf
      refine gg_iload_n C dX8_devicesWith_14 rfl ?_
      refine gg_aload_n C dX8_devicesWith_15 rfl ?_
      refine gg_getI C dX8_devicesWith_16 lk_X8_113 hf (fun i3 hf => ?_)
      refine gg_icmp_ge (tgt := 46) C dX8_devicesWith_19 (by decide) hf (fun hf => ?_) (fun hf => ?_)
      · refine gg_iload_n C dX8_devicesWith_46 rfl ?_
        exact gg_iret C hr (by decide) (by decide) dX8_devicesWith_47 rfl hf
      · refine gg_iload_n C dX8_devicesWith_22 rfl ?_
        refine gg_aload_n C dX8_devicesWith_23 rfl ?_
        refine gg_getR C dX8_devicesWith_24 lk_X8_19 hf (fun r4 hf => ?_)
        refine gg_iload_n C dX8_devicesWith_27 rfl ?_
        refine gg_iald C dX8_devicesWith_28 hf (fun i5 hf => ?_)
        refine gg_iload_n C dX8_devicesWith_29 rfl ?_
        refine gg_icmp_ne (tgt := 37) C dX8_devicesWith_30 (by decide) hf (fun hf => ?_) (fun hf => ?_)
        · refine gg_iconst C dX8_devicesWith_37 (v := (0 : Int32)) (by decide) ?_
          exact gg_sub (L' := [some (va_rf l0), some (.int l1), none, some (.int l3)]) (by first | exact ⟨rfl, ⟨rfl, ⟨rfl, trivial⟩⟩⟩ | simp [gsub]) (hb_38 _ ih _ _ _ _ _ _ hf)
        · refine gg_iconst C dX8_devicesWith_33 (v := (1 : Int32)) (by decide) ?_
          refine gg_goto (tgt := 38) C dX8_devicesWith_34 (by decide) ?_
          exact gg_sub (L' := [some (va_rf l0), some (.int l1), none, some (.int l3)]) (by first | exact ⟨rfl, ⟨rfl, ⟨rfl, trivial⟩⟩⟩ | simp [gsub]) (hb_38 _ ih _ _ _ _ _ _ hf)
  unfold w_X8_devicesWith at hf
  refine gg_aload_n C dX8_devicesWith_0 rfl ?_
  refine gg_iload_n C dX8_devicesWith_1 rfl ?_
  refine gr_I (k' := 0) (n' := 0) (gk_V (ci := 8) (As := [.int v1]) (rest := []) C dX8_devicesWith_2 rfl rfl tw_1599 tw_1601 tw_26 tw_56 tw_1602 gd_X8_noBuild rfl ⟨by decide, by decide⟩ (by simp [gcat, gcI, gcL, gcF, gcD]) ⟨by decide, by decide⟩ hf (fun hf => m_X8_noBuild hfl hf)) rfl rfl (fun E g9 h9 => gx_out C (fun x hx => (ht x hx).elim) (by decide) (by decide) h9) (fun i2 g1 hf => ?_)
  refine gg_if_eq (tgt := 10) C dX8_devicesWith_5 (by decide) hf (fun hf => ?_) (fun hf => ?_)
  · refine gg_iconst C dX8_devicesWith_10 (v := (0 : Int32)) (by decide) ?_
    refine gg_istore_n (L' := [some (va_rf v0), some (.int v1), some (.int (0 : Int32)), none]) C dX8_devicesWith_11 (Or.inr (Or.inr ⟨_, rfl, rfl⟩)) (by decide) rfl ?_
    refine gg_iconst C dX8_devicesWith_12 (v := (0 : Int32)) (by decide) ?_
    refine gg_istore_n (L' := [some (va_rf v0), some (.int v1), some (.int (0 : Int32)), some (.int (0 : Int32))]) C dX8_devicesWith_13 (Or.inr (Or.inr ⟨_, rfl, rfl⟩)) (by decide) rfl ?_
    exact hb_14 _ _ _ _ _ _ hf
  · refine gg_iconst C dX8_devicesWith_8 (v := (0 : Int32)) (by decide) ?_
    exact gg_iret C hr (by decide) (by decide) dX8_devicesWith_9 rfl hf

def w_X8_installs_b18 (X : Cx) (post : Int32 → GM → Prop) (px : String → GM → Prop)  (t0 : Int32) (g : GM) : Prop :=
  post t0 g
def w_X8_installs (X : Cx) (post : Int32 → GM → Prop) (px : String → GM → Prop) (v0 : Option Nat) (v1 : Int32) (g : GM) : Prop :=
  wIs g v0 8 (w_X8_noBuild X (fun (i2 : Int32) (g1 : GM) => (if i2 = 0 then wGetR g1 v0 8 19 (fun (r3 : Option Nat) => wAld g1 r3 v1 0 (fun (i4 : Int32) => w_X8_installs_b18 X post px i4 g1)) else w_X8_installs_b18 X post px (0 : Int32) g1)) px v0 v1 g)
abbrev rm_X8_installs : Room := { frames := 3, cells := 0, slots := 0, locals := 64 }
set_option maxHeartbeats 4000000 in
set_option maxRecDepth 100000 in
theorem m_X8_installs {X : Cx} {l : Launch} (hfl : l.stackTraces = false) {post : Int32 → GM → Prop} {px : String → GM → Prop} {v0 : Option Nat} {v1 : Int32} {g : GM} (hf : w_X8_installs X post px v0 v1 g) : gMet X l yX8_installs cX8_installs 2 (some .int) rm_X8_installs [va_rf v0, .int v1] g (qI X post) px := by
  refine gg_enter (L := [some (va_rf v0), some (.int v1)]) hfl (by decide +kernel) (by simp [lg_sl, gcat, gcI, gcL, gcF, gcD]) (by simp [gll, lv_args, gcat, gcI, gcL, gcF, gcD]) ?_
  intro p e s m args below meth c C hr ht hm
  have C : FC X p l s m args meth c cX8_installs 2 "ReleasetrainModel" := C
  have hb_18 : ∀ (t0 : Int32) (g : GM), w_X8_installs_b18 X post px  t0 g → GG X p l e rm_X8_installs s m args below meth c 2 (vx_MQ below (qI X post) (gXC X px) args s rm_X8_installs.cells rm_X8_installs.slots (gA X)) 0 0 18 [none, none] [.int t0] g := by
    intro  t0 g hf
    unfold w_X8_installs_b18 at hf
    exact gg_iret C hr (by decide) (by decide) dX8_installs_18 rfl hf
  unfold w_X8_installs at hf
  refine gg_aload_n C dX8_installs_0 rfl ?_
  refine gg_iload_n C dX8_installs_1 rfl ?_
  refine gr_I (k' := 0) (n' := 0) (gk_V (ci := 8) (As := [.int v1]) (rest := []) C dX8_installs_2 rfl rfl tw_1599 tw_1601 tw_26 tw_56 tw_1602 gd_X8_noBuild rfl ⟨by decide, by decide⟩ (by simp [gcat, gcI, gcL, gcF, gcD]) ⟨by decide, by decide⟩ hf (fun hf => m_X8_noBuild hfl hf)) rfl rfl (fun E g9 h9 => gx_out C (fun x hx => (ht x hx).elim) (by decide) (by decide) h9) (fun i2 g1 hf => ?_)
  refine gg_if_eq (tgt := 12) C dX8_installs_5 (by decide) hf (fun hf => ?_) (fun hf => ?_)
  · refine gg_aload_n C dX8_installs_12 rfl ?_
    refine gg_getR C dX8_installs_13 lk_X8_68 hf (fun r3 hf => ?_)
    refine gg_iload_n C dX8_installs_16 rfl ?_
    refine gg_iald C dX8_installs_17 hf (fun i4 hf => ?_)
    exact gg_sub (L' := [none, none]) (by first | exact trivial | simp [gsub]) (hb_18 _ _ hf)
  · refine gg_iconst C dX8_installs_8 (v := (0 : Int32)) (by decide) ?_
    refine gg_goto (tgt := 18) C dX8_installs_9 (by decide) ?_
    exact gg_sub (L' := [none, none]) (by first | exact trivial | simp [gsub]) (hb_18 _ _ hf)

def w_X8_type_b30 (X : Cx) (post : Int32 → GM → Prop) (px : String → GM → Prop)  (l0 : Option Nat) (l1 : Int32) (t0 : Int32) (t1 : Option Nat) (g : GM) : Prop :=
  wPut g t1 8 36 (.int t0) (fun g4 => wGetI g4 l0 8 36 (fun (i5 : Int32) => (if i5 ≤ 0 then wGetR g4 l0 8 32 (fun (r6 : Option Nat) => wGetI g4 l0 8 33 (fun (i7 : Int32) => wAst g4 r6 i7 1 (vp_nar .char l1) (fun g8 => wGetI g8 l0 8 33 (fun (i9 : Int32) => wPut g8 l0 8 33 (.int (i9 + (1 : Int32))) (fun g10 => wGetI g10 l0 8 33 (fun (i11 : Int32) => post i11 g10)))))) else post (0 : Int32) g4)))
def w_X8_type (X : Cx) (post : Int32 → GM → Prop) (px : String → GM → Prop) (v0 : Option Nat) (v1 : Int32) (g : GM) : Prop :=
  w_X8_in X (fun (i2 : Int32) (g1 : GM) => (if i2 = 0 then w_X8_type_b30 X post px v0 v1 (1 : Int32) v0 g1 else wGetI g1 v0 8 33 (fun (i3 : Int32) => (if i3 = (6 : Int32) then w_X8_type_b30 X post px v0 v1 (2 : Int32) v0 g1 else w_X8_type_b30 X post px v0 v1 (0 : Int32) v0 g1)))) px v1 (97 : Int32) (122 : Int32) g
abbrev rm_X8_type : Room := { frames := 1, cells := 0, slots := 0, locals := 22 }
set_option maxHeartbeats 4000000 in
set_option maxRecDepth 100000 in
theorem m_X8_type {X : Cx} {l : Launch} (hfl : l.stackTraces = false) {post : Int32 → GM → Prop} {px : String → GM → Prop} {v0 : Option Nat} {v1 : Int32} {g : GM} (hf : w_X8_type X post px v0 v1 g) : gMet X l yX8_type cX8_type 2 (some .int) rm_X8_type [va_rf v0, .int v1] g (qI X post) px := by
  refine gg_enter (L := [some (va_rf v0), some (.int v1)]) hfl (by decide +kernel) (by simp [lg_sl, gcat, gcI, gcL, gcF, gcD]) (by simp [gll, lv_args, gcat, gcI, gcL, gcF, gcD]) ?_
  intro p e s m args below meth c C hr ht hm
  have C : FC X p l s m args meth c cX8_type 2 "ReleasetrainModel" := C
  have hb_30 : ∀ (l0 : Option Nat) (l1 : Int32) (t0 : Int32) (t1 : Option Nat) (g : GM), w_X8_type_b30 X post px  l0 l1 t0 t1 g → GG X p l e rm_X8_type s m args below meth c 2 (vx_MQ below (qI X post) (gXC X px) args s rm_X8_type.cells rm_X8_type.slots (gA X)) 0 0 30 [some (va_rf l0), some (.int l1)] [.int t0, va_rf t1] g := by
    intro  l0 l1 t0 t1 g hf
    unfold w_X8_type_b30 at hf
    refine gg_put C dX8_type_30 pk_X8_110 (gNar_int _) hf (fun g4 hf => ?_)
    refine gg_aload_n C dX8_type_33 rfl ?_
    refine gg_getI C dX8_type_34 lk_X8_110 hf (fun i5 hf => ?_)
    refine gg_if_le (tgt := 42) C dX8_type_37 (by decide) hf (fun hf => ?_) (fun hf => ?_)
    · refine gg_aload_n C dX8_type_42 rfl ?_
      refine gg_getR C dX8_type_43 lk_X8_100 hf (fun r6 hf => ?_)
      refine gg_aload_n C dX8_type_46 rfl ?_
      refine gg_getI C dX8_type_47 lk_X8_207 hf (fun i7 hf => ?_)
      refine gg_iload_n C dX8_type_50 rfl ?_
      refine gg_cast C dX8_type_51 hf (fun g8 hf => ?_)
      refine gg_aload_n C dX8_type_52 rfl ?_
      refine gg_dup C dX8_type_53 (gcat _) ?_
      refine gg_getI C dX8_type_54 lk_X8_207 hf (fun i9 hf => ?_)
      refine gg_iconst C dX8_type_57 (v := (1 : Int32)) (by decide) ?_
      refine gg_iadd C dX8_type_58 ?_
      refine gg_put C dX8_type_59 pk_X8_207 (gNar_int _) hf (fun g10 hf => ?_)
      refine gg_aload_n C dX8_type_62 rfl ?_
      refine gg_getI C dX8_type_63 lk_X8_207 hf (fun i11 hf => ?_)
      exact gg_iret C hr (by decide) (by decide) dX8_type_66 rfl hf
    · refine gg_iconst C dX8_type_40 (v := (0 : Int32)) (by decide) ?_
      exact gg_iret C hr (by decide) (by decide) dX8_type_41 rfl hf
  unfold w_X8_type at hf
  refine gg_aload_n C dX8_type_0 rfl ?_
  refine gg_iload_n C dX8_type_1 rfl ?_
  refine gg_bipush C dX8_type_2 (v := (97 : Int32)) (by decide) ?_
  refine gg_bipush C dX8_type_4 (v := (122 : Int32)) (by decide) ?_
  refine gr_I (k' := 0) (n' := 0) (gk_S (As := [.int v1, .int (97 : Int32), .int (122 : Int32)]) (rest := [va_rf v0]) C dX8_type_6 tw_1580 tw_1581 tw_56 tw_1582 gd_X8_in rfl ⟨by decide, by decide⟩ (by simp [gcat, gcI, gcL, gcF, gcD]) ⟨by decide, by decide⟩ (m_X8_in hfl hf)) rfl rfl (fun E g9 h9 => gx_out C (fun x hx => (ht x hx).elim) (by decide) (by decide) h9) (fun i2 g1 hf => ?_)
  refine gg_if_ne (tgt := 16) C dX8_type_9 (by decide) hf (fun hf => ?_) (fun hf => ?_)
  · refine gg_aload_n C dX8_type_16 rfl ?_
    refine gg_getI C dX8_type_17 lk_X8_207 hf (fun i3 hf => ?_)
    refine gg_bipush C dX8_type_20 (v := (6 : Int32)) (by decide) ?_
    refine gg_icmp_ne (tgt := 29) C dX8_type_22 (by decide) hf (fun hf => ?_) (fun hf => ?_)
    · refine gg_iconst C dX8_type_29 (v := (0 : Int32)) (by decide) ?_
      exact hb_30 _ _ _ _ _ hf
    · refine gg_iconst C dX8_type_25 (v := (2 : Int32)) (by decide) ?_
      refine gg_goto (tgt := 30) C dX8_type_26 (by decide) ?_
      exact hb_30 _ _ _ _ _ hf
  · refine gg_iconst C dX8_type_12 (v := (1 : Int32)) (by decide) ?_
    refine gg_goto (tgt := 30) C dX8_type_13 (by decide) ?_
    exact hb_30 _ _ _ _ _ hf

def w_X8_alike_b32 (X : Cx) (post : UInt32 → GM → Prop) (px : String → GM → Prop)  (l1 : Int32) (l3 : Int32) (l4 : Int32) (g : GM) : Prop :=
  vf_n32 (FP.fdiv (FP.i2f l4) (FP.i2f (if l1 < l3 then l3 else l1))) ∧ post (FP.fdiv (FP.i2f l4) (FP.i2f (if l1 < l3 then l3 else l1))) g
def w_X8_alike_l3 (X : Cx) (post : UInt32 → GM → Prop) (px : String → GM → Prop)  : Nat → Option Nat → Int32 → Option Nat → Int32 → Int32 → GM → Prop
  | 0, _, _, _, _, _, _ => False
  | f + 1, l0, l1, l2, l3, l4, g => (if l1 ≤ l4 then w_X8_alike_b32 X post px l1 l3 l4 g else (if l3 ≤ l4 then w_X8_alike_b32 X post px l1 l3 l4 g else wAld g l0 l4 1 (fun (i1 : Int32) => wAld g l2 l4 1 (fun (i2 : Int32) => (if i1 = i2 then w_X8_alike_l3 X post px f l0 l1 l2 l3 (l4 + 1) g else w_X8_alike_b32 X post px l1 l3 l4 g)))))
def w_X8_alike (X : Cx) (post : UInt32 → GM → Prop) (px : String → GM → Prop) (v0 : Option Nat) (v1 : Int32) (v2 : Option Nat) (v3 : Int32) (g : GM) : Prop :=
  w_X8_alike_l3 X post px 3000 v0 v1 v2 v3 (0 : Int32) g
abbrev rm_X8_alike : Room := { frames := 1, cells := 0, slots := 0, locals := 17 }
set_option maxHeartbeats 4000000 in
set_option maxRecDepth 100000 in
theorem m_X8_alike {X : Cx} {l : Launch} (hfl : l.stackTraces = false) {post : UInt32 → GM → Prop} {px : String → GM → Prop} {v0 : Option Nat} {v1 : Int32} {v2 : Option Nat} {v3 : Int32} {g : GM} (hf : w_X8_alike X post px v0 v1 v2 v3 g) : gMet X l yX8_alike cX8_alike 5 (some .float) rm_X8_alike [va_rf v0, .int v1, va_rf v2, .int v3] g (qF X post) px := by
  refine gg_enter (L := [some (va_rf v0), some (.int v1), some (va_rf v2), some (.int v3), none]) hfl (by decide +kernel) (by simp [lg_sl, gcat, gcI, gcL, gcF, gcD]) (by simp [gll, lv_args, gcat, gcI, gcL, gcF, gcD]) ?_
  intro p e s m args below meth c C hr ht hm
  have C : FC X p l s m args meth c cX8_alike 5 "ReleasetrainModel" := C
  have hb_32 : ∀ (l1 : Int32) (l3 : Int32) (l4 : Int32) (g : GM), w_X8_alike_b32 X post px  l1 l3 l4 g → GG X p l e rm_X8_alike s m args below meth c 5 (vx_MQ below (qF X post) (gXC X px) args s rm_X8_alike.cells rm_X8_alike.slots (gA X)) 0 0 32 [none, some (.int l1), none, some (.int l3), some (.int l4)] [] g := by
    intro  l1 l3 l4 g hf
    unfold w_X8_alike_b32 at hf
    refine gg_iload C dX8_alike_32 rfl ?_
    refine gg_i2f C dX8_alike_34 ?_
    refine gg_iload_n C dX8_alike_35 rfl ?_
    refine gg_iload_n C dX8_alike_36 rfl ?_
    refine gg_mmax C dX8_alike_37 tw_1760 tw_372 tw_64 tw_max (by decide) (by simp [gcat, gcI, gcL, gcF, gcD]) (by decide) (by decide) ?_
    refine gg_i2f C dX8_alike_40 ?_
    refine gg_fdiv C dX8_alike_41 hf.1 ?_
    replace hf := hf.2
    exact gg_fret C hr (by decide) (by decide) dX8_alike_42 hf
  have hb_3 : ∀ (f : Nat) (l0 : Option Nat) (l1 : Int32) (l2 : Option Nat) (l3 : Int32) (l4 : Int32) (g : GM), w_X8_alike_l3 X post px  f l0 l1 l2 l3 l4 g → GG X p l e rm_X8_alike s m args below meth c 5 (vx_MQ below (qF X post) (gXC X px) args s rm_X8_alike.cells rm_X8_alike.slots (gA X)) 0 0 3 [some (va_rf l0), some (.int l1), some (va_rf l2), some (.int l3), some (.int l4)] [] g := by
    intro  f
    induction f with
    | zero => intro l0 l1 l2 l3 l4 g hf; exact (show False from hf).elim
    | succ f ih =>
      intro l0 l1 l2 l3 l4 g hf
      rw [w_X8_alike_l3] at hf
      refine gg_iload C dX8_alike_3 rfl ?_
      refine gg_iload_n C dX8_alike_5 rfl ?_
      refine gg_icmp_ge (tgt := 32) C dX8_alike_6 (by decide) hf (fun hf => ?_) (fun hf => ?_)
      · exact gg_sub (L' := [none, some (.int l1), none, some (.int l3), some (.int l4)]) (by first | exact ⟨rfl, ⟨rfl, ⟨rfl, trivial⟩⟩⟩ | simp [gsub]) (hb_32 _ _ _ _ hf)
      · refine gg_iload C dX8_alike_9 rfl ?_
        refine gg_iload_n C dX8_alike_11 rfl ?_
        refine gg_icmp_ge (tgt := 32) C dX8_alike_12 (by decide) hf (fun hf => ?_) (fun hf => ?_)
        · exact gg_sub (L' := [none, some (.int l1), none, some (.int l3), some (.int l4)]) (by first | exact ⟨rfl, ⟨rfl, ⟨rfl, trivial⟩⟩⟩ | simp [gsub]) (hb_32 _ _ _ _ hf)
        · refine gg_aload_n C dX8_alike_15 rfl ?_
          refine gg_iload C dX8_alike_16 rfl ?_
          refine gg_cald C dX8_alike_18 hf (fun i1 hf => ?_)
          refine gg_aload_n C dX8_alike_19 rfl ?_
          refine gg_iload C dX8_alike_20 rfl ?_
          refine gg_cald C dX8_alike_22 hf (fun i2 hf => ?_)
          refine gg_icmp_ne (tgt := 32) C dX8_alike_23 (by decide) hf (fun hf => ?_) (fun hf => ?_)
          · exact gg_sub (L' := [none, some (.int l1), none, some (.int l3), some (.int l4)]) (by first | exact ⟨rfl, ⟨rfl, ⟨rfl, trivial⟩⟩⟩ | simp [gsub]) (hb_32 _ _ _ _ hf)
          · refine gg_iinc (L' := [some (va_rf l0), some (.int l1), some (va_rf l2), some (.int l3), some (.int (l4 + 1))]) C dX8_alike_26 rfl (v := (l4 + 1)) rfl (Or.inr (Or.inr ⟨_, rfl, rfl⟩)) (by decide) rfl ?_
            refine gg_goto (tgt := 3) C dX8_alike_29 (by decide) ?_
            exact ih _ _ _ _ _ _ hf
  unfold w_X8_alike at hf
  refine gg_iconst C dX8_alike_0 (v := (0 : Int32)) (by decide) ?_
  refine gg_istore (L' := [some (va_rf v0), some (.int v1), some (va_rf v2), some (.int v3), some (.int (0 : Int32))]) C dX8_alike_1 (Or.inr (Or.inr ⟨_, rfl, rfl⟩)) (by decide) rfl ?_
  exact hb_3 _ _ _ _ _ _ _ hf

def w_X8_groupFor_b84 (X : Cx) (post : Int32 → GM → Prop) (px : String → GM → Prop)  (t0 : Int32) (g : GM) : Prop :=
  post t0 g
def w_X8_groupFor_b80 (X : Cx) (post : Int32 → GM → Prop) (px : String → GM → Prop)  (l0 : Option Nat) (g : GM) : Prop :=
  wGetI g l0 8 31 (fun (i2 : Int32) => w_X8_groupFor_b84 X post px i2 g)
def w_X8_groupFor_b56 (X : Cx) (post : Int32 → GM → Prop) (px : String → GM → Prop) (k6 : Option Nat → Int32 → UInt32 → Int32 → GM → Prop) (l0 : Option Nat) (l1 : Int32) (l2 : UInt32) (l3 : Int32) (g : GM) : Prop :=
  k6 l0 l1 l2 (l3 + 1) g
def w_X8_groupFor_b51 (X : Cx) (post : Int32 → GM → Prop) (px : String → GM → Prop) (k6 : Option Nat → Int32 → UInt32 → Int32 → GM → Prop) (l0 : Option Nat) (l3 : Int32) (l4 : UInt32) (g : GM) : Prop :=
  w_X8_groupFor_b56 X post px k6 l0 l3 l4 l3 g
def w_X8_groupFor_l6 (X : Cx) (post : Int32 → GM → Prop) (px : String → GM → Prop)  : Nat → Option Nat → Int32 → UInt32 → Int32 → GM → Prop
  | 0, _, _, _, _, _ => False
  | f + 1, l0, l1, l2, l3, g => wGetI g l0 8 31 (fun (i1 : Int32) => (if i1 ≤ l3 then (if l1 = (-1 : Int32) then w_X8_groupFor_b80 X post px l0 g else wGetF g l0 8 25 (fun (x3 : UInt32) => (if (Op.cmpValue (FP.fcmp l2 x3) .l) < 0 then w_X8_groupFor_b80 X post px l0 g else w_X8_groupFor_b84 X post px l1 g))) else wGetR g l0 8 27 (fun (r4 : Option Nat) => wAldq g r4 l3 6 (fun (r5 : Option Nat) => wGetR g l0 8 28 (fun (r6 : Option Nat) => wAld g r6 l3 0 (fun (i7 : Int32) => wGetR g l0 8 32 (fun (r8 : Option Nat) => wGetI g l0 8 33 (fun (i9 : Int32) => w_X8_alike X (fun (x11 : UInt32) (g10 : GM) => (if l1 = (-1 : Int32) then w_X8_groupFor_b51 X post px (w_X8_groupFor_l6 X post px f) l0 l3 x11 g10 else (if (Op.cmpValue (FP.fcmp x11 l2) .l) ≤ 0 then w_X8_groupFor_b56 X post px (w_X8_groupFor_l6 X post px f) l0 l1 l2 l3 g10 else w_X8_groupFor_b51 X post px (w_X8_groupFor_l6 X post px f) l0 l3 x11 g10))) px r5 i7 r8 i9 g))))))))
def w_X8_groupFor (X : Cx) (post : Int32 → GM → Prop) (px : String → GM → Prop) (v0 : Option Nat) (g : GM) : Prop :=
  w_X8_groupFor_l6 X post px 3000 v0 (-1 : Int32) FP.fconst0 (0 : Int32) g
abbrev rm_X8_groupFor : Room := { frames := 2, cells := 0, slots := 0, locals := 41 }
set_option maxHeartbeats 4000000 in
set_option maxRecDepth 100000 in
theorem m_X8_groupFor {X : Cx} {l : Launch} (hfl : l.stackTraces = false) {post : Int32 → GM → Prop} {px : String → GM → Prop} {v0 : Option Nat} {g : GM} (hf : w_X8_groupFor X post px v0 g) : gMet X l yX8_groupFor cX8_groupFor 5 (some .int) rm_X8_groupFor [va_rf v0] g (qI X post) px := by
  refine gg_enter (L := [some (va_rf v0), none, none, none, none]) hfl (by decide +kernel) (by simp [lg_sl, gcat, gcI, gcL, gcF, gcD]) (by simp [gll, lv_args, gcat, gcI, gcL, gcF, gcD]) ?_
  intro p e s m args below meth c C hr ht hm
  have C : FC X p l s m args meth c cX8_groupFor 5 "ReleasetrainModel" := C
  have hb_84 : ∀ (t0 : Int32) (g : GM), w_X8_groupFor_b84 X post px  t0 g → GG X p l e rm_X8_groupFor s m args below meth c 5 (vx_MQ below (qI X post) (gXC X px) args s rm_X8_groupFor.cells rm_X8_groupFor.slots (gA X)) 0 0 84 [none, none, none, none, none] [.int t0] g := by
    intro  t0 g hf
    unfold w_X8_groupFor_b84 at hf
    exact gg_iret C hr (by decide) (by decide) dX8_groupFor_84 rfl hf
  have hb_80 : ∀ (l0 : Option Nat) (g : GM), w_X8_groupFor_b80 X post px  l0 g → GG X p l e rm_X8_groupFor s m args below meth c 5 (vx_MQ below (qI X post) (gXC X px) args s rm_X8_groupFor.cells rm_X8_groupFor.slots (gA X)) 0 0 80 [some (va_rf l0), none, none, none, none] [] g := by
    intro  l0 g hf
    unfold w_X8_groupFor_b80 at hf
    refine gg_aload_n C dX8_groupFor_80 rfl ?_
    refine gg_getI C dX8_groupFor_81 lk_X8_130 hf (fun i2 hf => ?_)
    exact gg_sub (L' := [none, none, none, none, none]) (by first | exact trivial | simp [gsub]) (hb_84 _ _ hf)
  have hb_56 : ∀ (k6 : Option Nat → Int32 → UInt32 → Int32 → GM → Prop), (∀ (l0 : Option Nat) (l1 : Int32) (l2 : UInt32) (l3 : Int32) (g : GM), k6 l0 l1 l2 l3 g → GG X p l e rm_X8_groupFor s m args below meth c 5 (vx_MQ below (qI X post) (gXC X px) args s rm_X8_groupFor.cells rm_X8_groupFor.slots (gA X)) 0 0 6 [some (va_rf l0), some (.int l1), some (.float l2), some (.int l3), none] [] g) → ∀ (l0 : Option Nat) (l1 : Int32) (l2 : UInt32) (l3 : Int32) (g : GM), w_X8_groupFor_b56 X post px k6 l0 l1 l2 l3 g → GG X p l e rm_X8_groupFor s m args below meth c 5 (vx_MQ below (qI X post) (gXC X px) args s rm_X8_groupFor.cells rm_X8_groupFor.slots (gA X)) 0 0 56 [some (va_rf l0), some (.int l1), some (.float l2), some (.int l3), none] [] g := by
    intro k6 hk6 l0 l1 l2 l3 g hf
    unfold w_X8_groupFor_b56 at hf
    refine gg_iinc (L' := [some (va_rf l0), some (.int l1), some (.float l2), some (.int (l3 + 1)), none]) C dX8_groupFor_56 rfl (v := (l3 + 1)) rfl (Or.inr (Or.inr ⟨_, rfl, rfl⟩)) (by decide) rfl ?_
    refine gg_goto (tgt := 6) C dX8_groupFor_59 (by decide) ?_
    exact hk6 _ _ _ _ _ hf
  have hb_51 : ∀ (k6 : Option Nat → Int32 → UInt32 → Int32 → GM → Prop), (∀ (l0 : Option Nat) (l1 : Int32) (l2 : UInt32) (l3 : Int32) (g : GM), k6 l0 l1 l2 l3 g → GG X p l e rm_X8_groupFor s m args below meth c 5 (vx_MQ below (qI X post) (gXC X px) args s rm_X8_groupFor.cells rm_X8_groupFor.slots (gA X)) 0 0 6 [some (va_rf l0), some (.int l1), some (.float l2), some (.int l3), none] [] g) → ∀ (l0 : Option Nat) (l3 : Int32) (l4 : UInt32) (g : GM), w_X8_groupFor_b51 X post px k6 l0 l3 l4 g → GG X p l e rm_X8_groupFor s m args below meth c 5 (vx_MQ below (qI X post) (gXC X px) args s rm_X8_groupFor.cells rm_X8_groupFor.slots (gA X)) 0 0 51 [some (va_rf l0), none, none, some (.int l3), some (.float l4)] [] g := by
    intro k6 hk6 l0 l3 l4 g hf
    unfold w_X8_groupFor_b51 at hf
    refine gg_iload_n C dX8_groupFor_51 rfl ?_
    refine gg_istore_n (L' := [some (va_rf l0), some (.int l3), none, some (.int l3), some (.float l4)]) C dX8_groupFor_52 (Or.inr (Or.inr ⟨_, rfl, gcat _⟩)) (by decide) rfl ?_
    refine gg_fload C dX8_groupFor_53 rfl ?_
    refine gg_fstore_n (L' := [some (va_rf l0), some (.int l3), some (.float l4), some (.int l3), some (.float l4)]) C dX8_groupFor_55 (Or.inr (Or.inr ⟨_, rfl, rfl⟩)) (by decide) rfl ?_
    exact gg_sub (L' := [some (va_rf l0), some (.int l3), some (.float l4), some (.int l3), none]) (by first | exact ⟨rfl, ⟨rfl, ⟨rfl, ⟨rfl, trivial⟩⟩⟩⟩ | simp [gsub]) (hb_56 _ hk6 _ _ _ _ _ hf)
  have hb_6 : ∀ (f : Nat) (l0 : Option Nat) (l1 : Int32) (l2 : UInt32) (l3 : Int32) (g : GM), w_X8_groupFor_l6 X post px  f l0 l1 l2 l3 g → GG X p l e rm_X8_groupFor s m args below meth c 5 (vx_MQ below (qI X post) (gXC X px) args s rm_X8_groupFor.cells rm_X8_groupFor.slots (gA X)) 0 0 6 [some (va_rf l0), some (.int l1), some (.float l2), some (.int l3), none] [] g := by
    intro  f
    induction f with
    | zero => intro l0 l1 l2 l3 g hf; exact (show False from hf).elim
    | succ f ih =>
      intro l0 l1 l2 l3 g hf
      rw [w_X8_groupFor_l6] at hf
      refine gg_iload_n C dX8_groupFor_6 rfl ?_
      refine gg_aload_n C dX8_groupFor_7 rfl ?_
      refine gg_getI C dX8_groupFor_8 lk_X8_130 hf (fun i1 hf => ?_)
      refine gg_icmp_ge (tgt := 62) C dX8_groupFor_11 (by decide) hf (fun hf => ?_) (fun hf => ?_)
      · refine gg_iload_n C dX8_groupFor_62 rfl ?_
        refine gg_iconst C dX8_groupFor_63 (v := (-1 : Int32)) (by decide) ?_
        refine gg_icmp_eq (tgt := 80) C dX8_groupFor_64 (by decide) hf (fun hf => ?_) (fun hf => ?_)
        · exact gg_sub (L' := [some (va_rf l0), none, none, none, none]) (by first | exact ⟨rfl, trivial⟩ | simp [gsub]) (hb_80 _ _ hf)
        · refine gg_fload_n C dX8_groupFor_67 rfl ?_
          refine gg_aload_n C dX8_groupFor_68 rfl ?_
          refine gg_getF C dX8_groupFor_69 lk_X8_79 hf (fun x3 hf => ?_)
          refine gg_fcmp C dX8_groupFor_72 ?_
          refine gg_if_lt (tgt := 80) C dX8_groupFor_73 (by decide) hf (fun hf => ?_) (fun hf => ?_)
          · exact gg_sub (L' := [some (va_rf l0), none, none, none, none]) (by first | exact ⟨rfl, trivial⟩ | simp [gsub]) (hb_80 _ _ hf)
          · refine gg_iload_n C dX8_groupFor_76 rfl ?_
            refine gg_goto (tgt := 84) C dX8_groupFor_77 (by decide) ?_
            exact gg_sub (L' := [none, none, none, none, none]) (by first | exact trivial | simp [gsub]) (hb_84 _ _ hf)
      · refine gg_aload_n C dX8_groupFor_14 rfl ?_
        refine gg_getR C dX8_groupFor_15 lk_X8_88 hf (fun r4 hf => ?_)
        refine gg_iload_n C dX8_groupFor_18 rfl ?_
        refine gg_aaload (kd := 6) C dX8_groupFor_19 rfl rfl hf (fun r5 hf => ?_)
        refine gg_aload_n C dX8_groupFor_20 rfl ?_
        refine gg_getR C dX8_groupFor_21 lk_X8_91 hf (fun r6 hf => ?_)
        refine gg_iload_n C dX8_groupFor_24 rfl ?_
        refine gg_iald C dX8_groupFor_25 hf (fun i7 hf => ?_)
        refine gg_aload_n C dX8_groupFor_26 rfl ?_
        refine gg_getR C dX8_groupFor_27 lk_X8_100 hf (fun r8 hf => ?_)
        refine gg_aload_n C dX8_groupFor_30 rfl ?_
        refine gg_getI C dX8_groupFor_31 lk_X8_207 hf (fun i9 hf => ?_)
        refine gr_F (k' := 0) (n' := 0) (gk_S (As := [va_rf r5, .int i7, va_rf r8, .int i9]) (rest := []) C dX8_groupFor_34 tw_1757 tw_1758 tw_56 tw_1759 gd_X8_alike rfl ⟨by decide, by decide⟩ (by simp [gcat, gcI, gcL, gcF, gcD]) ⟨by decide, by decide⟩ (m_X8_alike hfl hf)) rfl rfl (fun E g9 h9 => gx_out C (fun x hx => (ht x hx).elim) (by decide) (by decide) h9) (fun x11 g10 hf => ?_)
        refine gg_fstore (L' := [some (va_rf l0), some (.int l1), some (.float l2), some (.int l3), some (.float x11)]) C dX8_groupFor_37 (Or.inr (Or.inr ⟨_, rfl, rfl⟩)) (by decide) rfl ?_
        refine gg_iload_n C dX8_groupFor_39 rfl ?_
        refine gg_iconst C dX8_groupFor_40 (v := (-1 : Int32)) (by decide) ?_
        refine gg_icmp_eq (tgt := 51) C dX8_groupFor_41 (by decide) hf (fun hf => ?_) (fun hf => ?_)
        · exact gg_sub (L' := [some (va_rf l0), none, none, some (.int l3), some (.float x11)]) (by first | exact ⟨rfl, ⟨rfl, ⟨rfl, trivial⟩⟩⟩ | simp [gsub]) (hb_51 _ ih _ _ _ _ hf)
        · refine gg_fload C dX8_groupFor_44 rfl ?_
          refine gg_fload_n C dX8_groupFor_46 rfl ?_
          refine gg_fcmp C dX8_groupFor_47 ?_
          refine gg_if_le (tgt := 56) C dX8_groupFor_48 (by decide) hf (fun hf => ?_) (fun hf => ?_)
          · exact gg_sub (L' := [some (va_rf l0), some (.int l1), some (.float l2), some (.int l3), none]) (by first | exact ⟨rfl, ⟨rfl, ⟨rfl, ⟨rfl, trivial⟩⟩⟩⟩ | simp [gsub]) (hb_56 _ ih _ _ _ _ _ hf)
          · exact gg_sub (L' := [some (va_rf l0), none, none, some (.int l3), some (.float x11)]) (by first | exact ⟨rfl, ⟨rfl, ⟨rfl, trivial⟩⟩⟩ | simp [gsub]) (hb_51 _ ih _ _ _ _ hf)
  unfold w_X8_groupFor at hf
  refine gg_iconst C dX8_groupFor_0 (v := (-1 : Int32)) (by decide) ?_
  refine gg_istore_n (L' := [some (va_rf v0), some (.int (-1 : Int32)), none, none, none]) C dX8_groupFor_1 (Or.inr (Or.inr ⟨_, rfl, gcat _⟩)) (by decide) rfl ?_
  refine gg_fconst0 C dX8_groupFor_2 ?_
  refine gg_fstore_n (L' := [some (va_rf v0), some (.int (-1 : Int32)), some (.float FP.fconst0), none, none]) C dX8_groupFor_3 (Or.inr (Or.inr ⟨_, rfl, rfl⟩)) (by decide) rfl ?_
  refine gg_iconst C dX8_groupFor_4 (v := (0 : Int32)) (by decide) ?_
  refine gg_istore_n (L' := [some (va_rf v0), some (.int (-1 : Int32)), some (.float FP.fconst0), some (.int (0 : Int32)), none]) C dX8_groupFor_5 (Or.inr (Or.inr ⟨_, rfl, rfl⟩)) (by decide) rfl ?_
  exact hb_6 _ _ _ _ _ _ hf
