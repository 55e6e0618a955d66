def w_Jx4a65c_isEmpty_aae02_b12 (X : Cx) (post : Int32 → GM → Prop) (px : String → GM → Prop)  (t0 : Int32) (g : GM) : Prop :=
  (narrow .boolean (.int t0) = .int t0 ∧ post t0 g)
def w_Jx4a65c_isEmpty_aae02 (X : Cx) (post : Int32 → GM → Prop) (px : String → GM → Prop) (v0 : Option Nat) (g : GM) : Prop :=
  wGetI g v0 10 2 (fun (i1 : Int32) => (if i1 = 0 then w_Jx4a65c_isEmpty_aae02_b12 X post px (1 : Int32) g else w_Jx4a65c_isEmpty_aae02_b12 X post px (0 : Int32) g))
abbrev rm_Jx4a65c_isEmpty_aae02 : Room := { frames := 0, cells := 0, slots := 0, locals := 0 }
set_option maxHeartbeats 4000000 in
set_option maxRecDepth 100000 in
theorem m_Jx4a65c_isEmpty_aae02 {X : Cx} {l : Launch} (hfl : l.stackTraces = false) {post : Int32 → GM → Prop} {px : String → GM → Prop} {v0 : Option Nat} {g : GM} (hf : w_Jx4a65c_isEmpty_aae02 X post px v0 g) : gMet X l yJx4a65c_isEmpty_aae02 cJx4a65c_isEmpty_aae02 1 (some .boolean) rm_Jx4a65c_isEmpty_aae02 [va_rf v0] g (qI X post) px := by
  refine gg_enter (L := [some (va_rf v0)]) hfl (by decide +kernel) (by simp [lg_sl, gcat, gcI, gcL, gcF, gcD]) (by simp [gll, lv_args, gcat, gcI, gcL, gcF, gcD]) ?_
  intro p e s m args below meth c C hr ht hm
  have C : FC X p l s m args meth c cJx4a65c_isEmpty_aae02 1 "java/util/ArrayList" := C
  have hb_12 : ∀ (t0 : Int32) (g : GM), w_Jx4a65c_isEmpty_aae02_b12 X post px  t0 g → GG X p l e rm_Jx4a65c_isEmpty_aae02 s m args below meth c 1 (vx_MQ below (qI X post) (gXC X px) args s rm_Jx4a65c_isEmpty_aae02.cells rm_Jx4a65c_isEmpty_aae02.slots (gA X)) 0 0 12 [none] [.int t0] g := by
    intro  t0 g hf
    unfold w_Jx4a65c_isEmpty_aae02_b12 at hf
    exact gg_iret C hr (by decide) (by decide) dJx4a65c_isEmpty_aae02_12 hf.1 hf.2
  unfold w_Jx4a65c_isEmpty_aae02 at hf
  refine gg_aload_n C dJx4a65c_isEmpty_aae02_0 rfl ?_
  refine gg_getI C dJx4a65c_isEmpty_aae02_1 lk_Jx4a65c_48 hf (fun i1 hf => ?_)
  refine gg_if_ne (tgt := 11) C dJx4a65c_isEmpty_aae02_4 (by decide) hf (fun hf => ?_) (fun hf => ?_)
  · refine gg_iconst C dJx4a65c_isEmpty_aae02_11 (v := (0 : Int32)) (by decide) ?_
    exact gg_sub (L' := [none]) (by first | exact trivial | simp [gsub]) (hb_12 _ _ hf)
  · refine gg_iconst C dJx4a65c_isEmpty_aae02_7 (v := (1 : Int32)) (by decide) ?_
    refine gg_goto (tgt := 12) C dJx4a65c_isEmpty_aae02_8 (by decide) ?_
    exact gg_sub (L' := [none]) (by first | exact trivial | simp [gsub]) (hb_12 _ _ hf)

def w_X7_worstGroup_b71 (X : Cx) (post : Int32 → GM → Prop) (px : String → GM → Prop) (k35 : Option Nat → Option Nat → Int32 → GM → Prop) (l0 : Option Nat) (l1 : Option Nat) (l2 : Int32) (g : GM) : Prop :=
  k35 l0 l1 (l2 + 1) g
def w_X7_worstGroup_l35 (X : Cx) (post : Int32 → GM → Prop) (px : String → GM → Prop)  : Nat → Option Nat → Option Nat → Int32 → GM → Prop
  | 0, _, _, _, _ => False
  | f + 1, l0, l1, l2, g => wGetR g l0 7 3 (fun (r7 : Option Nat) => wIs g r7 10 (w_Jx4a65c_size_8abf5 X (fun (i9 : Int32) (g8 : GM) => (if i9 ≤ l2 then wGetI g8 l1 4 0 (fun (i10 : Int32) => post i10 g8) else wGetR g8 l0 7 3 (fun (r11 : Option Nat) => wIs g8 r11 10 (w_Jx4a65c_get_915e3 X (fun (r13 : Option Nat) (g12 : GM) => wIs g12 r13 4 (wGetI g12 r13 4 2 (fun (i14 : Int32) => wGetI g12 l1 4 2 (fun (i15 : Int32) => (if i14 ≤ i15 then w_X7_worstGroup_b71 X post px (w_X7_worstGroup_l35 X post px f) l0 l1 l2 g12 else w_X7_worstGroup_b71 X post px (w_X7_worstGroup_l35 X post px f) l0 r13 l2 g12))))) px r11 l2 g8)))) px r7 g))
def w_X7_worstGroup (X : Cx) (post : Int32 → GM → Prop) (px : String → GM → Prop) (v0 : Option Nat) (g : GM) : Prop :=
  wGetR g v0 7 3 (fun (r1 : Option Nat) => wIs g r1 10 (w_Jx4a65c_isEmpty_aae02 X (fun (i3 : Int32) (g2 : GM) => (if i3 = 0 then wGetR g2 v0 7 3 (fun (r4 : Option Nat) => wIs g2 r4 10 (w_Jx4a65c_get_915e3 X (fun (r6 : Option Nat) (g5 : GM) => wIs g5 r6 4 (w_X7_worstGroup_l35 X post px 3000 v0 r6 (1 : Int32) g5)) px r4 (0 : Int32) g2)) else px "java/lang/IllegalStateException" g2)) px r1 g))
abbrev rm_X7_worstGroup : Room := { frames := 6, cells := 1, slots := 6, locals := 82 }
set_option maxHeartbeats 4000000 in
set_option maxRecDepth 100000 in
theorem m_X7_worstGroup {X : Cx} {l : Launch} (hfl : l.stackTraces = false) {post : Int32 → GM → Prop} {px : String → GM → Prop} {v0 : Option Nat} {g : GM} (hf : w_X7_worstGroup X post px v0 g) : gMet X l yX7_worstGroup cX7_worstGroup 4 (some .int) rm_X7_worstGroup [va_rf v0] g (qI X post) px := by
  refine gg_enter (L := [some (va_rf v0), none, none, none]) hfl (by decide +kernel) (by simp [lg_sl, gcat, gcI, gcL, gcF, gcD]) (by simp [gll, lv_args, gcat, gcI, gcL, gcF, gcD]) ?_
  intro p e s m args below meth c C hr ht hm
  have C : FC X p l s m args meth c cX7_worstGroup 4 "Releasetrain" := C
  have hb_71 : ∀ (k35 : Option Nat → Option Nat → Int32 → GM → Prop), (∀ (l0 : Option Nat) (l1 : Option Nat) (l2 : Int32) (g : GM), k35 l0 l1 l2 g → GG X p l e rm_X7_worstGroup s m args below meth c 4 (vx_MQ below (qI X post) (gXC X px) args s rm_X7_worstGroup.cells rm_X7_worstGroup.slots (gA X)) 0 0 35 [some (va_rf l0), some (va_rf l1), some (.int l2), none] [] g) → ∀ (l0 : Option Nat) (l1 : Option Nat) (l2 : Int32) (g : GM), w_X7_worstGroup_b71 X post px k35 l0 l1 l2 g → GG X p l e rm_X7_worstGroup s m args below meth c 4 (vx_MQ below (qI X post) (gXC X px) args s rm_X7_worstGroup.cells rm_X7_worstGroup.slots (gA X)) 0 0 71 [some (va_rf l0), some (va_rf l1), some (.int l2), none] [] g := by
    intro k35 hk35 l0 l1 l2 g hf
    unfold w_X7_worstGroup_b71 at hf
    refine gg_iinc (L' := [some (va_rf l0), some (va_rf l1), some (.int (l2 + 1)), none]) C dX7_worstGroup_71 rfl (v := (l2 + 1)) rfl (Or.inr (Or.inr ⟨_, rfl, gcat _⟩)) (by decide) rfl ?_
    refine gg_goto (tgt := 35) C dX7_worstGroup_74 (by decide) ?_
    exact hk35 _ _ _ _ hf
  have hb_35 : ∀ (f : Nat) (l0 : Option Nat) (l1 : Option Nat) (l2 : Int32) (g : GM), w_X7_worstGroup_l35 X post px  f l0 l1 l2 g → GG X p l e rm_X7_worstGroup s m args below meth c 4 (vx_MQ below (qI X post) (gXC X px) args s rm_X7_worstGroup.cells rm_X7_worstGroup.slots (gA X)) 0 0 35 [some (va_rf l0), some (va_rf l1), some (.int l2), none] [] g := by
    intro  f
    induction f with
    | zero => intro l0 l1 l2 g hf; exact (show False from hf).elim
    | succ f ih =>
      intro l0 l1 l2 g hf
      rw [w_X7_worstGroup_l35] at hf
      refine gg_iload_n C dX7_worstGroup_35 rfl ?_
      refine gg_aload_n C dX7_worstGroup_36 rfl ?_
      refine gg_getR C dX7_worstGroup_37 lk_X7_22 hf (fun r7 hf => ?_)
      refine gr_I (k' := 0) (n' := 0) (gk_V (ci := 10) (As := []) (rest := [.int l2]) C dX7_worstGroup_40 rfl rfl tw_189 tw_190 tw_191 tw_28 tw_192 gd_Jx4a65c_size_8abf5 rfl ⟨by decide, by decide⟩ (by simp [gcat, gcI, gcL, gcF, gcD]) ⟨by decide, by decide⟩ hf (fun hf => m_Jx4a65c_size_8abf5 hfl hf)) rfl rfl (fun E g9 h9 => gx_out C (fun x hx => (ht x hx).elim) (by decide) (by decide) h9) (fun i9 g8 hf => ?_)
      refine gg_icmp_ge (tgt := 77) C dX7_worstGroup_43 (by decide) hf (fun hf => ?_) (fun hf => ?_)
      · refine gg_aload_n C dX7_worstGroup_77 rfl ?_
        refine gg_getI C dX7_worstGroup_78 lk_X7_273 hf (fun i10 hf => ?_)
        exact gg_iret C hr (by decide) (by decide) dX7_worstGroup_81 rfl hf
      · refine gg_aload_n C dX7_worstGroup_46 rfl ?_
        refine gg_getR C dX7_worstGroup_47 lk_X7_22 hf (fun r11 hf => ?_)
        refine gg_iload_n C dX7_worstGroup_50 rfl ?_
        refine gr_R (k' := 0) (n' := 0) (gk_V (ci := 10) (As := [.int l2]) (rest := []) C dX7_worstGroup_51 rfl rfl tw_288 tw_289 tw_290 tw_28 tw_291 gd_Jx4a65c_get_915e3 rfl ⟨by decide, by decide⟩ (by simp [gcat, gcI, gcL, gcF, gcD]) ⟨by decide, by decide⟩ hf (fun hf => m_Jx4a65c_get_915e3 hfl hf)) rfl rfl (fun E g9 h9 => gx_out C (fun x hx => (ht x hx).elim) (by decide) (by decide) h9) (fun r13 g12 hf => ?_)
        refine gg_ccast (ci := 4) C dX7_worstGroup_54 rfl tw_1072 hf (fun hf => ?_)
        refine gg_astore_n (L' := [some (va_rf l0), some (va_rf l1), some (.int l2), some (va_rf r13)]) C dX7_worstGroup_57 (Or.inr (Or.inr ⟨_, rfl, rfl⟩)) (by decide) rfl ?_
        refine gg_aload_n C dX7_worstGroup_58 rfl ?_
        refine gg_getI C dX7_worstGroup_59 lk_X7_264 hf (fun i14 hf => ?_)
        refine gg_aload_n C dX7_worstGroup_62 rfl ?_
        refine gg_getI C dX7_worstGroup_63 lk_X7_264 hf (fun i15 hf => ?_)
        refine gg_icmp_le (tgt := 71) C dX7_worstGroup_66 (by decide) hf (fun hf => ?_) (fun hf => ?_)
        · exact gg_sub (L' := [some (va_rf l0), some (va_rf l1), some (.int l2), none]) (by first | exact ⟨rfl, ⟨rfl, ⟨rfl, trivial⟩⟩⟩ | simp [gsub]) (hb_71 _ ih _ _ _ _ hf)
        · refine gg_aload_n C dX7_worstGroup_69 rfl ?_
          refine gg_astore_n (L' := [some (va_rf l0), some (va_rf r13), some (.int l2), some (va_rf r13)]) C dX7_worstGroup_70 (Or.inr (Or.inr ⟨_, rfl, gcat _⟩)) (by decide) rfl ?_
          exact gg_sub (L' := [some (va_rf l0), some (va_rf r13), some (.int l2), none]) (by first | exact ⟨rfl, ⟨rfl, ⟨rfl, trivial⟩⟩⟩ | simp [gsub]) (hb_71 _ ih _ _ _ _ hf)
  unfold w_X7_worstGroup at hf
  refine gg_aload_n C dX7_worstGroup_0 rfl ?_
  refine gg_getR C dX7_worstGroup_1 lk_X7_22 hf (fun r1 hf => ?_)
  refine gr_I (k' := 0) (n' := 0) (gk_V (ci := 10) (As := []) (rest := []) C dX7_worstGroup_4 rfl rfl tw_1223 tw_1224 tw_1225 tw_28 tw_1226 gd_Jx4a65c_isEmpty_aae02 rfl ⟨by decide, by decide⟩ (by simp [gcat, gcI, gcL, gcF, gcD]) ⟨by decide, by decide⟩ hf (fun hf => m_Jx4a65c_isEmpty_aae02 hfl hf)) rfl rfl (fun E g9 h9 => gx_out C (fun x hx => (ht x hx).elim) (by decide) (by decide) h9) (fun i3 g2 hf => ?_)
  refine gg_if_eq (tgt := 21) C dX7_worstGroup_7 (by decide) hf (fun hf => ?_) (fun hf => ?_)
  · refine gg_aload_n C dX7_worstGroup_21 rfl ?_
    refine gg_getR C dX7_worstGroup_22 lk_X7_22 hf (fun r4 hf => ?_)
    refine gg_iconst C dX7_worstGroup_25 (v := (0 : Int32)) (by decide) ?_
    refine gr_R (k' := 0) (n' := 0) (gk_V (ci := 10) (As := [.int (0 : Int32)]) (rest := []) C dX7_worstGroup_26 rfl rfl tw_288 tw_289 tw_290 tw_28 tw_291 gd_Jx4a65c_get_915e3 rfl ⟨by decide, by decide⟩ (by simp [gcat, gcI, gcL, gcF, gcD]) ⟨by decide, by decide⟩ hf (fun hf => m_Jx4a65c_get_915e3 hfl hf)) rfl rfl (fun E g9 h9 => gx_out C (fun x hx => (ht x hx).elim) (by decide) (by decide) h9) (fun r6 g5 hf => ?_)
    refine gg_ccast (ci := 4) C dX7_worstGroup_29 rfl tw_1072 hf (fun hf => ?_)
    refine gg_astore_n (L' := [some (va_rf v0), some (va_rf r6), none, none]) C dX7_worstGroup_32 (Or.inr (Or.inr ⟨_, rfl, gcat _⟩)) (by decide) rfl ?_
    refine gg_iconst C dX7_worstGroup_33 (v := (1 : Int32)) (by decide) ?_
    refine gg_istore_n (L' := [some (va_rf v0), some (va_rf r6), some (.int (1 : Int32)), none]) C dX7_worstGroup_34 (Or.inr (Or.inr ⟨_, rfl, gcat _⟩)) (by decide) rfl ?_
    exact hb_35 _ _ _ _ _ hf
  · exact gg_throwW (cls := "java/lang/IllegalStateException") (names := ["java/lang/RuntimeException", "java/lang/Exception"]) C (by decide +kernel) (by decide +kernel) tw_327 tw_40 xk_X7_82 (show ("Releasetrain", 303, "there is no group", 33) ∈ gStr by decide +kernel) dX7_worstGroup_10 dX7_worstGroup_13 dX7_worstGroup_14 dX7_worstGroup_17 dX7_worstGroup_20 (fun x hx => (ht x hx).elim) (by decide) (by simp [gcat, gcI, gcL, gcF, gcD]) (by decide) (by decide) (by decide) (by decide) hf

def w_X7_buildsIn (X : Cx) (post : Int32 → GM → Prop) (px : String → GM → Prop) (v0 : Option Nat) (v1 : Int32) (g : GM) : Prop :=
  wIs g v0 7 (w_X7_knownGroup X (fun (r2 : Option Nat) (g1 : GM) => wGetI g1 r2 4 3 (fun (i3 : Int32) => post i3 g1)) px v0 v1 g)
abbrev rm_X7_buildsIn : Room := { frames := 7, cells := 1, slots := 6, locals := 103 }
set_option maxHeartbeats 4000000 in
set_option maxRecDepth 100000 in
theorem m_X7_buildsIn {X : Cx} {l : Launch} (hfl : l.stackTraces = false) {post : Int32 → GM → Prop} {px : String → GM → Prop} {v0 : Option Nat} {v1 : Int32} {g : GM} (hf : w_X7_buildsIn X post px v0 v1 g) : gMet X l yX7_buildsIn cX7_buildsIn 2 (some .int) rm_X7_buildsIn [va_rf v0, .int v1] g (qI X post) px := by
  refine gg_enter (L := [some (va_rf v0), some (.int v1)]) hfl (by decide +kernel) (by simp [lg_sl, gcat, gcI, gcL, gcF, gcD]) (by simp [gll, lv_args, gcat, gcI, gcL, gcF, gcD]) ?_
  intro p e s m args below meth c C hr ht hm
  have C : FC X p l s m args meth c cX7_buildsIn 2 "Releasetrain" := C
  unfold w_X7_buildsIn at hf
  refine gg_aload_n C dX7_buildsIn_0 rfl ?_
  refine gg_iload_n C dX7_buildsIn_1 rfl ?_
  refine gr_R (k' := 1) (n' := 6) (gk_V (ci := 7) (As := [.int v1]) (rest := []) C dX7_buildsIn_2 rfl rfl tw_1265 tw_1267 tw_22 tw_25 tw_1268 gd_X7_knownGroup rfl ⟨by decide, by decide⟩ (by simp [gcat, gcI, gcL, gcF, gcD]) ⟨by decide, by decide⟩ hf (fun hf => m_X7_knownGroup hfl hf)) rfl rfl (fun E g9 h9 => gx_out C (fun x hx => (ht x hx).elim) (by decide) (by decide) h9) (fun r2 g1 hf => ?_)
  refine gg_getI C dX7_buildsIn_5 lk_X7_269 hf (fun i3 hf => ?_)
  exact gg_iret C hr (by decide) (by decide) dX7_buildsIn_8 rfl hf

def w_X7_setRate (X : Cx) (post : Int32 → GM → Prop) (px : String → GM → Prop) (v0 : Option Nat) (v1 : Int32) (g : GM) : Prop :=
  w_X7_outside X (fun (i2 : Int32) (g1 : GM) => (if i2 = 0 then wGetF g1 v0 7 11 (fun (x3 : UInt32) => w_X7_floatBits X (fun (i5 : Int32) (g4 : GM) => vf_n32 (FP.fdiv (FP.i2f v1) (1148846080 : UInt32)) ∧ wPut g4 v0 7 11 (.float (FP.fdiv (FP.i2f v1) (1148846080 : UInt32))) (fun g6 => post i5 g6)) px x3 g1) else px "java/lang/IllegalArgumentException" g1)) px v1 (0 : Int32) (9999 : Int32) g
abbrev rm_X7_setRate : Room := { frames := 6, cells := 1, slots := 6, locals := 82 }
set_option maxHeartbeats 4000000 in
set_option maxRecDepth 100000 in
theorem m_X7_setRate {X : Cx} {l : Launch} (hfl : l.stackTraces = false) {post : Int32 → GM → Prop} {px : String → GM → Prop} {v0 : Option Nat} {v1 : Int32} {g : GM} (hf : w_X7_setRate X post px v0 v1 g) : gMet X l yX7_setRate cX7_setRate 3 (some .int) rm_X7_setRate [va_rf v0, .int v1] g (qI X post) px := by
  refine gg_enter (L := [some (va_rf v0), some (.int v1), none]) hfl (by decide +kernel) (by simp [lg_sl, gcat, gcI, gcL, gcF, gcD]) (by simp [gll, lv_args, gcat, gcI, gcL, gcF, gcD]) ?_
  intro p e s m args below meth c C hr ht hm
  have C : FC X p l s m args meth c cX7_setRate 3 "Releasetrain" := C
  unfold w_X7_setRate at hf
  refine gg_iload_n C dX7_setRate_0 rfl ?_
  refine gg_iconst C dX7_setRate_1 (v := (0 : Int32)) (by decide) ?_
  refine gg_sipush C dX7_setRate_2 (v := (9999 : Int32)) (by decide) ?_
  refine gr_I (k' := 0) (n' := 0) (gk_S (As := [.int v1, .int (0 : Int32), .int (9999 : Int32)]) (rest := []) C dX7_setRate_5 tw_213 tw_214 tw_25 tw_215 gd_X7_outside rfl ⟨by decide, by decide⟩ (by simp [gcat, gcI, gcL, gcF, gcD]) ⟨by decide, by decide⟩ (m_X7_outside hfl hf)) rfl rfl (fun E g9 h9 => gx_out C (fun x hx => (ht x hx).elim) (by decide) (by decide) h9) (fun i2 g1 hf => ?_)
  refine gg_if_eq (tgt := 21) C dX7_setRate_8 (by decide) hf (fun hf => ?_) (fun hf => ?_)
  · refine gg_aload_n C dX7_setRate_21 rfl ?_
    refine gg_getF C dX7_setRate_22 lk_X7_57 hf (fun x3 hf => ?_)
    refine gr_I (k' := 0) (n' := 0) (gk_S (As := [.float x3]) (rest := []) C dX7_setRate_25 tw_1172 tw_1173 tw_25 tw_1174 gd_X7_floatBits rfl ⟨by decide, by decide⟩ (by simp [gcat, gcI, gcL, gcF, gcD]) ⟨by decide, by decide⟩ (m_X7_floatBits hfl hf)) rfl rfl (fun E g9 h9 => gx_out C (fun x hx => (ht x hx).elim) (by decide) (by decide) h9) (fun i5 g4 hf => ?_)
    refine gg_istore_n (L' := [some (va_rf v0), some (.int v1), some (.int i5)]) C dX7_setRate_28 (Or.inr (Or.inr ⟨_, rfl, rfl⟩)) (by decide) rfl ?_
    refine gg_aload_n C dX7_setRate_29 rfl ?_
    refine gg_iload_n C dX7_setRate_30 rfl ?_
    refine gg_i2f C dX7_setRate_31 ?_
    refine gg_ldcfw C dX7_setRate_32 (v := (1148846080 : UInt32)) tw_1182 ?_
    refine gg_fdiv C dX7_setRate_35 hf.1 ?_
    replace hf := hf.2
    refine gg_put C dX7_setRate_36 pk_X7_57 (gNar_float _) hf (fun g6 hf => ?_)
    refine gg_iload_n C dX7_setRate_39 rfl ?_
    exact gg_iret C hr (by decide) (by decide) dX7_setRate_40 rfl hf
  · exact gg_throw (cls := "java/lang/IllegalArgumentException") (names := ["java/lang/RuntimeException", "java/lang/Exception"]) C (by decide +kernel) (by decide +kernel) tw_307 tw_50 xk_X7_71 (show ("Releasetrain", 157, "the number is out of range", 25) ∈ gStr by decide +kernel) dX7_setRate_11 dX7_setRate_14 dX7_setRate_15 dX7_setRate_17 dX7_setRate_20 (fun x hx => (ht x hx).elim) (by decide) (by simp [gcat, gcI, gcL, gcF, gcD]) (by decide) (by decide) (by decide) (by decide) hf

def w_X7_crashRate (X : Cx) (post : UInt32 → GM → Prop) (px : String → GM → Prop) (v0 : Option Nat) (v1 : Int32) (g : GM) : Prop :=
  wIs g v0 7 (w_X7_knownBuild X (fun (r2 : Option Nat) (g1 : GM) => wIs g1 r2 1 (w_X1_crashesPerInstall X (fun (x4 : UInt32) (g3 : GM) => post x4 g3) px r2 g1)) px v0 v1 g)
abbrev rm_X7_crashRate : Room := { frames := 7, cells := 1, slots := 6, locals := 103 }
set_option maxHeartbeats 4000000 in
set_option maxRecDepth 100000 in
theorem m_X7_crashRate {X : Cx} {l : Launch} (hfl : l.stackTraces = false) {post : UInt32 → GM → Prop} {px : String → GM → Prop} {v0 : Option Nat} {v1 : Int32} {g : GM} (hf : w_X7_crashRate X post px v0 v1 g) : gMet X l yX7_crashRate cX7_crashRate 2 (some .float) rm_X7_crashRate [va_rf v0, .int v1] g (qF X post) px := by
  refine gg_enter (L := [some (va_rf v0), some (.int v1)]) hfl (by decide +kernel) (by simp [lg_sl, gcat, gcI, gcL, gcF, gcD]) (by simp [gll, lv_args, gcat, gcI, gcL, gcF, gcD]) ?_
  intro p e s m args below meth c C hr ht hm
  have C : FC X p l s m args meth c cX7_crashRate 2 "Releasetrain" := C
  unfold w_X7_crashRate at hf
  refine gg_aload_n C dX7_crashRate_0 rfl ?_
  refine gg_iload_n C dX7_crashRate_1 rfl ?_
  refine gr_R (k' := 1) (n' := 6) (gk_V (ci := 7) (As := [.int v1]) (rest := []) C dX7_crashRate_2 rfl rfl tw_209 tw_211 tw_0 tw_25 tw_212 gd_X7_knownBuild rfl ⟨by decide, by decide⟩ (by simp [gcat, gcI, gcL, gcF, gcD]) ⟨by decide, by decide⟩ hf (fun hf => m_X7_knownBuild hfl hf)) rfl rfl (fun E g9 h9 => gx_out C (fun x hx => (ht x hx).elim) (by decide) (by decide) h9) (fun r2 g1 hf => ?_)
  refine gr_F (k' := 1) (n' := 6) (gk_V (ci := 1) (As := []) (rest := []) C dX7_crashRate_5 rfl rfl tw_648 tw_649 tw_650 tw_59 tw_651 gd_X1_crashesPerInstall rfl ⟨by decide, by decide⟩ (by simp [gcat, gcI, gcL, gcF, gcD]) ⟨by decide, by decide⟩ hf (fun hf => m_X1_crashesPerInstall hfl hf)) rfl rfl (fun E g9 h9 => gx_out C (fun x hx => (ht x hx).elim) (by decide) (by decide) h9) (fun x4 g3 hf => ?_)
  exact gg_fret C hr (by decide) (by decide) dX7_crashRate_8 hf

def w_X7_rate_b73 (X : Cx) (post : Int32 → GM → Prop) (px : String → GM → Prop)  (l5 : Int32) (g : GM) : Prop :=
  post l5 g
def w_X7_rate (X : Cx) (post : Int32 → GM → Prop) (px : String → GM → Prop) (v0 : Option Nat) (v1 : Int32) (v2 : Int32) (g : GM) : Prop :=
  wIs g v0 7 (w_X7_knownDevice X (fun (r2 : Option Nat) (g1 : GM) => w_X7_outside X (fun (i4 : Int32) (g3 : GM) => (if i4 = 0 then w_X7_buildHadBy X (fun (r6 : Option Nat) (g5 : GM) => wGetI g5 r2 2 4 (fun (i7 : Int32) => wPut g5 r2 2 4 (.int v2) (fun g8 => wGetI g8 r6 1 15 (fun (i9 : Int32) => wPut g8 r6 1 15 (.int (i9 + (v2 - i7))) (fun g10 => (if i7 = 0 then wGetI g10 r6 1 14 (fun (i11 : Int32) => wPut g10 r6 1 14 (.int (i11 + (1 : Int32))) (fun g12 => w_X7_rate_b73 X post px i7 g12)) else w_X7_rate_b73 X post px i7 g10)))))) px r2 g3 else px "java/lang/IllegalArgumentException" g3)) px v2 (1 : Int32) (5 : Int32) g1) px v0 v1 g)
abbrev rm_X7_rate : Room := { frames := 7, cells := 2, slots := 12, locals := 103 }
set_option maxHeartbeats 4000000 in
set_option maxRecDepth 100000 in
theorem m_X7_rate {X : Cx} {l : Launch} (hfl : l.stackTraces = false) {post : Int32 → GM → Prop} {px : String → GM → Prop} {v0 : Option Nat} {v1 : Int32} {v2 : Int32} {g : GM} (hf : w_X7_rate X post px v0 v1 v2 g) : gMet X l yX7_rate cX7_rate 6 (some .int) rm_X7_rate [va_rf v0, .int v1, .int v2] g (qI X post) px := by
  refine gg_enter (L := [some (va_rf v0), some (.int v1), some (.int v2), none, none, none]) hfl (by decide +kernel) (by simp [lg_sl, gcat, gcI, gcL, gcF, gcD]) (by simp [gll, lv_args, gcat, gcI, gcL, gcF, gcD]) ?_
  intro p e s m args below meth c C hr ht hm
  have C : FC X p l s m args meth c cX7_rate 6 "Releasetrain" := C
  have hb_73 : ∀ (l5 : Int32) (g : GM), w_X7_rate_b73 X post px  l5 g → GG X p l e rm_X7_rate s m args below meth c 6 (vx_MQ below (qI X post) (gXC X px) args s rm_X7_rate.cells rm_X7_rate.slots (gA X)) 2 12 73 [none, none, none, none, none, some (.int l5)] [] g := by
    intro  l5 g hf
    unfold w_X7_rate_b73 at hf
    refine gg_iload C dX7_rate_73 rfl ?_
    exact gg_iret C hr (by decide) (by decide) dX7_rate_75 rfl hf
  unfold w_X7_rate at hf
  refine gg_aload_n C dX7_rate_0 rfl ?_
  refine gg_iload_n C dX7_rate_1 rfl ?_
  refine gr_R (k' := 1) (n' := 6) (gk_V (ci := 7) (As := [.int v1]) (rest := []) C dX7_rate_2 rfl rfl tw_1015 tw_1017 tw_16 tw_25 tw_1018 gd_X7_knownDevice rfl ⟨by decide, by decide⟩ (by simp [gcat, gcI, gcL, gcF, gcD]) ⟨by decide, by decide⟩ hf (fun hf => m_X7_knownDevice hfl hf)) rfl rfl (fun E g9 h9 => gx_out C (fun x hx => (ht x hx).elim) (by decide) (by decide) h9) (fun r2 g1 hf => ?_)
  refine gg_astore_n (L' := [some (va_rf v0), some (.int v1), some (.int v2), some (va_rf r2), none, none]) C dX7_rate_5 (Or.inr (Or.inr ⟨_, rfl, rfl⟩)) (by decide) rfl ?_
  refine gg_iload_n C dX7_rate_6 rfl ?_
  refine gg_iconst C dX7_rate_7 (v := (1 : Int32)) (by decide) ?_
  refine gg_iconst C dX7_rate_8 (v := (5 : Int32)) (by decide) ?_
  refine gr_I (k' := 1) (n' := 6) (gk_S (As := [.int v2, .int (1 : Int32), .int (5 : Int32)]) (rest := []) C dX7_rate_9 tw_213 tw_214 tw_25 tw_215 gd_X7_outside rfl ⟨by decide, by decide⟩ (by simp [gcat, gcI, gcL, gcF, gcD]) ⟨by decide, by decide⟩ (m_X7_outside hfl hf)) rfl rfl (fun E g9 h9 => gx_out C (fun x hx => (ht x hx).elim) (by decide) (by decide) h9) (fun i4 g3 hf => ?_)
  refine gg_if_eq (tgt := 26) C dX7_rate_12 (by decide) hf (fun hf => ?_) (fun hf => ?_)
  · refine gg_aload_n C dX7_rate_26 rfl ?_
    refine gr_R (k' := 2) (n' := 12) (gk_S (As := [va_rf r2]) (rest := []) C dX7_rate_27 tw_1042 tw_1043 tw_25 tw_1044 gd_X7_buildHadBy rfl ⟨by decide, by decide⟩ (by simp [gcat, gcI, gcL, gcF, gcD]) ⟨by decide, by decide⟩ (m_X7_buildHadBy hfl hf)) rfl rfl (fun E g9 h9 => gx_out C (fun x hx => (ht x hx).elim) (by decide) (by decide) h9) (fun r6 g5 hf => ?_)
    refine gg_astore (L' := [some (va_rf v0), some (.int v1), some (.int v2), some (va_rf r2), some (va_rf r6), none]) C dX7_rate_30 (Or.inr (Or.inr ⟨_, rfl, gcat _⟩)) (by decide) rfl ?_
    refine gg_aload_n C dX7_rate_32 rfl ?_
    refine gg_getI C dX7_rate_33 lk_X7_234 hf (fun i7 hf => ?_)
    refine gg_istore (L' := [some (va_rf v0), some (.int v1), some (.int v2), some (va_rf r2), some (va_rf r6), some (.int i7)]) C dX7_rate_36 (Or.inr (Or.inr ⟨_, rfl, gcat _⟩)) (by decide) rfl ?_
    refine gg_aload_n C dX7_rate_38 rfl ?_
    refine gg_iload_n C dX7_rate_39 rfl ?_
    refine gg_put C dX7_rate_40 pk_X7_234 (gNar_int _) hf (fun g8 hf => ?_)
    refine gg_aload C dX7_rate_43 rfl ?_
    refine gg_dup C dX7_rate_45 (gcat _) ?_
    refine gg_getI C dX7_rate_46 lk_X7_311 hf (fun i9 hf => ?_)
    refine gg_iload_n C dX7_rate_49 rfl ?_
    refine gg_iload C dX7_rate_50 rfl ?_
    refine gg_isub C dX7_rate_52 ?_
    refine gg_iadd C dX7_rate_53 ?_
    refine gg_put C dX7_rate_54 pk_X7_311 (gNar_int _) hf (fun g10 hf => ?_)
    refine gg_iload C dX7_rate_57 rfl ?_
    refine gg_if_ne (tgt := 73) C dX7_rate_59 (by decide) hf (fun hf => ?_) (fun hf => ?_)
    · exact gg_sub (L' := [none, none, none, none, none, some (.int i7)]) (by first | exact ⟨rfl, trivial⟩ | simp [gsub]) (hb_73 _ _ hf)
    · refine gg_aload C dX7_rate_62 rfl ?_
      refine gg_dup C dX7_rate_64 (gcat _) ?_
      refine gg_getI C dX7_rate_65 lk_X7_314 hf (fun i11 hf => ?_)
      refine gg_iconst C dX7_rate_68 (v := (1 : Int32)) (by decide) ?_
      refine gg_iadd C dX7_rate_69 ?_
      refine gg_put C dX7_rate_70 pk_X7_314 (gNar_int _) hf (fun g12 hf => ?_)
      exact gg_sub (L' := [none, none, none, none, none, some (.int i7)]) (by first | exact ⟨rfl, trivial⟩ | simp [gsub]) (hb_73 _ _ hf)
  · exact gg_throwW (cls := "java/lang/IllegalArgumentException") (names := ["java/lang/RuntimeException", "java/lang/Exception"]) C (by decide +kernel) (by decide +kernel) tw_307 tw_50 xk_X7_71 (show ("Releasetrain", 309, "the stars are out of range", 34) ∈ gStr by decide +kernel) dX7_rate_15 dX7_rate_18 dX7_rate_19 dX7_rate_22 dX7_rate_25 (fun x hx => (ht x hx).elim) (by decide) (by simp [gcat, gcI, gcL, gcF, gcD]) (by decide) (by decide) (by decide) (by decide) hf

def w_X7_ratedBuild (X : Cx) (post : Option Nat → GM → Prop) (px : String → GM → Prop) (v0 : Option Nat) (v1 : Int32) (g : GM) : Prop :=
  wIs g v0 7 (w_X7_knownBuild X (fun (r2 : Option Nat) (g1 : GM) => wGetI g1 r2 1 14 (fun (i3 : Int32) => (if i3 = 0 then px "java/lang/ArithmeticException" g1 else post r2 g1))) px v0 v1 g)
abbrev rm_X7_ratedBuild : Room := { frames := 7, cells := 2, slots := 12, locals := 103 }
set_option maxHeartbeats 4000000 in
set_option maxRecDepth 100000 in
theorem m_X7_ratedBuild {X : Cx} {l : Launch} (hfl : l.stackTraces = false) {post : Option Nat → GM → Prop} {px : String → GM → Prop} {v0 : Option Nat} {v1 : Int32} {g : GM} (hf : w_X7_ratedBuild X post px v0 v1 g) : gMet X l yX7_ratedBuild cX7_ratedBuild 3 (some (.object "Releasetrain$Build")) rm_X7_ratedBuild [va_rf v0, .int v1] g (qR X post) px := by
  refine gg_enter (L := [some (va_rf v0), some (.int v1), none]) hfl (by decide +kernel) (by simp [lg_sl, gcat, gcI, gcL, gcF, gcD]) (by simp [gll, lv_args, gcat, gcI, gcL, gcF, gcD]) ?_
  intro p e s m args below meth c C hr ht hm
  have C : FC X p l s m args meth c cX7_ratedBuild 3 "Releasetrain" := C
  unfold w_X7_ratedBuild at hf
  refine gg_aload_n C dX7_ratedBuild_0 rfl ?_
  refine gg_iload_n C dX7_ratedBuild_1 rfl ?_
  refine gr_R (k' := 1) (n' := 6) (gk_V (ci := 7) (As := [.int v1]) (rest := []) C dX7_ratedBuild_2 rfl rfl tw_209 tw_211 tw_0 tw_25 tw_212 gd_X7_knownBuild rfl ⟨by decide, by decide⟩ (by simp [gcat, gcI, gcL, gcF, gcD]) ⟨by decide, by decide⟩ hf (fun hf => m_X7_knownBuild hfl hf)) rfl rfl (fun E g9 h9 => gx_out C (fun x hx => (ht x hx).elim) (by decide) (by decide) h9) (fun r2 g1 hf => ?_)
  refine gg_astore_n (L' := [some (va_rf v0), some (.int v1), some (va_rf r2)]) C dX7_ratedBuild_5 (Or.inr (Or.inr ⟨_, rfl, rfl⟩)) (by decide) rfl ?_
  refine gg_aload_n C dX7_ratedBuild_6 rfl ?_
  refine gg_getI C dX7_ratedBuild_7 lk_X7_314 hf (fun i3 hf => ?_)
  refine gg_if_ne (tgt := 24) C dX7_ratedBuild_10 (by decide) hf (fun hf => ?_) (fun hf => ?_)
  · refine gg_aload_n C dX7_ratedBuild_24 rfl ?_
    exact gg_aret C hr (Or.inl ⟨_, rfl⟩) (by decide) (by decide) dX7_ratedBuild_25 hf
  · exact gg_throwW (cls := "java/lang/ArithmeticException") (names := ["java/lang/RuntimeException", "java/lang/Exception"]) C (by decide +kernel) (by decide +kernel) tw_1316 tw_53 xk_X7_357 (show ("Releasetrain", 401, "it has no ratings", 42) ∈ gStr by decide +kernel) dX7_ratedBuild_13 dX7_ratedBuild_16 dX7_ratedBuild_17 dX7_ratedBuild_20 dX7_ratedBuild_23 (fun x hx => (ht x hx).elim) (by decide) (by simp [gcat, gcI, gcL, gcF, gcD]) (by decide) (by decide) (by decide) (by decide) hf

def w_X7_rating (X : Cx) (post : UInt64 → GM → Prop) (px : String → GM → Prop) (v0 : Option Nat) (v1 : Int32) (g : GM) : Prop :=
  wIs g v0 7 (w_X7_ratedBuild X (fun (r2 : Option Nat) (g1 : GM) => wIs g1 r2 1 (w_X1_meanStars X (fun (z4 : UInt64) (g3 : GM) => post z4 g3) px r2 g1)) px v0 v1 g)
abbrev rm_X7_rating : Room := { frames := 8, cells := 2, slots := 12, locals := 125 }
set_option maxHeartbeats 4000000 in
set_option maxRecDepth 100000 in
theorem m_X7_rating {X : Cx} {l : Launch} (hfl : l.stackTraces = false) {post : UInt64 → GM → Prop} {px : String → GM → Prop} {v0 : Option Nat} {v1 : Int32} {g : GM} (hf : w_X7_rating X post px v0 v1 g) : gMet X l yX7_rating cX7_rating 2 (some .double) rm_X7_rating [va_rf v0, .int v1] g (qD X post) px := by
  refine gg_enter (L := [some (va_rf v0), some (.int v1)]) hfl (by decide +kernel) (by simp [lg_sl, gcat, gcI, gcL, gcF, gcD]) (by simp [gll, lv_args, gcat, gcI, gcL, gcF, gcD]) ?_
  intro p e s m args below meth c C hr ht hm
  have C : FC X p l s m args meth c cX7_rating 2 "Releasetrain" := C
  unfold w_X7_rating at hf
  refine gg_aload_n C dX7_rating_0 rfl ?_
  refine gg_iload_n C dX7_rating_1 rfl ?_
  refine gr_R (k' := 2) (n' := 12) (gk_V (ci := 7) (As := [.int v1]) (rest := []) C dX7_rating_2 rfl rfl tw_1312 tw_1314 tw_23 tw_25 tw_1315 gd_X7_ratedBuild rfl ⟨by decide, by decide⟩ (by simp [gcat, gcI, gcL, gcF, gcD]) ⟨by decide, by decide⟩ hf (fun hf => m_X7_ratedBuild hfl hf)) rfl rfl (fun E g9 h9 => gx_out C (fun x hx => (ht x hx).elim) (by decide) (by decide) h9) (fun r2 g1 hf => ?_)
  refine gr_D (k' := 2) (n' := 12) (gk_V (ci := 1) (As := []) (rest := []) C dX7_rating_5 rfl rfl tw_652 tw_653 tw_654 tw_59 tw_655 gd_X1_meanStars rfl ⟨by decide, by decide⟩ (by simp [gcat, gcI, gcL, gcF, gcD]) ⟨by decide, by decide⟩ hf (fun hf => m_X1_meanStars hfl hf)) rfl rfl (fun E g9 h9 => gx_out C (fun x hx => (ht x hx).elim) (by decide) (by decide) h9) (fun z4 g3 hf => ?_)
  exact gg_dret C hr (by decide) (by decide) dX7_rating_8 hf

def w_X7_ratingBits (X : Cx) (post : Int64 → GM → Prop) (px : String → GM → Prop) (v0 : Option Nat) (v1 : Int32) (g : GM) : Prop :=
  wIs g v0 7 (w_X7_ratedBuild X (fun (r2 : Option Nat) (g1 : GM) => wIs g1 r2 1 (w_X1_meanStars X (fun (z4 : UInt64) (g3 : GM) => w_X7_doubleBits X (fun (y6 : Int64) (g5 : GM) => post y6 g5) px z4 g3) px r2 g1)) px v0 v1 g)
abbrev rm_X7_ratingBits : Room := { frames := 8, cells := 2, slots := 12, locals := 125 }
set_option maxHeartbeats 4000000 in
set_option maxRecDepth 100000 in
theorem m_X7_ratingBits {X : Cx} {l : Launch} (hfl : l.stackTraces = false) {post : Int64 → GM → Prop} {px : String → GM → Prop} {v0 : Option Nat} {v1 : Int32} {g : GM} (hf : w_X7_ratingBits X post px v0 v1 g) : gMet X l yX7_ratingBits cX7_ratingBits 2 (some .long) rm_X7_ratingBits [va_rf v0, .int v1] g (qL X post) px := by
  refine gg_enter (L := [some (va_rf v0), some (.int v1)]) hfl (by decide +kernel) (by simp [lg_sl, gcat, gcI, gcL, gcF, gcD]) (by simp [gll, lv_args, gcat, gcI, gcL, gcF, gcD]) ?_
  intro p e s m args below meth c C hr ht hm
  have C : FC X p l s m args meth c cX7_ratingBits 2 "Releasetrain" := C
  unfold w_X7_ratingBits at hf
  refine gg_aload_n C dX7_ratingBits_0 rfl ?_
  refine gg_iload_n C dX7_ratingBits_1 rfl ?_
  refine gr_R (k' := 2) (n' := 12) (gk_V (ci := 7) (As := [.int v1]) (rest := []) C dX7_ratingBits_2 rfl rfl tw_1312 tw_1314 tw_23 tw_25 tw_1315 gd_X7_ratedBuild rfl ⟨by decide, by decide⟩ (by simp [gcat, gcI, gcL, gcF, gcD]) ⟨by decide, by decide⟩ hf (fun hf => m_X7_ratedBuild hfl hf)) rfl rfl (fun E g9 h9 => gx_out C (fun x hx => (ht x hx).elim) (by decide) (by decide) h9) (fun r2 g1 hf => ?_)
  refine gr_D (k' := 2) (n' := 12) (gk_V (ci := 1) (As := []) (rest := []) C dX7_ratingBits_5 rfl rfl tw_652 tw_653 tw_654 tw_59 tw_655 gd_X1_meanStars rfl ⟨by decide, by decide⟩ (by simp [gcat, gcI, gcL, gcF, gcD]) ⟨by decide, by decide⟩ hf (fun hf => m_X1_meanStars hfl hf)) rfl rfl (fun E g9 h9 => gx_out C (fun x hx => (ht x hx).elim) (by decide) (by decide) h9) (fun z4 g3 hf => ?_)
  refine gr_L (k' := 2) (n' := 12) (gk_S (As := [.double z4]) (rest := []) C dX7_ratingBits_8 tw_1175 tw_1176 tw_25 tw_1177 gd_X7_doubleBits rfl ⟨by decide, by decide⟩ (by simp [gcat, gcI, gcL, gcF, gcD]) ⟨by decide, by decide⟩ (m_X7_doubleBits hfl hf)) rfl rfl (fun E g9 h9 => gx_out C (fun x hx => (ht x hx).elim) (by decide) (by decide) h9) (fun y6 g5 hf => ?_)
  exact gg_lret C hr (by decide) (by decide) dX7_ratingBits_11 hf

def w_X7_refuseUnknownItem (X : Cx) (post : GM → Prop) (px : String → GM → Prop) (v0 : Int32) (g : GM) : Prop :=
  w_X7_outside X (fun (i2 : Int32) (g1 : GM) => (if i2 = 0 then post g1 else px "java/lang/IllegalArgumentException" g1)) px v0 (0 : Int32) (7 : Int32) g
abbrev rm_X7_refuseUnknownItem : Room := { frames := 6, cells := 1, slots := 6, locals := 82 }
set_option maxHeartbeats 4000000 in
set_option maxRecDepth 100000 in
theorem m_X7_refuseUnknownItem {X : Cx} {l : Launch} (hfl : l.stackTraces = false) {post : GM → Prop} {px : String → GM → Prop} {v0 : Int32} {g : GM} (hf : w_X7_refuseUnknownItem X post px v0 g) : gMet X l yX7_refuseUnknownItem cX7_refuseUnknownItem 1 none rm_X7_refuseUnknownItem [.int v0] g (qV X post) px := by
  refine gg_enter (L := [some (.int v0)]) hfl (by decide +kernel) (by simp [lg_sl, gcat, gcI, gcL, gcF, gcD]) (by simp [gll, lv_args, gcat, gcI, gcL, gcF, gcD]) ?_
  intro p e s m args below meth c C hr ht hm
  have C : FC X p l s m args meth c cX7_refuseUnknownItem 1 "Releasetrain" := C
  unfold w_X7_refuseUnknownItem at hf
  refine gg_iload_n C dX7_refuseUnknownItem_0 rfl ?_
  refine gg_iconst C dX7_refuseUnknownItem_1 (v := (0 : Int32)) (by decide) ?_
  refine gg_bipush C dX7_refuseUnknownItem_2 (v := (7 : Int32)) (by decide) ?_
  refine gr_I (k' := 0) (n' := 0) (gk_S (As := [.int v0, .int (0 : Int32), .int (7 : Int32)]) (rest := []) C dX7_refuseUnknownItem_4 tw_213 tw_214 tw_25 tw_215 gd_X7_outside rfl ⟨by decide, by decide⟩ (by simp [gcat, gcI, gcL, gcF, gcD]) ⟨by decide, by decide⟩ (m_X7_outside hfl hf)) rfl rfl (fun E g9 h9 => gx_out C (fun x hx => (ht x hx).elim) (by decide) (by decide) h9) (fun i2 g1 hf => ?_)
  refine gg_if_eq (tgt := 21) C dX7_refuseUnknownItem_7 (by decide) hf (fun hf => ?_) (fun hf => ?_)
  · exact gg_vret C hr (by decide) (by decide) dX7_refuseUnknownItem_21 hf
  · exact gg_throwW (cls := "java/lang/IllegalArgumentException") (names := ["java/lang/RuntimeException", "java/lang/Exception"]) C (by decide +kernel) (by decide +kernel) tw_307 tw_50 xk_X7_71 (show ("Releasetrain", 405, "there is no such item", 44) ∈ gStr by decide +kernel) dX7_refuseUnknownItem_10 dX7_refuseUnknownItem_13 dX7_refuseUnknownItem_14 dX7_refuseUnknownItem_17 dX7_refuseUnknownItem_20 (fun x hx => (ht x hx).elim) (by decide) (by simp [gcat, gcI, gcL, gcF, gcD]) (by decide) (by decide) (by decide) (by decide) hf

def w_J6_bitCount_0f7a4 (X : Cx) (post : Int32 → GM → Prop) (px : String → GM → Prop) (v0 : Int32) (g : GM) : Prop :=
  post ((((((((v0 - (((v0).toUInt32 >>> (((1 : Int32)).toUInt32 &&& Int32.toUInt32 31)).toInt32 &&& (1431655765 : Int32))) &&& (858993459 : Int32)) + ((((v0 - (((v0).toUInt32 >>> (((1 : Int32)).toUInt32 &&& Int32.toUInt32 31)).toInt32 &&& (1431655765 : Int32)))).toUInt32 >>> (((2 : Int32)).toUInt32 &&& Int32.toUInt32 31)).toInt32 &&& (858993459 : Int32))) + (((((v0 - (((v0).toUInt32 >>> (((1 : Int32)).toUInt32 &&& Int32.toUInt32 31)).toInt32 &&& (1431655765 : Int32))) &&& (858993459 : Int32)) + ((((v0 - (((v0).toUInt32 >>> (((1 : Int32)).toUInt32 &&& Int32.toUInt32 31)).toInt32 &&& (1431655765 : Int32)))).toUInt32 >>> (((2 : Int32)).toUInt32 &&& Int32.toUInt32 31)).toInt32 &&& (858993459 : Int32)))).toUInt32 >>> (((4 : Int32)).toUInt32 &&& Int32.toUInt32 31)).toInt32) &&& (252645135 : Int32)) + (((((((v0 - (((v0).toUInt32 >>> (((1 : Int32)).toUInt32 &&& Int32.toUInt32 31)).toInt32 &&& (1431655765 : Int32))) &&& (858993459 : Int32)) + ((((v0 - (((v0).toUInt32 >>> (((1 : Int32)).toUInt32 &&& Int32.toUInt32 31)).toInt32 &&& (1431655765 : Int32)))).toUInt32 >>> (((2 : Int32)).toUInt32 &&& Int32.toUInt32 31)).toInt32 &&& (858993459 : Int32))) + (((((v0 - (((v0).toUInt32 >>> (((1 : Int32)).toUInt32 &&& Int32.toUInt32 31)).toInt32 &&& (1431655765 : Int32))) &&& (858993459 : Int32)) + ((((v0 - (((v0).toUInt32 >>> (((1 : Int32)).toUInt32 &&& Int32.toUInt32 31)).toInt32 &&& (1431655765 : Int32)))).toUInt32 >>> (((2 : Int32)).toUInt32 &&& Int32.toUInt32 31)).toInt32 &&& (858993459 : Int32)))).toUInt32 >>> (((4 : Int32)).toUInt32 &&& Int32.toUInt32 31)).toInt32) &&& (252645135 : Int32))).toUInt32 >>> (((8 : Int32)).toUInt32 &&& Int32.toUInt32 31)).toInt32) + ((((((((v0 - (((v0).toUInt32 >>> (((1 : Int32)).toUInt32 &&& Int32.toUInt32 31)).toInt32 &&& (1431655765 : Int32))) &&& (858993459 : Int32)) + ((((v0 - (((v0).toUInt32 >>> (((1 : Int32)).toUInt32 &&& Int32.toUInt32 31)).toInt32 &&& (1431655765 : Int32)))).toUInt32 >>> (((2 : Int32)).toUInt32 &&& Int32.toUInt32 31)).toInt32 &&& (858993459 : Int32))) + (((((v0 - (((v0).toUInt32 >>> (((1 : Int32)).toUInt32 &&& Int32.toUInt32 31)).toInt32 &&& (1431655765 : Int32))) &&& (858993459 : Int32)) + ((((v0 - (((v0).toUInt32 >>> (((1 : Int32)).toUInt32 &&& Int32.toUInt32 31)).toInt32 &&& (1431655765 : Int32)))).toUInt32 >>> (((2 : Int32)).toUInt32 &&& Int32.toUInt32 31)).toInt32 &&& (858993459 : Int32)))).toUInt32 >>> (((4 : Int32)).toUInt32 &&& Int32.toUInt32 31)).toInt32) &&& (252645135 : Int32)) + (((((((v0 - (((v0).toUInt32 >>> (((1 : Int32)).toUInt32 &&& Int32.toUInt32 31)).toInt32 &&& (1431655765 : Int32))) &&& (858993459 : Int32)) + ((((v0 - (((v0).toUInt32 >>> (((1 : Int32)).toUInt32 &&& Int32.toUInt32 31)).toInt32 &&& (1431655765 : Int32)))).toUInt32 >>> (((2 : Int32)).toUInt32 &&& Int32.toUInt32 31)).toInt32 &&& (858993459 : Int32))) + (((((v0 - (((v0).toUInt32 >>> (((1 : Int32)).toUInt32 &&& Int32.toUInt32 31)).toInt32 &&& (1431655765 : Int32))) &&& (858993459 : Int32)) + ((((v0 - (((v0).toUInt32 >>> (((1 : Int32)).toUInt32 &&& Int32.toUInt32 31)).toInt32 &&& (1431655765 : Int32)))).toUInt32 >>> (((2 : Int32)).toUInt32 &&& Int32.toUInt32 31)).toInt32 &&& (858993459 : Int32)))).toUInt32 >>> (((4 : Int32)).toUInt32 &&& Int32.toUInt32 31)).toInt32) &&& (252645135 : Int32))).toUInt32 >>> (((8 : Int32)).toUInt32 &&& Int32.toUInt32 31)).toInt32)).toUInt32 >>> (((16 : Int32)).toUInt32 &&& Int32.toUInt32 31)).toInt32) &&& (63 : Int32)) g
abbrev rm_J6_bitCount_0f7a4 : Room := { frames := 0, cells := 0, slots := 0, locals := 0 }
set_option maxHeartbeats 4000000 in
set_option maxRecDepth 100000 in
theorem m_J6_bitCount_0f7a4 {X : Cx} {l : Launch} (hfl : l.stackTraces = false) {post : Int32 → GM → Prop} {px : String → GM → Prop} {v0 : Int32} {g : GM} (hf : w_J6_bitCount_0f7a4 X post px v0 g) : gMet X l yJ6_bitCount_0f7a4 cJ6_bitCount_0f7a4 1 (some .int) rm_J6_bitCount_0f7a4 [.int v0] g (qI X post) px := by
  refine gg_enter (L := [some (.int v0)]) hfl (by decide +kernel) (by simp [lg_sl, gcat, gcI, gcL, gcF, gcD]) (by simp [gll, lv_args, gcat, gcI, gcL, gcF, gcD]) ?_
  intro p e s m args below meth c C hr ht hm
  have C : FC X p l s m args meth c cJ6_bitCount_0f7a4 1 "java/lang/Integer" := C
  unfold w_J6_bitCount_0f7a4 at hf
  refine gg_iload_n C dJ6_bitCount_0f7a4_0 rfl ?_
  refine gg_iload_n C dJ6_bitCount_0f7a4_1 rfl ?_
  refine gg_iconst C dJ6_bitCount_0f7a4_2 (v := (1 : Int32)) (by decide) ?_
  refine gg_iushr C dJ6_bitCount_0f7a4_3 ?_
  refine gg_ldcw C dJ6_bitCount_0f7a4_4 (v := (1431655765 : Int32)) tw_1131 ?_
  refine gg_iand C dJ6_bitCount_0f7a4_7 ?_
  refine gg_isub C dJ6_bitCount_0f7a4_8 ?_
  refine gg_istore_n (L' := [some (.int (v0 - (((v0).toUInt32 >>> (((1 : Int32)).toUInt32 &&& Int32.toUInt32 31)).toInt32 &&& (1431655765 : Int32))))]) C dJ6_bitCount_0f7a4_9 (Or.inl rfl) (by decide) rfl ?_
  refine gg_iload_n C dJ6_bitCount_0f7a4_10 rfl ?_
  refine gg_ldcw C dJ6_bitCount_0f7a4_11 (v := (858993459 : Int32)) tw_1132 ?_
  refine gg_iand C dJ6_bitCount_0f7a4_14 ?_
  refine gg_iload_n C dJ6_bitCount_0f7a4_15 rfl ?_
  refine gg_iconst C dJ6_bitCount_0f7a4_16 (v := (2 : Int32)) (by decide) ?_
  refine gg_iushr C dJ6_bitCount_0f7a4_17 ?_
  refine gg_ldcw C dJ6_bitCount_0f7a4_18 (v := (858993459 : Int32)) tw_1132 ?_
  refine gg_iand C dJ6_bitCount_0f7a4_21 ?_
  refine gg_iadd C dJ6_bitCount_0f7a4_22 ?_
  refine gg_istore_n (L' := [some (.int (((v0 - (((v0).toUInt32 >>> (((1 : Int32)).toUInt32 &&& Int32.toUInt32 31)).toInt32 &&& (1431655765 : Int32))) &&& (858993459 : Int32)) + ((((v0 - (((v0).toUInt32 >>> (((1 : Int32)).toUInt32 &&& Int32.toUInt32 31)).toInt32 &&& (1431655765 : Int32)))).toUInt32 >>> (((2 : Int32)).toUInt32 &&& Int32.toUInt32 31)).toInt32 &&& (858993459 : Int32))))]) C dJ6_bitCount_0f7a4_23 (Or.inl rfl) (by decide) rfl ?_
  refine gg_iload_n C dJ6_bitCount_0f7a4_24 rfl ?_
  refine gg_iload_n C dJ6_bitCount_0f7a4_25 rfl ?_
  refine gg_iconst C dJ6_bitCount_0f7a4_26 (v := (4 : Int32)) (by decide) ?_
  refine gg_iushr C dJ6_bitCount_0f7a4_27 ?_
  refine gg_iadd C dJ6_bitCount_0f7a4_28 ?_
  refine gg_ldcw C dJ6_bitCount_0f7a4_29 (v := (252645135 : Int32)) tw_1133 ?_
  refine gg_iand C dJ6_bitCount_0f7a4_32 ?_
  refine gg_istore_n (L' := [some (.int (((((v0 - (((v0).toUInt32 >>> (((1 : Int32)).toUInt32 &&& Int32.toUInt32 31)).toInt32 &&& (1431655765 : Int32))) &&& (858993459 : Int32)) + ((((v0 - (((v0).toUInt32 >>> (((1 : Int32)).toUInt32 &&& Int32.toUInt32 31)).toInt32 &&& (1431655765 : Int32)))).toUInt32 >>> (((2 : Int32)).toUInt32 &&& Int32.toUInt32 31)).toInt32 &&& (858993459 : Int32))) + (((((v0 - (((v0).toUInt32 >>> (((1 : Int32)).toUInt32 &&& Int32.toUInt32 31)).toInt32 &&& (1431655765 : Int32))) &&& (858993459 : Int32)) + ((((v0 - (((v0).toUInt32 >>> (((1 : Int32)).toUInt32 &&& Int32.toUInt32 31)).toInt32 &&& (1431655765 : Int32)))).toUInt32 >>> (((2 : Int32)).toUInt32 &&& Int32.toUInt32 31)).toInt32 &&& (858993459 : Int32)))).toUInt32 >>> (((4 : Int32)).toUInt32 &&& Int32.toUInt32 31)).toInt32) &&& (252645135 : Int32)))]) C dJ6_bitCount_0f7a4_33 (Or.inl rfl) (by decide) rfl ?_
  refine gg_iload_n C dJ6_bitCount_0f7a4_34 rfl ?_
  refine gg_iload_n C dJ6_bitCount_0f7a4_35 rfl ?_
  refine gg_bipush C dJ6_bitCount_0f7a4_36 (v := (8 : Int32)) (by decide) ?_
  refine gg_iushr C dJ6_bitCount_0f7a4_38 ?_
  refine gg_iadd C dJ6_bitCount_0f7a4_39 ?_
  refine gg_istore_n (L' := [some (.int ((((((v0 - (((v0).toUInt32 >>> (((1 : Int32)).toUInt32 &&& Int32.toUInt32 31)).toInt32 &&& (1431655765 : Int32))) &&& (858993459 : Int32)) + ((((v0 - (((v0).toUInt32 >>> (((1 : Int32)).toUInt32 &&& Int32.toUInt32 31)).toInt32 &&& (1431655765 : Int32)))).toUInt32 >>> (((2 : Int32)).toUInt32 &&& Int32.toUInt32 31)).toInt32 &&& (858993459 : Int32))) + (((((v0 - (((v0).toUInt32 >>> (((1 : Int32)).toUInt32 &&& Int32.toUInt32 31)).toInt32 &&& (1431655765 : Int32))) &&& (858993459 : Int32)) + ((((v0 - (((v0).toUInt32 >>> (((1 : Int32)).toUInt32 &&& Int32.toUInt32 31)).toInt32 &&& (1431655765 : Int32)))).toUInt32 >>> (((2 : Int32)).toUInt32 &&& Int32.toUInt32 31)).toInt32 &&& (858993459 : Int32)))).toUInt32 >>> (((4 : Int32)).toUInt32 &&& Int32.toUInt32 31)).toInt32) &&& (252645135 : Int32)) + (((((((v0 - (((v0).toUInt32 >>> (((1 : Int32)).toUInt32 &&& Int32.toUInt32 31)).toInt32 &&& (1431655765 : Int32))) &&& (858993459 : Int32)) + ((((v0 - (((v0).toUInt32 >>> (((1 : Int32)).toUInt32 &&& Int32.toUInt32 31)).toInt32 &&& (1431655765 : Int32)))).toUInt32 >>> (((2 : Int32)).toUInt32 &&& Int32.toUInt32 31)).toInt32 &&& (858993459 : Int32))) + (((((v0 - (((v0).toUInt32 >>> (((1 : Int32)).toUInt32 &&& Int32.toUInt32 31)).toInt32 &&& (1431655765 : Int32))) &&& (858993459 : Int32)) + ((((v0 - (((v0).toUInt32 >>> (((1 : Int32)).toUInt32 &&& Int32.toUInt32 31)).toInt32 &&& (1431655765 : Int32)))).toUInt32 >>> (((2 : Int32)).toUInt32 &&& Int32.toUInt32 31)).toInt32 &&& (858993459 : Int32)))).toUInt32 >>> (((4 : Int32)).toUInt32 &&& Int32.toUInt32 31)).toInt32) &&& (252645135 : Int32))).toUInt32 >>> (((8 : Int32)).toUInt32 &&& Int32.toUInt32 31)).toInt32))]) C dJ6_bitCount_0f7a4_40 (Or.inl rfl) (by decide) rfl ?_
  refine gg_iload_n C dJ6_bitCount_0f7a4_41 rfl ?_
  refine gg_iload_n C dJ6_bitCount_0f7a4_42 rfl ?_
  refine gg_bipush C dJ6_bitCount_0f7a4_43 (v := (16 : Int32)) (by decide) ?_
  refine gg_iushr C dJ6_bitCount_0f7a4_45 ?_
  refine gg_iadd C dJ6_bitCount_0f7a4_46 ?_
  refine gg_istore_n (L' := [some (.int (((((((v0 - (((v0).toUInt32 >>> (((1 : Int32)).toUInt32 &&& Int32.toUInt32 31)).toInt32 &&& (1431655765 : Int32))) &&& (858993459 : Int32)) + ((((v0 - (((v0).toUInt32 >>> (((1 : Int32)).toUInt32 &&& Int32.toUInt32 31)).toInt32 &&& (1431655765 : Int32)))).toUInt32 >>> (((2 : Int32)).toUInt32 &&& Int32.toUInt32 31)).toInt32 &&& (858993459 : Int32))) + (((((v0 - (((v0).toUInt32 >>> (((1 : Int32)).toUInt32 &&& Int32.toUInt32 31)).toInt32 &&& (1431655765 : Int32))) &&& (858993459 : Int32)) + ((((v0 - (((v0).toUInt32 >>> (((1 : Int32)).toUInt32 &&& Int32.toUInt32 31)).toInt32 &&& (1431655765 : Int32)))).toUInt32 >>> (((2 : Int32)).toUInt32 &&& Int32.toUInt32 31)).toInt32 &&& (858993459 : Int32)))).toUInt32 >>> (((4 : Int32)).toUInt32 &&& Int32.toUInt32 31)).toInt32) &&& (252645135 : Int32)) + (((((((v0 - (((v0).toUInt32 >>> (((1 : Int32)).toUInt32 &&& Int32.toUInt32 31)).toInt32 &&& (1431655765 : Int32))) &&& (858993459 : Int32)) + ((((v0 - (((v0).toUInt32 >>> (((1 : Int32)).toUInt32 &&& Int32.toUInt32 31)).toInt32 &&& (1431655765 : Int32)))).toUInt32 >>> (((2 : Int32)).toUInt32 &&& Int32.toUInt32 31)).toInt32 &&& (858993459 : Int32))) + (((((v0 - (((v0).toUInt32 >>> (((1 : Int32)).toUInt32 &&& Int32.toUInt32 31)).toInt32 &&& (1431655765 : Int32))) &&& (858993459 : Int32)) + ((((v0 - (((v0).toUInt32 >>> (((1 : Int32)).toUInt32 &&& Int32.toUInt32 31)).toInt32 &&& (1431655765 : Int32)))).toUInt32 >>> (((2 : Int32)).toUInt32 &&& Int32.toUInt32 31)).toInt32 &&& (858993459 : Int32)))).toUInt32 >>> (((4 : Int32)).toUInt32 &&& Int32.toUInt32 31)).toInt32) &&& (252645135 : Int32))).toUInt32 >>> (((8 : Int32)).toUInt32 &&& Int32.toUInt32 31)).toInt32) + ((((((((v0 - (((v0).toUInt32 >>> (((1 : Int32)).toUInt32 &&& Int32.toUInt32 31)).toInt32 &&& (1431655765 : Int32))) &&& (858993459 : Int32)) + ((((v0 - (((v0).toUInt32 >>> (((1 : Int32)).toUInt32 &&& Int32.toUInt32 31)).toInt32 &&& (1431655765 : Int32)))).toUInt32 >>> (((2 : Int32)).toUInt32 &&& Int32.toUInt32 31)).toInt32 &&& (858993459 : Int32))) + (((((v0 - (((v0).toUInt32 >>> (((1 : Int32)).toUInt32 &&& Int32.toUInt32 31)).toInt32 &&& (1431655765 : Int32))) &&& (858993459 : Int32)) + ((((v0 - (((v0).toUInt32 >>> (((1 : Int32)).toUInt32 &&& Int32.toUInt32 31)).toInt32 &&& (1431655765 : Int32)))).toUInt32 >>> (((2 : Int32)).toUInt32 &&& Int32.toUInt32 31)).toInt32 &&& (858993459 : Int32)))).toUInt32 >>> (((4 : Int32)).toUInt32 &&& Int32.toUInt32 31)).toInt32) &&& (252645135 : Int32)) + (((((((v0 - (((v0).toUInt32 >>> (((1 : Int32)).toUInt32 &&& Int32.toUInt32 31)).toInt32 &&& (1431655765 : Int32))) &&& (858993459 : Int32)) + ((((v0 - (((v0).toUInt32 >>> (((1 : Int32)).toUInt32 &&& Int32.toUInt32 31)).toInt32 &&& (1431655765 : Int32)))).toUInt32 >>> (((2 : Int32)).toUInt32 &&& Int32.toUInt32 31)).toInt32 &&& (858993459 : Int32))) + (((((v0 - (((v0).toUInt32 >>> (((1 : Int32)).toUInt32 &&& Int32.toUInt32 31)).toInt32 &&& (1431655765 : Int32))) &&& (858993459 : Int32)) + ((((v0 - (((v0).toUInt32 >>> (((1 : Int32)).toUInt32 &&& Int32.toUInt32 31)).toInt32 &&& (1431655765 : Int32)))).toUInt32 >>> (((2 : Int32)).toUInt32 &&& Int32.toUInt32 31)).toInt32 &&& (858993459 : Int32)))).toUInt32 >>> (((4 : Int32)).toUInt32 &&& Int32.toUInt32 31)).toInt32) &&& (252645135 : Int32))).toUInt32 >>> (((8 : Int32)).toUInt32 &&& Int32.toUInt32 31)).toInt32)).toUInt32 >>> (((16 : Int32)).toUInt32 &&& Int32.toUInt32 31)).toInt32))]) C dJ6_bitCount_0f7a4_47 (Or.inl rfl) (by decide) rfl ?_
  refine gg_iload_n C dJ6_bitCount_0f7a4_48 rfl ?_
  refine gg_bipush C dJ6_bitCount_0f7a4_49 (v := (63 : Int32)) (by decide) ?_
  refine gg_iand C dJ6_bitCount_0f7a4_51 ?_
  exact gg_iret C hr (by decide) (by decide) dJ6_bitCount_0f7a4_52 rfl hf

def w_X7_buy (X : Cx) (post : Int32 → GM → Prop) (px : String → GM → Prop) (v0 : Option Nat) (v1 : Int32) (v2 : Int32) (g : GM) : Prop :=
  wIs g v0 7 (w_X7_knownDevice X (fun (r2 : Option Nat) (g1 : GM) => w_X7_refuseUnknownItem X (fun (g3 : GM) => w_X7_buildHadBy X (fun (r5 : Option Nat) (g4 : GM) => wGetI g4 r2 2 5 (fun (i6 : Int32) => w_X7_isIn X (fun (i8 : Int32) (g7 : GM) => (if i8 = 0 then wGetR g7 r5 1 2 (fun (r9 : Option Nat) => wGetI g7 r9 5 2 (fun (i10 : Int32) => w_X7_isIn X (fun (i12 : Int32) (g11 : GM) => (if i12 = 0 then px "java/lang/UnsupportedOperationException" g11 else wGetI g11 r2 2 5 (fun (i13 : Int32) => wPut g11 r2 2 5 (.int (i13 ||| ((1 : Int32) <<< (v2 &&& 31)))) (fun g14 => wGetI g14 r2 2 5 (fun (i15 : Int32) => w_J6_bitCount_0f7a4 X (fun (i17 : Int32) (g16 : GM) => post i17 g16) px i15 g14))))) px i10 v2 g7)) else px "java/lang/IllegalStateException" g7)) px i6 v2 g4)) px r2 g3) px v2 g1) px v0 v1 g)
abbrev rm_X7_buy : Room := { frames := 7, cells := 4, slots := 24, locals := 103 }
set_option maxHeartbeats 4000000 in
set_option maxRecDepth 100000 in
theorem m_X7_buy {X : Cx} {l : Launch} (hfl : l.stackTraces = false) {post : Int32 → GM → Prop} {px : String → GM → Prop} {v0 : Option Nat} {v1 : Int32} {v2 : Int32} {g : GM} (hf : w_X7_buy X post px v0 v1 v2 g) : gMet X l yX7_buy cX7_buy 5 (some .int) rm_X7_buy [va_rf v0, .int v1, .int v2] g (qI X post) px := by
  refine gg_enter (L := [some (va_rf v0), some (.int v1), some (.int v2), none, none]) hfl (by decide +kernel) (by simp [lg_sl, gcat, gcI, gcL, gcF, gcD]) (by simp [gll, lv_args, gcat, gcI, gcL, gcF, gcD]) ?_
  intro p e s m args below meth c C hr ht hm
  have C : FC X p l s m args meth c cX7_buy 5 "Releasetrain" := C
  unfold w_X7_buy at hf
  refine gg_aload_n C dX7_buy_0 rfl ?_
  refine gg_iload_n C dX7_buy_1 rfl ?_
  refine gr_R (k' := 1) (n' := 6) (gk_V (ci := 7) (As := [.int v1]) (rest := []) C dX7_buy_2 rfl rfl tw_1015 tw_1017 tw_16 tw_25 tw_1018 gd_X7_knownDevice rfl ⟨by decide, by decide⟩ (by simp [gcat, gcI, gcL, gcF, gcD]) ⟨by decide, by decide⟩ hf (fun hf => m_X7_knownDevice hfl hf)) rfl rfl (fun E g9 h9 => gx_out C (fun x hx => (ht x hx).elim) (by decide) (by decide) h9) (fun r2 g1 hf => ?_)
  refine gg_astore_n (L' := [some (va_rf v0), some (.int v1), some (.int v2), some (va_rf r2), none]) C dX7_buy_5 (Or.inr (Or.inr ⟨_, rfl, rfl⟩)) (by decide) rfl ?_
  refine gg_iload_n C dX7_buy_6 rfl ?_
  refine gr_V (k' := 2) (n' := 12) (gk_S (As := [.int v2]) (rest := []) C dX7_buy_7 tw_1121 tw_1122 tw_25 tw_1123 gd_X7_refuseUnknownItem rfl ⟨by decide, by decide⟩ (by simp [gcat, gcI, gcL, gcF, gcD]) ⟨by decide, by decide⟩ (m_X7_refuseUnknownItem hfl hf)) rfl rfl (fun E g9 h9 => gx_out C (fun x hx => (ht x hx).elim) (by decide) (by decide) h9) (fun g3 hf => ?_)
  refine gg_aload_n C dX7_buy_10 rfl ?_
  refine gr_R (k' := 3) (n' := 18) (gk_S (As := [va_rf r2]) (rest := []) C dX7_buy_11 tw_1042 tw_1043 tw_25 tw_1044 gd_X7_buildHadBy rfl ⟨by decide, by decide⟩ (by simp [gcat, gcI, gcL, gcF, gcD]) ⟨by decide, by decide⟩ (m_X7_buildHadBy hfl hf)) rfl rfl (fun E g9 h9 => gx_out C (fun x hx => (ht x hx).elim) (by decide) (by decide) h9) (fun r5 g4 hf => ?_)
  refine gg_astore (L' := [some (va_rf v0), some (.int v1), some (.int v2), some (va_rf r2), some (va_rf r5)]) C dX7_buy_14 (Or.inr (Or.inr ⟨_, rfl, gcat _⟩)) (by decide) rfl ?_
  refine gg_aload_n C dX7_buy_16 rfl ?_
  refine gg_getI C dX7_buy_17 lk_X7_332 hf (fun i6 hf => ?_)
  refine gg_iload_n C dX7_buy_20 rfl ?_
  refine gr_I (k' := 3) (n' := 18) (gk_S (As := [.int i6, .int v2]) (rest := []) C dX7_buy_21 tw_1125 tw_670 tw_25 tw_671 gd_X7_isIn rfl ⟨by decide, by decide⟩ (by simp [gcat, gcI, gcL, gcF, gcD]) ⟨by decide, by decide⟩ (m_X7_isIn hfl hf)) rfl rfl (fun E g9 h9 => gx_out C (fun x hx => (ht x hx).elim) (by decide) (by decide) h9) (fun i8 g7 hf => ?_)
  refine gg_if_eq (tgt := 38) C dX7_buy_24 (by decide) hf (fun hf => ?_) (fun hf => ?_)
  · refine gg_aload C dX7_buy_38 rfl ?_
    refine gg_getR C dX7_buy_40 lk_X7_119 hf (fun r9 hf => ?_)
    refine gg_getI C dX7_buy_43 lk_X7_340 hf (fun i10 hf => ?_)
    refine gg_iload_n C dX7_buy_46 rfl ?_
    refine gr_I (k' := 3) (n' := 18) (gk_S (As := [.int i10, .int v2]) (rest := []) C dX7_buy_47 tw_1125 tw_670 tw_25 tw_671 gd_X7_isIn rfl ⟨by decide, by decide⟩ (by simp [gcat, gcI, gcL, gcF, gcD]) ⟨by decide, by decide⟩ (m_X7_isIn hfl hf)) rfl rfl (fun E g9 h9 => gx_out C (fun x hx => (ht x hx).elim) (by decide) (by decide) h9) (fun i12 g11 hf => ?_)
    refine gg_if_ne (tgt := 64) C dX7_buy_50 (by decide) hf (fun hf => ?_) (fun hf => ?_)
    · refine gg_aload_n C dX7_buy_64 rfl ?_
      refine gg_dup C dX7_buy_65 (gcat _) ?_
      refine gg_getI C dX7_buy_66 lk_X7_332 hf (fun i13 hf => ?_)
      refine gg_iconst C dX7_buy_69 (v := (1 : Int32)) (by decide) ?_
      refine gg_iload_n C dX7_buy_70 rfl ?_
      refine gg_ishl C dX7_buy_71 ?_
      refine gg_ior C dX7_buy_72 ?_
      refine gg_put C dX7_buy_73 pk_X7_332 (gNar_int _) hf (fun g14 hf => ?_)
      refine gg_aload_n C dX7_buy_76 rfl ?_
      refine gg_getI C dX7_buy_77 lk_X7_332 hf (fun i15 hf => ?_)
      refine gr_I (k' := 3) (n' := 18) (gk_S (As := [.int i15]) (rest := []) C dX7_buy_80 tw_1128 tw_1129 tw_49 tw_1130 gd_J6_bitCount_0f7a4 rfl ⟨by decide, by decide⟩ (by simp [gcat, gcI, gcL, gcF, gcD]) ⟨by decide, by decide⟩ (m_J6_bitCount_0f7a4 hfl hf)) rfl rfl (fun E g9 h9 => gx_out C (fun x hx => (ht x hx).elim) (by decide) (by decide) h9) (fun i17 g16 hf => ?_)
      exact gg_iret C hr (by decide) (by decide) dX7_buy_83 rfl hf
    · exact gg_throwW (cls := "java/lang/UnsupportedOperationException") (names := ["java/lang/RuntimeException", "java/lang/Exception"]) C (by decide +kernel) (by decide +kernel) tw_591 tw_52 xk_X7_168 (show ("Releasetrain", 343, "its build does not sell it", 36) ∈ gStr by decide +kernel) dX7_buy_53 dX7_buy_56 dX7_buy_57 dX7_buy_60 dX7_buy_63 (fun x hx => (ht x hx).elim) (by decide) (by simp [gcat, gcI, gcL, gcF, gcD]) (by decide) (by decide) (by decide) (by decide) hf
  · exact gg_throwW (cls := "java/lang/IllegalStateException") (names := ["java/lang/RuntimeException", "java/lang/Exception"]) C (by decide +kernel) (by decide +kernel) tw_327 tw_40 xk_X7_82 (show ("Releasetrain", 338, "it owns the item", 35) ∈ gStr by decide +kernel) dX7_buy_27 dX7_buy_30 dX7_buy_31 dX7_buy_34 dX7_buy_37 (fun x hx => (ht x hx).elim) (by decide) (by simp [gcat, gcI, gcL, gcF, gcD]) (by decide) (by decide) (by decide) (by decide) hf

def w_X7_owns (X : Cx) (post : Int32 → GM → Prop) (px : String → GM → Prop) (v0 : Option Nat) (v1 : Int32) (v2 : Int32) (g : GM) : Prop :=
  wIs g v0 7 (w_X7_knownDevice X (fun (r2 : Option Nat) (g1 : GM) => w_X7_refuseUnknownItem X (fun (g3 : GM) => wGetI g3 r2 2 5 (fun (i4 : Int32) => w_X7_isIn X (fun (i6 : Int32) (g5 : GM) => (narrow .boolean (.int i6) = .int i6 ∧ post i6 g5)) px i4 v2 g3)) px v2 g1) px v0 v1 g)
abbrev rm_X7_owns : Room := { frames := 7, cells := 2, slots := 12, locals := 103 }
set_option maxHeartbeats 4000000 in
set_option maxRecDepth 100000 in
theorem m_X7_owns {X : Cx} {l : Launch} (hfl : l.stackTraces = false) {post : Int32 → GM → Prop} {px : String → GM → Prop} {v0 : Option Nat} {v1 : Int32} {v2 : Int32} {g : GM} (hf : w_X7_owns X post px v0 v1 v2 g) : gMet X l yX7_owns cX7_owns 4 (some .boolean) rm_X7_owns [va_rf v0, .int v1, .int v2] g (qI X post) px := by
  refine gg_enter (L := [some (va_rf v0), some (.int v1), some (.int v2), none]) hfl (by decide +kernel) (by simp [lg_sl, gcat, gcI, gcL, gcF, gcD]) (by simp [gll, lv_args, gcat, gcI, gcL, gcF, gcD]) ?_
  intro p e s m args below meth c C hr ht hm
  have C : FC X p l s m args meth c cX7_owns 4 "Releasetrain" := C
  unfold w_X7_owns at hf
  refine gg_aload_n C dX7_owns_0 rfl ?_
  refine gg_iload_n C dX7_owns_1 rfl ?_
  refine gr_R (k' := 1) (n' := 6) (gk_V (ci := 7) (As := [.int v1]) (rest := []) C dX7_owns_2 rfl rfl tw_1015 tw_1017 tw_16 tw_25 tw_1018 gd_X7_knownDevice rfl ⟨by decide, by decide⟩ (by simp [gcat, gcI, gcL, gcF, gcD]) ⟨by decide, by decide⟩ hf (fun hf => m_X7_knownDevice hfl hf)) rfl rfl (fun E g9 h9 => gx_out C (fun x hx => (ht x hx).elim) (by decide) (by decide) h9) (fun r2 g1 hf => ?_)
  refine gg_astore_n (L' := [some (va_rf v0), some (.int v1), some (.int v2), some (va_rf r2)]) C dX7_owns_5 (Or.inr (Or.inr ⟨_, rfl, rfl⟩)) (by decide) rfl ?_
  refine gg_iload_n C dX7_owns_6 rfl ?_
  refine gr_V (k' := 2) (n' := 12) (gk_S (As := [.int v2]) (rest := []) C dX7_owns_7 tw_1121 tw_1122 tw_25 tw_1123 gd_X7_refuseUnknownItem rfl ⟨by decide, by decide⟩ (by simp [gcat, gcI, gcL, gcF, gcD]) ⟨by decide, by decide⟩ (m_X7_refuseUnknownItem hfl hf)) rfl rfl (fun E g9 h9 => gx_out C (fun x hx => (ht x hx).elim) (by decide) (by decide) h9) (fun g3 hf => ?_)
  refine gg_aload_n C dX7_owns_10 rfl ?_
  refine gg_getI C dX7_owns_11 lk_X7_332 hf (fun i4 hf => ?_)
  refine gg_iload_n C dX7_owns_14 rfl ?_
  refine gr_I (k' := 2) (n' := 12) (gk_S (As := [.int i4, .int v2]) (rest := []) C dX7_owns_15 tw_1125 tw_670 tw_25 tw_671 gd_X7_isIn rfl ⟨by decide, by decide⟩ (by simp [gcat, gcI, gcL, gcF, gcD]) ⟨by decide, by decide⟩ (m_X7_isIn hfl hf)) rfl rfl (fun E g9 h9 => gx_out C (fun x hx => (ht x hx).elim) (by decide) (by decide) h9) (fun i6 g5 hf => ?_)
  exact gg_iret C hr (by decide) (by decide) dX7_owns_18 hf.1 hf.2

def w_X7_canUse (X : Cx) (post : Int32 → GM → Prop) (px : String → GM → Prop) (v0 : Option Nat) (v1 : Int32) (v2 : Int32) (g : GM) : Prop :=
  wIs g v0 7 (w_X7_knownDevice X (fun (r2 : Option Nat) (g1 : GM) => w_X7_refuseUnknownItem X (fun (g3 : GM) => wIs g3 r2 2 (w_X2_usableItems X (fun (i5 : Int32) (g4 : GM) => w_X7_isIn X (fun (i7 : Int32) (g6 : GM) => (narrow .boolean (.int i7) = .int i7 ∧ post i7 g6)) px i5 v2 g4) px r2 g3)) px v2 g1) px v0 v1 g)
abbrev rm_X7_canUse : Room := { frames := 7, cells := 2, slots := 12, locals := 103 }
set_option maxHeartbeats 4000000 in
set_option maxRecDepth 100000 in
theorem m_X7_canUse {X : Cx} {l : Launch} (hfl : l.stackTraces = false) {post : Int32 → GM → Prop} {px : String → GM → Prop} {v0 : Option Nat} {v1 : Int32} {v2 : Int32} {g : GM} (hf : w_X7_canUse X post px v0 v1 v2 g) : gMet X l yX7_canUse cX7_canUse 4 (some .boolean) rm_X7_canUse [va_rf v0, .int v1, .int v2] g (qI X post) px := by
  refine gg_enter (L := [some (va_rf v0), some (.int v1), some (.int v2), none]) hfl (by decide +kernel) (by simp [lg_sl, gcat, gcI, gcL, gcF, gcD]) (by simp [gll, lv_args, gcat, gcI, gcL, gcF, gcD]) ?_
  intro p e s m args below meth c C hr ht hm
  have C : FC X p l s m args meth c cX7_canUse 4 "Releasetrain" := C
  unfold w_X7_canUse at hf
  refine gg_aload_n C dX7_canUse_0 rfl ?_
  refine gg_iload_n C dX7_canUse_1 rfl ?_
  refine gr_R (k' := 1) (n' := 6) (gk_V (ci := 7) (As := [.int v1]) (rest := []) C dX7_canUse_2 rfl rfl tw_1015 tw_1017 tw_16 tw_25 tw_1018 gd_X7_knownDevice rfl ⟨by decide, by decide⟩ (by simp [gcat, gcI, gcL, gcF, gcD]) ⟨by decide, by decide⟩ hf (fun hf => m_X7_knownDevice hfl hf)) rfl rfl (fun E g9 h9 => gx_out C (fun x hx => (ht x hx).elim) (by decide) (by decide) h9) (fun r2 g1 hf => ?_)
  refine gg_astore_n (L' := [some (va_rf v0), some (.int v1), some (.int v2), some (va_rf r2)]) C dX7_canUse_5 (Or.inr (Or.inr ⟨_, rfl, rfl⟩)) (by decide) rfl ?_
  refine gg_iload_n C dX7_canUse_6 rfl ?_
  refine gr_V (k' := 2) (n' := 12) (gk_S (As := [.int v2]) (rest := []) C dX7_canUse_7 tw_1121 tw_1122 tw_25 tw_1123 gd_X7_refuseUnknownItem rfl ⟨by decide, by decide⟩ (by simp [gcat, gcI, gcL, gcF, gcD]) ⟨by decide, by decide⟩ (m_X7_refuseUnknownItem hfl hf)) rfl rfl (fun E g9 h9 => gx_out C (fun x hx => (ht x hx).elim) (by decide) (by decide) h9) (fun g3 hf => ?_)
  refine gg_aload_n C dX7_canUse_10 rfl ?_
  refine gr_I (k' := 2) (n' := 12) (gk_V (ci := 2) (As := []) (rest := []) C dX7_canUse_11 rfl rfl tw_1142 tw_1143 tw_1144 tw_56 tw_1145 gd_X2_usableItems rfl ⟨by decide, by decide⟩ (by simp [gcat, gcI, gcL, gcF, gcD]) ⟨by decide, by decide⟩ hf (fun hf => m_X2_usableItems hfl hf)) rfl rfl (fun E g9 h9 => gx_out C (fun x hx => (ht x hx).elim) (by decide) (by decide) h9) (fun i5 g4 hf => ?_)
  refine gg_iload_n C dX7_canUse_14 rfl ?_
  refine gr_I (k' := 2) (n' := 12) (gk_S (As := [.int i5, .int v2]) (rest := []) C dX7_canUse_15 tw_1125 tw_670 tw_25 tw_671 gd_X7_isIn rfl ⟨by decide, by decide⟩ (by simp [gcat, gcI, gcL, gcF, gcD]) ⟨by decide, by decide⟩ (m_X7_isIn hfl hf)) rfl rfl (fun E g9 h9 => gx_out C (fun x hx => (ht x hx).elim) (by decide) (by decide) h9) (fun i7 g6 hf => ?_)
  exact gg_iret C hr (by decide) (by decide) dX7_canUse_18 hf.1 hf.2

def w_X7_usedShare_l6 (X : Cx) (post : UInt32 → GM → Prop) (px : String → GM → Prop)  : Nat → Option Nat → Int32 → Int32 → Int32 → GM → Prop
  | 0, _, _, _, _, _ => False
  | f + 1, l0, l1, l2, l3, g => wGetR g l0 7 0 (fun (r1 : Option Nat) => wIs g r1 10 (w_Jx4a65c_size_8abf5 X (fun (i3 : Int32) (g2 : GM) => (if i3 ≤ l3 then (if l1 = 0 then px "java/lang/ArithmeticException" g2 else vf_n32 (FP.fdiv (FP.i2f l2) (FP.i2f l1)) ∧ post (FP.fdiv (FP.i2f l2) (FP.i2f l1)) g2) else wGetR g2 l0 7 0 (fun (r4 : Option Nat) => wIs g2 r4 10 (w_Jx4a65c_get_915e3 X (fun (r6 : Option Nat) (g5 : GM) => wIs g5 r6 2 (wGetI g5 r6 2 5 (fun (i7 : Int32) => w_J6_bitCount_0f7a4 X (fun (i9 : Int32) (g8 : GM) => wIs g8 r6 2 (w_X2_usableItems X (fun (i11 : Int32) (g10 : GM) => w_J6_bitCount_0f7a4 X (fun (i13 : Int32) (g12 : GM) => w_X7_usedShare_l6 X post px f l0 (l1 + i9) (l2 + i13) (l3 + 1) g12) px i11 g10) px r6 g8)) px i7 g5))) px r4 l3 g2)))) px r1 g))
def w_X7_usedShare (X : Cx) (post : UInt32 → GM → Prop) (px : String → GM → Prop) (v0 : Option Nat) (g : GM) : Prop :=
  w_X7_usedShare_l6 X post px 3000 v0 (0 : Int32) (0 : Int32) (0 : Int32) g
abbrev rm_X7_usedShare : Room := { frames := 6, cells := 1, slots := 6, locals := 82 }
set_option maxHeartbeats 4000000 in
set_option maxRecDepth 100000 in
theorem m_X7_usedShare {X : Cx} {l : Launch} (hfl : l.stackTraces = false) {post : UInt32 → GM → Prop} {px : String → GM → Prop} {v0 : Option Nat} {g : GM} (hf : w_X7_usedShare X post px v0 g) : gMet X l yX7_usedShare cX7_usedShare 5 (some .float) rm_X7_usedShare [va_rf v0] g (qF X post) px := by
  refine gg_enter (L := [some (va_rf v0), none, none, none, none]) hfl (by decide +kernel) (by simp [lg_sl, gcat, gcI, gcL, gcF, gcD]) (by simp [gll, lv_args, gcat, gcI, gcL, gcF, gcD]) ?_
  intro p e s m args below meth c C hr ht hm
  have C : FC X p l s m args meth c cX7_usedShare 5 "Releasetrain" := C
  have hb_6 : ∀ (f : Nat) (l0 : Option Nat) (l1 : Int32) (l2 : Int32) (l3 : Int32) (g : GM), w_X7_usedShare_l6 X post px  f l0 l1 l2 l3 g → GG X p l e rm_X7_usedShare s m args below meth c 5 (vx_MQ below (qF X post) (gXC X px) args s rm_X7_usedShare.cells rm_X7_usedShare.slots (gA X)) 0 0 6 [some (va_rf l0), some (.int l1), some (.int l2), some (.int l3), none] [] g := by
    intro  f
    induction f with
    | zero => intro l0 l1 l2 l3 g hf; exact (show False from hf).elim
    | succ f ih =>
      intro l0 l1 l2 l3 g hf
      rw [w_X7_usedShare_l6] at hf
      refine gg_iload_n C dX7_usedShare_6 rfl ?_
      refine gg_aload_n C dX7_usedShare_7 rfl ?_
      refine gg_getR C dX7_usedShare_8 lk_X7_10 hf (fun r1 hf => ?_)
      refine gr_I (k' := 0) (n' := 0) (gk_V (ci := 10) (As := []) (rest := [.int l3]) C dX7_usedShare_11 rfl rfl tw_189 tw_190 tw_191 tw_28 tw_192 gd_Jx4a65c_size_8abf5 rfl ⟨by decide, by decide⟩ (by simp [gcat, gcI, gcL, gcF, gcD]) ⟨by decide, by decide⟩ hf (fun hf => m_Jx4a65c_size_8abf5 hfl hf)) rfl rfl (fun E g9 h9 => gx_out C (fun x hx => (ht x hx).elim) (by decide) (by decide) h9) (fun i3 g2 hf => ?_)
      refine gg_icmp_ge (tgt := 58) C dX7_usedShare_14 (by decide) hf (fun hf => ?_) (fun hf => ?_)
      · refine gg_iload_n C dX7_usedShare_58 rfl ?_
        refine gg_if_ne (tgt := 73) C dX7_usedShare_59 (by decide) hf (fun hf => ?_) (fun hf => ?_)
        · refine gg_iload_n C dX7_usedShare_73 rfl ?_
          refine gg_i2f C dX7_usedShare_74 ?_
          refine gg_iload_n C dX7_usedShare_75 rfl ?_
          refine gg_i2f C dX7_usedShare_76 ?_
          refine gg_fdiv C dX7_usedShare_77 hf.1 ?_
          replace hf := hf.2
          exact gg_fret C hr (by decide) (by decide) dX7_usedShare_78 hf
        · exact gg_throwW (cls := "java/lang/ArithmeticException") (names := ["java/lang/RuntimeException", "java/lang/Exception"]) C (by decide +kernel) (by decide +kernel) tw_1316 tw_53 xk_X7_357 (show ("Releasetrain", 355, "they own none", 37) ∈ gStr by decide +kernel) dX7_usedShare_62 dX7_usedShare_65 dX7_usedShare_66 dX7_usedShare_69 dX7_usedShare_72 (fun x hx => (ht x hx).elim) (by decide) (by simp [gcat, gcI, gcL, gcF, gcD]) (by decide) (by decide) (by decide) (by decide) hf
      · refine gg_aload_n C dX7_usedShare_17 rfl ?_
        refine gg_getR C dX7_usedShare_18 lk_X7_10 hf (fun r4 hf => ?_)
        refine gg_iload_n C dX7_usedShare_21 rfl ?_
        refine gr_R (k' := 0) (n' := 0) (gk_V (ci := 10) (As := [.int l3]) (rest := []) C dX7_usedShare_22 rfl rfl tw_288 tw_289 tw_290 tw_28 tw_291 gd_Jx4a65c_get_915e3 rfl ⟨by decide, by decide⟩ (by simp [gcat, gcI, gcL, gcF, gcD]) ⟨by decide, by decide⟩ hf (fun hf => m_Jx4a65c_get_915e3 hfl hf)) rfl rfl (fun E g9 h9 => gx_out C (fun x hx => (ht x hx).elim) (by decide) (by decide) h9) (fun r6 g5 hf => ?_)
        refine gg_ccast (ci := 2) C dX7_usedShare_25 rfl tw_526 hf (fun hf => ?_)
        refine gg_astore (L' := [some (va_rf l0), some (.int l1), some (.int l2), some (.int l3), some (va_rf r6)]) C dX7_usedShare_28 (Or.inr (Or.inr ⟨_, rfl, rfl⟩)) (by decide) rfl ?_
        refine gg_iload_n C dX7_usedShare_30 rfl ?_
        refine gg_aload C dX7_usedShare_31 rfl ?_
        refine gg_getI C dX7_usedShare_33 lk_X7_332 hf (fun i7 hf => ?_)
        refine gr_I (k' := 0) (n' := 0) (gk_S (As := [.int i7]) (rest := [.int l1]) C dX7_usedShare_36 tw_1128 tw_1129 tw_49 tw_1130 gd_J6_bitCount_0f7a4 rfl ⟨by decide, by decide⟩ (by simp [gcat, gcI, gcL, gcF, gcD]) ⟨by decide, by decide⟩ (m_J6_bitCount_0f7a4 hfl hf)) rfl rfl (fun E g9 h9 => gx_out C (fun x hx => (ht x hx).elim) (by decide) (by decide) h9) (fun i9 g8 hf => ?_)
        refine gg_iadd C dX7_usedShare_39 ?_
        refine gg_istore_n (L' := [some (va_rf l0), some (.int (l1 + i9)), some (.int l2), some (.int l3), some (va_rf r6)]) C dX7_usedShare_40 (Or.inr (Or.inr ⟨_, rfl, gcat _⟩)) (by decide) rfl ?_
        refine gg_iload_n C dX7_usedShare_41 rfl ?_
        refine gg_aload C dX7_usedShare_42 rfl ?_
        refine gr_I (k' := 0) (n' := 0) (gk_V (ci := 2) (As := []) (rest := [.int l2]) C dX7_usedShare_44 rfl rfl tw_1142 tw_1143 tw_1144 tw_56 tw_1145 gd_X2_usableItems rfl ⟨by decide, by decide⟩ (by simp [gcat, gcI, gcL, gcF, gcD]) ⟨by decide, by decide⟩ hf (fun hf => m_X2_usableItems hfl hf)) rfl rfl (fun E g9 h9 => gx_out C (fun x hx => (ht x hx).elim) (by decide) (by decide) h9) (fun i11 g10 hf => ?_)
        refine gr_I (k' := 0) (n' := 0) (gk_S (As := [.int i11]) (rest := [.int l2]) C dX7_usedShare_47 tw_1128 tw_1129 tw_49 tw_1130 gd_J6_bitCount_0f7a4 rfl ⟨by decide, by decide⟩ (by simp [gcat, gcI, gcL, gcF, gcD]) ⟨by decide, by decide⟩ (m_J6_bitCount_0f7a4 hfl hf)) rfl rfl (fun E g9 h9 => gx_out C (fun x hx => (ht x hx).elim) (by decide) (by decide) h9) (fun i13 g12 hf => ?_)
        refine gg_iadd C dX7_usedShare_50 ?_
        refine gg_istore_n (L' := [some (va_rf l0), some (.int (l1 + i9)), some (.int (l2 + i13)), some (.int l3), some (va_rf r6)]) C dX7_usedShare_51 (Or.inr (Or.inr ⟨_, rfl, rfl⟩)) (by decide) rfl ?_
        refine gg_iinc (L' := [some (va_rf l0), some (.int (l1 + i9)), some (.int (l2 + i13)), some (.int (l3 + 1)), some (va_rf r6)]) C dX7_usedShare_52 rfl (v := (l3 + 1)) rfl (Or.inr (Or.inr ⟨_, rfl, rfl⟩)) (by decide) rfl ?_
        refine gg_goto (tgt := 6) C dX7_usedShare_55 (by decide) ?_
        exact gg_sub (L' := [some (va_rf l0), some (.int (l1 + i9)), some (.int (l2 + i13)), some (.int (l3 + 1)), none]) (by first | exact ⟨rfl, ⟨rfl, ⟨rfl, ⟨rfl, trivial⟩⟩⟩⟩ | simp [gsub]) (ih _ _ _ _ _ hf)
  unfold w_X7_usedShare at hf
  refine gg_iconst C dX7_usedShare_0 (v := (0 : Int32)) (by decide) ?_
  refine gg_istore_n (L' := [some (va_rf v0), some (.int (0 : Int32)), none, none, none]) C dX7_usedShare_1 (Or.inr (Or.inr ⟨_, rfl, gcat _⟩)) (by decide) rfl ?_
  refine gg_iconst C dX7_usedShare_2 (v := (0 : Int32)) (by decide) ?_
  refine gg_istore_n (L' := [some (va_rf v0), some (.int (0 : Int32)), some (.int (0 : Int32)), none, none]) C dX7_usedShare_3 (Or.inr (Or.inr ⟨_, rfl, rfl⟩)) (by decide) rfl ?_
  refine gg_iconst C dX7_usedShare_4 (v := (0 : Int32)) (by decide) ?_
  refine gg_istore_n (L' := [some (va_rf v0), some (.int (0 : Int32)), some (.int (0 : Int32)), some (.int (0 : Int32)), none]) C dX7_usedShare_5 (Or.inr (Or.inr ⟨_, rfl, rfl⟩)) (by decide) rfl ?_
  exact hb_6 _ _ _ _ _ _ hf

def w_J5_newCapacity_0f7a4 (X : Cx) (post : Int32 → GM → Prop) (px : String → GM → Prop) (v0 : Option Nat) (v1 : Int32) (g : GM) : Prop :=
  wGetR g v0 9 0 (fun (r1 : Option Nat) => wLen X g r1 (fun (i2 : Int32) => wGetI g v0 9 1 (fun (i3 : Int32) => wGetI g v0 9 1 (fun (i4 : Int32) => w_J8_newLength_cabcc X (fun (i6 : Int32) (g5 : GM) => (if i6 = (2147483647 : Int32) then False else wGetI g5 v0 9 1 (fun (i7 : Int32) => post (i6 >>> (i7 &&& 31)) g5))) px i2 ((v1 <<< (i3 &&& 31)) - i2) (i2 + ((2 : Int32) <<< (i4 &&& 31))) g))))
abbrev rm_J5_newCapacity_0f7a4 : Room := { frames := 2, cells := 0, slots := 0, locals := 40 }
set_option maxHeartbeats 4000000 in
set_option maxRecDepth 100000 in
theorem m_J5_newCapacity_0f7a4 {X : Cx} {l : Launch} (hfl : l.stackTraces = false) {post : Int32 → GM → Prop} {px : String → GM → Prop} {v0 : Option Nat} {v1 : Int32} {g : GM} (hf : w_J5_newCapacity_0f7a4 X post px v0 v1 g) : gMet X l yJ5_newCapacity_0f7a4 cJ5_newCapacity_0f7a4 6 (some .int) rm_J5_newCapacity_0f7a4 [va_rf v0, .int v1] g (qI X post) px := by
  refine gg_enter (L := [some (va_rf v0), some (.int v1), none, none, none, none]) hfl (by decide +kernel) (by simp [lg_sl, gcat, gcI, gcL, gcF, gcD]) (by simp [gll, lv_args, gcat, gcI, gcL, gcF, gcD]) ?_
  intro p e s m args below meth c C hr ht hm
  have C : FC X p l s m args meth c cJ5_newCapacity_0f7a4 6 "java/lang/AbstractStringBuilder" := C
  unfold w_J5_newCapacity_0f7a4 at hf
  refine gg_aload_n C dJ5_newCapacity_0f7a4_0 rfl ?_
  refine gg_getR C dJ5_newCapacity_0f7a4_1 lk_java_lang_AbstractStringBuilder_15 hf (fun r1 hf => ?_)
  refine gg_alen C dJ5_newCapacity_0f7a4_4 hf (fun i2 hf => ?_)
  refine gg_istore_n (L' := [some (va_rf v0), some (.int v1), some (.int i2), none, none, none]) C dJ5_newCapacity_0f7a4_5 (Or.inr (Or.inr ⟨_, rfl, rfl⟩)) (by decide) rfl ?_
  refine gg_iload_n C dJ5_newCapacity_0f7a4_6 rfl ?_
  refine gg_aload_n C dJ5_newCapacity_0f7a4_7 rfl ?_
  refine gg_getI C dJ5_newCapacity_0f7a4_8 lk_java_lang_AbstractStringBuilder_22 hf (fun i3 hf => ?_)
  refine gg_ishl C dJ5_newCapacity_0f7a4_11 ?_
  refine gg_istore_n (L' := [some (va_rf v0), some (.int v1), some (.int i2), some (.int (v1 <<< (i3 &&& 31))), none, none]) C dJ5_newCapacity_0f7a4_12 (Or.inr (Or.inr ⟨_, rfl, rfl⟩)) (by decide) rfl ?_
  refine gg_iload_n C dJ5_newCapacity_0f7a4_13 rfl ?_
  refine gg_iload_n C dJ5_newCapacity_0f7a4_14 rfl ?_
  refine gg_isub C dJ5_newCapacity_0f7a4_15 ?_
  refine gg_istore (L' := [some (va_rf v0), some (.int v1), some (.int i2), some (.int (v1 <<< (i3 &&& 31))), some (.int ((v1 <<< (i3 &&& 31)) - i2)), none]) C dJ5_newCapacity_0f7a4_16 (Or.inr (Or.inr ⟨_, rfl, rfl⟩)) (by decide) rfl ?_
  refine gg_iload_n C dJ5_newCapacity_0f7a4_18 rfl ?_
  refine gg_iload C dJ5_newCapacity_0f7a4_19 rfl ?_
  refine gg_iload_n C dJ5_newCapacity_0f7a4_21 rfl ?_
  refine gg_iconst C dJ5_newCapacity_0f7a4_22 (v := (2 : Int32)) (by decide) ?_
  refine gg_aload_n C dJ5_newCapacity_0f7a4_23 rfl ?_
  refine gg_getI C dJ5_newCapacity_0f7a4_24 lk_java_lang_AbstractStringBuilder_22 hf (fun i4 hf => ?_)
  refine gg_ishl C dJ5_newCapacity_0f7a4_27 ?_
  refine gg_iadd C dJ5_newCapacity_0f7a4_28 ?_
  refine gr_I (k' := 0) (n' := 0) (gk_S (As := [.int i2, .int ((v1 <<< (i3 &&& 31)) - i2), .int (i2 + ((2 : Int32) <<< (i4 &&& 31)))]) (rest := []) C dJ5_newCapacity_0f7a4_29 tw_735 tw_446 tw_43 tw_447 gd_J8_newLength_cabcc rfl ⟨by decide, by decide⟩ (by simp [gcat, gcI, gcL, gcF, gcD]) ⟨by decide, by decide⟩ (m_J8_newLength_cabcc hfl hf)) rfl rfl (fun E g9 h9 => gx_out C (fun x hx => (ht x hx).elim) (by decide) (by decide) h9) (fun i6 g5 hf => ?_)
  refine gg_istore (L' := [some (va_rf v0), some (.int v1), some (.int i2), some (.int (v1 <<< (i3 &&& 31))), some (.int ((v1 <<< (i3 &&& 31)) - i2)), some (.int i6)]) C dJ5_newCapacity_0f7a4_32 (Or.inr (Or.inr ⟨_, rfl, rfl⟩)) (by decide) rfl ?_
  refine gg_iload C dJ5_newCapacity_0f7a4_34 rfl ?_
  refine gg_ldc C dJ5_newCapacity_0f7a4_36 (v := (2147483647 : Int32)) tw_736 ?_
  refine gg_icmp_ne (tgt := 51) C dJ5_newCapacity_0f7a4_38 (by decide) hf (fun hf => ?_) (fun hf => ?_)
  · refine gg_iload C dJ5_newCapacity_0f7a4_51 rfl ?_
    refine gg_aload_n C dJ5_newCapacity_0f7a4_53 rfl ?_
    refine gg_getI C dJ5_newCapacity_0f7a4_54 lk_java_lang_AbstractStringBuilder_22 hf (fun i7 hf => ?_)
    refine gg_ishr C dJ5_newCapacity_0f7a4_57 ?_
    exact gg_iret C hr (by decide) (by decide) dJ5_newCapacity_0f7a4_58 rfl hf
  · exact hf.elim

def w_J7_copyOf_9075b (X : Cx) (post : Option Nat → GM → Prop) (px : String → GM → Prop) (v0 : Option Nat) (v1 : Int32) (g : GM) : Prop :=
  wLen X g v0 (fun (i1 : Int32) => (if v1 = i1 then False else (¬ v1 < 0 ∧ (v1).toNatClampNeg ≤ 128 ∧ wNew X g (.inl (2, (v1).toNatClampNeg, .inl (fun _ => 0))) (fun q2 g3 => wLen X g3 v0 (fun (i4 : Int32) => wCpyB g3 v0 (0 : Int32) (some q2) (0 : Int32) (if v1 < i4 then v1 else i4) (fun g5 => post (some q2) g5))))))
abbrev rm_J7_copyOf_9075b : Room := { frames := 1, cells := 1, slots := 128, locals := 80 }
set_option maxHeartbeats 4000000 in
set_option maxRecDepth 100000 in
theorem m_J7_copyOf_9075b {X : Cx} {l : Launch} (hfl : l.stackTraces = false) {post : Option Nat → GM → Prop} {px : String → GM → Prop} {v0 : Option Nat} {v1 : Int32} {g : GM} (hf : w_J7_copyOf_9075b X post px v0 v1 g) : gMet X l yJ7_copyOf_9075b cJ7_copyOf_9075b 3 (some (.array .byte)) rm_J7_copyOf_9075b [va_rf v0, .int v1] g (qR X post) px := by
  refine gg_enter (L := [some (va_rf v0), some (.int v1), none]) hfl (by decide +kernel) (by simp [lg_sl, gcat, gcI, gcL, gcF, gcD]) (by simp [gll, lv_args, gcat, gcI, gcL, gcF, gcD]) ?_
  intro p e s m args below meth c C hr ht hm
  have C : FC X p l s m args meth c cJ7_copyOf_9075b 3 "java/util/Arrays" := C
  unfold w_J7_copyOf_9075b at hf
  refine gg_iload_n C dJ7_copyOf_9075b_0 rfl ?_
  refine gg_aload_n C dJ7_copyOf_9075b_1 rfl ?_
  refine gg_alen C dJ7_copyOf_9075b_2 hf (fun i1 hf => ?_)
  refine gg_icmp_ne (tgt := 14) C dJ7_copyOf_9075b_3 (by decide) hf (fun hf => ?_) (fun hf => ?_)
  · refine gg_iload_n C dJ7_copyOf_9075b_14 rfl ?_
    refine gg_newarr' (k' := 1) (n' := 128) (kd := 2) (cap := 128) (x := fun N => (N, .inl (fun _ => 0))) C dJ7_copyOf_9075b_15 tw_143 rfl rfl (fun _ _ => rfl) (by decide) (by decide) (by decide) rfl rfl hf (fun q2 g3 hf => ?_)
    refine gg_astore_n (L' := [some (va_rf v0), some (.int v1), some (va_rf (some q2))]) C dJ7_copyOf_9075b_17 (Or.inr (Or.inr ⟨_, rfl, rfl⟩)) (by decide) rfl ?_
    refine gg_aload_n C dJ7_copyOf_9075b_18 rfl ?_
    refine gg_iconst C dJ7_copyOf_9075b_19 (v := (0 : Int32)) (by decide) ?_
    refine gg_aload_n C dJ7_copyOf_9075b_20 rfl ?_
    refine gg_iconst C dJ7_copyOf_9075b_21 (v := (0 : Int32)) (by decide) ?_
    refine gg_aload_n C dJ7_copyOf_9075b_22 rfl ?_
    refine gg_alen C dJ7_copyOf_9075b_23 hf (fun i4 hf => ?_)
    refine gg_iload_n C dJ7_copyOf_9075b_24 rfl ?_
    refine gg_mmin C dJ7_copyOf_9075b_25 tw_487 tw_488 tw_44 tw_min (by decide) (by simp [gcat, gcI, gcL, gcF, gcD]) (by decide) (by decide) ?_
    refine gg_cpyB C dJ7_copyOf_9075b_28 tw_490 tw_492 tw_491 tw_46 (by decide) (by simp [gcat, gcI, gcL, gcF, gcD]; decide +kernel) hf (fun g5 hf => ?_)
    refine gg_aload_n C dJ7_copyOf_9075b_31 rfl ?_
    exact gg_aret C hr (Or.inr ⟨_, rfl⟩) (by decide) (by decide) dJ7_copyOf_9075b_32 hf
  · refine gg_aload_n C dJ7_copyOf_9075b_6 rfl ?_
    exact hf.elim

def w_J5_ensureCapacityInternal_d00df_b38 (X : Cx) (post : GM → Prop) (px : String → GM → Prop)   (g : GM) : Prop :=
  post g
def w_J5_ensureCapacityInternal_d00df (X : Cx) (post : GM → Prop) (px : String → GM → Prop) (v0 : Option Nat) (v1 : Int32) (g : GM) : Prop :=
  wGetR g v0 9 0 (fun (r1 : Option Nat) => wLen X g r1 (fun (i2 : Int32) => wGetI g v0 9 1 (fun (i3 : Int32) => (if (v1 - (i2 >>> (i3 &&& 31))) ≤ 0 then w_J5_ensureCapacityInternal_d00df_b38 X post px g else wGetR g v0 9 0 (fun (r4 : Option Nat) => wIs g v0 9 (w_J5_newCapacity_0f7a4 X (fun (i6 : Int32) (g5 : GM) => wGetI g5 v0 9 1 (fun (i7 : Int32) => w_J7_copyOf_9075b X (fun (r9 : Option Nat) (g8 : GM) => wPut g8 v0 9 0 (va_rf r9) (fun g10 => w_J5_ensureCapacityInternal_d00df_b38 X post px g10)) px r4 (i6 <<< (i7 &&& 31)) g5)) px v0 v1 g))))))
abbrev rm_J5_ensureCapacityInternal_d00df : Room := { frames := 3, cells := 1, slots := 128, locals := 102 }
set_option maxHeartbeats 4000000 in
set_option maxRecDepth 100000 in
theorem m_J5_ensureCapacityInternal_d00df {X : Cx} {l : Launch} (hfl : l.stackTraces = false) {post : GM → Prop} {px : String → GM → Prop} {v0 : Option Nat} {v1 : Int32} {g : GM} (hf : w_J5_ensureCapacityInternal_d00df X post px v0 v1 g) : gMet X l yJ5_ensureCapacityInternal_d00df cJ5_ensureCapacityInternal_d00df 3 none rm_J5_ensureCapacityInternal_d00df [va_rf v0, .int v1] g (qV X post) px := by
  refine gg_enter (L := [some (va_rf v0), some (.int v1), none]) hfl (by decide +kernel) (by simp [lg_sl, gcat, gcI, gcL, gcF, gcD]) (by simp [gll, lv_args, gcat, gcI, gcL, gcF, gcD]) ?_
  intro p e s m args below meth c C hr ht hm
  have C : FC X p l s m args meth c cJ5_ensureCapacityInternal_d00df 3 "java/lang/AbstractStringBuilder" := C
  have hb_38 : ∀  (g : GM), w_J5_ensureCapacityInternal_d00df_b38 X post px   g → GG X p l e rm_J5_ensureCapacityInternal_d00df s m args below meth c 3 (vx_MQ below (qV X post) (gXC X px) args s rm_J5_ensureCapacityInternal_d00df.cells rm_J5_ensureCapacityInternal_d00df.slots (gA X)) 1 128 38 [none, none, none] [] g := by
    intro   g hf
    unfold w_J5_ensureCapacityInternal_d00df_b38 at hf
    exact gg_vret C hr (by decide) (by decide) dJ5_ensureCapacityInternal_d00df_38 hf
  unfold w_J5_ensureCapacityInternal_d00df at hf
  refine gg_aload_n C dJ5_ensureCapacityInternal_d00df_0 rfl ?_
  refine gg_getR C dJ5_ensureCapacityInternal_d00df_1 lk_java_lang_AbstractStringBuilder_15 hf (fun r1 hf => ?_)
  refine gg_alen C dJ5_ensureCapacityInternal_d00df_4 hf (fun i2 hf => ?_)
  refine gg_aload_n C dJ5_ensureCapacityInternal_d00df_5 rfl ?_
  refine gg_getI C dJ5_ensureCapacityInternal_d00df_6 lk_java_lang_AbstractStringBuilder_22 hf (fun i3 hf => ?_)
  refine gg_ishr C dJ5_ensureCapacityInternal_d00df_9 ?_
  refine gg_istore_n (L' := [some (va_rf v0), some (.int v1), some (.int (i2 >>> (i3 &&& 31)))]) C dJ5_ensureCapacityInternal_d00df_10 (Or.inr (Or.inr ⟨_, rfl, rfl⟩)) (by decide) rfl ?_
  refine gg_iload_n C dJ5_ensureCapacityInternal_d00df_11 rfl ?_
  refine gg_iload_n C dJ5_ensureCapacityInternal_d00df_12 rfl ?_
  refine gg_isub C dJ5_ensureCapacityInternal_d00df_13 ?_
  refine gg_if_le (tgt := 38) C dJ5_ensureCapacityInternal_d00df_14 (by decide) hf (fun hf => ?_) (fun hf => ?_)
  · exact gg_sub (L' := [none, none, none]) (by first | exact trivial | simp [gsub]) (gg_widen (k' := 1) (n' := 128) (by decide) (by decide) (hb_38 _ hf))
  · refine gg_aload_n C dJ5_ensureCapacityInternal_d00df_17 rfl ?_
    refine gg_aload_n C dJ5_ensureCapacityInternal_d00df_18 rfl ?_
    refine gg_getR C dJ5_ensureCapacityInternal_d00df_19 lk_java_lang_AbstractStringBuilder_15 hf (fun r4 hf => ?_)
    refine gg_aload_n C dJ5_ensureCapacityInternal_d00df_22 rfl ?_
    refine gg_iload_n C dJ5_ensureCapacityInternal_d00df_23 rfl ?_
    refine gr_I (k' := 0) (n' := 0) (gk_U (nA := 1) (ci := 9) (x := yJ5_newCapacity_0f7a4) (owner := "java/lang/AbstractStringBuilder") (Cn := "java/lang/StringBuilder") (As := [.int v1]) (rest := [va_rf r4, va_rf v0]) C dJ5_ensureCapacityInternal_d00df_24 rfl rfl tw_731 tw_1376 tw_733 tx_0 tw_30 tw_734 rfl ⟨by decide +kernel, by decide +kernel, by decide +kernel⟩ rfl ⟨by decide, by decide⟩ (by simp [gcat, gcI, gcL, gcF, gcD]) ⟨by decide, by decide⟩ hf (fun hf => m_J5_newCapacity_0f7a4 hfl hf)) rfl rfl (fun E g9 h9 => gx_out C (fun x hx => (ht x hx).elim) (by decide) (by decide) h9) (fun i6 g5 hf => ?_)
    refine gg_aload_n C dJ5_ensureCapacityInternal_d00df_27 rfl ?_
    refine gg_getI C dJ5_ensureCapacityInternal_d00df_28 lk_java_lang_AbstractStringBuilder_22 hf (fun i7 hf => ?_)
    refine gg_ishl C dJ5_ensureCapacityInternal_d00df_31 ?_
    refine gr_R (k' := 1) (n' := 128) (gk_S (As := [va_rf r4, .int (i6 <<< (i7 &&& 31))]) (rest := [va_rf v0]) C dJ5_ensureCapacityInternal_d00df_32 tw_737 tw_738 tw_45 tw_739 gd_J7_copyOf_9075b rfl ⟨by decide, by decide⟩ (by simp [gcat, gcI, gcL, gcF, gcD]) ⟨by decide, by decide⟩ (m_J7_copyOf_9075b hfl hf)) rfl rfl (fun E g9 h9 => gx_out C (fun x hx => (ht x hx).elim) (by decide) (by decide) h9) (fun r9 g8 hf => ?_)
    refine gg_put C dJ5_ensureCapacityInternal_d00df_35 pk_java_lang_AbstractStringBuilder_15 (gNar_arr _ _) hf (fun g10 hf => ?_)
    exact gg_sub (L' := [none, none, none]) (by first | exact trivial | simp [gsub]) (hb_38 _ hf)

def w_J5_isLatin1_aae02_b18 (X : Cx) (post : Int32 → GM → Prop) (px : String → GM → Prop)  (t0 : Int32) (g : GM) : Prop :=
  (narrow .boolean (.int t0) = .int t0 ∧ post t0 g)
def w_J5_isLatin1_aae02_b17 (X : Cx) (post : Int32 → GM → Prop) (px : String → GM → Prop)   (g : GM) : Prop :=
  w_J5_isLatin1_aae02_b18 X post px (0 : Int32) g
def w_J5_isLatin1_aae02 (X : Cx) (post : Int32 → GM → Prop) (px : String → GM → Prop) (v0 : Option Nat) (g : GM) : Prop :=
  (if (1 : Int32) = 0 then w_J5_isLatin1_aae02_b17 X post px g else wGetI g v0 9 1 (fun (i1 : Int32) => (if i1 = 0 then w_J5_isLatin1_aae02_b18 X post px (1 : Int32) g else w_J5_isLatin1_aae02_b17 X post px g)))
abbrev rm_J5_isLatin1_aae02 : Room := { frames := 0, cells := 0, slots := 0, locals := 0 }
set_option maxHeartbeats 4000000 in
set_option maxRecDepth 100000 in
theorem m_J5_isLatin1_aae02 {X : Cx} {l : Launch} (hfl : l.stackTraces = false) {post : Int32 → GM → Prop} {px : String → GM → Prop} {v0 : Option Nat} {g : GM} (hf : w_J5_isLatin1_aae02 X post px v0 g) : gMet X l yJ5_isLatin1_aae02 cJ5_isLatin1_aae02 1 (some .boolean) rm_J5_isLatin1_aae02 [va_rf v0] g (qI X post) px := by
  refine gg_enter (L := [some (va_rf v0)]) hfl (by decide +kernel) (by simp [lg_sl, gcat, gcI, gcL, gcF, gcD]) (by simp [gll, lv_args, gcat, gcI, gcL, gcF, gcD]) ?_
  intro p e s m args below meth c C hr ht hm
  have C : FC X p l s m args meth c cJ5_isLatin1_aae02 1 "java/lang/AbstractStringBuilder" := C
  have hb_18 : ∀ (t0 : Int32) (g : GM), w_J5_isLatin1_aae02_b18 X post px  t0 g → GG X p l e rm_J5_isLatin1_aae02 s m args below meth c 1 (vx_MQ below (qI X post) (gXC X px) args s rm_J5_isLatin1_aae02.cells rm_J5_isLatin1_aae02.slots (gA X)) 0 0 18 [none] [.int t0] g := by
    intro  t0 g hf
    unfold w_J5_isLatin1_aae02_b18 at hf
    exact gg_iret C hr (by decide) (by decide) dJ5_isLatin1_aae02_18 hf.1 hf.2
  have hb_17 : ∀  (g : GM), w_J5_isLatin1_aae02_b17 X post px   g → GG X p l e rm_J5_isLatin1_aae02 s m args below meth c 1 (vx_MQ below (qI X post) (gXC X px) args s rm_J5_isLatin1_aae02.cells rm_J5_isLatin1_aae02.slots (gA X)) 0 0 17 [none] [] g := by
    intro   g hf
    unfold w_J5_isLatin1_aae02_b17 at hf
    refine gg_iconst C dJ5_isLatin1_aae02_17 (v := (0 : Int32)) (by decide) ?_
    exact hb_18 _ _ hf
  unfold w_J5_isLatin1_aae02 at hf
  refine gg_s_compact C dJ5_isLatin1_aae02_0 tw_120 ?_
  refine gg_if_eq (tgt := 17) C dJ5_isLatin1_aae02_3 (by decide) hf (fun hf => ?_) (fun hf => ?_)
  · exact gg_sub (L' := [none]) (by first | exact trivial | simp [gsub]) (hb_17 _ hf)
  · refine gg_aload_n C dJ5_isLatin1_aae02_6 rfl ?_
    refine gg_getI C dJ5_isLatin1_aae02_7 lk_java_lang_AbstractStringBuilder_22 hf (fun i1 hf => ?_)
    refine gg_if_ne (tgt := 17) C dJ5_isLatin1_aae02_10 (by decide) hf (fun hf => ?_) (fun hf => ?_)
    · exact gg_sub (L' := [none]) (by first | exact trivial | simp [gsub]) (hb_17 _ hf)
    · refine gg_iconst C dJ5_isLatin1_aae02_13 (v := (1 : Int32)) (by decide) ?_
      refine gg_goto (tgt := 18) C dJ5_isLatin1_aae02_14 (by decide) ?_
      exact gg_sub (L' := [none]) (by first | exact trivial | simp [gsub]) (hb_18 _ _ hf)

def w_J5_setLength_d00df_b76 (X : Cx) (post : GM → Prop) (px : String → GM → Prop)  (l0 : Option Nat) (l1 : Int32) (g : GM) : Prop :=
  wPut g l0 9 3 (.int l1) (fun g4 => post g4)
def w_J5_setLength_d00df (X : Cx) (post : GM → Prop) (px : String → GM → Prop) (v0 : Option Nat) (v1 : Int32) (g : GM) : Prop :=
  (if 0 ≤ v1 then wIs g v0 9 (w_J5_ensureCapacityInternal_d00df X (fun (g1 : GM) => wGetI g1 v0 9 3 (fun (i2 : Int32) => (if v1 ≤ i2 then wGetI g1 v0 9 3 (fun (i3 : Int32) => (if i3 ≤ v1 then w_J5_setLength_d00df_b76 X post px v0 v1 g1 else wPut g1 v0 9 2 (.int (1 : Int32)) (fun g5 => w_J5_setLength_d00df_b76 X post px v0 v1 g5))) else wIs g1 v0 9 (w_J5_isLatin1_aae02 X (fun (i7 : Int32) (g6 : GM) => (if i7 = 0 then wGetR g6 v0 9 0 (fun (r8 : Option Nat) => wGetI g6 v0 9 3 (fun (i9 : Int32) => False)) else wGetR g6 v0 9 0 (fun (r10 : Option Nat) => wGetI g6 v0 9 3 (fun (i11 : Int32) => False)))) px v0 g1)))) px v0 v1 g) else False)
abbrev rm_J5_setLength_d00df : Room := { frames := 4, cells := 1, slots := 128, locals := 124 }
set_option maxHeartbeats 4000000 in
set_option maxRecDepth 100000 in
theorem m_J5_setLength_d00df {X : Cx} {l : Launch} (hfl : l.stackTraces = false) {post : GM → Prop} {px : String → GM → Prop} {v0 : Option Nat} {v1 : Int32} {g : GM} (hf : w_J5_setLength_d00df X post px v0 v1 g) : gMet X l yJ5_setLength_d00df cJ5_setLength_d00df 2 none rm_J5_setLength_d00df [va_rf v0, .int v1] g (qV X post) px := by
  refine gg_enter (L := [some (va_rf v0), some (.int v1)]) hfl (by decide +kernel) (by simp [lg_sl, gcat, gcI, gcL, gcF, gcD]) (by simp [gll, lv_args, gcat, gcI, gcL, gcF, gcD]) ?_
  intro p e s m args below meth c C hr ht hm
  have C : FC X p l s m args meth c cJ5_setLength_d00df 2 "java/lang/AbstractStringBuilder" := C
  have hb_76 : ∀ (l0 : Option Nat) (l1 : Int32) (g : GM), w_J5_setLength_d00df_b76 X post px  l0 l1 g → GG X p l e rm_J5_setLength_d00df s m args below meth c 2 (vx_MQ below (qV X post) (gXC X px) args s rm_J5_setLength_d00df.cells rm_J5_setLength_d00df.slots (gA X)) 1 128 76 [some (va_rf l0), some (.int l1)] [] g := by
    intro  l0 l1 g hf
    unfold w_J5_setLength_d00df_b76 at hf
    refine gg_aload_n C dJ5_setLength_d00df_76 rfl ?_
    refine gg_iload_n C dJ5_setLength_d00df_77 rfl ?_
    refine gg_put C dJ5_setLength_d00df_78 pk_java_lang_AbstractStringBuilder_79 (gNar_int _) hf (fun g4 hf => ?_)
    exact gg_vret C hr (by decide) (by decide) dJ5_setLength_d00df_81 hf
  unfold w_J5_setLength_d00df at hf
  refine gg_iload_n C dJ5_setLength_d00df_0 rfl ?_
  refine gg_if_ge (tgt := 13) C dJ5_setLength_d00df_1 (by decide) hf (fun hf => ?_) (fun hf => ?_)
  · refine gg_aload_n C dJ5_setLength_d00df_13 rfl ?_
    refine gg_iload_n C dJ5_setLength_d00df_14 rfl ?_
    refine gr_V (k' := 1) (n' := 128) (gk_U (nA := 1) (ci := 9) (x := yJ5_ensureCapacityInternal_d00df) (owner := "java/lang/AbstractStringBuilder") (Cn := "java/lang/StringBuilder") (As := [.int v1]) (rest := []) C dJ5_setLength_d00df_15 rfl rfl tw_727 tw_1375 tw_729 tx_1 tw_30 tw_730 rfl ⟨by decide +kernel, by decide +kernel, by decide +kernel⟩ rfl ⟨by decide, by decide⟩ (by simp [gcat, gcI, gcL, gcF, gcD]) ⟨by decide, by decide⟩ hf (fun hf => m_J5_ensureCapacityInternal_d00df hfl hf)) rfl rfl (fun E g9 h9 => gx_out C (fun x hx => (ht x hx).elim) (by decide) (by decide) h9) (fun g1 hf => ?_)
    refine gg_aload_n C dJ5_setLength_d00df_18 rfl ?_
    refine gg_getI C dJ5_setLength_d00df_19 lk_java_lang_AbstractStringBuilder_79 hf (fun i2 hf => ?_)
    refine gg_iload_n C dJ5_setLength_d00df_22 rfl ?_
    refine gg_icmp_ge (tgt := 63) C dJ5_setLength_d00df_23 (by decide) hf (fun hf => ?_) (fun hf => ?_)
    · refine gg_aload_n C dJ5_setLength_d00df_63 rfl ?_
      refine gg_getI C dJ5_setLength_d00df_64 lk_java_lang_AbstractStringBuilder_79 hf (fun i3 hf => ?_)
      refine gg_iload_n C dJ5_setLength_d00df_67 rfl ?_
      refine gg_icmp_le (tgt := 76) C dJ5_setLength_d00df_68 (by decide) hf (fun hf => ?_) (fun hf => ?_)
      · exact hb_76 _ _ _ hf
      · refine gg_aload_n C dJ5_setLength_d00df_71 rfl ?_
        refine gg_iconst C dJ5_setLength_d00df_72 (v := (1 : Int32)) (by decide) ?_
        refine gg_put C dJ5_setLength_d00df_73 pk_java_lang_AbstractStringBuilder_73 ⟨rfl, rfl⟩ hf (fun g5 hf => ?_)
        exact hb_76 _ _ _ hf
    · refine gg_aload_n C dJ5_setLength_d00df_26 rfl ?_
      refine gr_I (k' := 1) (n' := 128) (gk_U (nA := 0) (ci := 9) (x := yJ5_isLatin1_aae02) (owner := "java/lang/AbstractStringBuilder") (Cn := "java/lang/StringBuilder") (As := []) (rest := []) C dJ5_setLength_d00df_27 rfl rfl tw_747 tw_749 tw_748 tw_750 tw_30 tw_751 rfl ⟨by decide +kernel, by decide +kernel, by decide +kernel⟩ rfl ⟨by decide, by decide⟩ (by simp [gcat, gcI, gcL, gcF, gcD]) ⟨by decide, by decide⟩ hf (fun hf => m_J5_isLatin1_aae02 hfl hf)) rfl rfl (fun E g9 h9 => gx_out C (fun x hx => (ht x hx).elim) (by decide) (by decide) h9) (fun i7 g6 hf => ?_)
      refine gg_if_eq (tgt := 48) C dJ5_setLength_d00df_30 (by decide) hf (fun hf => ?_) (fun hf => ?_)
      · refine gg_aload_n C dJ5_setLength_d00df_48 rfl ?_
        refine gg_getR C dJ5_setLength_d00df_49 lk_java_lang_AbstractStringBuilder_15 hf (fun r8 hf => ?_)
        refine gg_aload_n C dJ5_setLength_d00df_52 rfl ?_
        refine gg_getI C dJ5_setLength_d00df_53 lk_java_lang_AbstractStringBuilder_79 hf (fun i9 hf => ?_)
        refine gg_iload_n C dJ5_setLength_d00df_56 rfl ?_
        exact hf.elim
      · refine gg_aload_n C dJ5_setLength_d00df_33 rfl ?_
        refine gg_getR C dJ5_setLength_d00df_34 lk_java_lang_AbstractStringBuilder_15 hf (fun r10 hf => ?_)
        refine gg_aload_n C dJ5_setLength_d00df_37 rfl ?_
        refine gg_getI C dJ5_setLength_d00df_38 lk_java_lang_AbstractStringBuilder_79 hf (fun i11 hf => ?_)
        refine gg_iload_n C dJ5_setLength_d00df_41 rfl ?_
        exact hf.elim
  · exact hf.elim

def w_J4_setLength_d00df (X : Cx) (post : GM → Prop) (px : String → GM → Prop) (v0 : Option Nat) (v1 : Int32) (g : GM) : Prop :=
  wIs g v0 9 (w_J5_setLength_d00df X (fun (g1 : GM) => post g1) px v0 v1 g)
abbrev rm_J4_setLength_d00df : Room := { frames := 5, cells := 1, slots := 128, locals := 145 }
set_option maxHeartbeats 4000000 in
set_option maxRecDepth 100000 in
theorem m_J4_setLength_d00df {X : Cx} {l : Launch} (hfl : l.stackTraces = false) {post : GM → Prop} {px : String → GM → Prop} {v0 : Option Nat} {v1 : Int32} {g : GM} (hf : w_J4_setLength_d00df X post px v0 v1 g) : gMet X l yJ4_setLength_d00df cJ4_setLength_d00df 2 none rm_J4_setLength_d00df [va_rf v0, .int v1] g (qV X post) px := by
  refine gg_enter (L := [some (va_rf v0), some (.int v1)]) hfl (by decide +kernel) (by simp [lg_sl, gcat, gcI, gcL, gcF, gcD]) (by simp [gll, lv_args, gcat, gcI, gcL, gcF, gcD]) ?_
  intro p e s m args below meth c C hr ht hm
  have C : FC X p l s m args meth c cJ4_setLength_d00df 2 "java/lang/StringBuilder" := C
  unfold w_J4_setLength_d00df at hf
  refine gg_aload_n C dJ4_setLength_d00df_0 rfl ?_
  refine gg_iload_n C dJ4_setLength_d00df_1 rfl ?_
  refine gr_V (k' := 1) (n' := 128) (gk_SU (nA := 1) (ci := 9) (As := [.int v1]) (rest := []) C dJ4_setLength_d00df_2 rfl tw_705 tw_1372 tw_142 tw_706 tw_30 tw_707 ⟨by decide +kernel, by decide +kernel⟩ rfl ⟨by decide, by decide⟩ (by simp [gcat, gcI, gcL, gcF, gcD]) ⟨by decide, by decide⟩ hf (fun hf => m_J5_setLength_d00df hfl hf)) rfl rfl (fun E g9 h9 => gx_out C (fun x hx => (ht x hx).elim) (by decide) (by decide) h9) (fun g1 hf => ?_)
  exact gg_vret C hr (by decide) (by decide) dJ4_setLength_d00df_5 hf

def w_J1_canEncode_fc78d_b12 (X : Cx) (post : Int32 → GM → Prop) (px : String → GM → Prop)  (t0 : Int32) (g : GM) : Prop :=
  (narrow .boolean (.int t0) = .int t0 ∧ post t0 g)
def w_J1_canEncode_fc78d (X : Cx) (post : Int32 → GM → Prop) (px : String → GM → Prop) (v0 : Int32) (g : GM) : Prop :=
  (if (255 : Int32) < v0 then w_J1_canEncode_fc78d_b12 X post px (0 : Int32) g else w_J1_canEncode_fc78d_b12 X post px (1 : Int32) g)
abbrev rm_J1_canEncode_fc78d : Room := { frames := 0, cells := 0, slots := 0, locals := 0 }
set_option maxHeartbeats 4000000 in
set_option maxRecDepth 100000 in
theorem m_J1_canEncode_fc78d {X : Cx} {l : Launch} (hfl : l.stackTraces = false) {post : Int32 → GM → Prop} {px : String → GM → Prop} {v0 : Int32} {g : GM} (hf : w_J1_canEncode_fc78d X post px v0 g) : gMet X l yJ1_canEncode_fc78d cJ1_canEncode_fc78d 1 (some .boolean) rm_J1_canEncode_fc78d [.int v0] g (qI X post) px := by
  refine gg_enter (L := [some (.int v0)]) hfl (by decide +kernel) (by simp [lg_sl, gcat, gcI, gcL, gcF, gcD]) (by simp [gll, lv_args, gcat, gcI, gcL, gcF, gcD]) ?_
  intro p e s m args below meth c C hr ht hm
  have C : FC X p l s m args meth c cJ1_canEncode_fc78d 1 "java/lang/StringLatin1" := C
  have hb_12 : ∀ (t0 : Int32) (g : GM), w_J1_canEncode_fc78d_b12 X post px  t0 g → GG X p l e rm_J1_canEncode_fc78d s m args below meth c 1 (vx_MQ below (qI X post) (gXC X px) args s rm_J1_canEncode_fc78d.cells rm_J1_canEncode_fc78d.slots (gA X)) 0 0 12 [none] [.int t0] g := by
    intro  t0 g hf
    unfold w_J1_canEncode_fc78d_b12 at hf
    exact gg_iret C hr (by decide) (by decide) dJ1_canEncode_fc78d_12 hf.1 hf.2
  unfold w_J1_canEncode_fc78d at hf
  refine gg_iload_n C dJ1_canEncode_fc78d_0 rfl ?_
  refine gg_sipush C dJ1_canEncode_fc78d_1 (v := (255 : Int32)) (by decide) ?_
  refine gg_icmp_gt (tgt := 11) C dJ1_canEncode_fc78d_4 (by decide) hf (fun hf => ?_) (fun hf => ?_)
  · refine gg_iconst C dJ1_canEncode_fc78d_11 (v := (0 : Int32)) (by decide) ?_
    exact gg_sub (L' := [none]) (by first | exact trivial | simp [gsub]) (hb_12 _ _ hf)
  · refine gg_iconst C dJ1_canEncode_fc78d_7 (v := (1 : Int32)) (by decide) ?_
    refine gg_goto (tgt := 12) C dJ1_canEncode_fc78d_8 (by decide) ?_
    exact gg_sub (L' := [none]) (by first | exact trivial | simp [gsub]) (hb_12 _ _ hf)

def w_J5_append_3fe6f_b45 (X : Cx) (post : Option Nat → GM → Prop) (px : String → GM → Prop)  (l0 : Option Nat) (l1 : Int32) (g : GM) : Prop :=
  wIs g l0 9 (w_J5_isLatin1_aae02 X (fun (i6 : Int32) (g5 : GM) => (if i6 = 0 then wGetR g5 l0 9 0 (fun (r7 : Option Nat) => wGetI g5 l0 9 3 (fun (i8 : Int32) => wPut g5 l0 9 3 (.int (i8 + (1 : Int32))) (fun g9 => False))) else False)) px l0 g)
def w_J5_append_3fe6f (X : Cx) (post : Option Nat → GM → Prop) (px : String → GM → Prop) (v0 : Option Nat) (v1 : Int32) (g : GM) : Prop :=
  wGetI g v0 9 3 (fun (i1 : Int32) => wIs g v0 9 (w_J5_ensureCapacityInternal_d00df X (fun (g2 : GM) => wIs g2 v0 9 (w_J5_isLatin1_aae02 X (fun (i4 : Int32) (g3 : GM) => (if i4 = 0 then w_J5_append_3fe6f_b45 X post px v0 v1 g3 else w_J1_canEncode_fc78d X (fun (i11 : Int32) (g10 : GM) => (if i11 = 0 then w_J5_append_3fe6f_b45 X post px v0 v1 g10 else wGetR g10 v0 9 0 (fun (r12 : Option Nat) => wGetI g10 v0 9 3 (fun (i13 : Int32) => wPut g10 v0 9 3 (.int (i13 + (1 : Int32))) (fun g14 => wAst g14 r12 i13 2 (vp_nar .byte ((v1).toInt8.toInt32)) (fun g15 => post v0 g15)))))) px v1 g3)) px v0 g2)) px v0 (i1 + (1 : Int32)) g))
abbrev rm_J5_append_3fe6f : Room := { frames := 4, cells := 1, slots := 128, locals := 124 }
set_option maxHeartbeats 4000000 in
set_option maxRecDepth 100000 in
theorem m_J5_append_3fe6f {X : Cx} {l : Launch} (hfl : l.stackTraces = false) {post : Option Nat → GM → Prop} {px : String → GM → Prop} {v0 : Option Nat} {v1 : Int32} {g : GM} (hf : w_J5_append_3fe6f X post px v0 v1 g) : gMet X l yJ5_append_3fe6f cJ5_append_3fe6f 2 (some (.object "java/lang/AbstractStringBuilder")) rm_J5_append_3fe6f [va_rf v0, .int v1] g (qR X post) px := by
  refine gg_enter (L := [some (va_rf v0), some (.int v1)]) hfl (by decide +kernel) (by simp [lg_sl, gcat, gcI, gcL, gcF, gcD]) (by simp [gll, lv_args, gcat, gcI, gcL, gcF, gcD]) ?_
  intro p e s m args below meth c C hr ht hm
  have C : FC X p l s m args meth c cJ5_append_3fe6f 2 "java/lang/AbstractStringBuilder" := C
  have hb_45 : ∀ (l0 : Option Nat) (l1 : Int32) (g : GM), w_J5_append_3fe6f_b45 X post px  l0 l1 g → GG X p l e rm_J5_append_3fe6f s m args below meth c 2 (vx_MQ below (qR X post) (gXC X px) args s rm_J5_append_3fe6f.cells rm_J5_append_3fe6f.slots (gA X)) 1 128 45 [some (va_rf l0), some (.int l1)] [] g := by
    intro  l0 l1 g hf
    unfold w_J5_append_3fe6f_b45 at hf
    refine gg_aload_n C dJ5_append_3fe6f_45 rfl ?_
    refine gr_I (k' := 1) (n' := 128) (gk_U (nA := 0) (ci := 9) (x := yJ5_isLatin1_aae02) (owner := "java/lang/AbstractStringBuilder") (Cn := "java/lang/StringBuilder") (As := []) (rest := []) C dJ5_append_3fe6f_46 rfl rfl tw_747 tw_749 tw_748 tw_750 tw_30 tw_751 rfl ⟨by decide +kernel, by decide +kernel, by decide +kernel⟩ rfl ⟨by decide, by decide⟩ (by simp [gcat, gcI, gcL, gcF, gcD]) ⟨by decide, by decide⟩ hf (fun hf => m_J5_isLatin1_aae02 hfl hf)) rfl rfl (fun E g9 h9 => gx_out C (fun x hx => (ht x hx).elim) (by decide) (by decide) h9) (fun i6 g5 hf => ?_)
    refine gg_if_eq (tgt := 56) C dJ5_append_3fe6f_49 (by decide) hf (fun hf => ?_) (fun hf => ?_)
    · refine gg_aload_n C dJ5_append_3fe6f_56 rfl ?_
      refine gg_getR C dJ5_append_3fe6f_57 lk_java_lang_AbstractStringBuilder_15 hf (fun r7 hf => ?_)
      refine gg_aload_n C dJ5_append_3fe6f_60 rfl ?_
      refine gg_dup C dJ5_append_3fe6f_61 (gcat _) ?_
      refine gg_getI C dJ5_append_3fe6f_62 lk_java_lang_AbstractStringBuilder_79 hf (fun i8 hf => ?_)
      refine gg_dup_x1 C dJ5_append_3fe6f_65 (rfl) (gcat _) ?_
      refine gg_iconst C dJ5_append_3fe6f_66 (v := (1 : Int32)) (by decide) ?_
      refine gg_iadd C dJ5_append_3fe6f_67 ?_
      refine gg_put C dJ5_append_3fe6f_68 pk_java_lang_AbstractStringBuilder_79 (gNar_int _) hf (fun g9 hf => ?_)
      refine gg_iload_n C dJ5_append_3fe6f_71 rfl ?_
      exact hf.elim
    · refine gg_aload_n C dJ5_append_3fe6f_52 rfl ?_
      exact hf.elim
  unfold w_J5_append_3fe6f at hf
  refine gg_aload_n C dJ5_append_3fe6f_0 rfl ?_
  refine gg_aload_n C dJ5_append_3fe6f_1 rfl ?_
  refine gg_getI C dJ5_append_3fe6f_2 lk_java_lang_AbstractStringBuilder_79 hf (fun i1 hf => ?_)
  refine gg_iconst C dJ5_append_3fe6f_5 (v := (1 : Int32)) (by decide) ?_
  refine gg_iadd C dJ5_append_3fe6f_6 ?_
  refine gr_V (k' := 1) (n' := 128) (gk_U (nA := 1) (ci := 9) (x := yJ5_ensureCapacityInternal_d00df) (owner := "java/lang/AbstractStringBuilder") (Cn := "java/lang/StringBuilder") (As := [.int (i1 + (1 : Int32))]) (rest := []) C dJ5_append_3fe6f_7 rfl rfl tw_727 tw_1375 tw_729 tx_1 tw_30 tw_730 rfl ⟨by decide +kernel, by decide +kernel, by decide +kernel⟩ rfl ⟨by decide, by decide⟩ (by simp [gcat, gcI, gcL, gcF, gcD]) ⟨by decide, by decide⟩ hf (fun hf => m_J5_ensureCapacityInternal_d00df hfl hf)) rfl rfl (fun E g9 h9 => gx_out C (fun x hx => (ht x hx).elim) (by decide) (by decide) h9) (fun g2 hf => ?_)
  refine gg_aload_n C dJ5_append_3fe6f_10 rfl ?_
  refine gr_I (k' := 1) (n' := 128) (gk_U (nA := 0) (ci := 9) (x := yJ5_isLatin1_aae02) (owner := "java/lang/AbstractStringBuilder") (Cn := "java/lang/StringBuilder") (As := []) (rest := []) C dJ5_append_3fe6f_11 rfl rfl tw_747 tw_749 tw_748 tw_750 tw_30 tw_751 rfl ⟨by decide +kernel, by decide +kernel, by decide +kernel⟩ rfl ⟨by decide, by decide⟩ (by simp [gcat, gcI, gcL, gcF, gcD]) ⟨by decide, by decide⟩ hf (fun hf => m_J5_isLatin1_aae02 hfl hf)) rfl rfl (fun E g9 h9 => gx_out C (fun x hx => (ht x hx).elim) (by decide) (by decide) h9) (fun i4 g3 hf => ?_)
  refine gg_if_eq (tgt := 45) C dJ5_append_3fe6f_14 (by decide) hf (fun hf => ?_) (fun hf => ?_)
  · exact hb_45 _ _ _ hf
  · refine gg_iload_n C dJ5_append_3fe6f_17 rfl ?_
    refine gr_I (k' := 1) (n' := 128) (gk_S (As := [.int v1]) (rest := []) C dJ5_append_3fe6f_18 tw_971 tw_972 tw_47 tw_973 gd_J1_canEncode_fc78d rfl ⟨by decide, by decide⟩ (by simp [gcat, gcI, gcL, gcF, gcD]) ⟨by decide, by decide⟩ (m_J1_canEncode_fc78d hfl hf)) rfl rfl (fun E g9 h9 => gx_out C (fun x hx => (ht x hx).elim) (by decide) (by decide) h9) (fun i11 g10 hf => ?_)
    refine gg_if_eq (tgt := 45) C dJ5_append_3fe6f_21 (by decide) hf (fun hf => ?_) (fun hf => ?_)
    · exact hb_45 _ _ _ hf
    · refine gg_aload_n C dJ5_append_3fe6f_24 rfl ?_
      refine gg_getR C dJ5_append_3fe6f_25 lk_java_lang_AbstractStringBuilder_15 hf (fun r12 hf => ?_)
      refine gg_aload_n C dJ5_append_3fe6f_28 rfl ?_
      refine gg_dup C dJ5_append_3fe6f_29 (gcat _) ?_
      refine gg_getI C dJ5_append_3fe6f_30 lk_java_lang_AbstractStringBuilder_79 hf (fun i13 hf => ?_)
      refine gg_dup_x1 C dJ5_append_3fe6f_33 (rfl) (gcat _) ?_
      refine gg_iconst C dJ5_append_3fe6f_34 (v := (1 : Int32)) (by decide) ?_
      refine gg_iadd C dJ5_append_3fe6f_35 ?_
      refine gg_put C dJ5_append_3fe6f_36 pk_java_lang_AbstractStringBuilder_79 (gNar_int _) hf (fun g14 hf => ?_)
      refine gg_iload_n C dJ5_append_3fe6f_39 rfl ?_
      refine gg_i2b C dJ5_append_3fe6f_40 ?_
      refine gg_bast C dJ5_append_3fe6f_41 hf (fun g15 hf => ?_)
      refine gg_goto (tgt := 75) C dJ5_append_3fe6f_42 (by decide) ?_
      refine gg_aload_n C dJ5_append_3fe6f_75 rfl ?_
      exact gg_aret C hr (Or.inl ⟨_, rfl⟩) (by decide) (by decide) dJ5_append_3fe6f_76 hf
