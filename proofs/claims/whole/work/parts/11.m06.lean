def w_X8_thrown (X : Cx) (post : Int32 → GM → Prop) (px : String → GM → Prop) (v0 : Option Nat) (g : GM) : Prop :=
  wGetI g v0 8 36 (fun (i1 : Int32) => post i1 g)
abbrev rm_X8_thrown : Room := { frames := 0, cells := 0, slots := 0, locals := 0 }
set_option maxHeartbeats 4000000 in
set_option maxRecDepth 100000 in
theorem m_X8_thrown {X : Cx} {l : Launch} (hfl : l.stackTraces = false) {post : Int32 → GM → Prop} {px : String → GM → Prop} {v0 : Option Nat} {g : GM} (hf : w_X8_thrown X post px v0 g) : gMet X l yX8_thrown cX8_thrown 1 (some .int) rm_X8_thrown [va_rf v0] g (qI X post) px := by
  refine gg_enter (L := [some (va_rf v0)]) hfl (by decide +kernel) (by simp [lg_sl, gcat, gcI, gcL, gcF, gcD]) (by simp [gll, lv_args, gcat, gcI, gcL, gcF, gcD]) ?_
  intro p e s m args below meth c C hr ht hm
  have C : FC X p l s m args meth c cX8_thrown 1 "ReleasetrainModel" := C
  unfold w_X8_thrown at hf
  refine gg_aload_n C dX8_thrown_0 rfl ?_
  refine gg_getI C dX8_thrown_1 lk_X8_110 hf (fun i1 hf => ?_)
  exact gg_iret C hr (by decide) (by decide) dX8_thrown_4 rfl hf

def w_X8_in_b15 (X : Cx) (post : Int32 → GM → Prop) (px : String → GM → Prop)  (t0 : Int32) (g : GM) : Prop :=
  (narrow .boolean (.int t0) = .int t0 ∧ post t0 g)
def w_X8_in_b14 (X : Cx) (post : Int32 → GM → Prop) (px : String → GM → Prop)   (g : GM) : Prop :=
  w_X8_in_b15 X post px (0 : Int32) g
def w_X8_in (X : Cx) (post : Int32 → GM → Prop) (px : String → GM → Prop) (v0 : Int32) (v1 : Int32) (v2 : Int32) (g : GM) : Prop :=
  (if v0 < v1 then w_X8_in_b14 X post px g else (if v2 < v0 then w_X8_in_b14 X post px g else w_X8_in_b15 X post px (1 : Int32) g))
abbrev rm_X8_in : Room := { frames := 0, cells := 0, slots := 0, locals := 0 }
set_option maxHeartbeats 4000000 in
set_option maxRecDepth 100000 in
theorem m_X8_in {X : Cx} {l : Launch} (hfl : l.stackTraces = false) {post : Int32 → GM → Prop} {px : String → GM → Prop} {v0 : Int32} {v1 : Int32} {v2 : Int32} {g : GM} (hf : w_X8_in X post px v0 v1 v2 g) : gMet X l yX8_in cX8_in 3 (some .boolean) rm_X8_in [.int v0, .int v1, .int v2] g (qI X post) px := by
  refine gg_enter (L := [some (.int v0), some (.int v1), some (.int v2)]) hfl (by decide +kernel) (by simp [lg_sl, gcat, gcI, gcL, gcF, gcD]) (by simp [gll, lv_args, gcat, gcI, gcL, gcF, gcD]) ?_
  intro p e s m args below meth c C hr ht hm
  have C : FC X p l s m args meth c cX8_in 3 "ReleasetrainModel" := C
  have hb_15 : ∀ (t0 : Int32) (g : GM), w_X8_in_b15 X post px  t0 g → GG X p l e rm_X8_in s m args below meth c 3 (vx_MQ below (qI X post) (gXC X px) args s rm_X8_in.cells rm_X8_in.slots (gA X)) 0 0 15 [none, none, none] [.int t0] g := by
    intro  t0 g hf
    unfold w_X8_in_b15 at hf
    exact gg_iret C hr (by decide) (by decide) dX8_in_15 hf.1 hf.2
  have hb_14 : ∀  (g : GM), w_X8_in_b14 X post px   g → GG X p l e rm_X8_in s m args below meth c 3 (vx_MQ below (qI X post) (gXC X px) args s rm_X8_in.cells rm_X8_in.slots (gA X)) 0 0 14 [none, none, none] [] g := by
    intro   g hf
    unfold w_X8_in_b14 at hf
    refine gg_iconst C dX8_in_14 (v := (0 : Int32)) (by decide) ?_
    exact hb_15 _ _ hf
  unfold w_X8_in at hf
  refine gg_iload_n C dX8_in_0 rfl ?_
  refine gg_iload_n C dX8_in_1 rfl ?_
  refine gg_icmp_lt (tgt := 14) C dX8_in_2 (by decide) hf (fun hf => ?_) (fun hf => ?_)
  · exact gg_sub (L' := [none, none, none]) (by first | exact trivial | simp [gsub]) (hb_14 _ hf)
  · refine gg_iload_n C dX8_in_5 rfl ?_
    refine gg_iload_n C dX8_in_6 rfl ?_
    refine gg_icmp_gt (tgt := 14) C dX8_in_7 (by decide) hf (fun hf => ?_) (fun hf => ?_)
    · exact gg_sub (L' := [none, none, none]) (by first | exact trivial | simp [gsub]) (hb_14 _ hf)
    · refine gg_iconst C dX8_in_10 (v := (1 : Int32)) (by decide) ?_
      refine gg_goto (tgt := 15) C dX8_in_11 (by decide) ?_
      exact gg_sub (L' := [none, none, none]) (by first | exact trivial | simp [gsub]) (hb_15 _ _ hf)

def w_X8_has_b14 (X : Cx) (post : Int32 → GM → Prop) (px : String → GM → Prop)  (t0 : Int32) (g : GM) : Prop :=
  (narrow .boolean (.int t0) = .int t0 ∧ post t0 g)
def w_X8_has (X : Cx) (post : Int32 → GM → Prop) (px : String → GM → Prop) (v0 : Int32) (v1 : Int32) (g : GM) : Prop :=
  (if ((v0 >>> (v1 &&& 31)) &&& (1 : Int32)) = (1 : Int32) then w_X8_has_b14 X post px (1 : Int32) g else w_X8_has_b14 X post px (0 : Int32) g)
abbrev rm_X8_has : Room := { frames := 0, cells := 0, slots := 0, locals := 0 }
set_option maxHeartbeats 4000000 in
set_option maxRecDepth 100000 in
theorem m_X8_has {X : Cx} {l : Launch} (hfl : l.stackTraces = false) {post : Int32 → GM → Prop} {px : String → GM → Prop} {v0 : Int32} {v1 : Int32} {g : GM} (hf : w_X8_has X post px v0 v1 g) : gMet X l yX8_has cX8_has 2 (some .boolean) rm_X8_has [.int v0, .int v1] g (qI X post) px := by
  refine gg_enter (L := [some (.int v0), some (.int v1)]) hfl (by decide +kernel) (by simp [lg_sl, gcat, gcI, gcL, gcF, gcD]) (by simp [gll, lv_args, gcat, gcI, gcL, gcF, gcD]) ?_
  intro p e s m args below meth c C hr ht hm
  have C : FC X p l s m args meth c cX8_has 2 "ReleasetrainModel" := C
  have hb_14 : ∀ (t0 : Int32) (g : GM), w_X8_has_b14 X post px  t0 g → GG X p l e rm_X8_has s m args below meth c 2 (vx_MQ below (qI X post) (gXC X px) args s rm_X8_has.cells rm_X8_has.slots (gA X)) 0 0 14 [none, none] [.int t0] g := by
    intro  t0 g hf
    unfold w_X8_has_b14 at hf
    exact gg_iret C hr (by decide) (by decide) dX8_has_14 hf.1 hf.2
  unfold w_X8_has at hf
  refine gg_iload_n C dX8_has_0 rfl ?_
  refine gg_iload_n C dX8_has_1 rfl ?_
  refine gg_ishr C dX8_has_2 ?_
  refine gg_iconst C dX8_has_3 (v := (1 : Int32)) (by decide) ?_
  refine gg_iand C dX8_has_4 ?_
  refine gg_iconst C dX8_has_5 (v := (1 : Int32)) (by decide) ?_
  refine gg_icmp_ne (tgt := 13) C dX8_has_6 (by decide) hf (fun hf => ?_) (fun hf => ?_)
  · refine gg_iconst C dX8_has_13 (v := (0 : Int32)) (by decide) ?_
    exact gg_sub (L' := [none, none]) (by first | exact trivial | simp [gsub]) (hb_14 _ _ hf)
  · refine gg_iconst C dX8_has_9 (v := (1 : Int32)) (by decide) ?_
    refine gg_goto (tgt := 14) C dX8_has_10 (by decide) ?_
    exact gg_sub (L' := [none, none]) (by first | exact trivial | simp [gsub]) (hb_14 _ _ hf)

def w_X8_isDevice (X : Cx) (post : Int32 → GM → Prop) (px : String → GM → Prop) (v0 : Option Nat) (v1 : Int32) (g : GM) : Prop :=
  wGetI g v0 8 6 (fun (i1 : Int32) => w_X8_in X (fun (i3 : Int32) (g2 : GM) => (narrow .boolean (.int i3) = .int i3 ∧ post i3 g2)) px v1 (0 : Int32) (i1 - (1 : Int32)) g)
abbrev rm_X8_isDevice : Room := { frames := 1, cells := 0, slots := 0, locals := 22 }
set_option maxHeartbeats 4000000 in
set_option maxRecDepth 100000 in
theorem m_X8_isDevice {X : Cx} {l : Launch} (hfl : l.stackTraces = false) {post : Int32 → GM → Prop} {px : String → GM → Prop} {v0 : Option Nat} {v1 : Int32} {g : GM} (hf : w_X8_isDevice X post px v0 v1 g) : gMet X l yX8_isDevice cX8_isDevice 2 (some .boolean) rm_X8_isDevice [va_rf v0, .int v1] g (qI X post) px := by
  refine gg_enter (L := [some (va_rf v0), some (.int v1)]) hfl (by decide +kernel) (by simp [lg_sl, gcat, gcI, gcL, gcF, gcD]) (by simp [gll, lv_args, gcat, gcI, gcL, gcF, gcD]) ?_
  intro p e s m args below meth c C hr ht hm
  have C : FC X p l s m args meth c cX8_isDevice 2 "ReleasetrainModel" := C
  unfold w_X8_isDevice at hf
  refine gg_iload_n C dX8_isDevice_0 rfl ?_
  refine gg_iconst C dX8_isDevice_1 (v := (0 : Int32)) (by decide) ?_
  refine gg_aload_n C dX8_isDevice_2 rfl ?_
  refine gg_getI C dX8_isDevice_3 lk_X8_113 hf (fun i1 hf => ?_)
  refine gg_iconst C dX8_isDevice_6 (v := (1 : Int32)) (by decide) ?_
  refine gg_isub C dX8_isDevice_7 ?_
  refine gr_I (k' := 0) (n' := 0) (gk_S (As := [.int v1, .int (0 : Int32), .int (i1 - (1 : Int32))]) (rest := []) C dX8_isDevice_8 tw_1580 tw_1581 tw_56 tw_1582 gd_X8_in rfl ⟨by decide, by decide⟩ (by simp [gcat, gcI, gcL, gcF, gcD]) ⟨by decide, by decide⟩ (m_X8_in hfl hf)) rfl rfl (fun E g9 h9 => gx_out C (fun x hx => (ht x hx).elim) (by decide) (by decide) h9) (fun i3 g2 hf => ?_)
  exact gg_iret C hr (by decide) (by decide) dX8_isDevice_11 hf.1 hf.2

def w_X8_isBuild (X : Cx) (post : Int32 → GM → Prop) (px : String → GM → Prop) (v0 : Option Nat) (v1 : Int32) (g : GM) : Prop :=
  wGetI g v0 8 21 (fun (i1 : Int32) => w_X8_in X (fun (i3 : Int32) (g2 : GM) => (narrow .boolean (.int i3) = .int i3 ∧ post i3 g2)) px v1 (0 : Int32) (i1 - (1 : Int32)) g)
abbrev rm_X8_isBuild : Room := { frames := 1, cells := 0, slots := 0, locals := 22 }
set_option maxHeartbeats 4000000 in
set_option maxRecDepth 100000 in
theorem m_X8_isBuild {X : Cx} {l : Launch} (hfl : l.stackTraces = false) {post : Int32 → GM → Prop} {px : String → GM → Prop} {v0 : Option Nat} {v1 : Int32} {g : GM} (hf : w_X8_isBuild X post px v0 v1 g) : gMet X l yX8_isBuild cX8_isBuild 2 (some .boolean) rm_X8_isBuild [va_rf v0, .int v1] g (qI X post) px := by
  refine gg_enter (L := [some (va_rf v0), some (.int v1)]) hfl (by decide +kernel) (by simp [lg_sl, gcat, gcI, gcL, gcF, gcD]) (by simp [gll, lv_args, gcat, gcI, gcL, gcF, gcD]) ?_
  intro p e s m args below meth c C hr ht hm
  have C : FC X p l s m args meth c cX8_isBuild 2 "ReleasetrainModel" := C
  unfold w_X8_isBuild at hf
  refine gg_iload_n C dX8_isBuild_0 rfl ?_
  refine gg_iconst C dX8_isBuild_1 (v := (0 : Int32)) (by decide) ?_
  refine gg_aload_n C dX8_isBuild_2 rfl ?_
  refine gg_getI C dX8_isBuild_3 lk_X8_120 hf (fun i1 hf => ?_)
  refine gg_iconst C dX8_isBuild_6 (v := (1 : Int32)) (by decide) ?_
  refine gg_isub C dX8_isBuild_7 ?_
  refine gr_I (k' := 0) (n' := 0) (gk_S (As := [.int v1, .int (0 : Int32), .int (i1 - (1 : Int32))]) (rest := []) C dX8_isBuild_8 tw_1580 tw_1581 tw_56 tw_1582 gd_X8_in rfl ⟨by decide, by decide⟩ (by simp [gcat, gcI, gcL, gcF, gcD]) ⟨by decide, by decide⟩ (m_X8_in hfl hf)) rfl rfl (fun E g9 h9 => gx_out C (fun x hx => (ht x hx).elim) (by decide) (by decide) h9) (fun i3 g2 hf => ?_)
  exact gg_iret C hr (by decide) (by decide) dX8_isBuild_11 hf.1 hf.2

def w_X8_noBuild_b29 (X : Cx) (post : Int32 → GM → Prop) (px : String → GM → Prop)  (t0 : Int32) (g : GM) : Prop :=
  (narrow .boolean (.int t0) = .int t0 ∧ post t0 g)
def w_X8_noBuild_b14 (X : Cx) (post : Int32 → GM → Prop) (px : String → GM → Prop)  (l0 : Option Nat) (t0 : Int32) (t1 : Option Nat) (g : GM) : Prop :=
  wPut g t1 8 36 (.int t0) (fun g3 => wGetI g3 l0 8 36 (fun (i4 : Int32) => (if i4 ≤ 0 then w_X8_noBuild_b29 X post px (0 : Int32) g3 else w_X8_noBuild_b29 X post px (1 : Int32) g3)))
def w_X8_noBuild (X : Cx) (post : Int32 → GM → Prop) (px : String → GM → Prop) (v0 : Option Nat) (v1 : Int32) (g : GM) : Prop :=
  wIs g v0 8 (w_X8_isBuild X (fun (i2 : Int32) (g1 : GM) => (if i2 = 0 then w_X8_noBuild_b14 X post px v0 (1 : Int32) v0 g1 else w_X8_noBuild_b14 X post px v0 (0 : Int32) v0 g1)) px v0 v1 g)
abbrev rm_X8_noBuild : Room := { frames := 2, cells := 0, slots := 0, locals := 43 }
set_option maxHeartbeats 4000000 in
set_option maxRecDepth 100000 in
theorem m_X8_noBuild {X : Cx} {l : Launch} (hfl : l.stackTraces = false) {post : Int32 → GM → Prop} {px : String → GM → Prop} {v0 : Option Nat} {v1 : Int32} {g : GM} (hf : w_X8_noBuild X post px v0 v1 g) : gMet X l yX8_noBuild cX8_noBuild 2 (some .boolean) rm_X8_noBuild [va_rf v0, .int v1] g (qI X post) px := by
  refine gg_enter (L := [some (va_rf v0), some (.int v1)]) hfl (by decide +kernel) (by simp [lg_sl, gcat, gcI, gcL, gcF, gcD]) (by simp [gll, lv_args, gcat, gcI, gcL, gcF, gcD]) ?_
  intro p e s m args below meth c C hr ht hm
  have C : FC X p l s m args meth c cX8_noBuild 2 "ReleasetrainModel" := C
  have hb_29 : ∀ (t0 : Int32) (g : GM), w_X8_noBuild_b29 X post px  t0 g → GG X p l e rm_X8_noBuild s m args below meth c 2 (vx_MQ below (qI X post) (gXC X px) args s rm_X8_noBuild.cells rm_X8_noBuild.slots (gA X)) 0 0 29 [none, none] [.int t0] g := by
    intro  t0 g hf
    unfold w_X8_noBuild_b29 at hf
    exact gg_iret C hr (by decide) (by decide) dX8_noBuild_29 hf.1 hf.2
  have hb_14 : ∀ (l0 : Option Nat) (t0 : Int32) (t1 : Option Nat) (g : GM), w_X8_noBuild_b14 X post px  l0 t0 t1 g → GG X p l e rm_X8_noBuild s m args below meth c 2 (vx_MQ below (qI X post) (gXC X px) args s rm_X8_noBuild.cells rm_X8_noBuild.slots (gA X)) 0 0 14 [some (va_rf l0), none] [.int t0, va_rf t1] g := by
    intro  l0 t0 t1 g hf
    unfold w_X8_noBuild_b14 at hf
    refine gg_put C dX8_noBuild_14 pk_X8_110 (gNar_int _) hf (fun g3 hf => ?_)
    refine gg_aload_n C dX8_noBuild_17 rfl ?_
    refine gg_getI C dX8_noBuild_18 lk_X8_110 hf (fun i4 hf => ?_)
    refine gg_if_le (tgt := 28) C dX8_noBuild_21 (by decide) hf (fun hf => ?_) (fun hf => ?_)
    · refine gg_iconst C dX8_noBuild_28 (v := (0 : Int32)) (by decide) ?_
      exact gg_sub (L' := [none, none]) (by first | exact trivial | simp [gsub]) (hb_29 _ _ hf)
    · refine gg_iconst C dX8_noBuild_24 (v := (1 : Int32)) (by decide) ?_
      refine gg_goto (tgt := 29) C dX8_noBuild_25 (by decide) ?_
      exact gg_sub (L' := [none, none]) (by first | exact trivial | simp [gsub]) (hb_29 _ _ hf)
  unfold w_X8_noBuild at hf
  refine gg_aload_n C dX8_noBuild_0 rfl ?_
  refine gg_aload_n C dX8_noBuild_1 rfl ?_
  refine gg_iload_n C dX8_noBuild_2 rfl ?_
  refine gr_I (k' := 0) (n' := 0) (gk_V (ci := 8) (As := [.int v1]) (rest := [va_rf v0]) C dX8_noBuild_3 rfl rfl tw_1603 tw_1605 tw_27 tw_56 tw_1606 gd_X8_isBuild rfl ⟨by decide, by decide⟩ (by simp [gcat, gcI, gcL, gcF, gcD]) ⟨by decide, by decide⟩ hf (fun hf => m_X8_isBuild hfl hf)) rfl rfl (fun E g9 h9 => gx_out C (fun x hx => (ht x hx).elim) (by decide) (by decide) h9) (fun i2 g1 hf => ?_)
  refine gg_if_eq (tgt := 13) C dX8_noBuild_6 (by decide) hf (fun hf => ?_) (fun hf => ?_)
  · refine gg_iconst C dX8_noBuild_13 (v := (1 : Int32)) (by decide) ?_
    exact gg_sub (L' := [some (va_rf v0), none]) (by first | exact ⟨rfl, trivial⟩ | simp [gsub]) (hb_14 _ _ _ _ hf)
  · refine gg_iconst C dX8_noBuild_9 (v := (0 : Int32)) (by decide) ?_
    refine gg_goto (tgt := 14) C dX8_noBuild_10 (by decide) ?_
    exact gg_sub (L' := [some (va_rf v0), none]) (by first | exact ⟨rfl, trivial⟩ | simp [gsub]) (hb_14 _ _ _ _ hf)

def w_X8_noDevice_b29 (X : Cx) (post : Int32 → GM → Prop) (px : String → GM → Prop)  (t0 : Int32) (g : GM) : Prop :=
  (narrow .boolean (.int t0) = .int t0 ∧ post t0 g)
def w_X8_noDevice_b14 (X : Cx) (post : Int32 → GM → Prop) (px : String → GM → Prop)  (l0 : Option Nat) (t0 : Int32) (t1 : Option Nat) (g : GM) : Prop :=
  wPut g t1 8 36 (.int t0) (fun g3 => wGetI g3 l0 8 36 (fun (i4 : Int32) => (if i4 ≤ 0 then w_X8_noDevice_b29 X post px (0 : Int32) g3 else w_X8_noDevice_b29 X post px (1 : Int32) g3)))
def w_X8_noDevice (X : Cx) (post : Int32 → GM → Prop) (px : String → GM → Prop) (v0 : Option Nat) (v1 : Int32) (g : GM) : Prop :=
  wIs g v0 8 (w_X8_isDevice X (fun (i2 : Int32) (g1 : GM) => (if i2 = 0 then w_X8_noDevice_b14 X post px v0 (1 : Int32) v0 g1 else w_X8_noDevice_b14 X post px v0 (0 : Int32) v0 g1)) px v0 v1 g)
abbrev rm_X8_noDevice : Room := { frames := 2, cells := 0, slots := 0, locals := 43 }
set_option maxHeartbeats 4000000 in
set_option maxRecDepth 100000 in
theorem m_X8_noDevice {X : Cx} {l : Launch} (hfl : l.stackTraces = false) {post : Int32 → GM → Prop} {px : String → GM → Prop} {v0 : Option Nat} {v1 : Int32} {g : GM} (hf : w_X8_noDevice X post px v0 v1 g) : gMet X l yX8_noDevice cX8_noDevice 2 (some .boolean) rm_X8_noDevice [va_rf v0, .int v1] g (qI X post) px := by
  refine gg_enter (L := [some (va_rf v0), some (.int v1)]) hfl (by decide +kernel) (by simp [lg_sl, gcat, gcI, gcL, gcF, gcD]) (by simp [gll, lv_args, gcat, gcI, gcL, gcF, gcD]) ?_
  intro p e s m args below meth c C hr ht hm
  have C : FC X p l s m args meth c cX8_noDevice 2 "ReleasetrainModel" := C
  have hb_29 : ∀ (t0 : Int32) (g : GM), w_X8_noDevice_b29 X post px  t0 g → GG X p l e rm_X8_noDevice s m args below meth c 2 (vx_MQ below (qI X post) (gXC X px) args s rm_X8_noDevice.cells rm_X8_noDevice.slots (gA X)) 0 0 29 [none, none] [.int t0] g := by
    intro  t0 g hf
    unfold w_X8_noDevice_b29 at hf
    exact gg_iret C hr (by decide) (by decide) dX8_noDevice_29 hf.1 hf.2
  have hb_14 : ∀ (l0 : Option Nat) (t0 : Int32) (t1 : Option Nat) (g : GM), w_X8_noDevice_b14 X post px  l0 t0 t1 g → GG X p l e rm_X8_noDevice s m args below meth c 2 (vx_MQ below (qI X post) (gXC X px) args s rm_X8_noDevice.cells rm_X8_noDevice.slots (gA X)) 0 0 14 [some (va_rf l0), none] [.int t0, va_rf t1] g := by
    intro  l0 t0 t1 g hf
    unfold w_X8_noDevice_b14 at hf
    refine gg_put C dX8_noDevice_14 pk_X8_110 (gNar_int _) hf (fun g3 hf => ?_)
    refine gg_aload_n C dX8_noDevice_17 rfl ?_
    refine gg_getI C dX8_noDevice_18 lk_X8_110 hf (fun i4 hf => ?_)
    refine gg_if_le (tgt := 28) C dX8_noDevice_21 (by decide) hf (fun hf => ?_) (fun hf => ?_)
    · refine gg_iconst C dX8_noDevice_28 (v := (0 : Int32)) (by decide) ?_
      exact gg_sub (L' := [none, none]) (by first | exact trivial | simp [gsub]) (hb_29 _ _ hf)
    · refine gg_iconst C dX8_noDevice_24 (v := (1 : Int32)) (by decide) ?_
      refine gg_goto (tgt := 29) C dX8_noDevice_25 (by decide) ?_
      exact gg_sub (L' := [none, none]) (by first | exact trivial | simp [gsub]) (hb_29 _ _ hf)
  unfold w_X8_noDevice at hf
  refine gg_aload_n C dX8_noDevice_0 rfl ?_
  refine gg_aload_n C dX8_noDevice_1 rfl ?_
  refine gg_iload_n C dX8_noDevice_2 rfl ?_
  refine gr_I (k' := 0) (n' := 0) (gk_V (ci := 8) (As := [.int v1]) (rest := [va_rf v0]) C dX8_noDevice_3 rfl rfl tw_1697 tw_1699 tw_37 tw_56 tw_1700 gd_X8_isDevice rfl ⟨by decide, by decide⟩ (by simp [gcat, gcI, gcL, gcF, gcD]) ⟨by decide, by decide⟩ hf (fun hf => m_X8_isDevice hfl hf)) rfl rfl (fun E g9 h9 => gx_out C (fun x hx => (ht x hx).elim) (by decide) (by decide) h9) (fun i2 g1 hf => ?_)
  refine gg_if_eq (tgt := 13) C dX8_noDevice_6 (by decide) hf (fun hf => ?_) (fun hf => ?_)
  · refine gg_iconst C dX8_noDevice_13 (v := (1 : Int32)) (by decide) ?_
    exact gg_sub (L' := [some (va_rf v0), none]) (by first | exact ⟨rfl, trivial⟩ | simp [gsub]) (hb_14 _ _ _ _ hf)
  · refine gg_iconst C dX8_noDevice_9 (v := (0 : Int32)) (by decide) ?_
    refine gg_goto (tgt := 14) C dX8_noDevice_10 (by decide) ?_
    exact gg_sub (L' := [some (va_rf v0), none]) (by first | exact ⟨rfl, trivial⟩ | simp [gsub]) (hb_14 _ _ _ _ hf)

def w_X8_noGroup_b35 (X : Cx) (post : Int32 → GM → Prop) (px : String → GM → Prop)  (t0 : Int32) (g : GM) : Prop :=
  (narrow .boolean (.int t0) = .int t0 ∧ post t0 g)
def w_X8_noGroup_b20 (X : Cx) (post : Int32 → GM → Prop) (px : String → GM → Prop)  (l0 : Option Nat) (t0 : Int32) (t1 : Option Nat) (g : GM) : Prop :=
  wPut g t1 8 36 (.int t0) (fun g4 => wGetI g4 l0 8 36 (fun (i5 : Int32) => (if i5 ≤ 0 then w_X8_noGroup_b35 X post px (0 : Int32) g4 else w_X8_noGroup_b35 X post px (1 : Int32) g4)))
def w_X8_noGroup (X : Cx) (post : Int32 → GM → Prop) (px : String → GM → Prop) (v0 : Option Nat) (v1 : Int32) (g : GM) : Prop :=
  wGetI g v0 8 31 (fun (i1 : Int32) => w_X8_in X (fun (i3 : Int32) (g2 : GM) => (if i3 = 0 then w_X8_noGroup_b20 X post px v0 (1 : Int32) v0 g2 else w_X8_noGroup_b20 X post px v0 (0 : Int32) v0 g2)) px v1 (0 : Int32) (i1 - (1 : Int32)) g)
abbrev rm_X8_noGroup : Room := { frames := 1, cells := 0, slots := 0, locals := 22 }
set_option maxHeartbeats 4000000 in
set_option maxRecDepth 100000 in
theorem m_X8_noGroup {X : Cx} {l : Launch} (hfl : l.stackTraces = false) {post : Int32 → GM → Prop} {px : String → GM → Prop} {v0 : Option Nat} {v1 : Int32} {g : GM} (hf : w_X8_noGroup X post px v0 v1 g) : gMet X l yX8_noGroup cX8_noGroup 2 (some .boolean) rm_X8_noGroup [va_rf v0, .int v1] g (qI X post) px := by
  refine gg_enter (L := [some (va_rf v0), some (.int v1)]) hfl (by decide +kernel) (by simp [lg_sl, gcat, gcI, gcL, gcF, gcD]) (by simp [gll, lv_args, gcat, gcI, gcL, gcF, gcD]) ?_
  intro p e s m args below meth c C hr ht hm
  have C : FC X p l s m args meth c cX8_noGroup 2 "ReleasetrainModel" := C
  have hb_35 : ∀ (t0 : Int32) (g : GM), w_X8_noGroup_b35 X post px  t0 g → GG X p l e rm_X8_noGroup s m args below meth c 2 (vx_MQ below (qI X post) (gXC X px) args s rm_X8_noGroup.cells rm_X8_noGroup.slots (gA X)) 0 0 35 [none, none] [.int t0] g := by
    intro  t0 g hf
    unfold w_X8_noGroup_b35 at hf
    exact gg_iret C hr (by decide) (by decide) dX8_noGroup_35 hf.1 hf.2
  have hb_20 : ∀ (l0 : Option Nat) (t0 : Int32) (t1 : Option Nat) (g : GM), w_X8_noGroup_b20 X post px  l0 t0 t1 g → GG X p l e rm_X8_noGroup s m args below meth c 2 (vx_MQ below (qI X post) (gXC X px) args s rm_X8_noGroup.cells rm_X8_noGroup.slots (gA X)) 0 0 20 [some (va_rf l0), none] [.int t0, va_rf t1] g := by
    intro  l0 t0 t1 g hf
    unfold w_X8_noGroup_b20 at hf
    refine gg_put C dX8_noGroup_20 pk_X8_110 (gNar_int _) hf (fun g4 hf => ?_)
    refine gg_aload_n C dX8_noGroup_23 rfl ?_
    refine gg_getI C dX8_noGroup_24 lk_X8_110 hf (fun i5 hf => ?_)
    refine gg_if_le (tgt := 34) C dX8_noGroup_27 (by decide) hf (fun hf => ?_) (fun hf => ?_)
    · refine gg_iconst C dX8_noGroup_34 (v := (0 : Int32)) (by decide) ?_
      exact gg_sub (L' := [none, none]) (by first | exact trivial | simp [gsub]) (hb_35 _ _ hf)
    · refine gg_iconst C dX8_noGroup_30 (v := (1 : Int32)) (by decide) ?_
      refine gg_goto (tgt := 35) C dX8_noGroup_31 (by decide) ?_
      exact gg_sub (L' := [none, none]) (by first | exact trivial | simp [gsub]) (hb_35 _ _ hf)
  unfold w_X8_noGroup at hf
  refine gg_aload_n C dX8_noGroup_0 rfl ?_
  refine gg_iload_n C dX8_noGroup_1 rfl ?_
  refine gg_iconst C dX8_noGroup_2 (v := (0 : Int32)) (by decide) ?_
  refine gg_aload_n C dX8_noGroup_3 rfl ?_
  refine gg_getI C dX8_noGroup_4 lk_X8_130 hf (fun i1 hf => ?_)
  refine gg_iconst C dX8_noGroup_7 (v := (1 : Int32)) (by decide) ?_
  refine gg_isub C dX8_noGroup_8 ?_
  refine gr_I (k' := 0) (n' := 0) (gk_S (As := [.int v1, .int (0 : Int32), .int (i1 - (1 : Int32))]) (rest := [va_rf v0]) C dX8_noGroup_9 tw_1580 tw_1581 tw_56 tw_1582 gd_X8_in rfl ⟨by decide, by decide⟩ (by simp [gcat, gcI, gcL, gcF, gcD]) ⟨by decide, by decide⟩ (m_X8_in hfl hf)) rfl rfl (fun E g9 h9 => gx_out C (fun x hx => (ht x hx).elim) (by decide) (by decide) h9) (fun i3 g2 hf => ?_)
  refine gg_if_eq (tgt := 19) C dX8_noGroup_12 (by decide) hf (fun hf => ?_) (fun hf => ?_)
  · refine gg_iconst C dX8_noGroup_19 (v := (1 : Int32)) (by decide) ?_
    exact gg_sub (L' := [some (va_rf v0), none]) (by first | exact ⟨rfl, trivial⟩ | simp [gsub]) (hb_20 _ _ _ _ hf)
  · refine gg_iconst C dX8_noGroup_15 (v := (0 : Int32)) (by decide) ?_
    refine gg_goto (tgt := 20) C dX8_noGroup_16 (by decide) ?_
    exact gg_sub (L' := [some (va_rf v0), none]) (by first | exact ⟨rfl, trivial⟩ | simp [gsub]) (hb_20 _ _ _ _ hf)

def w_X8_addDevice_b47 (X : Cx) (post : Int32 → GM → Prop) (px : String → GM → Prop)  (l0 : Option Nat) (l1 : Int32) (l2 : Int32) (l3 : Int32) (t0 : Int32) (t1 : Option Nat) (g : GM) : Prop :=
  wPut g t1 8 36 (.int t0) (fun g3 => wGetI g3 l0 8 36 (fun (i4 : Int32) => (if i4 ≤ 0 then wGetR g3 l0 8 0 (fun (r5 : Option Nat) => wGetI g3 l0 8 6 (fun (i6 : Int32) => wAst g3 r5 i6 0 l1 (fun g7 => wGetR g7 l0 8 1 (fun (r8 : Option Nat) => wGetI g7 l0 8 6 (fun (i9 : Int32) => wAst g7 r8 i9 0 l2 (fun g10 => wGetR g10 l0 8 2 (fun (r11 : Option Nat) => wGetI g10 l0 8 6 (fun (i12 : Int32) => wAst g10 r11 i12 0 l3 (fun g13 => wGetR g13 l0 8 3 (fun (r14 : Option Nat) => wGetI g13 l0 8 6 (fun (i15 : Int32) => wAst g13 r14 i15 0 (-1 : Int32) (fun g16 => wGetI g16 l0 8 6 (fun (i17 : Int32) => wPut g16 l0 8 6 (.int (i17 + (1 : Int32))) (fun g18 => wGetI g18 l0 8 6 (fun (i19 : Int32) => post (i19 - (1 : Int32)) g18))))))))))))))) else post (0 : Int32) g3)))
def w_X8_addDevice_b29 (X : Cx) (post : Int32 → GM → Prop) (px : String → GM → Prop)  (l0 : Option Nat) (l1 : Int32) (l2 : Int32) (l3 : Int32) (t0 : Option Nat) (g : GM) : Prop :=
  w_X8_addDevice_b47 X post px l0 l1 l2 l3 (1 : Int32) t0 g
def w_X8_addDevice (X : Cx) (post : Int32 → GM → Prop) (px : String → GM → Prop) (v0 : Option Nat) (v1 : Int32) (v2 : Int32) (v3 : Int32) (g : GM) : Prop :=
  w_X8_in X (fun (i2 : Int32) (g1 : GM) => (if i2 = 0 then w_X8_addDevice_b29 X post px v0 v1 v2 v3 v0 g1 else w_X8_in X (fun (i21 : Int32) (g20 : GM) => (if i21 = 0 then w_X8_addDevice_b29 X post px v0 v1 v2 v3 v0 g20 else w_X8_in X (fun (i23 : Int32) (g22 : GM) => (if i23 = 0 then w_X8_addDevice_b29 X post px v0 v1 v2 v3 v0 g22 else wGetI g22 v0 8 6 (fun (i24 : Int32) => (if i24 = (12 : Int32) then w_X8_addDevice_b47 X post px v0 v1 v2 v3 (2 : Int32) v0 g22 else w_X8_addDevice_b47 X post px v0 v1 v2 v3 (0 : Int32) v0 g22)))) px v3 (0 : Int32) (99 : Int32) g20)) px v2 (0 : Int32) (2 : Int32) g1)) px v1 (0 : Int32) (5 : Int32) g
abbrev rm_X8_addDevice : Room := { frames := 1, cells := 0, slots := 0, locals := 22 }
set_option maxHeartbeats 4000000 in
set_option maxRecDepth 100000 in
theorem m_X8_addDevice {X : Cx} {l : Launch} (hfl : l.stackTraces = false) {post : Int32 → GM → Prop} {px : String → GM → Prop} {v0 : Option Nat} {v1 : Int32} {v2 : Int32} {v3 : Int32} {g : GM} (hf : w_X8_addDevice X post px v0 v1 v2 v3 g) : gMet X l yX8_addDevice cX8_addDevice 4 (some .int) rm_X8_addDevice [va_rf v0, .int v1, .int v2, .int v3] g (qI X post) px := by
  refine gg_enter (L := [some (va_rf v0), some (.int v1), some (.int v2), some (.int v3)]) hfl (by decide +kernel) (by simp [lg_sl, gcat, gcI, gcL, gcF, gcD]) (by simp [gll, lv_args, gcat, gcI, gcL, gcF, gcD]) ?_
  intro p e s m args below meth c C hr ht hm
  have C : FC X p l s m args meth c cX8_addDevice 4 "ReleasetrainModel" := C
  have hb_47 : ∀ (l0 : Option Nat) (l1 : Int32) (l2 : Int32) (l3 : Int32) (t0 : Int32) (t1 : Option Nat) (g : GM), w_X8_addDevice_b47 X post px  l0 l1 l2 l3 t0 t1 g → GG X p l e rm_X8_addDevice s m args below meth c 4 (vx_MQ below (qI X post) (gXC X px) args s rm_X8_addDevice.cells rm_X8_addDevice.slots (gA X)) 0 0 47 [some (va_rf l0), some (.int l1), some (.int l2), some (.int l3)] [.int t0, va_rf t1] g := by
    intro  l0 l1 l2 l3 t0 t1 g hf
    unfold w_X8_addDevice_b47 at hf
    refine gg_put C dX8_addDevice_47 pk_X8_110 (gNar_int _) hf (fun g3 hf => ?_)
    refine gg_aload_n C dX8_addDevice_50 rfl ?_
    refine gg_getI C dX8_addDevice_51 lk_X8_110 hf (fun i4 hf => ?_)
    refine gg_if_le (tgt := 59) C dX8_addDevice_54 (by decide) hf (fun hf => ?_) (fun hf => ?_)
    · refine gg_aload_n C dX8_addDevice_59 rfl ?_
      refine gg_getR C dX8_addDevice_60 lk_X8_9 hf (fun r5 hf => ?_)
      refine gg_aload_n C dX8_addDevice_63 rfl ?_
      refine gg_getI C dX8_addDevice_64 lk_X8_113 hf (fun i6 hf => ?_)
      refine gg_iload_n C dX8_addDevice_67 rfl ?_
      refine gg_iast C dX8_addDevice_68 hf (fun g7 hf => ?_)
      refine gg_aload_n C dX8_addDevice_69 rfl ?_
      refine gg_getR C dX8_addDevice_70 lk_X8_13 hf (fun r8 hf => ?_)
      refine gg_aload_n C dX8_addDevice_73 rfl ?_
      refine gg_getI C dX8_addDevice_74 lk_X8_113 hf (fun i9 hf => ?_)
      refine gg_iload_n C dX8_addDevice_77 rfl ?_
      refine gg_iast C dX8_addDevice_78 hf (fun g10 hf => ?_)
      refine gg_aload_n C dX8_addDevice_79 rfl ?_
      refine gg_getR C dX8_addDevice_80 lk_X8_16 hf (fun r11 hf => ?_)
      refine gg_aload_n C dX8_addDevice_83 rfl ?_
      refine gg_getI C dX8_addDevice_84 lk_X8_113 hf (fun i12 hf => ?_)
      refine gg_iload_n C dX8_addDevice_87 rfl ?_
      refine gg_iast C dX8_addDevice_88 hf (fun g13 hf => ?_)
      refine gg_aload_n C dX8_addDevice_89 rfl ?_
      refine gg_getR C dX8_addDevice_90 lk_X8_19 hf (fun r14 hf => ?_)
      refine gg_aload_n C dX8_addDevice_93 rfl ?_
      refine gg_getI C dX8_addDevice_94 lk_X8_113 hf (fun i15 hf => ?_)
      refine gg_iconst C dX8_addDevice_97 (v := (-1 : Int32)) (by decide) ?_
      refine gg_iast C dX8_addDevice_98 hf (fun g16 hf => ?_)
      refine gg_aload_n C dX8_addDevice_99 rfl ?_
      refine gg_dup C dX8_addDevice_100 (gcat _) ?_
      refine gg_getI C dX8_addDevice_101 lk_X8_113 hf (fun i17 hf => ?_)
      refine gg_iconst C dX8_addDevice_104 (v := (1 : Int32)) (by decide) ?_
      refine gg_iadd C dX8_addDevice_105 ?_
      refine gg_put C dX8_addDevice_106 pk_X8_113 (gNar_int _) hf (fun g18 hf => ?_)
      refine gg_aload_n C dX8_addDevice_109 rfl ?_
      refine gg_getI C dX8_addDevice_110 lk_X8_113 hf (fun i19 hf => ?_)
      refine gg_iconst C dX8_addDevice_113 (v := (1 : Int32)) (by decide) ?_
      refine gg_isub C dX8_addDevice_114 ?_
      exact gg_iret C hr (by decide) (by decide) dX8_addDevice_115 rfl hf
    · refine gg_iconst C dX8_addDevice_57 (v := (0 : Int32)) (by decide) ?_
      exact gg_iret C hr (by decide) (by decide) dX8_addDevice_58 rfl hf
  have hb_29 : ∀ (l0 : Option Nat) (l1 : Int32) (l2 : Int32) (l3 : Int32) (t0 : Option Nat) (g : GM), w_X8_addDevice_b29 X post px  l0 l1 l2 l3 t0 g → GG X p l e rm_X8_addDevice s m args below meth c 4 (vx_MQ below (qI X post) (gXC X px) args s rm_X8_addDevice.cells rm_X8_addDevice.slots (gA X)) 0 0 29 [some (va_rf l0), some (.int l1), some (.int l2), some (.int l3)] [va_rf t0] g := by
    intro  l0 l1 l2 l3 t0 g hf
    unfold w_X8_addDevice_b29 at hf
    refine gg_iconst C dX8_addDevice_29 (v := (1 : Int32)) (by decide) ?_
    refine gg_goto (tgt := 47) C dX8_addDevice_30 (by decide) ?_
    exact hb_47 _ _ _ _ _ _ _ hf
  unfold w_X8_addDevice at hf
  refine gg_aload_n C dX8_addDevice_0 rfl ?_
  refine gg_iload_n C dX8_addDevice_1 rfl ?_
  refine gg_iconst C dX8_addDevice_2 (v := (0 : Int32)) (by decide) ?_
  refine gg_iconst C dX8_addDevice_3 (v := (5 : Int32)) (by decide) ?_
  refine gr_I (k' := 0) (n' := 0) (gk_S (As := [.int v1, .int (0 : Int32), .int (5 : Int32)]) (rest := [va_rf v0]) C dX8_addDevice_4 tw_1580 tw_1581 tw_56 tw_1582 gd_X8_in rfl ⟨by decide, by decide⟩ (by simp [gcat, gcI, gcL, gcF, gcD]) ⟨by decide, by decide⟩ (m_X8_in hfl hf)) rfl rfl (fun E g9 h9 => gx_out C (fun x hx => (ht x hx).elim) (by decide) (by decide) h9) (fun i2 g1 hf => ?_)
  refine gg_if_eq (tgt := 29) C dX8_addDevice_7 (by decide) hf (fun hf => ?_) (fun hf => ?_)
  · exact hb_29 _ _ _ _ _ _ hf
  · refine gg_iload_n C dX8_addDevice_10 rfl ?_
    refine gg_iconst C dX8_addDevice_11 (v := (0 : Int32)) (by decide) ?_
    refine gg_iconst C dX8_addDevice_12 (v := (2 : Int32)) (by decide) ?_
    refine gr_I (k' := 0) (n' := 0) (gk_S (As := [.int v2, .int (0 : Int32), .int (2 : Int32)]) (rest := [va_rf v0]) C dX8_addDevice_13 tw_1580 tw_1581 tw_56 tw_1582 gd_X8_in rfl ⟨by decide, by decide⟩ (by simp [gcat, gcI, gcL, gcF, gcD]) ⟨by decide, by decide⟩ (m_X8_in hfl hf)) rfl rfl (fun E g9 h9 => gx_out C (fun x hx => (ht x hx).elim) (by decide) (by decide) h9) (fun i21 g20 hf => ?_)
    refine gg_if_eq (tgt := 29) C dX8_addDevice_16 (by decide) hf (fun hf => ?_) (fun hf => ?_)
    · exact hb_29 _ _ _ _ _ _ hf
    · refine gg_iload_n C dX8_addDevice_19 rfl ?_
      refine gg_iconst C dX8_addDevice_20 (v := (0 : Int32)) (by decide) ?_
      refine gg_bipush C dX8_addDevice_21 (v := (99 : Int32)) (by decide) ?_
      refine gr_I (k' := 0) (n' := 0) (gk_S (As := [.int v3, .int (0 : Int32), .int (99 : Int32)]) (rest := [va_rf v0]) C dX8_addDevice_23 tw_1580 tw_1581 tw_56 tw_1582 gd_X8_in rfl ⟨by decide, by decide⟩ (by simp [gcat, gcI, gcL, gcF, gcD]) ⟨by decide, by decide⟩ (m_X8_in hfl hf)) rfl rfl (fun E g9 h9 => gx_out C (fun x hx => (ht x hx).elim) (by decide) (by decide) h9) (fun i23 g22 hf => ?_)
      refine gg_if_ne (tgt := 33) C dX8_addDevice_26 (by decide) hf (fun hf => ?_) (fun hf => ?_)
      · refine gg_aload_n C dX8_addDevice_33 rfl ?_
        refine gg_getI C dX8_addDevice_34 lk_X8_113 hf (fun i24 hf => ?_)
        refine gg_bipush C dX8_addDevice_37 (v := (12 : Int32)) (by decide) ?_
        refine gg_icmp_ne (tgt := 46) C dX8_addDevice_39 (by decide) hf (fun hf => ?_) (fun hf => ?_)
        · refine gg_iconst C dX8_addDevice_46 (v := (0 : Int32)) (by decide) ?_
          exact hb_47 _ _ _ _ _ _ _ hf
        · refine gg_iconst C dX8_addDevice_42 (v := (2 : Int32)) (by decide) ?_
          refine gg_goto (tgt := 47) C dX8_addDevice_43 (by decide) ?_
          exact hb_47 _ _ _ _ _ _ _ hf
      · exact hb_29 _ _ _ _ _ _ hf

def w_X8_isNew_b42 (X : Cx) (post : Int32 → GM → Prop) (px : String → GM → Prop)  (t0 : Int32) (g : GM) : Prop :=
  (narrow .boolean (.int t0) = .int t0 ∧ post t0 g)
def w_X8_isNew_l2 (X : Cx) (post : Int32 → GM → Prop) (px : String → GM → Prop)  : Nat → Option Nat → Int32 → Int32 → GM → Prop
  | 0, _, _, _, _ => False
  | f + 1, l0, l1, l2, g => wGetI g l0 8 21 (fun (i1 : Int32) => (if i1 ≤ l2 then wGetI g l0 8 21 (fun (i2 : Int32) => (if (10 : Int32) ≤ i2 then w_X8_isNew_b42 X post px (0 : Int32) g else w_X8_isNew_b42 X post px (1 : Int32) g)) else wGetR g l0 8 7 (fun (r3 : Option Nat) => wAld g r3 l2 0 (fun (i4 : Int32) => (if i4 = l1 then post (0 : Int32) g else w_X8_isNew_l2 X post px f l0 l1 (l2 + 1) g)))))
def w_X8_isNew (X : Cx) (post : Int32 → GM → Prop) (px : String → GM → Prop) (v0 : Option Nat) (v1 : Int32) (g : GM) : Prop :=
  w_X8_isNew_l2 X post px 3000 v0 v1 (0 : Int32) g
abbrev rm_X8_isNew : Room := { frames := 0, cells := 0, slots := 0, locals := 0 }
set_option maxHeartbeats 4000000 in
set_option maxRecDepth 100000 in
theorem m_X8_isNew {X : Cx} {l : Launch} (hfl : l.stackTraces = false) {post : Int32 → GM → Prop} {px : String → GM → Prop} {v0 : Option Nat} {v1 : Int32} {g : GM} (hf : w_X8_isNew X post px v0 v1 g) : gMet X l yX8_isNew cX8_isNew 3 (some .boolean) rm_X8_isNew [va_rf v0, .int v1] g (qI X post) px := by
  refine gg_enter (L := [some (va_rf v0), some (.int v1), none]) hfl (by decide +kernel) (by simp [lg_sl, gcat, gcI, gcL, gcF, gcD]) (by simp [gll, lv_args, gcat, gcI, gcL, gcF, gcD]) ?_
  intro p e s m args below meth c C hr ht hm
  have C : FC X p l s m args meth c cX8_isNew 3 "ReleasetrainModel" := C
  have hb_42 : ∀ (t0 : Int32) (g : GM), w_X8_isNew_b42 X post px  t0 g → GG X p l e rm_X8_isNew s m args below meth c 3 (vx_MQ below (qI X post) (gXC X px) args s rm_X8_isNew.cells rm_X8_isNew.slots (gA X)) 0 0 42 [none, none, none] [.int t0] g := by
    intro  t0 g hf
    unfold w_X8_isNew_b42 at hf
    exact gg_iret C hr (by decide) (by decide) dX8_isNew_42 hf.1 hf.2
  have hb_2 : ∀ (f : Nat) (l0 : Option Nat) (l1 : Int32) (l2 : Int32) (g : GM), w_X8_isNew_l2 X post px  f l0 l1 l2 g → GG X p l e rm_X8_isNew s m args below meth c 3 (vx_MQ below (qI X post) (gXC X px) args s rm_X8_isNew.cells rm_X8_isNew.slots (gA X)) 0 0 2 [some (va_rf l0), some (.int l1), some (.int l2)] [] g := by
    intro  f
    induction f with
    | zero => intro l0 l1 l2 g hf; exact (show False from hf).elim
    | succ f ih =>
      intro l0 l1 l2 g hf
      rw [w_X8_isNew_l2] at hf
      refine gg_iload_n C dX8_isNew_2 rfl ?_
      refine gg_aload_n C dX8_isNew_3 rfl ?_
      refine gg_getI C dX8_isNew_4 lk_X8_120 hf (fun i1 hf => ?_)
      refine gg_icmp_ge (tgt := 28) C dX8_isNew_7 (by decide) hf (fun hf => ?_) (fun hf => ?_)
      · refine gg_aload_n C dX8_isNew_28 rfl ?_
        refine gg_getI C dX8_isNew_29 lk_X8_120 hf (fun i2 hf => ?_)
        refine gg_bipush C dX8_isNew_32 (v := (10 : Int32)) (by decide) ?_
        refine gg_icmp_ge (tgt := 41) C dX8_isNew_34 (by decide) hf (fun hf => ?_) (fun hf => ?_)
        · refine gg_iconst C dX8_isNew_41 (v := (0 : Int32)) (by decide) ?_
          exact gg_sub (L' := [none, none, none]) (by first | exact trivial | simp [gsub]) (hb_42 _ _ hf)
        · refine gg_iconst C dX8_isNew_37 (v := (1 : Int32)) (by decide) ?_
          refine gg_goto (tgt := 42) C dX8_isNew_38 (by decide) ?_
          exact gg_sub (L' := [none, none, none]) (by first | exact trivial | simp [gsub]) (hb_42 _ _ hf)
      · refine gg_aload_n C dX8_isNew_10 rfl ?_
        refine gg_getR C dX8_isNew_11 lk_X8_30 hf (fun r3 hf => ?_)
        refine gg_iload_n C dX8_isNew_14 rfl ?_
        refine gg_iald C dX8_isNew_15 hf (fun i4 hf => ?_)
        refine gg_iload_n C dX8_isNew_16 rfl ?_
        refine gg_icmp_ne (tgt := 22) C dX8_isNew_17 (by decide) hf (fun hf => ?_) (fun hf => ?_)
        · refine gg_iinc (L' := [some (va_rf l0), some (.int l1), some (.int (l2 + 1))]) C dX8_isNew_22 rfl (v := (l2 + 1)) rfl (Or.inr (Or.inr ⟨_, rfl, rfl⟩)) (by decide) rfl ?_
          refine gg_goto (tgt := 2) C dX8_isNew_25 (by decide) ?_
          exact ih _ _ _ _ hf
        · refine gg_iconst C dX8_isNew_20 (v := (0 : Int32)) (by decide) ?_
          exact gg_iret C hr (by decide) (by decide) dX8_isNew_21 rfl hf
  unfold w_X8_isNew at hf
  refine gg_iconst C dX8_isNew_0 (v := (0 : Int32)) (by decide) ?_
  refine gg_istore_n (L' := [some (va_rf v0), some (.int v1), some (.int (0 : Int32))]) C dX8_isNew_1 (Or.inr (Or.inr ⟨_, rfl, rfl⟩)) (by decide) rfl ?_
  exact hb_2 _ _ _ _ _ hf

def w_X8_adds (X : Cx) (post : Int32 → GM → Prop) (px : String → GM → Prop) (v0 : Option Nat) (v1 : Int32) (v2 : Int32) (v3 : Int32) (v4 : Int32) (g : GM) : Prop :=
  wGetR g v0 8 7 (fun (r1 : Option Nat) => wGetI g v0 8 21 (fun (i2 : Int32) => wAst g r1 i2 0 v1 (fun g3 => wGetR g3 v0 8 10 (fun (r4 : Option Nat) => wGetI g3 v0 8 21 (fun (i5 : Int32) => wAst g3 r4 i5 0 v2 (fun g6 => wGetR g6 v0 8 11 (fun (r7 : Option Nat) => wGetI g6 v0 8 21 (fun (i8 : Int32) => wAst g6 r7 i8 0 v3 (fun g9 => wGetR g9 v0 8 13 (fun (r10 : Option Nat) => wGetI g9 v0 8 21 (fun (i11 : Int32) => wAst g9 r10 i11 0 v4 (fun g12 => wGetR g12 v0 8 14 (fun (r13 : Option Nat) => wGetI g12 v0 8 21 (fun (i14 : Int32) => wAst g12 r13 i14 1 (vp_nar .char (100 : Int32)) (fun g15 => wGetI g15 v0 8 21 (fun (i16 : Int32) => wPut g15 v0 8 21 (.int (i16 + (1 : Int32))) (fun g17 => wGetI g17 v0 8 21 (fun (i18 : Int32) => post (i18 - (1 : Int32)) g17))))))))))))))))))
abbrev rm_X8_adds : Room := { frames := 0, cells := 0, slots := 0, locals := 0 }
set_option maxHeartbeats 4000000 in
set_option maxRecDepth 100000 in
theorem m_X8_adds {X : Cx} {l : Launch} (hfl : l.stackTraces = false) {post : Int32 → GM → Prop} {px : String → GM → Prop} {v0 : Option Nat} {v1 : Int32} {v2 : Int32} {v3 : Int32} {v4 : Int32} {g : GM} (hf : w_X8_adds X post px v0 v1 v2 v3 v4 g) : gMet X l yX8_adds cX8_adds 5 (some .int) rm_X8_adds [va_rf v0, .int v1, .int v2, .int v3, .int v4] g (qI X post) px := by
  refine gg_enter (L := [some (va_rf v0), some (.int v1), some (.int v2), some (.int v3), some (.int v4)]) hfl (by decide +kernel) (by simp [lg_sl, gcat, gcI, gcL, gcF, gcD]) (by simp [gll, lv_args, gcat, gcI, gcL, gcF, gcD]) ?_
  intro p e s m args below meth c C hr ht hm
  have C : FC X p l s m args meth c cX8_adds 5 "ReleasetrainModel" := C
  unfold w_X8_adds at hf
  refine gg_aload_n C dX8_adds_0 rfl ?_
  refine gg_getR C dX8_adds_1 lk_X8_30 hf (fun r1 hf => ?_)
  refine gg_aload_n C dX8_adds_4 rfl ?_
  refine gg_getI C dX8_adds_5 lk_X8_120 hf (fun i2 hf => ?_)
  refine gg_iload_n C dX8_adds_8 rfl ?_
  refine gg_iast C dX8_adds_9 hf (fun g3 hf => ?_)
  refine gg_aload_n C dX8_adds_10 rfl ?_
  refine gg_getR C dX8_adds_11 lk_X8_39 hf (fun r4 hf => ?_)
  refine gg_aload_n C dX8_adds_14 rfl ?_
  refine gg_getI C dX8_adds_15 lk_X8_120 hf (fun i5 hf => ?_)
  refine gg_iload_n C dX8_adds_18 rfl ?_
  refine gg_iast C dX8_adds_19 hf (fun g6 hf => ?_)
  refine gg_aload_n C dX8_adds_20 rfl ?_
  refine gg_getR C dX8_adds_21 lk_X8_42 hf (fun r7 hf => ?_)
  refine gg_aload_n C dX8_adds_24 rfl ?_
  refine gg_getI C dX8_adds_25 lk_X8_120 hf (fun i8 hf => ?_)
  refine gg_iload_n C dX8_adds_28 rfl ?_
  refine gg_iast C dX8_adds_29 hf (fun g9 hf => ?_)
  refine gg_aload_n C dX8_adds_30 rfl ?_
  refine gg_getR C dX8_adds_31 lk_X8_48 hf (fun r10 hf => ?_)
  refine gg_aload_n C dX8_adds_34 rfl ?_
  refine gg_getI C dX8_adds_35 lk_X8_120 hf (fun i11 hf => ?_)
  refine gg_iload C dX8_adds_38 rfl ?_
  refine gg_iast C dX8_adds_40 hf (fun g12 hf => ?_)
  refine gg_aload_n C dX8_adds_41 rfl ?_
  refine gg_getR C dX8_adds_42 lk_X8_51 hf (fun r13 hf => ?_)
  refine gg_aload_n C dX8_adds_45 rfl ?_
  refine gg_getI C dX8_adds_46 lk_X8_120 hf (fun i14 hf => ?_)
  refine gg_bipush C dX8_adds_49 (v := (100 : Int32)) (by decide) ?_
  refine gg_cast C dX8_adds_51 hf (fun g15 hf => ?_)
  refine gg_aload_n C dX8_adds_52 rfl ?_
  refine gg_dup C dX8_adds_53 (gcat _) ?_
  refine gg_getI C dX8_adds_54 lk_X8_120 hf (fun i16 hf => ?_)
  refine gg_iconst C dX8_adds_57 (v := (1 : Int32)) (by decide) ?_
  refine gg_iadd C dX8_adds_58 ?_
  refine gg_put C dX8_adds_59 pk_X8_120 (gNar_int _) hf (fun g17 hf => ?_)
  refine gg_aload_n C dX8_adds_62 rfl ?_
  refine gg_getI C dX8_adds_63 lk_X8_120 hf (fun i18 hf => ?_)
  refine gg_iconst C dX8_adds_66 (v := (1 : Int32)) (by decide) ?_
  refine gg_isub C dX8_adds_67 ?_
  exact gg_iret C hr (by decide) (by decide) dX8_adds_68 rfl hf

def w_X8_addBuild_b96 (X : Cx) (post : Int32 → GM → Prop) (px : String → GM → Prop)  (l0 : Option Nat) (l1 : Int32) (l2 : Int32) (l3 : Int32) (l4 : Int32) (l5 : Int32) (l6 : Int32) (t0 : Int32) (t1 : Option Nat) (g : GM) : Prop :=
  wPut g t1 8 36 (.int t0) (fun g5 => wGetI g5 l0 8 36 (fun (i6 : Int32) => (if i6 ≤ 0 then wGetR g5 l0 8 8 (fun (r7 : Option Nat) => wGetI g5 l0 8 21 (fun (i8 : Int32) => wAst g5 r7 i8 0 l2 (fun g9 => wGetR g9 l0 8 9 (fun (r10 : Option Nat) => wGetI g9 l0 8 21 (fun (i11 : Int32) => wAst g9 r10 i11 0 l3 (fun g12 => wGetR g12 l0 8 12 (fun (r13 : Option Nat) => wGetI g12 l0 8 21 (fun (i14 : Int32) => wAst g12 r13 i14 0 l6 (fun g15 => wIs g15 l0 8 (w_X8_adds X (fun (i17 : Int32) (g16 : GM) => post i17 g16) px l0 l1 l4 l5 (-1 : Int32) g15)))))))))) else post (0 : Int32) g5)))
def w_X8_addBuild_b71 (X : Cx) (post : Int32 → GM → Prop) (px : String → GM → Prop)  (l0 : Option Nat) (l1 : Int32) (l2 : Int32) (l3 : Int32) (l4 : Int32) (l5 : Int32) (l6 : Int32) (t0 : Int32) (g : GM) : Prop :=
  (if t0 = 0 then w_X8_addBuild_b96 X post px l0 l1 l2 l3 l4 l5 l6 (1 : Int32) l0 g else wIs g l0 8 (w_X8_isNew X (fun (i4 : Int32) (g3 : GM) => (if i4 = 0 then w_X8_addBuild_b96 X post px l0 l1 l2 l3 l4 l5 l6 (2 : Int32) l0 g3 else w_X8_addBuild_b96 X post px l0 l1 l2 l3 l4 l5 l6 (0 : Int32) l0 g3)) px l0 l1 g))
def w_X8_addBuild_b70 (X : Cx) (post : Int32 → GM → Prop) (px : String → GM → Prop)  (l0 : Option Nat) (l1 : Int32) (l2 : Int32) (l3 : Int32) (l4 : Int32) (l5 : Int32) (l6 : Int32) (g : GM) : Prop :=
  w_X8_addBuild_b71 X post px l0 l1 l2 l3 l4 l5 l6 (0 : Int32) g
def w_X8_addBuild (X : Cx) (post : Int32 → GM → Prop) (px : String → GM → Prop) (v0 : Option Nat) (v1 : Int32) (v2 : Int32) (v3 : Int32) (v4 : Int32) (v5 : Int32) (v6 : Int32) (g : GM) : Prop :=
  w_X8_in X (fun (i2 : Int32) (g1 : GM) => (if i2 = 0 then w_X8_addBuild_b70 X post px v0 v1 v2 v3 v4 v5 v6 g1 else w_X8_in X (fun (i19 : Int32) (g18 : GM) => (if i19 = 0 then w_X8_addBuild_b70 X post px v0 v1 v2 v3 v4 v5 v6 g18 else w_X8_in X (fun (i21 : Int32) (g20 : GM) => (if i21 = 0 then w_X8_addBuild_b70 X post px v0 v1 v2 v3 v4 v5 v6 g20 else w_X8_in X (fun (i23 : Int32) (g22 : GM) => (if i23 = 0 then w_X8_addBuild_b70 X post px v0 v1 v2 v3 v4 v5 v6 g22 else w_X8_in X (fun (i25 : Int32) (g24 : GM) => (if i25 = 0 then w_X8_addBuild_b70 X post px v0 v1 v2 v3 v4 v5 v6 g24 else w_X8_in X (fun (i27 : Int32) (g26 : GM) => (if i27 = 0 then w_X8_addBuild_b70 X post px v0 v1 v2 v3 v4 v5 v6 g26 else w_X8_addBuild_b71 X post px v0 v1 v2 v3 v4 v5 v6 (1 : Int32) g26)) px v6 (0 : Int32) (255 : Int32) g24)) px v5 (0 : Int32) (15 : Int32) g22)) px v4 (1 : Int32) (500 : Int32) g20)) px v3 (1 : Int32) (7 : Int32) g18)) px v2 (1 : Int32) (63 : Int32) g1)) px v1 (1 : Int32) (999 : Int32) g
abbrev rm_X8_addBuild : Room := { frames := 1, cells := 0, slots := 0, locals := 24 }
set_option maxHeartbeats 4000000 in
set_option maxRecDepth 100000 in
theorem m_X8_addBuild {X : Cx} {l : Launch} (hfl : l.stackTraces = false) {post : Int32 → GM → Prop} {px : String → GM → Prop} {v0 : Option Nat} {v1 : Int32} {v2 : Int32} {v3 : Int32} {v4 : Int32} {v5 : Int32} {v6 : Int32} {g : GM} (hf : w_X8_addBuild X post px v0 v1 v2 v3 v4 v5 v6 g) : gMet X l yX8_addBuild cX8_addBuild 8 (some .int) rm_X8_addBuild [va_rf v0, .int v1, .int v2, .int v3, .int v4, .int v5, .int v6] g (qI X post) px := by
  refine gg_enter (L := [some (va_rf v0), some (.int v1), some (.int v2), some (.int v3), some (.int v4), some (.int v5), some (.int v6), none]) hfl (by decide +kernel) (by simp [lg_sl, gcat, gcI, gcL, gcF, gcD]) (by simp [gll, lv_args, gcat, gcI, gcL, gcF, gcD]) ?_
  intro p e s m args below meth c C hr ht hm
  have C : FC X p l s m args meth c cX8_addBuild 8 "ReleasetrainModel" := C
  have hb_96 : ∀ (l0 : Option Nat) (l1 : Int32) (l2 : Int32) (l3 : Int32) (l4 : Int32) (l5 : Int32) (l6 : Int32) (t0 : Int32) (t1 : Option Nat) (g : GM), w_X8_addBuild_b96 X post px  l0 l1 l2 l3 l4 l5 l6 t0 t1 g → GG X p l e rm_X8_addBuild s m args below meth c 8 (vx_MQ below (qI X post) (gXC X px) args s rm_X8_addBuild.cells rm_X8_addBuild.slots (gA X)) 0 0 96 [some (va_rf l0), some (.int l1), some (.int l2), some (.int l3), some (.int l4), some (.int l5), some (.int l6), none] [.int t0, va_rf t1] g := by
    intro  l0 l1 l2 l3 l4 l5 l6 t0 t1 g hf
    unfold w_X8_addBuild_b96 at hf
    refine gg_put C dX8_addBuild_96 pk_X8_110 (gNar_int _) hf (fun g5 hf => ?_)
    refine gg_aload_n C dX8_addBuild_99 rfl ?_
    refine gg_getI C dX8_addBuild_100 lk_X8_110 hf (fun i6 hf => ?_)
    refine gg_if_le (tgt := 108) C dX8_addBuild_103 (by decide) hf (fun hf => ?_) (fun hf => ?_)
    · refine gg_aload_n C dX8_addBuild_108 rfl ?_
      refine gg_getR C dX8_addBuild_109 lk_X8_33 hf (fun r7 hf => ?_)
      refine gg_aload_n C dX8_addBuild_112 rfl ?_
      refine gg_getI C dX8_addBuild_113 lk_X8_120 hf (fun i8 hf => ?_)
      refine gg_iload_n C dX8_addBuild_116 rfl ?_
      refine gg_iast C dX8_addBuild_117 hf (fun g9 hf => ?_)
      refine gg_aload_n C dX8_addBuild_118 rfl ?_
      refine gg_getR C dX8_addBuild_119 lk_X8_36 hf (fun r10 hf => ?_)
      refine gg_aload_n C dX8_addBuild_122 rfl ?_
      refine gg_getI C dX8_addBuild_123 lk_X8_120 hf (fun i11 hf => ?_)
      refine gg_iload_n C dX8_addBuild_126 rfl ?_
      refine gg_iast C dX8_addBuild_127 hf (fun g12 hf => ?_)
      refine gg_aload_n C dX8_addBuild_128 rfl ?_
      refine gg_getR C dX8_addBuild_129 lk_X8_45 hf (fun r13 hf => ?_)
      refine gg_aload_n C dX8_addBuild_132 rfl ?_
      refine gg_getI C dX8_addBuild_133 lk_X8_120 hf (fun i14 hf => ?_)
      refine gg_iload C dX8_addBuild_136 rfl ?_
      refine gg_iast C dX8_addBuild_138 hf (fun g15 hf => ?_)
      refine gg_aload_n C dX8_addBuild_139 rfl ?_
      refine gg_iload_n C dX8_addBuild_140 rfl ?_
      refine gg_iload C dX8_addBuild_141 rfl ?_
      refine gg_iload C dX8_addBuild_143 rfl ?_
      refine gg_iconst C dX8_addBuild_145 (v := (-1 : Int32)) (by decide) ?_
      refine gr_I (k' := 0) (n' := 0) (gk_V (ci := 8) (As := [.int l1, .int l4, .int l5, .int (-1 : Int32)]) (rest := []) C dX8_addBuild_146 rfl rfl tw_1591 tw_1593 tw_25 tw_56 tw_1594 gd_X8_adds rfl ⟨by decide, by decide⟩ (by simp [gcat, gcI, gcL, gcF, gcD]) ⟨by decide, by decide⟩ hf (fun hf => m_X8_adds hfl hf)) rfl rfl (fun E g9 h9 => gx_out C (fun x hx => (ht x hx).elim) (by decide) (by decide) h9) (fun i17 g16 hf => ?_)
      exact gg_iret C hr (by decide) (by decide) dX8_addBuild_149 rfl hf
    · refine gg_iconst C dX8_addBuild_106 (v := (0 : Int32)) (by decide) ?_
      exact gg_iret C hr (by decide) (by decide) dX8_addBuild_107 rfl hf
  have hb_71 : ∀ (l0 : Option Nat) (l1 : Int32) (l2 : Int32) (l3 : Int32) (l4 : Int32) (l5 : Int32) (l6 : Int32) (t0 : Int32) (g : GM), w_X8_addBuild_b71 X post px  l0 l1 l2 l3 l4 l5 l6 t0 g → GG X p l e rm_X8_addBuild s m args below meth c 8 (vx_MQ below (qI X post) (gXC X px) args s rm_X8_addBuild.cells rm_X8_addBuild.slots (gA X)) 0 0 71 [some (va_rf l0), some (.int l1), some (.int l2), some (.int l3), some (.int l4), some (.int l5), some (.int l6), none] [.int t0] g := by
    intro  l0 l1 l2 l3 l4 l5 l6 t0 g hf
    unfold w_X8_addBuild_b71 at hf
    refine gg_istore (L' := [some (va_rf l0), some (.int l1), some (.int l2), some (.int l3), some (.int l4), some (.int l5), some (.int l6), some (.int t0)]) C dX8_addBuild_71 (Or.inr (Or.inr ⟨_, rfl, rfl⟩)) (by decide) rfl ?_
    refine gg_aload_n C dX8_addBuild_73 rfl ?_
    refine gg_iload C dX8_addBuild_74 rfl ?_
    refine gg_if_ne (tgt := 83) C dX8_addBuild_76 (by decide) hf (fun hf => ?_) (fun hf => ?_)
    · refine gg_aload_n C dX8_addBuild_83 rfl ?_
      refine gg_iload_n C dX8_addBuild_84 rfl ?_
      refine gr_I (k' := 0) (n' := 0) (gk_V (ci := 8) (As := [.int l1]) (rest := [va_rf l0]) C dX8_addBuild_85 rfl rfl tw_1587 tw_1589 tw_24 tw_56 tw_1590 gd_X8_isNew rfl ⟨by decide, by decide⟩ (by simp [gcat, gcI, gcL, gcF, gcD]) ⟨by decide, by decide⟩ hf (fun hf => m_X8_isNew hfl hf)) rfl rfl (fun E g9 h9 => gx_out C (fun x hx => (ht x hx).elim) (by decide) (by decide) h9) (fun i4 g3 hf => ?_)
      refine gg_if_ne (tgt := 95) C dX8_addBuild_88 (by decide) hf (fun hf => ?_) (fun hf => ?_)
      · refine gg_iconst C dX8_addBuild_95 (v := (0 : Int32)) (by decide) ?_
        exact gg_sub (L' := [some (va_rf l0), some (.int l1), some (.int l2), some (.int l3), some (.int l4), some (.int l5), some (.int l6), none]) (by first | exact ⟨rfl, ⟨rfl, ⟨rfl, ⟨rfl, ⟨rfl, ⟨rfl, ⟨rfl, trivial⟩⟩⟩⟩⟩⟩⟩ | simp [gsub]) (hb_96 _ _ _ _ _ _ _ _ _ _ hf)
      · refine gg_iconst C dX8_addBuild_91 (v := (2 : Int32)) (by decide) ?_
        refine gg_goto (tgt := 96) C dX8_addBuild_92 (by decide) ?_
        exact gg_sub (L' := [some (va_rf l0), some (.int l1), some (.int l2), some (.int l3), some (.int l4), some (.int l5), some (.int l6), none]) (by first | exact ⟨rfl, ⟨rfl, ⟨rfl, ⟨rfl, ⟨rfl, ⟨rfl, ⟨rfl, trivial⟩⟩⟩⟩⟩⟩⟩ | simp [gsub]) (hb_96 _ _ _ _ _ _ _ _ _ _ hf)
    · refine gg_iconst C dX8_addBuild_79 (v := (1 : Int32)) (by decide) ?_
      refine gg_goto (tgt := 96) C dX8_addBuild_80 (by decide) ?_
      exact gg_sub (L' := [some (va_rf l0), some (.int l1), some (.int l2), some (.int l3), some (.int l4), some (.int l5), some (.int l6), none]) (by first | exact ⟨rfl, ⟨rfl, ⟨rfl, ⟨rfl, ⟨rfl, ⟨rfl, ⟨rfl, trivial⟩⟩⟩⟩⟩⟩⟩ | simp [gsub]) (hb_96 _ _ _ _ _ _ _ _ _ _ hf)
  have hb_70 : ∀ (l0 : Option Nat) (l1 : Int32) (l2 : Int32) (l3 : Int32) (l4 : Int32) (l5 : Int32) (l6 : Int32) (g : GM), w_X8_addBuild_b70 X post px  l0 l1 l2 l3 l4 l5 l6 g → GG X p l e rm_X8_addBuild s m args below meth c 8 (vx_MQ below (qI X post) (gXC X px) args s rm_X8_addBuild.cells rm_X8_addBuild.slots (gA X)) 0 0 70 [some (va_rf l0), some (.int l1), some (.int l2), some (.int l3), some (.int l4), some (.int l5), some (.int l6), none] [] g := by
    intro  l0 l1 l2 l3 l4 l5 l6 g hf
    unfold w_X8_addBuild_b70 at hf
    refine gg_iconst C dX8_addBuild_70 (v := (0 : Int32)) (by decide) ?_
    exact hb_71 _ _ _ _ _ _ _ _ _ hf
  unfold w_X8_addBuild at hf
  refine gg_iload_n C dX8_addBuild_0 rfl ?_
  refine gg_iconst C dX8_addBuild_1 (v := (1 : Int32)) (by decide) ?_
  refine gg_sipush C dX8_addBuild_2 (v := (999 : Int32)) (by decide) ?_
  refine gr_I (k' := 0) (n' := 0) (gk_S (As := [.int v1, .int (1 : Int32), .int (999 : Int32)]) (rest := []) C dX8_addBuild_5 tw_1580 tw_1581 tw_56 tw_1582 gd_X8_in rfl ⟨by decide, by decide⟩ (by simp [gcat, gcI, gcL, gcF, gcD]) ⟨by decide, by decide⟩ (m_X8_in hfl hf)) rfl rfl (fun E g9 h9 => gx_out C (fun x hx => (ht x hx).elim) (by decide) (by decide) h9) (fun i2 g1 hf => ?_)
  refine gg_if_eq (tgt := 70) C dX8_addBuild_8 (by decide) hf (fun hf => ?_) (fun hf => ?_)
  · exact hb_70 _ _ _ _ _ _ _ _ hf
  · refine gg_iload_n C dX8_addBuild_11 rfl ?_
    refine gg_iconst C dX8_addBuild_12 (v := (1 : Int32)) (by decide) ?_
    refine gg_bipush C dX8_addBuild_13 (v := (63 : Int32)) (by decide) ?_
    refine gr_I (k' := 0) (n' := 0) (gk_S (As := [.int v2, .int (1 : Int32), .int (63 : Int32)]) (rest := []) C dX8_addBuild_15 tw_1580 tw_1581 tw_56 tw_1582 gd_X8_in rfl ⟨by decide, by decide⟩ (by simp [gcat, gcI, gcL, gcF, gcD]) ⟨by decide, by decide⟩ (m_X8_in hfl hf)) rfl rfl (fun E g9 h9 => gx_out C (fun x hx => (ht x hx).elim) (by decide) (by decide) h9) (fun i19 g18 hf => ?_)
    refine gg_if_eq (tgt := 70) C dX8_addBuild_18 (by decide) hf (fun hf => ?_) (fun hf => ?_)
    · exact hb_70 _ _ _ _ _ _ _ _ hf
    · refine gg_iload_n C dX8_addBuild_21 rfl ?_
      refine gg_iconst C dX8_addBuild_22 (v := (1 : Int32)) (by decide) ?_
      refine gg_bipush C dX8_addBuild_23 (v := (7 : Int32)) (by decide) ?_
      refine gr_I (k' := 0) (n' := 0) (gk_S (As := [.int v3, .int (1 : Int32), .int (7 : Int32)]) (rest := []) C dX8_addBuild_25 tw_1580 tw_1581 tw_56 tw_1582 gd_X8_in rfl ⟨by decide, by decide⟩ (by simp [gcat, gcI, gcL, gcF, gcD]) ⟨by decide, by decide⟩ (m_X8_in hfl hf)) rfl rfl (fun E g9 h9 => gx_out C (fun x hx => (ht x hx).elim) (by decide) (by decide) h9) (fun i21 g20 hf => ?_)
      refine gg_if_eq (tgt := 70) C dX8_addBuild_28 (by decide) hf (fun hf => ?_) (fun hf => ?_)
      · exact hb_70 _ _ _ _ _ _ _ _ hf
      · refine gg_iload C dX8_addBuild_31 rfl ?_
        refine gg_iconst C dX8_addBuild_33 (v := (1 : Int32)) (by decide) ?_
        refine gg_sipush C dX8_addBuild_34 (v := (500 : Int32)) (by decide) ?_
        refine gr_I (k' := 0) (n' := 0) (gk_S (As := [.int v4, .int (1 : Int32), .int (500 : Int32)]) (rest := []) C dX8_addBuild_37 tw_1580 tw_1581 tw_56 tw_1582 gd_X8_in rfl ⟨by decide, by decide⟩ (by simp [gcat, gcI, gcL, gcF, gcD]) ⟨by decide, by decide⟩ (m_X8_in hfl hf)) rfl rfl (fun E g9 h9 => gx_out C (fun x hx => (ht x hx).elim) (by decide) (by decide) h9) (fun i23 g22 hf => ?_)
        refine gg_if_eq (tgt := 70) C dX8_addBuild_40 (by decide) hf (fun hf => ?_) (fun hf => ?_)
        · exact hb_70 _ _ _ _ _ _ _ _ hf
        · refine gg_iload C dX8_addBuild_43 rfl ?_
          refine gg_iconst C dX8_addBuild_45 (v := (0 : Int32)) (by decide) ?_
          refine gg_bipush C dX8_addBuild_46 (v := (15 : Int32)) (by decide) ?_
          refine gr_I (k' := 0) (n' := 0) (gk_S (As := [.int v5, .int (0 : Int32), .int (15 : Int32)]) (rest := []) C dX8_addBuild_48 tw_1580 tw_1581 tw_56 tw_1582 gd_X8_in rfl ⟨by decide, by decide⟩ (by simp [gcat, gcI, gcL, gcF, gcD]) ⟨by decide, by decide⟩ (m_X8_in hfl hf)) rfl rfl (fun E g9 h9 => gx_out C (fun x hx => (ht x hx).elim) (by decide) (by decide) h9) (fun i25 g24 hf => ?_)
          refine gg_if_eq (tgt := 70) C dX8_addBuild_51 (by decide) hf (fun hf => ?_) (fun hf => ?_)
          · exact hb_70 _ _ _ _ _ _ _ _ hf
          · refine gg_iload C dX8_addBuild_54 rfl ?_
            refine gg_iconst C dX8_addBuild_56 (v := (0 : Int32)) (by decide) ?_
            refine gg_sipush C dX8_addBuild_57 (v := (255 : Int32)) (by decide) ?_
            refine gr_I (k' := 0) (n' := 0) (gk_S (As := [.int v6, .int (0 : Int32), .int (255 : Int32)]) (rest := []) C dX8_addBuild_60 tw_1580 tw_1581 tw_56 tw_1582 gd_X8_in rfl ⟨by decide, by decide⟩ (by simp [gcat, gcI, gcL, gcF, gcD]) ⟨by decide, by decide⟩ (m_X8_in hfl hf)) rfl rfl (fun E g9 h9 => gx_out C (fun x hx => (ht x hx).elim) (by decide) (by decide) h9) (fun i27 g26 hf => ?_)
            refine gg_if_eq (tgt := 70) C dX8_addBuild_63 (by decide) hf (fun hf => ?_) (fun hf => ?_)
            · exact hb_70 _ _ _ _ _ _ _ _ hf
            · refine gg_iconst C dX8_addBuild_66 (v := (1 : Int32)) (by decide) ?_
              refine gg_goto (tgt := 71) C dX8_addBuild_67 (by decide) ?_
              exact hb_71 _ _ _ _ _ _ _ _ _ hf

def w_X8_addFix_b73 (X : Cx) (post : Int32 → GM → Prop) (px : String → GM → Prop)  (l0 : Option Nat) (l1 : Int32) (l2 : Int32) (l3 : Int32) (l4 : Int32) (t0 : Int32) (t1 : Option Nat) (g : GM) : Prop :=
  wPut g t1 8 36 (.int t0) (fun g7 => wGetI g7 l0 8 36 (fun (i8 : Int32) => (if i8 ≤ 0 then wGetR g7 l0 8 8 (fun (r9 : Option Nat) => wGetI g7 l0 8 21 (fun (i10 : Int32) => wGetR g7 l0 8 8 (fun (r11 : Option Nat) => wAld g7 r11 l1 0 (fun (i12 : Int32) => wAst g7 r9 i10 0 i12 (fun g13 => wGetR g13 l0 8 9 (fun (r14 : Option Nat) => wGetI g13 l0 8 21 (fun (i15 : Int32) => wGetR g13 l0 8 9 (fun (r16 : Option Nat) => wAld g13 r16 l1 0 (fun (i17 : Int32) => wAst g13 r14 i15 0 i17 (fun g18 => wGetR g18 l0 8 12 (fun (r19 : Option Nat) => wGetI g18 l0 8 21 (fun (i20 : Int32) => wGetR g18 l0 8 12 (fun (r21 : Option Nat) => wAld g18 r21 l1 0 (fun (i22 : Int32) => wAst g18 r19 i20 0 i22 (fun g23 => wIs g23 l0 8 (w_X8_adds X (fun (i25 : Int32) (g24 : GM) => post i25 g24) px l0 l2 l3 l4 l1 g23)))))))))))))))) else post (0 : Int32) g7)))
def w_X8_addFix_b48 (X : Cx) (post : Int32 → GM → Prop) (px : String → GM → Prop)  (l0 : Option Nat) (l1 : Int32) (l2 : Int32) (l3 : Int32) (l4 : Int32) (t0 : Int32) (g : GM) : Prop :=
  (if t0 = 0 then w_X8_addFix_b73 X post px l0 l1 l2 l3 l4 (2 : Int32) l0 g else wIs g l0 8 (w_X8_isNew X (fun (i6 : Int32) (g5 : GM) => (if i6 = 0 then w_X8_addFix_b73 X post px l0 l1 l2 l3 l4 (3 : Int32) l0 g5 else w_X8_addFix_b73 X post px l0 l1 l2 l3 l4 (0 : Int32) l0 g5)) px l0 l2 g))
def w_X8_addFix_b47 (X : Cx) (post : Int32 → GM → Prop) (px : String → GM → Prop)  (l0 : Option Nat) (l1 : Int32) (l2 : Int32) (l3 : Int32) (l4 : Int32) (g : GM) : Prop :=
  w_X8_addFix_b48 X post px l0 l1 l2 l3 l4 (0 : Int32) g
def w_X8_addFix (X : Cx) (post : Int32 → GM → Prop) (px : String → GM → Prop) (v0 : Option Nat) (v1 : Int32) (v2 : Int32) (v3 : Int32) (v4 : Int32) (g : GM) : Prop :=
  wIs g v0 8 (w_X8_noBuild X (fun (i2 : Int32) (g1 : GM) => (if i2 = 0 then w_X8_in X (fun (i4 : Int32) (g3 : GM) => (if i4 = 0 then w_X8_addFix_b47 X post px v0 v1 v2 v3 v4 g3 else w_X8_in X (fun (i27 : Int32) (g26 : GM) => (if i27 = 0 then w_X8_addFix_b47 X post px v0 v1 v2 v3 v4 g26 else w_X8_in X (fun (i29 : Int32) (g28 : GM) => (if i29 = 0 then w_X8_addFix_b47 X post px v0 v1 v2 v3 v4 g28 else w_X8_addFix_b48 X post px v0 v1 v2 v3 v4 (1 : Int32) g28)) px v4 (0 : Int32) (15 : Int32) g26)) px v3 (1 : Int32) (500 : Int32) g3)) px v2 (1 : Int32) (999 : Int32) g1 else post (0 : Int32) g1)) px v0 v1 g)
abbrev rm_X8_addFix : Room := { frames := 3, cells := 0, slots := 0, locals := 64 }
set_option maxHeartbeats 4000000 in
set_option maxRecDepth 100000 in
theorem m_X8_addFix {X : Cx} {l : Launch} (hfl : l.stackTraces = false) {post : Int32 → GM → Prop} {px : String → GM → Prop} {v0 : Option Nat} {v1 : Int32} {v2 : Int32} {v3 : Int32} {v4 : Int32} {g : GM} (hf : w_X8_addFix X post px v0 v1 v2 v3 v4 g) : gMet X l yX8_addFix cX8_addFix 6 (some .int) rm_X8_addFix [va_rf v0, .int v1, .int v2, .int v3, .int v4] g (qI X post) px := by
  refine gg_enter (L := [some (va_rf v0), some (.int v1), some (.int v2), some (.int v3), some (.int v4), none]) hfl (by decide +kernel) (by simp [lg_sl, gcat, gcI, gcL, gcF, gcD]) (by simp [gll, lv_args, gcat, gcI, gcL, gcF, gcD]) ?_
  intro p e s m args below meth c C hr ht hm
  have C : FC X p l s m args meth c cX8_addFix 6 "ReleasetrainModel" := C
  have hb_73 : ∀ (l0 : Option Nat) (l1 : Int32) (l2 : Int32) (l3 : Int32) (l4 : Int32) (t0 : Int32) (t1 : Option Nat) (g : GM), w_X8_addFix_b73 X post px  l0 l1 l2 l3 l4 t0 t1 g → GG X p l e rm_X8_addFix s m args below meth c 6 (vx_MQ below (qI X post) (gXC X px) args s rm_X8_addFix.cells rm_X8_addFix.slots (gA X)) 0 0 73 [some (va_rf l0), some (.int l1), some (.int l2), some (.int l3), some (.int l4), none] [.int t0, va_rf t1] g := by
    intro  l0 l1 l2 l3 l4 t0 t1 g hf
    unfold w_X8_addFix_b73 at hf
    refine gg_put C dX8_addFix_73 pk_X8_110 (gNar_int _) hf (fun g7 hf => ?_)
    refine gg_aload_n C dX8_addFix_76 rfl ?_
    refine gg_getI C dX8_addFix_77 lk_X8_110 hf (fun i8 hf => ?_)
    refine gg_if_le (tgt := 85) C dX8_addFix_80 (by decide) hf (fun hf => ?_) (fun hf => ?_)
    · refine gg_aload_n C dX8_addFix_85 rfl ?_
      refine gg_getR C dX8_addFix_86 lk_X8_33 hf (fun r9 hf => ?_)
      refine gg_aload_n C dX8_addFix_89 rfl ?_
      refine gg_getI C dX8_addFix_90 lk_X8_120 hf (fun i10 hf => ?_)
      refine gg_aload_n C dX8_addFix_93 rfl ?_
      refine gg_getR C dX8_addFix_94 lk_X8_33 hf (fun r11 hf => ?_)
      refine gg_iload_n C dX8_addFix_97 rfl ?_
      refine gg_iald C dX8_addFix_98 hf (fun i12 hf => ?_)
      refine gg_iast C dX8_addFix_99 hf (fun g13 hf => ?_)
      refine gg_aload_n C dX8_addFix_100 rfl ?_
      refine gg_getR C dX8_addFix_101 lk_X8_36 hf (fun r14 hf => ?_)
      refine gg_aload_n C dX8_addFix_104 rfl ?_
      refine gg_getI C dX8_addFix_105 lk_X8_120 hf (fun i15 hf => ?_)
      refine gg_aload_n C dX8_addFix_108 rfl ?_
      refine gg_getR C dX8_addFix_109 lk_X8_36 hf (fun r16 hf => ?_)
      refine gg_iload_n C dX8_addFix_112 rfl ?_
      refine gg_iald C dX8_addFix_113 hf (fun i17 hf => ?_)
      refine gg_iast C dX8_addFix_114 hf (fun g18 hf => ?_)
      refine gg_aload_n C dX8_addFix_115 rfl ?_
      refine gg_getR C dX8_addFix_116 lk_X8_45 hf (fun r19 hf => ?_)
      refine gg_aload_n C dX8_addFix_119 rfl ?_
      refine gg_getI C dX8_addFix_120 lk_X8_120 hf (fun i20 hf => ?_)
      refine gg_aload_n C dX8_addFix_123 rfl ?_
      refine gg_getR C dX8_addFix_124 lk_X8_45 hf (fun r21 hf => ?_)
      refine gg_iload_n C dX8_addFix_127 rfl ?_
      refine gg_iald C dX8_addFix_128 hf (fun i22 hf => ?_)
      refine gg_iast C dX8_addFix_129 hf (fun g23 hf => ?_)
      refine gg_aload_n C dX8_addFix_130 rfl ?_
      refine gg_iload_n C dX8_addFix_131 rfl ?_
      refine gg_iload_n C dX8_addFix_132 rfl ?_
      refine gg_iload C dX8_addFix_133 rfl ?_
      refine gg_iload_n C dX8_addFix_135 rfl ?_
      refine gr_I (k' := 0) (n' := 0) (gk_V (ci := 8) (As := [.int l2, .int l3, .int l4, .int l1]) (rest := []) C dX8_addFix_136 rfl rfl tw_1591 tw_1593 tw_25 tw_56 tw_1594 gd_X8_adds rfl ⟨by decide, by decide⟩ (by simp [gcat, gcI, gcL, gcF, gcD]) ⟨by decide, by decide⟩ hf (fun hf => m_X8_adds hfl hf)) rfl rfl (fun E g9 h9 => gx_out C (fun x hx => (ht x hx).elim) (by decide) (by decide) h9) (fun i25 g24 hf => ?_)
      exact gg_iret C hr (by decide) (by decide) dX8_addFix_139 rfl hf
    · refine gg_iconst C dX8_addFix_83 (v := (0 : Int32)) (by decide) ?_
      exact gg_iret C hr (by decide) (by decide) dX8_addFix_84 rfl hf
  have hb_48 : ∀ (l0 : Option Nat) (l1 : Int32) (l2 : Int32) (l3 : Int32) (l4 : Int32) (t0 : Int32) (g : GM), w_X8_addFix_b48 X post px  l0 l1 l2 l3 l4 t0 g → GG X p l e rm_X8_addFix s m args below meth c 6 (vx_MQ below (qI X post) (gXC X px) args s rm_X8_addFix.cells rm_X8_addFix.slots (gA X)) 0 0 48 [some (va_rf l0), some (.int l1), some (.int l2), some (.int l3), some (.int l4), none] [.int t0] g := by
    intro  l0 l1 l2 l3 l4 t0 g hf
    unfold w_X8_addFix_b48 at hf
    refine gg_istore (L' := [some (va_rf l0), some (.int l1), some (.int l2), some (.int l3), some (.int l4), some (.int t0)]) C dX8_addFix_48 (Or.inr (Or.inr ⟨_, rfl, rfl⟩)) (by decide) rfl ?_
    refine gg_aload_n C dX8_addFix_50 rfl ?_
    refine gg_iload C dX8_addFix_51 rfl ?_
    refine gg_if_ne (tgt := 60) C dX8_addFix_53 (by decide) hf (fun hf => ?_) (fun hf => ?_)
    · refine gg_aload_n C dX8_addFix_60 rfl ?_
      refine gg_iload_n C dX8_addFix_61 rfl ?_
      refine gr_I (k' := 0) (n' := 0) (gk_V (ci := 8) (As := [.int l2]) (rest := [va_rf l0]) C dX8_addFix_62 rfl rfl tw_1587 tw_1589 tw_24 tw_56 tw_1590 gd_X8_isNew rfl ⟨by decide, by decide⟩ (by simp [gcat, gcI, gcL, gcF, gcD]) ⟨by decide, by decide⟩ hf (fun hf => m_X8_isNew hfl hf)) rfl rfl (fun E g9 h9 => gx_out C (fun x hx => (ht x hx).elim) (by decide) (by decide) h9) (fun i6 g5 hf => ?_)
      refine gg_if_ne (tgt := 72) C dX8_addFix_65 (by decide) hf (fun hf => ?_) (fun hf => ?_)
      · refine gg_iconst C dX8_addFix_72 (v := (0 : Int32)) (by decide) ?_
        exact gg_sub (L' := [some (va_rf l0), some (.int l1), some (.int l2), some (.int l3), some (.int l4), none]) (by first | exact ⟨rfl, ⟨rfl, ⟨rfl, ⟨rfl, ⟨rfl, trivial⟩⟩⟩⟩⟩ | simp [gsub]) (hb_73 _ _ _ _ _ _ _ _ hf)
      · refine gg_iconst C dX8_addFix_68 (v := (3 : Int32)) (by decide) ?_
        refine gg_goto (tgt := 73) C dX8_addFix_69 (by decide) ?_
        exact gg_sub (L' := [some (va_rf l0), some (.int l1), some (.int l2), some (.int l3), some (.int l4), none]) (by first | exact ⟨rfl, ⟨rfl, ⟨rfl, ⟨rfl, ⟨rfl, trivial⟩⟩⟩⟩⟩ | simp [gsub]) (hb_73 _ _ _ _ _ _ _ _ hf)
    · refine gg_iconst C dX8_addFix_56 (v := (2 : Int32)) (by decide) ?_
      refine gg_goto (tgt := 73) C dX8_addFix_57 (by decide) ?_
      exact gg_sub (L' := [some (va_rf l0), some (.int l1), some (.int l2), some (.int l3), some (.int l4), none]) (by first | exact ⟨rfl, ⟨rfl, ⟨rfl, ⟨rfl, ⟨rfl, trivial⟩⟩⟩⟩⟩ | simp [gsub]) (hb_73 _ _ _ _ _ _ _ _ hf)
  have hb_47 : ∀ (l0 : Option Nat) (l1 : Int32) (l2 : Int32) (l3 : Int32) (l4 : Int32) (g : GM), w_X8_addFix_b47 X post px  l0 l1 l2 l3 l4 g → GG X p l e rm_X8_addFix s m args below meth c 6 (vx_MQ below (qI X post) (gXC X px) args s rm_X8_addFix.cells rm_X8_addFix.slots (gA X)) 0 0 47 [some (va_rf l0), some (.int l1), some (.int l2), some (.int l3), some (.int l4), none] [] g := by
    intro  l0 l1 l2 l3 l4 g hf
    unfold w_X8_addFix_b47 at hf
    refine gg_iconst C dX8_addFix_47 (v := (0 : Int32)) (by decide) ?_
    exact hb_48 _ _ _ _ _ _ _ hf
  unfold w_X8_addFix at hf
  refine gg_aload_n C dX8_addFix_0 rfl ?_
  refine gg_iload_n C dX8_addFix_1 rfl ?_
  refine gr_I (k' := 0) (n' := 0) (gk_V (ci := 8) (As := [.int v1]) (rest := []) C dX8_addFix_2 rfl rfl tw_1599 tw_1601 tw_26 tw_56 tw_1602 gd_X8_noBuild rfl ⟨by decide, by decide⟩ (by simp [gcat, gcI, gcL, gcF, gcD]) ⟨by decide, by decide⟩ hf (fun hf => m_X8_noBuild hfl hf)) rfl rfl (fun E g9 h9 => gx_out C (fun x hx => (ht x hx).elim) (by decide) (by decide) h9) (fun i2 g1 hf => ?_)
  refine gg_if_eq (tgt := 10) C dX8_addFix_5 (by decide) hf (fun hf => ?_) (fun hf => ?_)
  · refine gg_iload_n C dX8_addFix_10 rfl ?_
    refine gg_iconst C dX8_addFix_11 (v := (1 : Int32)) (by decide) ?_
    refine gg_sipush C dX8_addFix_12 (v := (999 : Int32)) (by decide) ?_
    refine gr_I (k' := 0) (n' := 0) (gk_S (As := [.int v2, .int (1 : Int32), .int (999 : Int32)]) (rest := []) C dX8_addFix_15 tw_1580 tw_1581 tw_56 tw_1582 gd_X8_in rfl ⟨by decide, by decide⟩ (by simp [gcat, gcI, gcL, gcF, gcD]) ⟨by decide, by decide⟩ (m_X8_in hfl hf)) rfl rfl (fun E g9 h9 => gx_out C (fun x hx => (ht x hx).elim) (by decide) (by decide) h9) (fun i4 g3 hf => ?_)
    refine gg_if_eq (tgt := 47) C dX8_addFix_18 (by decide) hf (fun hf => ?_) (fun hf => ?_)
    · exact hb_47 _ _ _ _ _ _ hf
    · refine gg_iload_n C dX8_addFix_21 rfl ?_
      refine gg_iconst C dX8_addFix_22 (v := (1 : Int32)) (by decide) ?_
      refine gg_sipush C dX8_addFix_23 (v := (500 : Int32)) (by decide) ?_
      refine gr_I (k' := 0) (n' := 0) (gk_S (As := [.int v3, .int (1 : Int32), .int (500 : Int32)]) (rest := []) C dX8_addFix_26 tw_1580 tw_1581 tw_56 tw_1582 gd_X8_in rfl ⟨by decide, by decide⟩ (by simp [gcat, gcI, gcL, gcF, gcD]) ⟨by decide, by decide⟩ (m_X8_in hfl hf)) rfl rfl (fun E g9 h9 => gx_out C (fun x hx => (ht x hx).elim) (by decide) (by decide) h9) (fun i27 g26 hf => ?_)
      refine gg_if_eq (tgt := 47) C dX8_addFix_29 (by decide) hf (fun hf => ?_) (fun hf => ?_)
      · exact hb_47 _ _ _ _ _ _ hf
      · refine gg_iload C dX8_addFix_32 rfl ?_
        refine gg_iconst C dX8_addFix_34 (v := (0 : Int32)) (by decide) ?_
        refine gg_bipush C dX8_addFix_35 (v := (15 : Int32)) (by decide) ?_
        refine gr_I (k' := 0) (n' := 0) (gk_S (As := [.int v4, .int (0 : Int32), .int (15 : Int32)]) (rest := []) C dX8_addFix_37 tw_1580 tw_1581 tw_56 tw_1582 gd_X8_in rfl ⟨by decide, by decide⟩ (by simp [gcat, gcI, gcL, gcF, gcD]) ⟨by decide, by decide⟩ (m_X8_in hfl hf)) rfl rfl (fun E g9 h9 => gx_out C (fun x hx => (ht x hx).elim) (by decide) (by decide) h9) (fun i29 g28 hf => ?_)
        refine gg_if_eq (tgt := 47) C dX8_addFix_40 (by decide) hf (fun hf => ?_) (fun hf => ?_)
        · exact hb_47 _ _ _ _ _ _ hf
        · refine gg_iconst C dX8_addFix_43 (v := (1 : Int32)) (by decide) ?_
          refine gg_goto (tgt := 48) C dX8_addFix_44 (by decide) ?_
          exact hb_48 _ _ _ _ _ _ _ hf
  · refine gg_iconst C dX8_addFix_8 (v := (0 : Int32)) (by decide) ?_
    exact gg_iret C hr (by decide) (by decide) dX8_addFix_9 rfl hf

def w_X8_waits_b57 (X : Cx) (post : Int32 → GM → Prop) (px : String → GM → Prop) (k32 : Option Nat → Int32 → Int32 → GM → Prop) (l0 : Option Nat) (l3 : Int32) (t0 : Int32) (t1 : Int32) (g : GM) : Prop :=
  k32 l0 (t1 + t0) (l3 + 1) g
def w_X8_waits_l32 (X : Cx) (post : Int32 → GM → Prop) (px : String → GM → Prop)  : Nat → Option Nat → Int32 → Int32 → GM → Prop
  | 0, _, _, _, _ => False
  | f + 1, l0, l2, l3, g => wGetI g l0 8 21 (fun (i8 : Int32) => (if i8 ≤ l3 then post l2 g else wGetR g l0 8 14 (fun (r9 : Option Nat) => wAld g r9 l3 1 (fun (i10 : Int32) => (if i10 = (119 : Int32) then w_X8_waits_b57 X post px (w_X8_waits_l32 X post px f) l0 l3 (1 : Int32) l2 g else w_X8_waits_b57 X post px (w_X8_waits_l32 X post px f) l0 l3 (0 : Int32) l2 g)))))
def w_X8_waits (X : Cx) (post : Int32 → GM → Prop) (px : String → GM → Prop) (v0 : Option Nat) (v1 : Int32) (g : GM) : Prop :=
  wGetR g v0 8 14 (fun (r1 : Option Nat) => wAst g r1 v1 1 (vp_nar .char (119 : Int32)) (fun g2 => wGetR g2 v0 8 15 (fun (r3 : Option Nat) => wGetI g2 v0 8 22 (fun (i4 : Int32) => wAst g2 r3 v1 0 i4 (fun g5 => wGetI g5 v0 8 22 (fun (i6 : Int32) => wPut g5 v0 8 22 (.int (i6 + (1 : Int32))) (fun g7 => w_X8_waits_l32 X post px 3000 v0 (0 : Int32) (0 : Int32) g7)))))))
abbrev rm_X8_waits : Room := { frames := 0, cells := 0, slots := 0, locals := 0 }
set_option maxHeartbeats 4000000 in
set_option maxRecDepth 100000 in
theorem m_X8_waits {X : Cx} {l : Launch} (hfl : l.stackTraces = false) {post : Int32 → GM → Prop} {px : String → GM → Prop} {v0 : Option Nat} {v1 : Int32} {g : GM} (hf : w_X8_waits X post px v0 v1 g) : gMet X l yX8_waits cX8_waits 4 (some .int) rm_X8_waits [va_rf v0, .int v1] g (qI X post) px := by
  refine gg_enter (L := [some (va_rf v0), some (.int v1), none, none]) hfl (by decide +kernel) (by simp [lg_sl, gcat, gcI, gcL, gcF, gcD]) (by simp [gll, lv_args, gcat, gcI, gcL, gcF, gcD]) ?_
  intro p e s m args below meth c C hr ht hm
  have C : FC X p l s m args meth c cX8_waits 4 "ReleasetrainModel" := C
  have hb_57 : ∀ (k32 : Option Nat → Int32 → Int32 → GM → Prop), (∀ (l0 : Option Nat) (l2 : Int32) (l3 : Int32) (g : GM), k32 l0 l2 l3 g → GG X p l e rm_X8_waits s m args below meth c 4 (vx_MQ below (qI X post) (gXC X px) args s rm_X8_waits.cells rm_X8_waits.slots (gA X)) 0 0 32 [some (va_rf l0), none, some (.int l2), some (.int l3)] [] g) → ∀ (l0 : Option Nat) (l3 : Int32) (t0 : Int32) (t1 : Int32) (g : GM), w_X8_waits_b57 X post px k32 l0 l3 t0 t1 g → GG X p l e rm_X8_waits s m args below meth c 4 (vx_MQ below (qI X post) (gXC X px) args s rm_X8_waits.cells rm_X8_waits.slots (gA X)) 0 0 57 [some (va_rf l0), none, none, some (.int l3)] [.int t0, .int t1] g := by
    intro k32 hk32 l0 l3 t0 t1 g hf
    unfold w_X8_waits_b57 at hf
    refine gg_iadd C dX8_waits_57 ?_
    refine gg_istore_n (L' := [some (va_rf l0), none, some (.int (t1 + t0)), some (.int l3)]) C dX8_waits_58 (Or.inr (Or.inl rfl)) (by decide) rfl ?_
    refine gg_iinc (L' := [some (va_rf l0), none, some (.int (t1 + t0)), some (.int (l3 + 1))]) C dX8_waits_59 rfl (v := (l3 + 1)) rfl (Or.inr (Or.inr ⟨_, rfl, rfl⟩)) (by decide) rfl ?_
    refine gg_goto (tgt := 32) C dX8_waits_62 (by decide) ?_
    exact hk32 _ _ _ _ hf
  have hb_32 : ∀ (f : Nat) (l0 : Option Nat) (l2 : Int32) (l3 : Int32) (g : GM), w_X8_waits_l32 X post px  f l0 l2 l3 g → GG X p l e rm_X8_waits s m args below meth c 4 (vx_MQ below (qI X post) (gXC X px) args s rm_X8_waits.cells rm_X8_waits.slots (gA X)) 0 0 32 [some (va_rf l0), none, some (.int l2), some (.int l3)] [] g := by
    intro  f
    induction f with
    | zero => intro l0 l2 l3 g hf; exact (show False from hf).elim
    | succ f ih =>
      intro l0 l2 l3 g hf
      rw [w_X8_waits_l32] at hf
      refine gg_iload_n C dX8_waits_32 rfl ?_
      refine gg_aload_n C dX8_waits_33 rfl ?_
      refine gg_getI C dX8_waits_34 lk_X8_120 hf (fun i8 hf => ?_)
      refine gg_icmp_ge (tgt := 65) C dX8_waits_37 (by decide) hf (fun hf => ?_) (fun hf => ?_)
      · refine gg_iload_n C dX8_waits_65 rfl ?_
        exact gg_iret C hr (by decide) (by decide) dX8_waits_66 rfl hf
      · refine gg_iload_n C dX8_waits_40 rfl ?_
        refine gg_aload_n C dX8_waits_41 rfl ?_
        refine gg_getR C dX8_waits_42 lk_X8_51 hf (fun r9 hf => ?_)
        refine gg_iload_n C dX8_waits_45 rfl ?_
        refine gg_cald C dX8_waits_46 hf (fun i10 hf => ?_)
        refine gg_bipush C dX8_waits_47 (v := (119 : Int32)) (by decide) ?_
        refine gg_icmp_ne (tgt := 56) C dX8_waits_49 (by decide) hf (fun hf => ?_) (fun hf => ?_)
        · refine gg_iconst C dX8_waits_56 (v := (0 : Int32)) (by decide) ?_
          exact gg_sub (L' := [some (va_rf l0), none, none, some (.int l3)]) (by first | exact ⟨rfl, ⟨rfl, trivial⟩⟩ | simp [gsub]) (hb_57 _ ih _ _ _ _ _ hf)
        · refine gg_iconst C dX8_waits_52 (v := (1 : Int32)) (by decide) ?_
          refine gg_goto (tgt := 57) C dX8_waits_53 (by decide) ?_
          exact gg_sub (L' := [some (va_rf l0), none, none, some (.int l3)]) (by first | exact ⟨rfl, ⟨rfl, trivial⟩⟩ | simp [gsub]) (hb_57 _ ih _ _ _ _ _ hf)
  unfold w_X8_waits at hf
  refine gg_aload_n C dX8_waits_0 rfl ?_
  refine gg_getR C dX8_waits_1 lk_X8_51 hf (fun r1 hf => ?_)
  refine gg_iload_n C dX8_waits_4 rfl ?_
  refine gg_bipush C dX8_waits_5 (v := (119 : Int32)) (by decide) ?_
  refine gg_cast C dX8_waits_7 hf (fun g2 hf => ?_)
  refine gg_aload_n C dX8_waits_8 rfl ?_
  refine gg_getR C dX8_waits_9 lk_X8_55 hf (fun r3 hf => ?_)
  refine gg_iload_n C dX8_waits_12 rfl ?_
  refine gg_aload_n C dX8_waits_13 rfl ?_
  refine gg_getI C dX8_waits_14 lk_X8_143 hf (fun i4 hf => ?_)
  refine gg_iast C dX8_waits_17 hf (fun g5 hf => ?_)
  refine gg_aload_n C dX8_waits_18 rfl ?_
  refine gg_dup C dX8_waits_19 (gcat _) ?_
  refine gg_getI C dX8_waits_20 lk_X8_143 hf (fun i6 hf => ?_)
  refine gg_iconst C dX8_waits_23 (v := (1 : Int32)) (by decide) ?_
  refine gg_iadd C dX8_waits_24 ?_
  refine gg_put C dX8_waits_25 pk_X8_143 (gNar_int _) hf (fun g7 hf => ?_)
  refine gg_iconst C dX8_waits_28 (v := (0 : Int32)) (by decide) ?_
  refine gg_istore_n (L' := [some (va_rf v0), some (.int v1), some (.int (0 : Int32)), none]) C dX8_waits_29 (Or.inr (Or.inr ⟨_, rfl, rfl⟩)) (by decide) rfl ?_
  refine gg_iconst C dX8_waits_30 (v := (0 : Int32)) (by decide) ?_
  refine gg_istore_n (L' := [some (va_rf v0), some (.int v1), some (.int (0 : Int32)), some (.int (0 : Int32))]) C dX8_waits_31 (Or.inr (Or.inr ⟨_, rfl, rfl⟩)) (by decide) rfl ?_
  exact gg_sub (L' := [some (va_rf v0), none, some (.int (0 : Int32)), some (.int (0 : Int32))]) (by first | exact ⟨rfl, ⟨rfl, ⟨rfl, trivial⟩⟩⟩ | simp [gsub]) (hb_32 _ _ _ _ _ hf)

def w_X8_submit_b46 (X : Cx) (post : Int32 → GM → Prop) (px : String → GM → Prop)  (t0 : Int32) (g : GM) : Prop :=
  post t0 g
def w_X8_submit_b27 (X : Cx) (post : Int32 → GM → Prop) (px : String → GM → Prop)  (l0 : Option Nat) (l1 : Int32) (t0 : Int32) (t1 : Option Nat) (g : GM) : Prop :=
  wPut g t1 8 36 (.int t0) (fun g5 => wGetI g5 l0 8 36 (fun (i6 : Int32) => (if i6 ≤ 0 then wIs g5 l0 8 (w_X8_waits X (fun (i8 : Int32) (g7 : GM) => w_X8_submit_b46 X post px i8 g7) px l0 l1 g5) else w_X8_submit_b46 X post px (0 : Int32) g5)))
def w_X8_submit (X : Cx) (post : Int32 → GM → Prop) (px : String → GM → Prop) (v0 : Option Nat) (v1 : Int32) (g : GM) : Prop :=
  wIs g v0 8 (w_X8_noBuild X (fun (i2 : Int32) (g1 : GM) => (if i2 = 0 then wGetR g1 v0 8 14 (fun (r3 : Option Nat) => wAld g1 r3 v1 1 (fun (i4 : Int32) => (if i4 = (100 : Int32) then w_X8_submit_b27 X post px v0 v1 (0 : Int32) v0 g1 else w_X8_submit_b27 X post px v0 v1 (2 : Int32) v0 g1))) else post (0 : Int32) g1)) px v0 v1 g)
abbrev rm_X8_submit : Room := { frames := 3, cells := 0, slots := 0, locals := 64 }
set_option maxHeartbeats 4000000 in
set_option maxRecDepth 100000 in
theorem m_X8_submit {X : Cx} {l : Launch} (hfl : l.stackTraces = false) {post : Int32 → GM → Prop} {px : String → GM → Prop} {v0 : Option Nat} {v1 : Int32} {g : GM} (hf : w_X8_submit X post px v0 v1 g) : gMet X l yX8_submit cX8_submit 2 (some .int) rm_X8_submit [va_rf v0, .int v1] g (qI X post) px := by
  refine gg_enter (L := [some (va_rf v0), some (.int v1)]) hfl (by decide +kernel) (by simp [lg_sl, gcat, gcI, gcL, gcF, gcD]) (by simp [gll, lv_args, gcat, gcI, gcL, gcF, gcD]) ?_
  intro p e s m args below meth c C hr ht hm
  have C : FC X p l s m args meth c cX8_submit 2 "ReleasetrainModel" := C
  have hb_46 : ∀ (t0 : Int32) (g : GM), w_X8_submit_b46 X post px  t0 g → GG X p l e rm_X8_submit s m args below meth c 2 (vx_MQ below (qI X post) (gXC X px) args s rm_X8_submit.cells rm_X8_submit.slots (gA X)) 0 0 46 [none, none] [.int t0] g := by
    intro  t0 g hf
    unfold w_X8_submit_b46 at hf
    exact gg_iret C hr (by decide) (by decide) dX8_submit_46 rfl hf
  have hb_27 : ∀ (l0 : Option Nat) (l1 : Int32) (t0 : Int32) (t1 : Option Nat) (g : GM), w_X8_submit_b27 X post px  l0 l1 t0 t1 g → GG X p l e rm_X8_submit s m args below meth c 2 (vx_MQ below (qI X post) (gXC X px) args s rm_X8_submit.cells rm_X8_submit.slots (gA X)) 0 0 27 [some (va_rf l0), some (.int l1)] [.int t0, va_rf t1] g := by
    intro  l0 l1 t0 t1 g hf
    unfold w_X8_submit_b27 at hf
    refine gg_put C dX8_submit_27 pk_X8_110 (gNar_int _) hf (fun g5 hf => ?_)
    refine gg_aload_n C dX8_submit_30 rfl ?_
    refine gg_getI C dX8_submit_31 lk_X8_110 hf (fun i6 hf => ?_)
    refine gg_if_le (tgt := 41) C dX8_submit_34 (by decide) hf (fun hf => ?_) (fun hf => ?_)
    · refine gg_aload_n C dX8_submit_41 rfl ?_
      refine gg_iload_n C dX8_submit_42 rfl ?_
      refine gr_I (k' := 0) (n' := 0) (gk_V (ci := 8) (As := [.int l1]) (rest := []) C dX8_submit_43 rfl rfl tw_1611 tw_1613 tw_28 tw_56 tw_1614 gd_X8_waits rfl ⟨by decide, by decide⟩ (by simp [gcat, gcI, gcL, gcF, gcD]) ⟨by decide, by decide⟩ hf (fun hf => m_X8_waits hfl hf)) rfl rfl (fun E g9 h9 => gx_out C (fun x hx => (ht x hx).elim) (by decide) (by decide) h9) (fun i8 g7 hf => ?_)
      exact gg_sub (L' := [none, none]) (by first | exact trivial | simp [gsub]) (hb_46 _ _ hf)
    · refine gg_iconst C dX8_submit_37 (v := (0 : Int32)) (by decide) ?_
      refine gg_goto (tgt := 46) C dX8_submit_38 (by decide) ?_
      exact gg_sub (L' := [none, none]) (by first | exact trivial | simp [gsub]) (hb_46 _ _ hf)
  unfold w_X8_submit at hf
  refine gg_aload_n C dX8_submit_0 rfl ?_
  refine gg_iload_n C dX8_submit_1 rfl ?_
  refine gr_I (k' := 0) (n' := 0) (gk_V (ci := 8) (As := [.int v1]) (rest := []) C dX8_submit_2 rfl rfl tw_1599 tw_1601 tw_26 tw_56 tw_1602 gd_X8_noBuild rfl ⟨by decide, by decide⟩ (by simp [gcat, gcI, gcL, gcF, gcD]) ⟨by decide, by decide⟩ hf (fun hf => m_X8_noBuild hfl hf)) rfl rfl (fun E g9 h9 => gx_out C (fun x hx => (ht x hx).elim) (by decide) (by decide) h9) (fun i2 g1 hf => ?_)
  refine gg_if_eq (tgt := 10) C dX8_submit_5 (by decide) hf (fun hf => ?_) (fun hf => ?_)
  · refine gg_aload_n C dX8_submit_10 rfl ?_
    refine gg_aload_n C dX8_submit_11 rfl ?_
    refine gg_getR C dX8_submit_12 lk_X8_51 hf (fun r3 hf => ?_)
    refine gg_iload_n C dX8_submit_15 rfl ?_
    refine gg_cald C dX8_submit_16 hf (fun i4 hf => ?_)
    refine gg_bipush C dX8_submit_17 (v := (100 : Int32)) (by decide) ?_
    refine gg_icmp_ne (tgt := 26) C dX8_submit_19 (by decide) hf (fun hf => ?_) (fun hf => ?_)
    · refine gg_iconst C dX8_submit_26 (v := (2 : Int32)) (by decide) ?_
      exact hb_27 _ _ _ _ _ hf
    · refine gg_iconst C dX8_submit_22 (v := (0 : Int32)) (by decide) ?_
      refine gg_goto (tgt := 27) C dX8_submit_23 (by decide) ?_
      exact hb_27 _ _ _ _ _ hf
  · refine gg_iconst C dX8_submit_8 (v := (0 : Int32)) (by decide) ?_
    exact gg_iret C hr (by decide) (by decide) dX8_submit_9 rfl hf

def w_X8_next_b110 (X : Cx) (post : Int32 → GM → Prop) (px : String → GM → Prop) (k4 : Option Nat → Int32 → Int32 → GM → Prop) (l0 : Option Nat) (l1 : Int32) (l2 : Int32) (g : GM) : Prop :=
  k4 l0 l1 (l2 + 1) g
def w_X8_next_b109 (X : Cx) (post : Int32 → GM → Prop) (px : String → GM → Prop) (k4 : Option Nat → Int32 → Int32 → GM → Prop) (l0 : Option Nat) (l2 : Int32) (t0 : Int32) (g : GM) : Prop :=
  w_X8_next_b110 X post px k4 l0 t0 l2 g
def w_X8_next_b97 (X : Cx) (post : Int32 → GM → Prop) (px : String → GM → Prop) (k4 : Option Nat → Int32 → Int32 → GM → Prop) (l0 : Option Nat) (l1 : Int32) (l2 : Int32) (t0 : Int32) (g : GM) : Prop :=
  (if t0 = 0 then w_X8_next_b109 X post px k4 l0 l2 l1 g else w_X8_next_b109 X post px k4 l0 l2 l2 g)
def w_X8_next_b92 (X : Cx) (post : Int32 → GM → Prop) (px : String → GM → Prop) (k4 : Option Nat → Int32 → Int32 → GM → Prop) (l0 : Option Nat) (l1 : Int32) (l2 : Int32) (g : GM) : Prop :=
  w_X8_next_b97 X post px k4 l0 l1 l2 (1 : Int32) g
def w_X8_next_b96 (X : Cx) (post : Int32 → GM → Prop) (px : String → GM → Prop) (k4 : Option Nat → Int32 → Int32 → GM → Prop) (l0 : Option Nat) (l1 : Int32) (l2 : Int32) (g : GM) : Prop :=
  w_X8_next_b97 X post px k4 l0 l1 l2 (0 : Int32) g
def w_X8_next_b74 (X : Cx) (post : Int32 → GM → Prop) (px : String → GM → Prop) (k4 : Option Nat → Int32 → Int32 → GM → Prop) (l0 : Option Nat) (l1 : Int32) (l2 : Int32) (t0 : Int32) (t1 : Int32) (g : GM) : Prop :=
  (if t1 = t0 then wGetR g l0 8 15 (fun (r8 : Option Nat) => wAld g r8 l2 0 (fun (i9 : Int32) => wGetR g l0 8 15 (fun (r10 : Option Nat) => wAld g r10 l1 0 (fun (i11 : Int32) => (if i11 ≤ i9 then w_X8_next_b96 X post px k4 l0 l1 l2 g else w_X8_next_b92 X post px k4 l0 l1 l2 g))))) else w_X8_next_b96 X post px k4 l0 l1 l2 g)
def w_X8_next_b58 (X : Cx) (post : Int32 → GM → Prop) (px : String → GM → Prop) (k4 : Option Nat → Int32 → Int32 → GM → Prop) (l0 : Option Nat) (l1 : Int32) (l2 : Int32) (l3 : Int32) (g : GM) : Prop :=
  wGetR g l0 8 13 (fun (r6 : Option Nat) => wAld g r6 l1 0 (fun (i7 : Int32) => (if i7 = (-1 : Int32) then w_X8_next_b74 X post px k4 l0 l1 l2 (0 : Int32) l3 g else w_X8_next_b74 X post px k4 l0 l1 l2 (1 : Int32) l3 g)))
def w_X8_next_b38 (X : Cx) (post : Int32 → GM → Prop) (px : String → GM → Prop) (k4 : Option Nat → Int32 → Int32 → GM → Prop) (l0 : Option Nat) (l1 : Int32) (l2 : Int32) (t0 : Int32) (g : GM) : Prop :=
  (if l1 = (-1 : Int32) then w_X8_next_b92 X post px k4 l0 l1 l2 g else (if t0 = 0 then w_X8_next_b58 X post px k4 l0 l1 l2 t0 g else wGetR g l0 8 13 (fun (r12 : Option Nat) => wAld g r12 l1 0 (fun (i13 : Int32) => (if i13 = (-1 : Int32) then w_X8_next_b92 X post px k4 l0 l1 l2 g else w_X8_next_b58 X post px k4 l0 l1 l2 t0 g)))))
def w_X8_next_l4 (X : Cx) (post : Int32 → GM → Prop) (px : String → GM → Prop)  : Nat → Option Nat → Int32 → Int32 → GM → Prop
  | 0, _, _, _, _ => False
  | f + 1, l0, l1, l2, g => wGetI g l0 8 21 (fun (i1 : Int32) => (if i1 ≤ l2 then post l1 g else wGetR g l0 8 14 (fun (r2 : Option Nat) => wAld g r2 l2 1 (fun (i3 : Int32) => (if i3 = (119 : Int32) then wGetR g l0 8 13 (fun (r4 : Option Nat) => wAld g r4 l2 0 (fun (i5 : Int32) => (if i5 = (-1 : Int32) then w_X8_next_b38 X post px (w_X8_next_l4 X post px f) l0 l1 l2 (0 : Int32) g else w_X8_next_b38 X post px (w_X8_next_l4 X post px f) l0 l1 l2 (1 : Int32) g))) else w_X8_next_b110 X post px (w_X8_next_l4 X post px f) l0 l1 l2 g)))))
def w_X8_next (X : Cx) (post : Int32 → GM → Prop) (px : String → GM → Prop) (v0 : Option Nat) (g : GM) : Prop :=
  w_X8_next_l4 X post px 3000 v0 (-1 : Int32) (0 : Int32) g
abbrev rm_X8_next : Room := { frames := 0, cells := 0, slots := 0, locals := 0 }
set_option maxHeartbeats 4000000 in
set_option maxRecDepth 100000 in
theorem m_X8_next {X : Cx} {l : Launch} (hfl : l.stackTraces = false) {post : Int32 → GM → Prop} {px : String → GM → Prop} {v0 : Option Nat} {g : GM} (hf : w_X8_next X post px v0 g) : gMet X l yX8_next cX8_next 5 (some .int) rm_X8_next [va_rf v0] g (qI X post) px := by
  refine gg_enter (L := [some (va_rf v0), none, none, none, none]) hfl (by decide +kernel) (by simp [lg_sl, gcat, gcI, gcL, gcF, gcD]) (by simp [gll, lv_args, gcat, gcI, gcL, gcF, gcD]) ?_
  intro p e s m args below meth c C hr ht hm
  have C : FC X p l s m args meth c cX8_next 5 "ReleasetrainModel" := C
  have hb_110 : ∀ (k4 : Option Nat → Int32 → Int32 → GM → Prop), (∀ (l0 : Option Nat) (l1 : Int32) (l2 : Int32) (g : GM), k4 l0 l1 l2 g → GG X p l e rm_X8_next s m args below meth c 5 (vx_MQ below (qI X post) (gXC X px) args s rm_X8_next.cells rm_X8_next.slots (gA X)) 0 0 4 [some (va_rf l0), some (.int l1), some (.int l2), none, none] [] g) → ∀ (l0 : Option Nat) (l1 : Int32) (l2 : Int32) (g : GM), w_X8_next_b110 X post px k4 l0 l1 l2 g → GG X p l e rm_X8_next s m args below meth c 5 (vx_MQ below (qI X post) (gXC X px) args s rm_X8_next.cells rm_X8_next.slots (gA X)) 0 0 110 [some (va_rf l0), some (.int l1), some (.int l2), none, none] [] g := by
    intro k4 hk4 l0 l1 l2 g hf
    unfold w_X8_next_b110 at hf
    refine gg_iinc (L' := [some (va_rf l0), some (.int l1), some (.int (l2 + 1)), none, none]) C dX8_next_110 rfl (v := (l2 + 1)) rfl (Or.inr (Or.inr ⟨_, rfl, rfl⟩)) (by decide) rfl ?_
    refine gg_goto (tgt := 4) C dX8_next_113 (by decide) ?_
    exact hk4 _ _ _ _ hf
  have hb_109 : ∀ (k4 : Option Nat → Int32 → Int32 → GM → Prop), (∀ (l0 : Option Nat) (l1 : Int32) (l2 : Int32) (g : GM), k4 l0 l1 l2 g → GG X p l e rm_X8_next s m args below meth c 5 (vx_MQ below (qI X post) (gXC X px) args s rm_X8_next.cells rm_X8_next.slots (gA X)) 0 0 4 [some (va_rf l0), some (.int l1), some (.int l2), none, none] [] g) → ∀ (l0 : Option Nat) (l2 : Int32) (t0 : Int32) (g : GM), w_X8_next_b109 X post px k4 l0 l2 t0 g → GG X p l e rm_X8_next s m args below meth c 5 (vx_MQ below (qI X post) (gXC X px) args s rm_X8_next.cells rm_X8_next.slots (gA X)) 0 0 109 [some (va_rf l0), none, some (.int l2), none, none] [.int t0] g := by
    intro k4 hk4 l0 l2 t0 g hf
    unfold w_X8_next_b109 at hf
    refine gg_istore_n (L' := [some (va_rf l0), some (.int t0), some (.int l2), none, none]) C dX8_next_109 (Or.inr (Or.inr ⟨_, rfl, gcat _⟩)) (by decide) rfl ?_
    exact hb_110 _ hk4 _ _ _ _ hf
  have hb_97 : ∀ (k4 : Option Nat → Int32 → Int32 → GM → Prop), (∀ (l0 : Option Nat) (l1 : Int32) (l2 : Int32) (g : GM), k4 l0 l1 l2 g → GG X p l e rm_X8_next s m args below meth c 5 (vx_MQ below (qI X post) (gXC X px) args s rm_X8_next.cells rm_X8_next.slots (gA X)) 0 0 4 [some (va_rf l0), some (.int l1), some (.int l2), none, none] [] g) → ∀ (l0 : Option Nat) (l1 : Int32) (l2 : Int32) (t0 : Int32) (g : GM), w_X8_next_b97 X post px k4 l0 l1 l2 t0 g → GG X p l e rm_X8_next s m args below meth c 5 (vx_MQ below (qI X post) (gXC X px) args s rm_X8_next.cells rm_X8_next.slots (gA X)) 0 0 97 [some (va_rf l0), some (.int l1), some (.int l2), none, none] [.int t0] g := by
    intro k4 hk4 l0 l1 l2 t0 g hf
    unfold w_X8_next_b97 at hf
    refine gg_istore (L' := [some (va_rf l0), some (.int l1), some (.int l2), none, some (.int t0)]) C dX8_next_97 (Or.inr (Or.inl rfl)) (by decide) rfl ?_
    refine gg_iload C dX8_next_99 rfl ?_
    refine gg_if_eq (tgt := 108) C dX8_next_101 (by decide) hf (fun hf => ?_) (fun hf => ?_)
    · refine gg_iload_n C dX8_next_108 rfl ?_
      exact gg_sub (L' := [some (va_rf l0), none, some (.int l2), none, none]) (by first | exact ⟨rfl, ⟨rfl, trivial⟩⟩ | simp [gsub]) (hb_109 _ hk4 _ _ _ _ hf)
    · refine gg_iload_n C dX8_next_104 rfl ?_
      refine gg_goto (tgt := 109) C dX8_next_105 (by decide) ?_
      exact gg_sub (L' := [some (va_rf l0), none, some (.int l2), none, none]) (by first | exact ⟨rfl, ⟨rfl, trivial⟩⟩ | simp [gsub]) (hb_109 _ hk4 _ _ _ _ hf)
  have hb_92 : ∀ (k4 : Option Nat → Int32 → Int32 → GM → Prop), (∀ (l0 : Option Nat) (l1 : Int32) (l2 : Int32) (g : GM), k4 l0 l1 l2 g → GG X p l e rm_X8_next s m args below meth c 5 (vx_MQ below (qI X post) (gXC X px) args s rm_X8_next.cells rm_X8_next.slots (gA X)) 0 0 4 [some (va_rf l0), some (.int l1), some (.int l2), none, none] [] g) → ∀ (l0 : Option Nat) (l1 : Int32) (l2 : Int32) (g : GM), w_X8_next_b92 X post px k4 l0 l1 l2 g → GG X p l e rm_X8_next s m args below meth c 5 (vx_MQ below (qI X post) (gXC X px) args s rm_X8_next.cells rm_X8_next.slots (gA X)) 0 0 92 [some (va_rf l0), some (.int l1), some (.int l2), none, none] [] g := by
    intro k4 hk4 l0 l1 l2 g hf
    unfold w_X8_next_b92 at hf
    refine gg_iconst C dX8_next_92 (v := (1 : Int32)) (by decide) ?_
    refine gg_goto (tgt := 97) C dX8_next_93 (by decide) ?_
    exact hb_97 _ hk4 _ _ _ _ _ hf
  have hb_96 : ∀ (k4 : Option Nat → Int32 → Int32 → GM → Prop), (∀ (l0 : Option Nat) (l1 : Int32) (l2 : Int32) (g : GM), k4 l0 l1 l2 g → GG X p l e rm_X8_next s m args below meth c 5 (vx_MQ below (qI X post) (gXC X px) args s rm_X8_next.cells rm_X8_next.slots (gA X)) 0 0 4 [some (va_rf l0), some (.int l1), some (.int l2), none, none] [] g) → ∀ (l0 : Option Nat) (l1 : Int32) (l2 : Int32) (g : GM), w_X8_next_b96 X post px k4 l0 l1 l2 g → GG X p l e rm_X8_next s m args below meth c 5 (vx_MQ below (qI X post) (gXC X px) args s rm_X8_next.cells rm_X8_next.slots (gA X)) 0 0 96 [some (va_rf l0), some (.int l1), some (.int l2), none, none] [] g := by
    intro k4 hk4 l0 l1 l2 g hf
    unfold w_X8_next_b96 at hf
    refine gg_iconst C dX8_next_96 (v := (0 : Int32)) (by decide) ?_
    exact hb_97 _ hk4 _ _ _ _ _ hf
  have hb_74 : ∀ (k4 : Option Nat → Int32 → Int32 → GM → Prop), (∀ (l0 : Option Nat) (l1 : Int32) (l2 : Int32) (g : GM), k4 l0 l1 l2 g → GG X p l e rm_X8_next s m args below meth c 5 (vx_MQ below (qI X post) (gXC X px) args s rm_X8_next.cells rm_X8_next.slots (gA X)) 0 0 4 [some (va_rf l0), some (.int l1), some (.int l2), none, none] [] g) → ∀ (l0 : Option Nat) (l1 : Int32) (l2 : Int32) (t0 : Int32) (t1 : Int32) (g : GM), w_X8_next_b74 X post px k4 l0 l1 l2 t0 t1 g → GG X p l e rm_X8_next s m args below meth c 5 (vx_MQ below (qI X post) (gXC X px) args s rm_X8_next.cells rm_X8_next.slots (gA X)) 0 0 74 [some (va_rf l0), some (.int l1), some (.int l2), none, none] [.int t0, .int t1] g := by
    intro k4 hk4 l0 l1 l2 t0 t1 g hf
    unfold w_X8_next_b74 at hf
    refine gg_icmp_ne (tgt := 96) C dX8_next_74 (by decide) hf (fun hf => ?_) (fun hf => ?_)
    · exact hb_96 _ hk4 _ _ _ _ hf
    · refine gg_aload_n C dX8_next_77 rfl ?_
      refine gg_getR C dX8_next_78 lk_X8_55 hf (fun r8 hf => ?_)
      refine gg_iload_n C dX8_next_81 rfl ?_
      refine gg_iald C dX8_next_82 hf (fun i9 hf => ?_)
      refine gg_aload_n C dX8_next_83 rfl ?_
      refine gg_getR C dX8_next_84 lk_X8_55 hf (fun r10 hf => ?_)
      refine gg_iload_n C dX8_next_87 rfl ?_
      refine gg_iald C dX8_next_88 hf (fun i11 hf => ?_)
      refine gg_icmp_ge (tgt := 96) C dX8_next_89 (by decide) hf (fun hf => ?_) (fun hf => ?_)
      · exact hb_96 _ hk4 _ _ _ _ hf
      · exact hb_92 _ hk4 _ _ _ _ hf
  have hb_58 : ∀ (k4 : Option Nat → Int32 → Int32 → GM → Prop), (∀ (l0 : Option Nat) (l1 : Int32) (l2 : Int32) (g : GM), k4 l0 l1 l2 g → GG X p l e rm_X8_next s m args below meth c 5 (vx_MQ below (qI X post) (gXC X px) args s rm_X8_next.cells rm_X8_next.slots (gA X)) 0 0 4 [some (va_rf l0), some (.int l1), some (.int l2), none, none] [] g) → ∀ (l0 : Option Nat) (l1 : Int32) (l2 : Int32) (l3 : Int32) (g : GM), w_X8_next_b58 X post px k4 l0 l1 l2 l3 g → GG X p l e rm_X8_next s m args below meth c 5 (vx_MQ below (qI X post) (gXC X px) args s rm_X8_next.cells rm_X8_next.slots (gA X)) 0 0 58 [some (va_rf l0), some (.int l1), some (.int l2), some (.int l3), none] [] g := by
    intro k4 hk4 l0 l1 l2 l3 g hf
    unfold w_X8_next_b58 at hf
    refine gg_iload_n C dX8_next_58 rfl ?_
    refine gg_aload_n C dX8_next_59 rfl ?_
    refine gg_getR C dX8_next_60 lk_X8_48 hf (fun r6 hf => ?_)
    refine gg_iload_n C dX8_next_63 rfl ?_
    refine gg_iald C dX8_next_64 hf (fun i7 hf => ?_)
    refine gg_iconst C dX8_next_65 (v := (-1 : Int32)) (by decide) ?_
    refine gg_icmp_eq (tgt := 73) C dX8_next_66 (by decide) hf (fun hf => ?_) (fun hf => ?_)
    · refine gg_iconst C dX8_next_73 (v := (0 : Int32)) (by decide) ?_
      exact gg_sub (L' := [some (va_rf l0), some (.int l1), some (.int l2), none, none]) (by first | exact ⟨rfl, ⟨rfl, ⟨rfl, trivial⟩⟩⟩ | simp [gsub]) (hb_74 _ hk4 _ _ _ _ _ _ hf)
    · refine gg_iconst C dX8_next_69 (v := (1 : Int32)) (by decide) ?_
      refine gg_goto (tgt := 74) C dX8_next_70 (by decide) ?_
      exact gg_sub (L' := [some (va_rf l0), some (.int l1), some (.int l2), none, none]) (by first | exact ⟨rfl, ⟨rfl, ⟨rfl, trivial⟩⟩⟩ | simp [gsub]) (hb_74 _ hk4 _ _ _ _ _ _ hf)
  have hb_38 : ∀ (k4 : Option Nat → Int32 → Int32 → GM → Prop), (∀ (l0 : Option Nat) (l1 : Int32) (l2 : Int32) (g : GM), k4 l0 l1 l2 g → GG X p l e rm_X8_next s m args below meth c 5 (vx_MQ below (qI X post) (gXC X px) args s rm_X8_next.cells rm_X8_next.slots (gA X)) 0 0 4 [some (va_rf l0), some (.int l1), some (.int l2), none, none] [] g) → ∀ (l0 : Option Nat) (l1 : Int32) (l2 : Int32) (t0 : Int32) (g : GM), w_X8_next_b38 X post px k4 l0 l1 l2 t0 g → GG X p l e rm_X8_next s m args below meth c 5 (vx_MQ below (qI X post) (gXC X px) args s rm_X8_next.cells rm_X8_next.slots (gA X)) 0 0 38 [some (va_rf l0), some (.int l1), some (.int l2), none, none] [.int t0] g := by
    intro k4 hk4 l0 l1 l2 t0 g hf
    unfold w_X8_next_b38 at hf
    refine gg_istore_n (L' := [some (va_rf l0), some (.int l1), some (.int l2), some (.int t0), none]) C dX8_next_38 (Or.inr (Or.inr ⟨_, rfl, rfl⟩)) (by decide) rfl ?_
    refine gg_iload_n C dX8_next_39 rfl ?_
    refine gg_iconst C dX8_next_40 (v := (-1 : Int32)) (by decide) ?_
    refine gg_icmp_eq (tgt := 92) C dX8_next_41 (by decide) hf (fun hf => ?_) (fun hf => ?_)
    · exact gg_sub (L' := [some (va_rf l0), some (.int l1), some (.int l2), none, none]) (by first | exact ⟨rfl, ⟨rfl, ⟨rfl, trivial⟩⟩⟩ | simp [gsub]) (hb_92 _ hk4 _ _ _ _ hf)
    · refine gg_iload_n C dX8_next_44 rfl ?_
      refine gg_if_eq (tgt := 58) C dX8_next_45 (by decide) hf (fun hf => ?_) (fun hf => ?_)
      · exact hb_58 _ hk4 _ _ _ _ _ hf
      · refine gg_aload_n C dX8_next_48 rfl ?_
        refine gg_getR C dX8_next_49 lk_X8_48 hf (fun r12 hf => ?_)
        refine gg_iload_n C dX8_next_52 rfl ?_
        refine gg_iald C dX8_next_53 hf (fun i13 hf => ?_)
        refine gg_iconst C dX8_next_54 (v := (-1 : Int32)) (by decide) ?_
        refine gg_icmp_eq (tgt := 92) C dX8_next_55 (by decide) hf (fun hf => ?_) (fun hf => ?_)
        · exact gg_sub (L' := [some (va_rf l0), some (.int l1), some (.int l2), none, none]) (by first | exact ⟨rfl, ⟨rfl, ⟨rfl, trivial⟩⟩⟩ | simp [gsub]) (hb_92 _ hk4 _ _ _ _ hf)
        · exact hb_58 _ hk4 _ _ _ _ _ hf
  have hb_4 : ∀ (f : Nat) (l0 : Option Nat) (l1 : Int32) (l2 : Int32) (g : GM), w_X8_next_l4 X post px  f l0 l1 l2 g → GG X p l e rm_X8_next s m args below meth c 5 (vx_MQ below (qI X post) (gXC X px) args s rm_X8_next.cells rm_X8_next.slots (gA X)) 0 0 4 [some (va_rf l0), some (.int l1), some (.int l2), none, none] [] g := by
    intro  f
    induction f with
    | zero => intro l0 l1 l2 g hf; exact (show False from hf).elim
    | succ f ih =>
      intro l0 l1 l2 g hf
      rw [w_X8_next_l4] at hf
      refine gg_iload_n C dX8_next_4 rfl ?_
      refine gg_aload_n C dX8_next_5 rfl ?_
      refine gg_getI C dX8_next_6 lk_X8_120 hf (fun i1 hf => ?_)
      refine gg_icmp_ge (tgt := 116) C dX8_next_9 (by decide) hf (fun hf => ?_) (fun hf => ?_)
      · refine gg_iload_n C dX8_next_116 rfl ?_
        exact gg_iret C hr (by decide) (by decide) dX8_next_117 rfl hf
      · refine gg_aload_n C dX8_next_12 rfl ?_
        refine gg_getR C dX8_next_13 lk_X8_51 hf (fun r2 hf => ?_)
        refine gg_iload_n C dX8_next_16 rfl ?_
        refine gg_cald C dX8_next_17 hf (fun i3 hf => ?_)
        refine gg_bipush C dX8_next_18 (v := (119 : Int32)) (by decide) ?_
        refine gg_icmp_ne (tgt := 110) C dX8_next_20 (by decide) hf (fun hf => ?_) (fun hf => ?_)
        · exact hb_110 _ ih _ _ _ _ hf
        · refine gg_aload_n C dX8_next_23 rfl ?_
          refine gg_getR C dX8_next_24 lk_X8_48 hf (fun r4 hf => ?_)
          refine gg_iload_n C dX8_next_27 rfl ?_
          refine gg_iald C dX8_next_28 hf (fun i5 hf => ?_)
          refine gg_iconst C dX8_next_29 (v := (-1 : Int32)) (by decide) ?_
          refine gg_icmp_eq (tgt := 37) C dX8_next_30 (by decide) hf (fun hf => ?_) (fun hf => ?_)
          · refine gg_iconst C dX8_next_37 (v := (0 : Int32)) (by decide) ?_
            exact hb_38 _ ih _ _ _ _ _ hf
          · refine gg_iconst C dX8_next_33 (v := (1 : Int32)) (by decide) ?_
            refine gg_goto (tgt := 38) C dX8_next_34 (by decide) ?_
            exact hb_38 _ ih _ _ _ _ _ hf
  unfold w_X8_next at hf
  refine gg_iconst C dX8_next_0 (v := (-1 : Int32)) (by decide) ?_
  refine gg_istore_n (L' := [some (va_rf v0), some (.int (-1 : Int32)), none, none, none]) C dX8_next_1 (Or.inr (Or.inr ⟨_, rfl, gcat _⟩)) (by decide) rfl ?_
  refine gg_iconst C dX8_next_2 (v := (0 : Int32)) (by decide) ?_
  refine gg_istore_n (L' := [some (va_rf v0), some (.int (-1 : Int32)), some (.int (0 : Int32)), none, none]) C dX8_next_3 (Or.inr (Or.inr ⟨_, rfl, rfl⟩)) (by decide) rfl ?_
  exact hb_4 _ _ _ _ _ hf
