def w_X7_nextInReview (X : Cx) (post : Int32 → GM → Prop) (px : String → GM → Prop) (v0 : Option Nat) (g : GM) : Prop :=
  wIs g v0 7 (w_X7_firstWaiting X (fun (r2 : Option Nat) (g1 : GM) => wGetI g1 r2 1 0 (fun (i3 : Int32) => post i3 g1)) px v0 g)
abbrev rm_X7_nextInReview : Room := { frames := 7, cells := 1, slots := 6, locals := 105 }
set_option maxHeartbeats 4000000 in
set_option maxRecDepth 100000 in
theorem m_X7_nextInReview {X : Cx} {l : Launch} (hfl : l.stackTraces = false) {post : Int32 → GM → Prop} {px : String → GM → Prop} {v0 : Option Nat} {g : GM} (hf : w_X7_nextInReview X post px v0 g) : gMet X l yX7_nextInReview cX7_nextInReview 1 (some .int) rm_X7_nextInReview [va_rf v0] g (qI X post) px := by
  refine gg_enter (L := [some (va_rf v0)]) hfl (by decide +kernel) (by simp [lg_sl, gcat, gcI, gcL, gcF, gcD]) (by simp [gll, lv_args, gcat, gcI, gcL, gcF, gcD]) ?_
  intro p e s m args below meth c C hr ht hm
  have C : FC X p l s m args meth c cX7_nextInReview 1 "Releasetrain" := C
  unfold w_X7_nextInReview at hf
  refine gg_aload_n C dX7_nextInReview_0 rfl ?_
  refine gr_R (k' := 1) (n' := 6) (gk_V (ci := 7) (As := []) (rest := []) C dX7_nextInReview_1 rfl rfl tw_1206 tw_1208 tw_21 tw_25 tw_1209 gd_X7_firstWaiting rfl ⟨by decide, by decide⟩ (by simp [gcat, gcI, gcL, gcF, gcD]) ⟨by decide, by decide⟩ hf (fun hf => m_X7_firstWaiting hfl hf)) rfl rfl (fun E g9 h9 => gx_out C (fun x hx => (ht x hx).elim) (by decide) (by decide) h9) (fun r2 g1 hf => ?_)
  refine gg_getI C dX7_nextInReview_4 lk_X7_142 hf (fun i3 hf => ?_)
  exact gg_iret C hr (by decide) (by decide) dX7_nextInReview_7 rfl hf

def w_X7_barringRule_b33 (X : Cx) (post : Int32 → GM → Prop) (px : String → GM → Prop)  (t0 : Int32) (g : GM) : Prop :=
  (narrow .char (.int t0) = .int t0 ∧ post t0 g)
def w_X7_barringRule (X : Cx) (post : Int32 → GM → Prop) (px : String → GM → Prop) (v0 : Option Nat) (v1 : Option Nat) (g : GM) : Prop :=
  wGetI g v1 1 3 (fun (i1 : Int32) => wGetI g v0 7 7 (fun (i2 : Int32) => (if i1 ≤ i2 then wGetI g v1 1 4 (fun (i3 : Int32) => wGetI g v0 7 8 (fun (i4 : Int32) => (if (i3 &&& i4) = 0 then w_X7_barringRule_b33 X post px (45 : Int32) g else w_X7_barringRule_b33 X post px (112 : Int32) g))) else post (115 : Int32) g)))
abbrev rm_X7_barringRule : Room := { frames := 0, cells := 0, slots := 0, locals := 0 }
set_option maxHeartbeats 4000000 in
set_option maxRecDepth 100000 in
theorem m_X7_barringRule {X : Cx} {l : Launch} (hfl : l.stackTraces = false) {post : Int32 → GM → Prop} {px : String → GM → Prop} {v0 : Option Nat} {v1 : Option Nat} {g : GM} (hf : w_X7_barringRule X post px v0 v1 g) : gMet X l yX7_barringRule cX7_barringRule 2 (some .char) rm_X7_barringRule [va_rf v0, va_rf v1] g (qI X post) px := by
  refine gg_enter (L := [some (va_rf v0), some (va_rf v1)]) hfl (by decide +kernel) (by simp [lg_sl, gcat, gcI, gcL, gcF, gcD]) (by simp [gll, lv_args, gcat, gcI, gcL, gcF, gcD]) ?_
  intro p e s m args below meth c C hr ht hm
  have C : FC X p l s m args meth c cX7_barringRule 2 "Releasetrain" := C
  have hb_33 : ∀ (t0 : Int32) (g : GM), w_X7_barringRule_b33 X post px  t0 g → GG X p l e rm_X7_barringRule s m args below meth c 2 (vx_MQ below (qI X post) (gXC X px) args s rm_X7_barringRule.cells rm_X7_barringRule.slots (gA X)) 0 0 33 [none, none] [.int t0] g := by
    intro  t0 g hf
    unfold w_X7_barringRule_b33 at hf
    exact gg_iret C hr (by decide) (by decide) dX7_barringRule_33 hf.1 hf.2
  unfold w_X7_barringRule at hf
  refine gg_aload_n C dX7_barringRule_0 rfl ?_
  refine gg_getI C dX7_barringRule_1 lk_X7_426 hf (fun i1 hf => ?_)
  refine gg_aload_n C dX7_barringRule_4 rfl ?_
  refine gg_getI C dX7_barringRule_5 lk_X7_42 hf (fun i2 hf => ?_)
  refine gg_icmp_le (tgt := 14) C dX7_barringRule_8 (by decide) hf (fun hf => ?_) (fun hf => ?_)
  · refine gg_aload_n C dX7_barringRule_14 rfl ?_
    refine gg_getI C dX7_barringRule_15 lk_X7_428 hf (fun i3 hf => ?_)
    refine gg_aload_n C dX7_barringRule_18 rfl ?_
    refine gg_getI C dX7_barringRule_19 lk_X7_46 hf (fun i4 hf => ?_)
    refine gg_iand C dX7_barringRule_22 ?_
    refine gg_if_eq (tgt := 31) C dX7_barringRule_23 (by decide) hf (fun hf => ?_) (fun hf => ?_)
    · refine gg_bipush C dX7_barringRule_31 (v := (45 : Int32)) (by decide) ?_
      exact gg_sub (L' := [none, none]) (by first | exact trivial | simp [gsub]) (hb_33 _ _ hf)
    · refine gg_bipush C dX7_barringRule_26 (v := (112 : Int32)) (by decide) ?_
      refine gg_goto (tgt := 33) C dX7_barringRule_28 (by decide) ?_
      exact gg_sub (L' := [none, none]) (by first | exact trivial | simp [gsub]) (hb_33 _ _ hf)
  · refine gg_bipush C dX7_barringRule_11 (v := (115 : Int32)) (by decide) ?_
    exact gg_iret C hr (by decide) (by decide) dX7_barringRule_13 rfl hf

def w_X7_review_b25 (X : Cx) (post : Int32 → GM → Prop) (px : String → GM → Prop)  (l2 : Int32) (t0 : Int32) (t1 : Option Nat) (g : GM) : Prop :=
  gNar .char (.int t0) ∧ wPut g t1 1 7 (.int t0) (fun g5 => (narrow .char (.int l2) = .int l2 ∧ post l2 g5))
def w_X7_review (X : Cx) (post : Int32 → GM → Prop) (px : String → GM → Prop) (v0 : Option Nat) (g : GM) : Prop :=
  wIs g v0 7 (w_X7_firstWaiting X (fun (r2 : Option Nat) (g1 : GM) => wIs g1 v0 7 (w_X7_barringRule X (fun (i4 : Int32) (g3 : GM) => (if i4 = (45 : Int32) then w_X7_review_b25 X post px i4 (97 : Int32) r2 g3 else w_X7_review_b25 X post px i4 (114 : Int32) r2 g3)) px v0 r2 g1)) px v0 g)
abbrev rm_X7_review : Room := { frames := 7, cells := 1, slots := 6, locals := 105 }
set_option maxHeartbeats 4000000 in
set_option maxRecDepth 100000 in
theorem m_X7_review {X : Cx} {l : Launch} (hfl : l.stackTraces = false) {post : Int32 → GM → Prop} {px : String → GM → Prop} {v0 : Option Nat} {g : GM} (hf : w_X7_review X post px v0 g) : gMet X l yX7_review cX7_review 3 (some .char) rm_X7_review [va_rf v0] g (qI X post) px := by
  refine gg_enter (L := [some (va_rf v0), none, none]) hfl (by decide +kernel) (by simp [lg_sl, gcat, gcI, gcL, gcF, gcD]) (by simp [gll, lv_args, gcat, gcI, gcL, gcF, gcD]) ?_
  intro p e s m args below meth c C hr ht hm
  have C : FC X p l s m args meth c cX7_review 3 "Releasetrain" := C
  have hb_25 : ∀ (l2 : Int32) (t0 : Int32) (t1 : Option Nat) (g : GM), w_X7_review_b25 X post px  l2 t0 t1 g → GG X p l e rm_X7_review s m args below meth c 3 (vx_MQ below (qI X post) (gXC X px) args s rm_X7_review.cells rm_X7_review.slots (gA X)) 1 6 25 [none, none, some (.int l2)] [.int t0, va_rf t1] g := by
    intro  l2 t0 t1 g hf
    unfold w_X7_review_b25 at hf
    refine gg_put C dX7_review_25 pk_X7_125 hf.1 hf.2 (fun g5 hf => ?_)
    refine gg_iload_n C dX7_review_28 rfl ?_
    exact gg_iret C hr (by decide) (by decide) dX7_review_29 hf.1 hf.2
  unfold w_X7_review at hf
  refine gg_aload_n C dX7_review_0 rfl ?_
  refine gr_R (k' := 1) (n' := 6) (gk_V (ci := 7) (As := []) (rest := []) C dX7_review_1 rfl rfl tw_1206 tw_1208 tw_21 tw_25 tw_1209 gd_X7_firstWaiting rfl ⟨by decide, by decide⟩ (by simp [gcat, gcI, gcL, gcF, gcD]) ⟨by decide, by decide⟩ hf (fun hf => m_X7_firstWaiting hfl hf)) rfl rfl (fun E g9 h9 => gx_out C (fun x hx => (ht x hx).elim) (by decide) (by decide) h9) (fun r2 g1 hf => ?_)
  refine gg_astore_n (L' := [some (va_rf v0), some (va_rf r2), none]) C dX7_review_4 (Or.inr (Or.inr ⟨_, rfl, gcat _⟩)) (by decide) rfl ?_
  refine gg_aload_n C dX7_review_5 rfl ?_
  refine gg_aload_n C dX7_review_6 rfl ?_
  refine gr_I (k' := 1) (n' := 6) (gk_V (ci := 7) (As := [va_rf r2]) (rest := []) C dX7_review_7 rfl rfl tw_644 tw_646 tw_11 tw_25 tw_647 gd_X7_barringRule rfl ⟨by decide, by decide⟩ (by simp [gcat, gcI, gcL, gcF, gcD]) ⟨by decide, by decide⟩ hf (fun hf => m_X7_barringRule hfl hf)) rfl rfl (fun E g9 h9 => gx_out C (fun x hx => (ht x hx).elim) (by decide) (by decide) h9) (fun i4 g3 hf => ?_)
  refine gg_istore_n (L' := [some (va_rf v0), some (va_rf r2), some (.int i4)]) C dX7_review_10 (Or.inr (Or.inr ⟨_, rfl, gcat _⟩)) (by decide) rfl ?_
  refine gg_aload_n C dX7_review_11 rfl ?_
  refine gg_iload_n C dX7_review_12 rfl ?_
  refine gg_bipush C dX7_review_13 (v := (45 : Int32)) (by decide) ?_
  refine gg_icmp_ne (tgt := 23) C dX7_review_15 (by decide) hf (fun hf => ?_) (fun hf => ?_)
  · refine gg_bipush C dX7_review_23 (v := (114 : Int32)) (by decide) ?_
    exact gg_sub (L' := [none, none, some (.int i4)]) (by first | exact ⟨rfl, trivial⟩ | simp [gsub]) (hb_25 _ _ _ _ hf)
  · refine gg_bipush C dX7_review_18 (v := (97 : Int32)) (by decide) ?_
    refine gg_goto (tgt := 25) C dX7_review_20 (by decide) ?_
    exact gg_sub (L' := [none, none, some (.int i4)]) (by first | exact ⟨rfl, trivial⟩ | simp [gsub]) (hb_25 _ _ _ _ hf)

def w_X7_appeal_b22 (X : Cx) (post : Int32 → GM → Prop) (px : String → GM → Prop)   (g : GM) : Prop :=
  px "java/lang/IllegalStateException" g
def w_X7_appeal (X : Cx) (post : Int32 → GM → Prop) (px : String → GM → Prop) (v0 : Option Nat) (v1 : Int32) (g : GM) : Prop :=
  wIs g v0 7 (w_X7_knownBuild X (fun (r2 : Option Nat) (g1 : GM) => wGetI g1 r2 1 7 (fun (i3 : Int32) => (if i3 = (114 : Int32) then wGetI g1 r2 1 8 (fun (i4 : Int32) => (if i4 = 0 then wPut g1 r2 1 8 (.int (1 : Int32)) (fun g5 => wIs g5 v0 7 (w_X7_queue X (fun (g6 : GM) => wIs g6 v0 7 (w_X7_countWaiting X (fun (i8 : Int32) (g7 : GM) => post i8 g7) px v0 g6)) px v0 r2 g5)) else w_X7_appeal_b22 X post px g1)) else w_X7_appeal_b22 X post px g1))) px v0 v1 g)
abbrev rm_X7_appeal : Room := { frames := 7, cells := 2, slots := 12, locals := 103 }
set_option maxHeartbeats 4000000 in
set_option maxRecDepth 100000 in
theorem m_X7_appeal {X : Cx} {l : Launch} (hfl : l.stackTraces = false) {post : Int32 → GM → Prop} {px : String → GM → Prop} {v0 : Option Nat} {v1 : Int32} {g : GM} (hf : w_X7_appeal X post px v0 v1 g) : gMet X l yX7_appeal cX7_appeal 3 (some .int) rm_X7_appeal [va_rf v0, .int v1] g (qI X post) px := by
  refine gg_enter (L := [some (va_rf v0), some (.int v1), none]) hfl (by decide +kernel) (by simp [lg_sl, gcat, gcI, gcL, gcF, gcD]) (by simp [gll, lv_args, gcat, gcI, gcL, gcF, gcD]) ?_
  intro p e s m args below meth c C hr ht hm
  have C : FC X p l s m args meth c cX7_appeal 3 "Releasetrain" := C
  have hb_22 : ∀  (g : GM), w_X7_appeal_b22 X post px   g → GG X p l e rm_X7_appeal s m args below meth c 3 (vx_MQ below (qI X post) (gXC X px) args s rm_X7_appeal.cells rm_X7_appeal.slots (gA X)) 1 6 22 [none, none, none] [] g := by
    intro   g hf
    unfold w_X7_appeal_b22 at hf
    exact gg_throw (cls := "java/lang/IllegalStateException") (names := ["java/lang/RuntimeException", "java/lang/Exception"]) C (by decide +kernel) (by decide +kernel) tw_327 tw_40 xk_X7_82 (show ("Releasetrain", 153, "it is not refused, or was appealed", 23) ∈ gStr by decide +kernel) dX7_appeal_22 dX7_appeal_25 dX7_appeal_26 dX7_appeal_28 dX7_appeal_31 (fun x hx => (ht x hx).elim) (by decide) (by simp [gcat, gcI, gcL, gcF, gcD]) (by decide) (by decide) (by decide) (by decide) hf
  unfold w_X7_appeal at hf
  refine gg_aload_n C dX7_appeal_0 rfl ?_
  refine gg_iload_n C dX7_appeal_1 rfl ?_
  refine gr_R (k' := 1) (n' := 6) (gk_V (ci := 7) (As := [.int v1]) (rest := []) C dX7_appeal_2 rfl rfl tw_209 tw_211 tw_0 tw_25 tw_212 gd_X7_knownBuild rfl ⟨by decide, by decide⟩ (by simp [gcat, gcI, gcL, gcF, gcD]) ⟨by decide, by decide⟩ hf (fun hf => m_X7_knownBuild hfl hf)) rfl rfl (fun E g9 h9 => gx_out C (fun x hx => (ht x hx).elim) (by decide) (by decide) h9) (fun r2 g1 hf => ?_)
  refine gg_astore_n (L' := [some (va_rf v0), some (.int v1), some (va_rf r2)]) C dX7_appeal_5 (Or.inr (Or.inr ⟨_, rfl, rfl⟩)) (by decide) rfl ?_
  refine gg_aload_n C dX7_appeal_6 rfl ?_
  refine gg_getI C dX7_appeal_7 lk_X7_125 hf (fun i3 hf => ?_)
  refine gg_bipush C dX7_appeal_10 (v := (114 : Int32)) (by decide) ?_
  refine gg_icmp_ne (tgt := 22) C dX7_appeal_12 (by decide) hf (fun hf => ?_) (fun hf => ?_)
  · exact gg_sub (L' := [none, none, none]) (by first | exact trivial | simp [gsub]) (hb_22 _ hf)
  · refine gg_aload_n C dX7_appeal_15 rfl ?_
    refine gg_getI C dX7_appeal_16 lk_X7_149 hf (fun i4 hf => ?_)
    refine gg_if_eq (tgt := 32) C dX7_appeal_19 (by decide) hf (fun hf => ?_) (fun hf => ?_)
    · refine gg_aload_n C dX7_appeal_32 rfl ?_
      refine gg_iconst C dX7_appeal_33 (v := (1 : Int32)) (by decide) ?_
      refine gg_put C dX7_appeal_34 pk_X7_149 ⟨rfl, rfl⟩ hf (fun g5 hf => ?_)
      refine gg_aload_n C dX7_appeal_37 rfl ?_
      refine gg_aload_n C dX7_appeal_38 rfl ?_
      refine gr_V (k' := 1) (n' := 6) (gk_V (ci := 7) (As := [va_rf r2]) (rest := []) C dX7_appeal_39 rfl rfl tw_615 tw_617 tw_8 tw_25 tw_618 gd_X7_queue rfl ⟨by decide, by decide⟩ (by simp [gcat, gcI, gcL, gcF, gcD]) ⟨by decide, by decide⟩ hf (fun hf => m_X7_queue hfl hf)) rfl rfl (fun E g9 h9 => gx_out C (fun x hx => (ht x hx).elim) (by decide) (by decide) h9) (fun g6 hf => ?_)
      refine gg_aload_n C dX7_appeal_42 rfl ?_
      refine gr_I (k' := 1) (n' := 6) (gk_V (ci := 7) (As := []) (rest := []) C dX7_appeal_43 rfl rfl tw_619 tw_621 tw_9 tw_25 tw_622 gd_X7_countWaiting rfl ⟨by decide, by decide⟩ (by simp [gcat, gcI, gcL, gcF, gcD]) ⟨by decide, by decide⟩ hf (fun hf => m_X7_countWaiting hfl hf)) rfl rfl (fun E g9 h9 => gx_out C (fun x hx => (ht x hx).elim) (by decide) (by decide) h9) (fun i8 g7 hf => ?_)
      exact gg_iret C hr (by decide) (by decide) dX7_appeal_46 rfl hf
    · exact gg_sub (L' := [none, none, none]) (by first | exact trivial | simp [gsub]) (hb_22 _ hf)

def w_X7_setSize (X : Cx) (post : Int32 → GM → Prop) (px : String → GM → Prop) (v0 : Option Nat) (v1 : Int32) (g : GM) : Prop :=
  w_X7_outside X (fun (i2 : Int32) (g1 : GM) => (if i2 = 0 then wGetI g1 v0 7 7 (fun (i3 : Int32) => wPut g1 v0 7 7 (.int v1) (fun g4 => post i3 g4)) else px "java/lang/IllegalArgumentException" g1)) px v1 (1 : Int32) (500 : Int32) g
abbrev rm_X7_setSize : Room := { frames := 6, cells := 1, slots := 6, locals := 82 }
set_option maxHeartbeats 4000000 in
set_option maxRecDepth 100000 in
theorem m_X7_setSize {X : Cx} {l : Launch} (hfl : l.stackTraces = false) {post : Int32 → GM → Prop} {px : String → GM → Prop} {v0 : Option Nat} {v1 : Int32} {g : GM} (hf : w_X7_setSize X post px v0 v1 g) : gMet X l yX7_setSize cX7_setSize 3 (some .int) rm_X7_setSize [va_rf v0, .int v1] g (qI X post) px := by
  refine gg_enter (L := [some (va_rf v0), some (.int v1), none]) hfl (by decide +kernel) (by simp [lg_sl, gcat, gcI, gcL, gcF, gcD]) (by simp [gll, lv_args, gcat, gcI, gcL, gcF, gcD]) ?_
  intro p e s m args below meth c C hr ht hm
  have C : FC X p l s m args meth c cX7_setSize 3 "Releasetrain" := C
  unfold w_X7_setSize at hf
  refine gg_iload_n C dX7_setSize_0 rfl ?_
  refine gg_iconst C dX7_setSize_1 (v := (1 : Int32)) (by decide) ?_
  refine gg_sipush C dX7_setSize_2 (v := (500 : Int32)) (by decide) ?_
  refine gr_I (k' := 0) (n' := 0) (gk_S (As := [.int v1, .int (1 : Int32), .int (500 : Int32)]) (rest := []) C dX7_setSize_5 tw_213 tw_214 tw_25 tw_215 gd_X7_outside rfl ⟨by decide, by decide⟩ (by simp [gcat, gcI, gcL, gcF, gcD]) ⟨by decide, by decide⟩ (m_X7_outside hfl hf)) rfl rfl (fun E g9 h9 => gx_out C (fun x hx => (ht x hx).elim) (by decide) (by decide) h9) (fun i2 g1 hf => ?_)
  refine gg_if_eq (tgt := 21) C dX7_setSize_8 (by decide) hf (fun hf => ?_) (fun hf => ?_)
  · refine gg_aload_n C dX7_setSize_21 rfl ?_
    refine gg_getI C dX7_setSize_22 lk_X7_42 hf (fun i3 hf => ?_)
    refine gg_istore_n (L' := [some (va_rf v0), some (.int v1), some (.int i3)]) C dX7_setSize_25 (Or.inr (Or.inr ⟨_, rfl, rfl⟩)) (by decide) rfl ?_
    refine gg_aload_n C dX7_setSize_26 rfl ?_
    refine gg_iload_n C dX7_setSize_27 rfl ?_
    refine gg_put C dX7_setSize_28 pk_X7_42 (gNar_int _) hf (fun g4 hf => ?_)
    refine gg_iload_n C dX7_setSize_31 rfl ?_
    exact gg_iret C hr (by decide) (by decide) dX7_setSize_32 rfl hf
  · exact gg_throw (cls := "java/lang/IllegalArgumentException") (names := ["java/lang/RuntimeException", "java/lang/Exception"]) C (by decide +kernel) (by decide +kernel) tw_307 tw_50 xk_X7_71 (show ("Releasetrain", 155, "the size is out of range", 24) ∈ gStr by decide +kernel) dX7_setSize_11 dX7_setSize_14 dX7_setSize_15 dX7_setSize_17 dX7_setSize_20 (fun x hx => (ht x hx).elim) (by decide) (by simp [gcat, gcI, gcL, gcF, gcD]) (by decide) (by decide) (by decide) (by decide) hf

def w_X7_setBarred (X : Cx) (post : Int32 → GM → Prop) (px : String → GM → Prop) (v0 : Option Nat) (v1 : Int32) (g : GM) : Prop :=
  w_X7_outside X (fun (i2 : Int32) (g1 : GM) => (if i2 = 0 then wGetI g1 v0 7 8 (fun (i3 : Int32) => wPut g1 v0 7 8 (.int v1) (fun g4 => post i3 g4)) else px "java/lang/IllegalArgumentException" g1)) px v1 (0 : Int32) (15 : Int32) g
abbrev rm_X7_setBarred : Room := { frames := 6, cells := 1, slots := 6, locals := 82 }
set_option maxHeartbeats 4000000 in
set_option maxRecDepth 100000 in
theorem m_X7_setBarred {X : Cx} {l : Launch} (hfl : l.stackTraces = false) {post : Int32 → GM → Prop} {px : String → GM → Prop} {v0 : Option Nat} {v1 : Int32} {g : GM} (hf : w_X7_setBarred X post px v0 v1 g) : gMet X l yX7_setBarred cX7_setBarred 3 (some .int) rm_X7_setBarred [va_rf v0, .int v1] g (qI X post) px := by
  refine gg_enter (L := [some (va_rf v0), some (.int v1), none]) hfl (by decide +kernel) (by simp [lg_sl, gcat, gcI, gcL, gcF, gcD]) (by simp [gll, lv_args, gcat, gcI, gcL, gcF, gcD]) ?_
  intro p e s m args below meth c C hr ht hm
  have C : FC X p l s m args meth c cX7_setBarred 3 "Releasetrain" := C
  unfold w_X7_setBarred at hf
  refine gg_iload_n C dX7_setBarred_0 rfl ?_
  refine gg_iconst C dX7_setBarred_1 (v := (0 : Int32)) (by decide) ?_
  refine gg_bipush C dX7_setBarred_2 (v := (15 : Int32)) (by decide) ?_
  refine gr_I (k' := 0) (n' := 0) (gk_S (As := [.int v1, .int (0 : Int32), .int (15 : Int32)]) (rest := []) C dX7_setBarred_4 tw_213 tw_214 tw_25 tw_215 gd_X7_outside rfl ⟨by decide, by decide⟩ (by simp [gcat, gcI, gcL, gcF, gcD]) ⟨by decide, by decide⟩ (m_X7_outside hfl hf)) rfl rfl (fun E g9 h9 => gx_out C (fun x hx => (ht x hx).elim) (by decide) (by decide) h9) (fun i2 g1 hf => ?_)
  refine gg_if_eq (tgt := 20) C dX7_setBarred_7 (by decide) hf (fun hf => ?_) (fun hf => ?_)
  · refine gg_aload_n C dX7_setBarred_20 rfl ?_
    refine gg_getI C dX7_setBarred_21 lk_X7_46 hf (fun i3 hf => ?_)
    refine gg_istore_n (L' := [some (va_rf v0), some (.int v1), some (.int i3)]) C dX7_setBarred_24 (Or.inr (Or.inr ⟨_, rfl, rfl⟩)) (by decide) rfl ?_
    refine gg_aload_n C dX7_setBarred_25 rfl ?_
    refine gg_iload_n C dX7_setBarred_26 rfl ?_
    refine gg_put C dX7_setBarred_27 pk_X7_46 (gNar_int _) hf (fun g4 hf => ?_)
    refine gg_iload_n C dX7_setBarred_30 rfl ?_
    exact gg_iret C hr (by decide) (by decide) dX7_setBarred_31 rfl hf
  · exact gg_throw (cls := "java/lang/IllegalArgumentException") (names := ["java/lang/RuntimeException", "java/lang/Exception"]) C (by decide +kernel) (by decide +kernel) tw_307 tw_50 xk_X7_71 (show ("Releasetrain", 157, "the number is out of range", 25) ∈ gStr by decide +kernel) dX7_setBarred_10 dX7_setBarred_13 dX7_setBarred_14 dX7_setBarred_16 dX7_setBarred_19 (fun x hx => (ht x hx).elim) (by decide) (by simp [gcat, gcI, gcL, gcF, gcD]) (by decide) (by decide) (by decide) (by decide) hf

def w_X7_stateOf (X : Cx) (post : Int32 → GM → Prop) (px : String → GM → Prop) (v0 : Option Nat) (v1 : Int32) (g : GM) : Prop :=
  wIs g v0 7 (w_X7_knownBuild X (fun (r2 : Option Nat) (g1 : GM) => wGetI g1 r2 1 7 (fun (i3 : Int32) => (narrow .char (.int i3) = .int i3 ∧ post i3 g1))) px v0 v1 g)
abbrev rm_X7_stateOf : Room := { frames := 7, cells := 1, slots := 6, locals := 103 }
set_option maxHeartbeats 4000000 in
set_option maxRecDepth 100000 in
theorem m_X7_stateOf {X : Cx} {l : Launch} (hfl : l.stackTraces = false) {post : Int32 → GM → Prop} {px : String → GM → Prop} {v0 : Option Nat} {v1 : Int32} {g : GM} (hf : w_X7_stateOf X post px v0 v1 g) : gMet X l yX7_stateOf cX7_stateOf 2 (some .char) rm_X7_stateOf [va_rf v0, .int v1] g (qI X post) px := by
  refine gg_enter (L := [some (va_rf v0), some (.int v1)]) hfl (by decide +kernel) (by simp [lg_sl, gcat, gcI, gcL, gcF, gcD]) (by simp [gll, lv_args, gcat, gcI, gcL, gcF, gcD]) ?_
  intro p e s m args below meth c C hr ht hm
  have C : FC X p l s m args meth c cX7_stateOf 2 "Releasetrain" := C
  unfold w_X7_stateOf at hf
  refine gg_aload_n C dX7_stateOf_0 rfl ?_
  refine gg_iload_n C dX7_stateOf_1 rfl ?_
  refine gr_R (k' := 1) (n' := 6) (gk_V (ci := 7) (As := [.int v1]) (rest := []) C dX7_stateOf_2 rfl rfl tw_209 tw_211 tw_0 tw_25 tw_212 gd_X7_knownBuild rfl ⟨by decide, by decide⟩ (by simp [gcat, gcI, gcL, gcF, gcD]) ⟨by decide, by decide⟩ hf (fun hf => m_X7_knownBuild hfl hf)) rfl rfl (fun E g9 h9 => gx_out C (fun x hx => (ht x hx).elim) (by decide) (by decide) h9) (fun r2 g1 hf => ?_)
  refine gg_getI C dX7_stateOf_5 lk_X7_125 hf (fun i3 hf => ?_)
  exact gg_iret C hr (by decide) (by decide) dX7_stateOf_8 hf.1 hf.2

def w_X7_stage_b27 (X : Cx) (post : Int32 → GM → Prop) (px : String → GM → Prop)   (g : GM) : Prop :=
  px "java/lang/IllegalArgumentException" g
def w_X7_stage (X : Cx) (post : Int32 → GM → Prop) (px : String → GM → Prop) (v0 : Option Nat) (v1 : Int32) (v2 : Int32) (v3 : Int32) (g : GM) : Prop :=
  wIs g v0 7 (w_X7_knownBuild X (fun (r2 : Option Nat) (g1 : GM) => w_X7_outside X (fun (i4 : Int32) (g3 : GM) => (if i4 = 0 then w_X7_outside X (fun (i6 : Int32) (g5 : GM) => (if i6 = 0 then wGetI g5 r2 1 7 (fun (i7 : Int32) => (if i7 = (97 : Int32) then wGetI g5 r2 1 10 (fun (i8 : Int32) => (if i8 ≤ v2 then wPut g5 r2 1 10 (.int v2) (fun g9 => wPut g9 r2 1 11 (.int v3) (fun g10 => post i8 g10)) else px "java/lang/UnsupportedOperationException" g5)) else px "java/lang/IllegalStateException" g5)) else w_X7_stage_b27 X post px g5)) px v3 (0 : Int32) (100 : Int32) g3 else w_X7_stage_b27 X post px g3)) px v2 (1 : Int32) (100 : Int32) g1) px v0 v1 g)
abbrev rm_X7_stage : Room := { frames := 7, cells := 2, slots := 12, locals := 103 }
set_option maxHeartbeats 4000000 in
set_option maxRecDepth 100000 in
theorem m_X7_stage {X : Cx} {l : Launch} (hfl : l.stackTraces = false) {post : Int32 → GM → Prop} {px : String → GM → Prop} {v0 : Option Nat} {v1 : Int32} {v2 : Int32} {v3 : Int32} {g : GM} (hf : w_X7_stage X post px v0 v1 v2 v3 g) : gMet X l yX7_stage cX7_stage 6 (some .int) rm_X7_stage [va_rf v0, .int v1, .int v2, .int v3] g (qI X post) px := by
  refine gg_enter (L := [some (va_rf v0), some (.int v1), some (.int v2), some (.int v3), none, none]) hfl (by decide +kernel) (by simp [lg_sl, gcat, gcI, gcL, gcF, gcD]) (by simp [gll, lv_args, gcat, gcI, gcL, gcF, gcD]) ?_
  intro p e s m args below meth c C hr ht hm
  have C : FC X p l s m args meth c cX7_stage 6 "Releasetrain" := C
  have hb_27 : ∀  (g : GM), w_X7_stage_b27 X post px   g → GG X p l e rm_X7_stage s m args below meth c 6 (vx_MQ below (qI X post) (gXC X px) args s rm_X7_stage.cells rm_X7_stage.slots (gA X)) 1 6 27 [none, none, none, none, none, none] [] g := by
    intro   g hf
    unfold w_X7_stage_b27 at hf
    exact gg_throw (cls := "java/lang/IllegalArgumentException") (names := ["java/lang/RuntimeException", "java/lang/Exception"]) C (by decide +kernel) (by decide +kernel) tw_307 tw_50 xk_X7_71 (show ("Releasetrain", 69, "a number is out of range", 20) ∈ gStr by decide +kernel) dX7_stage_27 dX7_stage_30 dX7_stage_31 dX7_stage_33 dX7_stage_36 (fun x hx => (ht x hx).elim) (by decide) (by simp [gcat, gcI, gcL, gcF, gcD]) (by decide) (by decide) (by decide) (by decide) hf
  unfold w_X7_stage at hf
  refine gg_aload_n C dX7_stage_0 rfl ?_
  refine gg_iload_n C dX7_stage_1 rfl ?_
  refine gr_R (k' := 1) (n' := 6) (gk_V (ci := 7) (As := [.int v1]) (rest := []) C dX7_stage_2 rfl rfl tw_209 tw_211 tw_0 tw_25 tw_212 gd_X7_knownBuild rfl ⟨by decide, by decide⟩ (by simp [gcat, gcI, gcL, gcF, gcD]) ⟨by decide, by decide⟩ hf (fun hf => m_X7_knownBuild hfl hf)) rfl rfl (fun E g9 h9 => gx_out C (fun x hx => (ht x hx).elim) (by decide) (by decide) h9) (fun r2 g1 hf => ?_)
  refine gg_astore (L' := [some (va_rf v0), some (.int v1), some (.int v2), some (.int v3), some (va_rf r2), none]) C dX7_stage_5 (Or.inr (Or.inr ⟨_, rfl, rfl⟩)) (by decide) rfl ?_
  refine gg_iload_n C dX7_stage_7 rfl ?_
  refine gg_iconst C dX7_stage_8 (v := (1 : Int32)) (by decide) ?_
  refine gg_bipush C dX7_stage_9 (v := (100 : Int32)) (by decide) ?_
  refine gr_I (k' := 1) (n' := 6) (gk_S (As := [.int v2, .int (1 : Int32), .int (100 : Int32)]) (rest := []) C dX7_stage_11 tw_213 tw_214 tw_25 tw_215 gd_X7_outside rfl ⟨by decide, by decide⟩ (by simp [gcat, gcI, gcL, gcF, gcD]) ⟨by decide, by decide⟩ (m_X7_outside hfl hf)) rfl rfl (fun E g9 h9 => gx_out C (fun x hx => (ht x hx).elim) (by decide) (by decide) h9) (fun i4 g3 hf => ?_)
  refine gg_if_ne (tgt := 27) C dX7_stage_14 (by decide) hf (fun hf => ?_) (fun hf => ?_)
  · exact gg_sub (L' := [none, none, none, none, none, none]) (by first | exact trivial | simp [gsub]) (hb_27 _ hf)
  · refine gg_iload_n C dX7_stage_17 rfl ?_
    refine gg_iconst C dX7_stage_18 (v := (0 : Int32)) (by decide) ?_
    refine gg_bipush C dX7_stage_19 (v := (100 : Int32)) (by decide) ?_
    refine gr_I (k' := 1) (n' := 6) (gk_S (As := [.int v3, .int (0 : Int32), .int (100 : Int32)]) (rest := []) C dX7_stage_21 tw_213 tw_214 tw_25 tw_215 gd_X7_outside rfl ⟨by decide, by decide⟩ (by simp [gcat, gcI, gcL, gcF, gcD]) ⟨by decide, by decide⟩ (m_X7_outside hfl hf)) rfl rfl (fun E g9 h9 => gx_out C (fun x hx => (ht x hx).elim) (by decide) (by decide) h9) (fun i6 g5 hf => ?_)
    refine gg_if_eq (tgt := 37) C dX7_stage_24 (by decide) hf (fun hf => ?_) (fun hf => ?_)
    · refine gg_aload C dX7_stage_37 rfl ?_
      refine gg_getI C dX7_stage_39 lk_X7_125 hf (fun i7 hf => ?_)
      refine gg_bipush C dX7_stage_42 (v := (97 : Int32)) (by decide) ?_
      refine gg_icmp_eq (tgt := 57) C dX7_stage_44 (by decide) hf (fun hf => ?_) (fun hf => ?_)
      · refine gg_aload C dX7_stage_57 rfl ?_
        refine gg_getI C dX7_stage_59 lk_X7_161 hf (fun i8 hf => ?_)
        refine gg_istore (L' := [some (va_rf v0), some (.int v1), some (.int v2), some (.int v3), some (va_rf r2), some (.int i8)]) C dX7_stage_62 (Or.inr (Or.inr ⟨_, rfl, gcat _⟩)) (by decide) rfl ?_
        refine gg_iload_n C dX7_stage_64 rfl ?_
        refine gg_iload C dX7_stage_65 rfl ?_
        refine gg_icmp_ge (tgt := 80) C dX7_stage_67 (by decide) hf (fun hf => ?_) (fun hf => ?_)
        · refine gg_aload C dX7_stage_80 rfl ?_
          refine gg_iload_n C dX7_stage_82 rfl ?_
          refine gg_put C dX7_stage_83 pk_X7_161 (gNar_int _) hf (fun g9 hf => ?_)
          refine gg_aload C dX7_stage_86 rfl ?_
          refine gg_iload_n C dX7_stage_88 rfl ?_
          refine gg_put C dX7_stage_89 pk_X7_169 (gNar_int _) hf (fun g10 hf => ?_)
          refine gg_iload C dX7_stage_92 rfl ?_
          exact gg_iret C hr (by decide) (by decide) dX7_stage_94 rfl hf
        · exact gg_throw (cls := "java/lang/UnsupportedOperationException") (names := ["java/lang/RuntimeException", "java/lang/Exception"]) C (by decide +kernel) (by decide +kernel) tw_591 tw_52 xk_X7_168 (show ("Releasetrain", 166, "the percentage is less than the one before", 27) ∈ gStr by decide +kernel) dX7_stage_70 dX7_stage_73 dX7_stage_74 dX7_stage_76 dX7_stage_79 (fun x hx => (ht x hx).elim) (by decide) (by simp [gcat, gcI, gcL, gcF, gcD]) (by decide) (by decide) (by decide) (by decide) hf
      · exact gg_throw (cls := "java/lang/IllegalStateException") (names := ["java/lang/RuntimeException", "java/lang/Exception"]) C (by decide +kernel) (by decide +kernel) tw_327 tw_40 xk_X7_82 (show ("Releasetrain", 159, "it is not approved", 26) ∈ gStr by decide +kernel) dX7_stage_47 dX7_stage_50 dX7_stage_51 dX7_stage_53 dX7_stage_56 (fun x hx => (ht x hx).elim) (by decide) (by simp [gcat, gcI, gcL, gcF, gcD]) (by decide) (by decide) (by decide) (by decide) hf
    · exact gg_sub (L' := [none, none, none, none, none, none]) (by first | exact trivial | simp [gsub]) (hb_27 _ hf)

def w_X7_percentageOf (X : Cx) (post : Int32 → GM → Prop) (px : String → GM → Prop) (v0 : Option Nat) (v1 : Int32) (g : GM) : Prop :=
  wIs g v0 7 (w_X7_knownBuild X (fun (r2 : Option Nat) (g1 : GM) => wGetI g1 r2 1 10 (fun (i3 : Int32) => post i3 g1)) px v0 v1 g)
abbrev rm_X7_percentageOf : Room := { frames := 7, cells := 1, slots := 6, locals := 103 }
set_option maxHeartbeats 4000000 in
set_option maxRecDepth 100000 in
theorem m_X7_percentageOf {X : Cx} {l : Launch} (hfl : l.stackTraces = false) {post : Int32 → GM → Prop} {px : String → GM → Prop} {v0 : Option Nat} {v1 : Int32} {g : GM} (hf : w_X7_percentageOf X post px v0 v1 g) : gMet X l yX7_percentageOf cX7_percentageOf 2 (some .int) rm_X7_percentageOf [va_rf v0, .int v1] g (qI X post) px := by
  refine gg_enter (L := [some (va_rf v0), some (.int v1)]) hfl (by decide +kernel) (by simp [lg_sl, gcat, gcI, gcL, gcF, gcD]) (by simp [gll, lv_args, gcat, gcI, gcL, gcF, gcD]) ?_
  intro p e s m args below meth c C hr ht hm
  have C : FC X p l s m args meth c cX7_percentageOf 2 "Releasetrain" := C
  unfold w_X7_percentageOf at hf
  refine gg_aload_n C dX7_percentageOf_0 rfl ?_
  refine gg_iload_n C dX7_percentageOf_1 rfl ?_
  refine gr_R (k' := 1) (n' := 6) (gk_V (ci := 7) (As := [.int v1]) (rest := []) C dX7_percentageOf_2 rfl rfl tw_209 tw_211 tw_0 tw_25 tw_212 gd_X7_knownBuild rfl ⟨by decide, by decide⟩ (by simp [gcat, gcI, gcL, gcF, gcD]) ⟨by decide, by decide⟩ hf (fun hf => m_X7_knownBuild hfl hf)) rfl rfl (fun E g9 h9 => gx_out C (fun x hx => (ht x hx).elim) (by decide) (by decide) h9) (fun r2 g1 hf => ?_)
  refine gg_getI C dX7_percentageOf_5 lk_X7_161 hf (fun i3 hf => ?_)
  exact gg_iret C hr (by decide) (by decide) dX7_percentageOf_8 rfl hf

def w_X7_holdReason_b58 (X : Cx) (post : Int32 → GM → Prop) (px : String → GM → Prop)   (g : GM) : Prop :=
  post (45 : Int32) g
def w_X7_holdReason_b36 (X : Cx) (post : Int32 → GM → Prop) (px : String → GM → Prop)  (l1 : Option Nat) (g : GM) : Prop :=
  wGetI g l1 1 14 (fun (i4 : Int32) => (if i4 < (3 : Int32) then w_X7_holdReason_b58 X post px g else wIs g l1 1 (w_X1_meanStars X (fun (z6 : UInt64) (g5 : GM) => (if 0 ≤ (Op.cmpValue (FP.dcmp z6 (4612811918334230528 : UInt64)) .g) then w_X7_holdReason_b58 X post px g5 else post (116 : Int32) g5)) px l1 g)))
def w_X7_holdReason (X : Cx) (post : Int32 → GM → Prop) (px : String → GM → Prop) (v0 : Option Nat) (v1 : Option Nat) (g : GM) : Prop :=
  wIs g v0 7 (w_X7_barringRule X (fun (i2 : Int32) (g1 : GM) => (if i2 = (45 : Int32) then wGetI g1 v1 1 12 (fun (i3 : Int32) => (if i3 < (3 : Int32) then w_X7_holdReason_b36 X post px v1 g1 else wIs g1 v1 1 (w_X1_crashesPerInstall X (fun (x8 : UInt32) (g7 : GM) => wGetF g7 v0 7 11 (fun (x9 : UInt32) => (if (Op.cmpValue (FP.fcmp x8 x9) .l) ≤ 0 then w_X7_holdReason_b36 X post px v1 g7 else post (99 : Int32) g7))) px v1 g1))) else post (118 : Int32) g1)) px v0 v1 g)
abbrev rm_X7_holdReason : Room := { frames := 1, cells := 0, slots := 0, locals := 21 }
set_option maxHeartbeats 4000000 in
set_option maxRecDepth 100000 in
theorem m_X7_holdReason {X : Cx} {l : Launch} (hfl : l.stackTraces = false) {post : Int32 → GM → Prop} {px : String → GM → Prop} {v0 : Option Nat} {v1 : Option Nat} {g : GM} (hf : w_X7_holdReason X post px v0 v1 g) : gMet X l yX7_holdReason cX7_holdReason 2 (some .char) rm_X7_holdReason [va_rf v0, va_rf v1] g (qI X post) px := by
  refine gg_enter (L := [some (va_rf v0), some (va_rf v1)]) hfl (by decide +kernel) (by simp [lg_sl, gcat, gcI, gcL, gcF, gcD]) (by simp [gll, lv_args, gcat, gcI, gcL, gcF, gcD]) ?_
  intro p e s m args below meth c C hr ht hm
  have C : FC X p l s m args meth c cX7_holdReason 2 "Releasetrain" := C
  have hb_58 : ∀  (g : GM), w_X7_holdReason_b58 X post px   g → GG X p l e rm_X7_holdReason s m args below meth c 2 (vx_MQ below (qI X post) (gXC X px) args s rm_X7_holdReason.cells rm_X7_holdReason.slots (gA X)) 0 0 58 [none, none] [] g := by
    intro   g hf
    unfold w_X7_holdReason_b58 at hf
    refine gg_bipush C dX7_holdReason_58 (v := (45 : Int32)) (by decide) ?_
    exact gg_iret C hr (by decide) (by decide) dX7_holdReason_60 rfl hf
  have hb_36 : ∀ (l1 : Option Nat) (g : GM), w_X7_holdReason_b36 X post px  l1 g → GG X p l e rm_X7_holdReason s m args below meth c 2 (vx_MQ below (qI X post) (gXC X px) args s rm_X7_holdReason.cells rm_X7_holdReason.slots (gA X)) 0 0 36 [none, some (va_rf l1)] [] g := by
    intro  l1 g hf
    unfold w_X7_holdReason_b36 at hf
    refine gg_aload_n C dX7_holdReason_36 rfl ?_
    refine gg_getI C dX7_holdReason_37 lk_X7_314 hf (fun i4 hf => ?_)
    refine gg_iconst C dX7_holdReason_40 (v := (3 : Int32)) (by decide) ?_
    refine gg_icmp_lt (tgt := 58) C dX7_holdReason_41 (by decide) hf (fun hf => ?_) (fun hf => ?_)
    · exact gg_sub (L' := [none, none]) (by first | exact trivial | simp [gsub]) (hb_58 _ hf)
    · refine gg_aload_n C dX7_holdReason_44 rfl ?_
      refine gr_D (k' := 0) (n' := 0) (gk_V (ci := 1) (As := []) (rest := []) C dX7_holdReason_45 rfl rfl tw_652 tw_653 tw_654 tw_59 tw_655 gd_X1_meanStars rfl ⟨by decide, by decide⟩ (by simp [gcat, gcI, gcL, gcF, gcD]) ⟨by decide, by decide⟩ hf (fun hf => m_X1_meanStars hfl hf)) rfl rfl (fun E g9 h9 => gx_out C (fun x hx => (ht x hx).elim) (by decide) (by decide) h9) (fun z6 g5 hf => ?_)
      refine gg_ldc2d C dX7_holdReason_48 (v := (4612811918334230528 : UInt64)) tw_656 ?_
      refine gg_dcmp C dX7_holdReason_51 ?_
      refine gg_if_ge (tgt := 58) C dX7_holdReason_52 (by decide) hf (fun hf => ?_) (fun hf => ?_)
      · exact gg_sub (L' := [none, none]) (by first | exact trivial | simp [gsub]) (hb_58 _ hf)
      · refine gg_bipush C dX7_holdReason_55 (v := (116 : Int32)) (by decide) ?_
        exact gg_iret C hr (by decide) (by decide) dX7_holdReason_57 rfl hf
  unfold w_X7_holdReason at hf
  refine gg_aload_n C dX7_holdReason_0 rfl ?_
  refine gg_aload_n C dX7_holdReason_1 rfl ?_
  refine gr_I (k' := 0) (n' := 0) (gk_V (ci := 7) (As := [va_rf v1]) (rest := []) C dX7_holdReason_2 rfl rfl tw_644 tw_646 tw_11 tw_25 tw_647 gd_X7_barringRule rfl ⟨by decide, by decide⟩ (by simp [gcat, gcI, gcL, gcF, gcD]) ⟨by decide, by decide⟩ hf (fun hf => m_X7_barringRule hfl hf)) rfl rfl (fun E g9 h9 => gx_out C (fun x hx => (ht x hx).elim) (by decide) (by decide) h9) (fun i2 g1 hf => ?_)
  refine gg_bipush C dX7_holdReason_5 (v := (45 : Int32)) (by decide) ?_
  refine gg_icmp_eq (tgt := 13) C dX7_holdReason_7 (by decide) hf (fun hf => ?_) (fun hf => ?_)
  · refine gg_aload_n C dX7_holdReason_13 rfl ?_
    refine gg_getI C dX7_holdReason_14 lk_X7_231 hf (fun i3 hf => ?_)
    refine gg_iconst C dX7_holdReason_17 (v := (3 : Int32)) (by decide) ?_
    refine gg_icmp_lt (tgt := 36) C dX7_holdReason_18 (by decide) hf (fun hf => ?_) (fun hf => ?_)
    · exact gg_sub (L' := [none, some (va_rf v1)]) (by first | exact ⟨rfl, trivial⟩ | simp [gsub]) (hb_36 _ _ hf)
    · refine gg_aload_n C dX7_holdReason_21 rfl ?_
      refine gr_F (k' := 0) (n' := 0) (gk_V (ci := 1) (As := []) (rest := []) C dX7_holdReason_22 rfl rfl tw_648 tw_649 tw_650 tw_59 tw_651 gd_X1_crashesPerInstall rfl ⟨by decide, by decide⟩ (by simp [gcat, gcI, gcL, gcF, gcD]) ⟨by decide, by decide⟩ hf (fun hf => m_X1_crashesPerInstall hfl hf)) rfl rfl (fun E g9 h9 => gx_out C (fun x hx => (ht x hx).elim) (by decide) (by decide) h9) (fun x8 g7 hf => ?_)
      refine gg_aload_n C dX7_holdReason_25 rfl ?_
      refine gg_getF C dX7_holdReason_26 lk_X7_57 hf (fun x9 hf => ?_)
      refine gg_fcmp C dX7_holdReason_29 ?_
      refine gg_if_le (tgt := 36) C dX7_holdReason_30 (by decide) hf (fun hf => ?_) (fun hf => ?_)
      · exact gg_sub (L' := [none, some (va_rf v1)]) (by first | exact ⟨rfl, trivial⟩ | simp [gsub]) (hb_36 _ _ hf)
      · refine gg_bipush C dX7_holdReason_33 (v := (99 : Int32)) (by decide) ?_
        exact gg_iret C hr (by decide) (by decide) dX7_holdReason_35 rfl hf
  · refine gg_bipush C dX7_holdReason_10 (v := (118 : Int32)) (by decide) ?_
    exact gg_iret C hr (by decide) (by decide) dX7_holdReason_12 rfl hf

def w_X7_isRolledOut_b31 (X : Cx) (post : Int32 → GM → Prop) (px : String → GM → Prop)  (t0 : Int32) (g : GM) : Prop :=
  (narrow .boolean (.int t0) = .int t0 ∧ post t0 g)
def w_X7_isRolledOut_b30 (X : Cx) (post : Int32 → GM → Prop) (px : String → GM → Prop)   (g : GM) : Prop :=
  w_X7_isRolledOut_b31 X post px (0 : Int32) g
def w_X7_isRolledOut (X : Cx) (post : Int32 → GM → Prop) (px : String → GM → Prop) (v0 : Option Nat) (v1 : Option Nat) (g : GM) : Prop :=
  wGetI g v1 1 7 (fun (i1 : Int32) => (if i1 = (97 : Int32) then wGetI g v1 1 10 (fun (i2 : Int32) => (if i2 ≤ 0 then w_X7_isRolledOut_b30 X post px g else wIs g v0 7 (w_X7_holdReason X (fun (i4 : Int32) (g3 : GM) => (if i4 = (45 : Int32) then w_X7_isRolledOut_b31 X post px (1 : Int32) g3 else w_X7_isRolledOut_b30 X post px g3)) px v0 v1 g))) else w_X7_isRolledOut_b30 X post px g))
abbrev rm_X7_isRolledOut : Room := { frames := 2, cells := 0, slots := 0, locals := 42 }
set_option maxHeartbeats 4000000 in
set_option maxRecDepth 100000 in
theorem m_X7_isRolledOut {X : Cx} {l : Launch} (hfl : l.stackTraces = false) {post : Int32 → GM → Prop} {px : String → GM → Prop} {v0 : Option Nat} {v1 : Option Nat} {g : GM} (hf : w_X7_isRolledOut X post px v0 v1 g) : gMet X l yX7_isRolledOut cX7_isRolledOut 2 (some .boolean) rm_X7_isRolledOut [va_rf v0, va_rf v1] g (qI X post) px := by
  refine gg_enter (L := [some (va_rf v0), some (va_rf v1)]) hfl (by decide +kernel) (by simp [lg_sl, gcat, gcI, gcL, gcF, gcD]) (by simp [gll, lv_args, gcat, gcI, gcL, gcF, gcD]) ?_
  intro p e s m args below meth c C hr ht hm
  have C : FC X p l s m args meth c cX7_isRolledOut 2 "Releasetrain" := C
  have hb_31 : ∀ (t0 : Int32) (g : GM), w_X7_isRolledOut_b31 X post px  t0 g → GG X p l e rm_X7_isRolledOut s m args below meth c 2 (vx_MQ below (qI X post) (gXC X px) args s rm_X7_isRolledOut.cells rm_X7_isRolledOut.slots (gA X)) 0 0 31 [none, none] [.int t0] g := by
    intro  t0 g hf
    unfold w_X7_isRolledOut_b31 at hf
    exact gg_iret C hr (by decide) (by decide) dX7_isRolledOut_31 hf.1 hf.2
  have hb_30 : ∀  (g : GM), w_X7_isRolledOut_b30 X post px   g → GG X p l e rm_X7_isRolledOut s m args below meth c 2 (vx_MQ below (qI X post) (gXC X px) args s rm_X7_isRolledOut.cells rm_X7_isRolledOut.slots (gA X)) 0 0 30 [none, none] [] g := by
    intro   g hf
    unfold w_X7_isRolledOut_b30 at hf
    refine gg_iconst C dX7_isRolledOut_30 (v := (0 : Int32)) (by decide) ?_
    exact hb_31 _ _ hf
  unfold w_X7_isRolledOut at hf
  refine gg_aload_n C dX7_isRolledOut_0 rfl ?_
  refine gg_getI C dX7_isRolledOut_1 lk_X7_125 hf (fun i1 hf => ?_)
  refine gg_bipush C dX7_isRolledOut_4 (v := (97 : Int32)) (by decide) ?_
  refine gg_icmp_ne (tgt := 30) C dX7_isRolledOut_6 (by decide) hf (fun hf => ?_) (fun hf => ?_)
  · exact gg_sub (L' := [none, none]) (by first | exact trivial | simp [gsub]) (hb_30 _ hf)
  · refine gg_aload_n C dX7_isRolledOut_9 rfl ?_
    refine gg_getI C dX7_isRolledOut_10 lk_X7_161 hf (fun i2 hf => ?_)
    refine gg_if_le (tgt := 30) C dX7_isRolledOut_13 (by decide) hf (fun hf => ?_) (fun hf => ?_)
    · exact gg_sub (L' := [none, none]) (by first | exact trivial | simp [gsub]) (hb_30 _ hf)
    · refine gg_aload_n C dX7_isRolledOut_16 rfl ?_
      refine gg_aload_n C dX7_isRolledOut_17 rfl ?_
      refine gr_I (k' := 0) (n' := 0) (gk_V (ci := 7) (As := [va_rf v1]) (rest := []) C dX7_isRolledOut_18 rfl rfl tw_640 tw_642 tw_10 tw_25 tw_643 gd_X7_holdReason rfl ⟨by decide, by decide⟩ (by simp [gcat, gcI, gcL, gcF, gcD]) ⟨by decide, by decide⟩ hf (fun hf => m_X7_holdReason hfl hf)) rfl rfl (fun E g9 h9 => gx_out C (fun x hx => (ht x hx).elim) (by decide) (by decide) h9) (fun i4 g3 hf => ?_)
      refine gg_bipush C dX7_isRolledOut_21 (v := (45 : Int32)) (by decide) ?_
      refine gg_icmp_ne (tgt := 30) C dX7_isRolledOut_23 (by decide) hf (fun hf => ?_) (fun hf => ?_)
      · exact gg_sub (L' := [none, none]) (by first | exact trivial | simp [gsub]) (hb_30 _ hf)
      · refine gg_iconst C dX7_isRolledOut_26 (v := (1 : Int32)) (by decide) ?_
        refine gg_goto (tgt := 31) C dX7_isRolledOut_27 (by decide) ?_
        exact gg_sub (L' := [none, none]) (by first | exact trivial | simp [gsub]) (hb_31 _ _ hf)

def w_X7_grownPercentage (X : Cx) (post : Int32 → GM → Prop) (px : String → GM → Prop) (v0 : Option Nat) (v1 : Option Nat) (v2 : Int32) (g : GM) : Prop :=
  wIs g v0 7 (w_X7_isRolledOut X (fun (i2 : Int32) (g1 : GM) => (if i2 = 0 then wGetI g1 v1 1 10 (fun (i5 : Int32) => post i5 g1) else wGetI g1 v1 1 10 (fun (i3 : Int32) => wGetI g1 v1 1 11 (fun (i4 : Int32) => post (if (i3 + (i4 * v2)) < (100 : Int32) then (i3 + (i4 * v2)) else (100 : Int32)) g1)))) px v0 v1 g)
abbrev rm_X7_grownPercentage : Room := { frames := 3, cells := 0, slots := 0, locals := 63 }
set_option maxHeartbeats 4000000 in
set_option maxRecDepth 100000 in
theorem m_X7_grownPercentage {X : Cx} {l : Launch} (hfl : l.stackTraces = false) {post : Int32 → GM → Prop} {px : String → GM → Prop} {v0 : Option Nat} {v1 : Option Nat} {v2 : Int32} {g : GM} (hf : w_X7_grownPercentage X post px v0 v1 v2 g) : gMet X l yX7_grownPercentage cX7_grownPercentage 3 (some .int) rm_X7_grownPercentage [va_rf v0, va_rf v1, .int v2] g (qI X post) px := by
  refine gg_enter (L := [some (va_rf v0), some (va_rf v1), some (.int v2)]) hfl (by decide +kernel) (by simp [lg_sl, gcat, gcI, gcL, gcF, gcD]) (by simp [gll, lv_args, gcat, gcI, gcL, gcF, gcD]) ?_
  intro p e s m args below meth c C hr ht hm
  have C : FC X p l s m args meth c cX7_grownPercentage 3 "Releasetrain" := C
  unfold w_X7_grownPercentage at hf
  refine gg_aload_n C dX7_grownPercentage_0 rfl ?_
  refine gg_aload_n C dX7_grownPercentage_1 rfl ?_
  refine gr_I (k' := 0) (n' := 0) (gk_V (ci := 7) (As := [va_rf v1]) (rest := []) C dX7_grownPercentage_2 rfl rfl tw_661 tw_663 tw_12 tw_25 tw_664 gd_X7_isRolledOut rfl ⟨by decide, by decide⟩ (by simp [gcat, gcI, gcL, gcF, gcD]) ⟨by decide, by decide⟩ hf (fun hf => m_X7_isRolledOut hfl hf)) rfl rfl (fun E g9 h9 => gx_out C (fun x hx => (ht x hx).elim) (by decide) (by decide) h9) (fun i2 g1 hf => ?_)
  refine gg_if_ne (tgt := 13) C dX7_grownPercentage_5 (by decide) hf (fun hf => ?_) (fun hf => ?_)
  · refine gg_bipush C dX7_grownPercentage_13 (v := (100 : Int32)) (by decide) ?_
    refine gg_aload_n C dX7_grownPercentage_15 rfl ?_
    refine gg_getI C dX7_grownPercentage_16 lk_X7_161 hf (fun i3 hf => ?_)
    refine gg_aload_n C dX7_grownPercentage_19 rfl ?_
    refine gg_getI C dX7_grownPercentage_20 lk_X7_169 hf (fun i4 hf => ?_)
    refine gg_iload_n C dX7_grownPercentage_23 rfl ?_
    refine gg_imul C dX7_grownPercentage_24 ?_
    refine gg_iadd C dX7_grownPercentage_25 ?_
    refine gg_mmin C dX7_grownPercentage_26 tw_1155 tw_488 tw_44 tw_min (by decide) (by simp [gcat, gcI, gcL, gcF, gcD]) (by decide) (by decide) ?_
    exact gg_iret C hr (by decide) (by decide) dX7_grownPercentage_29 rfl hf
  · refine gg_aload_n C dX7_grownPercentage_8 rfl ?_
    refine gg_getI C dX7_grownPercentage_9 lk_X7_161 hf (fun i5 hf => ?_)
    exact gg_iret C hr (by decide) (by decide) dX7_grownPercentage_12 rfl hf

def w_X7_percentageAfter (X : Cx) (post : Int32 → GM → Prop) (px : String → GM → Prop) (v0 : Option Nat) (v1 : Int32) (v2 : Int32) (g : GM) : Prop :=
  wIs g v0 7 (w_X7_knownBuild X (fun (r2 : Option Nat) (g1 : GM) => w_X7_outside X (fun (i4 : Int32) (g3 : GM) => (if i4 = 0 then wIs g3 v0 7 (w_X7_grownPercentage X (fun (i6 : Int32) (g5 : GM) => post i6 g5) px v0 r2 v2 g3) else px "java/lang/IllegalArgumentException" g3)) px v2 (1 : Int32) (99 : Int32) g1) px v0 v1 g)
abbrev rm_X7_percentageAfter : Room := { frames := 7, cells := 2, slots := 12, locals := 103 }
set_option maxHeartbeats 4000000 in
set_option maxRecDepth 100000 in
theorem m_X7_percentageAfter {X : Cx} {l : Launch} (hfl : l.stackTraces = false) {post : Int32 → GM → Prop} {px : String → GM → Prop} {v0 : Option Nat} {v1 : Int32} {v2 : Int32} {g : GM} (hf : w_X7_percentageAfter X post px v0 v1 v2 g) : gMet X l yX7_percentageAfter cX7_percentageAfter 4 (some .int) rm_X7_percentageAfter [va_rf v0, .int v1, .int v2] g (qI X post) px := by
  refine gg_enter (L := [some (va_rf v0), some (.int v1), some (.int v2), none]) hfl (by decide +kernel) (by simp [lg_sl, gcat, gcI, gcL, gcF, gcD]) (by simp [gll, lv_args, gcat, gcI, gcL, gcF, gcD]) ?_
  intro p e s m args below meth c C hr ht hm
  have C : FC X p l s m args meth c cX7_percentageAfter 4 "Releasetrain" := C
  unfold w_X7_percentageAfter at hf
  refine gg_aload_n C dX7_percentageAfter_0 rfl ?_
  refine gg_iload_n C dX7_percentageAfter_1 rfl ?_
  refine gr_R (k' := 1) (n' := 6) (gk_V (ci := 7) (As := [.int v1]) (rest := []) C dX7_percentageAfter_2 rfl rfl tw_209 tw_211 tw_0 tw_25 tw_212 gd_X7_knownBuild rfl ⟨by decide, by decide⟩ (by simp [gcat, gcI, gcL, gcF, gcD]) ⟨by decide, by decide⟩ hf (fun hf => m_X7_knownBuild hfl hf)) rfl rfl (fun E g9 h9 => gx_out C (fun x hx => (ht x hx).elim) (by decide) (by decide) h9) (fun r2 g1 hf => ?_)
  refine gg_astore_n (L' := [some (va_rf v0), some (.int v1), some (.int v2), some (va_rf r2)]) C dX7_percentageAfter_5 (Or.inr (Or.inr ⟨_, rfl, rfl⟩)) (by decide) rfl ?_
  refine gg_iload_n C dX7_percentageAfter_6 rfl ?_
  refine gg_iconst C dX7_percentageAfter_7 (v := (1 : Int32)) (by decide) ?_
  refine gg_bipush C dX7_percentageAfter_8 (v := (99 : Int32)) (by decide) ?_
  refine gr_I (k' := 1) (n' := 6) (gk_S (As := [.int v2, .int (1 : Int32), .int (99 : Int32)]) (rest := []) C dX7_percentageAfter_10 tw_213 tw_214 tw_25 tw_215 gd_X7_outside rfl ⟨by decide, by decide⟩ (by simp [gcat, gcI, gcL, gcF, gcD]) ⟨by decide, by decide⟩ (m_X7_outside hfl hf)) rfl rfl (fun E g9 h9 => gx_out C (fun x hx => (ht x hx).elim) (by decide) (by decide) h9) (fun i4 g3 hf => ?_)
  refine gg_if_eq (tgt := 26) C dX7_percentageAfter_13 (by decide) hf (fun hf => ?_) (fun hf => ?_)
  · refine gg_aload_n C dX7_percentageAfter_26 rfl ?_
    refine gg_aload_n C dX7_percentageAfter_27 rfl ?_
    refine gg_iload_n C dX7_percentageAfter_28 rfl ?_
    refine gr_I (k' := 1) (n' := 6) (gk_V (ci := 7) (As := [va_rf r2, .int v2]) (rest := []) C dX7_percentageAfter_29 rfl rfl tw_1151 tw_1153 tw_20 tw_25 tw_1154 gd_X7_grownPercentage rfl ⟨by decide, by decide⟩ (by simp [gcat, gcI, gcL, gcF, gcD]) ⟨by decide, by decide⟩ hf (fun hf => m_X7_grownPercentage hfl hf)) rfl rfl (fun E g9 h9 => gx_out C (fun x hx => (ht x hx).elim) (by decide) (by decide) h9) (fun i6 g5 hf => ?_)
    exact gg_iret C hr (by decide) (by decide) dX7_percentageAfter_32 rfl hf
  · exact gg_throw (cls := "java/lang/IllegalArgumentException") (names := ["java/lang/RuntimeException", "java/lang/Exception"]) C (by decide +kernel) (by decide +kernel) tw_307 tw_50 xk_X7_71 (show ("Releasetrain", 157, "the number is out of range", 25) ∈ gStr by decide +kernel) dX7_percentageAfter_16 dX7_percentageAfter_19 dX7_percentageAfter_20 dX7_percentageAfter_22 dX7_percentageAfter_25 (fun x hx => (ht x hx).elim) (by decide) (by simp [gcat, gcI, gcL, gcF, gcD]) (by decide) (by decide) (by decide) (by decide) hf

def w_X7_pass_l44 (X : Cx) (post : Int32 → GM → Prop) (px : String → GM → Prop)  : Nat → Option Nat → Int32 → Int32 → GM → Prop
  | 0, _, _, _, _ => False
  | f + 1, l0, l1, l2, g => wGetR g l0 7 2 (fun (r4 : Option Nat) => wIs g r4 10 (w_Jx4a65c_size_8abf5 X (fun (i6 : Int32) (g5 : GM) => (if i6 ≤ l2 then wGetI g5 l0 7 12 (fun (i7 : Int32) => wPut g5 l0 7 12 (.int (i7 + l1)) (fun g8 => wGetI g8 l0 7 12 (fun (i9 : Int32) => post i9 g8))) else wGetR g5 l0 7 2 (fun (r10 : Option Nat) => wIs g5 r10 10 (w_Jx4a65c_get_915e3 X (fun (r12 : Option Nat) (g11 : GM) => wIs g11 r12 1 (wIs g11 l0 7 (w_X7_grownPercentage X (fun (i14 : Int32) (g13 : GM) => wPut g13 r12 1 10 (.int i14) (fun g15 => w_X7_pass_l44 X post px f l0 l1 (l2 + 1) g15)) px l0 r12 l1 g11))) px r10 l2 g5)))) px r4 g))
def w_X7_pass (X : Cx) (post : Int32 → GM → Prop) (px : String → GM → Prop) (v0 : Option Nat) (v1 : Int32) (g : GM) : Prop :=
  w_X7_outside X (fun (i2 : Int32) (g1 : GM) => (if i2 = 0 then wGetI g1 v0 7 12 (fun (i3 : Int32) => (if (i3 + v1) ≤ (999 : Int32) then w_X7_pass_l44 X post px 3000 v0 v1 (0 : Int32) g1 else px "java/lang/IllegalStateException" g1)) else px "java/lang/IllegalArgumentException" g1)) px v1 (1 : Int32) (99 : Int32) g
abbrev rm_X7_pass : Room := { frames := 6, cells := 1, slots := 6, locals := 85 }
set_option maxHeartbeats 4000000 in
set_option maxRecDepth 100000 in
theorem m_X7_pass {X : Cx} {l : Launch} (hfl : l.stackTraces = false) {post : Int32 → GM → Prop} {px : String → GM → Prop} {v0 : Option Nat} {v1 : Int32} {g : GM} (hf : w_X7_pass X post px v0 v1 g) : gMet X l yX7_pass cX7_pass 4 (some .int) rm_X7_pass [va_rf v0, .int v1] g (qI X post) px := by
  refine gg_enter (L := [some (va_rf v0), some (.int v1), none, none]) hfl (by decide +kernel) (by simp [lg_sl, gcat, gcI, gcL, gcF, gcD]) (by simp [gll, lv_args, gcat, gcI, gcL, gcF, gcD]) ?_
  intro p e s m args below meth c C hr ht hm
  have C : FC X p l s m args meth c cX7_pass 4 "Releasetrain" := C
  have hb_44 : ∀ (f : Nat) (l0 : Option Nat) (l1 : Int32) (l2 : Int32) (g : GM), w_X7_pass_l44 X post px  f l0 l1 l2 g → GG X p l e rm_X7_pass s m args below meth c 4 (vx_MQ below (qI X post) (gXC X px) args s rm_X7_pass.cells rm_X7_pass.slots (gA X)) 0 0 44 [some (va_rf l0), some (.int l1), some (.int l2), none] [] g := by
    intro  f
    induction f with
    | zero => intro l0 l1 l2 g hf; exact (show False from hf).elim
    | succ f ih =>
      intro l0 l1 l2 g hf
      rw [w_X7_pass_l44] at hf
      refine gg_iload_n C dX7_pass_44 rfl ?_
      refine gg_aload_n C dX7_pass_45 rfl ?_
      refine gg_getR C dX7_pass_46 lk_X7_19 hf (fun r4 hf => ?_)
      refine gr_I (k' := 0) (n' := 0) (gk_V (ci := 10) (As := []) (rest := [.int l2]) C dX7_pass_49 rfl rfl tw_189 tw_190 tw_191 tw_28 tw_192 gd_Jx4a65c_size_8abf5 rfl ⟨by decide, by decide⟩ (by simp [gcat, gcI, gcL, gcF, gcD]) ⟨by decide, by decide⟩ hf (fun hf => m_Jx4a65c_size_8abf5 hfl hf)) rfl rfl (fun E g9 h9 => gx_out C (fun x hx => (ht x hx).elim) (by decide) (by decide) h9) (fun i6 g5 hf => ?_)
      refine gg_icmp_ge (tgt := 83) C dX7_pass_52 (by decide) hf (fun hf => ?_) (fun hf => ?_)
      · refine gg_aload_n C dX7_pass_83 rfl ?_
        refine gg_dup C dX7_pass_84 (gcat _) ?_
        refine gg_getI C dX7_pass_85 lk_X7_60 hf (fun i7 hf => ?_)
        refine gg_iload_n C dX7_pass_88 rfl ?_
        refine gg_iadd C dX7_pass_89 ?_
        refine gg_put C dX7_pass_90 pk_X7_60 (gNar_int _) hf (fun g8 hf => ?_)
        refine gg_aload_n C dX7_pass_93 rfl ?_
        refine gg_getI C dX7_pass_94 lk_X7_60 hf (fun i9 hf => ?_)
        exact gg_iret C hr (by decide) (by decide) dX7_pass_97 rfl hf
      · refine gg_aload_n C dX7_pass_55 rfl ?_
        refine gg_getR C dX7_pass_56 lk_X7_19 hf (fun r10 hf => ?_)
        refine gg_iload_n C dX7_pass_59 rfl ?_
        refine gr_R (k' := 0) (n' := 0) (gk_V (ci := 10) (As := [.int l2]) (rest := []) C dX7_pass_60 rfl rfl tw_288 tw_289 tw_290 tw_28 tw_291 gd_Jx4a65c_get_915e3 rfl ⟨by decide, by decide⟩ (by simp [gcat, gcI, gcL, gcF, gcD]) ⟨by decide, by decide⟩ hf (fun hf => m_Jx4a65c_get_915e3 hfl hf)) rfl rfl (fun E g9 h9 => gx_out C (fun x hx => (ht x hx).elim) (by decide) (by decide) h9) (fun r12 g11 hf => ?_)
        refine gg_ccast (ci := 1) C dX7_pass_63 rfl tw_302 hf (fun hf => ?_)
        refine gg_astore_n (L' := [some (va_rf l0), some (.int l1), some (.int l2), some (va_rf r12)]) C dX7_pass_66 (Or.inr (Or.inr ⟨_, rfl, rfl⟩)) (by decide) rfl ?_
        refine gg_aload_n C dX7_pass_67 rfl ?_
        refine gg_aload_n C dX7_pass_68 rfl ?_
        refine gg_aload_n C dX7_pass_69 rfl ?_
        refine gg_iload_n C dX7_pass_70 rfl ?_
        refine gr_I (k' := 0) (n' := 0) (gk_V (ci := 7) (As := [va_rf r12, .int l1]) (rest := [va_rf r12]) C dX7_pass_71 rfl rfl tw_1151 tw_1153 tw_20 tw_25 tw_1154 gd_X7_grownPercentage rfl ⟨by decide, by decide⟩ (by simp [gcat, gcI, gcL, gcF, gcD]) ⟨by decide, by decide⟩ hf (fun hf => m_X7_grownPercentage hfl hf)) rfl rfl (fun E g9 h9 => gx_out C (fun x hx => (ht x hx).elim) (by decide) (by decide) h9) (fun i14 g13 hf => ?_)
        refine gg_put C dX7_pass_74 pk_X7_161 (gNar_int _) hf (fun g15 hf => ?_)
        refine gg_iinc (L' := [some (va_rf l0), some (.int l1), some (.int (l2 + 1)), some (va_rf r12)]) C dX7_pass_77 rfl (v := (l2 + 1)) rfl (Or.inr (Or.inr ⟨_, rfl, rfl⟩)) (by decide) rfl ?_
        refine gg_goto (tgt := 44) C dX7_pass_80 (by decide) ?_
        exact gg_sub (L' := [some (va_rf l0), some (.int l1), some (.int (l2 + 1)), none]) (by first | exact ⟨rfl, ⟨rfl, ⟨rfl, trivial⟩⟩⟩ | simp [gsub]) (ih _ _ _ _ hf)
  unfold w_X7_pass at hf
  refine gg_iload_n C dX7_pass_0 rfl ?_
  refine gg_iconst C dX7_pass_1 (v := (1 : Int32)) (by decide) ?_
  refine gg_bipush C dX7_pass_2 (v := (99 : Int32)) (by decide) ?_
  refine gr_I (k' := 0) (n' := 0) (gk_S (As := [.int v1, .int (1 : Int32), .int (99 : Int32)]) (rest := []) C dX7_pass_4 tw_213 tw_214 tw_25 tw_215 gd_X7_outside rfl ⟨by decide, by decide⟩ (by simp [gcat, gcI, gcL, gcF, gcD]) ⟨by decide, by decide⟩ (m_X7_outside hfl hf)) rfl rfl (fun E g9 h9 => gx_out C (fun x hx => (ht x hx).elim) (by decide) (by decide) h9) (fun i2 g1 hf => ?_)
  refine gg_if_eq (tgt := 20) C dX7_pass_7 (by decide) hf (fun hf => ?_) (fun hf => ?_)
  · refine gg_aload_n C dX7_pass_20 rfl ?_
    refine gg_getI C dX7_pass_21 lk_X7_60 hf (fun i3 hf => ?_)
    refine gg_iload_n C dX7_pass_24 rfl ?_
    refine gg_iadd C dX7_pass_25 ?_
    refine gg_sipush C dX7_pass_26 (v := (999 : Int32)) (by decide) ?_
    refine gg_icmp_le (tgt := 42) C dX7_pass_29 (by decide) hf (fun hf => ?_) (fun hf => ?_)
    · refine gg_iconst C dX7_pass_42 (v := (0 : Int32)) (by decide) ?_
      refine gg_istore_n (L' := [some (va_rf v0), some (.int v1), some (.int (0 : Int32)), none]) C dX7_pass_43 (Or.inr (Or.inr ⟨_, rfl, rfl⟩)) (by decide) rfl ?_
      exact hb_44 _ _ _ _ _ hf
    · exact gg_throw (cls := "java/lang/IllegalStateException") (names := ["java/lang/RuntimeException", "java/lang/Exception"]) C (by decide +kernel) (by decide +kernel) tw_327 tw_40 xk_X7_82 (show ("Releasetrain", 176, "the day would be greater than 999", 28) ∈ gStr by decide +kernel) dX7_pass_32 dX7_pass_35 dX7_pass_36 dX7_pass_38 dX7_pass_41 (fun x hx => (ht x hx).elim) (by decide) (by simp [gcat, gcI, gcL, gcF, gcD]) (by decide) (by decide) (by decide) (by decide) hf
  · exact gg_throw (cls := "java/lang/IllegalArgumentException") (names := ["java/lang/RuntimeException", "java/lang/Exception"]) C (by decide +kernel) (by decide +kernel) tw_307 tw_50 xk_X7_71 (show ("Releasetrain", 157, "the number is out of range", 25) ∈ gStr by decide +kernel) dX7_pass_10 dX7_pass_13 dX7_pass_14 dX7_pass_16 dX7_pass_19 (fun x hx => (ht x hx).elim) (by decide) (by simp [gcat, gcI, gcL, gcF, gcD]) (by decide) (by decide) (by decide) (by decide) hf

def w_X7_holdOf (X : Cx) (post : Int32 → GM → Prop) (px : String → GM → Prop) (v0 : Option Nat) (v1 : Int32) (g : GM) : Prop :=
  wIs g v0 7 (w_X7_knownBuild X (fun (r2 : Option Nat) (g1 : GM) => wGetI g1 r2 1 7 (fun (i3 : Int32) => (if i3 = (97 : Int32) then wIs g1 v0 7 (w_X7_holdReason X (fun (i5 : Int32) (g4 : GM) => (narrow .char (.int i5) = .int i5 ∧ post i5 g4)) px v0 r2 g1) else px "java/lang/IllegalStateException" g1))) px v0 v1 g)
abbrev rm_X7_holdOf : Room := { frames := 7, cells := 2, slots := 12, locals := 103 }
set_option maxHeartbeats 4000000 in
set_option maxRecDepth 100000 in
theorem m_X7_holdOf {X : Cx} {l : Launch} (hfl : l.stackTraces = false) {post : Int32 → GM → Prop} {px : String → GM → Prop} {v0 : Option Nat} {v1 : Int32} {g : GM} (hf : w_X7_holdOf X post px v0 v1 g) : gMet X l yX7_holdOf cX7_holdOf 3 (some .char) rm_X7_holdOf [va_rf v0, .int v1] g (qI X post) px := by
  refine gg_enter (L := [some (va_rf v0), some (.int v1), none]) hfl (by decide +kernel) (by simp [lg_sl, gcat, gcI, gcL, gcF, gcD]) (by simp [gll, lv_args, gcat, gcI, gcL, gcF, gcD]) ?_
  intro p e s m args below meth c C hr ht hm
  have C : FC X p l s m args meth c cX7_holdOf 3 "Releasetrain" := C
  unfold w_X7_holdOf at hf
  refine gg_aload_n C dX7_holdOf_0 rfl ?_
  refine gg_iload_n C dX7_holdOf_1 rfl ?_
  refine gr_R (k' := 1) (n' := 6) (gk_V (ci := 7) (As := [.int v1]) (rest := []) C dX7_holdOf_2 rfl rfl tw_209 tw_211 tw_0 tw_25 tw_212 gd_X7_knownBuild rfl ⟨by decide, by decide⟩ (by simp [gcat, gcI, gcL, gcF, gcD]) ⟨by decide, by decide⟩ hf (fun hf => m_X7_knownBuild hfl hf)) rfl rfl (fun E g9 h9 => gx_out C (fun x hx => (ht x hx).elim) (by decide) (by decide) h9) (fun r2 g1 hf => ?_)
  refine gg_astore_n (L' := [some (va_rf v0), some (.int v1), some (va_rf r2)]) C dX7_holdOf_5 (Or.inr (Or.inr ⟨_, rfl, rfl⟩)) (by decide) rfl ?_
  refine gg_aload_n C dX7_holdOf_6 rfl ?_
  refine gg_getI C dX7_holdOf_7 lk_X7_125 hf (fun i3 hf => ?_)
  refine gg_bipush C dX7_holdOf_10 (v := (97 : Int32)) (by decide) ?_
  refine gg_icmp_eq (tgt := 25) C dX7_holdOf_12 (by decide) hf (fun hf => ?_) (fun hf => ?_)
  · refine gg_aload_n C dX7_holdOf_25 rfl ?_
    refine gg_aload_n C dX7_holdOf_26 rfl ?_
    refine gr_I (k' := 1) (n' := 6) (gk_V (ci := 7) (As := [va_rf r2]) (rest := []) C dX7_holdOf_27 rfl rfl tw_640 tw_642 tw_10 tw_25 tw_643 gd_X7_holdReason rfl ⟨by decide, by decide⟩ (by simp [gcat, gcI, gcL, gcF, gcD]) ⟨by decide, by decide⟩ hf (fun hf => m_X7_holdReason hfl hf)) rfl rfl (fun E g9 h9 => gx_out C (fun x hx => (ht x hx).elim) (by decide) (by decide) h9) (fun i5 g4 hf => ?_)
    exact gg_iret C hr (by decide) (by decide) dX7_holdOf_30 hf.1 hf.2
  · exact gg_throw (cls := "java/lang/IllegalStateException") (names := ["java/lang/RuntimeException", "java/lang/Exception"]) C (by decide +kernel) (by decide +kernel) tw_327 tw_40 xk_X7_82 (show ("Releasetrain", 159, "it is not approved", 26) ∈ gStr by decide +kernel) dX7_holdOf_15 dX7_holdOf_18 dX7_holdOf_19 dX7_holdOf_21 dX7_holdOf_24 (fun x hx => (ht x hx).elim) (by decide) (by simp [gcat, gcI, gcL, gcF, gcD]) (by decide) (by decide) (by decide) (by decide) hf

def w_X7_day (X : Cx) (post : Int32 → GM → Prop) (px : String → GM → Prop) (v0 : Option Nat) (g : GM) : Prop :=
  wGetI g v0 7 12 (fun (i1 : Int32) => post i1 g)
abbrev rm_X7_day : Room := { frames := 0, cells := 0, slots := 0, locals := 0 }
set_option maxHeartbeats 4000000 in
set_option maxRecDepth 100000 in
theorem m_X7_day {X : Cx} {l : Launch} (hfl : l.stackTraces = false) {post : Int32 → GM → Prop} {px : String → GM → Prop} {v0 : Option Nat} {g : GM} (hf : w_X7_day X post px v0 g) : gMet X l yX7_day cX7_day 1 (some .int) rm_X7_day [va_rf v0] g (qI X post) px := by
  refine gg_enter (L := [some (va_rf v0)]) hfl (by decide +kernel) (by simp [lg_sl, gcat, gcI, gcL, gcF, gcD]) (by simp [gll, lv_args, gcat, gcI, gcL, gcF, gcD]) ?_
  intro p e s m args below meth c C hr ht hm
  have C : FC X p l s m args meth c cX7_day 1 "Releasetrain" := C
  unfold w_X7_day at hf
  refine gg_aload_n C dX7_day_0 rfl ?_
  refine gg_getI C dX7_day_1 lk_X7_60 hf (fun i1 hf => ?_)
  exact gg_iret C hr (by decide) (by decide) dX7_day_4 rfl hf

def w_X7_knownDevice (X : Cx) (post : Option Nat → GM → Prop) (px : String → GM → Prop) (v0 : Option Nat) (v1 : Int32) (g : GM) : Prop :=
  wGetR g v0 7 0 (fun (r1 : Option Nat) => wIs g r1 10 (w_Jx4a65c_size_8abf5 X (fun (i3 : Int32) (g2 : GM) => w_X7_outside X (fun (i5 : Int32) (g4 : GM) => (if i5 = 0 then wGetR g4 v0 7 0 (fun (r6 : Option Nat) => wIs g4 r6 10 (w_Jx4a65c_get_915e3 X (fun (r8 : Option Nat) (g7 : GM) => wIs g7 r8 2 (post r8 g7)) px r6 v1 g4)) else px "java/util/NoSuchElementException" g4)) px v1 (0 : Int32) (i3 - (1 : Int32)) g2) px r1 g))
abbrev rm_X7_knownDevice : Room := { frames := 6, cells := 1, slots := 6, locals := 82 }
set_option maxHeartbeats 4000000 in
set_option maxRecDepth 100000 in
theorem m_X7_knownDevice {X : Cx} {l : Launch} (hfl : l.stackTraces = false) {post : Option Nat → GM → Prop} {px : String → GM → Prop} {v0 : Option Nat} {v1 : Int32} {g : GM} (hf : w_X7_knownDevice X post px v0 v1 g) : gMet X l yX7_knownDevice cX7_knownDevice 2 (some (.object "Releasetrain$Device")) rm_X7_knownDevice [va_rf v0, .int v1] g (qR X post) px := by
  refine gg_enter (L := [some (va_rf v0), some (.int v1)]) hfl (by decide +kernel) (by simp [lg_sl, gcat, gcI, gcL, gcF, gcD]) (by simp [gll, lv_args, gcat, gcI, gcL, gcF, gcD]) ?_
  intro p e s m args below meth c C hr ht hm
  have C : FC X p l s m args meth c cX7_knownDevice 2 "Releasetrain" := C
  unfold w_X7_knownDevice at hf
  refine gg_iload_n C dX7_knownDevice_0 rfl ?_
  refine gg_iconst C dX7_knownDevice_1 (v := (0 : Int32)) (by decide) ?_
  refine gg_aload_n C dX7_knownDevice_2 rfl ?_
  refine gg_getR C dX7_knownDevice_3 lk_X7_10 hf (fun r1 hf => ?_)
  refine gr_I (k' := 0) (n' := 0) (gk_V (ci := 10) (As := []) (rest := [.int (0 : Int32), .int v1]) C dX7_knownDevice_6 rfl rfl tw_189 tw_190 tw_191 tw_28 tw_192 gd_Jx4a65c_size_8abf5 rfl ⟨by decide, by decide⟩ (by simp [gcat, gcI, gcL, gcF, gcD]) ⟨by decide, by decide⟩ hf (fun hf => m_Jx4a65c_size_8abf5 hfl hf)) rfl rfl (fun E g9 h9 => gx_out C (fun x hx => (ht x hx).elim) (by decide) (by decide) h9) (fun i3 g2 hf => ?_)
  refine gg_iconst C dX7_knownDevice_9 (v := (1 : Int32)) (by decide) ?_
  refine gg_isub C dX7_knownDevice_10 ?_
  refine gr_I (k' := 0) (n' := 0) (gk_S (As := [.int v1, .int (0 : Int32), .int (i3 - (1 : Int32))]) (rest := []) C dX7_knownDevice_11 tw_213 tw_214 tw_25 tw_215 gd_X7_outside rfl ⟨by decide, by decide⟩ (by simp [gcat, gcI, gcL, gcF, gcD]) ⟨by decide, by decide⟩ (m_X7_outside hfl hf)) rfl rfl (fun E g9 h9 => gx_out C (fun x hx => (ht x hx).elim) (by decide) (by decide) h9) (fun i5 g4 hf => ?_)
  refine gg_if_eq (tgt := 28) C dX7_knownDevice_14 (by decide) hf (fun hf => ?_) (fun hf => ?_)
  · refine gg_aload_n C dX7_knownDevice_28 rfl ?_
    refine gg_getR C dX7_knownDevice_29 lk_X7_10 hf (fun r6 hf => ?_)
    refine gg_iload_n C dX7_knownDevice_32 rfl ?_
    refine gr_R (k' := 0) (n' := 0) (gk_V (ci := 10) (As := [.int v1]) (rest := []) C dX7_knownDevice_33 rfl rfl tw_288 tw_289 tw_290 tw_28 tw_291 gd_Jx4a65c_get_915e3 rfl ⟨by decide, by decide⟩ (by simp [gcat, gcI, gcL, gcF, gcD]) ⟨by decide, by decide⟩ hf (fun hf => m_Jx4a65c_get_915e3 hfl hf)) rfl rfl (fun E g9 h9 => gx_out C (fun x hx => (ht x hx).elim) (by decide) (by decide) h9) (fun r8 g7 hf => ?_)
    refine gg_ccast (ci := 2) C dX7_knownDevice_36 rfl tw_526 hf (fun hf => ?_)
    exact gg_aret C hr (Or.inl ⟨_, rfl⟩) (by decide) (by decide) dX7_knownDevice_39 hf
  · exact gg_throwX (cls := "java/util/NoSuchElementException") (names := ["java/lang/RuntimeException", "java/lang/Exception"]) C gnsee.2.1 gnsee.2.2.1 gnsee.2.2.2.1 gnsee.2.2.2.2 (by decide +kernel) (by decide +kernel) tw_216 tw_37 gnsee.1 (show ("Releasetrain", 394, "there is no such device", 39) ∈ gStr by decide +kernel) dX7_knownDevice_17 dX7_knownDevice_20 dX7_knownDevice_21 dX7_knownDevice_24 dX7_knownDevice_27 (fun x hx => (ht x hx).elim) (by decide) (by simp [gcat, gcI, gcL, gcF, gcD]) (by decide) (by decide) (by decide) (by decide) hf

def w_X7_isOpenTo_b53 (X : Cx) (post : Int32 → GM → Prop) (px : String → GM → Prop)  (t0 : Int32) (g : GM) : Prop :=
  (narrow .boolean (.int t0) = .int t0 ∧ post t0 g)
def w_X7_isOpenTo_b52 (X : Cx) (post : Int32 → GM → Prop) (px : String → GM → Prop)   (g : GM) : Prop :=
  w_X7_isOpenTo_b53 X post px (0 : Int32) g
def w_X7_isOpenTo_b48 (X : Cx) (post : Int32 → GM → Prop) (px : String → GM → Prop)   (g : GM) : Prop :=
  w_X7_isOpenTo_b53 X post px (1 : Int32) g
def w_X7_isOpenTo (X : Cx) (post : Int32 → GM → Prop) (px : String → GM → Prop) (v0 : Option Nat) (v1 : Option Nat) (v2 : Option Nat) (g : GM) : Prop :=
  wIs g v0 7 (w_X7_isRolledOut X (fun (i2 : Int32) (g1 : GM) => (if i2 = 0 then w_X7_isOpenTo_b52 X post px g1 else wGetR g1 v1 1 2 (fun (r3 : Option Nat) => wGetI g1 v2 2 0 (fun (i4 : Int32) => wGetI g1 v2 2 1 (fun (i5 : Int32) => wIs g1 r3 5 (w_X5_isFor X (fun (i7 : Int32) (g6 : GM) => (if i7 = 0 then w_X7_isOpenTo_b52 X post px g6 else wGetI g6 v2 2 2 (fun (i8 : Int32) => wGetI g6 v1 1 10 (fun (i9 : Int32) => (if i8 < i9 then w_X7_isOpenTo_b48 X post px g6 else wGetR g6 v2 2 3 (fun (r10 : Option Nat) => wIs g6 v1 1 (w_X1_isFixOf X (fun (i12 : Int32) (g11 : GM) => (if i12 = 0 then w_X7_isOpenTo_b52 X post px g11 else w_X7_isOpenTo_b48 X post px g11)) px v1 r10 g6))))))) px r3 i4 i5 g1)))))) px v0 v1 g)
abbrev rm_X7_isOpenTo : Room := { frames := 3, cells := 0, slots := 0, locals := 63 }
set_option maxHeartbeats 4000000 in
set_option maxRecDepth 100000 in
theorem m_X7_isOpenTo {X : Cx} {l : Launch} (hfl : l.stackTraces = false) {post : Int32 → GM → Prop} {px : String → GM → Prop} {v0 : Option Nat} {v1 : Option Nat} {v2 : Option Nat} {g : GM} (hf : w_X7_isOpenTo X post px v0 v1 v2 g) : gMet X l yX7_isOpenTo cX7_isOpenTo 3 (some .boolean) rm_X7_isOpenTo [va_rf v0, va_rf v1, va_rf v2] g (qI X post) px := by
  refine gg_enter (L := [some (va_rf v0), some (va_rf v1), some (va_rf v2)]) hfl (by decide +kernel) (by simp [lg_sl, gcat, gcI, gcL, gcF, gcD]) (by simp [gll, lv_args, gcat, gcI, gcL, gcF, gcD]) ?_
  intro p e s m args below meth c C hr ht hm
  have C : FC X p l s m args meth c cX7_isOpenTo 3 "Releasetrain" := C
  have hb_53 : ∀ (t0 : Int32) (g : GM), w_X7_isOpenTo_b53 X post px  t0 g → GG X p l e rm_X7_isOpenTo s m args below meth c 3 (vx_MQ below (qI X post) (gXC X px) args s rm_X7_isOpenTo.cells rm_X7_isOpenTo.slots (gA X)) 0 0 53 [none, none, none] [.int t0] g := by
    intro  t0 g hf
    unfold w_X7_isOpenTo_b53 at hf
    exact gg_iret C hr (by decide) (by decide) dX7_isOpenTo_53 hf.1 hf.2
  have hb_52 : ∀  (g : GM), w_X7_isOpenTo_b52 X post px   g → GG X p l e rm_X7_isOpenTo s m args below meth c 3 (vx_MQ below (qI X post) (gXC X px) args s rm_X7_isOpenTo.cells rm_X7_isOpenTo.slots (gA X)) 0 0 52 [none, none, none] [] g := by
    intro   g hf
    unfold w_X7_isOpenTo_b52 at hf
    refine gg_iconst C dX7_isOpenTo_52 (v := (0 : Int32)) (by decide) ?_
    exact hb_53 _ _ hf
  have hb_48 : ∀  (g : GM), w_X7_isOpenTo_b48 X post px   g → GG X p l e rm_X7_isOpenTo s m args below meth c 3 (vx_MQ below (qI X post) (gXC X px) args s rm_X7_isOpenTo.cells rm_X7_isOpenTo.slots (gA X)) 0 0 48 [none, none, none] [] g := by
    intro   g hf
    unfold w_X7_isOpenTo_b48 at hf
    refine gg_iconst C dX7_isOpenTo_48 (v := (1 : Int32)) (by decide) ?_
    refine gg_goto (tgt := 53) C dX7_isOpenTo_49 (by decide) ?_
    exact hb_53 _ _ hf
  unfold w_X7_isOpenTo at hf
  refine gg_aload_n C dX7_isOpenTo_0 rfl ?_
  refine gg_aload_n C dX7_isOpenTo_1 rfl ?_
  refine gr_I (k' := 0) (n' := 0) (gk_V (ci := 7) (As := [va_rf v1]) (rest := []) C dX7_isOpenTo_2 rfl rfl tw_661 tw_663 tw_12 tw_25 tw_664 gd_X7_isRolledOut rfl ⟨by decide, by decide⟩ (by simp [gcat, gcI, gcL, gcF, gcD]) ⟨by decide, by decide⟩ hf (fun hf => m_X7_isRolledOut hfl hf)) rfl rfl (fun E g9 h9 => gx_out C (fun x hx => (ht x hx).elim) (by decide) (by decide) h9) (fun i2 g1 hf => ?_)
  refine gg_if_eq (tgt := 52) C dX7_isOpenTo_5 (by decide) hf (fun hf => ?_) (fun hf => ?_)
  · exact gg_sub (L' := [none, none, none]) (by first | exact trivial | simp [gsub]) (hb_52 _ hf)
  · refine gg_aload_n C dX7_isOpenTo_8 rfl ?_
    refine gg_getR C dX7_isOpenTo_9 lk_X7_119 hf (fun r3 hf => ?_)
    refine gg_aload_n C dX7_isOpenTo_12 rfl ?_
    refine gg_getI C dX7_isOpenTo_13 lk_X7_439 hf (fun i4 hf => ?_)
    refine gg_aload_n C dX7_isOpenTo_16 rfl ?_
    refine gg_getI C dX7_isOpenTo_17 lk_X7_440 hf (fun i5 hf => ?_)
    refine gr_I (k' := 0) (n' := 0) (gk_V (ci := 5) (As := [.int i4, .int i5]) (rest := []) C dX7_isOpenTo_20 rfl rfl tw_665 tw_666 tw_667 tw_60 tw_668 gd_X5_isFor rfl ⟨by decide, by decide⟩ (by simp [gcat, gcI, gcL, gcF, gcD]) ⟨by decide, by decide⟩ hf (fun hf => m_X5_isFor hfl hf)) rfl rfl (fun E g9 h9 => gx_out C (fun x hx => (ht x hx).elim) (by decide) (by decide) h9) (fun i7 g6 hf => ?_)
    refine gg_if_eq (tgt := 52) C dX7_isOpenTo_23 (by decide) hf (fun hf => ?_) (fun hf => ?_)
    · exact gg_sub (L' := [none, none, none]) (by first | exact trivial | simp [gsub]) (hb_52 _ hf)
    · refine gg_aload_n C dX7_isOpenTo_26 rfl ?_
      refine gg_getI C dX7_isOpenTo_27 lk_X7_228 hf (fun i8 hf => ?_)
      refine gg_aload_n C dX7_isOpenTo_30 rfl ?_
      refine gg_getI C dX7_isOpenTo_31 lk_X7_161 hf (fun i9 hf => ?_)
      refine gg_icmp_lt (tgt := 48) C dX7_isOpenTo_34 (by decide) hf (fun hf => ?_) (fun hf => ?_)
      · exact gg_sub (L' := [none, none, none]) (by first | exact trivial | simp [gsub]) (hb_48 _ hf)
      · refine gg_aload_n C dX7_isOpenTo_37 rfl ?_
        refine gg_aload_n C dX7_isOpenTo_38 rfl ?_
        refine gg_getR C dX7_isOpenTo_39 lk_X7_225 hf (fun r10 hf => ?_)
        refine gr_I (k' := 0) (n' := 0) (gk_V (ci := 1) (As := [va_rf r10]) (rest := []) C dX7_isOpenTo_42 rfl rfl tw_685 tw_686 tw_687 tw_59 tw_688 gd_X1_isFixOf rfl ⟨by decide, by decide⟩ (by simp [gcat, gcI, gcL, gcF, gcD]) ⟨by decide, by decide⟩ hf (fun hf => m_X1_isFixOf hfl hf)) rfl rfl (fun E g9 h9 => gx_out C (fun x hx => (ht x hx).elim) (by decide) (by decide) h9) (fun i12 g11 hf => ?_)
        refine gg_if_eq (tgt := 52) C dX7_isOpenTo_45 (by decide) hf (fun hf => ?_) (fun hf => ?_)
        · exact gg_sub (L' := [none, none, none]) (by first | exact trivial | simp [gsub]) (hb_52 _ hf)
        · exact gg_sub (L' := [none, none, none]) (by first | exact trivial | simp [gsub]) (hb_48 _ hf)

def w_X7_couldHave (X : Cx) (post : Int32 → GM → Prop) (px : String → GM → Prop) (v0 : Option Nat) (v1 : Int32) (v2 : Int32) (g : GM) : Prop :=
  wIs g v0 7 (w_X7_knownDevice X (fun (r2 : Option Nat) (g1 : GM) => wIs g1 v0 7 (w_X7_knownBuild X (fun (r4 : Option Nat) (g3 : GM) => wIs g3 v0 7 (w_X7_isOpenTo X (fun (i6 : Int32) (g5 : GM) => (narrow .boolean (.int i6) = .int i6 ∧ post i6 g5)) px v0 r4 r2 g3)) px v0 v2 g1)) px v0 v1 g)
abbrev rm_X7_couldHave : Room := { frames := 7, cells := 2, slots := 12, locals := 103 }
set_option maxHeartbeats 4000000 in
set_option maxRecDepth 100000 in
theorem m_X7_couldHave {X : Cx} {l : Launch} (hfl : l.stackTraces = false) {post : Int32 → GM → Prop} {px : String → GM → Prop} {v0 : Option Nat} {v1 : Int32} {v2 : Int32} {g : GM} (hf : w_X7_couldHave X post px v0 v1 v2 g) : gMet X l yX7_couldHave cX7_couldHave 4 (some .boolean) rm_X7_couldHave [va_rf v0, .int v1, .int v2] g (qI X post) px := by
  refine gg_enter (L := [some (va_rf v0), some (.int v1), some (.int v2), none]) hfl (by decide +kernel) (by simp [lg_sl, gcat, gcI, gcL, gcF, gcD]) (by simp [gll, lv_args, gcat, gcI, gcL, gcF, gcD]) ?_
  intro p e s m args below meth c C hr ht hm
  have C : FC X p l s m args meth c cX7_couldHave 4 "Releasetrain" := C
  unfold w_X7_couldHave at hf
  refine gg_aload_n C dX7_couldHave_0 rfl ?_
  refine gg_iload_n C dX7_couldHave_1 rfl ?_
  refine gr_R (k' := 1) (n' := 6) (gk_V (ci := 7) (As := [.int v1]) (rest := []) C dX7_couldHave_2 rfl rfl tw_1015 tw_1017 tw_16 tw_25 tw_1018 gd_X7_knownDevice rfl ⟨by decide, by decide⟩ (by simp [gcat, gcI, gcL, gcF, gcD]) ⟨by decide, by decide⟩ hf (fun hf => m_X7_knownDevice hfl hf)) rfl rfl (fun E g9 h9 => gx_out C (fun x hx => (ht x hx).elim) (by decide) (by decide) h9) (fun r2 g1 hf => ?_)
  refine gg_astore_n (L' := [some (va_rf v0), some (.int v1), some (.int v2), some (va_rf r2)]) C dX7_couldHave_5 (Or.inr (Or.inr ⟨_, rfl, rfl⟩)) (by decide) rfl ?_
  refine gg_aload_n C dX7_couldHave_6 rfl ?_
  refine gg_aload_n C dX7_couldHave_7 rfl ?_
  refine gg_iload_n C dX7_couldHave_8 rfl ?_
  refine gr_R (k' := 2) (n' := 12) (gk_V (ci := 7) (As := [.int v2]) (rest := [va_rf v0]) C dX7_couldHave_9 rfl rfl tw_209 tw_211 tw_0 tw_25 tw_212 gd_X7_knownBuild rfl ⟨by decide, by decide⟩ (by simp [gcat, gcI, gcL, gcF, gcD]) ⟨by decide, by decide⟩ hf (fun hf => m_X7_knownBuild hfl hf)) rfl rfl (fun E g9 h9 => gx_out C (fun x hx => (ht x hx).elim) (by decide) (by decide) h9) (fun r4 g3 hf => ?_)
  refine gg_aload_n C dX7_couldHave_12 rfl ?_
  refine gr_I (k' := 2) (n' := 12) (gk_V (ci := 7) (As := [va_rf r4, va_rf r2]) (rest := []) C dX7_couldHave_13 rfl rfl tw_681 tw_683 tw_13 tw_25 tw_684 gd_X7_isOpenTo rfl ⟨by decide, by decide⟩ (by simp [gcat, gcI, gcL, gcF, gcD]) ⟨by decide, by decide⟩ hf (fun hf => m_X7_isOpenTo hfl hf)) rfl rfl (fun E g9 h9 => gx_out C (fun x hx => (ht x hx).elim) (by decide) (by decide) h9) (fun i6 g5 hf => ?_)
  exact gg_iret C hr (by decide) (by decide) dX7_couldHave_16 hf.1 hf.2

def w_X7_reach_b122 (X : Cx) (post : Int32 → GM → Prop) (px : String → GM → Prop)  (l3 : Int32) (g : GM) : Prop :=
  post l3 g
def w_X7_reach_b82 (X : Cx) (post : Int32 → GM → Prop) (px : String → GM → Prop) (k21 : Option Nat → Option Nat → Int32 → Int32 → GM → Prop) (l0 : Option Nat) (l2 : Option Nat) (l3 : Int32) (l4 : Int32) (g : GM) : Prop :=
  k21 l0 l2 l3 (l4 + 1) g
def w_X7_reach_l21 (X : Cx) (post : Int32 → GM → Prop) (px : String → GM → Prop)  : Nat → Option Nat → Option Nat → Int32 → Int32 → GM → Prop
  | 0, _, _, _, _, _ => False
  | f + 1, l0, l2, l3, l4, g => wGetR g l0 7 1 (fun (r5 : Option Nat) => wIs g r5 10 (w_Jx4a65c_size_8abf5 X (fun (i7 : Int32) (g6 : GM) => (if i7 ≤ l4 then wGetR g6 l2 1 5 (fun (r8 : Option Nat) => (if r8 = none then w_X7_reach_b122 X post px l3 g6 else wGetR g6 l2 1 5 (fun (r9 : Option Nat) => wGetR g6 r9 1 6 (fun (r10 : Option Nat) => wGetI g6 r10 0 1 (fun (i11 : Int32) => wGetI g6 l2 1 10 (fun (i12 : Int32) => wIs g6 r10 0 (w_X0_countBelow X (fun (i14 : Int32) (g13 : GM) => w_X7_reach_b122 X post px (l3 + (i11 - i14)) g13) px r10 i12 g6))))))) else wGetR g6 l0 7 1 (fun (r15 : Option Nat) => wIs g6 r15 10 (w_Jx4a65c_get_915e3 X (fun (r17 : Option Nat) (g16 : GM) => wIs g16 r17 3 (wGetR g16 l2 1 2 (fun (r18 : Option Nat) => wGetI g16 r17 3 0 (fun (i19 : Int32) => wGetI g16 r17 3 1 (fun (i20 : Int32) => wIs g16 r18 5 (w_X5_isFor X (fun (i22 : Int32) (g21 : GM) => (if i22 = 0 then w_X7_reach_b82 X post px (w_X7_reach_l21 X post px f) l0 l2 l3 l4 g21 else wGetR g21 r17 3 2 (fun (r23 : Option Nat) => wGetI g21 l2 1 10 (fun (i24 : Int32) => wIs g21 r23 0 (w_X0_countBelow X (fun (i26 : Int32) (g25 : GM) => w_X7_reach_b82 X post px (w_X7_reach_l21 X post px f) l0 l2 (l3 + i26) l4 g25) px r23 i24 g21))))) px r18 i19 i20 g16)))))) px r15 l4 g6)))) px r5 g))
def w_X7_reach (X : Cx) (post : Int32 → GM → Prop) (px : String → GM → Prop) (v0 : Option Nat) (v1 : Int32) (g : GM) : Prop :=
  wIs g v0 7 (w_X7_knownBuild X (fun (r2 : Option Nat) (g1 : GM) => wIs g1 v0 7 (w_X7_isRolledOut X (fun (i4 : Int32) (g3 : GM) => (if i4 = 0 then post (0 : Int32) g3 else w_X7_reach_l21 X post px 3000 v0 r2 (0 : Int32) (0 : Int32) g3)) px v0 r2 g1)) px v0 v1 g)
abbrev rm_X7_reach : Room := { frames := 7, cells := 1, slots := 6, locals := 103 }
set_option maxHeartbeats 4000000 in
set_option maxRecDepth 100000 in
theorem m_X7_reach {X : Cx} {l : Launch} (hfl : l.stackTraces = false) {post : Int32 → GM → Prop} {px : String → GM → Prop} {v0 : Option Nat} {v1 : Int32} {g : GM} (hf : w_X7_reach X post px v0 v1 g) : gMet X l yX7_reach cX7_reach 6 (some .int) rm_X7_reach [va_rf v0, .int v1] g (qI X post) px := by
  refine gg_enter (L := [some (va_rf v0), some (.int v1), none, none, none, none]) hfl (by decide +kernel) (by simp [lg_sl, gcat, gcI, gcL, gcF, gcD]) (by simp [gll, lv_args, gcat, gcI, gcL, gcF, gcD]) ?_
  intro p e s m args below meth c C hr ht hm
  have C : FC X p l s m args meth c cX7_reach 6 "Releasetrain" := C
  have hb_122 : ∀ (l3 : Int32) (g : GM), w_X7_reach_b122 X post px  l3 g → GG X p l e rm_X7_reach s m args below meth c 6 (vx_MQ below (qI X post) (gXC X px) args s rm_X7_reach.cells rm_X7_reach.slots (gA X)) 1 6 122 [none, none, none, some (.int l3), none, none] [] g := by
    intro  l3 g hf
    unfold w_X7_reach_b122 at hf
    refine gg_iload_n C dX7_reach_122 rfl ?_
    exact gg_iret C hr (by decide) (by decide) dX7_reach_123 rfl hf
  have hb_82 : ∀ (k21 : Option Nat → Option Nat → Int32 → Int32 → GM → Prop), (∀ (l0 : Option Nat) (l2 : Option Nat) (l3 : Int32) (l4 : Int32) (g : GM), k21 l0 l2 l3 l4 g → GG X p l e rm_X7_reach s m args below meth c 6 (vx_MQ below (qI X post) (gXC X px) args s rm_X7_reach.cells rm_X7_reach.slots (gA X)) 1 6 21 [some (va_rf l0), none, some (va_rf l2), some (.int l3), some (.int l4), none] [] g) → ∀ (l0 : Option Nat) (l2 : Option Nat) (l3 : Int32) (l4 : Int32) (g : GM), w_X7_reach_b82 X post px k21 l0 l2 l3 l4 g → GG X p l e rm_X7_reach s m args below meth c 6 (vx_MQ below (qI X post) (gXC X px) args s rm_X7_reach.cells rm_X7_reach.slots (gA X)) 1 6 82 [some (va_rf l0), none, some (va_rf l2), some (.int l3), some (.int l4), none] [] g := by
    intro k21 hk21 l0 l2 l3 l4 g hf
    unfold w_X7_reach_b82 at hf
    refine gg_iinc (L' := [some (va_rf l0), none, some (va_rf l2), some (.int l3), some (.int (l4 + 1)), none]) C dX7_reach_82 rfl (v := (l4 + 1)) rfl (Or.inr (Or.inr ⟨_, rfl, rfl⟩)) (by decide) rfl ?_
    refine gg_goto (tgt := 21) C dX7_reach_85 (by decide) ?_
    exact hk21 _ _ _ _ _ hf
  have hb_21 : ∀ (f : Nat) (l0 : Option Nat) (l2 : Option Nat) (l3 : Int32) (l4 : Int32) (g : GM), w_X7_reach_l21 X post px  f l0 l2 l3 l4 g → GG X p l e rm_X7_reach s m args below meth c 6 (vx_MQ below (qI X post) (gXC X px) args s rm_X7_reach.cells rm_X7_reach.slots (gA X)) 1 6 21 [some (va_rf l0), none, some (va_rf l2), some (.int l3), some (.int l4), none] [] g := by
    intro  f
    induction f with
    | zero => intro l0 l2 l3 l4 g hf; exact (show False from hf).elim
    | succ f ih =>
      intro l0 l2 l3 l4 g hf
      rw [w_X7_reach_l21] at hf
      refine gg_iload C dX7_reach_21 rfl ?_
      refine gg_aload_n C dX7_reach_23 rfl ?_
      refine gg_getR C dX7_reach_24 lk_X7_16 hf (fun r5 hf => ?_)
      refine gr_I (k' := 1) (n' := 6) (gk_V (ci := 10) (As := []) (rest := [.int l4]) C dX7_reach_27 rfl rfl tw_189 tw_190 tw_191 tw_28 tw_192 gd_Jx4a65c_size_8abf5 rfl ⟨by decide, by decide⟩ (by simp [gcat, gcI, gcL, gcF, gcD]) ⟨by decide, by decide⟩ hf (fun hf => m_Jx4a65c_size_8abf5 hfl hf)) rfl rfl (fun E g9 h9 => gx_out C (fun x hx => (ht x hx).elim) (by decide) (by decide) h9) (fun i7 g6 hf => ?_)
      refine gg_icmp_ge (tgt := 88) C dX7_reach_30 (by decide) hf (fun hf => ?_) (fun hf => ?_)
      · refine gg_aload_n C dX7_reach_88 rfl ?_
        refine gg_getR C dX7_reach_89 lk_X7_211 hf (fun r8 hf => ?_)
        refine gg_ifnull (tgt := 122) C dX7_reach_92 (by decide) hf (fun hf => ?_) (fun hf => ?_)
        · exact gg_sub (L' := [none, none, none, some (.int l3), none, none]) (by first | exact ⟨rfl, trivial⟩ | simp [gsub]) (hb_122 _ _ hf)
        · refine gg_aload_n C dX7_reach_95 rfl ?_
          refine gg_getR C dX7_reach_96 lk_X7_211 hf (fun r9 hf => ?_)
          refine gg_getR C dX7_reach_99 lk_X7_215 hf (fun r10 hf => ?_)
          refine gg_astore (L' := [some (va_rf l0), none, some (va_rf l2), some (.int l3), some (va_rf r10), none]) C dX7_reach_102 (Or.inr (Or.inr ⟨_, rfl, rfl⟩)) (by decide) rfl ?_
          refine gg_iload_n C dX7_reach_104 rfl ?_
          refine gg_aload C dX7_reach_105 rfl ?_
          refine gg_getI C dX7_reach_107 lk_X7_218 hf (fun i11 hf => ?_)
          refine gg_aload C dX7_reach_110 rfl ?_
          refine gg_aload_n C dX7_reach_112 rfl ?_
          refine gg_getI C dX7_reach_113 lk_X7_161 hf (fun i12 hf => ?_)
          refine gr_I (k' := 1) (n' := 6) (gk_V (ci := 0) (As := [.int i12]) (rest := [.int i11, .int l3]) C dX7_reach_116 rfl rfl tw_672 tw_673 tw_674 tw_58 tw_675 gd_X0_countBelow rfl ⟨by decide, by decide⟩ (by simp [gcat, gcI, gcL, gcF, gcD]) ⟨by decide, by decide⟩ hf (fun hf => m_X0_countBelow hfl hf)) rfl rfl (fun E g9 h9 => gx_out C (fun x hx => (ht x hx).elim) (by decide) (by decide) h9) (fun i14 g13 hf => ?_)
          refine gg_isub C dX7_reach_119 ?_
          refine gg_iadd C dX7_reach_120 ?_
          refine gg_istore_n (L' := [some (va_rf l0), none, some (va_rf l2), some (.int (l3 + (i11 - i14))), some (va_rf r10), none]) C dX7_reach_121 (Or.inr (Or.inr ⟨_, rfl, gcat _⟩)) (by decide) rfl ?_
          exact gg_sub (L' := [none, none, none, some (.int (l3 + (i11 - i14))), none, none]) (by first | exact ⟨rfl, trivial⟩ | simp [gsub]) (hb_122 _ _ hf)
      · refine gg_aload_n C dX7_reach_33 rfl ?_
        refine gg_getR C dX7_reach_34 lk_X7_16 hf (fun r15 hf => ?_)
        refine gg_iload C dX7_reach_37 rfl ?_
        refine gr_R (k' := 1) (n' := 6) (gk_V (ci := 10) (As := [.int l4]) (rest := []) C dX7_reach_39 rfl rfl tw_288 tw_289 tw_290 tw_28 tw_291 gd_Jx4a65c_get_915e3 rfl ⟨by decide, by decide⟩ (by simp [gcat, gcI, gcL, gcF, gcD]) ⟨by decide, by decide⟩ hf (fun hf => m_Jx4a65c_get_915e3 hfl hf)) rfl rfl (fun E g9 h9 => gx_out C (fun x hx => (ht x hx).elim) (by decide) (by decide) h9) (fun r17 g16 hf => ?_)
        refine gg_ccast (ci := 3) C dX7_reach_42 rfl tw_561 hf (fun hf => ?_)
        refine gg_astore (L' := [some (va_rf l0), none, some (va_rf l2), some (.int l3), some (.int l4), some (va_rf r17)]) C dX7_reach_45 (Or.inr (Or.inr ⟨_, rfl, rfl⟩)) (by decide) rfl ?_
        refine gg_aload_n C dX7_reach_47 rfl ?_
        refine gg_getR C dX7_reach_48 lk_X7_119 hf (fun r18 hf => ?_)
        refine gg_aload C dX7_reach_51 rfl ?_
        refine gg_getI C dX7_reach_53 lk_X7_197 hf (fun i19 hf => ?_)
        refine gg_aload C dX7_reach_56 rfl ?_
        refine gg_getI C dX7_reach_58 lk_X7_200 hf (fun i20 hf => ?_)
        refine gr_I (k' := 1) (n' := 6) (gk_V (ci := 5) (As := [.int i19, .int i20]) (rest := []) C dX7_reach_61 rfl rfl tw_665 tw_666 tw_667 tw_60 tw_668 gd_X5_isFor rfl ⟨by decide, by decide⟩ (by simp [gcat, gcI, gcL, gcF, gcD]) ⟨by decide, by decide⟩ hf (fun hf => m_X5_isFor hfl hf)) rfl rfl (fun E g9 h9 => gx_out C (fun x hx => (ht x hx).elim) (by decide) (by decide) h9) (fun i22 g21 hf => ?_)
        refine gg_if_eq (tgt := 82) C dX7_reach_64 (by decide) hf (fun hf => ?_) (fun hf => ?_)
        · exact gg_sub (L' := [some (va_rf l0), none, some (va_rf l2), some (.int l3), some (.int l4), none]) (by first | exact ⟨rfl, ⟨rfl, ⟨rfl, ⟨rfl, trivial⟩⟩⟩⟩ | simp [gsub]) (hb_82 _ ih _ _ _ _ _ hf)
        · refine gg_iload_n C dX7_reach_67 rfl ?_
          refine gg_aload C dX7_reach_68 rfl ?_
          refine gg_getR C dX7_reach_70 lk_X7_96 hf (fun r23 hf => ?_)
          refine gg_aload_n C dX7_reach_73 rfl ?_
          refine gg_getI C dX7_reach_74 lk_X7_161 hf (fun i24 hf => ?_)
          refine gr_I (k' := 1) (n' := 6) (gk_V (ci := 0) (As := [.int i24]) (rest := [.int l3]) C dX7_reach_77 rfl rfl tw_672 tw_673 tw_674 tw_58 tw_675 gd_X0_countBelow rfl ⟨by decide, by decide⟩ (by simp [gcat, gcI, gcL, gcF, gcD]) ⟨by decide, by decide⟩ hf (fun hf => m_X0_countBelow hfl hf)) rfl rfl (fun E g9 h9 => gx_out C (fun x hx => (ht x hx).elim) (by decide) (by decide) h9) (fun i26 g25 hf => ?_)
          refine gg_iadd C dX7_reach_80 ?_
          refine gg_istore_n (L' := [some (va_rf l0), none, some (va_rf l2), some (.int (l3 + i26)), some (.int l4), some (va_rf r17)]) C dX7_reach_81 (Or.inr (Or.inr ⟨_, rfl, gcat _⟩)) (by decide) rfl ?_
          exact gg_sub (L' := [some (va_rf l0), none, some (va_rf l2), some (.int (l3 + i26)), some (.int l4), none]) (by first | exact ⟨rfl, ⟨rfl, ⟨rfl, ⟨rfl, trivial⟩⟩⟩⟩ | simp [gsub]) (hb_82 _ ih _ _ _ _ _ hf)
  unfold w_X7_reach at hf
  refine gg_aload_n C dX7_reach_0 rfl ?_
  refine gg_iload_n C dX7_reach_1 rfl ?_
  refine gr_R (k' := 1) (n' := 6) (gk_V (ci := 7) (As := [.int v1]) (rest := []) C dX7_reach_2 rfl rfl tw_209 tw_211 tw_0 tw_25 tw_212 gd_X7_knownBuild rfl ⟨by decide, by decide⟩ (by simp [gcat, gcI, gcL, gcF, gcD]) ⟨by decide, by decide⟩ hf (fun hf => m_X7_knownBuild hfl hf)) rfl rfl (fun E g9 h9 => gx_out C (fun x hx => (ht x hx).elim) (by decide) (by decide) h9) (fun r2 g1 hf => ?_)
  refine gg_astore_n (L' := [some (va_rf v0), some (.int v1), some (va_rf r2), none, none, none]) C dX7_reach_5 (Or.inr (Or.inr ⟨_, rfl, rfl⟩)) (by decide) rfl ?_
  refine gg_aload_n C dX7_reach_6 rfl ?_
  refine gg_aload_n C dX7_reach_7 rfl ?_
  refine gr_I (k' := 1) (n' := 6) (gk_V (ci := 7) (As := [va_rf r2]) (rest := []) C dX7_reach_8 rfl rfl tw_661 tw_663 tw_12 tw_25 tw_664 gd_X7_isRolledOut rfl ⟨by decide, by decide⟩ (by simp [gcat, gcI, gcL, gcF, gcD]) ⟨by decide, by decide⟩ hf (fun hf => m_X7_isRolledOut hfl hf)) rfl rfl (fun E g9 h9 => gx_out C (fun x hx => (ht x hx).elim) (by decide) (by decide) h9) (fun i4 g3 hf => ?_)
  refine gg_if_ne (tgt := 16) C dX7_reach_11 (by decide) hf (fun hf => ?_) (fun hf => ?_)
  · refine gg_iconst C dX7_reach_16 (v := (0 : Int32)) (by decide) ?_
    refine gg_istore_n (L' := [some (va_rf v0), some (.int v1), some (va_rf r2), some (.int (0 : Int32)), none, none]) C dX7_reach_17 (Or.inr (Or.inr ⟨_, rfl, gcat _⟩)) (by decide) rfl ?_
    refine gg_iconst C dX7_reach_18 (v := (0 : Int32)) (by decide) ?_
    refine gg_istore (L' := [some (va_rf v0), some (.int v1), some (va_rf r2), some (.int (0 : Int32)), some (.int (0 : Int32)), none]) C dX7_reach_19 (Or.inr (Or.inr ⟨_, rfl, rfl⟩)) (by decide) rfl ?_
    exact gg_sub (L' := [some (va_rf v0), none, some (va_rf r2), some (.int (0 : Int32)), some (.int (0 : Int32)), none]) (by first | exact ⟨rfl, ⟨rfl, ⟨rfl, ⟨rfl, trivial⟩⟩⟩⟩ | simp [gsub]) (hb_21 _ _ _ _ _ _ hf)
  · refine gg_iconst C dX7_reach_14 (v := (0 : Int32)) (by decide) ?_
    exact gg_iret C hr (by decide) (by decide) dX7_reach_15 rfl hf

def w_X7_reachByDevices_b46 (X : Cx) (post : Int32 → GM → Prop) (px : String → GM → Prop) (k11 : Option Nat → Option Nat → Int32 → Int32 → GM → Prop) (l0 : Option Nat) (l2 : Option Nat) (l3 : Int32) (l4 : Int32) (g : GM) : Prop :=
  k11 l0 l2 l3 (l4 + 1) g
def w_X7_reachByDevices_l11 (X : Cx) (post : Int32 → GM → Prop) (px : String → GM → Prop)  : Nat → Option Nat → Option Nat → Int32 → Int32 → GM → Prop
  | 0, _, _, _, _, _ => False
  | f + 1, l0, l2, l3, l4, g => wGetR g l0 7 0 (fun (r3 : Option Nat) => wIs g r3 10 (w_Jx4a65c_size_8abf5 X (fun (i5 : Int32) (g4 : GM) => (if i5 ≤ l4 then post l3 g4 else wGetR g4 l0 7 0 (fun (r6 : Option Nat) => wIs g4 r6 10 (w_Jx4a65c_get_915e3 X (fun (r8 : Option Nat) (g7 : GM) => wIs g7 r8 2 (wIs g7 l0 7 (w_X7_isOpenTo X (fun (i10 : Int32) (g9 : GM) => (if i10 = 0 then w_X7_reachByDevices_b46 X post px (w_X7_reachByDevices_l11 X post px f) l0 l2 l3 l4 g9 else w_X7_reachByDevices_b46 X post px (w_X7_reachByDevices_l11 X post px f) l0 l2 (l3 + 1) l4 g9)) px l0 l2 r8 g7))) px r6 l4 g4)))) px r3 g))
def w_X7_reachByDevices (X : Cx) (post : Int32 → GM → Prop) (px : String → GM → Prop) (v0 : Option Nat) (v1 : Int32) (g : GM) : Prop :=
  wIs g v0 7 (w_X7_knownBuild X (fun (r2 : Option Nat) (g1 : GM) => w_X7_reachByDevices_l11 X post px 3000 v0 r2 (0 : Int32) (0 : Int32) g1) px v0 v1 g)
abbrev rm_X7_reachByDevices : Room := { frames := 7, cells := 1, slots := 6, locals := 103 }
set_option maxHeartbeats 4000000 in
set_option maxRecDepth 100000 in
theorem m_X7_reachByDevices {X : Cx} {l : Launch} (hfl : l.stackTraces = false) {post : Int32 → GM → Prop} {px : String → GM → Prop} {v0 : Option Nat} {v1 : Int32} {g : GM} (hf : w_X7_reachByDevices X post px v0 v1 g) : gMet X l yX7_reachByDevices cX7_reachByDevices 5 (some .int) rm_X7_reachByDevices [va_rf v0, .int v1] g (qI X post) px := by
  refine gg_enter (L := [some (va_rf v0), some (.int v1), none, none, none]) hfl (by decide +kernel) (by simp [lg_sl, gcat, gcI, gcL, gcF, gcD]) (by simp [gll, lv_args, gcat, gcI, gcL, gcF, gcD]) ?_
  intro p e s m args below meth c C hr ht hm
  have C : FC X p l s m args meth c cX7_reachByDevices 5 "Releasetrain" := C
  have hb_46 : ∀ (k11 : Option Nat → Option Nat → Int32 → Int32 → GM → Prop), (∀ (l0 : Option Nat) (l2 : Option Nat) (l3 : Int32) (l4 : Int32) (g : GM), k11 l0 l2 l3 l4 g → GG X p l e rm_X7_reachByDevices s m args below meth c 5 (vx_MQ below (qI X post) (gXC X px) args s rm_X7_reachByDevices.cells rm_X7_reachByDevices.slots (gA X)) 1 6 11 [some (va_rf l0), none, some (va_rf l2), some (.int l3), some (.int l4)] [] g) → ∀ (l0 : Option Nat) (l2 : Option Nat) (l3 : Int32) (l4 : Int32) (g : GM), w_X7_reachByDevices_b46 X post px k11 l0 l2 l3 l4 g → GG X p l e rm_X7_reachByDevices s m args below meth c 5 (vx_MQ below (qI X post) (gXC X px) args s rm_X7_reachByDevices.cells rm_X7_reachByDevices.slots (gA X)) 1 6 46 [some (va_rf l0), none, some (va_rf l2), some (.int l3), some (.int l4)] [] g := by
    intro k11 hk11 l0 l2 l3 l4 g hf
    unfold w_X7_reachByDevices_b46 at hf
    refine gg_iinc (L' := [some (va_rf l0), none, some (va_rf l2), some (.int l3), some (.int (l4 + 1))]) C dX7_reachByDevices_46 rfl (v := (l4 + 1)) rfl (Or.inr (Or.inr ⟨_, rfl, rfl⟩)) (by decide) rfl ?_
    refine gg_goto (tgt := 11) C dX7_reachByDevices_49 (by decide) ?_
    exact hk11 _ _ _ _ _ hf
  have hb_11 : ∀ (f : Nat) (l0 : Option Nat) (l2 : Option Nat) (l3 : Int32) (l4 : Int32) (g : GM), w_X7_reachByDevices_l11 X post px  f l0 l2 l3 l4 g → GG X p l e rm_X7_reachByDevices s m args below meth c 5 (vx_MQ below (qI X post) (gXC X px) args s rm_X7_reachByDevices.cells rm_X7_reachByDevices.slots (gA X)) 1 6 11 [some (va_rf l0), none, some (va_rf l2), some (.int l3), some (.int l4)] [] g := by
    intro  f
    induction f with
    | zero => intro l0 l2 l3 l4 g hf; exact (show False from hf).elim
    | succ f ih =>
      intro l0 l2 l3 l4 g hf
      rw [w_X7_reachByDevices_l11] at hf
      refine gg_iload C dX7_reachByDevices_11 rfl ?_
      refine gg_aload_n C dX7_reachByDevices_13 rfl ?_
      refine gg_getR C dX7_reachByDevices_14 lk_X7_10 hf (fun r3 hf => ?_)
      refine gr_I (k' := 1) (n' := 6) (gk_V (ci := 10) (As := []) (rest := [.int l4]) C dX7_reachByDevices_17 rfl rfl tw_189 tw_190 tw_191 tw_28 tw_192 gd_Jx4a65c_size_8abf5 rfl ⟨by decide, by decide⟩ (by simp [gcat, gcI, gcL, gcF, gcD]) ⟨by decide, by decide⟩ hf (fun hf => m_Jx4a65c_size_8abf5 hfl hf)) rfl rfl (fun E g9 h9 => gx_out C (fun x hx => (ht x hx).elim) (by decide) (by decide) h9) (fun i5 g4 hf => ?_)
      refine gg_icmp_ge (tgt := 52) C dX7_reachByDevices_20 (by decide) hf (fun hf => ?_) (fun hf => ?_)
      · refine gg_iload_n C dX7_reachByDevices_52 rfl ?_
        exact gg_iret C hr (by decide) (by decide) dX7_reachByDevices_53 rfl hf
      · refine gg_aload_n C dX7_reachByDevices_23 rfl ?_
        refine gg_aload_n C dX7_reachByDevices_24 rfl ?_
        refine gg_aload_n C dX7_reachByDevices_25 rfl ?_
        refine gg_getR C dX7_reachByDevices_26 lk_X7_10 hf (fun r6 hf => ?_)
        refine gg_iload C dX7_reachByDevices_29 rfl ?_
        refine gr_R (k' := 1) (n' := 6) (gk_V (ci := 10) (As := [.int l4]) (rest := [va_rf l2, va_rf l0]) C dX7_reachByDevices_31 rfl rfl tw_288 tw_289 tw_290 tw_28 tw_291 gd_Jx4a65c_get_915e3 rfl ⟨by decide, by decide⟩ (by simp [gcat, gcI, gcL, gcF, gcD]) ⟨by decide, by decide⟩ hf (fun hf => m_Jx4a65c_get_915e3 hfl hf)) rfl rfl (fun E g9 h9 => gx_out C (fun x hx => (ht x hx).elim) (by decide) (by decide) h9) (fun r8 g7 hf => ?_)
        refine gg_ccast (ci := 2) C dX7_reachByDevices_34 rfl tw_526 hf (fun hf => ?_)
        refine gr_I (k' := 1) (n' := 6) (gk_V (ci := 7) (As := [va_rf l2, va_rf r8]) (rest := []) C dX7_reachByDevices_37 rfl rfl tw_681 tw_683 tw_13 tw_25 tw_684 gd_X7_isOpenTo rfl ⟨by decide, by decide⟩ (by simp [gcat, gcI, gcL, gcF, gcD]) ⟨by decide, by decide⟩ hf (fun hf => m_X7_isOpenTo hfl hf)) rfl rfl (fun E g9 h9 => gx_out C (fun x hx => (ht x hx).elim) (by decide) (by decide) h9) (fun i10 g9 hf => ?_)
        refine gg_if_eq (tgt := 46) C dX7_reachByDevices_40 (by decide) hf (fun hf => ?_) (fun hf => ?_)
        · exact hb_46 _ ih _ _ _ _ _ hf
        · refine gg_iinc (L' := [some (va_rf l0), none, some (va_rf l2), some (.int (l3 + 1)), some (.int l4)]) C dX7_reachByDevices_43 rfl (v := (l3 + 1)) rfl (Or.inr (Or.inr ⟨_, rfl, gcat _⟩)) (by decide) rfl ?_
          exact hb_46 _ ih _ _ _ _ _ hf
  unfold w_X7_reachByDevices at hf
  refine gg_aload_n C dX7_reachByDevices_0 rfl ?_
  refine gg_iload_n C dX7_reachByDevices_1 rfl ?_
  refine gr_R (k' := 1) (n' := 6) (gk_V (ci := 7) (As := [.int v1]) (rest := []) C dX7_reachByDevices_2 rfl rfl tw_209 tw_211 tw_0 tw_25 tw_212 gd_X7_knownBuild rfl ⟨by decide, by decide⟩ (by simp [gcat, gcI, gcL, gcF, gcD]) ⟨by decide, by decide⟩ hf (fun hf => m_X7_knownBuild hfl hf)) rfl rfl (fun E g9 h9 => gx_out C (fun x hx => (ht x hx).elim) (by decide) (by decide) h9) (fun r2 g1 hf => ?_)
  refine gg_astore_n (L' := [some (va_rf v0), some (.int v1), some (va_rf r2), none, none]) C dX7_reachByDevices_5 (Or.inr (Or.inr ⟨_, rfl, rfl⟩)) (by decide) rfl ?_
  refine gg_iconst C dX7_reachByDevices_6 (v := (0 : Int32)) (by decide) ?_
  refine gg_istore_n (L' := [some (va_rf v0), some (.int v1), some (va_rf r2), some (.int (0 : Int32)), none]) C dX7_reachByDevices_7 (Or.inr (Or.inr ⟨_, rfl, gcat _⟩)) (by decide) rfl ?_
  refine gg_iconst C dX7_reachByDevices_8 (v := (0 : Int32)) (by decide) ?_
  refine gg_istore (L' := [some (va_rf v0), some (.int v1), some (va_rf r2), some (.int (0 : Int32)), some (.int (0 : Int32))]) C dX7_reachByDevices_9 (Or.inr (Or.inr ⟨_, rfl, rfl⟩)) (by decide) rfl ?_
  exact gg_sub (L' := [some (va_rf v0), none, some (va_rf r2), some (.int (0 : Int32)), some (.int (0 : Int32))]) (by first | exact ⟨rfl, ⟨rfl, ⟨rfl, ⟨rfl, trivial⟩⟩⟩⟩ | simp [gsub]) (hb_11 _ _ _ _ _ _ hf)
