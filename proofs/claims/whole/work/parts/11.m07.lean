def w_X8_nextInReview_b31 (X : Cx) (post : Int32 → GM → Prop) (px : String → GM → Prop)  (t0 : Int32) (g : GM) : Prop :=
  post t0 g
def w_X8_nextInReview_b16 (X : Cx) (post : Int32 → GM → Prop) (px : String → GM → Prop)  (l0 : Option Nat) (l1 : Int32) (t0 : Int32) (t1 : Option Nat) (g : GM) : Prop :=
  wPut g t1 8 36 (.int t0) (fun g3 => wGetI g3 l0 8 36 (fun (i4 : Int32) => (if i4 ≤ 0 then w_X8_nextInReview_b31 X post px l1 g3 else w_X8_nextInReview_b31 X post px (0 : Int32) g3)))
def w_X8_nextInReview (X : Cx) (post : Int32 → GM → Prop) (px : String → GM → Prop) (v0 : Option Nat) (g : GM) : Prop :=
  wIs g v0 8 (w_X8_next X (fun (i2 : Int32) (g1 : GM) => (if i2 = (-1 : Int32) then w_X8_nextInReview_b16 X post px v0 i2 (1 : Int32) v0 g1 else w_X8_nextInReview_b16 X post px v0 i2 (0 : Int32) v0 g1)) px v0 g)
abbrev rm_X8_nextInReview : Room := { frames := 1, cells := 0, slots := 0, locals := 24 }
set_option maxHeartbeats 4000000 in
set_option maxRecDepth 100000 in
theorem m_X8_nextInReview {X : Cx} {l : Launch} (hfl : l.stackTraces = false) {post : Int32 → GM → Prop} {px : String → GM → Prop} {v0 : Option Nat} {g : GM} (hf : w_X8_nextInReview X post px v0 g) : gMet X l yX8_nextInReview cX8_nextInReview 2 (some .int) rm_X8_nextInReview [va_rf v0] g (qI X post) px := by
  refine gg_enter (L := [some (va_rf v0), none]) hfl (by decide +kernel) (by simp [lg_sl, gcat, gcI, gcL, gcF, gcD]) (by simp [gll, lv_args, gcat, gcI, gcL, gcF, gcD]) ?_
  intro p e s m args below meth c C hr ht hm
  have C : FC X p l s m args meth c cX8_nextInReview 2 "ReleasetrainModel" := C
  have hb_31 : ∀ (t0 : Int32) (g : GM), w_X8_nextInReview_b31 X post px  t0 g → GG X p l e rm_X8_nextInReview s m args below meth c 2 (vx_MQ below (qI X post) (gXC X px) args s rm_X8_nextInReview.cells rm_X8_nextInReview.slots (gA X)) 0 0 31 [none, none] [.int t0] g := by
    intro  t0 g hf
    unfold w_X8_nextInReview_b31 at hf
    exact gg_iret C hr (by decide) (by decide) dX8_nextInReview_31 rfl hf
  have hb_16 : ∀ (l0 : Option Nat) (l1 : Int32) (t0 : Int32) (t1 : Option Nat) (g : GM), w_X8_nextInReview_b16 X post px  l0 l1 t0 t1 g → GG X p l e rm_X8_nextInReview s m args below meth c 2 (vx_MQ below (qI X post) (gXC X px) args s rm_X8_nextInReview.cells rm_X8_nextInReview.slots (gA X)) 0 0 16 [some (va_rf l0), some (.int l1)] [.int t0, va_rf t1] g := by
    intro  l0 l1 t0 t1 g hf
    unfold w_X8_nextInReview_b16 at hf
    refine gg_put C dX8_nextInReview_16 pk_X8_110 (gNar_int _) hf (fun g3 hf => ?_)
    refine gg_aload_n C dX8_nextInReview_19 rfl ?_
    refine gg_getI C dX8_nextInReview_20 lk_X8_110 hf (fun i4 hf => ?_)
    refine gg_if_le (tgt := 30) C dX8_nextInReview_23 (by decide) hf (fun hf => ?_) (fun hf => ?_)
    · refine gg_iload_n C dX8_nextInReview_30 rfl ?_
      exact gg_sub (L' := [none, none]) (by first | exact trivial | simp [gsub]) (hb_31 _ _ hf)
    · refine gg_iconst C dX8_nextInReview_26 (v := (0 : Int32)) (by decide) ?_
      refine gg_goto (tgt := 31) C dX8_nextInReview_27 (by decide) ?_
      exact gg_sub (L' := [none, none]) (by first | exact trivial | simp [gsub]) (hb_31 _ _ hf)
  unfold w_X8_nextInReview at hf
  refine gg_aload_n C dX8_nextInReview_0 rfl ?_
  refine gr_I (k' := 0) (n' := 0) (gk_V (ci := 8) (As := []) (rest := []) C dX8_nextInReview_1 rfl rfl tw_1619 tw_1621 tw_29 tw_56 tw_1622 gd_X8_next rfl ⟨by decide, by decide⟩ (by simp [gcat, gcI, gcL, gcF, gcD]) ⟨by decide, by decide⟩ hf (fun hf => m_X8_next hfl hf)) rfl rfl (fun E g9 h9 => gx_out C (fun x hx => (ht x hx).elim) (by decide) (by decide) h9) (fun i2 g1 hf => ?_)
  refine gg_istore_n (L' := [some (va_rf v0), some (.int i2)]) C dX8_nextInReview_4 (Or.inr (Or.inr ⟨_, rfl, gcat _⟩)) (by decide) rfl ?_
  refine gg_aload_n C dX8_nextInReview_5 rfl ?_
  refine gg_iload_n C dX8_nextInReview_6 rfl ?_
  refine gg_iconst C dX8_nextInReview_7 (v := (-1 : Int32)) (by decide) ?_
  refine gg_icmp_ne (tgt := 15) C dX8_nextInReview_8 (by decide) hf (fun hf => ?_) (fun hf => ?_)
  · refine gg_iconst C dX8_nextInReview_15 (v := (0 : Int32)) (by decide) ?_
    exact hb_16 _ _ _ _ _ hf
  · refine gg_iconst C dX8_nextInReview_11 (v := (1 : Int32)) (by decide) ?_
    refine gg_goto (tgt := 16) C dX8_nextInReview_12 (by decide) ?_
    exact hb_16 _ _ _ _ _ hf

def w_X8_barredBy_b39 (X : Cx) (post : Int32 → GM → Prop) (px : String → GM → Prop)  (t0 : Int32) (g : GM) : Prop :=
  (narrow .char (.int t0) = .int t0 ∧ post t0 g)
def w_X8_barredBy (X : Cx) (post : Int32 → GM → Prop) (px : String → GM → Prop) (v0 : Option Nat) (v1 : Int32) (g : GM) : Prop :=
  wGetR g v0 8 10 (fun (r1 : Option Nat) => wAld g r1 v1 0 (fun (i2 : Int32) => wGetI g v0 8 23 (fun (i3 : Int32) => (if i2 ≤ i3 then wGetR g v0 8 11 (fun (r4 : Option Nat) => wAld g r4 v1 0 (fun (i5 : Int32) => wGetI g v0 8 24 (fun (i6 : Int32) => (if (i5 &&& i6) = 0 then w_X8_barredBy_b39 X post px (45 : Int32) g else w_X8_barredBy_b39 X post px (112 : Int32) g)))) else w_X8_barredBy_b39 X post px (115 : Int32) g))))
abbrev rm_X8_barredBy : Room := { frames := 0, cells := 0, slots := 0, locals := 0 }
set_option maxHeartbeats 4000000 in
set_option maxRecDepth 100000 in
theorem m_X8_barredBy {X : Cx} {l : Launch} (hfl : l.stackTraces = false) {post : Int32 → GM → Prop} {px : String → GM → Prop} {v0 : Option Nat} {v1 : Int32} {g : GM} (hf : w_X8_barredBy X post px v0 v1 g) : gMet X l yX8_barredBy cX8_barredBy 2 (some .char) rm_X8_barredBy [va_rf v0, .int v1] g (qI X post) px := by
  refine gg_enter (L := [some (va_rf v0), some (.int v1)]) hfl (by decide +kernel) (by simp [lg_sl, gcat, gcI, gcL, gcF, gcD]) (by simp [gll, lv_args, gcat, gcI, gcL, gcF, gcD]) ?_
  intro p e s m args below meth c C hr ht hm
  have C : FC X p l s m args meth c cX8_barredBy 2 "ReleasetrainModel" := C
  have hb_39 : ∀ (t0 : Int32) (g : GM), w_X8_barredBy_b39 X post px  t0 g → GG X p l e rm_X8_barredBy s m args below meth c 2 (vx_MQ below (qI X post) (gXC X px) args s rm_X8_barredBy.cells rm_X8_barredBy.slots (gA X)) 0 0 39 [none, none] [.int t0] g := by
    intro  t0 g hf
    unfold w_X8_barredBy_b39 at hf
    exact gg_iret C hr (by decide) (by decide) dX8_barredBy_39 hf.1 hf.2
  unfold w_X8_barredBy at hf
  refine gg_aload_n C dX8_barredBy_0 rfl ?_
  refine gg_getR C dX8_barredBy_1 lk_X8_39 hf (fun r1 hf => ?_)
  refine gg_iload_n C dX8_barredBy_4 rfl ?_
  refine gg_iald C dX8_barredBy_5 hf (fun i2 hf => ?_)
  refine gg_aload_n C dX8_barredBy_6 rfl ?_
  refine gg_getI C dX8_barredBy_7 lk_X8_74 hf (fun i3 hf => ?_)
  refine gg_icmp_le (tgt := 18) C dX8_barredBy_10 (by decide) hf (fun hf => ?_) (fun hf => ?_)
  · refine gg_aload_n C dX8_barredBy_18 rfl ?_
    refine gg_getR C dX8_barredBy_19 lk_X8_42 hf (fun r4 hf => ?_)
    refine gg_iload_n C dX8_barredBy_22 rfl ?_
    refine gg_iald C dX8_barredBy_23 hf (fun i5 hf => ?_)
    refine gg_aload_n C dX8_barredBy_24 rfl ?_
    refine gg_getI C dX8_barredBy_25 lk_X8_154 hf (fun i6 hf => ?_)
    refine gg_iand C dX8_barredBy_28 ?_
    refine gg_if_eq (tgt := 37) C dX8_barredBy_29 (by decide) hf (fun hf => ?_) (fun hf => ?_)
    · refine gg_bipush C dX8_barredBy_37 (v := (45 : Int32)) (by decide) ?_
      exact gg_sub (L' := [none, none]) (by first | exact trivial | simp [gsub]) (hb_39 _ _ hf)
    · refine gg_bipush C dX8_barredBy_32 (v := (112 : Int32)) (by decide) ?_
      refine gg_goto (tgt := 39) C dX8_barredBy_34 (by decide) ?_
      exact gg_sub (L' := [none, none]) (by first | exact trivial | simp [gsub]) (hb_39 _ _ hf)
  · refine gg_bipush C dX8_barredBy_13 (v := (115 : Int32)) (by decide) ?_
    refine gg_goto (tgt := 39) C dX8_barredBy_15 (by decide) ?_
    exact gg_sub (L' := [none, none]) (by first | exact trivial | simp [gsub]) (hb_39 _ _ hf)

def w_X8_review_b53 (X : Cx) (post : Int32 → GM → Prop) (px : String → GM → Prop)  (l2 : Int32) (t0 : Int32) (t1 : Int32) (t2 : Option Nat) (g : GM) : Prop :=
  wAst g t2 t1 1 (vp_nar .char t0) (fun g8 => (narrow .char (.int l2) = .int l2 ∧ post l2 g8))
def w_X8_review_b16 (X : Cx) (post : Int32 → GM → Prop) (px : String → GM → Prop)  (l0 : Option Nat) (l1 : Int32) (t0 : Int32) (t1 : Option Nat) (g : GM) : Prop :=
  wPut g t1 8 36 (.int t0) (fun g3 => wGetI g3 l0 8 36 (fun (i4 : Int32) => (if i4 ≤ 0 then wIs g3 l0 8 (w_X8_barredBy X (fun (i6 : Int32) (g5 : GM) => wGetR g5 l0 8 14 (fun (r7 : Option Nat) => (if i6 = (45 : Int32) then w_X8_review_b53 X post px i6 (97 : Int32) l1 r7 g5 else w_X8_review_b53 X post px i6 (114 : Int32) l1 r7 g5))) px l0 l1 g3) else post (32 : Int32) g3)))
def w_X8_review (X : Cx) (post : Int32 → GM → Prop) (px : String → GM → Prop) (v0 : Option Nat) (g : GM) : Prop :=
  wIs g v0 8 (w_X8_next X (fun (i2 : Int32) (g1 : GM) => (if i2 = (-1 : Int32) then w_X8_review_b16 X post px v0 i2 (1 : Int32) v0 g1 else w_X8_review_b16 X post px v0 i2 (0 : Int32) v0 g1)) px v0 g)
abbrev rm_X8_review : Room := { frames := 1, cells := 0, slots := 0, locals := 24 }
set_option maxHeartbeats 4000000 in
set_option maxRecDepth 100000 in
theorem m_X8_review {X : Cx} {l : Launch} (hfl : l.stackTraces = false) {post : Int32 → GM → Prop} {px : String → GM → Prop} {v0 : Option Nat} {g : GM} (hf : w_X8_review X post px v0 g) : gMet X l yX8_review cX8_review 3 (some .char) rm_X8_review [va_rf v0] g (qI X post) px := by
  refine gg_enter (L := [some (va_rf v0), none, none]) hfl (by decide +kernel) (by simp [lg_sl, gcat, gcI, gcL, gcF, gcD]) (by simp [gll, lv_args, gcat, gcI, gcL, gcF, gcD]) ?_
  intro p e s m args below meth c C hr ht hm
  have C : FC X p l s m args meth c cX8_review 3 "ReleasetrainModel" := C
  have hb_53 : ∀ (l2 : Int32) (t0 : Int32) (t1 : Int32) (t2 : Option Nat) (g : GM), w_X8_review_b53 X post px  l2 t0 t1 t2 g → GG X p l e rm_X8_review s m args below meth c 3 (vx_MQ below (qI X post) (gXC X px) args s rm_X8_review.cells rm_X8_review.slots (gA X)) 0 0 53 [none, none, some (.int l2)] [.int t0, .int t1, va_rf t2] g := by
    intro  l2 t0 t1 t2 g hf
    unfold w_X8_review_b53 at hf
    refine gg_cast C dX8_review_53 hf (fun g8 hf => ?_)
    refine gg_iload_n C dX8_review_54 rfl ?_
    exact gg_iret C hr (by decide) (by decide) dX8_review_55 hf.1 hf.2
  have hb_16 : ∀ (l0 : Option Nat) (l1 : Int32) (t0 : Int32) (t1 : Option Nat) (g : GM), w_X8_review_b16 X post px  l0 l1 t0 t1 g → GG X p l e rm_X8_review s m args below meth c 3 (vx_MQ below (qI X post) (gXC X px) args s rm_X8_review.cells rm_X8_review.slots (gA X)) 0 0 16 [some (va_rf l0), some (.int l1), none] [.int t0, va_rf t1] g := by
    intro  l0 l1 t0 t1 g hf
    unfold w_X8_review_b16 at hf
    refine gg_put C dX8_review_16 pk_X8_110 (gNar_int _) hf (fun g3 hf => ?_)
    refine gg_aload_n C dX8_review_19 rfl ?_
    refine gg_getI C dX8_review_20 lk_X8_110 hf (fun i4 hf => ?_)
    refine gg_if_le (tgt := 29) C dX8_review_23 (by decide) hf (fun hf => ?_) (fun hf => ?_)
    · refine gg_aload_n C dX8_review_29 rfl ?_
      refine gg_iload_n C dX8_review_30 rfl ?_
      refine gr_I (k' := 0) (n' := 0) (gk_V (ci := 8) (As := [.int l1]) (rest := []) C dX8_review_31 rfl rfl tw_1627 tw_1629 tw_30 tw_56 tw_1630 gd_X8_barredBy rfl ⟨by decide, by decide⟩ (by simp [gcat, gcI, gcL, gcF, gcD]) ⟨by decide, by decide⟩ hf (fun hf => m_X8_barredBy hfl hf)) rfl rfl (fun E g9 h9 => gx_out C (fun x hx => (ht x hx).elim) (by decide) (by decide) h9) (fun i6 g5 hf => ?_)
      refine gg_istore_n (L' := [some (va_rf l0), some (.int l1), some (.int i6)]) C dX8_review_34 (Or.inr (Or.inr ⟨_, rfl, rfl⟩)) (by decide) rfl ?_
      refine gg_aload_n C dX8_review_35 rfl ?_
      refine gg_getR C dX8_review_36 lk_X8_51 hf (fun r7 hf => ?_)
      refine gg_iload_n C dX8_review_39 rfl ?_
      refine gg_iload_n C dX8_review_40 rfl ?_
      refine gg_bipush C dX8_review_41 (v := (45 : Int32)) (by decide) ?_
      refine gg_icmp_ne (tgt := 51) C dX8_review_43 (by decide) hf (fun hf => ?_) (fun hf => ?_)
      · refine gg_bipush C dX8_review_51 (v := (114 : Int32)) (by decide) ?_
        exact gg_sub (L' := [none, none, some (.int i6)]) (by first | exact ⟨rfl, trivial⟩ | simp [gsub]) (hb_53 _ _ _ _ _ hf)
      · refine gg_bipush C dX8_review_46 (v := (97 : Int32)) (by decide) ?_
        refine gg_goto (tgt := 53) C dX8_review_48 (by decide) ?_
        exact gg_sub (L' := [none, none, some (.int i6)]) (by first | exact ⟨rfl, trivial⟩ | simp [gsub]) (hb_53 _ _ _ _ _ hf)
    · refine gg_bipush C dX8_review_26 (v := (32 : Int32)) (by decide) ?_
      exact gg_iret C hr (by decide) (by decide) dX8_review_28 rfl hf
  unfold w_X8_review at hf
  refine gg_aload_n C dX8_review_0 rfl ?_
  refine gr_I (k' := 0) (n' := 0) (gk_V (ci := 8) (As := []) (rest := []) C dX8_review_1 rfl rfl tw_1619 tw_1621 tw_29 tw_56 tw_1622 gd_X8_next rfl ⟨by decide, by decide⟩ (by simp [gcat, gcI, gcL, gcF, gcD]) ⟨by decide, by decide⟩ hf (fun hf => m_X8_next hfl hf)) rfl rfl (fun E g9 h9 => gx_out C (fun x hx => (ht x hx).elim) (by decide) (by decide) h9) (fun i2 g1 hf => ?_)
  refine gg_istore_n (L' := [some (va_rf v0), some (.int i2), none]) C dX8_review_4 (Or.inr (Or.inr ⟨_, rfl, gcat _⟩)) (by decide) rfl ?_
  refine gg_aload_n C dX8_review_5 rfl ?_
  refine gg_iload_n C dX8_review_6 rfl ?_
  refine gg_iconst C dX8_review_7 (v := (-1 : Int32)) (by decide) ?_
  refine gg_icmp_ne (tgt := 15) C dX8_review_8 (by decide) hf (fun hf => ?_) (fun hf => ?_)
  · refine gg_iconst C dX8_review_15 (v := (0 : Int32)) (by decide) ?_
    exact hb_16 _ _ _ _ _ hf
  · refine gg_iconst C dX8_review_11 (v := (1 : Int32)) (by decide) ?_
    refine gg_goto (tgt := 16) C dX8_review_12 (by decide) ?_
    exact hb_16 _ _ _ _ _ hf

def w_X8_appeal_b36 (X : Cx) (post : Int32 → GM → Prop) (px : String → GM → Prop)  (l0 : Option Nat) (l1 : Int32) (t0 : Int32) (t1 : Option Nat) (g : GM) : Prop :=
  wPut g t1 8 36 (.int t0) (fun g5 => wGetI g5 l0 8 36 (fun (i6 : Int32) => (if i6 ≤ 0 then wGetR g5 l0 8 16 (fun (r7 : Option Nat) => wAst g5 r7 l1 3 (vp_nar .boolean (1 : Int32)) (fun g8 => wIs g8 l0 8 (w_X8_waits X (fun (i10 : Int32) (g9 : GM) => post i10 g9) px l0 l1 g8))) else post (0 : Int32) g5)))
def w_X8_appeal_b31 (X : Cx) (post : Int32 → GM → Prop) (px : String → GM → Prop)  (l0 : Option Nat) (l1 : Int32) (t0 : Option Nat) (g : GM) : Prop :=
  w_X8_appeal_b36 X post px l0 l1 (2 : Int32) t0 g
def w_X8_appeal (X : Cx) (post : Int32 → GM → Prop) (px : String → GM → Prop) (v0 : Option Nat) (v1 : Int32) (g : GM) : Prop :=
  wIs g v0 8 (w_X8_noBuild X (fun (i2 : Int32) (g1 : GM) => (if i2 = 0 then wGetR g1 v0 8 14 (fun (r3 : Option Nat) => wAld g1 r3 v1 1 (fun (i4 : Int32) => (if i4 = (114 : Int32) then wGetR g1 v0 8 16 (fun (r11 : Option Nat) => wAld g1 r11 v1 3 (fun (i12 : Int32) => (if i12 = 0 then w_X8_appeal_b36 X post px v0 v1 (0 : Int32) v0 g1 else w_X8_appeal_b31 X post px v0 v1 v0 g1))) else w_X8_appeal_b31 X post px v0 v1 v0 g1))) else post (0 : Int32) g1)) px v0 v1 g)
abbrev rm_X8_appeal : Room := { frames := 3, cells := 0, slots := 0, locals := 64 }
set_option maxHeartbeats 4000000 in
set_option maxRecDepth 100000 in
theorem m_X8_appeal {X : Cx} {l : Launch} (hfl : l.stackTraces = false) {post : Int32 → GM → Prop} {px : String → GM → Prop} {v0 : Option Nat} {v1 : Int32} {g : GM} (hf : w_X8_appeal X post px v0 v1 g) : gMet X l yX8_appeal cX8_appeal 2 (some .int) rm_X8_appeal [va_rf v0, .int v1] g (qI X post) px := by
  refine gg_enter (L := [some (va_rf v0), some (.int v1)]) hfl (by decide +kernel) (by simp [lg_sl, gcat, gcI, gcL, gcF, gcD]) (by simp [gll, lv_args, gcat, gcI, gcL, gcF, gcD]) ?_
  intro p e s m args below meth c C hr ht hm
  have C : FC X p l s m args meth c cX8_appeal 2 "ReleasetrainModel" := C
  have hb_36 : ∀ (l0 : Option Nat) (l1 : Int32) (t0 : Int32) (t1 : Option Nat) (g : GM), w_X8_appeal_b36 X post px  l0 l1 t0 t1 g → GG X p l e rm_X8_appeal s m args below meth c 2 (vx_MQ below (qI X post) (gXC X px) args s rm_X8_appeal.cells rm_X8_appeal.slots (gA X)) 0 0 36 [some (va_rf l0), some (.int l1)] [.int t0, va_rf t1] g := by
    intro  l0 l1 t0 t1 g hf
    unfold w_X8_appeal_b36 at hf
    refine gg_put C dX8_appeal_36 pk_X8_110 (gNar_int _) hf (fun g5 hf => ?_)
    refine gg_aload_n C dX8_appeal_39 rfl ?_
    refine gg_getI C dX8_appeal_40 lk_X8_110 hf (fun i6 hf => ?_)
    refine gg_if_le (tgt := 48) C dX8_appeal_43 (by decide) hf (fun hf => ?_) (fun hf => ?_)
    · refine gg_aload_n C dX8_appeal_48 rfl ?_
      refine gg_getR C dX8_appeal_49 lk_X8_58 hf (fun r7 hf => ?_)
      refine gg_iload_n C dX8_appeal_52 rfl ?_
      refine gg_iconst C dX8_appeal_53 (v := (1 : Int32)) (by decide) ?_
      refine gg_zast C dX8_appeal_54 hf (fun g8 hf => ?_)
      refine gg_aload_n C dX8_appeal_55 rfl ?_
      refine gg_iload_n C dX8_appeal_56 rfl ?_
      refine gr_I (k' := 0) (n' := 0) (gk_V (ci := 8) (As := [.int l1]) (rest := []) C dX8_appeal_57 rfl rfl tw_1611 tw_1613 tw_28 tw_56 tw_1614 gd_X8_waits rfl ⟨by decide, by decide⟩ (by simp [gcat, gcI, gcL, gcF, gcD]) ⟨by decide, by decide⟩ hf (fun hf => m_X8_waits hfl hf)) rfl rfl (fun E g9 h9 => gx_out C (fun x hx => (ht x hx).elim) (by decide) (by decide) h9) (fun i10 g9 hf => ?_)
      exact gg_iret C hr (by decide) (by decide) dX8_appeal_60 rfl hf
    · refine gg_iconst C dX8_appeal_46 (v := (0 : Int32)) (by decide) ?_
      exact gg_iret C hr (by decide) (by decide) dX8_appeal_47 rfl hf
  have hb_31 : ∀ (l0 : Option Nat) (l1 : Int32) (t0 : Option Nat) (g : GM), w_X8_appeal_b31 X post px  l0 l1 t0 g → GG X p l e rm_X8_appeal s m args below meth c 2 (vx_MQ below (qI X post) (gXC X px) args s rm_X8_appeal.cells rm_X8_appeal.slots (gA X)) 0 0 31 [some (va_rf l0), some (.int l1)] [va_rf t0] g := by
    intro  l0 l1 t0 g hf
    unfold w_X8_appeal_b31 at hf
    refine gg_iconst C dX8_appeal_31 (v := (2 : Int32)) (by decide) ?_
    refine gg_goto (tgt := 36) C dX8_appeal_32 (by decide) ?_
    exact hb_36 _ _ _ _ _ hf
  unfold w_X8_appeal at hf
  refine gg_aload_n C dX8_appeal_0 rfl ?_
  refine gg_iload_n C dX8_appeal_1 rfl ?_
  refine gr_I (k' := 0) (n' := 0) (gk_V (ci := 8) (As := [.int v1]) (rest := []) C dX8_appeal_2 rfl rfl tw_1599 tw_1601 tw_26 tw_56 tw_1602 gd_X8_noBuild rfl ⟨by decide, by decide⟩ (by simp [gcat, gcI, gcL, gcF, gcD]) ⟨by decide, by decide⟩ hf (fun hf => m_X8_noBuild hfl hf)) rfl rfl (fun E g9 h9 => gx_out C (fun x hx => (ht x hx).elim) (by decide) (by decide) h9) (fun i2 g1 hf => ?_)
  refine gg_if_eq (tgt := 10) C dX8_appeal_5 (by decide) hf (fun hf => ?_) (fun hf => ?_)
  · refine gg_aload_n C dX8_appeal_10 rfl ?_
    refine gg_aload_n C dX8_appeal_11 rfl ?_
    refine gg_getR C dX8_appeal_12 lk_X8_51 hf (fun r3 hf => ?_)
    refine gg_iload_n C dX8_appeal_15 rfl ?_
    refine gg_cald C dX8_appeal_16 hf (fun i4 hf => ?_)
    refine gg_bipush C dX8_appeal_17 (v := (114 : Int32)) (by decide) ?_
    refine gg_icmp_ne (tgt := 31) C dX8_appeal_19 (by decide) hf (fun hf => ?_) (fun hf => ?_)
    · exact hb_31 _ _ _ _ hf
    · refine gg_aload_n C dX8_appeal_22 rfl ?_
      refine gg_getR C dX8_appeal_23 lk_X8_58 hf (fun r11 hf => ?_)
      refine gg_iload_n C dX8_appeal_26 rfl ?_
      refine gg_zald C dX8_appeal_27 hf (fun i12 hf => ?_)
      refine gg_if_eq (tgt := 35) C dX8_appeal_28 (by decide) hf (fun hf => ?_) (fun hf => ?_)
      · refine gg_iconst C dX8_appeal_35 (v := (0 : Int32)) (by decide) ?_
        exact hb_36 _ _ _ _ _ hf
      · exact hb_31 _ _ _ _ hf
  · refine gg_iconst C dX8_appeal_8 (v := (0 : Int32)) (by decide) ?_
    exact gg_iret C hr (by decide) (by decide) dX8_appeal_9 rfl hf

def w_X8_setSize_b17 (X : Cx) (post : Int32 → GM → Prop) (px : String → GM → Prop)  (l0 : Option Nat) (l1 : Int32) (t0 : Int32) (t1 : Option Nat) (g : GM) : Prop :=
  wPut g t1 8 36 (.int t0) (fun g3 => wGetI g3 l0 8 36 (fun (i4 : Int32) => (if i4 ≤ 0 then wGetI g3 l0 8 23 (fun (i5 : Int32) => wPut g3 l0 8 23 (.int l1) (fun g6 => post i5 g6)) else post (0 : Int32) g3)))
def w_X8_setSize (X : Cx) (post : Int32 → GM → Prop) (px : String → GM → Prop) (v0 : Option Nat) (v1 : Int32) (g : GM) : Prop :=
  w_X8_in X (fun (i2 : Int32) (g1 : GM) => (if i2 = 0 then w_X8_setSize_b17 X post px v0 v1 (1 : Int32) v0 g1 else w_X8_setSize_b17 X post px v0 v1 (0 : Int32) v0 g1)) px v1 (1 : Int32) (500 : Int32) g
abbrev rm_X8_setSize : Room := { frames := 1, cells := 0, slots := 0, locals := 22 }
set_option maxHeartbeats 4000000 in
set_option maxRecDepth 100000 in
theorem m_X8_setSize {X : Cx} {l : Launch} (hfl : l.stackTraces = false) {post : Int32 → GM → Prop} {px : String → GM → Prop} {v0 : Option Nat} {v1 : Int32} {g : GM} (hf : w_X8_setSize X post px v0 v1 g) : gMet X l yX8_setSize cX8_setSize 3 (some .int) rm_X8_setSize [va_rf v0, .int v1] g (qI X post) px := by
  refine gg_enter (L := [some (va_rf v0), some (.int v1), none]) hfl (by decide +kernel) (by simp [lg_sl, gcat, gcI, gcL, gcF, gcD]) (by simp [gll, lv_args, gcat, gcI, gcL, gcF, gcD]) ?_
  intro p e s m args below meth c C hr ht hm
  have C : FC X p l s m args meth c cX8_setSize 3 "ReleasetrainModel" := C
  have hb_17 : ∀ (l0 : Option Nat) (l1 : Int32) (t0 : Int32) (t1 : Option Nat) (g : GM), w_X8_setSize_b17 X post px  l0 l1 t0 t1 g → GG X p l e rm_X8_setSize s m args below meth c 3 (vx_MQ below (qI X post) (gXC X px) args s rm_X8_setSize.cells rm_X8_setSize.slots (gA X)) 0 0 17 [some (va_rf l0), some (.int l1), none] [.int t0, va_rf t1] g := by
    intro  l0 l1 t0 t1 g hf
    unfold w_X8_setSize_b17 at hf
    refine gg_put C dX8_setSize_17 pk_X8_110 (gNar_int _) hf (fun g3 hf => ?_)
    refine gg_aload_n C dX8_setSize_20 rfl ?_
    refine gg_getI C dX8_setSize_21 lk_X8_110 hf (fun i4 hf => ?_)
    refine gg_if_le (tgt := 29) C dX8_setSize_24 (by decide) hf (fun hf => ?_) (fun hf => ?_)
    · refine gg_aload_n C dX8_setSize_29 rfl ?_
      refine gg_getI C dX8_setSize_30 lk_X8_74 hf (fun i5 hf => ?_)
      refine gg_istore_n (L' := [some (va_rf l0), some (.int l1), some (.int i5)]) C dX8_setSize_33 (Or.inr (Or.inr ⟨_, rfl, rfl⟩)) (by decide) rfl ?_
      refine gg_aload_n C dX8_setSize_34 rfl ?_
      refine gg_iload_n C dX8_setSize_35 rfl ?_
      refine gg_put C dX8_setSize_36 pk_X8_74 (gNar_int _) hf (fun g6 hf => ?_)
      refine gg_iload_n C dX8_setSize_39 rfl ?_
      exact gg_iret C hr (by decide) (by decide) dX8_setSize_40 rfl hf
    · refine gg_iconst C dX8_setSize_27 (v := (0 : Int32)) (by decide) ?_
      exact gg_iret C hr (by decide) (by decide) dX8_setSize_28 rfl hf
  unfold w_X8_setSize at hf
  refine gg_aload_n C dX8_setSize_0 rfl ?_
  refine gg_iload_n C dX8_setSize_1 rfl ?_
  refine gg_iconst C dX8_setSize_2 (v := (1 : Int32)) (by decide) ?_
  refine gg_sipush C dX8_setSize_3 (v := (500 : Int32)) (by decide) ?_
  refine gr_I (k' := 0) (n' := 0) (gk_S (As := [.int v1, .int (1 : Int32), .int (500 : Int32)]) (rest := [va_rf v0]) C dX8_setSize_6 tw_1580 tw_1581 tw_56 tw_1582 gd_X8_in rfl ⟨by decide, by decide⟩ (by simp [gcat, gcI, gcL, gcF, gcD]) ⟨by decide, by decide⟩ (m_X8_in hfl hf)) rfl rfl (fun E g9 h9 => gx_out C (fun x hx => (ht x hx).elim) (by decide) (by decide) h9) (fun i2 g1 hf => ?_)
  refine gg_if_eq (tgt := 16) C dX8_setSize_9 (by decide) hf (fun hf => ?_) (fun hf => ?_)
  · refine gg_iconst C dX8_setSize_16 (v := (1 : Int32)) (by decide) ?_
    exact hb_17 _ _ _ _ _ hf
  · refine gg_iconst C dX8_setSize_12 (v := (0 : Int32)) (by decide) ?_
    refine gg_goto (tgt := 17) C dX8_setSize_13 (by decide) ?_
    exact hb_17 _ _ _ _ _ hf

def w_X8_setBarred_b16 (X : Cx) (post : Int32 → GM → Prop) (px : String → GM → Prop)  (l0 : Option Nat) (l1 : Int32) (t0 : Int32) (t1 : Option Nat) (g : GM) : Prop :=
  wPut g t1 8 36 (.int t0) (fun g3 => wGetI g3 l0 8 36 (fun (i4 : Int32) => (if i4 ≤ 0 then wGetI g3 l0 8 24 (fun (i5 : Int32) => wPut g3 l0 8 24 (.int l1) (fun g6 => post i5 g6)) else post (0 : Int32) g3)))
def w_X8_setBarred (X : Cx) (post : Int32 → GM → Prop) (px : String → GM → Prop) (v0 : Option Nat) (v1 : Int32) (g : GM) : Prop :=
  w_X8_in X (fun (i2 : Int32) (g1 : GM) => (if i2 = 0 then w_X8_setBarred_b16 X post px v0 v1 (1 : Int32) v0 g1 else w_X8_setBarred_b16 X post px v0 v1 (0 : Int32) v0 g1)) px v1 (0 : Int32) (15 : Int32) g
abbrev rm_X8_setBarred : Room := { frames := 1, cells := 0, slots := 0, locals := 22 }
set_option maxHeartbeats 4000000 in
set_option maxRecDepth 100000 in
theorem m_X8_setBarred {X : Cx} {l : Launch} (hfl : l.stackTraces = false) {post : Int32 → GM → Prop} {px : String → GM → Prop} {v0 : Option Nat} {v1 : Int32} {g : GM} (hf : w_X8_setBarred X post px v0 v1 g) : gMet X l yX8_setBarred cX8_setBarred 3 (some .int) rm_X8_setBarred [va_rf v0, .int v1] g (qI X post) px := by
  refine gg_enter (L := [some (va_rf v0), some (.int v1), none]) hfl (by decide +kernel) (by simp [lg_sl, gcat, gcI, gcL, gcF, gcD]) (by simp [gll, lv_args, gcat, gcI, gcL, gcF, gcD]) ?_
  intro p e s m args below meth c C hr ht hm
  have C : FC X p l s m args meth c cX8_setBarred 3 "ReleasetrainModel" := C
  have hb_16 : ∀ (l0 : Option Nat) (l1 : Int32) (t0 : Int32) (t1 : Option Nat) (g : GM), w_X8_setBarred_b16 X post px  l0 l1 t0 t1 g → GG X p l e rm_X8_setBarred s m args below meth c 3 (vx_MQ below (qI X post) (gXC X px) args s rm_X8_setBarred.cells rm_X8_setBarred.slots (gA X)) 0 0 16 [some (va_rf l0), some (.int l1), none] [.int t0, va_rf t1] g := by
    intro  l0 l1 t0 t1 g hf
    unfold w_X8_setBarred_b16 at hf
    refine gg_put C dX8_setBarred_16 pk_X8_110 (gNar_int _) hf (fun g3 hf => ?_)
    refine gg_aload_n C dX8_setBarred_19 rfl ?_
    refine gg_getI C dX8_setBarred_20 lk_X8_110 hf (fun i4 hf => ?_)
    refine gg_if_le (tgt := 28) C dX8_setBarred_23 (by decide) hf (fun hf => ?_) (fun hf => ?_)
    · refine gg_aload_n C dX8_setBarred_28 rfl ?_
      refine gg_getI C dX8_setBarred_29 lk_X8_154 hf (fun i5 hf => ?_)
      refine gg_istore_n (L' := [some (va_rf l0), some (.int l1), some (.int i5)]) C dX8_setBarred_32 (Or.inr (Or.inr ⟨_, rfl, rfl⟩)) (by decide) rfl ?_
      refine gg_aload_n C dX8_setBarred_33 rfl ?_
      refine gg_iload_n C dX8_setBarred_34 rfl ?_
      refine gg_put C dX8_setBarred_35 pk_X8_154 (gNar_int _) hf (fun g6 hf => ?_)
      refine gg_iload_n C dX8_setBarred_38 rfl ?_
      exact gg_iret C hr (by decide) (by decide) dX8_setBarred_39 rfl hf
    · refine gg_iconst C dX8_setBarred_26 (v := (0 : Int32)) (by decide) ?_
      exact gg_iret C hr (by decide) (by decide) dX8_setBarred_27 rfl hf
  unfold w_X8_setBarred at hf
  refine gg_aload_n C dX8_setBarred_0 rfl ?_
  refine gg_iload_n C dX8_setBarred_1 rfl ?_
  refine gg_iconst C dX8_setBarred_2 (v := (0 : Int32)) (by decide) ?_
  refine gg_bipush C dX8_setBarred_3 (v := (15 : Int32)) (by decide) ?_
  refine gr_I (k' := 0) (n' := 0) (gk_S (As := [.int v1, .int (0 : Int32), .int (15 : Int32)]) (rest := [va_rf v0]) C dX8_setBarred_5 tw_1580 tw_1581 tw_56 tw_1582 gd_X8_in rfl ⟨by decide, by decide⟩ (by simp [gcat, gcI, gcL, gcF, gcD]) ⟨by decide, by decide⟩ (m_X8_in hfl hf)) rfl rfl (fun E g9 h9 => gx_out C (fun x hx => (ht x hx).elim) (by decide) (by decide) h9) (fun i2 g1 hf => ?_)
  refine gg_if_eq (tgt := 15) C dX8_setBarred_8 (by decide) hf (fun hf => ?_) (fun hf => ?_)
  · refine gg_iconst C dX8_setBarred_15 (v := (1 : Int32)) (by decide) ?_
    exact hb_16 _ _ _ _ _ hf
  · refine gg_iconst C dX8_setBarred_11 (v := (0 : Int32)) (by decide) ?_
    refine gg_goto (tgt := 16) C dX8_setBarred_12 (by decide) ?_
    exact hb_16 _ _ _ _ _ hf

def w_X8_stateOf_b19 (X : Cx) (post : Int32 → GM → Prop) (px : String → GM → Prop)  (t0 : Int32) (g : GM) : Prop :=
  (narrow .char (.int t0) = .int t0 ∧ post t0 g)
def w_X8_stateOf (X : Cx) (post : Int32 → GM → Prop) (px : String → GM → Prop) (v0 : Option Nat) (v1 : Int32) (g : GM) : Prop :=
  wIs g v0 8 (w_X8_noBuild X (fun (i2 : Int32) (g1 : GM) => (if i2 = 0 then wGetR g1 v0 8 14 (fun (r3 : Option Nat) => wAld g1 r3 v1 1 (fun (i4 : Int32) => w_X8_stateOf_b19 X post px i4 g1)) else w_X8_stateOf_b19 X post px (32 : Int32) g1)) px v0 v1 g)
abbrev rm_X8_stateOf : Room := { frames := 3, cells := 0, slots := 0, locals := 64 }
set_option maxHeartbeats 4000000 in
set_option maxRecDepth 100000 in
theorem m_X8_stateOf {X : Cx} {l : Launch} (hfl : l.stackTraces = false) {post : Int32 → GM → Prop} {px : String → GM → Prop} {v0 : Option Nat} {v1 : Int32} {g : GM} (hf : w_X8_stateOf X post px v0 v1 g) : gMet X l yX8_stateOf cX8_stateOf 2 (some .char) rm_X8_stateOf [va_rf v0, .int v1] g (qI X post) px := by
  refine gg_enter (L := [some (va_rf v0), some (.int v1)]) hfl (by decide +kernel) (by simp [lg_sl, gcat, gcI, gcL, gcF, gcD]) (by simp [gll, lv_args, gcat, gcI, gcL, gcF, gcD]) ?_
  intro p e s m args below meth c C hr ht hm
  have C : FC X p l s m args meth c cX8_stateOf 2 "ReleasetrainModel" := C
  have hb_19 : ∀ (t0 : Int32) (g : GM), w_X8_stateOf_b19 X post px  t0 g → GG X p l e rm_X8_stateOf s m args below meth c 2 (vx_MQ below (qI X post) (gXC X px) args s rm_X8_stateOf.cells rm_X8_stateOf.slots (gA X)) 0 0 19 [none, none] [.int t0] g := by
    intro  t0 g hf
    unfold w_X8_stateOf_b19 at hf
    exact gg_iret C hr (by decide) (by decide) dX8_stateOf_19 hf.1 hf.2
  unfold w_X8_stateOf at hf
  refine gg_aload_n C dX8_stateOf_0 rfl ?_
  refine gg_iload_n C dX8_stateOf_1 rfl ?_
  refine gr_I (k' := 0) (n' := 0) (gk_V (ci := 8) (As := [.int v1]) (rest := []) C dX8_stateOf_2 rfl rfl tw_1599 tw_1601 tw_26 tw_56 tw_1602 gd_X8_noBuild rfl ⟨by decide, by decide⟩ (by simp [gcat, gcI, gcL, gcF, gcD]) ⟨by decide, by decide⟩ hf (fun hf => m_X8_noBuild hfl hf)) rfl rfl (fun E g9 h9 => gx_out C (fun x hx => (ht x hx).elim) (by decide) (by decide) h9) (fun i2 g1 hf => ?_)
  refine gg_if_eq (tgt := 13) C dX8_stateOf_5 (by decide) hf (fun hf => ?_) (fun hf => ?_)
  · refine gg_aload_n C dX8_stateOf_13 rfl ?_
    refine gg_getR C dX8_stateOf_14 lk_X8_51 hf (fun r3 hf => ?_)
    refine gg_iload_n C dX8_stateOf_17 rfl ?_
    refine gg_cald C dX8_stateOf_18 hf (fun i4 hf => ?_)
    exact gg_sub (L' := [none, none]) (by first | exact trivial | simp [gsub]) (hb_19 _ _ hf)
  · refine gg_bipush C dX8_stateOf_8 (v := (32 : Int32)) (by decide) ?_
    refine gg_goto (tgt := 19) C dX8_stateOf_10 (by decide) ?_
    exact gg_sub (L' := [none, none]) (by first | exact trivial | simp [gsub]) (hb_19 _ _ hf)

def w_X8_stage_b77 (X : Cx) (post : Int32 → GM → Prop) (px : String → GM → Prop)  (l0 : Option Nat) (l1 : Int32) (l2 : Int32) (l3 : Int32) (t0 : Int32) (t1 : Option Nat) (g : GM) : Prop :=
  wPut g t1 8 36 (.int t0) (fun g9 => wGetI g9 l0 8 36 (fun (i10 : Int32) => (if i10 ≤ 0 then wGetR g9 l0 8 17 (fun (r11 : Option Nat) => wAld g9 r11 l1 0 (fun (i12 : Int32) => wGetR g9 l0 8 17 (fun (r13 : Option Nat) => wAst g9 r13 l1 0 l2 (fun g14 => wGetR g14 l0 8 18 (fun (r15 : Option Nat) => wAst g14 r15 l1 0 l3 (fun g16 => post i12 g16)))))) else post (0 : Int32) g9)))
def w_X8_stage_b35 (X : Cx) (post : Int32 → GM → Prop) (px : String → GM → Prop)  (l0 : Option Nat) (l1 : Int32) (l2 : Int32) (l3 : Int32) (t0 : Int32) (g : GM) : Prop :=
  (if t0 = 0 then w_X8_stage_b77 X post px l0 l1 l2 l3 (2 : Int32) l0 g else wGetR g l0 8 14 (fun (r5 : Option Nat) => wAld g r5 l1 1 (fun (i6 : Int32) => (if i6 = (97 : Int32) then wGetR g l0 8 17 (fun (r7 : Option Nat) => wAld g r7 l1 0 (fun (i8 : Int32) => (if i8 ≤ l2 then w_X8_stage_b77 X post px l0 l1 l2 l3 (0 : Int32) l0 g else w_X8_stage_b77 X post px l0 l1 l2 l3 (4 : Int32) l0 g))) else w_X8_stage_b77 X post px l0 l1 l2 l3 (3 : Int32) l0 g))))
def w_X8_stage_b34 (X : Cx) (post : Int32 → GM → Prop) (px : String → GM → Prop)  (l0 : Option Nat) (l1 : Int32) (l2 : Int32) (l3 : Int32) (g : GM) : Prop :=
  w_X8_stage_b35 X post px l0 l1 l2 l3 (0 : Int32) g
def w_X8_stage (X : Cx) (post : Int32 → GM → Prop) (px : String → GM → Prop) (v0 : Option Nat) (v1 : Int32) (v2 : Int32) (v3 : Int32) (g : GM) : Prop :=
  wIs g v0 8 (w_X8_noBuild X (fun (i2 : Int32) (g1 : GM) => (if i2 = 0 then w_X8_in X (fun (i4 : Int32) (g3 : GM) => (if i4 = 0 then w_X8_stage_b34 X post px v0 v1 v2 v3 g3 else w_X8_in X (fun (i18 : Int32) (g17 : GM) => (if i18 = 0 then w_X8_stage_b34 X post px v0 v1 v2 v3 g17 else w_X8_stage_b35 X post px v0 v1 v2 v3 (1 : Int32) g17)) px v3 (0 : Int32) (100 : Int32) g3)) px v2 (1 : Int32) (100 : Int32) g1 else post (0 : Int32) g1)) px v0 v1 g)
abbrev rm_X8_stage : Room := { frames := 3, cells := 0, slots := 0, locals := 64 }
set_option maxHeartbeats 4000000 in
set_option maxRecDepth 100000 in
theorem m_X8_stage {X : Cx} {l : Launch} (hfl : l.stackTraces = false) {post : Int32 → GM → Prop} {px : String → GM → Prop} {v0 : Option Nat} {v1 : Int32} {v2 : Int32} {v3 : Int32} {g : GM} (hf : w_X8_stage X post px v0 v1 v2 v3 g) : gMet X l yX8_stage cX8_stage 6 (some .int) rm_X8_stage [va_rf v0, .int v1, .int v2, .int v3] g (qI X post) px := by
  refine gg_enter (L := [some (va_rf v0), some (.int v1), some (.int v2), some (.int v3), none, none]) hfl (by decide +kernel) (by simp [lg_sl, gcat, gcI, gcL, gcF, gcD]) (by simp [gll, lv_args, gcat, gcI, gcL, gcF, gcD]) ?_
  intro p e s m args below meth c C hr ht hm
  have C : FC X p l s m args meth c cX8_stage 6 "ReleasetrainModel" := C
  have hb_77 : ∀ (l0 : Option Nat) (l1 : Int32) (l2 : Int32) (l3 : Int32) (t0 : Int32) (t1 : Option Nat) (g : GM), w_X8_stage_b77 X post px  l0 l1 l2 l3 t0 t1 g → GG X p l e rm_X8_stage s m args below meth c 6 (vx_MQ below (qI X post) (gXC X px) args s rm_X8_stage.cells rm_X8_stage.slots (gA X)) 0 0 77 [some (va_rf l0), some (.int l1), some (.int l2), some (.int l3), none, none] [.int t0, va_rf t1] g := by
    intro  l0 l1 l2 l3 t0 t1 g hf
    unfold w_X8_stage_b77 at hf
    refine gg_put C dX8_stage_77 pk_X8_110 (gNar_int _) hf (fun g9 hf => ?_)
    refine gg_aload_n C dX8_stage_80 rfl ?_
    refine gg_getI C dX8_stage_81 lk_X8_110 hf (fun i10 hf => ?_)
    refine gg_if_le (tgt := 89) C dX8_stage_84 (by decide) hf (fun hf => ?_) (fun hf => ?_)
    · refine gg_aload_n C dX8_stage_89 rfl ?_
      refine gg_getR C dX8_stage_90 lk_X8_62 hf (fun r11 hf => ?_)
      refine gg_iload_n C dX8_stage_93 rfl ?_
      refine gg_iald C dX8_stage_94 hf (fun i12 hf => ?_)
      refine gg_istore (L' := [some (va_rf l0), some (.int l1), some (.int l2), some (.int l3), none, some (.int i12)]) C dX8_stage_95 (Or.inr (Or.inl rfl)) (by decide) rfl ?_
      refine gg_aload_n C dX8_stage_97 rfl ?_
      refine gg_getR C dX8_stage_98 lk_X8_62 hf (fun r13 hf => ?_)
      refine gg_iload_n C dX8_stage_101 rfl ?_
      refine gg_iload_n C dX8_stage_102 rfl ?_
      refine gg_iast C dX8_stage_103 hf (fun g14 hf => ?_)
      refine gg_aload_n C dX8_stage_104 rfl ?_
      refine gg_getR C dX8_stage_105 lk_X8_65 hf (fun r15 hf => ?_)
      refine gg_iload_n C dX8_stage_108 rfl ?_
      refine gg_iload_n C dX8_stage_109 rfl ?_
      refine gg_iast C dX8_stage_110 hf (fun g16 hf => ?_)
      refine gg_iload C dX8_stage_111 rfl ?_
      exact gg_iret C hr (by decide) (by decide) dX8_stage_113 rfl hf
    · refine gg_iconst C dX8_stage_87 (v := (0 : Int32)) (by decide) ?_
      exact gg_iret C hr (by decide) (by decide) dX8_stage_88 rfl hf
  have hb_35 : ∀ (l0 : Option Nat) (l1 : Int32) (l2 : Int32) (l3 : Int32) (t0 : Int32) (g : GM), w_X8_stage_b35 X post px  l0 l1 l2 l3 t0 g → GG X p l e rm_X8_stage s m args below meth c 6 (vx_MQ below (qI X post) (gXC X px) args s rm_X8_stage.cells rm_X8_stage.slots (gA X)) 0 0 35 [some (va_rf l0), some (.int l1), some (.int l2), some (.int l3), none, none] [.int t0] g := by
    intro  l0 l1 l2 l3 t0 g hf
    unfold w_X8_stage_b35 at hf
    refine gg_istore (L' := [some (va_rf l0), some (.int l1), some (.int l2), some (.int l3), some (.int t0), none]) C dX8_stage_35 (Or.inr (Or.inr ⟨_, rfl, rfl⟩)) (by decide) rfl ?_
    refine gg_aload_n C dX8_stage_37 rfl ?_
    refine gg_iload C dX8_stage_38 rfl ?_
    refine gg_if_ne (tgt := 47) C dX8_stage_40 (by decide) hf (fun hf => ?_) (fun hf => ?_)
    · refine gg_aload_n C dX8_stage_47 rfl ?_
      refine gg_getR C dX8_stage_48 lk_X8_51 hf (fun r5 hf => ?_)
      refine gg_iload_n C dX8_stage_51 rfl ?_
      refine gg_cald C dX8_stage_52 hf (fun i6 hf => ?_)
      refine gg_bipush C dX8_stage_53 (v := (97 : Int32)) (by decide) ?_
      refine gg_icmp_eq (tgt := 62) C dX8_stage_55 (by decide) hf (fun hf => ?_) (fun hf => ?_)
      · refine gg_iload_n C dX8_stage_62 rfl ?_
        refine gg_aload_n C dX8_stage_63 rfl ?_
        refine gg_getR C dX8_stage_64 lk_X8_62 hf (fun r7 hf => ?_)
        refine gg_iload_n C dX8_stage_67 rfl ?_
        refine gg_iald C dX8_stage_68 hf (fun i8 hf => ?_)
        refine gg_icmp_ge (tgt := 76) C dX8_stage_69 (by decide) hf (fun hf => ?_) (fun hf => ?_)
        · refine gg_iconst C dX8_stage_76 (v := (0 : Int32)) (by decide) ?_
          exact gg_sub (L' := [some (va_rf l0), some (.int l1), some (.int l2), some (.int l3), none, none]) (by first | exact ⟨rfl, ⟨rfl, ⟨rfl, ⟨rfl, trivial⟩⟩⟩⟩ | simp [gsub]) (hb_77 _ _ _ _ _ _ _ hf)
        · refine gg_iconst C dX8_stage_72 (v := (4 : Int32)) (by decide) ?_
          refine gg_goto (tgt := 77) C dX8_stage_73 (by decide) ?_
          exact gg_sub (L' := [some (va_rf l0), some (.int l1), some (.int l2), some (.int l3), none, none]) (by first | exact ⟨rfl, ⟨rfl, ⟨rfl, ⟨rfl, trivial⟩⟩⟩⟩ | simp [gsub]) (hb_77 _ _ _ _ _ _ _ hf)
      · refine gg_iconst C dX8_stage_58 (v := (3 : Int32)) (by decide) ?_
        refine gg_goto (tgt := 77) C dX8_stage_59 (by decide) ?_
        exact gg_sub (L' := [some (va_rf l0), some (.int l1), some (.int l2), some (.int l3), none, none]) (by first | exact ⟨rfl, ⟨rfl, ⟨rfl, ⟨rfl, trivial⟩⟩⟩⟩ | simp [gsub]) (hb_77 _ _ _ _ _ _ _ hf)
    · refine gg_iconst C dX8_stage_43 (v := (2 : Int32)) (by decide) ?_
      refine gg_goto (tgt := 77) C dX8_stage_44 (by decide) ?_
      exact gg_sub (L' := [some (va_rf l0), some (.int l1), some (.int l2), some (.int l3), none, none]) (by first | exact ⟨rfl, ⟨rfl, ⟨rfl, ⟨rfl, trivial⟩⟩⟩⟩ | simp [gsub]) (hb_77 _ _ _ _ _ _ _ hf)
  have hb_34 : ∀ (l0 : Option Nat) (l1 : Int32) (l2 : Int32) (l3 : Int32) (g : GM), w_X8_stage_b34 X post px  l0 l1 l2 l3 g → GG X p l e rm_X8_stage s m args below meth c 6 (vx_MQ below (qI X post) (gXC X px) args s rm_X8_stage.cells rm_X8_stage.slots (gA X)) 0 0 34 [some (va_rf l0), some (.int l1), some (.int l2), some (.int l3), none, none] [] g := by
    intro  l0 l1 l2 l3 g hf
    unfold w_X8_stage_b34 at hf
    refine gg_iconst C dX8_stage_34 (v := (0 : Int32)) (by decide) ?_
    exact hb_35 _ _ _ _ _ _ hf
  unfold w_X8_stage at hf
  refine gg_aload_n C dX8_stage_0 rfl ?_
  refine gg_iload_n C dX8_stage_1 rfl ?_
  refine gr_I (k' := 0) (n' := 0) (gk_V (ci := 8) (As := [.int v1]) (rest := []) C dX8_stage_2 rfl rfl tw_1599 tw_1601 tw_26 tw_56 tw_1602 gd_X8_noBuild rfl ⟨by decide, by decide⟩ (by simp [gcat, gcI, gcL, gcF, gcD]) ⟨by decide, by decide⟩ hf (fun hf => m_X8_noBuild hfl hf)) rfl rfl (fun E g9 h9 => gx_out C (fun x hx => (ht x hx).elim) (by decide) (by decide) h9) (fun i2 g1 hf => ?_)
  refine gg_if_eq (tgt := 10) C dX8_stage_5 (by decide) hf (fun hf => ?_) (fun hf => ?_)
  · refine gg_iload_n C dX8_stage_10 rfl ?_
    refine gg_iconst C dX8_stage_11 (v := (1 : Int32)) (by decide) ?_
    refine gg_bipush C dX8_stage_12 (v := (100 : Int32)) (by decide) ?_
    refine gr_I (k' := 0) (n' := 0) (gk_S (As := [.int v2, .int (1 : Int32), .int (100 : Int32)]) (rest := []) C dX8_stage_14 tw_1580 tw_1581 tw_56 tw_1582 gd_X8_in rfl ⟨by decide, by decide⟩ (by simp [gcat, gcI, gcL, gcF, gcD]) ⟨by decide, by decide⟩ (m_X8_in hfl hf)) rfl rfl (fun E g9 h9 => gx_out C (fun x hx => (ht x hx).elim) (by decide) (by decide) h9) (fun i4 g3 hf => ?_)
    refine gg_if_eq (tgt := 34) C dX8_stage_17 (by decide) hf (fun hf => ?_) (fun hf => ?_)
    · exact hb_34 _ _ _ _ _ hf
    · refine gg_iload_n C dX8_stage_20 rfl ?_
      refine gg_iconst C dX8_stage_21 (v := (0 : Int32)) (by decide) ?_
      refine gg_bipush C dX8_stage_22 (v := (100 : Int32)) (by decide) ?_
      refine gr_I (k' := 0) (n' := 0) (gk_S (As := [.int v3, .int (0 : Int32), .int (100 : Int32)]) (rest := []) C dX8_stage_24 tw_1580 tw_1581 tw_56 tw_1582 gd_X8_in rfl ⟨by decide, by decide⟩ (by simp [gcat, gcI, gcL, gcF, gcD]) ⟨by decide, by decide⟩ (m_X8_in hfl hf)) rfl rfl (fun E g9 h9 => gx_out C (fun x hx => (ht x hx).elim) (by decide) (by decide) h9) (fun i18 g17 hf => ?_)
      refine gg_if_eq (tgt := 34) C dX8_stage_27 (by decide) hf (fun hf => ?_) (fun hf => ?_)
      · exact hb_34 _ _ _ _ _ hf
      · refine gg_iconst C dX8_stage_30 (v := (1 : Int32)) (by decide) ?_
        refine gg_goto (tgt := 35) C dX8_stage_31 (by decide) ?_
        exact hb_35 _ _ _ _ _ _ hf
  · refine gg_iconst C dX8_stage_8 (v := (0 : Int32)) (by decide) ?_
    exact gg_iret C hr (by decide) (by decide) dX8_stage_9 rfl hf

def w_X8_percentageOf_b18 (X : Cx) (post : Int32 → GM → Prop) (px : String → GM → Prop)  (t0 : Int32) (g : GM) : Prop :=
  post t0 g
def w_X8_percentageOf (X : Cx) (post : Int32 → GM → Prop) (px : String → GM → Prop) (v0 : Option Nat) (v1 : Int32) (g : GM) : Prop :=
  wIs g v0 8 (w_X8_noBuild X (fun (i2 : Int32) (g1 : GM) => (if i2 = 0 then wGetR g1 v0 8 17 (fun (r3 : Option Nat) => wAld g1 r3 v1 0 (fun (i4 : Int32) => w_X8_percentageOf_b18 X post px i4 g1)) else w_X8_percentageOf_b18 X post px (0 : Int32) g1)) px v0 v1 g)
abbrev rm_X8_percentageOf : Room := { frames := 3, cells := 0, slots := 0, locals := 64 }
set_option maxHeartbeats 4000000 in
set_option maxRecDepth 100000 in
theorem m_X8_percentageOf {X : Cx} {l : Launch} (hfl : l.stackTraces = false) {post : Int32 → GM → Prop} {px : String → GM → Prop} {v0 : Option Nat} {v1 : Int32} {g : GM} (hf : w_X8_percentageOf X post px v0 v1 g) : gMet X l yX8_percentageOf cX8_percentageOf 2 (some .int) rm_X8_percentageOf [va_rf v0, .int v1] g (qI X post) px := by
  refine gg_enter (L := [some (va_rf v0), some (.int v1)]) hfl (by decide +kernel) (by simp [lg_sl, gcat, gcI, gcL, gcF, gcD]) (by simp [gll, lv_args, gcat, gcI, gcL, gcF, gcD]) ?_
  intro p e s m args below meth c C hr ht hm
  have C : FC X p l s m args meth c cX8_percentageOf 2 "ReleasetrainModel" := C
  have hb_18 : ∀ (t0 : Int32) (g : GM), w_X8_percentageOf_b18 X post px  t0 g → GG X p l e rm_X8_percentageOf s m args below meth c 2 (vx_MQ below (qI X post) (gXC X px) args s rm_X8_percentageOf.cells rm_X8_percentageOf.slots (gA X)) 0 0 18 [none, none] [.int t0] g := by
    intro  t0 g hf
    unfold w_X8_percentageOf_b18 at hf
    exact gg_iret C hr (by decide) (by decide) dX8_percentageOf_18 rfl hf
  unfold w_X8_percentageOf at hf
  refine gg_aload_n C dX8_percentageOf_0 rfl ?_
  refine gg_iload_n C dX8_percentageOf_1 rfl ?_
  refine gr_I (k' := 0) (n' := 0) (gk_V (ci := 8) (As := [.int v1]) (rest := []) C dX8_percentageOf_2 rfl rfl tw_1599 tw_1601 tw_26 tw_56 tw_1602 gd_X8_noBuild rfl ⟨by decide, by decide⟩ (by simp [gcat, gcI, gcL, gcF, gcD]) ⟨by decide, by decide⟩ hf (fun hf => m_X8_noBuild hfl hf)) rfl rfl (fun E g9 h9 => gx_out C (fun x hx => (ht x hx).elim) (by decide) (by decide) h9) (fun i2 g1 hf => ?_)
  refine gg_if_eq (tgt := 12) C dX8_percentageOf_5 (by decide) hf (fun hf => ?_) (fun hf => ?_)
  · refine gg_aload_n C dX8_percentageOf_12 rfl ?_
    refine gg_getR C dX8_percentageOf_13 lk_X8_62 hf (fun r3 hf => ?_)
    refine gg_iload_n C dX8_percentageOf_16 rfl ?_
    refine gg_iald C dX8_percentageOf_17 hf (fun i4 hf => ?_)
    exact gg_sub (L' := [none, none]) (by first | exact trivial | simp [gsub]) (hb_18 _ _ hf)
  · refine gg_iconst C dX8_percentageOf_8 (v := (0 : Int32)) (by decide) ?_
    refine gg_goto (tgt := 18) C dX8_percentageOf_9 (by decide) ?_
    exact gg_sub (L' := [none, none]) (by first | exact trivial | simp [gsub]) (hb_18 _ _ hf)

def w_X8_rateOf_b28 (X : Cx) (post : UInt32 → GM → Prop) (px : String → GM → Prop)  (t0 : UInt32) (g : GM) : Prop :=
  post t0 g
def w_X8_rateOf (X : Cx) (post : UInt32 → GM → Prop) (px : String → GM → Prop) (v0 : Option Nat) (v1 : Int32) (g : GM) : Prop :=
  wGetR g v0 8 19 (fun (r1 : Option Nat) => wAld g r1 v1 0 (fun (i2 : Int32) => (if i2 = 0 then w_X8_rateOf_b28 X post px FP.fconst0 g else wGetR g v0 8 20 (fun (r3 : Option Nat) => wAld g r3 v1 0 (fun (i4 : Int32) => wGetR g v0 8 19 (fun (r5 : Option Nat) => wAld g r5 v1 0 (fun (i6 : Int32) => vf_n32 (FP.fdiv (FP.i2f i4) (FP.i2f i6)) ∧ w_X8_rateOf_b28 X post px (FP.fdiv (FP.i2f i4) (FP.i2f i6)) g)))))))
abbrev rm_X8_rateOf : Room := { frames := 0, cells := 0, slots := 0, locals := 0 }
set_option maxHeartbeats 4000000 in
set_option maxRecDepth 100000 in
theorem m_X8_rateOf {X : Cx} {l : Launch} (hfl : l.stackTraces = false) {post : UInt32 → GM → Prop} {px : String → GM → Prop} {v0 : Option Nat} {v1 : Int32} {g : GM} (hf : w_X8_rateOf X post px v0 v1 g) : gMet X l yX8_rateOf cX8_rateOf 2 (some .float) rm_X8_rateOf [va_rf v0, .int v1] g (qF X post) px := by
  refine gg_enter (L := [some (va_rf v0), some (.int v1)]) hfl (by decide +kernel) (by simp [lg_sl, gcat, gcI, gcL, gcF, gcD]) (by simp [gll, lv_args, gcat, gcI, gcL, gcF, gcD]) ?_
  intro p e s m args below meth c C hr ht hm
  have C : FC X p l s m args meth c cX8_rateOf 2 "ReleasetrainModel" := C
  have hb_28 : ∀ (t0 : UInt32) (g : GM), w_X8_rateOf_b28 X post px  t0 g → GG X p l e rm_X8_rateOf s m args below meth c 2 (vx_MQ below (qF X post) (gXC X px) args s rm_X8_rateOf.cells rm_X8_rateOf.slots (gA X)) 0 0 28 [none, none] [.float t0] g := by
    intro  t0 g hf
    unfold w_X8_rateOf_b28 at hf
    exact gg_fret C hr (by decide) (by decide) dX8_rateOf_28 hf
  unfold w_X8_rateOf at hf
  refine gg_aload_n C dX8_rateOf_0 rfl ?_
  refine gg_getR C dX8_rateOf_1 lk_X8_68 hf (fun r1 hf => ?_)
  refine gg_iload_n C dX8_rateOf_4 rfl ?_
  refine gg_iald C dX8_rateOf_5 hf (fun i2 hf => ?_)
  refine gg_if_ne (tgt := 13) C dX8_rateOf_6 (by decide) hf (fun hf => ?_) (fun hf => ?_)
  · refine gg_aload_n C dX8_rateOf_13 rfl ?_
    refine gg_getR C dX8_rateOf_14 lk_X8_71 hf (fun r3 hf => ?_)
    refine gg_iload_n C dX8_rateOf_17 rfl ?_
    refine gg_iald C dX8_rateOf_18 hf (fun i4 hf => ?_)
    refine gg_i2f C dX8_rateOf_19 ?_
    refine gg_aload_n C dX8_rateOf_20 rfl ?_
    refine gg_getR C dX8_rateOf_21 lk_X8_68 hf (fun r5 hf => ?_)
    refine gg_iload_n C dX8_rateOf_24 rfl ?_
    refine gg_iald C dX8_rateOf_25 hf (fun i6 hf => ?_)
    refine gg_i2f C dX8_rateOf_26 ?_
    refine gg_fdiv C dX8_rateOf_27 hf.1 ?_
    replace hf := hf.2
    exact gg_sub (L' := [none, none]) (by first | exact trivial | simp [gsub]) (hb_28 _ _ hf)
  · refine gg_fconst0 C dX8_rateOf_9 ?_
    refine gg_goto (tgt := 28) C dX8_rateOf_10 (by decide) ?_
    exact gg_sub (L' := [none, none]) (by first | exact trivial | simp [gsub]) (hb_28 _ _ hf)

def w_X8_ratings_b29 (X : Cx) (post : Int32 → GM → Prop) (px : String → GM → Prop) (k4 : Option Nat → Int32 → Int32 → Int32 → GM → Prop) (l0 : Option Nat) (l1 : Int32) (l3 : Int32) (t0 : Int32) (t1 : Int32) (g : GM) : Prop :=
  k4 l0 l1 (t1 + t0) (l3 + 1) g
def w_X8_ratings_l4 (X : Cx) (post : Int32 → GM → Prop) (px : String → GM → Prop)  : Nat → Option Nat → Int32 → Int32 → Int32 → GM → Prop
  | 0, _, _, _, _, _ => False
  | f + 1, l0, l1, l2, l3, g => wGetI g l0 8 6 (fun (i1 : Int32) => (if i1 ≤ l3 then post l2 g else wGetR g l0 8 5 (fun (r2 : Option Nat) => wAldq g r2 l3 5 (fun (r3 : Option Nat) => wAld g r3 l1 0 (fun (i4 : Int32) => (if i4 ≤ 0 then w_X8_ratings_b29 X post px (w_X8_ratings_l4 X post px f) l0 l1 l3 (0 : Int32) l2 g else w_X8_ratings_b29 X post px (w_X8_ratings_l4 X post px f) l0 l1 l3 (1 : Int32) l2 g))))))
def w_X8_ratings (X : Cx) (post : Int32 → GM → Prop) (px : String → GM → Prop) (v0 : Option Nat) (v1 : Int32) (g : GM) : Prop :=
  w_X8_ratings_l4 X post px 3000 v0 v1 (0 : Int32) (0 : Int32) g
abbrev rm_X8_ratings : Room := { frames := 0, cells := 0, slots := 0, locals := 0 }
set_option maxHeartbeats 4000000 in
set_option maxRecDepth 100000 in
theorem m_X8_ratings {X : Cx} {l : Launch} (hfl : l.stackTraces = false) {post : Int32 → GM → Prop} {px : String → GM → Prop} {v0 : Option Nat} {v1 : Int32} {g : GM} (hf : w_X8_ratings X post px v0 v1 g) : gMet X l yX8_ratings cX8_ratings 4 (some .int) rm_X8_ratings [va_rf v0, .int v1] g (qI X post) px := by
  refine gg_enter (L := [some (va_rf v0), some (.int v1), none, none]) hfl (by decide +kernel) (by simp [lg_sl, gcat, gcI, gcL, gcF, gcD]) (by simp [gll, lv_args, gcat, gcI, gcL, gcF, gcD]) ?_
  intro p e s m args below meth c C hr ht hm
  have C : FC X p l s m args meth c cX8_ratings 4 "ReleasetrainModel" := C
  have hb_29 : ∀ (k4 : Option Nat → Int32 → Int32 → Int32 → GM → Prop), (∀ (l0 : Option Nat) (l1 : Int32) (l2 : Int32) (l3 : Int32) (g : GM), k4 l0 l1 l2 l3 g → GG X p l e rm_X8_ratings s m args below meth c 4 (vx_MQ below (qI X post) (gXC X px) args s rm_X8_ratings.cells rm_X8_ratings.slots (gA X)) 0 0 4 [some (va_rf l0), some (.int l1), some (.int l2), some (.int l3)] [] g) → ∀ (l0 : Option Nat) (l1 : Int32) (l3 : Int32) (t0 : Int32) (t1 : Int32) (g : GM), w_X8_ratings_b29 X post px k4 l0 l1 l3 t0 t1 g → GG X p l e rm_X8_ratings s m args below meth c 4 (vx_MQ below (qI X post) (gXC X px) args s rm_X8_ratings.cells rm_X8_ratings.slots (gA X)) 0 0 29 [some (va_rf l0), some (.int l1), none, some (.int l3)] [.int t0, .int t1] g := by
    intro k4 hk4 l0 l1 l3 t0 t1 g hf
    unfold w_X8_ratings_b29 at hf
    refine gg_iadd C dX8_ratings_29 ?_
    refine gg_istore_n (L' := [some (va_rf l0), some (.int l1), some (.int (t1 + t0)), some (.int l3)]) C dX8_ratings_30 (Or.inr (Or.inr ⟨_, rfl, rfl⟩)) (by decide) rfl ?_
    refine gg_iinc (L' := [some (va_rf l0), some (.int l1), some (.int (t1 + t0)), some (.int (l3 + 1))]) C dX8_ratings_31 rfl (v := (l3 + 1)) rfl (Or.inr (Or.inr ⟨_, rfl, rfl⟩)) (by decide) rfl ?_
    refine gg_goto (tgt := 4) C dX8_ratings_34 (by decide) ?_
    exact hk4 _ _ _ _ _ hf
  have hb_4 : ∀ (f : Nat) (l0 : Option Nat) (l1 : Int32) (l2 : Int32) (l3 : Int32) (g : GM), w_X8_ratings_l4 X post px  f l0 l1 l2 l3 g → GG X p l e rm_X8_ratings s m args below meth c 4 (vx_MQ below (qI X post) (gXC X px) args s rm_X8_ratings.cells rm_X8_ratings.slots (gA X)) 0 0 4 [some (va_rf l0), some (.int l1), some (.int l2), some (.int l3)] [] g := by
    intro  f
    induction f with
    | zero => intro l0 l1 l2 l3 g hf; exact (show False from hf).elim
    | succ f ih =>
      intro l0 l1 l2 l3 g hf
      rw [w_X8_ratings_l4] at hf
      refine gg_iload_n C dX8_ratings_4 rfl ?_
      refine gg_aload_n C dX8_ratings_5 rfl ?_
      refine gg_getI C dX8_ratings_6 lk_X8_113 hf (fun i1 hf => ?_)
      refine gg_icmp_ge (tgt := 37) C dX8_ratings_9 (by decide) hf (fun hf => ?_) (fun hf => ?_)
      · refine gg_iload_n C dX8_ratings_37 rfl ?_
        exact gg_iret C hr (by decide) (by decide) dX8_ratings_38 rfl hf
      · refine gg_iload_n C dX8_ratings_12 rfl ?_
        refine gg_aload_n C dX8_ratings_13 rfl ?_
        refine gg_getR C dX8_ratings_14 lk_X8_27 hf (fun r2 hf => ?_)
        refine gg_iload_n C dX8_ratings_17 rfl ?_
        refine gg_aaload (kd := 5) C dX8_ratings_18 rfl rfl hf (fun r3 hf => ?_)
        refine gg_iload_n C dX8_ratings_19 rfl ?_
        refine gg_iald C dX8_ratings_20 hf (fun i4 hf => ?_)
        refine gg_if_le (tgt := 28) C dX8_ratings_21 (by decide) hf (fun hf => ?_) (fun hf => ?_)
        · refine gg_iconst C dX8_ratings_28 (v := (0 : Int32)) (by decide) ?_
          exact gg_sub (L' := [some (va_rf l0), some (.int l1), none, some (.int l3)]) (by first | exact ⟨rfl, ⟨rfl, ⟨rfl, trivial⟩⟩⟩ | simp [gsub]) (hb_29 _ ih _ _ _ _ _ _ hf)
        · refine gg_iconst C dX8_ratings_24 (v := (1 : Int32)) (by decide) ?_
          refine gg_goto (tgt := 29) C dX8_ratings_25 (by decide) ?_
          exact gg_sub (L' := [some (va_rf l0), some (.int l1), none, some (.int l3)]) (by first | exact ⟨rfl, ⟨rfl, ⟨rfl, trivial⟩⟩⟩ | simp [gsub]) (hb_29 _ ih _ _ _ _ _ _ hf)
  unfold w_X8_ratings at hf
  refine gg_iconst C dX8_ratings_0 (v := (0 : Int32)) (by decide) ?_
  refine gg_istore_n (L' := [some (va_rf v0), some (.int v1), some (.int (0 : Int32)), none]) C dX8_ratings_1 (Or.inr (Or.inr ⟨_, rfl, rfl⟩)) (by decide) rfl ?_
  refine gg_iconst C dX8_ratings_2 (v := (0 : Int32)) (by decide) ?_
  refine gg_istore_n (L' := [some (va_rf v0), some (.int v1), some (.int (0 : Int32)), some (.int (0 : Int32))]) C dX8_ratings_3 (Or.inr (Or.inr ⟨_, rfl, rfl⟩)) (by decide) rfl ?_
  exact hb_4 _ _ _ _ _ _ hf

def w_X8_ratingOf_l4 (X : Cx) (post : UInt64 → GM → Prop) (px : String → GM → Prop)  : Nat → Option Nat → Int32 → Int32 → Int32 → GM → Prop
  | 0, _, _, _, _, _ => False
  | f + 1, l0, l1, l2, l3, g => wGetI g l0 8 6 (fun (i1 : Int32) => (if i1 ≤ l3 then wIs g l0 8 (w_X8_ratings X (fun (i3 : Int32) (g2 : GM) => vf_n64 (FP.ddiv (FP.i2d l2) (FP.i2d i3)) ∧ post (FP.ddiv (FP.i2d l2) (FP.i2d i3)) g2) px l0 l1 g) else wGetR g l0 8 5 (fun (r4 : Option Nat) => wAldq g r4 l3 5 (fun (r5 : Option Nat) => wAld g r5 l1 0 (fun (i6 : Int32) => w_X8_ratingOf_l4 X post px f l0 l1 (l2 + i6) (l3 + 1) g)))))
def w_X8_ratingOf (X : Cx) (post : UInt64 → GM → Prop) (px : String → GM → Prop) (v0 : Option Nat) (v1 : Int32) (g : GM) : Prop :=
  w_X8_ratingOf_l4 X post px 3000 v0 v1 (0 : Int32) (0 : Int32) g
abbrev rm_X8_ratingOf : Room := { frames := 1, cells := 0, slots := 0, locals := 23 }
set_option maxHeartbeats 4000000 in
set_option maxRecDepth 100000 in
theorem m_X8_ratingOf {X : Cx} {l : Launch} (hfl : l.stackTraces = false) {post : UInt64 → GM → Prop} {px : String → GM → Prop} {v0 : Option Nat} {v1 : Int32} {g : GM} (hf : w_X8_ratingOf X post px v0 v1 g) : gMet X l yX8_ratingOf cX8_ratingOf 4 (some .double) rm_X8_ratingOf [va_rf v0, .int v1] g (qD X post) px := by
  refine gg_enter (L := [some (va_rf v0), some (.int v1), none, none]) hfl (by decide +kernel) (by simp [lg_sl, gcat, gcI, gcL, gcF, gcD]) (by simp [gll, lv_args, gcat, gcI, gcL, gcF, gcD]) ?_
  intro p e s m args below meth c C hr ht hm
  have C : FC X p l s m args meth c cX8_ratingOf 4 "ReleasetrainModel" := C
  have hb_4 : ∀ (f : Nat) (l0 : Option Nat) (l1 : Int32) (l2 : Int32) (l3 : Int32) (g : GM), w_X8_ratingOf_l4 X post px  f l0 l1 l2 l3 g → GG X p l e rm_X8_ratingOf s m args below meth c 4 (vx_MQ below (qD X post) (gXC X px) args s rm_X8_ratingOf.cells rm_X8_ratingOf.slots (gA X)) 0 0 4 [some (va_rf l0), some (.int l1), some (.int l2), some (.int l3)] [] g := by
    intro  f
    induction f with
    | zero => intro l0 l1 l2 l3 g hf; exact (show False from hf).elim
    | succ f ih =>
      intro l0 l1 l2 l3 g hf
      rw [w_X8_ratingOf_l4] at hf
      refine gg_iload_n C dX8_ratingOf_4 rfl ?_
      refine gg_aload_n C dX8_ratingOf_5 rfl ?_
      refine gg_getI C dX8_ratingOf_6 lk_X8_113 hf (fun i1 hf => ?_)
      refine gg_icmp_ge (tgt := 29) C dX8_ratingOf_9 (by decide) hf (fun hf => ?_) (fun hf => ?_)
      · refine gg_iload_n C dX8_ratingOf_29 rfl ?_
        refine gg_i2d C dX8_ratingOf_30 ?_
        refine gg_aload_n C dX8_ratingOf_31 rfl ?_
        refine gg_iload_n C dX8_ratingOf_32 rfl ?_
        refine gr_I (k' := 0) (n' := 0) (gk_V (ci := 8) (As := [.int l1]) (rest := [.double (FP.i2d l2)]) C dX8_ratingOf_33 rfl rfl tw_1675 tw_1677 tw_35 tw_56 tw_1678 gd_X8_ratings rfl ⟨by decide, by decide⟩ (by simp [gcat, gcI, gcL, gcF, gcD]) ⟨by decide, by decide⟩ hf (fun hf => m_X8_ratings hfl hf)) rfl rfl (fun E g9 h9 => gx_out C (fun x hx => (ht x hx).elim) (by decide) (by decide) h9) (fun i3 g2 hf => ?_)
        refine gg_i2d C dX8_ratingOf_36 ?_
        refine gg_ddiv C dX8_ratingOf_37 hf.1 ?_
        replace hf := hf.2
        exact gg_dret C hr (by decide) (by decide) dX8_ratingOf_38 hf
      · refine gg_iload_n C dX8_ratingOf_12 rfl ?_
        refine gg_aload_n C dX8_ratingOf_13 rfl ?_
        refine gg_getR C dX8_ratingOf_14 lk_X8_27 hf (fun r4 hf => ?_)
        refine gg_iload_n C dX8_ratingOf_17 rfl ?_
        refine gg_aaload (kd := 5) C dX8_ratingOf_18 rfl rfl hf (fun r5 hf => ?_)
        refine gg_iload_n C dX8_ratingOf_19 rfl ?_
        refine gg_iald C dX8_ratingOf_20 hf (fun i6 hf => ?_)
        refine gg_iadd C dX8_ratingOf_21 ?_
        refine gg_istore_n (L' := [some (va_rf l0), some (.int l1), some (.int (l2 + i6)), some (.int l3)]) C dX8_ratingOf_22 (Or.inr (Or.inr ⟨_, rfl, rfl⟩)) (by decide) rfl ?_
        refine gg_iinc (L' := [some (va_rf l0), some (.int l1), some (.int (l2 + i6)), some (.int (l3 + 1))]) C dX8_ratingOf_23 rfl (v := (l3 + 1)) rfl (Or.inr (Or.inr ⟨_, rfl, rfl⟩)) (by decide) rfl ?_
        refine gg_goto (tgt := 4) C dX8_ratingOf_26 (by decide) ?_
        exact ih _ _ _ _ _ hf
  unfold w_X8_ratingOf at hf
  refine gg_iconst C dX8_ratingOf_0 (v := (0 : Int32)) (by decide) ?_
  refine gg_istore_n (L' := [some (va_rf v0), some (.int v1), some (.int (0 : Int32)), none]) C dX8_ratingOf_1 (Or.inr (Or.inr ⟨_, rfl, rfl⟩)) (by decide) rfl ?_
  refine gg_iconst C dX8_ratingOf_2 (v := (0 : Int32)) (by decide) ?_
  refine gg_istore_n (L' := [some (va_rf v0), some (.int v1), some (.int (0 : Int32)), some (.int (0 : Int32))]) C dX8_ratingOf_3 (Or.inr (Or.inr ⟨_, rfl, rfl⟩)) (by decide) rfl ?_
  exact hb_4 _ _ _ _ _ _ hf

def w_X8_hold_b67 (X : Cx) (post : Int32 → GM → Prop) (px : String → GM → Prop)  (t0 : Int32) (g : GM) : Prop :=
  (narrow .char (.int t0) = .int t0 ∧ post t0 g)
def w_X8_hold_b65 (X : Cx) (post : Int32 → GM → Prop) (px : String → GM → Prop)   (g : GM) : Prop :=
  w_X8_hold_b67 X post px (45 : Int32) g
def w_X8_hold_b39 (X : Cx) (post : Int32 → GM → Prop) (px : String → GM → Prop)  (l0 : Option Nat) (l1 : Int32) (g : GM) : Prop :=
  wIs g l0 8 (w_X8_ratings X (fun (i6 : Int32) (g5 : GM) => (if i6 < (3 : Int32) then w_X8_hold_b65 X post px g5 else wIs g5 l0 8 (w_X8_ratingOf X (fun (z8 : UInt64) (g7 : GM) => (if 0 ≤ (Op.cmpValue (FP.dcmp z8 (4612811918334230528 : UInt64)) .g) then w_X8_hold_b65 X post px g7 else w_X8_hold_b67 X post px (116 : Int32) g7)) px l0 l1 g5))) px l0 l1 g)
def w_X8_hold (X : Cx) (post : Int32 → GM → Prop) (px : String → GM → Prop) (v0 : Option Nat) (v1 : Int32) (g : GM) : Prop :=
  wIs g v0 8 (w_X8_barredBy X (fun (i2 : Int32) (g1 : GM) => (if i2 = (45 : Int32) then wGetR g1 v0 8 19 (fun (r3 : Option Nat) => wAld g1 r3 v1 0 (fun (i4 : Int32) => (if i4 < (3 : Int32) then w_X8_hold_b39 X post px v0 v1 g1 else wIs g1 v0 8 (w_X8_rateOf X (fun (x10 : UInt32) (g9 : GM) => wGetF g9 v0 8 26 (fun (x11 : UInt32) => (if (Op.cmpValue (FP.fcmp x10 x11) .l) ≤ 0 then w_X8_hold_b39 X post px v0 v1 g9 else post (99 : Int32) g9))) px v0 v1 g1)))) else post (118 : Int32) g1)) px v0 v1 g)
abbrev rm_X8_hold : Room := { frames := 2, cells := 0, slots := 0, locals := 46 }
set_option maxHeartbeats 4000000 in
set_option maxRecDepth 100000 in
theorem m_X8_hold {X : Cx} {l : Launch} (hfl : l.stackTraces = false) {post : Int32 → GM → Prop} {px : String → GM → Prop} {v0 : Option Nat} {v1 : Int32} {g : GM} (hf : w_X8_hold X post px v0 v1 g) : gMet X l yX8_hold cX8_hold 2 (some .char) rm_X8_hold [va_rf v0, .int v1] g (qI X post) px := by
  refine gg_enter (L := [some (va_rf v0), some (.int v1)]) hfl (by decide +kernel) (by simp [lg_sl, gcat, gcI, gcL, gcF, gcD]) (by simp [gll, lv_args, gcat, gcI, gcL, gcF, gcD]) ?_
  intro p e s m args below meth c C hr ht hm
  have C : FC X p l s m args meth c cX8_hold 2 "ReleasetrainModel" := C
  have hb_67 : ∀ (t0 : Int32) (g : GM), w_X8_hold_b67 X post px  t0 g → GG X p l e rm_X8_hold s m args below meth c 2 (vx_MQ below (qI X post) (gXC X px) args s rm_X8_hold.cells rm_X8_hold.slots (gA X)) 0 0 67 [none, none] [.int t0] g := by
    intro  t0 g hf
    unfold w_X8_hold_b67 at hf
    exact gg_iret C hr (by decide) (by decide) dX8_hold_67 hf.1 hf.2
  have hb_65 : ∀  (g : GM), w_X8_hold_b65 X post px   g → GG X p l e rm_X8_hold s m args below meth c 2 (vx_MQ below (qI X post) (gXC X px) args s rm_X8_hold.cells rm_X8_hold.slots (gA X)) 0 0 65 [none, none] [] g := by
    intro   g hf
    unfold w_X8_hold_b65 at hf
    refine gg_bipush C dX8_hold_65 (v := (45 : Int32)) (by decide) ?_
    exact hb_67 _ _ hf
  have hb_39 : ∀ (l0 : Option Nat) (l1 : Int32) (g : GM), w_X8_hold_b39 X post px  l0 l1 g → GG X p l e rm_X8_hold s m args below meth c 2 (vx_MQ below (qI X post) (gXC X px) args s rm_X8_hold.cells rm_X8_hold.slots (gA X)) 0 0 39 [some (va_rf l0), some (.int l1)] [] g := by
    intro  l0 l1 g hf
    unfold w_X8_hold_b39 at hf
    refine gg_aload_n C dX8_hold_39 rfl ?_
    refine gg_iload_n C dX8_hold_40 rfl ?_
    refine gr_I (k' := 0) (n' := 0) (gk_V (ci := 8) (As := [.int l1]) (rest := []) C dX8_hold_41 rfl rfl tw_1675 tw_1677 tw_35 tw_56 tw_1678 gd_X8_ratings rfl ⟨by decide, by decide⟩ (by simp [gcat, gcI, gcL, gcF, gcD]) ⟨by decide, by decide⟩ hf (fun hf => m_X8_ratings hfl hf)) rfl rfl (fun E g9 h9 => gx_out C (fun x hx => (ht x hx).elim) (by decide) (by decide) h9) (fun i6 g5 hf => ?_)
    refine gg_iconst C dX8_hold_44 (v := (3 : Int32)) (by decide) ?_
    refine gg_icmp_lt (tgt := 65) C dX8_hold_45 (by decide) hf (fun hf => ?_) (fun hf => ?_)
    · exact gg_sub (L' := [none, none]) (by first | exact trivial | simp [gsub]) (hb_65 _ hf)
    · refine gg_aload_n C dX8_hold_48 rfl ?_
      refine gg_iload_n C dX8_hold_49 rfl ?_
      refine gr_D (k' := 0) (n' := 0) (gk_V (ci := 8) (As := [.int l1]) (rest := []) C dX8_hold_50 rfl rfl tw_1679 tw_1681 tw_36 tw_56 tw_1682 gd_X8_ratingOf rfl ⟨by decide, by decide⟩ (by simp [gcat, gcI, gcL, gcF, gcD]) ⟨by decide, by decide⟩ hf (fun hf => m_X8_ratingOf hfl hf)) rfl rfl (fun E g9 h9 => gx_out C (fun x hx => (ht x hx).elim) (by decide) (by decide) h9) (fun z8 g7 hf => ?_)
      refine gg_ldc2d C dX8_hold_53 (v := (4612811918334230528 : UInt64)) tw_1683 ?_
      refine gg_dcmp C dX8_hold_56 ?_
      refine gg_if_ge (tgt := 65) C dX8_hold_57 (by decide) hf (fun hf => ?_) (fun hf => ?_)
      · exact gg_sub (L' := [none, none]) (by first | exact trivial | simp [gsub]) (hb_65 _ hf)
      · refine gg_bipush C dX8_hold_60 (v := (116 : Int32)) (by decide) ?_
        refine gg_goto (tgt := 67) C dX8_hold_62 (by decide) ?_
        exact gg_sub (L' := [none, none]) (by first | exact trivial | simp [gsub]) (hb_67 _ _ hf)
  unfold w_X8_hold at hf
  refine gg_aload_n C dX8_hold_0 rfl ?_
  refine gg_iload_n C dX8_hold_1 rfl ?_
  refine gr_I (k' := 0) (n' := 0) (gk_V (ci := 8) (As := [.int v1]) (rest := []) C dX8_hold_2 rfl rfl tw_1627 tw_1629 tw_30 tw_56 tw_1630 gd_X8_barredBy rfl ⟨by decide, by decide⟩ (by simp [gcat, gcI, gcL, gcF, gcD]) ⟨by decide, by decide⟩ hf (fun hf => m_X8_barredBy hfl hf)) rfl rfl (fun E g9 h9 => gx_out C (fun x hx => (ht x hx).elim) (by decide) (by decide) h9) (fun i2 g1 hf => ?_)
  refine gg_bipush C dX8_hold_5 (v := (45 : Int32)) (by decide) ?_
  refine gg_icmp_eq (tgt := 13) C dX8_hold_7 (by decide) hf (fun hf => ?_) (fun hf => ?_)
  · refine gg_aload_n C dX8_hold_13 rfl ?_
    refine gg_getR C dX8_hold_14 lk_X8_68 hf (fun r3 hf => ?_)
    refine gg_iload_n C dX8_hold_17 rfl ?_
    refine gg_iald C dX8_hold_18 hf (fun i4 hf => ?_)
    refine gg_iconst C dX8_hold_19 (v := (3 : Int32)) (by decide) ?_
    refine gg_icmp_lt (tgt := 39) C dX8_hold_20 (by decide) hf (fun hf => ?_) (fun hf => ?_)
    · exact hb_39 _ _ _ hf
    · refine gg_aload_n C dX8_hold_23 rfl ?_
      refine gg_iload_n C dX8_hold_24 rfl ?_
      refine gr_F (k' := 0) (n' := 0) (gk_V (ci := 8) (As := [.int v1]) (rest := []) C dX8_hold_25 rfl rfl tw_1671 tw_1673 tw_34 tw_56 tw_1674 gd_X8_rateOf rfl ⟨by decide, by decide⟩ (by simp [gcat, gcI, gcL, gcF, gcD]) ⟨by decide, by decide⟩ hf (fun hf => m_X8_rateOf hfl hf)) rfl rfl (fun E g9 h9 => gx_out C (fun x hx => (ht x hx).elim) (by decide) (by decide) h9) (fun x10 g9 hf => ?_)
      refine gg_aload_n C dX8_hold_28 rfl ?_
      refine gg_getF C dX8_hold_29 lk_X8_83 hf (fun x11 hf => ?_)
      refine gg_fcmp C dX8_hold_32 ?_
      refine gg_if_le (tgt := 39) C dX8_hold_33 (by decide) hf (fun hf => ?_) (fun hf => ?_)
      · exact hb_39 _ _ _ hf
      · refine gg_bipush C dX8_hold_36 (v := (99 : Int32)) (by decide) ?_
        exact gg_iret C hr (by decide) (by decide) dX8_hold_38 rfl hf
  · refine gg_bipush C dX8_hold_10 (v := (118 : Int32)) (by decide) ?_
    exact gg_iret C hr (by decide) (by decide) dX8_hold_12 rfl hf

def w_X8_rolls_b35 (X : Cx) (post : Int32 → GM → Prop) (px : String → GM → Prop)  (t0 : Int32) (g : GM) : Prop :=
  (narrow .boolean (.int t0) = .int t0 ∧ post t0 g)
def w_X8_rolls_b34 (X : Cx) (post : Int32 → GM → Prop) (px : String → GM → Prop)   (g : GM) : Prop :=
  w_X8_rolls_b35 X post px (0 : Int32) g
def w_X8_rolls (X : Cx) (post : Int32 → GM → Prop) (px : String → GM → Prop) (v0 : Option Nat) (v1 : Int32) (g : GM) : Prop :=
  wGetR g v0 8 14 (fun (r1 : Option Nat) => wAld g r1 v1 1 (fun (i2 : Int32) => (if i2 = (97 : Int32) then wGetR g v0 8 17 (fun (r3 : Option Nat) => wAld g r3 v1 0 (fun (i4 : Int32) => (if i4 ≤ 0 then w_X8_rolls_b34 X post px g else wIs g v0 8 (w_X8_hold X (fun (i6 : Int32) (g5 : GM) => (if i6 = (45 : Int32) then w_X8_rolls_b35 X post px (1 : Int32) g5 else w_X8_rolls_b34 X post px g5)) px v0 v1 g)))) else w_X8_rolls_b34 X post px g)))
abbrev rm_X8_rolls : Room := { frames := 3, cells := 0, slots := 0, locals := 67 }
set_option maxHeartbeats 4000000 in
set_option maxRecDepth 100000 in
theorem m_X8_rolls {X : Cx} {l : Launch} (hfl : l.stackTraces = false) {post : Int32 → GM → Prop} {px : String → GM → Prop} {v0 : Option Nat} {v1 : Int32} {g : GM} (hf : w_X8_rolls X post px v0 v1 g) : gMet X l yX8_rolls cX8_rolls 2 (some .boolean) rm_X8_rolls [va_rf v0, .int v1] g (qI X post) px := by
  refine gg_enter (L := [some (va_rf v0), some (.int v1)]) hfl (by decide +kernel) (by simp [lg_sl, gcat, gcI, gcL, gcF, gcD]) (by simp [gll, lv_args, gcat, gcI, gcL, gcF, gcD]) ?_
  intro p e s m args below meth c C hr ht hm
  have C : FC X p l s m args meth c cX8_rolls 2 "ReleasetrainModel" := C
  have hb_35 : ∀ (t0 : Int32) (g : GM), w_X8_rolls_b35 X post px  t0 g → GG X p l e rm_X8_rolls s m args below meth c 2 (vx_MQ below (qI X post) (gXC X px) args s rm_X8_rolls.cells rm_X8_rolls.slots (gA X)) 0 0 35 [none, none] [.int t0] g := by
    intro  t0 g hf
    unfold w_X8_rolls_b35 at hf
    exact gg_iret C hr (by decide) (by decide) dX8_rolls_35 hf.1 hf.2
  have hb_34 : ∀  (g : GM), w_X8_rolls_b34 X post px   g → GG X p l e rm_X8_rolls s m args below meth c 2 (vx_MQ below (qI X post) (gXC X px) args s rm_X8_rolls.cells rm_X8_rolls.slots (gA X)) 0 0 34 [none, none] [] g := by
    intro   g hf
    unfold w_X8_rolls_b34 at hf
    refine gg_iconst C dX8_rolls_34 (v := (0 : Int32)) (by decide) ?_
    exact hb_35 _ _ hf
  unfold w_X8_rolls at hf
  refine gg_aload_n C dX8_rolls_0 rfl ?_
  refine gg_getR C dX8_rolls_1 lk_X8_51 hf (fun r1 hf => ?_)
  refine gg_iload_n C dX8_rolls_4 rfl ?_
  refine gg_cald C dX8_rolls_5 hf (fun i2 hf => ?_)
  refine gg_bipush C dX8_rolls_6 (v := (97 : Int32)) (by decide) ?_
  refine gg_icmp_ne (tgt := 34) C dX8_rolls_8 (by decide) hf (fun hf => ?_) (fun hf => ?_)
  · exact gg_sub (L' := [none, none]) (by first | exact trivial | simp [gsub]) (hb_34 _ hf)
  · refine gg_aload_n C dX8_rolls_11 rfl ?_
    refine gg_getR C dX8_rolls_12 lk_X8_62 hf (fun r3 hf => ?_)
    refine gg_iload_n C dX8_rolls_15 rfl ?_
    refine gg_iald C dX8_rolls_16 hf (fun i4 hf => ?_)
    refine gg_if_le (tgt := 34) C dX8_rolls_17 (by decide) hf (fun hf => ?_) (fun hf => ?_)
    · exact gg_sub (L' := [none, none]) (by first | exact trivial | simp [gsub]) (hb_34 _ hf)
    · refine gg_aload_n C dX8_rolls_20 rfl ?_
      refine gg_iload_n C dX8_rolls_21 rfl ?_
      refine gr_I (k' := 0) (n' := 0) (gk_V (ci := 8) (As := [.int v1]) (rest := []) C dX8_rolls_22 rfl rfl tw_1667 tw_1669 tw_33 tw_56 tw_1670 gd_X8_hold rfl ⟨by decide, by decide⟩ (by simp [gcat, gcI, gcL, gcF, gcD]) ⟨by decide, by decide⟩ hf (fun hf => m_X8_hold hfl hf)) rfl rfl (fun E g9 h9 => gx_out C (fun x hx => (ht x hx).elim) (by decide) (by decide) h9) (fun i6 g5 hf => ?_)
      refine gg_bipush C dX8_rolls_25 (v := (45 : Int32)) (by decide) ?_
      refine gg_icmp_ne (tgt := 34) C dX8_rolls_27 (by decide) hf (fun hf => ?_) (fun hf => ?_)
      · exact gg_sub (L' := [none, none]) (by first | exact trivial | simp [gsub]) (hb_34 _ hf)
      · refine gg_iconst C dX8_rolls_30 (v := (1 : Int32)) (by decide) ?_
        refine gg_goto (tgt := 35) C dX8_rolls_31 (by decide) ?_
        exact gg_sub (L' := [none, none]) (by first | exact trivial | simp [gsub]) (hb_35 _ _ hf)

def w_X8_after_b37 (X : Cx) (post : Int32 → GM → Prop) (px : String → GM → Prop)  (t0 : Int32) (g : GM) : Prop :=
  post t0 g
def w_X8_after (X : Cx) (post : Int32 → GM → Prop) (px : String → GM → Prop) (v0 : Option Nat) (v1 : Int32) (v2 : Int32) (g : GM) : Prop :=
  wIs g v0 8 (w_X8_rolls X (fun (i2 : Int32) (g1 : GM) => (if i2 = 0 then wGetR g1 v0 8 17 (fun (r3 : Option Nat) => wAld g1 r3 v1 0 (fun (i4 : Int32) => w_X8_after_b37 X post px i4 g1)) else wGetR g1 v0 8 17 (fun (r5 : Option Nat) => wAld g1 r5 v1 0 (fun (i6 : Int32) => wGetR g1 v0 8 18 (fun (r7 : Option Nat) => wAld g1 r7 v1 0 (fun (i8 : Int32) => w_X8_after_b37 X post px (if (i6 + (v2 * i8)) < (100 : Int32) then (i6 + (v2 * i8)) else (100 : Int32)) g1)))))) px v0 v1 g)
abbrev rm_X8_after : Room := { frames := 4, cells := 0, slots := 0, locals := 88 }
set_option maxHeartbeats 4000000 in
set_option maxRecDepth 100000 in
theorem m_X8_after {X : Cx} {l : Launch} (hfl : l.stackTraces = false) {post : Int32 → GM → Prop} {px : String → GM → Prop} {v0 : Option Nat} {v1 : Int32} {v2 : Int32} {g : GM} (hf : w_X8_after X post px v0 v1 v2 g) : gMet X l yX8_after cX8_after 3 (some .int) rm_X8_after [va_rf v0, .int v1, .int v2] g (qI X post) px := by
  refine gg_enter (L := [some (va_rf v0), some (.int v1), some (.int v2)]) hfl (by decide +kernel) (by simp [lg_sl, gcat, gcI, gcL, gcF, gcD]) (by simp [gll, lv_args, gcat, gcI, gcL, gcF, gcD]) ?_
  intro p e s m args below meth c C hr ht hm
  have C : FC X p l s m args meth c cX8_after 3 "ReleasetrainModel" := C
  have hb_37 : ∀ (t0 : Int32) (g : GM), w_X8_after_b37 X post px  t0 g → GG X p l e rm_X8_after s m args below meth c 3 (vx_MQ below (qI X post) (gXC X px) args s rm_X8_after.cells rm_X8_after.slots (gA X)) 0 0 37 [none, none, none] [.int t0] g := by
    intro  t0 g hf
    unfold w_X8_after_b37 at hf
    exact gg_iret C hr (by decide) (by decide) dX8_after_37 rfl hf
  unfold w_X8_after at hf
  refine gg_aload_n C dX8_after_0 rfl ?_
  refine gg_iload_n C dX8_after_1 rfl ?_
  refine gr_I (k' := 0) (n' := 0) (gk_V (ci := 8) (As := [.int v1]) (rest := []) C dX8_after_2 rfl rfl tw_1663 tw_1665 tw_32 tw_56 tw_1666 gd_X8_rolls rfl ⟨by decide, by decide⟩ (by simp [gcat, gcI, gcL, gcF, gcD]) ⟨by decide, by decide⟩ hf (fun hf => m_X8_rolls hfl hf)) rfl rfl (fun E g9 h9 => gx_out C (fun x hx => (ht x hx).elim) (by decide) (by decide) h9) (fun i2 g1 hf => ?_)
  refine gg_if_eq (tgt := 31) C dX8_after_5 (by decide) hf (fun hf => ?_) (fun hf => ?_)
  · refine gg_aload_n C dX8_after_31 rfl ?_
    refine gg_getR C dX8_after_32 lk_X8_62 hf (fun r3 hf => ?_)
    refine gg_iload_n C dX8_after_35 rfl ?_
    refine gg_iald C dX8_after_36 hf (fun i4 hf => ?_)
    exact gg_sub (L' := [none, none, none]) (by first | exact trivial | simp [gsub]) (hb_37 _ _ hf)
  · refine gg_bipush C dX8_after_8 (v := (100 : Int32)) (by decide) ?_
    refine gg_aload_n C dX8_after_10 rfl ?_
    refine gg_getR C dX8_after_11 lk_X8_62 hf (fun r5 hf => ?_)
    refine gg_iload_n C dX8_after_14 rfl ?_
    refine gg_iald C dX8_after_15 hf (fun i6 hf => ?_)
    refine gg_iload_n C dX8_after_16 rfl ?_
    refine gg_aload_n C dX8_after_17 rfl ?_
    refine gg_getR C dX8_after_18 lk_X8_65 hf (fun r7 hf => ?_)
    refine gg_iload_n C dX8_after_21 rfl ?_
    refine gg_iald C dX8_after_22 hf (fun i8 hf => ?_)
    refine gg_imul C dX8_after_23 ?_
    refine gg_iadd C dX8_after_24 ?_
    refine gg_mmin C dX8_after_25 tw_1684 tw_412 tw_64 tw_min (by decide) (by simp [gcat, gcI, gcL, gcF, gcD]) (by decide) (by decide) ?_
    refine gg_goto (tgt := 37) C dX8_after_28 (by decide) ?_
    exact gg_sub (L' := [none, none, none]) (by first | exact trivial | simp [gsub]) (hb_37 _ _ hf)

def w_X8_percentageAfter_b46 (X : Cx) (post : Int32 → GM → Prop) (px : String → GM → Prop)  (t0 : Int32) (g : GM) : Prop :=
  post t0 g
def w_X8_percentageAfter_b26 (X : Cx) (post : Int32 → GM → Prop) (px : String → GM → Prop)  (l0 : Option Nat) (l1 : Int32) (l2 : Int32) (t0 : Int32) (t1 : Option Nat) (g : GM) : Prop :=
  wPut g t1 8 36 (.int t0) (fun g5 => wGetI g5 l0 8 36 (fun (i6 : Int32) => (if i6 ≤ 0 then wIs g5 l0 8 (w_X8_after X (fun (i8 : Int32) (g7 : GM) => w_X8_percentageAfter_b46 X post px i8 g7) px l0 l1 l2 g5) else w_X8_percentageAfter_b46 X post px (0 : Int32) g5)))
def w_X8_percentageAfter (X : Cx) (post : Int32 → GM → Prop) (px : String → GM → Prop) (v0 : Option Nat) (v1 : Int32) (v2 : Int32) (g : GM) : Prop :=
  wIs g v0 8 (w_X8_noBuild X (fun (i2 : Int32) (g1 : GM) => (if i2 = 0 then w_X8_in X (fun (i4 : Int32) (g3 : GM) => (if i4 = 0 then w_X8_percentageAfter_b26 X post px v0 v1 v2 (2 : Int32) v0 g3 else w_X8_percentageAfter_b26 X post px v0 v1 v2 (0 : Int32) v0 g3)) px v2 (1 : Int32) (99 : Int32) g1 else post (0 : Int32) g1)) px v0 v1 g)
abbrev rm_X8_percentageAfter : Room := { frames := 5, cells := 0, slots := 0, locals := 110 }
set_option maxHeartbeats 4000000 in
set_option maxRecDepth 100000 in
theorem m_X8_percentageAfter {X : Cx} {l : Launch} (hfl : l.stackTraces = false) {post : Int32 → GM → Prop} {px : String → GM → Prop} {v0 : Option Nat} {v1 : Int32} {v2 : Int32} {g : GM} (hf : w_X8_percentageAfter X post px v0 v1 v2 g) : gMet X l yX8_percentageAfter cX8_percentageAfter 3 (some .int) rm_X8_percentageAfter [va_rf v0, .int v1, .int v2] g (qI X post) px := by
  refine gg_enter (L := [some (va_rf v0), some (.int v1), some (.int v2)]) hfl (by decide +kernel) (by simp [lg_sl, gcat, gcI, gcL, gcF, gcD]) (by simp [gll, lv_args, gcat, gcI, gcL, gcF, gcD]) ?_
  intro p e s m args below meth c C hr ht hm
  have C : FC X p l s m args meth c cX8_percentageAfter 3 "ReleasetrainModel" := C
  have hb_46 : ∀ (t0 : Int32) (g : GM), w_X8_percentageAfter_b46 X post px  t0 g → GG X p l e rm_X8_percentageAfter s m args below meth c 3 (vx_MQ below (qI X post) (gXC X px) args s rm_X8_percentageAfter.cells rm_X8_percentageAfter.slots (gA X)) 0 0 46 [none, none, none] [.int t0] g := by
    intro  t0 g hf
    unfold w_X8_percentageAfter_b46 at hf
    exact gg_iret C hr (by decide) (by decide) dX8_percentageAfter_46 rfl hf
  have hb_26 : ∀ (l0 : Option Nat) (l1 : Int32) (l2 : Int32) (t0 : Int32) (t1 : Option Nat) (g : GM), w_X8_percentageAfter_b26 X post px  l0 l1 l2 t0 t1 g → GG X p l e rm_X8_percentageAfter s m args below meth c 3 (vx_MQ below (qI X post) (gXC X px) args s rm_X8_percentageAfter.cells rm_X8_percentageAfter.slots (gA X)) 0 0 26 [some (va_rf l0), some (.int l1), some (.int l2)] [.int t0, va_rf t1] g := by
    intro  l0 l1 l2 t0 t1 g hf
    unfold w_X8_percentageAfter_b26 at hf
    refine gg_put C dX8_percentageAfter_26 pk_X8_110 (gNar_int _) hf (fun g5 hf => ?_)
    refine gg_aload_n C dX8_percentageAfter_29 rfl ?_
    refine gg_getI C dX8_percentageAfter_30 lk_X8_110 hf (fun i6 hf => ?_)
    refine gg_if_le (tgt := 40) C dX8_percentageAfter_33 (by decide) hf (fun hf => ?_) (fun hf => ?_)
    · refine gg_aload_n C dX8_percentageAfter_40 rfl ?_
      refine gg_iload_n C dX8_percentageAfter_41 rfl ?_
      refine gg_iload_n C dX8_percentageAfter_42 rfl ?_
      refine gr_I (k' := 0) (n' := 0) (gk_V (ci := 8) (As := [.int l1, .int l2]) (rest := []) C dX8_percentageAfter_43 rfl rfl tw_1659 tw_1661 tw_31 tw_56 tw_1662 gd_X8_after rfl ⟨by decide, by decide⟩ (by simp [gcat, gcI, gcL, gcF, gcD]) ⟨by decide, by decide⟩ hf (fun hf => m_X8_after hfl hf)) rfl rfl (fun E g9 h9 => gx_out C (fun x hx => (ht x hx).elim) (by decide) (by decide) h9) (fun i8 g7 hf => ?_)
      exact gg_sub (L' := [none, none, none]) (by first | exact trivial | simp [gsub]) (hb_46 _ _ hf)
    · refine gg_iconst C dX8_percentageAfter_36 (v := (0 : Int32)) (by decide) ?_
      refine gg_goto (tgt := 46) C dX8_percentageAfter_37 (by decide) ?_
      exact gg_sub (L' := [none, none, none]) (by first | exact trivial | simp [gsub]) (hb_46 _ _ hf)
  unfold w_X8_percentageAfter at hf
  refine gg_aload_n C dX8_percentageAfter_0 rfl ?_
  refine gg_iload_n C dX8_percentageAfter_1 rfl ?_
  refine gr_I (k' := 0) (n' := 0) (gk_V (ci := 8) (As := [.int v1]) (rest := []) C dX8_percentageAfter_2 rfl rfl tw_1599 tw_1601 tw_26 tw_56 tw_1602 gd_X8_noBuild rfl ⟨by decide, by decide⟩ (by simp [gcat, gcI, gcL, gcF, gcD]) ⟨by decide, by decide⟩ hf (fun hf => m_X8_noBuild hfl hf)) rfl rfl (fun E g9 h9 => gx_out C (fun x hx => (ht x hx).elim) (by decide) (by decide) h9) (fun i2 g1 hf => ?_)
  refine gg_if_eq (tgt := 10) C dX8_percentageAfter_5 (by decide) hf (fun hf => ?_) (fun hf => ?_)
  · refine gg_aload_n C dX8_percentageAfter_10 rfl ?_
    refine gg_iload_n C dX8_percentageAfter_11 rfl ?_
    refine gg_iconst C dX8_percentageAfter_12 (v := (1 : Int32)) (by decide) ?_
    refine gg_bipush C dX8_percentageAfter_13 (v := (99 : Int32)) (by decide) ?_
    refine gr_I (k' := 0) (n' := 0) (gk_S (As := [.int v2, .int (1 : Int32), .int (99 : Int32)]) (rest := [va_rf v0]) C dX8_percentageAfter_15 tw_1580 tw_1581 tw_56 tw_1582 gd_X8_in rfl ⟨by decide, by decide⟩ (by simp [gcat, gcI, gcL, gcF, gcD]) ⟨by decide, by decide⟩ (m_X8_in hfl hf)) rfl rfl (fun E g9 h9 => gx_out C (fun x hx => (ht x hx).elim) (by decide) (by decide) h9) (fun i4 g3 hf => ?_)
    refine gg_if_eq (tgt := 25) C dX8_percentageAfter_18 (by decide) hf (fun hf => ?_) (fun hf => ?_)
    · refine gg_iconst C dX8_percentageAfter_25 (v := (2 : Int32)) (by decide) ?_
      exact hb_26 _ _ _ _ _ _ hf
    · refine gg_iconst C dX8_percentageAfter_21 (v := (0 : Int32)) (by decide) ?_
      refine gg_goto (tgt := 26) C dX8_percentageAfter_22 (by decide) ?_
      exact hb_26 _ _ _ _ _ _ hf
  · refine gg_iconst C dX8_percentageAfter_8 (v := (0 : Int32)) (by decide) ?_
    exact gg_iret C hr (by decide) (by decide) dX8_percentageAfter_9 rfl hf

def w_X8_pass_l46 (X : Cx) (post : Int32 → GM → Prop) (px : String → GM → Prop)  : Nat → Option Nat → Int32 → Int32 → GM → Prop
  | 0, _, _, _, _ => False
  | f + 1, l0, l1, l2, g => wGetI g l0 8 21 (fun (i6 : Int32) => (if i6 ≤ l2 then wGetI g l0 8 35 (fun (i7 : Int32) => wPut g l0 8 35 (.int (i7 + l1)) (fun g8 => wGetI g8 l0 8 35 (fun (i9 : Int32) => post i9 g8))) else wGetR g l0 8 17 (fun (r10 : Option Nat) => wIs g l0 8 (w_X8_after X (fun (i12 : Int32) (g11 : GM) => wAst g11 r10 l2 0 i12 (fun g13 => w_X8_pass_l46 X post px f l0 l1 (l2 + 1) g13)) px l0 l2 l1 g))))
def w_X8_pass_b32 (X : Cx) (post : Int32 → GM → Prop) (px : String → GM → Prop)  (l0 : Option Nat) (l1 : Int32) (t0 : Int32) (t1 : Option Nat) (g : GM) : Prop :=
  wPut g t1 8 36 (.int t0) (fun g4 => wGetI g4 l0 8 36 (fun (i5 : Int32) => (if i5 ≤ 0 then w_X8_pass_l46 X post px 3000 l0 l1 (0 : Int32) g4 else post (0 : Int32) g4)))
def w_X8_pass (X : Cx) (post : Int32 → GM → Prop) (px : String → GM → Prop) (v0 : Option Nat) (v1 : Int32) (g : GM) : Prop :=
  w_X8_in X (fun (i2 : Int32) (g1 : GM) => (if i2 = 0 then w_X8_pass_b32 X post px v0 v1 (1 : Int32) v0 g1 else wGetI g1 v0 8 35 (fun (i3 : Int32) => (if (i3 + v1) ≤ (999 : Int32) then w_X8_pass_b32 X post px v0 v1 (0 : Int32) v0 g1 else w_X8_pass_b32 X post px v0 v1 (2 : Int32) v0 g1)))) px v1 (1 : Int32) (99 : Int32) g
abbrev rm_X8_pass : Room := { frames := 5, cells := 0, slots := 0, locals := 110 }
set_option maxHeartbeats 4000000 in
set_option maxRecDepth 100000 in
theorem m_X8_pass {X : Cx} {l : Launch} (hfl : l.stackTraces = false) {post : Int32 → GM → Prop} {px : String → GM → Prop} {v0 : Option Nat} {v1 : Int32} {g : GM} (hf : w_X8_pass X post px v0 v1 g) : gMet X l yX8_pass cX8_pass 3 (some .int) rm_X8_pass [va_rf v0, .int v1] g (qI X post) px := by
  refine gg_enter (L := [some (va_rf v0), some (.int v1), none]) hfl (by decide +kernel) (by simp [lg_sl, gcat, gcI, gcL, gcF, gcD]) (by simp [gll, lv_args, gcat, gcI, gcL, gcF, gcD]) ?_
  intro p e s m args below meth c C hr ht hm
  have C : FC X p l s m args meth c cX8_pass 3 "ReleasetrainModel" := C
  have hb_46 : ∀ (f : Nat) (l0 : Option Nat) (l1 : Int32) (l2 : Int32) (g : GM), w_X8_pass_l46 X post px  f l0 l1 l2 g → GG X p l e rm_X8_pass s m args below meth c 3 (vx_MQ below (qI X post) (gXC X px) args s rm_X8_pass.cells rm_X8_pass.slots (gA X)) 0 0 46 [some (va_rf l0), some (.int l1), some (.int l2)] [] g := by
    intro  f
    induction f with
    | zero => intro l0 l1 l2 g hf; exact (show False from hf).elim
    | succ f ih =>
      intro l0 l1 l2 g hf
      rw [w_X8_pass_l46] at hf
      refine gg_iload_n C dX8_pass_46 rfl ?_
      refine gg_aload_n C dX8_pass_47 rfl ?_
      refine gg_getI C dX8_pass_48 lk_X8_120 hf (fun i6 hf => ?_)
      refine gg_icmp_ge (tgt := 72) C dX8_pass_51 (by decide) hf (fun hf => ?_) (fun hf => ?_)
      · refine gg_aload_n C dX8_pass_72 rfl ?_
        refine gg_dup C dX8_pass_73 (gcat _) ?_
        refine gg_getI C dX8_pass_74 lk_X8_176 hf (fun i7 hf => ?_)
        refine gg_iload_n C dX8_pass_77 rfl ?_
        refine gg_iadd C dX8_pass_78 ?_
        refine gg_put C dX8_pass_79 pk_X8_176 (gNar_int _) hf (fun g8 hf => ?_)
        refine gg_aload_n C dX8_pass_82 rfl ?_
        refine gg_getI C dX8_pass_83 lk_X8_176 hf (fun i9 hf => ?_)
        exact gg_iret C hr (by decide) (by decide) dX8_pass_86 rfl hf
      · refine gg_aload_n C dX8_pass_54 rfl ?_
        refine gg_getR C dX8_pass_55 lk_X8_62 hf (fun r10 hf => ?_)
        refine gg_iload_n C dX8_pass_58 rfl ?_
        refine gg_aload_n C dX8_pass_59 rfl ?_
        refine gg_iload_n C dX8_pass_60 rfl ?_
        refine gg_iload_n C dX8_pass_61 rfl ?_
        refine gr_I (k' := 0) (n' := 0) (gk_V (ci := 8) (As := [.int l2, .int l1]) (rest := [.int l2, va_rf r10]) C dX8_pass_62 rfl rfl tw_1659 tw_1661 tw_31 tw_56 tw_1662 gd_X8_after rfl ⟨by decide, by decide⟩ (by simp [gcat, gcI, gcL, gcF, gcD]) ⟨by decide, by decide⟩ hf (fun hf => m_X8_after hfl hf)) rfl rfl (fun E g9 h9 => gx_out C (fun x hx => (ht x hx).elim) (by decide) (by decide) h9) (fun i12 g11 hf => ?_)
        refine gg_iast C dX8_pass_65 hf (fun g13 hf => ?_)
        refine gg_iinc (L' := [some (va_rf l0), some (.int l1), some (.int (l2 + 1))]) C dX8_pass_66 rfl (v := (l2 + 1)) rfl (Or.inr (Or.inr ⟨_, rfl, rfl⟩)) (by decide) rfl ?_
        refine gg_goto (tgt := 46) C dX8_pass_69 (by decide) ?_
        exact ih _ _ _ _ hf
  have hb_32 : ∀ (l0 : Option Nat) (l1 : Int32) (t0 : Int32) (t1 : Option Nat) (g : GM), w_X8_pass_b32 X post px  l0 l1 t0 t1 g → GG X p l e rm_X8_pass s m args below meth c 3 (vx_MQ below (qI X post) (gXC X px) args s rm_X8_pass.cells rm_X8_pass.slots (gA X)) 0 0 32 [some (va_rf l0), some (.int l1), none] [.int t0, va_rf t1] g := by
    intro  l0 l1 t0 t1 g hf
    unfold w_X8_pass_b32 at hf
    refine gg_put C dX8_pass_32 pk_X8_110 (gNar_int _) hf (fun g4 hf => ?_)
    refine gg_aload_n C dX8_pass_35 rfl ?_
    refine gg_getI C dX8_pass_36 lk_X8_110 hf (fun i5 hf => ?_)
    refine gg_if_le (tgt := 44) C dX8_pass_39 (by decide) hf (fun hf => ?_) (fun hf => ?_)
    · refine gg_iconst C dX8_pass_44 (v := (0 : Int32)) (by decide) ?_
      refine gg_istore_n (L' := [some (va_rf l0), some (.int l1), some (.int (0 : Int32))]) C dX8_pass_45 (Or.inr (Or.inr ⟨_, rfl, rfl⟩)) (by decide) rfl ?_
      exact hb_46 _ _ _ _ _ hf
    · refine gg_iconst C dX8_pass_42 (v := (0 : Int32)) (by decide) ?_
      exact gg_iret C hr (by decide) (by decide) dX8_pass_43 rfl hf
  unfold w_X8_pass at hf
  refine gg_aload_n C dX8_pass_0 rfl ?_
  refine gg_iload_n C dX8_pass_1 rfl ?_
  refine gg_iconst C dX8_pass_2 (v := (1 : Int32)) (by decide) ?_
  refine gg_bipush C dX8_pass_3 (v := (99 : Int32)) (by decide) ?_
  refine gr_I (k' := 0) (n' := 0) (gk_S (As := [.int v1, .int (1 : Int32), .int (99 : Int32)]) (rest := [va_rf v0]) C dX8_pass_5 tw_1580 tw_1581 tw_56 tw_1582 gd_X8_in rfl ⟨by decide, by decide⟩ (by simp [gcat, gcI, gcL, gcF, gcD]) ⟨by decide, by decide⟩ (m_X8_in hfl hf)) rfl rfl (fun E g9 h9 => gx_out C (fun x hx => (ht x hx).elim) (by decide) (by decide) h9) (fun i2 g1 hf => ?_)
  refine gg_if_ne (tgt := 15) C dX8_pass_8 (by decide) hf (fun hf => ?_) (fun hf => ?_)
  · refine gg_aload_n C dX8_pass_15 rfl ?_
    refine gg_getI C dX8_pass_16 lk_X8_176 hf (fun i3 hf => ?_)
    refine gg_iload_n C dX8_pass_19 rfl ?_
    refine gg_iadd C dX8_pass_20 ?_
    refine gg_sipush C dX8_pass_21 (v := (999 : Int32)) (by decide) ?_
    refine gg_icmp_le (tgt := 31) C dX8_pass_24 (by decide) hf (fun hf => ?_) (fun hf => ?_)
    · refine gg_iconst C dX8_pass_31 (v := (0 : Int32)) (by decide) ?_
      exact hb_32 _ _ _ _ _ hf
    · refine gg_iconst C dX8_pass_27 (v := (2 : Int32)) (by decide) ?_
      refine gg_goto (tgt := 32) C dX8_pass_28 (by decide) ?_
      exact hb_32 _ _ _ _ _ hf
  · refine gg_iconst C dX8_pass_11 (v := (1 : Int32)) (by decide) ?_
    refine gg_goto (tgt := 32) C dX8_pass_12 (by decide) ?_
    exact hb_32 _ _ _ _ _ hf
