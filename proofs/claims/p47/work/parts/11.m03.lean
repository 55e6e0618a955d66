def w_X7_choiceFor_b66 (X : Cx) (post : Option Nat → GM → Prop) (px : String → GM → Prop) (k4 : Option Nat → Option Nat → Option Nat → Int32 → GM → Prop) (l0 : Option Nat) (l1 : Option Nat) (l2 : Option Nat) (l3 : Int32) (g : GM) : Prop :=
  k4 l0 l1 l2 (l3 + 1) g
def w_X7_choiceFor_b63 (X : Cx) (post : Option Nat → GM → Prop) (px : String → GM → Prop) (k4 : Option Nat → Option Nat → Option Nat → Int32 → GM → Prop) (l0 : Option Nat) (l1 : Option Nat) (l3 : Int32) (l4 : Option Nat) (g : GM) : Prop :=
  w_X7_choiceFor_b66 X post px k4 l0 l1 l4 l3 g
def w_X7_choiceFor_l4 (X : Cx) (post : Option Nat → GM → Prop) (px : String → GM → Prop)  : Nat → Option Nat → Option Nat → Option Nat → Int32 → GM → Prop
  | 0, _, _, _, _, _ => False
  | f + 1, l0, l1, l2, l3, g => wGetR g l0 7 2 (fun (r1 : Option Nat) => wIs g r1 10 (w_Jx4a65c_size_8abf5 X (fun (i3 : Int32) (g2 : GM) => (if i3 ≤ l3 then (if l2 = none then px "java/lang/IllegalStateException" g2 else post l2 g2) else wGetR g2 l0 7 2 (fun (r4 : Option Nat) => wIs g2 r4 10 (w_Jx4a65c_get_915e3 X (fun (r6 : Option Nat) (g5 : GM) => wIs g5 r6 1 (wGetR g5 l1 2 3 (fun (r7 : Option Nat) => wIs g5 r6 1 (w_X1_isNewerThan X (fun (i9 : Int32) (g8 : GM) => (if i9 = 0 then w_X7_choiceFor_b66 X post px (w_X7_choiceFor_l4 X post px f) l0 l1 l2 l3 g8 else wIs g8 l0 7 (w_X7_isOpenTo X (fun (i11 : Int32) (g10 : GM) => (if i11 = 0 then w_X7_choiceFor_b66 X post px (w_X7_choiceFor_l4 X post px f) l0 l1 l2 l3 g10 else (if l2 = none then w_X7_choiceFor_b63 X post px (w_X7_choiceFor_l4 X post px f) l0 l1 l3 r6 g10 else wIs g10 r6 1 (w_X1_isGivenAheadOf X (fun (i13 : Int32) (g12 : GM) => (if i13 = 0 then w_X7_choiceFor_b66 X post px (w_X7_choiceFor_l4 X post px f) l0 l1 l2 l3 g12 else w_X7_choiceFor_b63 X post px (w_X7_choiceFor_l4 X post px f) l0 l1 l3 r6 g12)) px r6 l2 g10)))) px l0 r6 l1 g8))) px r6 r7 g5)))) px r4 l3 g2)))) px r1 g))
def w_X7_choiceFor (X : Cx) (post : Option Nat → GM → Prop) (px : String → GM → Prop) (v0 : Option Nat) (v1 : Option Nat) (g : GM) : Prop :=
  w_X7_choiceFor_l4 X post px 3000 v0 v1 none (0 : Int32) g
abbrev rm_X7_choiceFor : Room := { frames := 6, cells := 1, slots := 6, locals := 85 }
set_option maxHeartbeats 4000000 in
set_option maxRecDepth 100000 in
theorem m_X7_choiceFor {X : Cx} {l : Launch} (hfl : l.stackTraces = false) {post : Option Nat → GM → Prop} {px : String → GM → Prop} {v0 : Option Nat} {v1 : Option Nat} {g : GM} (hf : w_X7_choiceFor X post px v0 v1 g) : gMet X l yX7_choiceFor cX7_choiceFor 5 (some (.object "Releasetrain$Build")) rm_X7_choiceFor [va_rf v0, va_rf v1] g (qR X post) px := by
  refine gg_enter (L := [some (va_rf v0), some (va_rf v1), none, none, none]) hfl (by decide +kernel) (by simp [lg_sl, gcat, gcI, gcL, gcF, gcD]) (by simp [gll, lv_args, gcat, gcI, gcL, gcF, gcD]) ?_
  intro p e s m args below meth c C hr ht hm
  have C : FC X p l s m args meth c cX7_choiceFor 5 "Releasetrain" := C
  have hb_66 : ∀ (k4 : Option Nat → Option Nat → Option Nat → Int32 → GM → Prop), (∀ (l0 : Option Nat) (l1 : Option Nat) (l2 : Option Nat) (l3 : Int32) (g : GM), k4 l0 l1 l2 l3 g → GG X p l e rm_X7_choiceFor s m args below meth c 5 (vx_MQ below (qR X post) (gXC X px) args s rm_X7_choiceFor.cells rm_X7_choiceFor.slots (gA X)) 0 0 4 [some (va_rf l0), some (va_rf l1), some (va_rf l2), some (.int l3), none] [] g) → ∀ (l0 : Option Nat) (l1 : Option Nat) (l2 : Option Nat) (l3 : Int32) (g : GM), w_X7_choiceFor_b66 X post px k4 l0 l1 l2 l3 g → GG X p l e rm_X7_choiceFor s m args below meth c 5 (vx_MQ below (qR X post) (gXC X px) args s rm_X7_choiceFor.cells rm_X7_choiceFor.slots (gA X)) 0 0 66 [some (va_rf l0), some (va_rf l1), some (va_rf l2), some (.int l3), none] [] g := by
    intro k4 hk4 l0 l1 l2 l3 g hf
    unfold w_X7_choiceFor_b66 at hf
    refine gg_iinc (L' := [some (va_rf l0), some (va_rf l1), some (va_rf l2), some (.int (l3 + 1)), none]) C dX7_choiceFor_66 rfl (v := (l3 + 1)) rfl (Or.inr (Or.inr ⟨_, rfl, gcat _⟩)) (by decide) rfl ?_
    refine gg_goto (tgt := 4) C dX7_choiceFor_69 (by decide) ?_
    exact hk4 _ _ _ _ _ hf
  have hb_63 : ∀ (k4 : Option Nat → Option Nat → Option Nat → Int32 → GM → Prop), (∀ (l0 : Option Nat) (l1 : Option Nat) (l2 : Option Nat) (l3 : Int32) (g : GM), k4 l0 l1 l2 l3 g → GG X p l e rm_X7_choiceFor s m args below meth c 5 (vx_MQ below (qR X post) (gXC X px) args s rm_X7_choiceFor.cells rm_X7_choiceFor.slots (gA X)) 0 0 4 [some (va_rf l0), some (va_rf l1), some (va_rf l2), some (.int l3), none] [] g) → ∀ (l0 : Option Nat) (l1 : Option Nat) (l3 : Int32) (l4 : Option Nat) (g : GM), w_X7_choiceFor_b63 X post px k4 l0 l1 l3 l4 g → GG X p l e rm_X7_choiceFor s m args below meth c 5 (vx_MQ below (qR X post) (gXC X px) args s rm_X7_choiceFor.cells rm_X7_choiceFor.slots (gA X)) 0 0 63 [some (va_rf l0), some (va_rf l1), none, some (.int l3), some (va_rf l4)] [] g := by
    intro k4 hk4 l0 l1 l3 l4 g hf
    unfold w_X7_choiceFor_b63 at hf
    refine gg_aload C dX7_choiceFor_63 rfl ?_
    refine gg_astore_n (L' := [some (va_rf l0), some (va_rf l1), some (va_rf l4), some (.int l3), some (va_rf l4)]) C dX7_choiceFor_65 (Or.inr (Or.inr ⟨_, rfl, gcat _⟩)) (by decide) rfl ?_
    exact gg_sub (L' := [some (va_rf l0), some (va_rf l1), some (va_rf l4), some (.int l3), none]) (by first | exact ⟨rfl, ⟨rfl, ⟨rfl, ⟨rfl, trivial⟩⟩⟩⟩ | simp [gsub]) (hb_66 _ hk4 _ _ _ _ _ hf)
  have hb_4 : ∀ (f : Nat) (l0 : Option Nat) (l1 : Option Nat) (l2 : Option Nat) (l3 : Int32) (g : GM), w_X7_choiceFor_l4 X post px  f l0 l1 l2 l3 g → GG X p l e rm_X7_choiceFor s m args below meth c 5 (vx_MQ below (qR X post) (gXC X px) args s rm_X7_choiceFor.cells rm_X7_choiceFor.slots (gA X)) 0 0 4 [some (va_rf l0), some (va_rf l1), some (va_rf l2), some (.int l3), none] [] g := by
    intro  f
    induction f with
    | zero => intro l0 l1 l2 l3 g hf; exact (show False from hf).elim
    | succ f ih =>
      intro l0 l1 l2 l3 g hf
      rw [w_X7_choiceFor_l4] at hf
      refine gg_iload_n C dX7_choiceFor_4 rfl ?_
      refine gg_aload_n C dX7_choiceFor_5 rfl ?_
      refine gg_getR C dX7_choiceFor_6 lk_X7_19 hf (fun r1 hf => ?_)
      refine gr_I (k' := 0) (n' := 0) (gk_V (ci := 10) (As := []) (rest := [.int l3]) C dX7_choiceFor_9 rfl rfl tw_189 tw_190 tw_191 tw_28 tw_192 gd_Jx4a65c_size_8abf5 rfl ⟨by decide, by decide⟩ (by simp [gcat, gcI, gcL, gcF, gcD]) ⟨by decide, by decide⟩ hf (fun hf => m_Jx4a65c_size_8abf5 hfl hf)) rfl rfl (fun E g9 h9 => gx_out C (fun x hx => (ht x hx).elim) (by decide) (by decide) h9) (fun i3 g2 hf => ?_)
      refine gg_icmp_ge (tgt := 72) C dX7_choiceFor_12 (by decide) hf (fun hf => ?_) (fun hf => ?_)
      · refine gg_aload_n C dX7_choiceFor_72 rfl ?_
        refine gg_ifnonnull (tgt := 87) C dX7_choiceFor_73 (by decide) hf (fun hf => ?_) (fun hf => ?_)
        · refine gg_aload_n C dX7_choiceFor_87 rfl ?_
          exact gg_aret C hr (Or.inl ⟨_, rfl⟩) (by decide) (by decide) dX7_choiceFor_88 hf
        · exact gg_throwW (cls := "java/lang/IllegalStateException") (names := ["java/lang/RuntimeException", "java/lang/Exception"]) C (by decide +kernel) (by decide +kernel) tw_327 tw_40 xk_X7_82 (show ("Releasetrain", 450, "it is given none", 47) ∈ gStr by decide +kernel) dX7_choiceFor_76 dX7_choiceFor_79 dX7_choiceFor_80 dX7_choiceFor_83 dX7_choiceFor_86 (fun x hx => (ht x hx).elim) (by decide) (by simp [gcat, gcI, gcL, gcF, gcD]) (by decide) (by decide) (by decide) (by decide) hf
      · refine gg_aload_n C dX7_choiceFor_15 rfl ?_
        refine gg_getR C dX7_choiceFor_16 lk_X7_19 hf (fun r4 hf => ?_)
        refine gg_iload_n C dX7_choiceFor_19 rfl ?_
        refine gr_R (k' := 0) (n' := 0) (gk_V (ci := 10) (As := [.int l3]) (rest := []) C dX7_choiceFor_20 rfl rfl tw_288 tw_289 tw_290 tw_28 tw_291 gd_Jx4a65c_get_915e3 rfl ⟨by decide, by decide⟩ (by simp [gcat, gcI, gcL, gcF, gcD]) ⟨by decide, by decide⟩ hf (fun hf => m_Jx4a65c_get_915e3 hfl hf)) rfl rfl (fun E g9 h9 => gx_out C (fun x hx => (ht x hx).elim) (by decide) (by decide) h9) (fun r6 g5 hf => ?_)
        refine gg_ccast (ci := 1) C dX7_choiceFor_23 rfl tw_302 hf (fun hf => ?_)
        refine gg_astore (L' := [some (va_rf l0), some (va_rf l1), some (va_rf l2), some (.int l3), some (va_rf r6)]) C dX7_choiceFor_26 (Or.inr (Or.inr ⟨_, rfl, rfl⟩)) (by decide) rfl ?_
        refine gg_aload C dX7_choiceFor_28 rfl ?_
        refine gg_aload_n C dX7_choiceFor_30 rfl ?_
        refine gg_getR C dX7_choiceFor_31 lk_X7_225 hf (fun r7 hf => ?_)
        refine gr_I (k' := 0) (n' := 0) (gk_V (ci := 1) (As := [va_rf r7]) (rest := []) C dX7_choiceFor_34 rfl rfl tw_1024 tw_1025 tw_1026 tw_59 tw_1027 gd_X1_isNewerThan rfl ⟨by decide, by decide⟩ (by simp [gcat, gcI, gcL, gcF, gcD]) ⟨by decide, by decide⟩ hf (fun hf => m_X1_isNewerThan hfl hf)) rfl rfl (fun E g9 h9 => gx_out C (fun x hx => (ht x hx).elim) (by decide) (by decide) h9) (fun i9 g8 hf => ?_)
        refine gg_if_eq (tgt := 66) C dX7_choiceFor_37 (by decide) hf (fun hf => ?_) (fun hf => ?_)
        · exact gg_sub (L' := [some (va_rf l0), some (va_rf l1), some (va_rf l2), some (.int l3), none]) (by first | exact ⟨rfl, ⟨rfl, ⟨rfl, ⟨rfl, trivial⟩⟩⟩⟩ | simp [gsub]) (hb_66 _ ih _ _ _ _ _ hf)
        · refine gg_aload_n C dX7_choiceFor_40 rfl ?_
          refine gg_aload C dX7_choiceFor_41 rfl ?_
          refine gg_aload_n C dX7_choiceFor_43 rfl ?_
          refine gr_I (k' := 0) (n' := 0) (gk_V (ci := 7) (As := [va_rf r6, va_rf l1]) (rest := []) C dX7_choiceFor_44 rfl rfl tw_681 tw_683 tw_13 tw_25 tw_684 gd_X7_isOpenTo rfl ⟨by decide, by decide⟩ (by simp [gcat, gcI, gcL, gcF, gcD]) ⟨by decide, by decide⟩ hf (fun hf => m_X7_isOpenTo hfl hf)) rfl rfl (fun E g9 h9 => gx_out C (fun x hx => (ht x hx).elim) (by decide) (by decide) h9) (fun i11 g10 hf => ?_)
          refine gg_if_eq (tgt := 66) C dX7_choiceFor_47 (by decide) hf (fun hf => ?_) (fun hf => ?_)
          · exact gg_sub (L' := [some (va_rf l0), some (va_rf l1), some (va_rf l2), some (.int l3), none]) (by first | exact ⟨rfl, ⟨rfl, ⟨rfl, ⟨rfl, trivial⟩⟩⟩⟩ | simp [gsub]) (hb_66 _ ih _ _ _ _ _ hf)
          · refine gg_aload_n C dX7_choiceFor_50 rfl ?_
            refine gg_ifnull (tgt := 63) C dX7_choiceFor_51 (by decide) hf (fun hf => ?_) (fun hf => ?_)
            · exact gg_sub (L' := [some (va_rf l0), some (va_rf l1), none, some (.int l3), some (va_rf r6)]) (by first | exact ⟨rfl, ⟨rfl, ⟨rfl, ⟨rfl, trivial⟩⟩⟩⟩ | simp [gsub]) (hb_63 _ ih _ _ _ _ _ hf)
            · refine gg_aload C dX7_choiceFor_54 rfl ?_
              refine gg_aload_n C dX7_choiceFor_56 rfl ?_
              refine gr_I (k' := 0) (n' := 0) (gk_V (ci := 1) (As := [va_rf l2]) (rest := []) C dX7_choiceFor_57 rfl rfl tw_1028 tw_1029 tw_1030 tw_59 tw_1031 gd_X1_isGivenAheadOf rfl ⟨by decide, by decide⟩ (by simp [gcat, gcI, gcL, gcF, gcD]) ⟨by decide, by decide⟩ hf (fun hf => m_X1_isGivenAheadOf hfl hf)) rfl rfl (fun E g9 h9 => gx_out C (fun x hx => (ht x hx).elim) (by decide) (by decide) h9) (fun i13 g12 hf => ?_)
              refine gg_if_eq (tgt := 66) C dX7_choiceFor_60 (by decide) hf (fun hf => ?_) (fun hf => ?_)
              · exact gg_sub (L' := [some (va_rf l0), some (va_rf l1), some (va_rf l2), some (.int l3), none]) (by first | exact ⟨rfl, ⟨rfl, ⟨rfl, ⟨rfl, trivial⟩⟩⟩⟩ | simp [gsub]) (hb_66 _ ih _ _ _ _ _ hf)
              · exact gg_sub (L' := [some (va_rf l0), some (va_rf l1), none, some (.int l3), some (va_rf r6)]) (by first | exact ⟨rfl, ⟨rfl, ⟨rfl, ⟨rfl, trivial⟩⟩⟩⟩ | simp [gsub]) (hb_63 _ ih _ _ _ _ _ hf)
  unfold w_X7_choiceFor at hf
  refine gg_null C dX7_choiceFor_0 ?_
  refine gg_astore_n (L' := [some (va_rf v0), some (va_rf v1), some (va_rf none), none, none]) C dX7_choiceFor_1 (Or.inr (Or.inr ⟨_, rfl, gcat _⟩)) (by decide) rfl ?_
  refine gg_iconst C dX7_choiceFor_2 (v := (0 : Int32)) (by decide) ?_
  refine gg_istore_n (L' := [some (va_rf v0), some (va_rf v1), some (va_rf none), some (.int (0 : Int32)), none]) C dX7_choiceFor_3 (Or.inr (Or.inr ⟨_, rfl, gcat _⟩)) (by decide) rfl ?_
  exact hb_4 _ _ _ _ _ _ hf

def w_X7_offered (X : Cx) (post : Int32 → GM → Prop) (px : String → GM → Prop) (v0 : Option Nat) (v1 : Int32) (g : GM) : Prop :=
  wIs g v0 7 (w_X7_knownDevice X (fun (r2 : Option Nat) (g1 : GM) => wIs g1 v0 7 (w_X7_choiceFor X (fun (r4 : Option Nat) (g3 : GM) => wGetI g3 r4 1 0 (fun (i5 : Int32) => post i5 g3)) px v0 r2 g1)) px v0 v1 g)
abbrev rm_X7_offered : Room := { frames := 7, cells := 2, slots := 12, locals := 109 }
set_option maxHeartbeats 4000000 in
set_option maxRecDepth 100000 in
theorem m_X7_offered {X : Cx} {l : Launch} (hfl : l.stackTraces = false) {post : Int32 → GM → Prop} {px : String → GM → Prop} {v0 : Option Nat} {v1 : Int32} {g : GM} (hf : w_X7_offered X post px v0 v1 g) : gMet X l yX7_offered cX7_offered 2 (some .int) rm_X7_offered [va_rf v0, .int v1] g (qI X post) px := by
  refine gg_enter (L := [some (va_rf v0), some (.int v1)]) hfl (by decide +kernel) (by simp [lg_sl, gcat, gcI, gcL, gcF, gcD]) (by simp [gll, lv_args, gcat, gcI, gcL, gcF, gcD]) ?_
  intro p e s m args below meth c C hr ht hm
  have C : FC X p l s m args meth c cX7_offered 2 "Releasetrain" := C
  unfold w_X7_offered at hf
  refine gg_aload_n C dX7_offered_0 rfl ?_
  refine gg_aload_n C dX7_offered_1 rfl ?_
  refine gg_iload_n C dX7_offered_2 rfl ?_
  refine gr_R (k' := 1) (n' := 6) (gk_V (ci := 7) (As := [.int v1]) (rest := [va_rf v0]) C dX7_offered_3 rfl rfl tw_1015 tw_1017 tw_16 tw_25 tw_1018 gd_X7_knownDevice rfl ⟨by decide, by decide⟩ (by simp [gcat, gcI, gcL, gcF, gcD]) ⟨by decide, by decide⟩ hf (fun hf => m_X7_knownDevice hfl hf)) rfl rfl (fun E g9 h9 => gx_out C (fun x hx => (ht x hx).elim) (by decide) (by decide) h9) (fun r2 g1 hf => ?_)
  refine gr_R (k' := 2) (n' := 12) (gk_V (ci := 7) (As := [va_rf r2]) (rest := []) C dX7_offered_6 rfl rfl tw_1020 tw_1022 tw_17 tw_25 tw_1023 gd_X7_choiceFor rfl ⟨by decide, by decide⟩ (by simp [gcat, gcI, gcL, gcF, gcD]) ⟨by decide, by decide⟩ hf (fun hf => m_X7_choiceFor hfl hf)) rfl rfl (fun E g9 h9 => gx_out C (fun x hx => (ht x hx).elim) (by decide) (by decide) h9) (fun r4 g3 hf => ?_)
  refine gg_getI C dX7_offered_9 lk_X7_142 hf (fun i5 hf => ?_)
  exact gg_iret C hr (by decide) (by decide) dX7_offered_12 rfl hf

def w_X7_update_b34 (X : Cx) (post : Int32 → GM → Prop) (px : String → GM → Prop)  (l2 : Option Nat) (l3 : Option Nat) (g : GM) : Prop :=
  wGetR g l3 1 6 (fun (r6 : Option Nat) => wGetI g l2 2 2 (fun (i7 : Int32) => wIs g r6 0 (w_X0_change X (fun (g8 : GM) => wGetI g8 l3 1 12 (fun (i9 : Int32) => wPut g8 l3 1 12 (.int (i9 + (1 : Int32))) (fun g10 => wPut g10 l2 2 3 (va_rf l3) (fun g11 => wPut g11 l2 2 4 (.int (0 : Int32)) (fun g12 => wGetI g12 l3 1 0 (fun (i13 : Int32) => post i13 g12)))))) px r6 i7 (1 : Int32) g)))
def w_X7_update (X : Cx) (post : Int32 → GM → Prop) (px : String → GM → Prop) (v0 : Option Nat) (v1 : Int32) (g : GM) : Prop :=
  wIs g v0 7 (w_X7_knownDevice X (fun (r2 : Option Nat) (g1 : GM) => wIs g1 v0 7 (w_X7_choiceFor X (fun (r4 : Option Nat) (g3 : GM) => wGetR g3 r2 2 3 (fun (r5 : Option Nat) => (if r5 = none then w_X7_update_b34 X post px r2 r4 g3 else wGetR g3 r2 2 3 (fun (r14 : Option Nat) => wGetR g3 r14 1 6 (fun (r15 : Option Nat) => wGetI g3 r2 2 2 (fun (i16 : Int32) => wIs g3 r15 0 (w_X0_change X (fun (g17 : GM) => w_X7_update_b34 X post px r2 r4 g17) px r15 i16 (-1 : Int32) g3))))))) px v0 r2 g1)) px v0 v1 g)
abbrev rm_X7_update : Room := { frames := 7, cells := 2, slots := 12, locals := 109 }
set_option maxHeartbeats 4000000 in
set_option maxRecDepth 100000 in
theorem m_X7_update {X : Cx} {l : Launch} (hfl : l.stackTraces = false) {post : Int32 → GM → Prop} {px : String → GM → Prop} {v0 : Option Nat} {v1 : Int32} {g : GM} (hf : w_X7_update X post px v0 v1 g) : gMet X l yX7_update cX7_update 4 (some .int) rm_X7_update [va_rf v0, .int v1] g (qI X post) px := by
  refine gg_enter (L := [some (va_rf v0), some (.int v1), none, none]) hfl (by decide +kernel) (by simp [lg_sl, gcat, gcI, gcL, gcF, gcD]) (by simp [gll, lv_args, gcat, gcI, gcL, gcF, gcD]) ?_
  intro p e s m args below meth c C hr ht hm
  have C : FC X p l s m args meth c cX7_update 4 "Releasetrain" := C
  have hb_34 : ∀ (l2 : Option Nat) (l3 : Option Nat) (g : GM), w_X7_update_b34 X post px  l2 l3 g → GG X p l e rm_X7_update s m args below meth c 4 (vx_MQ below (qI X post) (gXC X px) args s rm_X7_update.cells rm_X7_update.slots (gA X)) 2 12 34 [none, none, some (va_rf l2), some (va_rf l3)] [] g := by
    intro  l2 l3 g hf
    unfold w_X7_update_b34 at hf
    refine gg_aload_n C dX7_update_34 rfl ?_
    refine gg_getR C dX7_update_35 lk_X7_215 hf (fun r6 hf => ?_)
    refine gg_aload_n C dX7_update_38 rfl ?_
    refine gg_getI C dX7_update_39 lk_X7_228 hf (fun i7 hf => ?_)
    refine gg_iconst C dX7_update_42 (v := (1 : Int32)) (by decide) ?_
    refine gr_V (k' := 2) (n' := 12) (gk_V (ci := 0) (As := [.int i7, .int (1 : Int32)]) (rest := []) C dX7_update_43 rfl rfl tw_582 tw_583 tw_584 tw_58 tw_585 gd_X0_change rfl ⟨by decide, by decide⟩ (by simp [gcat, gcI, gcL, gcF, gcD]) ⟨by decide, by decide⟩ hf (fun hf => m_X0_change hfl hf)) rfl rfl (fun E g9 h9 => gx_out C (fun x hx => (ht x hx).elim) (by decide) (by decide) h9) (fun g8 hf => ?_)
    refine gg_aload_n C dX7_update_46 rfl ?_
    refine gg_dup C dX7_update_47 (gcat _) ?_
    refine gg_getI C dX7_update_48 lk_X7_231 hf (fun i9 hf => ?_)
    refine gg_iconst C dX7_update_51 (v := (1 : Int32)) (by decide) ?_
    refine gg_iadd C dX7_update_52 ?_
    refine gg_put C dX7_update_53 pk_X7_231 (gNar_int _) hf (fun g10 hf => ?_)
    refine gg_aload_n C dX7_update_56 rfl ?_
    refine gg_aload_n C dX7_update_57 rfl ?_
    refine gg_put C dX7_update_58 pk_X7_225 (gNar_obj _ _) hf (fun g11 hf => ?_)
    refine gg_aload_n C dX7_update_61 rfl ?_
    refine gg_iconst C dX7_update_62 (v := (0 : Int32)) (by decide) ?_
    refine gg_put C dX7_update_63 pk_X7_234 (gNar_int _) hf (fun g12 hf => ?_)
    refine gg_aload_n C dX7_update_66 rfl ?_
    refine gg_getI C dX7_update_67 lk_X7_142 hf (fun i13 hf => ?_)
    exact gg_iret C hr (by decide) (by decide) dX7_update_70 rfl hf
  unfold w_X7_update at hf
  refine gg_aload_n C dX7_update_0 rfl ?_
  refine gg_iload_n C dX7_update_1 rfl ?_
  refine gr_R (k' := 1) (n' := 6) (gk_V (ci := 7) (As := [.int v1]) (rest := []) C dX7_update_2 rfl rfl tw_1015 tw_1017 tw_16 tw_25 tw_1018 gd_X7_knownDevice rfl ⟨by decide, by decide⟩ (by simp [gcat, gcI, gcL, gcF, gcD]) ⟨by decide, by decide⟩ hf (fun hf => m_X7_knownDevice hfl hf)) rfl rfl (fun E g9 h9 => gx_out C (fun x hx => (ht x hx).elim) (by decide) (by decide) h9) (fun r2 g1 hf => ?_)
  refine gg_astore_n (L' := [some (va_rf v0), some (.int v1), some (va_rf r2), none]) C dX7_update_5 (Or.inr (Or.inr ⟨_, rfl, rfl⟩)) (by decide) rfl ?_
  refine gg_aload_n C dX7_update_6 rfl ?_
  refine gg_aload_n C dX7_update_7 rfl ?_
  refine gr_R (k' := 2) (n' := 12) (gk_V (ci := 7) (As := [va_rf r2]) (rest := []) C dX7_update_8 rfl rfl tw_1020 tw_1022 tw_17 tw_25 tw_1023 gd_X7_choiceFor rfl ⟨by decide, by decide⟩ (by simp [gcat, gcI, gcL, gcF, gcD]) ⟨by decide, by decide⟩ hf (fun hf => m_X7_choiceFor hfl hf)) rfl rfl (fun E g9 h9 => gx_out C (fun x hx => (ht x hx).elim) (by decide) (by decide) h9) (fun r4 g3 hf => ?_)
  refine gg_astore_n (L' := [some (va_rf v0), some (.int v1), some (va_rf r2), some (va_rf r4)]) C dX7_update_11 (Or.inr (Or.inr ⟨_, rfl, gcat _⟩)) (by decide) rfl ?_
  refine gg_aload_n C dX7_update_12 rfl ?_
  refine gg_getR C dX7_update_13 lk_X7_225 hf (fun r5 hf => ?_)
  refine gg_ifnull (tgt := 34) C dX7_update_16 (by decide) hf (fun hf => ?_) (fun hf => ?_)
  · exact gg_sub (L' := [none, none, some (va_rf r2), some (va_rf r4)]) (by first | exact ⟨rfl, ⟨rfl, trivial⟩⟩ | simp [gsub]) (hb_34 _ _ _ hf)
  · refine gg_aload_n C dX7_update_19 rfl ?_
    refine gg_getR C dX7_update_20 lk_X7_225 hf (fun r14 hf => ?_)
    refine gg_getR C dX7_update_23 lk_X7_215 hf (fun r15 hf => ?_)
    refine gg_aload_n C dX7_update_26 rfl ?_
    refine gg_getI C dX7_update_27 lk_X7_228 hf (fun i16 hf => ?_)
    refine gg_iconst C dX7_update_30 (v := (-1 : Int32)) (by decide) ?_
    refine gr_V (k' := 2) (n' := 12) (gk_V (ci := 0) (As := [.int i16, .int (-1 : Int32)]) (rest := []) C dX7_update_31 rfl rfl tw_582 tw_583 tw_584 tw_58 tw_585 gd_X0_change rfl ⟨by decide, by decide⟩ (by simp [gcat, gcI, gcL, gcF, gcD]) ⟨by decide, by decide⟩ hf (fun hf => m_X0_change hfl hf)) rfl rfl (fun E g9 h9 => gx_out C (fun x hx => (ht x hx).elim) (by decide) (by decide) h9) (fun g17 hf => ?_)
    exact gg_sub (L' := [none, none, some (va_rf r2), some (va_rf r4)]) (by first | exact ⟨rfl, ⟨rfl, trivial⟩⟩ | simp [gsub]) (hb_34 _ _ _ hf)

def w_X7_buildHadBy (X : Cx) (post : Option Nat → GM → Prop) (px : String → GM → Prop) (v0 : Option Nat) (g : GM) : Prop :=
  wGetR g v0 2 3 (fun (r1 : Option Nat) => (if r1 = none then px "java/lang/IllegalStateException" g else post r1 g))
abbrev rm_X7_buildHadBy : Room := { frames := 6, cells := 1, slots := 6, locals := 82 }
set_option maxHeartbeats 4000000 in
set_option maxRecDepth 100000 in
theorem m_X7_buildHadBy {X : Cx} {l : Launch} (hfl : l.stackTraces = false) {post : Option Nat → GM → Prop} {px : String → GM → Prop} {v0 : Option Nat} {g : GM} (hf : w_X7_buildHadBy X post px v0 g) : gMet X l yX7_buildHadBy cX7_buildHadBy 2 (some (.object "Releasetrain$Build")) rm_X7_buildHadBy [va_rf v0] g (qR X post) px := by
  refine gg_enter (L := [some (va_rf v0), none]) hfl (by decide +kernel) (by simp [lg_sl, gcat, gcI, gcL, gcF, gcD]) (by simp [gll, lv_args, gcat, gcI, gcL, gcF, gcD]) ?_
  intro p e s m args below meth c C hr ht hm
  have C : FC X p l s m args meth c cX7_buildHadBy 2 "Releasetrain" := C
  unfold w_X7_buildHadBy at hf
  refine gg_aload_n C dX7_buildHadBy_0 rfl ?_
  refine gg_getR C dX7_buildHadBy_1 lk_X7_225 hf (fun r1 hf => ?_)
  refine gg_astore_n (L' := [some (va_rf v0), some (va_rf r1)]) C dX7_buildHadBy_4 (Or.inr (Or.inr ⟨_, rfl, gcat _⟩)) (by decide) rfl ?_
  refine gg_aload_n C dX7_buildHadBy_5 rfl ?_
  refine gg_ifnonnull (tgt := 20) C dX7_buildHadBy_6 (by decide) hf (fun hf => ?_) (fun hf => ?_)
  · refine gg_aload_n C dX7_buildHadBy_20 rfl ?_
    exact gg_aret C hr (Or.inl ⟨_, rfl⟩) (by decide) (by decide) dX7_buildHadBy_21 hf
  · exact gg_throwW (cls := "java/lang/IllegalStateException") (names := ["java/lang/RuntimeException", "java/lang/Exception"]) C (by decide +kernel) (by decide +kernel) tw_327 tw_40 xk_X7_82 (show ("Releasetrain", 403, "it has no build", 43) ∈ gStr by decide +kernel) dX7_buildHadBy_9 dX7_buildHadBy_12 dX7_buildHadBy_13 dX7_buildHadBy_16 dX7_buildHadBy_19 (fun x hx => (ht x hx).elim) (by decide) (by simp [gcat, gcI, gcL, gcF, gcD]) (by decide) (by decide) (by decide) (by decide) hf

def w_X7_buildOf (X : Cx) (post : Int32 → GM → Prop) (px : String → GM → Prop) (v0 : Option Nat) (v1 : Int32) (g : GM) : Prop :=
  wIs g v0 7 (w_X7_knownDevice X (fun (r2 : Option Nat) (g1 : GM) => w_X7_buildHadBy X (fun (r4 : Option Nat) (g3 : GM) => wGetI g3 r4 1 0 (fun (i5 : Int32) => post i5 g3)) px r2 g1) px v0 v1 g)
abbrev rm_X7_buildOf : Room := { frames := 7, cells := 2, slots := 12, locals := 103 }
set_option maxHeartbeats 4000000 in
set_option maxRecDepth 100000 in
theorem m_X7_buildOf {X : Cx} {l : Launch} (hfl : l.stackTraces = false) {post : Int32 → GM → Prop} {px : String → GM → Prop} {v0 : Option Nat} {v1 : Int32} {g : GM} (hf : w_X7_buildOf X post px v0 v1 g) : gMet X l yX7_buildOf cX7_buildOf 2 (some .int) rm_X7_buildOf [va_rf v0, .int v1] g (qI X post) px := by
  refine gg_enter (L := [some (va_rf v0), some (.int v1)]) hfl (by decide +kernel) (by simp [lg_sl, gcat, gcI, gcL, gcF, gcD]) (by simp [gll, lv_args, gcat, gcI, gcL, gcF, gcD]) ?_
  intro p e s m args below meth c C hr ht hm
  have C : FC X p l s m args meth c cX7_buildOf 2 "Releasetrain" := C
  unfold w_X7_buildOf at hf
  refine gg_aload_n C dX7_buildOf_0 rfl ?_
  refine gg_iload_n C dX7_buildOf_1 rfl ?_
  refine gr_R (k' := 1) (n' := 6) (gk_V (ci := 7) (As := [.int v1]) (rest := []) C dX7_buildOf_2 rfl rfl tw_1015 tw_1017 tw_16 tw_25 tw_1018 gd_X7_knownDevice rfl ⟨by decide, by decide⟩ (by simp [gcat, gcI, gcL, gcF, gcD]) ⟨by decide, by decide⟩ hf (fun hf => m_X7_knownDevice hfl hf)) rfl rfl (fun E g9 h9 => gx_out C (fun x hx => (ht x hx).elim) (by decide) (by decide) h9) (fun r2 g1 hf => ?_)
  refine gr_R (k' := 2) (n' := 12) (gk_S (As := [va_rf r2]) (rest := []) C dX7_buildOf_5 tw_1042 tw_1043 tw_25 tw_1044 gd_X7_buildHadBy rfl ⟨by decide, by decide⟩ (by simp [gcat, gcI, gcL, gcF, gcD]) ⟨by decide, by decide⟩ (m_X7_buildHadBy hfl hf)) rfl rfl (fun E g9 h9 => gx_out C (fun x hx => (ht x hx).elim) (by decide) (by decide) h9) (fun r4 g3 hf => ?_)
  refine gg_getI C dX7_buildOf_8 lk_X7_142 hf (fun i5 hf => ?_)
  exact gg_iret C hr (by decide) (by decide) dX7_buildOf_11 rfl hf

def w_X7_devicesWith (X : Cx) (post : Int32 → GM → Prop) (px : String → GM → Prop) (v0 : Option Nat) (v1 : Int32) (g : GM) : Prop :=
  wIs g v0 7 (w_X7_knownBuild X (fun (r2 : Option Nat) (g1 : GM) => wGetR g1 r2 1 6 (fun (r3 : Option Nat) => wGetI g1 r3 0 1 (fun (i4 : Int32) => post i4 g1))) px v0 v1 g)
abbrev rm_X7_devicesWith : Room := { frames := 7, cells := 1, slots := 6, locals := 103 }
set_option maxHeartbeats 4000000 in
set_option maxRecDepth 100000 in
theorem m_X7_devicesWith {X : Cx} {l : Launch} (hfl : l.stackTraces = false) {post : Int32 → GM → Prop} {px : String → GM → Prop} {v0 : Option Nat} {v1 : Int32} {g : GM} (hf : w_X7_devicesWith X post px v0 v1 g) : gMet X l yX7_devicesWith cX7_devicesWith 2 (some .int) rm_X7_devicesWith [va_rf v0, .int v1] g (qI X post) px := by
  refine gg_enter (L := [some (va_rf v0), some (.int v1)]) hfl (by decide +kernel) (by simp [lg_sl, gcat, gcI, gcL, gcF, gcD]) (by simp [gll, lv_args, gcat, gcI, gcL, gcF, gcD]) ?_
  intro p e s m args below meth c C hr ht hm
  have C : FC X p l s m args meth c cX7_devicesWith 2 "Releasetrain" := C
  unfold w_X7_devicesWith at hf
  refine gg_aload_n C dX7_devicesWith_0 rfl ?_
  refine gg_iload_n C dX7_devicesWith_1 rfl ?_
  refine gr_R (k' := 1) (n' := 6) (gk_V (ci := 7) (As := [.int v1]) (rest := []) C dX7_devicesWith_2 rfl rfl tw_209 tw_211 tw_0 tw_25 tw_212 gd_X7_knownBuild rfl ⟨by decide, by decide⟩ (by simp [gcat, gcI, gcL, gcF, gcD]) ⟨by decide, by decide⟩ hf (fun hf => m_X7_knownBuild hfl hf)) rfl rfl (fun E g9 h9 => gx_out C (fun x hx => (ht x hx).elim) (by decide) (by decide) h9) (fun r2 g1 hf => ?_)
  refine gg_getR C dX7_devicesWith_5 lk_X7_215 hf (fun r3 hf => ?_)
  refine gg_getI C dX7_devicesWith_8 lk_X7_218 hf (fun i4 hf => ?_)
  exact gg_iret C hr (by decide) (by decide) dX7_devicesWith_11 rfl hf

def w_X7_installs (X : Cx) (post : Int32 → GM → Prop) (px : String → GM → Prop) (v0 : Option Nat) (v1 : Int32) (g : GM) : Prop :=
  wIs g v0 7 (w_X7_knownBuild X (fun (r2 : Option Nat) (g1 : GM) => wGetI g1 r2 1 12 (fun (i3 : Int32) => post i3 g1)) px v0 v1 g)
abbrev rm_X7_installs : Room := { frames := 7, cells := 1, slots := 6, locals := 103 }
set_option maxHeartbeats 4000000 in
set_option maxRecDepth 100000 in
theorem m_X7_installs {X : Cx} {l : Launch} (hfl : l.stackTraces = false) {post : Int32 → GM → Prop} {px : String → GM → Prop} {v0 : Option Nat} {v1 : Int32} {g : GM} (hf : w_X7_installs X post px v0 v1 g) : gMet X l yX7_installs cX7_installs 2 (some .int) rm_X7_installs [va_rf v0, .int v1] g (qI X post) px := by
  refine gg_enter (L := [some (va_rf v0), some (.int v1)]) hfl (by decide +kernel) (by simp [lg_sl, gcat, gcI, gcL, gcF, gcD]) (by simp [gll, lv_args, gcat, gcI, gcL, gcF, gcD]) ?_
  intro p e s m args below meth c C hr ht hm
  have C : FC X p l s m args meth c cX7_installs 2 "Releasetrain" := C
  unfold w_X7_installs at hf
  refine gg_aload_n C dX7_installs_0 rfl ?_
  refine gg_iload_n C dX7_installs_1 rfl ?_
  refine gr_R (k' := 1) (n' := 6) (gk_V (ci := 7) (As := [.int v1]) (rest := []) C dX7_installs_2 rfl rfl tw_209 tw_211 tw_0 tw_25 tw_212 gd_X7_knownBuild rfl ⟨by decide, by decide⟩ (by simp [gcat, gcI, gcL, gcF, gcD]) ⟨by decide, by decide⟩ hf (fun hf => m_X7_knownBuild hfl hf)) rfl rfl (fun E g9 h9 => gx_out C (fun x hx => (ht x hx).elim) (by decide) (by decide) h9) (fun r2 g1 hf => ?_)
  refine gg_getI C dX7_installs_5 lk_X7_231 hf (fun i3 hf => ?_)
  exact gg_iret C hr (by decide) (by decide) dX7_installs_8 rfl hf

def w_X7_type_b12 (X : Cx) (post : Int32 → GM → Prop) (px : String → GM → Prop)   (g : GM) : Prop :=
  px "java/lang/IllegalArgumentException" g
def w_X7_type (X : Cx) (post : Int32 → GM → Prop) (px : String → GM → Prop) (v0 : Option Nat) (v1 : Int32) (g : GM) : Prop :=
  (if v1 < (97 : Int32) then w_X7_type_b12 X post px g else (if v1 ≤ (122 : Int32) then wGetR g v0 7 4 (fun (r1 : Option Nat) => wGetI g r1 6 1 (fun (i2 : Int32) => (if i2 < (6 : Int32) then wGetR g v0 7 4 (fun (r3 : Option Nat) => wIs g r3 6 (w_X6_append X (fun (g4 : GM) => wGetR g4 v0 7 4 (fun (r5 : Option Nat) => wGetI g4 r5 6 1 (fun (i6 : Int32) => post i6 g4))) px r3 v1 g)) else px "java/lang/IllegalStateException" g))) else w_X7_type_b12 X post px g))
abbrev rm_X7_type : Room := { frames := 6, cells := 1, slots := 6, locals := 82 }
set_option maxHeartbeats 4000000 in
set_option maxRecDepth 100000 in
theorem m_X7_type {X : Cx} {l : Launch} (hfl : l.stackTraces = false) {post : Int32 → GM → Prop} {px : String → GM → Prop} {v0 : Option Nat} {v1 : Int32} {g : GM} (hf : w_X7_type X post px v0 v1 g) : gMet X l yX7_type cX7_type 2 (some .int) rm_X7_type [va_rf v0, .int v1] g (qI X post) px := by
  refine gg_enter (L := [some (va_rf v0), some (.int v1)]) hfl (by decide +kernel) (by simp [lg_sl, gcat, gcI, gcL, gcF, gcD]) (by simp [gll, lv_args, gcat, gcI, gcL, gcF, gcD]) ?_
  intro p e s m args below meth c C hr ht hm
  have C : FC X p l s m args meth c cX7_type 2 "Releasetrain" := C
  have hb_12 : ∀  (g : GM), w_X7_type_b12 X post px   g → GG X p l e rm_X7_type s m args below meth c 2 (vx_MQ below (qI X post) (gXC X px) args s rm_X7_type.cells rm_X7_type.slots (gA X)) 0 0 12 [none, none] [] g := by
    intro   g hf
    unfold w_X7_type_b12 at hf
    exact gg_throw (cls := "java/lang/IllegalArgumentException") (names := ["java/lang/RuntimeException", "java/lang/Exception"]) C (by decide +kernel) (by decide +kernel) tw_307 tw_50 xk_X7_71 (show ("Releasetrain", 240, "it is not from 'a' to 'z'", 29) ∈ gStr by decide +kernel) dX7_type_12 dX7_type_15 dX7_type_16 dX7_type_18 dX7_type_21 (fun x hx => (ht x hx).elim) (by decide) (by simp [gcat, gcI, gcL, gcF, gcD]) (by decide) (by decide) (by decide) (by decide) hf
  unfold w_X7_type at hf
  refine gg_iload_n C dX7_type_0 rfl ?_
  refine gg_bipush C dX7_type_1 (v := (97 : Int32)) (by decide) ?_
  refine gg_icmp_lt (tgt := 12) C dX7_type_3 (by decide) hf (fun hf => ?_) (fun hf => ?_)
  · exact gg_sub (L' := [none, none]) (by first | exact trivial | simp [gsub]) (hb_12 _ hf)
  · refine gg_iload_n C dX7_type_6 rfl ?_
    refine gg_bipush C dX7_type_7 (v := (122 : Int32)) (by decide) ?_
    refine gg_icmp_le (tgt := 22) C dX7_type_9 (by decide) hf (fun hf => ?_) (fun hf => ?_)
    · refine gg_aload_n C dX7_type_22 rfl ?_
      refine gg_getR C dX7_type_23 lk_X7_28 hf (fun r1 hf => ?_)
      refine gg_getI C dX7_type_26 lk_X7_242 hf (fun i2 hf => ?_)
      refine gg_bipush C dX7_type_29 (v := (6 : Int32)) (by decide) ?_
      refine gg_icmp_lt (tgt := 44) C dX7_type_31 (by decide) hf (fun hf => ?_) (fun hf => ?_)
      · refine gg_aload_n C dX7_type_44 rfl ?_
        refine gg_getR C dX7_type_45 lk_X7_28 hf (fun r3 hf => ?_)
        refine gg_iload_n C dX7_type_48 rfl ?_
        refine gr_V (k' := 0) (n' := 0) (gk_V (ci := 6) (As := [.int v1]) (rest := []) C dX7_type_49 rfl rfl tw_1198 tw_1059 tw_1060 tw_29 tw_1061 gd_X6_append rfl ⟨by decide, by decide⟩ (by simp [gcat, gcI, gcL, gcF, gcD]) ⟨by decide, by decide⟩ hf (fun hf => m_X6_append hfl hf)) rfl rfl (fun E g9 h9 => gx_out C (fun x hx => (ht x hx).elim) (by decide) (by decide) h9) (fun g4 hf => ?_)
        refine gg_aload_n C dX7_type_52 rfl ?_
        refine gg_getR C dX7_type_53 lk_X7_28 hf (fun r5 hf => ?_)
        refine gg_getI C dX7_type_56 lk_X7_242 hf (fun i6 hf => ?_)
        exact gg_iret C hr (by decide) (by decide) dX7_type_59 rfl hf
      · exact gg_throw (cls := "java/lang/IllegalStateException") (names := ["java/lang/RuntimeException", "java/lang/Exception"]) C (by decide +kernel) (by decide +kernel) tw_327 tw_40 xk_X7_82 (show ("Releasetrain", 245, "the text has 6 letters", 30) ∈ gStr by decide +kernel) dX7_type_34 dX7_type_37 dX7_type_38 dX7_type_40 dX7_type_43 (fun x hx => (ht x hx).elim) (by decide) (by simp [gcat, gcI, gcL, gcF, gcD]) (by decide) (by decide) (by decide) (by decide) hf
    · exact gg_sub (L' := [none, none]) (by first | exact trivial | simp [gsub]) (hb_12 _ hf)

def w_X7_nearestGroup_b61 (X : Cx) (post : Option Nat → GM → Prop) (px : String → GM → Prop) (k6 : Option Nat → Option Nat → UInt32 → Int32 → GM → Prop) (l0 : Option Nat) (l1 : Option Nat) (l2 : UInt32) (l3 : Int32) (g : GM) : Prop :=
  k6 l0 l1 l2 (l3 + 1) g
def w_X7_nearestGroup_b55 (X : Cx) (post : Option Nat → GM → Prop) (px : String → GM → Prop) (k6 : Option Nat → Option Nat → UInt32 → Int32 → GM → Prop) (l0 : Option Nat) (l3 : Int32) (l4 : Option Nat) (l5 : UInt32) (g : GM) : Prop :=
  w_X7_nearestGroup_b61 X post px k6 l0 l4 l5 l3 g
def w_X7_nearestGroup_l6 (X : Cx) (post : Option Nat → GM → Prop) (px : String → GM → Prop)  : Nat → Option Nat → Option Nat → UInt32 → Int32 → GM → Prop
  | 0, _, _, _, _, _ => False
  | f + 1, l0, l1, l2, l3, g => wGetR g l0 7 3 (fun (r1 : Option Nat) => wIs g r1 10 (w_Jx4a65c_size_8abf5 X (fun (i3 : Int32) (g2 : GM) => (if i3 ≤ l3 then post l1 g2 else wGetR g2 l0 7 3 (fun (r4 : Option Nat) => wIs g2 r4 10 (w_Jx4a65c_get_915e3 X (fun (r6 : Option Nat) (g5 : GM) => wIs g5 r6 4 (wGetR g5 r6 4 1 (fun (r7 : Option Nat) => wGetR g5 l0 7 5 (fun (r8 : Option Nat) => wIs g5 r7 6 (w_X6_likenessTo X (fun (x10 : UInt32) (g9 : GM) => (if l1 = none then w_X7_nearestGroup_b55 X post px (w_X7_nearestGroup_l6 X post px f) l0 l3 r6 x10 g9 else (if (Op.cmpValue (FP.fcmp x10 l2) .l) ≤ 0 then w_X7_nearestGroup_b61 X post px (w_X7_nearestGroup_l6 X post px f) l0 l1 l2 l3 g9 else w_X7_nearestGroup_b55 X post px (w_X7_nearestGroup_l6 X post px f) l0 l3 r6 x10 g9))) px r7 r8 g5))))) px r4 l3 g2)))) px r1 g))
def w_X7_nearestGroup (X : Cx) (post : Option Nat → GM → Prop) (px : String → GM → Prop) (v0 : Option Nat) (g : GM) : Prop :=
  w_X7_nearestGroup_l6 X post px 3000 v0 none FP.fconst0 (0 : Int32) g
abbrev rm_X7_nearestGroup : Room := { frames := 3, cells := 0, slots := 0, locals := 64 }
set_option maxHeartbeats 4000000 in
set_option maxRecDepth 100000 in
theorem m_X7_nearestGroup {X : Cx} {l : Launch} (hfl : l.stackTraces = false) {post : Option Nat → GM → Prop} {px : String → GM → Prop} {v0 : Option Nat} {g : GM} (hf : w_X7_nearestGroup X post px v0 g) : gMet X l yX7_nearestGroup cX7_nearestGroup 6 (some (.object "Releasetrain$Group")) rm_X7_nearestGroup [va_rf v0] g (qR X post) px := by
  refine gg_enter (L := [some (va_rf v0), none, none, none, none, none]) hfl (by decide +kernel) (by simp [lg_sl, gcat, gcI, gcL, gcF, gcD]) (by simp [gll, lv_args, gcat, gcI, gcL, gcF, gcD]) ?_
  intro p e s m args below meth c C hr ht hm
  have C : FC X p l s m args meth c cX7_nearestGroup 6 "Releasetrain" := C
  have hb_61 : ∀ (k6 : Option Nat → Option Nat → UInt32 → Int32 → GM → Prop), (∀ (l0 : Option Nat) (l1 : Option Nat) (l2 : UInt32) (l3 : Int32) (g : GM), k6 l0 l1 l2 l3 g → GG X p l e rm_X7_nearestGroup s m args below meth c 6 (vx_MQ below (qR X post) (gXC X px) args s rm_X7_nearestGroup.cells rm_X7_nearestGroup.slots (gA X)) 0 0 6 [some (va_rf l0), some (va_rf l1), some (.float l2), some (.int l3), none, none] [] g) → ∀ (l0 : Option Nat) (l1 : Option Nat) (l2 : UInt32) (l3 : Int32) (g : GM), w_X7_nearestGroup_b61 X post px k6 l0 l1 l2 l3 g → GG X p l e rm_X7_nearestGroup s m args below meth c 6 (vx_MQ below (qR X post) (gXC X px) args s rm_X7_nearestGroup.cells rm_X7_nearestGroup.slots (gA X)) 0 0 61 [some (va_rf l0), some (va_rf l1), some (.float l2), some (.int l3), none, none] [] g := by
    intro k6 hk6 l0 l1 l2 l3 g hf
    unfold w_X7_nearestGroup_b61 at hf
    refine gg_iinc (L' := [some (va_rf l0), some (va_rf l1), some (.float l2), some (.int (l3 + 1)), none, none]) C dX7_nearestGroup_61 rfl (v := (l3 + 1)) rfl (Or.inr (Or.inr ⟨_, rfl, rfl⟩)) (by decide) rfl ?_
    refine gg_goto (tgt := 6) C dX7_nearestGroup_64 (by decide) ?_
    exact hk6 _ _ _ _ _ hf
  have hb_55 : ∀ (k6 : Option Nat → Option Nat → UInt32 → Int32 → GM → Prop), (∀ (l0 : Option Nat) (l1 : Option Nat) (l2 : UInt32) (l3 : Int32) (g : GM), k6 l0 l1 l2 l3 g → GG X p l e rm_X7_nearestGroup s m args below meth c 6 (vx_MQ below (qR X post) (gXC X px) args s rm_X7_nearestGroup.cells rm_X7_nearestGroup.slots (gA X)) 0 0 6 [some (va_rf l0), some (va_rf l1), some (.float l2), some (.int l3), none, none] [] g) → ∀ (l0 : Option Nat) (l3 : Int32) (l4 : Option Nat) (l5 : UInt32) (g : GM), w_X7_nearestGroup_b55 X post px k6 l0 l3 l4 l5 g → GG X p l e rm_X7_nearestGroup s m args below meth c 6 (vx_MQ below (qR X post) (gXC X px) args s rm_X7_nearestGroup.cells rm_X7_nearestGroup.slots (gA X)) 0 0 55 [some (va_rf l0), none, none, some (.int l3), some (va_rf l4), some (.float l5)] [] g := by
    intro k6 hk6 l0 l3 l4 l5 g hf
    unfold w_X7_nearestGroup_b55 at hf
    refine gg_aload C dX7_nearestGroup_55 rfl ?_
    refine gg_astore_n (L' := [some (va_rf l0), some (va_rf l4), none, some (.int l3), some (va_rf l4), some (.float l5)]) C dX7_nearestGroup_57 (Or.inr (Or.inr ⟨_, rfl, gcat _⟩)) (by decide) rfl ?_
    refine gg_fload C dX7_nearestGroup_58 rfl ?_
    refine gg_fstore_n (L' := [some (va_rf l0), some (va_rf l4), some (.float l5), some (.int l3), some (va_rf l4), some (.float l5)]) C dX7_nearestGroup_60 (Or.inr (Or.inr ⟨_, rfl, gcat _⟩)) (by decide) rfl ?_
    exact gg_sub (L' := [some (va_rf l0), some (va_rf l4), some (.float l5), some (.int l3), none, none]) (by first | exact ⟨rfl, ⟨rfl, ⟨rfl, ⟨rfl, trivial⟩⟩⟩⟩ | simp [gsub]) (hb_61 _ hk6 _ _ _ _ _ hf)
  have hb_6 : ∀ (f : Nat) (l0 : Option Nat) (l1 : Option Nat) (l2 : UInt32) (l3 : Int32) (g : GM), w_X7_nearestGroup_l6 X post px  f l0 l1 l2 l3 g → GG X p l e rm_X7_nearestGroup s m args below meth c 6 (vx_MQ below (qR X post) (gXC X px) args s rm_X7_nearestGroup.cells rm_X7_nearestGroup.slots (gA X)) 0 0 6 [some (va_rf l0), some (va_rf l1), some (.float l2), some (.int l3), none, none] [] g := by
    intro  f
    induction f with
    | zero => intro l0 l1 l2 l3 g hf; exact (show False from hf).elim
    | succ f ih =>
      intro l0 l1 l2 l3 g hf
      rw [w_X7_nearestGroup_l6] at hf
      refine gg_iload_n C dX7_nearestGroup_6 rfl ?_
      refine gg_aload_n C dX7_nearestGroup_7 rfl ?_
      refine gg_getR C dX7_nearestGroup_8 lk_X7_22 hf (fun r1 hf => ?_)
      refine gr_I (k' := 0) (n' := 0) (gk_V (ci := 10) (As := []) (rest := [.int l3]) C dX7_nearestGroup_11 rfl rfl tw_189 tw_190 tw_191 tw_28 tw_192 gd_Jx4a65c_size_8abf5 rfl ⟨by decide, by decide⟩ (by simp [gcat, gcI, gcL, gcF, gcD]) ⟨by decide, by decide⟩ hf (fun hf => m_Jx4a65c_size_8abf5 hfl hf)) rfl rfl (fun E g9 h9 => gx_out C (fun x hx => (ht x hx).elim) (by decide) (by decide) h9) (fun i3 g2 hf => ?_)
      refine gg_icmp_ge (tgt := 67) C dX7_nearestGroup_14 (by decide) hf (fun hf => ?_) (fun hf => ?_)
      · refine gg_aload_n C dX7_nearestGroup_67 rfl ?_
        exact gg_aret C hr (Or.inl ⟨_, rfl⟩) (by decide) (by decide) dX7_nearestGroup_68 hf
      · refine gg_aload_n C dX7_nearestGroup_17 rfl ?_
        refine gg_getR C dX7_nearestGroup_18 lk_X7_22 hf (fun r4 hf => ?_)
        refine gg_iload_n C dX7_nearestGroup_21 rfl ?_
        refine gr_R (k' := 0) (n' := 0) (gk_V (ci := 10) (As := [.int l3]) (rest := []) C dX7_nearestGroup_22 rfl rfl tw_288 tw_289 tw_290 tw_28 tw_291 gd_Jx4a65c_get_915e3 rfl ⟨by decide, by decide⟩ (by simp [gcat, gcI, gcL, gcF, gcD]) ⟨by decide, by decide⟩ hf (fun hf => m_Jx4a65c_get_915e3 hfl hf)) rfl rfl (fun E g9 h9 => gx_out C (fun x hx => (ht x hx).elim) (by decide) (by decide) h9) (fun r6 g5 hf => ?_)
        refine gg_ccast (ci := 4) C dX7_nearestGroup_25 rfl tw_1072 hf (fun hf => ?_)
        refine gg_astore (L' := [some (va_rf l0), some (va_rf l1), some (.float l2), some (.int l3), some (va_rf r6), none]) C dX7_nearestGroup_28 (Or.inr (Or.inr ⟨_, rfl, rfl⟩)) (by decide) rfl ?_
        refine gg_aload C dX7_nearestGroup_30 rfl ?_
        refine gg_getR C dX7_nearestGroup_32 lk_X7_278 hf (fun r7 hf => ?_)
        refine gg_aload_n C dX7_nearestGroup_35 rfl ?_
        refine gg_getR C dX7_nearestGroup_36 lk_X7_32 hf (fun r8 hf => ?_)
        refine gr_F (k' := 0) (n' := 0) (gk_V (ci := 6) (As := [va_rf r8]) (rest := []) C dX7_nearestGroup_39 rfl rfl tw_1073 tw_1074 tw_1075 tw_29 tw_1076 gd_X6_likenessTo rfl ⟨by decide, by decide⟩ (by simp [gcat, gcI, gcL, gcF, gcD]) ⟨by decide, by decide⟩ hf (fun hf => m_X6_likenessTo hfl hf)) rfl rfl (fun E g9 h9 => gx_out C (fun x hx => (ht x hx).elim) (by decide) (by decide) h9) (fun x10 g9 hf => ?_)
        refine gg_fstore (L' := [some (va_rf l0), some (va_rf l1), some (.float l2), some (.int l3), some (va_rf r6), some (.float x10)]) C dX7_nearestGroup_42 (Or.inr (Or.inr ⟨_, rfl, gcat _⟩)) (by decide) rfl ?_
        refine gg_aload_n C dX7_nearestGroup_44 rfl ?_
        refine gg_ifnull (tgt := 55) C dX7_nearestGroup_45 (by decide) hf (fun hf => ?_) (fun hf => ?_)
        · exact gg_sub (L' := [some (va_rf l0), none, none, some (.int l3), some (va_rf r6), some (.float x10)]) (by first | exact ⟨rfl, ⟨rfl, ⟨rfl, ⟨rfl, trivial⟩⟩⟩⟩ | simp [gsub]) (hb_55 _ ih _ _ _ _ _ hf)
        · refine gg_fload C dX7_nearestGroup_48 rfl ?_
          refine gg_fload_n C dX7_nearestGroup_50 rfl ?_
          refine gg_fcmp C dX7_nearestGroup_51 ?_
          refine gg_if_le (tgt := 61) C dX7_nearestGroup_52 (by decide) hf (fun hf => ?_) (fun hf => ?_)
          · exact gg_sub (L' := [some (va_rf l0), some (va_rf l1), some (.float l2), some (.int l3), none, none]) (by first | exact ⟨rfl, ⟨rfl, ⟨rfl, ⟨rfl, trivial⟩⟩⟩⟩ | simp [gsub]) (hb_61 _ ih _ _ _ _ _ hf)
          · exact gg_sub (L' := [some (va_rf l0), none, none, some (.int l3), some (va_rf r6), some (.float x10)]) (by first | exact ⟨rfl, ⟨rfl, ⟨rfl, ⟨rfl, trivial⟩⟩⟩⟩ | simp [gsub]) (hb_55 _ ih _ _ _ _ _ hf)
  unfold w_X7_nearestGroup at hf
  refine gg_null C dX7_nearestGroup_0 ?_
  refine gg_astore_n (L' := [some (va_rf v0), some (va_rf none), none, none, none, none]) C dX7_nearestGroup_1 (Or.inr (Or.inr ⟨_, rfl, gcat _⟩)) (by decide) rfl ?_
  refine gg_fconst0 C dX7_nearestGroup_2 ?_
  refine gg_fstore_n (L' := [some (va_rf v0), some (va_rf none), some (.float FP.fconst0), none, none, none]) C dX7_nearestGroup_3 (Or.inr (Or.inr ⟨_, rfl, gcat _⟩)) (by decide) rfl ?_
  refine gg_iconst C dX7_nearestGroup_4 (v := (0 : Int32)) (by decide) ?_
  refine gg_istore_n (L' := [some (va_rf v0), some (va_rf none), some (.float FP.fconst0), some (.int (0 : Int32)), none, none]) C dX7_nearestGroup_5 (Or.inr (Or.inr ⟨_, rfl, rfl⟩)) (by decide) rfl ?_
  exact hb_6 _ _ _ _ _ _ hf

def w_X7_groupOfCrash_b30 (X : Cx) (post : Option Nat → GM → Prop) (px : String → GM → Prop)  (l0 : Option Nat) (g : GM) : Prop :=
  wGetR g l0 7 3 (fun (r3 : Option Nat) => wIs g r3 10 (w_Jx4a65c_size_8abf5 X (fun (i5 : Int32) (g4 : GM) => (if i5 < (30 : Int32) then wNew X g4 (.inr (4, [.int 0, .null, .int 0, .int 0])) (fun q6 g7 => wGetR g7 l0 7 3 (fun (r8 : Option Nat) => wIs g7 r8 10 (w_Jx4a65c_size_8abf5 X (fun (i10 : Int32) (g9 : GM) => wGetR g9 l0 7 5 (fun (r11 : Option Nat) => w_X4_init X (fun (g12 : GM) => wGetR g12 l0 7 3 (fun (r13 : Option Nat) => wIs g12 r13 10 (w_Jx4a65c_add_9ea2d X (fun (i15 : Int32) (g14 : GM) => post (some q6) g14) px r13 (some q6) g12))) px (some q6) i10 r11 g9)) px r8 g7))) else px "java/lang/IllegalStateException" g4)) px r3 g))
def w_X7_groupOfCrash (X : Cx) (post : Option Nat → GM → Prop) (px : String → GM → Prop) (v0 : Option Nat) (g : GM) : Prop :=
  wIs g v0 7 (w_X7_nearestGroup X (fun (r2 : Option Nat) (g1 : GM) => (if r2 = none then w_X7_groupOfCrash_b30 X post px v0 g1 else wGetR g1 r2 4 1 (fun (r16 : Option Nat) => wGetR g1 v0 7 5 (fun (r17 : Option Nat) => wIs g1 r16 6 (w_X6_likenessTo X (fun (x19 : UInt32) (g18 : GM) => wGetF g18 v0 7 10 (fun (x20 : UInt32) => (if (Op.cmpValue (FP.fcmp x19 x20) .l) < 0 then w_X7_groupOfCrash_b30 X post px v0 g18 else post r2 g18))) px r16 r17 g1))))) px v0 g)
abbrev rm_X7_groupOfCrash : Room := { frames := 7, cells := 4, slots := 76, locals := 211 }
set_option maxHeartbeats 4000000 in
set_option maxRecDepth 100000 in
theorem m_X7_groupOfCrash {X : Cx} {l : Launch} (hfl : l.stackTraces = false) {post : Option Nat → GM → Prop} {px : String → GM → Prop} {v0 : Option Nat} {g : GM} (hf : w_X7_groupOfCrash X post px v0 g) : gMet X l yX7_groupOfCrash cX7_groupOfCrash 3 (some (.object "Releasetrain$Group")) rm_X7_groupOfCrash [va_rf v0] g (qR X post) px := by
  refine gg_enter (L := [some (va_rf v0), none, none]) hfl (by decide +kernel) (by simp [lg_sl, gcat, gcI, gcL, gcF, gcD]) (by simp [gll, lv_args, gcat, gcI, gcL, gcF, gcD]) ?_
  intro p e s m args below meth c C hr ht hm
  have C : FC X p l s m args meth c cX7_groupOfCrash 3 "Releasetrain" := C
  have hb_30 : ∀ (l0 : Option Nat) (g : GM), w_X7_groupOfCrash_b30 X post px  l0 g → GG X p l e rm_X7_groupOfCrash s m args below meth c 3 (vx_MQ below (qR X post) (gXC X px) args s rm_X7_groupOfCrash.cells rm_X7_groupOfCrash.slots (gA X)) 0 0 30 [some (va_rf l0), none, none] [] g := by
    intro  l0 g hf
    unfold w_X7_groupOfCrash_b30 at hf
    refine gg_aload_n C dX7_groupOfCrash_30 rfl ?_
    refine gg_getR C dX7_groupOfCrash_31 lk_X7_22 hf (fun r3 hf => ?_)
    refine gr_I (k' := 0) (n' := 0) (gk_V (ci := 10) (As := []) (rest := []) C dX7_groupOfCrash_34 rfl rfl tw_189 tw_190 tw_191 tw_28 tw_192 gd_Jx4a65c_size_8abf5 rfl ⟨by decide, by decide⟩ (by simp [gcat, gcI, gcL, gcF, gcD]) ⟨by decide, by decide⟩ hf (fun hf => m_Jx4a65c_size_8abf5 hfl hf)) rfl rfl (fun E g9 h9 => gx_out C (fun x hx => (ht x hx).elim) (by decide) (by decide) h9) (fun i5 g4 hf => ?_)
    refine gg_bipush C dX7_groupOfCrash_37 (v := (30 : Int32)) (by decide) ?_
    refine gg_icmp_lt (tgt := 53) C dX7_groupOfCrash_39 (by decide) hf (fun hf => ?_) (fun hf => ?_)
    · refine gg_new (k' := 1) (n' := 4) C dX7_groupOfCrash_53 nk_X7_265 (by decide) (by decide) rfl rfl hf (fun q6 g7 hf => ?_)
      refine gg_dup C dX7_groupOfCrash_56 (gcat _) ?_
      refine gg_aload_n C dX7_groupOfCrash_57 rfl ?_
      refine gg_getR C dX7_groupOfCrash_58 lk_X7_22 hf (fun r8 hf => ?_)
      refine gr_I (k' := 1) (n' := 4) (gk_V (ci := 10) (As := []) (rest := [va_rf (some q6), va_rf (some q6)]) C dX7_groupOfCrash_61 rfl rfl tw_189 tw_190 tw_191 tw_28 tw_192 gd_Jx4a65c_size_8abf5 rfl ⟨by decide, by decide⟩ (by simp [gcat, gcI, gcL, gcF, gcD]) ⟨by decide, by decide⟩ hf (fun hf => m_Jx4a65c_size_8abf5 hfl hf)) rfl rfl (fun E g9 h9 => gx_out C (fun x hx => (ht x hx).elim) (by decide) (by decide) h9) (fun i10 g9 hf => ?_)
      refine gg_aload_n C dX7_groupOfCrash_64 rfl ?_
      refine gg_getR C dX7_groupOfCrash_65 lk_X7_32 hf (fun r11 hf => ?_)
      refine gr_V (k' := 3) (n' := 12) (gk_I (As := [.int i10, va_rf r11]) (rest := [va_rf (some q6)]) C dX7_groupOfCrash_68 rfl tw_1081 tw_1082 tw_55 tw_1083 gd_X4_init rfl ⟨by decide, by decide⟩ (by simp [gcat, gcI, gcL, gcF, gcD]) ⟨by decide, by decide⟩ (m_X4_init hfl hf)) rfl rfl (fun E g9 h9 => gx_out C (fun x hx => (ht x hx).elim) (by decide) (by decide) h9) (fun g12 hf => ?_)
      refine gg_astore_n (L' := [some (va_rf l0), none, some (va_rf (some q6))]) C dX7_groupOfCrash_71 (Or.inr (Or.inl rfl)) (by decide) rfl ?_
      refine gg_aload_n C dX7_groupOfCrash_72 rfl ?_
      refine gg_getR C dX7_groupOfCrash_73 lk_X7_22 hf (fun r13 hf => ?_)
      refine gg_aload_n C dX7_groupOfCrash_76 rfl ?_
      refine gr_I (k' := 4) (n' := 76) (gk_V (ci := 10) (As := [va_rf (some q6)]) (rest := []) C dX7_groupOfCrash_77 rfl rfl tw_429 tw_430 tw_431 tw_28 tw_432 gd_Jx4a65c_add_9ea2d rfl ⟨by decide, by decide⟩ (by simp [gcat, gcI, gcL, gcF, gcD]) ⟨by decide, by decide⟩ hf (fun hf => m_Jx4a65c_add_9ea2d hfl hf)) rfl rfl (fun E g9 h9 => gx_out C (fun x hx => (ht x hx).elim) (by decide) (by decide) h9) (fun i15 g14 hf => ?_)
      refine gg_pop C dX7_groupOfCrash_80 (rfl) ?_
      refine gg_aload_n C dX7_groupOfCrash_81 rfl ?_
      exact gg_aret C hr (Or.inl ⟨_, rfl⟩) (by decide) (by decide) dX7_groupOfCrash_82 hf
    · exact gg_throwW (cls := "java/lang/IllegalStateException") (names := ["java/lang/RuntimeException", "java/lang/Exception"]) C (by decide +kernel) (by decide +kernel) tw_327 tw_40 xk_X7_82 (show ("Releasetrain", 455, "there would be more than 30 groups", 48) ∈ gStr by decide +kernel) dX7_groupOfCrash_42 dX7_groupOfCrash_45 dX7_groupOfCrash_46 dX7_groupOfCrash_49 dX7_groupOfCrash_52 (fun x hx => (ht x hx).elim) (by decide) (by simp [gcat, gcI, gcL, gcF, gcD]) (by decide) (by decide) (by decide) (by decide) hf
  unfold w_X7_groupOfCrash at hf
  refine gg_aload_n C dX7_groupOfCrash_0 rfl ?_
  refine gr_R (k' := 0) (n' := 0) (gk_V (ci := 7) (As := []) (rest := []) C dX7_groupOfCrash_1 rfl rfl tw_1068 tw_1070 tw_19 tw_25 tw_1071 gd_X7_nearestGroup rfl ⟨by decide, by decide⟩ (by simp [gcat, gcI, gcL, gcF, gcD]) ⟨by decide, by decide⟩ hf (fun hf => m_X7_nearestGroup hfl hf)) rfl rfl (fun E g9 h9 => gx_out C (fun x hx => (ht x hx).elim) (by decide) (by decide) h9) (fun r2 g1 hf => ?_)
  refine gg_astore_n (L' := [some (va_rf v0), some (va_rf r2), none]) C dX7_groupOfCrash_4 (Or.inr (Or.inr ⟨_, rfl, gcat _⟩)) (by decide) rfl ?_
  refine gg_aload_n C dX7_groupOfCrash_5 rfl ?_
  refine gg_ifnull (tgt := 30) C dX7_groupOfCrash_6 (by decide) hf (fun hf => ?_) (fun hf => ?_)
  · exact gg_sub (L' := [some (va_rf v0), none, none]) (by first | exact ⟨rfl, trivial⟩ | simp [gsub]) (hb_30 _ _ hf)
  · refine gg_aload_n C dX7_groupOfCrash_9 rfl ?_
    refine gg_getR C dX7_groupOfCrash_10 lk_X7_278 hf (fun r16 hf => ?_)
    refine gg_aload_n C dX7_groupOfCrash_13 rfl ?_
    refine gg_getR C dX7_groupOfCrash_14 lk_X7_32 hf (fun r17 hf => ?_)
    refine gr_F (k' := 0) (n' := 0) (gk_V (ci := 6) (As := [va_rf r17]) (rest := []) C dX7_groupOfCrash_17 rfl rfl tw_1073 tw_1074 tw_1075 tw_29 tw_1076 gd_X6_likenessTo rfl ⟨by decide, by decide⟩ (by simp [gcat, gcI, gcL, gcF, gcD]) ⟨by decide, by decide⟩ hf (fun hf => m_X6_likenessTo hfl hf)) rfl rfl (fun E g9 h9 => gx_out C (fun x hx => (ht x hx).elim) (by decide) (by decide) h9) (fun x19 g18 hf => ?_)
    refine gg_aload_n C dX7_groupOfCrash_20 rfl ?_
    refine gg_getF C dX7_groupOfCrash_21 lk_X7_53 hf (fun x20 hf => ?_)
    refine gg_fcmp C dX7_groupOfCrash_24 ?_
    refine gg_if_lt (tgt := 30) C dX7_groupOfCrash_25 (by decide) hf (fun hf => ?_) (fun hf => ?_)
    · exact gg_sub (L' := [some (va_rf v0), none, none]) (by first | exact ⟨rfl, trivial⟩ | simp [gsub]) (hb_30 _ _ hf)
    · refine gg_aload_n C dX7_groupOfCrash_28 rfl ?_
      exact gg_aret C hr (Or.inl ⟨_, rfl⟩) (by decide) (by decide) dX7_groupOfCrash_29 hf

def w_X7_crash (X : Cx) (post : Int32 → GM → Prop) (px : String → GM → Prop) (v0 : Option Nat) (v1 : Int32) (g : GM) : Prop :=
  wGetR g v0 7 5 (fun (r1 : Option Nat) => wGetR g v0 7 4 (fun (r2 : Option Nat) => wIs g r1 6 (w_X6_copyFrom X (fun (g3 : GM) => wGetR g3 v0 7 4 (fun (r4 : Option Nat) => wIs g3 r4 6 (w_X6_clear X (fun (g5 : GM) => wIs g5 v0 7 (w_X7_knownDevice X (fun (r7 : Option Nat) (g6 : GM) => w_X7_buildHadBy X (fun (r9 : Option Nat) (g8 : GM) => wGetR g8 v0 7 5 (fun (r10 : Option Nat) => wGetI g8 r10 6 1 (fun (i11 : Int32) => (if i11 = 0 then px "java/lang/IllegalStateException" g8 else wIs g8 v0 7 (w_X7_groupOfCrash X (fun (r13 : Option Nat) (g12 : GM) => wGetI g12 r13 4 2 (fun (i14 : Int32) => wPut g12 r13 4 2 (.int (i14 + (1 : Int32))) (fun g15 => wGetI g15 r13 4 3 (fun (i16 : Int32) => wGetI g15 r9 1 0 (fun (i17 : Int32) => wPut g15 r13 4 3 (.int (i16 ||| ((1 : Int32) <<< (i17 &&& 31)))) (fun g18 => wGetI g18 r9 1 13 (fun (i19 : Int32) => wPut g18 r9 1 13 (.int (i19 + (1 : Int32))) (fun g20 => wGetI g20 r13 4 0 (fun (i21 : Int32) => post i21 g20))))))))) px v0 g8))))) px r7 g6) px v0 v1 g5)) px r4 g3))) px r1 r2 g)))
abbrev rm_X7_crash : Room := { frames := 8, cells := 6, slots := 88, locals := 233 }
set_option maxHeartbeats 4000000 in
set_option maxRecDepth 100000 in
theorem m_X7_crash {X : Cx} {l : Launch} (hfl : l.stackTraces = false) {post : Int32 → GM → Prop} {px : String → GM → Prop} {v0 : Option Nat} {v1 : Int32} {g : GM} (hf : w_X7_crash X post px v0 v1 g) : gMet X l yX7_crash cX7_crash 4 (some .int) rm_X7_crash [va_rf v0, .int v1] g (qI X post) px := by
  refine gg_enter (L := [some (va_rf v0), some (.int v1), none, none]) hfl (by decide +kernel) (by simp [lg_sl, gcat, gcI, gcL, gcF, gcD]) (by simp [gll, lv_args, gcat, gcI, gcL, gcF, gcD]) ?_
  intro p e s m args below meth c C hr ht hm
  have C : FC X p l s m args meth c cX7_crash 4 "Releasetrain" := C
  unfold w_X7_crash at hf
  refine gg_aload_n C dX7_crash_0 rfl ?_
  refine gg_getR C dX7_crash_1 lk_X7_32 hf (fun r1 hf => ?_)
  refine gg_aload_n C dX7_crash_4 rfl ?_
  refine gg_getR C dX7_crash_5 lk_X7_28 hf (fun r2 hf => ?_)
  refine gr_V (k' := 0) (n' := 0) (gk_V (ci := 6) (As := [va_rf r2]) (rest := []) C dX7_crash_8 rfl rfl tw_1050 tw_1051 tw_1052 tw_29 tw_1053 gd_X6_copyFrom rfl ⟨by decide, by decide⟩ (by simp [gcat, gcI, gcL, gcF, gcD]) ⟨by decide, by decide⟩ hf (fun hf => m_X6_copyFrom hfl hf)) rfl rfl (fun E g9 h9 => gx_out C (fun x hx => (ht x hx).elim) (by decide) (by decide) h9) (fun g3 hf => ?_)
  refine gg_aload_n C dX7_crash_11 rfl ?_
  refine gg_getR C dX7_crash_12 lk_X7_28 hf (fun r4 hf => ?_)
  refine gr_V (k' := 0) (n' := 0) (gk_V (ci := 6) (As := []) (rest := []) C dX7_crash_15 rfl rfl tw_1062 tw_1055 tw_1056 tw_29 tw_1057 gd_X6_clear rfl ⟨by decide, by decide⟩ (by simp [gcat, gcI, gcL, gcF, gcD]) ⟨by decide, by decide⟩ hf (fun hf => m_X6_clear hfl hf)) rfl rfl (fun E g9 h9 => gx_out C (fun x hx => (ht x hx).elim) (by decide) (by decide) h9) (fun g5 hf => ?_)
  refine gg_aload_n C dX7_crash_18 rfl ?_
  refine gg_iload_n C dX7_crash_19 rfl ?_
  refine gr_R (k' := 1) (n' := 6) (gk_V (ci := 7) (As := [.int v1]) (rest := []) C dX7_crash_20 rfl rfl tw_1015 tw_1017 tw_16 tw_25 tw_1018 gd_X7_knownDevice rfl ⟨by decide, by decide⟩ (by simp [gcat, gcI, gcL, gcF, gcD]) ⟨by decide, by decide⟩ hf (fun hf => m_X7_knownDevice hfl hf)) rfl rfl (fun E g9 h9 => gx_out C (fun x hx => (ht x hx).elim) (by decide) (by decide) h9) (fun r7 g6 hf => ?_)
  refine gr_R (k' := 2) (n' := 12) (gk_S (As := [va_rf r7]) (rest := []) C dX7_crash_23 tw_1042 tw_1043 tw_25 tw_1044 gd_X7_buildHadBy rfl ⟨by decide, by decide⟩ (by simp [gcat, gcI, gcL, gcF, gcD]) ⟨by decide, by decide⟩ (m_X7_buildHadBy hfl hf)) rfl rfl (fun E g9 h9 => gx_out C (fun x hx => (ht x hx).elim) (by decide) (by decide) h9) (fun r9 g8 hf => ?_)
  refine gg_astore_n (L' := [some (va_rf v0), some (.int v1), some (va_rf r9), none]) C dX7_crash_26 (Or.inr (Or.inr ⟨_, rfl, rfl⟩)) (by decide) rfl ?_
  refine gg_aload_n C dX7_crash_27 rfl ?_
  refine gg_getR C dX7_crash_28 lk_X7_32 hf (fun r10 hf => ?_)
  refine gg_getI C dX7_crash_31 lk_X7_242 hf (fun i11 hf => ?_)
  refine gg_if_ne (tgt := 48) C dX7_crash_34 (by decide) hf (fun hf => ?_) (fun hf => ?_)
  · refine gg_aload_n C dX7_crash_48 rfl ?_
    refine gr_R (k' := 6) (n' := 88) (gk_V (ci := 7) (As := []) (rest := []) C dX7_crash_49 rfl rfl tw_1064 tw_1066 tw_18 tw_25 tw_1067 gd_X7_groupOfCrash rfl ⟨by decide, by decide⟩ (by simp [gcat, gcI, gcL, gcF, gcD]) ⟨by decide, by decide⟩ hf (fun hf => m_X7_groupOfCrash hfl hf)) rfl rfl (fun E g9 h9 => gx_out C (fun x hx => (ht x hx).elim) (by decide) (by decide) h9) (fun r13 g12 hf => ?_)
    refine gg_astore_n (L' := [some (va_rf v0), some (.int v1), some (va_rf r9), some (va_rf r13)]) C dX7_crash_52 (Or.inr (Or.inr ⟨_, rfl, gcat _⟩)) (by decide) rfl ?_
    refine gg_aload_n C dX7_crash_53 rfl ?_
    refine gg_dup C dX7_crash_54 (gcat _) ?_
    refine gg_getI C dX7_crash_55 lk_X7_264 hf (fun i14 hf => ?_)
    refine gg_iconst C dX7_crash_58 (v := (1 : Int32)) (by decide) ?_
    refine gg_iadd C dX7_crash_59 ?_
    refine gg_put C dX7_crash_60 pk_X7_264 (gNar_int _) hf (fun g15 hf => ?_)
    refine gg_aload_n C dX7_crash_63 rfl ?_
    refine gg_dup C dX7_crash_64 (gcat _) ?_
    refine gg_getI C dX7_crash_65 lk_X7_269 hf (fun i16 hf => ?_)
    refine gg_iconst C dX7_crash_68 (v := (1 : Int32)) (by decide) ?_
    refine gg_aload_n C dX7_crash_69 rfl ?_
    refine gg_getI C dX7_crash_70 lk_X7_142 hf (fun i17 hf => ?_)
    refine gg_ishl C dX7_crash_73 ?_
    refine gg_ior C dX7_crash_74 ?_
    refine gg_put C dX7_crash_75 pk_X7_269 (gNar_int _) hf (fun g18 hf => ?_)
    refine gg_aload_n C dX7_crash_78 rfl ?_
    refine gg_dup C dX7_crash_79 (gcat _) ?_
    refine gg_getI C dX7_crash_80 lk_X7_272 hf (fun i19 hf => ?_)
    refine gg_iconst C dX7_crash_83 (v := (1 : Int32)) (by decide) ?_
    refine gg_iadd C dX7_crash_84 ?_
    refine gg_put C dX7_crash_85 pk_X7_272 (gNar_int _) hf (fun g20 hf => ?_)
    refine gg_aload_n C dX7_crash_88 rfl ?_
    refine gg_getI C dX7_crash_89 lk_X7_273 hf (fun i21 hf => ?_)
    exact gg_iret C hr (by decide) (by decide) dX7_crash_92 rfl hf
  · exact gg_throwW (cls := "java/lang/IllegalStateException") (names := ["java/lang/RuntimeException", "java/lang/Exception"]) C (by decide +kernel) (by decide +kernel) tw_327 tw_40 xk_X7_82 (show ("Releasetrain", 258, "the text is empty", 31) ∈ gStr by decide +kernel) dX7_crash_37 dX7_crash_40 dX7_crash_41 dX7_crash_44 dX7_crash_47 (fun x hx => (ht x hx).elim) (by decide) (by simp [gcat, gcI, gcL, gcF, gcD]) (by decide) (by decide) (by decide) (by decide) hf

def w_X7_groups (X : Cx) (post : Int32 → GM → Prop) (px : String → GM → Prop) (v0 : Option Nat) (g : GM) : Prop :=
  wGetR g v0 7 3 (fun (r1 : Option Nat) => wIs g r1 10 (w_Jx4a65c_size_8abf5 X (fun (i3 : Int32) (g2 : GM) => post i3 g2) px r1 g))
abbrev rm_X7_groups : Room := { frames := 1, cells := 0, slots := 0, locals := 20 }
set_option maxHeartbeats 4000000 in
set_option maxRecDepth 100000 in
theorem m_X7_groups {X : Cx} {l : Launch} (hfl : l.stackTraces = false) {post : Int32 → GM → Prop} {px : String → GM → Prop} {v0 : Option Nat} {g : GM} (hf : w_X7_groups X post px v0 g) : gMet X l yX7_groups cX7_groups 1 (some .int) rm_X7_groups [va_rf v0] g (qI X post) px := by
  refine gg_enter (L := [some (va_rf v0)]) hfl (by decide +kernel) (by simp [lg_sl, gcat, gcI, gcL, gcF, gcD]) (by simp [gll, lv_args, gcat, gcI, gcL, gcF, gcD]) ?_
  intro p e s m args below meth c C hr ht hm
  have C : FC X p l s m args meth c cX7_groups 1 "Releasetrain" := C
  unfold w_X7_groups at hf
  refine gg_aload_n C dX7_groups_0 rfl ?_
  refine gg_getR C dX7_groups_1 lk_X7_22 hf (fun r1 hf => ?_)
  refine gr_I (k' := 0) (n' := 0) (gk_V (ci := 10) (As := []) (rest := []) C dX7_groups_4 rfl rfl tw_189 tw_190 tw_191 tw_28 tw_192 gd_Jx4a65c_size_8abf5 rfl ⟨by decide, by decide⟩ (by simp [gcat, gcI, gcL, gcF, gcD]) ⟨by decide, by decide⟩ hf (fun hf => m_Jx4a65c_size_8abf5 hfl hf)) rfl rfl (fun E g9 h9 => gx_out C (fun x hx => (ht x hx).elim) (by decide) (by decide) h9) (fun i3 g2 hf => ?_)
  exact gg_iret C hr (by decide) (by decide) dX7_groups_7 rfl hf

def w_X7_knownGroup (X : Cx) (post : Option Nat → GM → Prop) (px : String → GM → Prop) (v0 : Option Nat) (v1 : Int32) (g : GM) : Prop :=
  wGetR g v0 7 3 (fun (r1 : Option Nat) => wIs g r1 10 (w_Jx4a65c_size_8abf5 X (fun (i3 : Int32) (g2 : GM) => w_X7_outside X (fun (i5 : Int32) (g4 : GM) => (if i5 = 0 then wGetR g4 v0 7 3 (fun (r6 : Option Nat) => wIs g4 r6 10 (w_Jx4a65c_get_915e3 X (fun (r8 : Option Nat) (g7 : GM) => wIs g7 r8 4 (post r8 g7)) px r6 v1 g4)) else px "java/util/NoSuchElementException" g4)) px v1 (0 : Int32) (i3 - (1 : Int32)) g2) px r1 g))
abbrev rm_X7_knownGroup : Room := { frames := 6, cells := 1, slots := 6, locals := 82 }
set_option maxHeartbeats 4000000 in
set_option maxRecDepth 100000 in
theorem m_X7_knownGroup {X : Cx} {l : Launch} (hfl : l.stackTraces = false) {post : Option Nat → GM → Prop} {px : String → GM → Prop} {v0 : Option Nat} {v1 : Int32} {g : GM} (hf : w_X7_knownGroup X post px v0 v1 g) : gMet X l yX7_knownGroup cX7_knownGroup 2 (some (.object "Releasetrain$Group")) rm_X7_knownGroup [va_rf v0, .int v1] g (qR X post) px := by
  refine gg_enter (L := [some (va_rf v0), some (.int v1)]) hfl (by decide +kernel) (by simp [lg_sl, gcat, gcI, gcL, gcF, gcD]) (by simp [gll, lv_args, gcat, gcI, gcL, gcF, gcD]) ?_
  intro p e s m args below meth c C hr ht hm
  have C : FC X p l s m args meth c cX7_knownGroup 2 "Releasetrain" := C
  unfold w_X7_knownGroup at hf
  refine gg_iload_n C dX7_knownGroup_0 rfl ?_
  refine gg_iconst C dX7_knownGroup_1 (v := (0 : Int32)) (by decide) ?_
  refine gg_aload_n C dX7_knownGroup_2 rfl ?_
  refine gg_getR C dX7_knownGroup_3 lk_X7_22 hf (fun r1 hf => ?_)
  refine gr_I (k' := 0) (n' := 0) (gk_V (ci := 10) (As := []) (rest := [.int (0 : Int32), .int v1]) C dX7_knownGroup_6 rfl rfl tw_189 tw_190 tw_191 tw_28 tw_192 gd_Jx4a65c_size_8abf5 rfl ⟨by decide, by decide⟩ (by simp [gcat, gcI, gcL, gcF, gcD]) ⟨by decide, by decide⟩ hf (fun hf => m_Jx4a65c_size_8abf5 hfl hf)) rfl rfl (fun E g9 h9 => gx_out C (fun x hx => (ht x hx).elim) (by decide) (by decide) h9) (fun i3 g2 hf => ?_)
  refine gg_iconst C dX7_knownGroup_9 (v := (1 : Int32)) (by decide) ?_
  refine gg_isub C dX7_knownGroup_10 ?_
  refine gr_I (k' := 0) (n' := 0) (gk_S (As := [.int v1, .int (0 : Int32), .int (i3 - (1 : Int32))]) (rest := []) C dX7_knownGroup_11 tw_213 tw_214 tw_25 tw_215 gd_X7_outside rfl ⟨by decide, by decide⟩ (by simp [gcat, gcI, gcL, gcF, gcD]) ⟨by decide, by decide⟩ (m_X7_outside hfl hf)) rfl rfl (fun E g9 h9 => gx_out C (fun x hx => (ht x hx).elim) (by decide) (by decide) h9) (fun i5 g4 hf => ?_)
  refine gg_if_eq (tgt := 28) C dX7_knownGroup_14 (by decide) hf (fun hf => ?_) (fun hf => ?_)
  · refine gg_aload_n C dX7_knownGroup_28 rfl ?_
    refine gg_getR C dX7_knownGroup_29 lk_X7_22 hf (fun r6 hf => ?_)
    refine gg_iload_n C dX7_knownGroup_32 rfl ?_
    refine gr_R (k' := 0) (n' := 0) (gk_V (ci := 10) (As := [.int v1]) (rest := []) C dX7_knownGroup_33 rfl rfl tw_288 tw_289 tw_290 tw_28 tw_291 gd_Jx4a65c_get_915e3 rfl ⟨by decide, by decide⟩ (by simp [gcat, gcI, gcL, gcF, gcD]) ⟨by decide, by decide⟩ hf (fun hf => m_Jx4a65c_get_915e3 hfl hf)) rfl rfl (fun E g9 h9 => gx_out C (fun x hx => (ht x hx).elim) (by decide) (by decide) h9) (fun r8 g7 hf => ?_)
    refine gg_ccast (ci := 4) C dX7_knownGroup_36 rfl tw_1072 hf (fun hf => ?_)
    exact gg_aret C hr (Or.inl ⟨_, rfl⟩) (by decide) (by decide) dX7_knownGroup_39 hf
  · exact gg_throwX (cls := "java/util/NoSuchElementException") (names := ["java/lang/RuntimeException", "java/lang/Exception"]) C gnsee.2.1 gnsee.2.2.1 gnsee.2.2.2.1 gnsee.2.2.2.2 (by decide +kernel) (by decide +kernel) tw_216 tw_37 gnsee.1 (show ("Releasetrain", 399, "there is no such group", 41) ∈ gStr by decide +kernel) dX7_knownGroup_17 dX7_knownGroup_20 dX7_knownGroup_21 dX7_knownGroup_24 dX7_knownGroup_27 (fun x hx => (ht x hx).elim) (by decide) (by simp [gcat, gcI, gcL, gcF, gcD]) (by decide) (by decide) (by decide) (by decide) hf

def w_X7_crashesIn (X : Cx) (post : Int32 → GM → Prop) (px : String → GM → Prop) (v0 : Option Nat) (v1 : Int32) (g : GM) : Prop :=
  wIs g v0 7 (w_X7_knownGroup X (fun (r2 : Option Nat) (g1 : GM) => wGetI g1 r2 4 2 (fun (i3 : Int32) => post i3 g1)) px v0 v1 g)
abbrev rm_X7_crashesIn : Room := { frames := 7, cells := 1, slots := 6, locals := 103 }
set_option maxHeartbeats 4000000 in
set_option maxRecDepth 100000 in
theorem m_X7_crashesIn {X : Cx} {l : Launch} (hfl : l.stackTraces = false) {post : Int32 → GM → Prop} {px : String → GM → Prop} {v0 : Option Nat} {v1 : Int32} {g : GM} (hf : w_X7_crashesIn X post px v0 v1 g) : gMet X l yX7_crashesIn cX7_crashesIn 2 (some .int) rm_X7_crashesIn [va_rf v0, .int v1] g (qI X post) px := by
  refine gg_enter (L := [some (va_rf v0), some (.int v1)]) hfl (by decide +kernel) (by simp [lg_sl, gcat, gcI, gcL, gcF, gcD]) (by simp [gll, lv_args, gcat, gcI, gcL, gcF, gcD]) ?_
  intro p e s m args below meth c C hr ht hm
  have C : FC X p l s m args meth c cX7_crashesIn 2 "Releasetrain" := C
  unfold w_X7_crashesIn at hf
  refine gg_aload_n C dX7_crashesIn_0 rfl ?_
  refine gg_iload_n C dX7_crashesIn_1 rfl ?_
  refine gr_R (k' := 1) (n' := 6) (gk_V (ci := 7) (As := [.int v1]) (rest := []) C dX7_crashesIn_2 rfl rfl tw_1265 tw_1267 tw_22 tw_25 tw_1268 gd_X7_knownGroup rfl ⟨by decide, by decide⟩ (by simp [gcat, gcI, gcL, gcF, gcD]) ⟨by decide, by decide⟩ hf (fun hf => m_X7_knownGroup hfl hf)) rfl rfl (fun E g9 h9 => gx_out C (fun x hx => (ht x hx).elim) (by decide) (by decide) h9) (fun r2 g1 hf => ?_)
  refine gg_getI C dX7_crashesIn_5 lk_X7_264 hf (fun i3 hf => ?_)
  exact gg_iret C hr (by decide) (by decide) dX7_crashesIn_8 rfl hf

def w_X7_stackAt (X : Cx) (post : Int32 → GM → Prop) (px : String → GM → Prop) (v0 : Option Nat) (v1 : Int32) (v2 : Int32) (g : GM) : Prop :=
  wIs g v0 7 (w_X7_knownGroup X (fun (r2 : Option Nat) (g1 : GM) => wGetR g1 r2 4 1 (fun (r3 : Option Nat) => wGetI g1 r3 6 1 (fun (i4 : Int32) => w_X7_outside X (fun (i6 : Int32) (g5 : GM) => (if i6 = 0 then wGetR g5 r3 6 0 (fun (r7 : Option Nat) => wAld g5 r7 v2 1 (fun (i8 : Int32) => (narrow .char (.int i8) = .int i8 ∧ post i8 g5))) else px "java/lang/IndexOutOfBoundsException" g5)) px v2 (0 : Int32) (i4 - (1 : Int32)) g1))) px v0 v1 g)
abbrev rm_X7_stackAt : Room := { frames := 7, cells := 2, slots := 12, locals := 103 }
set_option maxHeartbeats 4000000 in
set_option maxRecDepth 100000 in
theorem m_X7_stackAt {X : Cx} {l : Launch} (hfl : l.stackTraces = false) {post : Int32 → GM → Prop} {px : String → GM → Prop} {v0 : Option Nat} {v1 : Int32} {v2 : Int32} {g : GM} (hf : w_X7_stackAt X post px v0 v1 v2 g) : gMet X l yX7_stackAt cX7_stackAt 4 (some .char) rm_X7_stackAt [va_rf v0, .int v1, .int v2] g (qI X post) px := by
  refine gg_enter (L := [some (va_rf v0), some (.int v1), some (.int v2), none]) hfl (by decide +kernel) (by simp [lg_sl, gcat, gcI, gcL, gcF, gcD]) (by simp [gll, lv_args, gcat, gcI, gcL, gcF, gcD]) ?_
  intro p e s m args below meth c C hr ht hm
  have C : FC X p l s m args meth c cX7_stackAt 4 "Releasetrain" := C
  unfold w_X7_stackAt at hf
  refine gg_aload_n C dX7_stackAt_0 rfl ?_
  refine gg_iload_n C dX7_stackAt_1 rfl ?_
  refine gr_R (k' := 1) (n' := 6) (gk_V (ci := 7) (As := [.int v1]) (rest := []) C dX7_stackAt_2 rfl rfl tw_1265 tw_1267 tw_22 tw_25 tw_1268 gd_X7_knownGroup rfl ⟨by decide, by decide⟩ (by simp [gcat, gcI, gcL, gcF, gcD]) ⟨by decide, by decide⟩ hf (fun hf => m_X7_knownGroup hfl hf)) rfl rfl (fun E g9 h9 => gx_out C (fun x hx => (ht x hx).elim) (by decide) (by decide) h9) (fun r2 g1 hf => ?_)
  refine gg_getR C dX7_stackAt_5 lk_X7_278 hf (fun r3 hf => ?_)
  refine gg_astore_n (L' := [some (va_rf v0), some (.int v1), some (.int v2), some (va_rf r3)]) C dX7_stackAt_8 (Or.inr (Or.inr ⟨_, rfl, rfl⟩)) (by decide) rfl ?_
  refine gg_iload_n C dX7_stackAt_9 rfl ?_
  refine gg_iconst C dX7_stackAt_10 (v := (0 : Int32)) (by decide) ?_
  refine gg_aload_n C dX7_stackAt_11 rfl ?_
  refine gg_getI C dX7_stackAt_12 lk_X7_242 hf (fun i4 hf => ?_)
  refine gg_iconst C dX7_stackAt_15 (v := (1 : Int32)) (by decide) ?_
  refine gg_isub C dX7_stackAt_16 ?_
  refine gr_I (k' := 1) (n' := 6) (gk_S (As := [.int v2, .int (0 : Int32), .int (i4 - (1 : Int32))]) (rest := []) C dX7_stackAt_17 tw_213 tw_214 tw_25 tw_215 gd_X7_outside rfl ⟨by decide, by decide⟩ (by simp [gcat, gcI, gcL, gcF, gcD]) ⟨by decide, by decide⟩ (m_X7_outside hfl hf)) rfl rfl (fun E g9 h9 => gx_out C (fun x hx => (ht x hx).elim) (by decide) (by decide) h9) (fun i6 g5 hf => ?_)
  refine gg_if_eq (tgt := 34) C dX7_stackAt_20 (by decide) hf (fun hf => ?_) (fun hf => ?_)
  · refine gg_aload_n C dX7_stackAt_34 rfl ?_
    refine gg_getR C dX7_stackAt_35 lk_X7_286 hf (fun r7 hf => ?_)
    refine gg_iload_n C dX7_stackAt_38 rfl ?_
    refine gg_cald C dX7_stackAt_39 hf (fun i8 hf => ?_)
    exact gg_iret C hr (by decide) (by decide) dX7_stackAt_40 hf.1 hf.2
  · exact gg_throwW (cls := "java/lang/IndexOutOfBoundsException") (names := ["java/lang/RuntimeException", "java/lang/Exception"]) C (by decide +kernel) (by decide +kernel) tw_1238 tw_41 xk_X7_285 (show ("Releasetrain", 283, "there is no such place", 32) ∈ gStr by decide +kernel) dX7_stackAt_23 dX7_stackAt_26 dX7_stackAt_27 dX7_stackAt_30 dX7_stackAt_33 (fun x hx => (ht x hx).elim) (by decide) (by simp [gcat, gcI, gcL, gcF, gcD]) (by decide) (by decide) (by decide) (by decide) hf

def w_X7_likeness (X : Cx) (post : UInt32 → GM → Prop) (px : String → GM → Prop) (v0 : Option Nat) (v1 : Int32) (v2 : Int32) (g : GM) : Prop :=
  wIs g v0 7 (w_X7_knownGroup X (fun (r2 : Option Nat) (g1 : GM) => wGetR g1 r2 4 1 (fun (r3 : Option Nat) => wIs g1 v0 7 (w_X7_knownGroup X (fun (r5 : Option Nat) (g4 : GM) => wGetR g4 r5 4 1 (fun (r6 : Option Nat) => wIs g4 r3 6 (w_X6_likenessTo X (fun (x8 : UInt32) (g7 : GM) => post x8 g7) px r3 r6 g4))) px v0 v2 g1))) px v0 v1 g)
abbrev rm_X7_likeness : Room := { frames := 7, cells := 2, slots := 12, locals := 103 }
set_option maxHeartbeats 4000000 in
set_option maxRecDepth 100000 in
theorem m_X7_likeness {X : Cx} {l : Launch} (hfl : l.stackTraces = false) {post : UInt32 → GM → Prop} {px : String → GM → Prop} {v0 : Option Nat} {v1 : Int32} {v2 : Int32} {g : GM} (hf : w_X7_likeness X post px v0 v1 v2 g) : gMet X l yX7_likeness cX7_likeness 4 (some .float) rm_X7_likeness [va_rf v0, .int v1, .int v2] g (qF X post) px := by
  refine gg_enter (L := [some (va_rf v0), some (.int v1), some (.int v2), none]) hfl (by decide +kernel) (by simp [lg_sl, gcat, gcI, gcL, gcF, gcD]) (by simp [gll, lv_args, gcat, gcI, gcL, gcF, gcD]) ?_
  intro p e s m args below meth c C hr ht hm
  have C : FC X p l s m args meth c cX7_likeness 4 "Releasetrain" := C
  unfold w_X7_likeness at hf
  refine gg_aload_n C dX7_likeness_0 rfl ?_
  refine gg_iload_n C dX7_likeness_1 rfl ?_
  refine gr_R (k' := 1) (n' := 6) (gk_V (ci := 7) (As := [.int v1]) (rest := []) C dX7_likeness_2 rfl rfl tw_1265 tw_1267 tw_22 tw_25 tw_1268 gd_X7_knownGroup rfl ⟨by decide, by decide⟩ (by simp [gcat, gcI, gcL, gcF, gcD]) ⟨by decide, by decide⟩ hf (fun hf => m_X7_knownGroup hfl hf)) rfl rfl (fun E g9 h9 => gx_out C (fun x hx => (ht x hx).elim) (by decide) (by decide) h9) (fun r2 g1 hf => ?_)
  refine gg_getR C dX7_likeness_5 lk_X7_278 hf (fun r3 hf => ?_)
  refine gg_astore_n (L' := [some (va_rf v0), some (.int v1), some (.int v2), some (va_rf r3)]) C dX7_likeness_8 (Or.inr (Or.inr ⟨_, rfl, rfl⟩)) (by decide) rfl ?_
  refine gg_aload_n C dX7_likeness_9 rfl ?_
  refine gg_aload_n C dX7_likeness_10 rfl ?_
  refine gg_iload_n C dX7_likeness_11 rfl ?_
  refine gr_R (k' := 2) (n' := 12) (gk_V (ci := 7) (As := [.int v2]) (rest := [va_rf r3]) C dX7_likeness_12 rfl rfl tw_1265 tw_1267 tw_22 tw_25 tw_1268 gd_X7_knownGroup rfl ⟨by decide, by decide⟩ (by simp [gcat, gcI, gcL, gcF, gcD]) ⟨by decide, by decide⟩ hf (fun hf => m_X7_knownGroup hfl hf)) rfl rfl (fun E g9 h9 => gx_out C (fun x hx => (ht x hx).elim) (by decide) (by decide) h9) (fun r5 g4 hf => ?_)
  refine gg_getR C dX7_likeness_15 lk_X7_278 hf (fun r6 hf => ?_)
  refine gr_F (k' := 2) (n' := 12) (gk_V (ci := 6) (As := [va_rf r6]) (rest := []) C dX7_likeness_18 rfl rfl tw_1073 tw_1074 tw_1075 tw_29 tw_1076 gd_X6_likenessTo rfl ⟨by decide, by decide⟩ (by simp [gcat, gcI, gcL, gcF, gcD]) ⟨by decide, by decide⟩ hf (fun hf => m_X6_likenessTo hfl hf)) rfl rfl (fun E g9 h9 => gx_out C (fun x hx => (ht x hx).elim) (by decide) (by decide) h9) (fun x8 g7 hf => ?_)
  exact gg_fret C hr (by decide) (by decide) dX7_likeness_21 hf

def w_X7_doubleBits_b87 (X : Cx) (post : Int64 → GM → Prop) (px : String → GM → Prop)  (l2 : UInt64) (l4 : Int64) (g : GM) : Prop :=
  vf_n64 (FP.dsub l2 FP.dconst1) ∧ vf_n64 (FP.dmul (FP.dsub l2 FP.dconst1) (4841369599423283200 : UInt64)) ∧ post ((l4 <<< (((52 : Int32)).toInt64 &&& 63)) ||| (FP.d2l (FP.dmul (FP.dsub l2 FP.dconst1) (4841369599423283200 : UInt64)))) g
def w_X7_doubleBits_l55 (X : Cx) (post : Int64 → GM → Prop) (px : String → GM → Prop)  : Nat → UInt64 → Int64 → Int32 → GM → Prop
  | 0, _, _, _, _ => False
  | f + 1, l2, l4, l6, g => (if (1100 : Int32) ≤ l6 then w_X7_doubleBits_b87 X post px l2 l4 g else (if 0 ≤ (Op.cmpValue (FP.dcmp l2 FP.dconst1) .g) then w_X7_doubleBits_b87 X post px l2 l4 g else vf_n64 (FP.dmul l2 (4611686018427387904 : UInt64)) ∧ w_X7_doubleBits_l55 X post px f (FP.dmul l2 (4611686018427387904 : UInt64)) (l4 - (1 : Int64)) (l6 + 1) g))
def w_X7_doubleBits_b52 (X : Cx) (post : Int64 → GM → Prop) (px : String → GM → Prop)  (l2 : UInt64) (l4 : Int64) (g : GM) : Prop :=
  w_X7_doubleBits_l55 X post px 3000 l2 l4 (0 : Int32) g
def w_X7_doubleBits_l18 (X : Cx) (post : Int64 → GM → Prop) (px : String → GM → Prop)  : Nat → UInt64 → Int64 → Int32 → GM → Prop
  | 0, _, _, _, _ => False
  | f + 1, l2, l4, l6, g => (if (1100 : Int32) ≤ l6 then w_X7_doubleBits_b52 X post px l2 l4 g else (if (Op.cmpValue (FP.dcmp l2 (4611686018427387904 : UInt64)) .l) < 0 then w_X7_doubleBits_b52 X post px l2 l4 g else vf_n64 (FP.ddiv l2 (4611686018427387904 : UInt64)) ∧ w_X7_doubleBits_l18 X post px f (FP.ddiv l2 (4611686018427387904 : UInt64)) (l4 + (1 : Int64)) (l6 + 1) g))
def w_X7_doubleBits (X : Cx) (post : Int64 → GM → Prop) (px : String → GM → Prop) (v0 : UInt64) (g : GM) : Prop :=
  (if 0 < (Op.cmpValue (FP.dcmp v0 FP.dconst0) .g) then w_X7_doubleBits_l18 X post px 3000 v0 (1023 : Int64) (0 : Int32) g else post (0 : Int64) g)
abbrev rm_X7_doubleBits : Room := { frames := 0, cells := 0, slots := 0, locals := 0 }
set_option maxHeartbeats 4000000 in
set_option maxRecDepth 100000 in
theorem m_X7_doubleBits {X : Cx} {l : Launch} (hfl : l.stackTraces = false) {post : Int64 → GM → Prop} {px : String → GM → Prop} {v0 : UInt64} {g : GM} (hf : w_X7_doubleBits X post px v0 g) : gMet X l yX7_doubleBits cX7_doubleBits 8 (some .long) rm_X7_doubleBits [.double v0] g (qL X post) px := by
  refine gg_enter (L := [some (.double v0), none, none, none, none, none, none, none]) hfl (by decide +kernel) (by simp [lg_sl, gcat, gcI, gcL, gcF, gcD]) (by simp [gll, lv_args, gcat, gcI, gcL, gcF, gcD]) ?_
  intro p e s m args below meth c C hr ht hm
  have C : FC X p l s m args meth c cX7_doubleBits 8 "Releasetrain" := C
  have hb_87 : ∀ (l2 : UInt64) (l4 : Int64) (g : GM), w_X7_doubleBits_b87 X post px  l2 l4 g → GG X p l e rm_X7_doubleBits s m args below meth c 8 (vx_MQ below (qL X post) (gXC X px) args s rm_X7_doubleBits.cells rm_X7_doubleBits.slots (gA X)) 0 0 87 [none, none, some (.double l2), none, some (.long l4), none, none, none] [] g := by
    intro  l2 l4 g hf
    unfold w_X7_doubleBits_b87 at hf
    refine gg_dload_n C dX7_doubleBits_87 rfl ?_
    refine gg_dconst1 C dX7_doubleBits_88 ?_
    refine gg_dsub C dX7_doubleBits_89 hf.1 ?_
    replace hf := hf.2
    refine gg_ldc2d C dX7_doubleBits_90 (v := (4841369599423283200 : UInt64)) tw_1180 ?_
    refine gg_dmul C dX7_doubleBits_93 hf.1 ?_
    replace hf := hf.2
    refine gg_d2l C dX7_doubleBits_94 ?_
    refine gg_lstore (L' := [none, none, some (.double l2), none, some (.long l4), none, some (.long (FP.d2l (FP.dmul (FP.dsub l2 FP.dconst1) (4841369599423283200 : UInt64)))), none]) C dX7_doubleBits_95 (Or.inr (Or.inl rfl)) (by decide) rfl ?_
    refine gg_lload C dX7_doubleBits_97 rfl ?_
    refine gg_bipush C dX7_doubleBits_99 (v := (52 : Int32)) (by decide) ?_
    refine gg_lshl C dX7_doubleBits_101 ?_
    refine gg_lload C dX7_doubleBits_102 rfl ?_
    refine gg_lor C dX7_doubleBits_104 ?_
    exact gg_lret C hr (by decide) (by decide) dX7_doubleBits_105 hf
  have hb_55 : ∀ (f : Nat) (l2 : UInt64) (l4 : Int64) (l6 : Int32) (g : GM), w_X7_doubleBits_l55 X post px  f l2 l4 l6 g → GG X p l e rm_X7_doubleBits s m args below meth c 8 (vx_MQ below (qL X post) (gXC X px) args s rm_X7_doubleBits.cells rm_X7_doubleBits.slots (gA X)) 0 0 55 [none, none, some (.double l2), none, some (.long l4), none, some (.int l6), none] [] g := by
    intro  f
    induction f with
    | zero => intro l2 l4 l6 g hf; exact (show False from hf).elim
    | succ f ih =>
      intro l2 l4 l6 g hf
      rw [w_X7_doubleBits_l55] at hf
      refine gg_iload C dX7_doubleBits_55 rfl ?_
      refine gg_sipush C dX7_doubleBits_57 (v := (1100 : Int32)) (by decide) ?_
      refine gg_icmp_ge (tgt := 87) C dX7_doubleBits_60 (by decide) hf (fun hf => ?_) (fun hf => ?_)
      · exact gg_sub (L' := [none, none, some (.double l2), none, some (.long l4), none, none, none]) (by first | exact ⟨rfl, ⟨rfl, trivial⟩⟩ | simp [gsub]) (hb_87 _ _ _ hf)
      · refine gg_dload_n C dX7_doubleBits_63 rfl ?_
        refine gg_dconst1 C dX7_doubleBits_64 ?_
        refine gg_dcmp C dX7_doubleBits_65 ?_
        refine gg_if_ge (tgt := 87) C dX7_doubleBits_66 (by decide) hf (fun hf => ?_) (fun hf => ?_)
        · exact gg_sub (L' := [none, none, some (.double l2), none, some (.long l4), none, none, none]) (by first | exact ⟨rfl, ⟨rfl, trivial⟩⟩ | simp [gsub]) (hb_87 _ _ _ hf)
        · refine gg_dload_n C dX7_doubleBits_69 rfl ?_
          refine gg_ldc2d C dX7_doubleBits_70 (v := (4611686018427387904 : UInt64)) tw_1179 ?_
          refine gg_dmul C dX7_doubleBits_73 hf.1 ?_
          replace hf := hf.2
          refine gg_dstore_n (L' := [none, none, some (.double (FP.dmul l2 (4611686018427387904 : UInt64))), none, some (.long l4), none, some (.int l6), none]) C dX7_doubleBits_74 (Or.inr (Or.inl rfl)) (by decide) rfl ?_
          refine gg_lload C dX7_doubleBits_75 rfl ?_
          refine gg_lconst C dX7_doubleBits_77 (v := (1 : Int64)) (by decide) ?_
          refine gg_lsub C dX7_doubleBits_78 ?_
          refine gg_lstore (L' := [none, none, some (.double (FP.dmul l2 (4611686018427387904 : UInt64))), none, some (.long (l4 - (1 : Int64))), none, some (.int l6), none]) C dX7_doubleBits_79 (Or.inr (Or.inl rfl)) (by decide) rfl ?_
          refine gg_iinc (L' := [none, none, some (.double (FP.dmul l2 (4611686018427387904 : UInt64))), none, some (.long (l4 - (1 : Int64))), none, some (.int (l6 + 1)), none]) C dX7_doubleBits_81 rfl (v := (l6 + 1)) rfl (Or.inr (Or.inl rfl)) (by decide) rfl ?_
          refine gg_goto (tgt := 55) C dX7_doubleBits_84 (by decide) ?_
          exact ih _ _ _ _ hf
  have hb_52 : ∀ (l2 : UInt64) (l4 : Int64) (g : GM), w_X7_doubleBits_b52 X post px  l2 l4 g → GG X p l e rm_X7_doubleBits s m args below meth c 8 (vx_MQ below (qL X post) (gXC X px) args s rm_X7_doubleBits.cells rm_X7_doubleBits.slots (gA X)) 0 0 52 [none, none, some (.double l2), none, some (.long l4), none, none, none] [] g := by
    intro  l2 l4 g hf
    unfold w_X7_doubleBits_b52 at hf
    refine gg_iconst C dX7_doubleBits_52 (v := (0 : Int32)) (by decide) ?_
    refine gg_istore (L' := [none, none, some (.double l2), none, some (.long l4), none, some (.int (0 : Int32)), none]) C dX7_doubleBits_53 (Or.inr (Or.inl rfl)) (by decide) rfl ?_
    exact hb_55 _ _ _ _ _ hf
  have hb_18 : ∀ (f : Nat) (l2 : UInt64) (l4 : Int64) (l6 : Int32) (g : GM), w_X7_doubleBits_l18 X post px  f l2 l4 l6 g → GG X p l e rm_X7_doubleBits s m args below meth c 8 (vx_MQ below (qL X post) (gXC X px) args s rm_X7_doubleBits.cells rm_X7_doubleBits.slots (gA X)) 0 0 18 [none, none, some (.double l2), none, some (.long l4), none, some (.int l6), none] [] g := by
    intro  f
    induction f with
    | zero => intro l2 l4 l6 g hf; exact (show False from hf).elim
    | succ f ih =>
      intro l2 l4 l6 g hf
      rw [w_X7_doubleBits_l18] at hf
      refine gg_iload C dX7_doubleBits_18 rfl ?_
      refine gg_sipush C dX7_doubleBits_20 (v := (1100 : Int32)) (by decide) ?_
      refine gg_icmp_ge (tgt := 52) C dX7_doubleBits_23 (by decide) hf (fun hf => ?_) (fun hf => ?_)
      · exact gg_sub (L' := [none, none, some (.double l2), none, some (.long l4), none, none, none]) (by first | exact ⟨rfl, ⟨rfl, trivial⟩⟩ | simp [gsub]) (hb_52 _ _ _ hf)
      · refine gg_dload_n C dX7_doubleBits_26 rfl ?_
        refine gg_ldc2d C dX7_doubleBits_27 (v := (4611686018427387904 : UInt64)) tw_1179 ?_
        refine gg_dcmp C dX7_doubleBits_30 ?_
        refine gg_if_lt (tgt := 52) C dX7_doubleBits_31 (by decide) hf (fun hf => ?_) (fun hf => ?_)
        · exact gg_sub (L' := [none, none, some (.double l2), none, some (.long l4), none, none, none]) (by first | exact ⟨rfl, ⟨rfl, trivial⟩⟩ | simp [gsub]) (hb_52 _ _ _ hf)
        · refine gg_dload_n C dX7_doubleBits_34 rfl ?_
          refine gg_ldc2d C dX7_doubleBits_35 (v := (4611686018427387904 : UInt64)) tw_1179 ?_
          refine gg_ddiv C dX7_doubleBits_38 hf.1 ?_
          replace hf := hf.2
          refine gg_dstore_n (L' := [none, none, some (.double (FP.ddiv l2 (4611686018427387904 : UInt64))), none, some (.long l4), none, some (.int l6), none]) C dX7_doubleBits_39 (Or.inr (Or.inl rfl)) (by decide) rfl ?_
          refine gg_lload C dX7_doubleBits_40 rfl ?_
          refine gg_lconst C dX7_doubleBits_42 (v := (1 : Int64)) (by decide) ?_
          refine gg_ladd C dX7_doubleBits_43 ?_
          refine gg_lstore (L' := [none, none, some (.double (FP.ddiv l2 (4611686018427387904 : UInt64))), none, some (.long (l4 + (1 : Int64))), none, some (.int l6), none]) C dX7_doubleBits_44 (Or.inr (Or.inl rfl)) (by decide) rfl ?_
          refine gg_iinc (L' := [none, none, some (.double (FP.ddiv l2 (4611686018427387904 : UInt64))), none, some (.long (l4 + (1 : Int64))), none, some (.int (l6 + 1)), none]) C dX7_doubleBits_46 rfl (v := (l6 + 1)) rfl (Or.inr (Or.inl rfl)) (by decide) rfl ?_
          refine gg_goto (tgt := 18) C dX7_doubleBits_49 (by decide) ?_
          exact ih _ _ _ _ hf
  unfold w_X7_doubleBits at hf
  refine gg_dload_n C dX7_doubleBits_0 rfl ?_
  refine gg_dconst0 C dX7_doubleBits_1 ?_
  refine gg_dcmp C dX7_doubleBits_2 ?_
  refine gg_if_gt (tgt := 8) C dX7_doubleBits_3 (by decide) hf (fun hf => ?_) (fun hf => ?_)
  · refine gg_dload_n C dX7_doubleBits_8 rfl ?_
    refine gg_dstore_n (L' := [some (.double v0), none, some (.double v0), none, none, none, none, none]) C dX7_doubleBits_9 (Or.inr (Or.inl rfl)) (by decide) rfl ?_
    refine gg_ldc2 C dX7_doubleBits_10 (v := (1023 : Int64)) tw_1178 ?_
    refine gg_lstore (L' := [some (.double v0), none, some (.double v0), none, some (.long (1023 : Int64)), none, none, none]) C dX7_doubleBits_13 (Or.inr (Or.inl rfl)) (by decide) rfl ?_
    refine gg_iconst C dX7_doubleBits_15 (v := (0 : Int32)) (by decide) ?_
    refine gg_istore (L' := [some (.double v0), none, some (.double v0), none, some (.long (1023 : Int64)), none, some (.int (0 : Int32)), none]) C dX7_doubleBits_16 (Or.inr (Or.inl rfl)) (by decide) rfl ?_
    exact gg_sub (L' := [none, none, some (.double v0), none, some (.long (1023 : Int64)), none, some (.int (0 : Int32)), none]) (by first | exact ⟨rfl, ⟨rfl, ⟨rfl, trivial⟩⟩⟩ | simp [gsub]) (hb_18 _ _ _ _ _ hf)
  · refine gg_lconst C dX7_doubleBits_6 (v := (0 : Int64)) (by decide) ?_
    exact gg_lret C hr (by decide) (by decide) dX7_doubleBits_7 hf

def w_X7_floatBits (X : Cx) (post : Int32 → GM → Prop) (px : String → GM → Prop) (v0 : UInt32) (g : GM) : Prop :=
  (if 0 < (Op.cmpValue (FP.fcmp v0 FP.fconst0) .g) then vf_n64 (FP.f2d v0) ∧ w_X7_doubleBits X (fun (y2 : Int64) (g1 : GM) => post (((((((y2).toUInt64 >>> (((52 : Int32)).toInt64.toUInt64 &&& Int64.toUInt64 63)).toInt64).toInt32 - (1023 : Int32)) + (127 : Int32)) <<< ((23 : Int32) &&& 31)) ||| ((((y2).toUInt64 >>> (((29 : Int32)).toInt64.toUInt64 &&& Int64.toUInt64 63)).toInt64).toInt32 &&& (8388607 : Int32))) g1) px (FP.f2d v0) g else post (0 : Int32) g)
abbrev rm_X7_floatBits : Room := { frames := 1, cells := 0, slots := 0, locals := 27 }
set_option maxHeartbeats 4000000 in
set_option maxRecDepth 100000 in
theorem m_X7_floatBits {X : Cx} {l : Launch} (hfl : l.stackTraces = false) {post : Int32 → GM → Prop} {px : String → GM → Prop} {v0 : UInt32} {g : GM} (hf : w_X7_floatBits X post px v0 g) : gMet X l yX7_floatBits cX7_floatBits 5 (some .int) rm_X7_floatBits [.float v0] g (qI X post) px := by
  refine gg_enter (L := [some (.float v0), none, none, none, none]) hfl (by decide +kernel) (by simp [lg_sl, gcat, gcI, gcL, gcF, gcD]) (by simp [gll, lv_args, gcat, gcI, gcL, gcF, gcD]) ?_
  intro p e s m args below meth c C hr ht hm
  have C : FC X p l s m args meth c cX7_floatBits 5 "Releasetrain" := C
  unfold w_X7_floatBits at hf
  refine gg_fload_n C dX7_floatBits_0 rfl ?_
  refine gg_fconst0 C dX7_floatBits_1 ?_
  refine gg_fcmp C dX7_floatBits_2 ?_
  refine gg_if_gt (tgt := 8) C dX7_floatBits_3 (by decide) hf (fun hf => ?_) (fun hf => ?_)
  · refine gg_fload_n C dX7_floatBits_8 rfl ?_
    refine gg_f2d C dX7_floatBits_9 hf.1 ?_
    replace hf := hf.2
    refine gr_L (k' := 0) (n' := 0) (gk_S (As := [.double (FP.f2d v0)]) (rest := []) C dX7_floatBits_10 tw_1175 tw_1176 tw_25 tw_1177 gd_X7_doubleBits rfl ⟨by decide, by decide⟩ (by simp [gcat, gcI, gcL, gcF, gcD]) ⟨by decide, by decide⟩ (m_X7_doubleBits hfl hf)) rfl rfl (fun E g9 h9 => gx_out C (fun x hx => (ht x hx).elim) (by decide) (by decide) h9) (fun y2 g1 hf => ?_)
    refine gg_lstore_n (L' := [some (.float v0), some (.long y2), none, none, none]) C dX7_floatBits_13 (Or.inr (Or.inr ⟨_, rfl, rfl⟩)) (by decide) rfl ?_
    refine gg_lload_n C dX7_floatBits_14 rfl ?_
    refine gg_bipush C dX7_floatBits_15 (v := (52 : Int32)) (by decide) ?_
    refine gg_lushr C dX7_floatBits_17 ?_
    refine gg_l2i C dX7_floatBits_18 ?_
    refine gg_sipush C dX7_floatBits_19 (v := (1023 : Int32)) (by decide) ?_
    refine gg_isub C dX7_floatBits_22 ?_
    refine gg_bipush C dX7_floatBits_23 (v := (127 : Int32)) (by decide) ?_
    refine gg_iadd C dX7_floatBits_25 ?_
    refine gg_istore_n (L' := [some (.float v0), some (.long y2), none, some (.int (((((y2).toUInt64 >>> (((52 : Int32)).toInt64.toUInt64 &&& Int64.toUInt64 63)).toInt64).toInt32 - (1023 : Int32)) + (127 : Int32))), none]) C dX7_floatBits_26 (Or.inr (Or.inl rfl)) (by decide) rfl ?_
    refine gg_lload_n C dX7_floatBits_27 rfl ?_
    refine gg_bipush C dX7_floatBits_28 (v := (29 : Int32)) (by decide) ?_
    refine gg_lushr C dX7_floatBits_30 ?_
    refine gg_l2i C dX7_floatBits_31 ?_
    refine gg_ldcw C dX7_floatBits_32 (v := (8388607 : Int32)) tw_1181 ?_
    refine gg_iand C dX7_floatBits_35 ?_
    refine gg_istore (L' := [some (.float v0), some (.long y2), none, some (.int (((((y2).toUInt64 >>> (((52 : Int32)).toInt64.toUInt64 &&& Int64.toUInt64 63)).toInt64).toInt32 - (1023 : Int32)) + (127 : Int32))), some (.int ((((y2).toUInt64 >>> (((29 : Int32)).toInt64.toUInt64 &&& Int64.toUInt64 63)).toInt64).toInt32 &&& (8388607 : Int32)))]) C dX7_floatBits_36 (Or.inr (Or.inr ⟨_, rfl, rfl⟩)) (by decide) rfl ?_
    refine gg_iload_n C dX7_floatBits_38 rfl ?_
    refine gg_bipush C dX7_floatBits_39 (v := (23 : Int32)) (by decide) ?_
    refine gg_ishl C dX7_floatBits_41 ?_
    refine gg_iload C dX7_floatBits_42 rfl ?_
    refine gg_ior C dX7_floatBits_44 ?_
    exact gg_iret C hr (by decide) (by decide) dX7_floatBits_45 rfl hf
  · refine gg_iconst C dX7_floatBits_6 (v := (0 : Int32)) (by decide) ?_
    exact gg_iret C hr (by decide) (by decide) dX7_floatBits_7 rfl hf

def w_X7_setBound (X : Cx) (post : Int32 → GM → Prop) (px : String → GM → Prop) (v0 : Option Nat) (v1 : Int32) (g : GM) : Prop :=
  w_X7_outside X (fun (i2 : Int32) (g1 : GM) => (if i2 = 0 then wGetF g1 v0 7 10 (fun (x3 : UInt32) => w_X7_floatBits X (fun (i5 : Int32) (g4 : GM) => vf_n32 (FP.fdiv (FP.i2f v1) (1148846080 : UInt32)) ∧ wPut g4 v0 7 10 (.float (FP.fdiv (FP.i2f v1) (1148846080 : UInt32))) (fun g6 => post i5 g6)) px x3 g1) else px "java/lang/IllegalArgumentException" g1)) px v1 (0 : Int32) (1000 : Int32) g
abbrev rm_X7_setBound : Room := { frames := 6, cells := 1, slots := 6, locals := 82 }
set_option maxHeartbeats 4000000 in
set_option maxRecDepth 100000 in
theorem m_X7_setBound {X : Cx} {l : Launch} (hfl : l.stackTraces = false) {post : Int32 → GM → Prop} {px : String → GM → Prop} {v0 : Option Nat} {v1 : Int32} {g : GM} (hf : w_X7_setBound X post px v0 v1 g) : gMet X l yX7_setBound cX7_setBound 3 (some .int) rm_X7_setBound [va_rf v0, .int v1] g (qI X post) px := by
  refine gg_enter (L := [some (va_rf v0), some (.int v1), none]) hfl (by decide +kernel) (by simp [lg_sl, gcat, gcI, gcL, gcF, gcD]) (by simp [gll, lv_args, gcat, gcI, gcL, gcF, gcD]) ?_
  intro p e s m args below meth c C hr ht hm
  have C : FC X p l s m args meth c cX7_setBound 3 "Releasetrain" := C
  unfold w_X7_setBound at hf
  refine gg_iload_n C dX7_setBound_0 rfl ?_
  refine gg_iconst C dX7_setBound_1 (v := (0 : Int32)) (by decide) ?_
  refine gg_sipush C dX7_setBound_2 (v := (1000 : Int32)) (by decide) ?_
  refine gr_I (k' := 0) (n' := 0) (gk_S (As := [.int v1, .int (0 : Int32), .int (1000 : Int32)]) (rest := []) C dX7_setBound_5 tw_213 tw_214 tw_25 tw_215 gd_X7_outside rfl ⟨by decide, by decide⟩ (by simp [gcat, gcI, gcL, gcF, gcD]) ⟨by decide, by decide⟩ (m_X7_outside hfl hf)) rfl rfl (fun E g9 h9 => gx_out C (fun x hx => (ht x hx).elim) (by decide) (by decide) h9) (fun i2 g1 hf => ?_)
  refine gg_if_eq (tgt := 21) C dX7_setBound_8 (by decide) hf (fun hf => ?_) (fun hf => ?_)
  · refine gg_aload_n C dX7_setBound_21 rfl ?_
    refine gg_getF C dX7_setBound_22 lk_X7_53 hf (fun x3 hf => ?_)
    refine gr_I (k' := 0) (n' := 0) (gk_S (As := [.float x3]) (rest := []) C dX7_setBound_25 tw_1172 tw_1173 tw_25 tw_1174 gd_X7_floatBits rfl ⟨by decide, by decide⟩ (by simp [gcat, gcI, gcL, gcF, gcD]) ⟨by decide, by decide⟩ (m_X7_floatBits hfl hf)) rfl rfl (fun E g9 h9 => gx_out C (fun x hx => (ht x hx).elim) (by decide) (by decide) h9) (fun i5 g4 hf => ?_)
    refine gg_istore_n (L' := [some (va_rf v0), some (.int v1), some (.int i5)]) C dX7_setBound_28 (Or.inr (Or.inr ⟨_, rfl, rfl⟩)) (by decide) rfl ?_
    refine gg_aload_n C dX7_setBound_29 rfl ?_
    refine gg_iload_n C dX7_setBound_30 rfl ?_
    refine gg_i2f C dX7_setBound_31 ?_
    refine gg_ldcfw C dX7_setBound_32 (v := (1148846080 : UInt32)) tw_1182 ?_
    refine gg_fdiv C dX7_setBound_35 hf.1 ?_
    replace hf := hf.2
    refine gg_put C dX7_setBound_36 pk_X7_53 (gNar_float _) hf (fun g6 hf => ?_)
    refine gg_iload_n C dX7_setBound_39 rfl ?_
    exact gg_iret C hr (by decide) (by decide) dX7_setBound_40 rfl hf
  · exact gg_throw (cls := "java/lang/IllegalArgumentException") (names := ["java/lang/RuntimeException", "java/lang/Exception"]) C (by decide +kernel) (by decide +kernel) tw_307 tw_50 xk_X7_71 (show ("Releasetrain", 157, "the number is out of range", 25) ∈ gStr by decide +kernel) dX7_setBound_11 dX7_setBound_14 dX7_setBound_15 dX7_setBound_17 dX7_setBound_20 (fun x hx => (ht x hx).elim) (by decide) (by simp [gcat, gcI, gcL, gcF, gcD]) (by decide) (by decide) (by decide) (by decide) hf
