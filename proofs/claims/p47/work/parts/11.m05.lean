def w_J4_append_cf468 (X : Cx) (post : Option Nat → GM → Prop) (px : String → GM → Prop) (v0 : Option Nat) (v1 : Int32) (g : GM) : Prop :=
  wIs g v0 9 (w_J5_append_3fe6f X (fun (r2 : Option Nat) (g1 : GM) => post v0 g1) px v0 v1 g)
abbrev rm_J4_append_cf468 : Room := { frames := 5, cells := 1, slots := 128, locals := 145 }
set_option maxHeartbeats 4000000 in
set_option maxRecDepth 100000 in
theorem m_J4_append_cf468 {X : Cx} {l : Launch} (hfl : l.stackTraces = false) {post : Option Nat → GM → Prop} {px : String → GM → Prop} {v0 : Option Nat} {v1 : Int32} {g : GM} (hf : w_J4_append_cf468 X post px v0 v1 g) : gMet X l yJ4_append_cf468 cJ4_append_cf468 2 (some (.object "java/lang/StringBuilder")) rm_J4_append_cf468 [va_rf v0, .int v1] g (qR X post) px := by
  refine gg_enter (L := [some (va_rf v0), some (.int v1)]) hfl (by decide +kernel) (by simp [lg_sl, gcat, gcI, gcL, gcF, gcD]) (by simp [gll, lv_args, gcat, gcI, gcL, gcF, gcD]) ?_
  intro p e s m args below meth c C hr ht hm
  have C : FC X p l s m args meth c cJ4_append_cf468 2 "java/lang/StringBuilder" := C
  unfold w_J4_append_cf468 at hf
  refine gg_aload_n C dJ4_append_cf468_0 rfl ?_
  refine gg_iload_n C dJ4_append_cf468_1 rfl ?_
  refine gr_R (k' := 1) (n' := 128) (gk_SU (nA := 1) (ci := 9) (As := [.int v1]) (rest := []) C dJ4_append_cf468_2 rfl tw_968 tw_1381 tw_142 tw_969 tw_30 tw_970 ⟨by decide +kernel, by decide +kernel⟩ rfl ⟨by decide, by decide⟩ (by simp [gcat, gcI, gcL, gcF, gcD]) ⟨by decide, by decide⟩ hf (fun hf => m_J5_append_3fe6f hfl hf)) rfl rfl (fun E g9 h9 => gx_out C (fun x hx => (ht x hx).elim) (by decide) (by decide) h9) (fun r2 g1 hf => ?_)
  refine gg_pop C dJ4_append_cf468_5 (gcat _) ?_
  refine gg_aload_n C dJ4_append_cf468_6 rfl ?_
  exact gg_aret C hr (Or.inl ⟨_, rfl⟩) (by decide) (by decide) dJ4_append_cf468_7 hf

def w_J6_stringSize_0f7a4_l16 (X : Cx) (post : Int32 → GM → Prop) (px : String → GM → Prop)  : Nat → Int32 → Int32 → Int32 → Int32 → GM → Prop
  | 0, _, _, _, _, _ => False
  | f + 1, l0, l1, l2, l3, g => (if (10 : Int32) ≤ l3 then post ((10 : Int32) + l1) g else (if l0 ≤ l2 then w_J6_stringSize_0f7a4_l16 X post px f l0 l1 ((10 : Int32) * l2) (l3 + 1) g else post (l3 + l1) g))
def w_J6_stringSize_0f7a4_b11 (X : Cx) (post : Int32 → GM → Prop) (px : String → GM → Prop)  (l0 : Int32) (l1 : Int32) (g : GM) : Prop :=
  w_J6_stringSize_0f7a4_l16 X post px 3000 l0 l1 (-10 : Int32) (1 : Int32) g
def w_J6_stringSize_0f7a4 (X : Cx) (post : Int32 → GM → Prop) (px : String → GM → Prop) (v0 : Int32) (g : GM) : Prop :=
  (if v0 < 0 then w_J6_stringSize_0f7a4_b11 X post px v0 (1 : Int32) g else w_J6_stringSize_0f7a4_b11 X post px (-v0) (0 : Int32) g)
abbrev rm_J6_stringSize_0f7a4 : Room := { frames := 0, cells := 0, slots := 0, locals := 0 }
set_option maxHeartbeats 4000000 in
set_option maxRecDepth 100000 in
theorem m_J6_stringSize_0f7a4 {X : Cx} {l : Launch} (hfl : l.stackTraces = false) {post : Int32 → GM → Prop} {px : String → GM → Prop} {v0 : Int32} {g : GM} (hf : w_J6_stringSize_0f7a4 X post px v0 g) : gMet X l yJ6_stringSize_0f7a4 cJ6_stringSize_0f7a4 4 (some .int) rm_J6_stringSize_0f7a4 [.int v0] g (qI X post) px := by
  refine gg_enter (L := [some (.int v0), none, none, none]) hfl (by decide +kernel) (by simp [lg_sl, gcat, gcI, gcL, gcF, gcD]) (by simp [gll, lv_args, gcat, gcI, gcL, gcF, gcD]) ?_
  intro p e s m args below meth c C hr ht hm
  have C : FC X p l s m args meth c cJ6_stringSize_0f7a4 4 "java/lang/Integer" := C
  have hb_16 : ∀ (f : Nat) (l0 : Int32) (l1 : Int32) (l2 : Int32) (l3 : Int32) (g : GM), w_J6_stringSize_0f7a4_l16 X post px  f l0 l1 l2 l3 g → GG X p l e rm_J6_stringSize_0f7a4 s m args below meth c 4 (vx_MQ below (qI X post) (gXC X px) args s rm_J6_stringSize_0f7a4.cells rm_J6_stringSize_0f7a4.slots (gA X)) 0 0 16 [some (.int l0), some (.int l1), some (.int l2), some (.int l3)] [] g := by
    intro  f
    induction f with
    | zero => intro l0 l1 l2 l3 g hf; exact (show False from hf).elim
    | succ f ih =>
      intro l0 l1 l2 l3 g hf
      rw [w_J6_stringSize_0f7a4_l16] at hf
      refine gg_iload_n C dJ6_stringSize_0f7a4_16 rfl ?_
      refine gg_bipush C dJ6_stringSize_0f7a4_17 (v := (10 : Int32)) (by decide) ?_
      refine gg_icmp_ge (tgt := 42) C dJ6_stringSize_0f7a4_19 (by decide) hf (fun hf => ?_) (fun hf => ?_)
      · refine gg_bipush C dJ6_stringSize_0f7a4_42 (v := (10 : Int32)) (by decide) ?_
        refine gg_iload_n C dJ6_stringSize_0f7a4_44 rfl ?_
        refine gg_iadd C dJ6_stringSize_0f7a4_45 ?_
        exact gg_iret C hr (by decide) (by decide) dJ6_stringSize_0f7a4_46 rfl hf
      · refine gg_iload_n C dJ6_stringSize_0f7a4_22 rfl ?_
        refine gg_iload_n C dJ6_stringSize_0f7a4_23 rfl ?_
        refine gg_icmp_le (tgt := 31) C dJ6_stringSize_0f7a4_24 (by decide) hf (fun hf => ?_) (fun hf => ?_)
        · refine gg_bipush C dJ6_stringSize_0f7a4_31 (v := (10 : Int32)) (by decide) ?_
          refine gg_iload_n C dJ6_stringSize_0f7a4_33 rfl ?_
          refine gg_imul C dJ6_stringSize_0f7a4_34 ?_
          refine gg_istore_n (L' := [some (.int l0), some (.int l1), some (.int ((10 : Int32) * l2)), some (.int l3)]) C dJ6_stringSize_0f7a4_35 (Or.inr (Or.inr ⟨_, rfl, rfl⟩)) (by decide) rfl ?_
          refine gg_iinc (L' := [some (.int l0), some (.int l1), some (.int ((10 : Int32) * l2)), some (.int (l3 + 1))]) C dJ6_stringSize_0f7a4_36 rfl (v := (l3 + 1)) rfl (Or.inr (Or.inr ⟨_, rfl, rfl⟩)) (by decide) rfl ?_
          refine gg_goto (tgt := 16) C dJ6_stringSize_0f7a4_39 (by decide) ?_
          exact ih _ _ _ _ _ hf
        · refine gg_iload_n C dJ6_stringSize_0f7a4_27 rfl ?_
          refine gg_iload_n C dJ6_stringSize_0f7a4_28 rfl ?_
          refine gg_iadd C dJ6_stringSize_0f7a4_29 ?_
          exact gg_iret C hr (by decide) (by decide) dJ6_stringSize_0f7a4_30 rfl hf
  have hb_11 : ∀ (l0 : Int32) (l1 : Int32) (g : GM), w_J6_stringSize_0f7a4_b11 X post px  l0 l1 g → GG X p l e rm_J6_stringSize_0f7a4 s m args below meth c 4 (vx_MQ below (qI X post) (gXC X px) args s rm_J6_stringSize_0f7a4.cells rm_J6_stringSize_0f7a4.slots (gA X)) 0 0 11 [some (.int l0), some (.int l1), none, none] [] g := by
    intro  l0 l1 g hf
    unfold w_J6_stringSize_0f7a4_b11 at hf
    refine gg_bipush C dJ6_stringSize_0f7a4_11 (v := (-10 : Int32)) (by decide) ?_
    refine gg_istore_n (L' := [some (.int l0), some (.int l1), some (.int (-10 : Int32)), none]) C dJ6_stringSize_0f7a4_13 (Or.inr (Or.inr ⟨_, rfl, rfl⟩)) (by decide) rfl ?_
    refine gg_iconst C dJ6_stringSize_0f7a4_14 (v := (1 : Int32)) (by decide) ?_
    refine gg_istore_n (L' := [some (.int l0), some (.int l1), some (.int (-10 : Int32)), some (.int (1 : Int32))]) C dJ6_stringSize_0f7a4_15 (Or.inr (Or.inr ⟨_, rfl, rfl⟩)) (by decide) rfl ?_
    exact hb_16 _ _ _ _ _ _ hf
  unfold w_J6_stringSize_0f7a4 at hf
  refine gg_iconst C dJ6_stringSize_0f7a4_0 (v := (1 : Int32)) (by decide) ?_
  refine gg_istore_n (L' := [some (.int v0), some (.int (1 : Int32)), none, none]) C dJ6_stringSize_0f7a4_1 (Or.inr (Or.inr ⟨_, rfl, rfl⟩)) (by decide) rfl ?_
  refine gg_iload_n C dJ6_stringSize_0f7a4_2 rfl ?_
  refine gg_if_lt (tgt := 11) C dJ6_stringSize_0f7a4_3 (by decide) hf (fun hf => ?_) (fun hf => ?_)
  · exact hb_11 _ _ _ hf
  · refine gg_iconst C dJ6_stringSize_0f7a4_6 (v := (0 : Int32)) (by decide) ?_
    refine gg_istore_n (L' := [some (.int v0), some (.int (0 : Int32)), none, none]) C dJ6_stringSize_0f7a4_7 (Or.inr (Or.inr ⟨_, rfl, rfl⟩)) (by decide) rfl ?_
    refine gg_iload_n C dJ6_stringSize_0f7a4_8 rfl ?_
    refine gg_ineg C dJ6_stringSize_0f7a4_9 ?_
    refine gg_istore_n (L' := [some (.int (-v0)), some (.int (0 : Int32)), none, none]) C dJ6_stringSize_0f7a4_10 (Or.inl rfl) (by decide) rfl ?_
    exact hb_11 _ _ _ hf

def w_J6_getChars_ba4f3_b118 (X : Cx) (post : Int32 → GM → Prop) (px : String → GM → Prop)  (l5 : Int32) (g : GM) : Prop :=
  post l5 g
def w_J6_getChars_ba4f3_b104 (X : Cx) (post : Int32 → GM → Prop) (px : String → GM → Prop)  (l2 : Option Nat) (l5 : Int32) (l6 : Int32) (g : GM) : Prop :=
  (if l6 = 0 then w_J6_getChars_ba4f3_b118 X post px l5 g else wAst g l2 (l5 + (-1 : Int32)) 2 (vp_nar .byte (45 : Int32)) (fun g3 => w_J6_getChars_ba4f3_b118 X post px (l5 + (-1 : Int32)) g3))
def w_J6_getChars_ba4f3_l22 (X : Cx) (post : Int32 → GM → Prop) (px : String → GM → Prop)  : Nat → Int32 → Option Nat → Int32 → Int32 → GM → Prop
  | 0, _, _, _, _, _ => False
  | f + 1, l0, l2, l5, l6, g => (if (-100 : Int32) < l0 then wTab (X.2.2.2 202) (some (X.2.2.2 202)) (-l0) gOnes (fun (i1 : Int32) => wAst g l2 (l5 + (-1 : Int32)) 2 (vp_nar .byte i1) (fun g2 => (if (-9 : Int32) ≤ l0 then w_J6_getChars_ba4f3_b104 X post px l2 (l5 + (-1 : Int32)) l6 g2 else wTab (X.2.2.2 201) (some (X.2.2.2 201)) (-l0) gTens (fun (i4 : Int32) => wAst g2 l2 ((l5 + (-1 : Int32)) + (-1 : Int32)) 2 (vp_nar .byte i4) (fun g5 => w_J6_getChars_ba4f3_b104 X post px l2 ((l5 + (-1 : Int32)) + (-1 : Int32)) l6 g5))))) else ¬ (100 : Int32) = 0 ∧ wTab (X.2.2.2 202) (some (X.2.2.2 202)) (((l0 / (100 : Int32)) * (100 : Int32)) - l0) gOnes (fun (i6 : Int32) => wAst g l2 (l5 + (-1 : Int32)) 2 (vp_nar .byte i6) (fun g7 => wTab (X.2.2.2 201) (some (X.2.2.2 201)) (((l0 / (100 : Int32)) * (100 : Int32)) - l0) gTens (fun (i8 : Int32) => wAst g7 l2 ((l5 + (-1 : Int32)) + (-1 : Int32)) 2 (vp_nar .byte i8) (fun g9 => w_J6_getChars_ba4f3_l22 X post px f (l0 / (100 : Int32)) l2 ((l5 + (-1 : Int32)) + (-1 : Int32)) l6 g9)))))
def w_J6_getChars_ba4f3_b12 (X : Cx) (post : Int32 → GM → Prop) (px : String → GM → Prop)  (l0 : Int32) (l2 : Option Nat) (l5 : Int32) (t0 : Int32) (g : GM) : Prop :=
  (if t0 = 0 then w_J6_getChars_ba4f3_l22 X post px 3000 (-l0) l2 l5 t0 g else w_J6_getChars_ba4f3_l22 X post px 3000 l0 l2 l5 t0 g)
def w_J6_getChars_ba4f3 (X : Cx) (post : Int32 → GM → Prop) (px : String → GM → Prop) (v0 : Int32) (v1 : Int32) (v2 : Option Nat) (g : GM) : Prop :=
  (if 0 ≤ v0 then w_J6_getChars_ba4f3_b12 X post px v0 v2 v1 (0 : Int32) g else w_J6_getChars_ba4f3_b12 X post px v0 v2 v1 (1 : Int32) g)
abbrev rm_J6_getChars_ba4f3 : Room := { frames := 0, cells := 0, slots := 0, locals := 0 }
set_option maxHeartbeats 4000000 in
set_option maxRecDepth 100000 in
theorem m_J6_getChars_ba4f3 {X : Cx} {l : Launch} (hfl : l.stackTraces = false) {post : Int32 → GM → Prop} {px : String → GM → Prop} {v0 : Int32} {v1 : Int32} {v2 : Option Nat} {g : GM} (hf : w_J6_getChars_ba4f3 X post px v0 v1 v2 g) : gMet X l yJ6_getChars_ba4f3 cJ6_getChars_ba4f3 7 (some .int) rm_J6_getChars_ba4f3 [.int v0, .int v1, va_rf v2] g (qI X post) px := by
  refine gg_enter (L := [some (.int v0), some (.int v1), some (va_rf v2), none, none, none, none]) hfl (by decide +kernel) (by simp [lg_sl, gcat, gcI, gcL, gcF, gcD]) (by simp [gll, lv_args, gcat, gcI, gcL, gcF, gcD]) ?_
  intro p e s m args below meth c C hr ht hm
  have C : FC X p l s m args meth c cJ6_getChars_ba4f3 7 "java/lang/Integer" := C
  have hb_118 : ∀ (l5 : Int32) (g : GM), w_J6_getChars_ba4f3_b118 X post px  l5 g → GG X p l e rm_J6_getChars_ba4f3 s m args below meth c 7 (vx_MQ below (qI X post) (gXC X px) args s rm_J6_getChars_ba4f3.cells rm_J6_getChars_ba4f3.slots (gA X)) 0 0 118 [none, none, none, none, none, some (.int l5), none] [] g := by
    intro  l5 g hf
    unfold w_J6_getChars_ba4f3_b118 at hf
    refine gg_iload C dJ6_getChars_ba4f3_118 rfl ?_
    exact gg_iret C hr (by decide) (by decide) dJ6_getChars_ba4f3_120 rfl hf
  have hb_104 : ∀ (l2 : Option Nat) (l5 : Int32) (l6 : Int32) (g : GM), w_J6_getChars_ba4f3_b104 X post px  l2 l5 l6 g → GG X p l e rm_J6_getChars_ba4f3 s m args below meth c 7 (vx_MQ below (qI X post) (gXC X px) args s rm_J6_getChars_ba4f3.cells rm_J6_getChars_ba4f3.slots (gA X)) 0 0 104 [none, none, some (va_rf l2), none, none, some (.int l5), some (.int l6)] [] g := by
    intro  l2 l5 l6 g hf
    unfold w_J6_getChars_ba4f3_b104 at hf
    refine gg_iload C dJ6_getChars_ba4f3_104 rfl ?_
    refine gg_if_eq (tgt := 118) C dJ6_getChars_ba4f3_106 (by decide) hf (fun hf => ?_) (fun hf => ?_)
    · exact gg_sub (L' := [none, none, none, none, none, some (.int l5), none]) (by first | exact ⟨rfl, trivial⟩ | simp [gsub]) (hb_118 _ _ hf)
    · refine gg_aload_n C dJ6_getChars_ba4f3_109 rfl ?_
      refine gg_iinc (L' := [none, none, some (va_rf l2), none, none, some (.int (l5 + (-1 : Int32))), some (.int l6)]) C dJ6_getChars_ba4f3_110 rfl (v := (l5 + (-1 : Int32))) rfl (Or.inr (Or.inl rfl)) (by decide) rfl ?_
      refine gg_iload C dJ6_getChars_ba4f3_113 rfl ?_
      refine gg_bipush C dJ6_getChars_ba4f3_115 (v := (45 : Int32)) (by decide) ?_
      refine gg_bast C dJ6_getChars_ba4f3_117 hf (fun g3 hf => ?_)
      exact gg_sub (L' := [none, none, none, none, none, some (.int (l5 + (-1 : Int32))), none]) (by first | exact ⟨rfl, trivial⟩ | simp [gsub]) (hb_118 _ _ hf)
  have hb_22 : ∀ (f : Nat) (l0 : Int32) (l2 : Option Nat) (l5 : Int32) (l6 : Int32) (g : GM), w_J6_getChars_ba4f3_l22 X post px  f l0 l2 l5 l6 g → GG X p l e rm_J6_getChars_ba4f3 s m args below meth c 7 (vx_MQ below (qI X post) (gXC X px) args s rm_J6_getChars_ba4f3.cells rm_J6_getChars_ba4f3.slots (gA X)) 0 0 22 [some (.int l0), none, some (va_rf l2), none, none, some (.int l5), some (.int l6)] [] g := by
    intro  f
    induction f with
    | zero => intro l0 l2 l5 l6 g hf; exact (show False from hf).elim
    | succ f ih =>
      intro l0 l2 l5 l6 g hf
      rw [w_J6_getChars_ba4f3_l22] at hf
      refine gg_iload_n C dJ6_getChars_ba4f3_22 rfl ?_
      refine gg_bipush C dJ6_getChars_ba4f3_23 (v := (-100 : Int32)) (by decide) ?_
      refine gg_icmp_gt (tgt := 72) C dJ6_getChars_ba4f3_25 (by decide) hf (fun hf => ?_) (fun hf => ?_)
      · refine gg_aload_n C dJ6_getChars_ba4f3_72 rfl ?_
        refine gg_iinc (L' := [some (.int l0), none, some (va_rf l2), none, none, some (.int (l5 + (-1 : Int32))), some (.int l6)]) C dJ6_getChars_ba4f3_73 rfl (v := (l5 + (-1 : Int32))) rfl (Or.inr (Or.inl rfl)) (by decide) rfl ?_
        refine gg_iload C dJ6_getChars_ba4f3_76 rfl ?_
        refine gg_s_gones C dJ6_getChars_ba4f3_78 tw_834 ?_
        refine gg_iload_n C dJ6_getChars_ba4f3_81 rfl ?_
        refine gg_ineg C dJ6_getChars_ba4f3_82 ?_
        refine gg_ones C dJ6_getChars_ba4f3_83 hf (fun i1 hf => ?_)
        refine gg_bast C dJ6_getChars_ba4f3_84 hf (fun g2 hf => ?_)
        refine gg_iload_n C dJ6_getChars_ba4f3_85 rfl ?_
        refine gg_bipush C dJ6_getChars_ba4f3_86 (v := (-9 : Int32)) (by decide) ?_
        refine gg_icmp_ge (tgt := 104) C dJ6_getChars_ba4f3_88 (by decide) hf (fun hf => ?_) (fun hf => ?_)
        · exact gg_sub (L' := [none, none, some (va_rf l2), none, none, some (.int (l5 + (-1 : Int32))), some (.int l6)]) (by first | exact ⟨rfl, ⟨rfl, ⟨rfl, trivial⟩⟩⟩ | simp [gsub]) (hb_104 _ _ _ _ hf)
        · refine gg_aload_n C dJ6_getChars_ba4f3_91 rfl ?_
          refine gg_iinc (L' := [some (.int l0), none, some (va_rf l2), none, none, some (.int ((l5 + (-1 : Int32)) + (-1 : Int32))), some (.int l6)]) C dJ6_getChars_ba4f3_92 rfl (v := ((l5 + (-1 : Int32)) + (-1 : Int32))) rfl (Or.inr (Or.inl rfl)) (by decide) rfl ?_
          refine gg_iload C dJ6_getChars_ba4f3_95 rfl ?_
          refine gg_s_gtens C dJ6_getChars_ba4f3_97 tw_836 ?_
          refine gg_iload_n C dJ6_getChars_ba4f3_100 rfl ?_
          refine gg_ineg C dJ6_getChars_ba4f3_101 ?_
          refine gg_tens C dJ6_getChars_ba4f3_102 hf (fun i4 hf => ?_)
          refine gg_bast C dJ6_getChars_ba4f3_103 hf (fun g5 hf => ?_)
          exact gg_sub (L' := [none, none, some (va_rf l2), none, none, some (.int ((l5 + (-1 : Int32)) + (-1 : Int32))), some (.int l6)]) (by first | exact ⟨rfl, ⟨rfl, ⟨rfl, trivial⟩⟩⟩ | simp [gsub]) (hb_104 _ _ _ _ hf)
      · refine gg_iload_n C dJ6_getChars_ba4f3_28 rfl ?_
        refine gg_bipush C dJ6_getChars_ba4f3_29 (v := (100 : Int32)) (by decide) ?_
        refine gg_idiv C dJ6_getChars_ba4f3_31 hf.1 ?_
        replace hf := hf.2
        refine gg_istore_n (L' := [some (.int l0), none, some (va_rf l2), some (.int (l0 / (100 : Int32))), none, some (.int l5), some (.int l6)]) C dJ6_getChars_ba4f3_32 (Or.inr (Or.inr ⟨_, rfl, gcat _⟩)) (by decide) rfl ?_
        refine gg_iload_n C dJ6_getChars_ba4f3_33 rfl ?_
        refine gg_bipush C dJ6_getChars_ba4f3_34 (v := (100 : Int32)) (by decide) ?_
        refine gg_imul C dJ6_getChars_ba4f3_36 ?_
        refine gg_iload_n C dJ6_getChars_ba4f3_37 rfl ?_
        refine gg_isub C dJ6_getChars_ba4f3_38 ?_
        refine gg_istore (L' := [some (.int l0), none, some (va_rf l2), some (.int (l0 / (100 : Int32))), some (.int (((l0 / (100 : Int32)) * (100 : Int32)) - l0)), some (.int l5), some (.int l6)]) C dJ6_getChars_ba4f3_39 (Or.inr (Or.inr ⟨_, rfl, rfl⟩)) (by decide) rfl ?_
        refine gg_iload_n C dJ6_getChars_ba4f3_41 rfl ?_
        refine gg_istore_n (L' := [some (.int (l0 / (100 : Int32))), none, some (va_rf l2), some (.int (l0 / (100 : Int32))), some (.int (((l0 / (100 : Int32)) * (100 : Int32)) - l0)), some (.int l5), some (.int l6)]) C dJ6_getChars_ba4f3_42 (Or.inl rfl) (by decide) rfl ?_
        refine gg_aload_n C dJ6_getChars_ba4f3_43 rfl ?_
        refine gg_iinc (L' := [some (.int (l0 / (100 : Int32))), none, some (va_rf l2), some (.int (l0 / (100 : Int32))), some (.int (((l0 / (100 : Int32)) * (100 : Int32)) - l0)), some (.int (l5 + (-1 : Int32))), some (.int l6)]) C dJ6_getChars_ba4f3_44 rfl (v := (l5 + (-1 : Int32))) rfl (Or.inr (Or.inr ⟨_, rfl, rfl⟩)) (by decide) rfl ?_
        refine gg_iload C dJ6_getChars_ba4f3_47 rfl ?_
        refine gg_s_gones C dJ6_getChars_ba4f3_49 tw_834 ?_
        refine gg_iload C dJ6_getChars_ba4f3_52 rfl ?_
        refine gg_ones C dJ6_getChars_ba4f3_54 hf (fun i6 hf => ?_)
        refine gg_bast C dJ6_getChars_ba4f3_55 hf (fun g7 hf => ?_)
        refine gg_aload_n C dJ6_getChars_ba4f3_56 rfl ?_
        refine gg_iinc (L' := [some (.int (l0 / (100 : Int32))), none, some (va_rf l2), some (.int (l0 / (100 : Int32))), some (.int (((l0 / (100 : Int32)) * (100 : Int32)) - l0)), some (.int ((l5 + (-1 : Int32)) + (-1 : Int32))), some (.int l6)]) C dJ6_getChars_ba4f3_57 rfl (v := ((l5 + (-1 : Int32)) + (-1 : Int32))) rfl (Or.inr (Or.inr ⟨_, rfl, rfl⟩)) (by decide) rfl ?_
        refine gg_iload C dJ6_getChars_ba4f3_60 rfl ?_
        refine gg_s_gtens C dJ6_getChars_ba4f3_62 tw_836 ?_
        refine gg_iload C dJ6_getChars_ba4f3_65 rfl ?_
        refine gg_tens C dJ6_getChars_ba4f3_67 hf (fun i8 hf => ?_)
        refine gg_bast C dJ6_getChars_ba4f3_68 hf (fun g9 hf => ?_)
        refine gg_goto (tgt := 22) C dJ6_getChars_ba4f3_69 (by decide) ?_
        exact gg_sub (L' := [some (.int (l0 / (100 : Int32))), none, some (va_rf l2), none, none, some (.int ((l5 + (-1 : Int32)) + (-1 : Int32))), some (.int l6)]) (by first | exact ⟨rfl, ⟨rfl, ⟨rfl, ⟨rfl, trivial⟩⟩⟩⟩ | simp [gsub]) (ih _ _ _ _ _ hf)
  have hb_12 : ∀ (l0 : Int32) (l2 : Option Nat) (l5 : Int32) (t0 : Int32) (g : GM), w_J6_getChars_ba4f3_b12 X post px  l0 l2 l5 t0 g → GG X p l e rm_J6_getChars_ba4f3 s m args below meth c 7 (vx_MQ below (qI X post) (gXC X px) args s rm_J6_getChars_ba4f3.cells rm_J6_getChars_ba4f3.slots (gA X)) 0 0 12 [some (.int l0), none, some (va_rf l2), none, none, some (.int l5), none] [.int t0] g := by
    intro  l0 l2 l5 t0 g hf
    unfold w_J6_getChars_ba4f3_b12 at hf
    refine gg_istore (L' := [some (.int l0), none, some (va_rf l2), none, none, some (.int l5), some (.int t0)]) C dJ6_getChars_ba4f3_12 (Or.inr (Or.inr ⟨_, rfl, rfl⟩)) (by decide) rfl ?_
    refine gg_iload C dJ6_getChars_ba4f3_14 rfl ?_
    refine gg_if_ne (tgt := 22) C dJ6_getChars_ba4f3_16 (by decide) hf (fun hf => ?_) (fun hf => ?_)
    · exact hb_22 _ _ _ _ _ _ hf
    · refine gg_iload_n C dJ6_getChars_ba4f3_19 rfl ?_
      refine gg_ineg C dJ6_getChars_ba4f3_20 ?_
      refine gg_istore_n (L' := [some (.int (-l0)), none, some (va_rf l2), none, none, some (.int l5), some (.int t0)]) C dJ6_getChars_ba4f3_21 (Or.inl rfl) (by decide) rfl ?_
      exact hb_22 _ _ _ _ _ _ hf
  unfold w_J6_getChars_ba4f3 at hf
  refine gg_iload_n C dJ6_getChars_ba4f3_0 rfl ?_
  refine gg_istore (L' := [some (.int v0), some (.int v1), some (va_rf v2), none, none, some (.int v1), none]) C dJ6_getChars_ba4f3_1 (Or.inr (Or.inl rfl)) (by decide) rfl ?_
  refine gg_iload_n C dJ6_getChars_ba4f3_3 rfl ?_
  refine gg_if_ge (tgt := 11) C dJ6_getChars_ba4f3_4 (by decide) hf (fun hf => ?_) (fun hf => ?_)
  · refine gg_iconst C dJ6_getChars_ba4f3_11 (v := (0 : Int32)) (by decide) ?_
    exact gg_sub (L' := [some (.int v0), none, some (va_rf v2), none, none, some (.int v1), none]) (by first | exact ⟨rfl, ⟨rfl, ⟨rfl, trivial⟩⟩⟩ | simp [gsub]) (hb_12 _ _ _ _ _ hf)
  · refine gg_iconst C dJ6_getChars_ba4f3_7 (v := (1 : Int32)) (by decide) ?_
    refine gg_goto (tgt := 12) C dJ6_getChars_ba4f3_8 (by decide) ?_
    exact gg_sub (L' := [some (.int v0), none, some (va_rf v2), none, none, some (.int v1), none]) (by first | exact ⟨rfl, ⟨rfl, ⟨rfl, trivial⟩⟩⟩ | simp [gsub]) (hb_12 _ _ _ _ _ hf)

def w_J5_append_c97b9 (X : Cx) (post : Option Nat → GM → Prop) (px : String → GM → Prop) (v0 : Option Nat) (v1 : Int32) (g : GM) : Prop :=
  wGetI g v0 9 3 (fun (i1 : Int32) => w_J6_stringSize_0f7a4 X (fun (i3 : Int32) (g2 : GM) => wIs g2 v0 9 (w_J5_ensureCapacityInternal_d00df X (fun (g4 : GM) => wIs g4 v0 9 (w_J5_isLatin1_aae02 X (fun (i6 : Int32) (g5 : GM) => (if i6 = 0 then wGetR g5 v0 9 0 (fun (r7 : Option Nat) => False) else wGetR g5 v0 9 0 (fun (r8 : Option Nat) => w_J6_getChars_ba4f3 X (fun (i10 : Int32) (g9 : GM) => wPut g9 v0 9 3 (.int (i1 + i3)) (fun g11 => post v0 g11)) px v1 (i1 + i3) r8 g5))) px v0 g4)) px v0 (i1 + i3) g2)) px v1 g)
abbrev rm_J5_append_c97b9 : Room := { frames := 4, cells := 1, slots := 128, locals := 124 }
set_option maxHeartbeats 4000000 in
set_option maxRecDepth 100000 in
theorem m_J5_append_c97b9 {X : Cx} {l : Launch} (hfl : l.stackTraces = false) {post : Option Nat → GM → Prop} {px : String → GM → Prop} {v0 : Option Nat} {v1 : Int32} {g : GM} (hf : w_J5_append_c97b9 X post px v0 v1 g) : gMet X l yJ5_append_c97b9 cJ5_append_c97b9 4 (some (.object "java/lang/AbstractStringBuilder")) rm_J5_append_c97b9 [va_rf v0, .int v1] g (qR X post) px := by
  refine gg_enter (L := [some (va_rf v0), some (.int v1), none, none]) hfl (by decide +kernel) (by simp [lg_sl, gcat, gcI, gcL, gcF, gcD]) (by simp [gll, lv_args, gcat, gcI, gcL, gcF, gcD]) ?_
  intro p e s m args below meth c C hr ht hm
  have C : FC X p l s m args meth c cJ5_append_c97b9 4 "java/lang/AbstractStringBuilder" := C
  unfold w_J5_append_c97b9 at hf
  refine gg_aload_n C dJ5_append_c97b9_0 rfl ?_
  refine gg_getI C dJ5_append_c97b9_1 lk_java_lang_AbstractStringBuilder_79 hf (fun i1 hf => ?_)
  refine gg_istore_n (L' := [some (va_rf v0), some (.int v1), some (.int i1), none]) C dJ5_append_c97b9_4 (Or.inr (Or.inr ⟨_, rfl, rfl⟩)) (by decide) rfl ?_
  refine gg_iload_n C dJ5_append_c97b9_5 rfl ?_
  refine gg_iload_n C dJ5_append_c97b9_6 rfl ?_
  refine gr_I (k' := 0) (n' := 0) (gk_S (As := [.int v1]) (rest := [.int i1]) C dJ5_append_c97b9_7 tw_828 tw_829 tw_49 tw_830 gd_J6_stringSize_0f7a4 rfl ⟨by decide, by decide⟩ (by simp [gcat, gcI, gcL, gcF, gcD]) ⟨by decide, by decide⟩ (m_J6_stringSize_0f7a4 hfl hf)) rfl rfl (fun E g9 h9 => gx_out C (fun x hx => (ht x hx).elim) (by decide) (by decide) h9) (fun i3 g2 hf => ?_)
  refine gg_iadd C dJ5_append_c97b9_10 ?_
  refine gg_istore_n (L' := [some (va_rf v0), some (.int v1), some (.int i1), some (.int (i1 + i3))]) C dJ5_append_c97b9_11 (Or.inr (Or.inr ⟨_, rfl, rfl⟩)) (by decide) rfl ?_
  refine gg_aload_n C dJ5_append_c97b9_12 rfl ?_
  refine gg_iload_n C dJ5_append_c97b9_13 rfl ?_
  refine gr_V (k' := 1) (n' := 128) (gk_U (nA := 1) (ci := 9) (x := yJ5_ensureCapacityInternal_d00df) (owner := "java/lang/AbstractStringBuilder") (Cn := "java/lang/StringBuilder") (As := [.int (i1 + i3)]) (rest := []) C dJ5_append_c97b9_14 rfl rfl tw_727 tw_1375 tw_729 tx_1 tw_30 tw_730 rfl ⟨by decide +kernel, by decide +kernel, by decide +kernel⟩ rfl ⟨by decide, by decide⟩ (by simp [gcat, gcI, gcL, gcF, gcD]) ⟨by decide, by decide⟩ hf (fun hf => m_J5_ensureCapacityInternal_d00df hfl hf)) rfl rfl (fun E g9 h9 => gx_out C (fun x hx => (ht x hx).elim) (by decide) (by decide) h9) (fun g4 hf => ?_)
  refine gg_aload_n C dJ5_append_c97b9_17 rfl ?_
  refine gr_I (k' := 1) (n' := 128) (gk_U (nA := 0) (ci := 9) (x := yJ5_isLatin1_aae02) (owner := "java/lang/AbstractStringBuilder") (Cn := "java/lang/StringBuilder") (As := []) (rest := []) C dJ5_append_c97b9_18 rfl rfl tw_747 tw_749 tw_748 tw_750 tw_30 tw_751 rfl ⟨by decide +kernel, by decide +kernel, by decide +kernel⟩ rfl ⟨by decide, by decide⟩ (by simp [gcat, gcI, gcL, gcF, gcD]) ⟨by decide, by decide⟩ hf (fun hf => m_J5_isLatin1_aae02 hfl hf)) rfl rfl (fun E g9 h9 => gx_out C (fun x hx => (ht x hx).elim) (by decide) (by decide) h9) (fun i6 g5 hf => ?_)
  refine gg_if_eq (tgt := 37) C dJ5_append_c97b9_21 (by decide) hf (fun hf => ?_) (fun hf => ?_)
  · refine gg_iload_n C dJ5_append_c97b9_37 rfl ?_
    refine gg_iload_n C dJ5_append_c97b9_38 rfl ?_
    refine gg_iload_n C dJ5_append_c97b9_39 rfl ?_
    refine gg_aload_n C dJ5_append_c97b9_40 rfl ?_
    refine gg_getR C dJ5_append_c97b9_41 lk_java_lang_AbstractStringBuilder_15 hf (fun r7 hf => ?_)
    exact hf.elim
  · refine gg_iload_n C dJ5_append_c97b9_24 rfl ?_
    refine gg_iload_n C dJ5_append_c97b9_25 rfl ?_
    refine gg_aload_n C dJ5_append_c97b9_26 rfl ?_
    refine gg_getR C dJ5_append_c97b9_27 lk_java_lang_AbstractStringBuilder_15 hf (fun r8 hf => ?_)
    refine gr_I (k' := 1) (n' := 128) (gk_S (As := [.int v1, .int (i1 + i3), va_rf r8]) (rest := []) C dJ5_append_c97b9_30 tw_831 tw_832 tw_49 tw_833 gd_J6_getChars_ba4f3 rfl ⟨by decide, by decide⟩ (by simp [gcat, gcI, gcL, gcF, gcD]) ⟨by decide, by decide⟩ (m_J6_getChars_ba4f3 hfl hf)) rfl rfl (fun E g9 h9 => gx_out C (fun x hx => (ht x hx).elim) (by decide) (by decide) h9) (fun i10 g9 hf => ?_)
    refine gg_pop C dJ5_append_c97b9_33 (rfl) ?_
    refine gg_goto (tgt := 48) C dJ5_append_c97b9_34 (by decide) ?_
    refine gg_aload_n C dJ5_append_c97b9_48 rfl ?_
    refine gg_iload_n C dJ5_append_c97b9_49 rfl ?_
    refine gg_put C dJ5_append_c97b9_50 pk_java_lang_AbstractStringBuilder_79 (gNar_int _) hf (fun g11 hf => ?_)
    refine gg_aload_n C dJ5_append_c97b9_53 rfl ?_
    exact gg_aret C hr (Or.inl ⟨_, rfl⟩) (by decide) (by decide) dJ5_append_c97b9_54 hf

def w_J4_append_bf812 (X : Cx) (post : Option Nat → GM → Prop) (px : String → GM → Prop) (v0 : Option Nat) (v1 : Int32) (g : GM) : Prop :=
  wIs g v0 9 (w_J5_append_c97b9 X (fun (r2 : Option Nat) (g1 : GM) => post v0 g1) px v0 v1 g)
abbrev rm_J4_append_bf812 : Room := { frames := 5, cells := 1, slots := 128, locals := 147 }
set_option maxHeartbeats 4000000 in
set_option maxRecDepth 100000 in
theorem m_J4_append_bf812 {X : Cx} {l : Launch} (hfl : l.stackTraces = false) {post : Option Nat → GM → Prop} {px : String → GM → Prop} {v0 : Option Nat} {v1 : Int32} {g : GM} (hf : w_J4_append_bf812 X post px v0 v1 g) : gMet X l yJ4_append_bf812 cJ4_append_bf812 2 (some (.object "java/lang/StringBuilder")) rm_J4_append_bf812 [va_rf v0, .int v1] g (qR X post) px := by
  refine gg_enter (L := [some (va_rf v0), some (.int v1)]) hfl (by decide +kernel) (by simp [lg_sl, gcat, gcI, gcL, gcF, gcD]) (by simp [gll, lv_args, gcat, gcI, gcL, gcF, gcD]) ?_
  intro p e s m args below meth c C hr ht hm
  have C : FC X p l s m args meth c cJ4_append_bf812 2 "java/lang/StringBuilder" := C
  unfold w_J4_append_bf812 at hf
  refine gg_aload_n C dJ4_append_bf812_0 rfl ?_
  refine gg_iload_n C dJ4_append_bf812_1 rfl ?_
  refine gr_R (k' := 1) (n' := 128) (gk_SU (nA := 1) (ci := 9) (As := [.int v1]) (rest := []) C dJ4_append_bf812_2 rfl tw_825 tw_1380 tw_142 tw_826 tw_30 tw_827 ⟨by decide +kernel, by decide +kernel⟩ rfl ⟨by decide, by decide⟩ (by simp [gcat, gcI, gcL, gcF, gcD]) ⟨by decide, by decide⟩ hf (fun hf => m_J5_append_c97b9 hfl hf)) rfl rfl (fun E g9 h9 => gx_out C (fun x hx => (ht x hx).elim) (by decide) (by decide) h9) (fun r2 g1 hf => ?_)
  refine gg_pop C dJ4_append_bf812_5 (gcat _) ?_
  refine gg_aload_n C dJ4_append_bf812_6 rfl ?_
  exact gg_aret C hr (Or.inl ⟨_, rfl⟩) (by decide) (by decide) dJ4_append_bf812_7 hf

def w_J0_coder_7d493_b14 (X : Cx) (post : Int32 → GM → Prop) (px : String → GM → Prop)  (t0 : Int32) (g : GM) : Prop :=
  (narrow .byte (.int t0) = .int t0 ∧ post t0 g)
def w_J0_coder_7d493 (X : Cx) (post : Int32 → GM → Prop) (px : String → GM → Prop) (v0 : Option Nat) (g : GM) : Prop :=
  (if (1 : Int32) = 0 then w_J0_coder_7d493_b14 X post px (1 : Int32) g else wStr X v0 (fun _ => w_J0_coder_7d493_b14 X post px (0 : Int32) g))
abbrev rm_J0_coder_7d493 : Room := { frames := 0, cells := 0, slots := 0, locals := 0 }
set_option maxHeartbeats 4000000 in
set_option maxRecDepth 100000 in
theorem m_J0_coder_7d493 {X : Cx} {l : Launch} (hfl : l.stackTraces = false) {post : Int32 → GM → Prop} {px : String → GM → Prop} {v0 : Option Nat} {g : GM} (hf : w_J0_coder_7d493 X post px v0 g) : gMet X l yJ0_coder_7d493 cJ0_coder_7d493 1 (some .byte) rm_J0_coder_7d493 [va_rf v0] g (qI X post) px := by
  refine gg_enter (L := [some (va_rf v0)]) hfl (by decide +kernel) (by simp [lg_sl, gcat, gcI, gcL, gcF, gcD]) (by simp [gll, lv_args, gcat, gcI, gcL, gcF, gcD]) ?_
  intro p e s m args below meth c C hr ht hm
  have C : FC X p l s m args meth c cJ0_coder_7d493 1 "java/lang/String" := C
  have hb_14 : ∀ (t0 : Int32) (g : GM), w_J0_coder_7d493_b14 X post px  t0 g → GG X p l e rm_J0_coder_7d493 s m args below meth c 1 (vx_MQ below (qI X post) (gXC X px) args s rm_J0_coder_7d493.cells rm_J0_coder_7d493.slots (gA X)) 0 0 14 [none] [.int t0] g := by
    intro  t0 g hf
    unfold w_J0_coder_7d493_b14 at hf
    exact gg_iret C hr (by decide) (by decide) dJ0_coder_7d493_14 hf.1 hf.2
  unfold w_J0_coder_7d493 at hf
  refine gg_s_compact C dJ0_coder_7d493_0 tw_786 ?_
  refine gg_if_eq (tgt := 13) C dJ0_coder_7d493_3 (by decide) hf (fun hf => ?_) (fun hf => ?_)
  · refine gg_iconst C dJ0_coder_7d493_13 (v := (1 : Int32)) (by decide) ?_
    exact gg_sub (L' := [none]) (by first | exact trivial | simp [gsub]) (hb_14 _ _ hf)
  · refine gg_aload_n C dJ0_coder_7d493_6 rfl ?_
    refine gg_strCoder C dJ0_coder_7d493_7 tw_904 hf (fun hf => ?_)
    refine gg_goto (tgt := 14) C dJ0_coder_7d493_10 (by decide) ?_
    exact gg_sub (L' := [none]) (by first | exact trivial | simp [gsub]) (hb_14 _ _ hf)

def w_J0_length_8abf5 (X : Cx) (post : Int32 → GM → Prop) (px : String → GM → Prop) (v0 : Option Nat) (g : GM) : Prop :=
  wStr X v0 (fun (j1 : Nat) => wLen X g (some (X.2.2.2 (100 + j1))) (fun (i2 : Int32) => wStr X v0 (fun (j5 : Nat) => w_J0_coder_7d493 X (fun (i4 : Int32) (g3 : GM) => post (i2 >>> (i4 &&& 31)) g3) px v0 g)))
abbrev rm_J0_length_8abf5 : Room := { frames := 1, cells := 0, slots := 0, locals := 20 }
set_option maxHeartbeats 4000000 in
set_option maxRecDepth 100000 in
theorem m_J0_length_8abf5 {X : Cx} {l : Launch} (hfl : l.stackTraces = false) {post : Int32 → GM → Prop} {px : String → GM → Prop} {v0 : Option Nat} {g : GM} (hf : w_J0_length_8abf5 X post px v0 g) : gMet X l yJ0_length_8abf5 cJ0_length_8abf5 1 (some .int) rm_J0_length_8abf5 [va_rf v0] g (qI X post) px := by
  refine gg_enter (L := [some (va_rf v0)]) hfl (by decide +kernel) (by simp [lg_sl, gcat, gcI, gcL, gcF, gcD]) (by simp [gll, lv_args, gcat, gcI, gcL, gcF, gcD]) ?_
  intro p e s m args below meth c C hr ht hm
  have C : FC X p l s m args meth c cJ0_length_8abf5 1 "java/lang/String" := C
  unfold w_J0_length_8abf5 at hf
  refine gg_aload_n C dJ0_length_8abf5_0 rfl ?_
  refine gg_strValue C dJ0_length_8abf5_1 tw_903 hf (fun j1 hf => ?_)
  refine gg_alen C dJ0_length_8abf5_4 hf (fun i2 hf => ?_)
  refine gg_aload_n C dJ0_length_8abf5_5 rfl ?_
  refine gr_I (k' := 0) (n' := 0) (gk_VS (As := []) (rest := [.int i2]) C dJ0_length_8abf5_6 rfl tw_782 tw_783 tw_784 tw_32 tw_785 gd_J0_coder_7d493 rfl ⟨by decide, by decide⟩ (by simp [gcat, gcI, gcL, gcF, gcD]) ⟨by decide, by decide⟩ hf (fun j5 hf => m_J0_coder_7d493 hfl hf)) rfl rfl (fun E g9 h9 => gx_out C (fun x hx => (ht x hx).elim) (by decide) (by decide) h9) (fun i4 g3 hf => ?_)
  refine gg_ishr C dJ0_length_8abf5_9 ?_
  exact gg_iret C hr (by decide) (by decide) dJ0_length_8abf5_10 rfl hf

def w_J5_inflateIfNeededFor_a7421_b21 (X : Cx) (post : GM → Prop) (px : String → GM → Prop)   (g : GM) : Prop :=
  post g
def w_J5_inflateIfNeededFor_a7421 (X : Cx) (post : GM → Prop) (px : String → GM → Prop) (v0 : Option Nat) (v1 : Option Nat) (g : GM) : Prop :=
  (if (1 : Int32) = 0 then w_J5_inflateIfNeededFor_a7421_b21 X post px g else wGetI g v0 9 1 (fun (i1 : Int32) => wStr X v1 (fun (j4 : Nat) => w_J0_coder_7d493 X (fun (i3 : Int32) (g2 : GM) => (if i1 = i3 then w_J5_inflateIfNeededFor_a7421_b21 X post px g2 else False)) px v1 g)))
abbrev rm_J5_inflateIfNeededFor_a7421 : Room := { frames := 1, cells := 0, slots := 0, locals := 20 }
set_option maxHeartbeats 4000000 in
set_option maxRecDepth 100000 in
theorem m_J5_inflateIfNeededFor_a7421 {X : Cx} {l : Launch} (hfl : l.stackTraces = false) {post : GM → Prop} {px : String → GM → Prop} {v0 : Option Nat} {v1 : Option Nat} {g : GM} (hf : w_J5_inflateIfNeededFor_a7421 X post px v0 v1 g) : gMet X l yJ5_inflateIfNeededFor_a7421 cJ5_inflateIfNeededFor_a7421 2 none rm_J5_inflateIfNeededFor_a7421 [va_rf v0, va_rf v1] g (qV X post) px := by
  refine gg_enter (L := [some (va_rf v0), some (va_rf v1)]) hfl (by decide +kernel) (by simp [lg_sl, gcat, gcI, gcL, gcF, gcD]) (by simp [gll, lv_args, gcat, gcI, gcL, gcF, gcD]) ?_
  intro p e s m args below meth c C hr ht hm
  have C : FC X p l s m args meth c cJ5_inflateIfNeededFor_a7421 2 "java/lang/AbstractStringBuilder" := C
  have hb_21 : ∀  (g : GM), w_J5_inflateIfNeededFor_a7421_b21 X post px   g → GG X p l e rm_J5_inflateIfNeededFor_a7421 s m args below meth c 2 (vx_MQ below (qV X post) (gXC X px) args s rm_J5_inflateIfNeededFor_a7421.cells rm_J5_inflateIfNeededFor_a7421.slots (gA X)) 0 0 21 [none, none] [] g := by
    intro   g hf
    unfold w_J5_inflateIfNeededFor_a7421_b21 at hf
    exact gg_vret C hr (by decide) (by decide) dJ5_inflateIfNeededFor_a7421_21 hf
  unfold w_J5_inflateIfNeededFor_a7421 at hf
  refine gg_s_compact C dJ5_inflateIfNeededFor_a7421_0 tw_120 ?_
  refine gg_if_eq (tgt := 21) C dJ5_inflateIfNeededFor_a7421_3 (by decide) hf (fun hf => ?_) (fun hf => ?_)
  · exact gg_sub (L' := [none, none]) (by first | exact trivial | simp [gsub]) (hb_21 _ hf)
  · refine gg_aload_n C dJ5_inflateIfNeededFor_a7421_6 rfl ?_
    refine gg_getI C dJ5_inflateIfNeededFor_a7421_7 lk_java_lang_AbstractStringBuilder_22 hf (fun i1 hf => ?_)
    refine gg_aload_n C dJ5_inflateIfNeededFor_a7421_10 rfl ?_
    refine gr_I (k' := 0) (n' := 0) (gk_VS (As := []) (rest := [.int i1]) C dJ5_inflateIfNeededFor_a7421_11 rfl tw_795 tw_783 tw_784 tw_32 tw_785 gd_J0_coder_7d493 rfl ⟨by decide, by decide⟩ (by simp [gcat, gcI, gcL, gcF, gcD]) ⟨by decide, by decide⟩ hf (fun j4 hf => m_J0_coder_7d493 hfl hf)) rfl rfl (fun E g9 h9 => gx_out C (fun x hx => (ht x hx).elim) (by decide) (by decide) h9) (fun i3 g2 hf => ?_)
    refine gg_icmp_eq (tgt := 21) C dJ5_inflateIfNeededFor_a7421_14 (by decide) hf (fun hf => ?_) (fun hf => ?_)
    · exact gg_sub (L' := [none, none]) (by first | exact trivial | simp [gsub]) (hb_21 _ hf)
    · refine gg_aload_n C dJ5_inflateIfNeededFor_a7421_17 rfl ?_
      exact hf.elim

def w_J0_getBytes_840e7 (X : Cx) (post : GM → Prop) (px : String → GM → Prop) (v0 : Option Nat) (v1 : Option Nat) (v2 : Int32) (v3 : Int32) (g : GM) : Prop :=
  wStr X v0 (fun (j3 : Nat) => w_J0_coder_7d493 X (fun (i2 : Int32) (g1 : GM) => (if i2 = v3 then wStr X v0 (fun (j7 : Nat) => wStr X v0 (fun (j8 : Nat) => wLen X g1 (some (X.2.2.2 (100 + j8))) (fun (i9 : Int32) => wCpyS X g1 (some (X.2.2.2 (100 + j7))) (0 : Int32) v1 (v2 <<< (v3 &&& 31)) i9 (fun g10 => post g10)))) else wStr X v0 (fun (j4 : Nat) => wStr X v0 (fun (j5 : Nat) => wLen X g1 (some (X.2.2.2 (100 + j5))) (fun (i6 : Int32) => False))))) px v0 g)
abbrev rm_J0_getBytes_840e7 : Room := { frames := 1, cells := 0, slots := 0, locals := 80 }
set_option maxHeartbeats 4000000 in
set_option maxRecDepth 100000 in
theorem m_J0_getBytes_840e7 {X : Cx} {l : Launch} (hfl : l.stackTraces = false) {post : GM → Prop} {px : String → GM → Prop} {v0 : Option Nat} {v1 : Option Nat} {v2 : Int32} {v3 : Int32} {g : GM} (hf : w_J0_getBytes_840e7 X post px v0 v1 v2 v3 g) : gMet X l yJ0_getBytes_840e7 cJ0_getBytes_840e7 4 none rm_J0_getBytes_840e7 [va_rf v0, va_rf v1, .int v2, .int v3] g (qV X post) px := by
  refine gg_enter (L := [some (va_rf v0), some (va_rf v1), some (.int v2), some (.int v3)]) hfl (by decide +kernel) (by simp [lg_sl, gcat, gcI, gcL, gcF, gcD]) (by simp [gll, lv_args, gcat, gcI, gcL, gcF, gcD]) ?_
  intro p e s m args below meth c C hr ht hm
  have C : FC X p l s m args meth c cJ0_getBytes_840e7 4 "java/lang/String" := C
  unfold w_J0_getBytes_840e7 at hf
  refine gg_aload_n C dJ0_getBytes_840e7_0 rfl ?_
  refine gr_I (k' := 0) (n' := 0) (gk_VS (As := []) (rest := []) C dJ0_getBytes_840e7_1 rfl tw_782 tw_783 tw_784 tw_32 tw_785 gd_J0_coder_7d493 rfl ⟨by decide, by decide⟩ (by simp [gcat, gcI, gcL, gcF, gcD]) ⟨by decide, by decide⟩ hf (fun j3 hf => m_J0_coder_7d493 hfl hf)) rfl rfl (fun E g9 h9 => gx_out C (fun x hx => (ht x hx).elim) (by decide) (by decide) h9) (fun i2 g1 hf => ?_)
  refine gg_iload_n C dJ0_getBytes_840e7_4 rfl ?_
  refine gg_icmp_ne (tgt := 28) C dJ0_getBytes_840e7_5 (by decide) hf (fun hf => ?_) (fun hf => ?_)
  · refine gg_aload_n C dJ0_getBytes_840e7_28 rfl ?_
    refine gg_strValue C dJ0_getBytes_840e7_29 tw_903 hf (fun j4 hf => ?_)
    refine gg_iconst C dJ0_getBytes_840e7_32 (v := (0 : Int32)) (by decide) ?_
    refine gg_aload_n C dJ0_getBytes_840e7_33 rfl ?_
    refine gg_iload_n C dJ0_getBytes_840e7_34 rfl ?_
    refine gg_aload_n C dJ0_getBytes_840e7_35 rfl ?_
    refine gg_strValue C dJ0_getBytes_840e7_36 tw_903 hf (fun j5 hf => ?_)
    refine gg_alen C dJ0_getBytes_840e7_39 hf (fun i6 hf => ?_)
    exact hf.elim
  · refine gg_aload_n C dJ0_getBytes_840e7_8 rfl ?_
    refine gg_strValue C dJ0_getBytes_840e7_9 tw_903 hf (fun j7 hf => ?_)
    refine gg_iconst C dJ0_getBytes_840e7_12 (v := (0 : Int32)) (by decide) ?_
    refine gg_aload_n C dJ0_getBytes_840e7_13 rfl ?_
    refine gg_iload_n C dJ0_getBytes_840e7_14 rfl ?_
    refine gg_iload_n C dJ0_getBytes_840e7_15 rfl ?_
    refine gg_ishl C dJ0_getBytes_840e7_16 ?_
    refine gg_aload_n C dJ0_getBytes_840e7_17 rfl ?_
    refine gg_strValue C dJ0_getBytes_840e7_18 tw_903 hf (fun j8 hf => ?_)
    refine gg_alen C dJ0_getBytes_840e7_21 hf (fun i9 hf => ?_)
    refine gg_cpyS C dJ0_getBytes_840e7_22 tw_819 tw_492 tw_491 tw_46 (by decide) (by simp [gcat, gcI, gcL, gcF, gcD]; decide +kernel) hf (fun g10 hf => ?_)
    refine gg_goto (tgt := 43) C dJ0_getBytes_840e7_25 (by decide) ?_
    exact gg_vret C hr (by decide) (by decide) dJ0_getBytes_840e7_43 hf

def w_J5_putStringAt_47b60 (X : Cx) (post : GM → Prop) (px : String → GM → Prop) (v0 : Option Nat) (v1 : Int32) (v2 : Option Nat) (g : GM) : Prop :=
  wIs g v0 9 (w_J5_inflateIfNeededFor_a7421 X (fun (g1 : GM) => wGetR g1 v0 9 0 (fun (r2 : Option Nat) => wGetI g1 v0 9 1 (fun (i3 : Int32) => wStr X v2 (fun (j5 : Nat) => w_J0_getBytes_840e7 X (fun (g4 : GM) => post g4) px v2 r2 v1 i3 g1)))) px v0 v2 g)
abbrev rm_J5_putStringAt_47b60 : Room := { frames := 2, cells := 0, slots := 0, locals := 103 }
set_option maxHeartbeats 4000000 in
set_option maxRecDepth 100000 in
theorem m_J5_putStringAt_47b60 {X : Cx} {l : Launch} (hfl : l.stackTraces = false) {post : GM → Prop} {px : String → GM → Prop} {v0 : Option Nat} {v1 : Int32} {v2 : Option Nat} {g : GM} (hf : w_J5_putStringAt_47b60 X post px v0 v1 v2 g) : gMet X l yJ5_putStringAt_47b60 cJ5_putStringAt_47b60 3 none rm_J5_putStringAt_47b60 [va_rf v0, .int v1, va_rf v2] g (qV X post) px := by
  refine gg_enter (L := [some (va_rf v0), some (.int v1), some (va_rf v2)]) hfl (by decide +kernel) (by simp [lg_sl, gcat, gcI, gcL, gcF, gcD]) (by simp [gll, lv_args, gcat, gcI, gcL, gcF, gcD]) ?_
  intro p e s m args below meth c C hr ht hm
  have C : FC X p l s m args meth c cJ5_putStringAt_47b60 3 "java/lang/AbstractStringBuilder" := C
  unfold w_J5_putStringAt_47b60 at hf
  refine gg_aload_n C dJ5_putStringAt_47b60_0 rfl ?_
  refine gg_aload_n C dJ5_putStringAt_47b60_1 rfl ?_
  refine gr_V (k' := 0) (n' := 0) (gk_U (nA := 1) (ci := 9) (x := yJ5_inflateIfNeededFor_a7421) (owner := "java/lang/AbstractStringBuilder") (Cn := "java/lang/StringBuilder") (As := [va_rf v2]) (rest := []) C dJ5_putStringAt_47b60_2 rfl rfl tw_791 tw_1378 tw_793 tx_2 tw_30 tw_794 rfl ⟨by decide +kernel, by decide +kernel, by decide +kernel⟩ rfl ⟨by decide, by decide⟩ (by simp [gcat, gcI, gcL, gcF, gcD]) ⟨by decide, by decide⟩ hf (fun hf => m_J5_inflateIfNeededFor_a7421 hfl hf)) rfl rfl (fun E g9 h9 => gx_out C (fun x hx => (ht x hx).elim) (by decide) (by decide) h9) (fun g1 hf => ?_)
  refine gg_aload_n C dJ5_putStringAt_47b60_5 rfl ?_
  refine gg_aload_n C dJ5_putStringAt_47b60_6 rfl ?_
  refine gg_getR C dJ5_putStringAt_47b60_7 lk_java_lang_AbstractStringBuilder_15 hf (fun r2 hf => ?_)
  refine gg_iload_n C dJ5_putStringAt_47b60_10 rfl ?_
  refine gg_aload_n C dJ5_putStringAt_47b60_11 rfl ?_
  refine gg_getI C dJ5_putStringAt_47b60_12 lk_java_lang_AbstractStringBuilder_22 hf (fun i3 hf => ?_)
  refine gr_V (k' := 0) (n' := 0) (gk_VS (As := [va_rf r2, .int v1, .int i3]) (rest := []) C dJ5_putStringAt_47b60_15 rfl tw_815 tw_816 tw_817 tw_32 tw_818 gd_J0_getBytes_840e7 rfl ⟨by decide, by decide⟩ (by simp [gcat, gcI, gcL, gcF, gcD]) ⟨by decide, by decide⟩ hf (fun j5 hf => m_J0_getBytes_840e7 hfl hf)) rfl rfl (fun E g9 h9 => gx_out C (fun x hx => (ht x hx).elim) (by decide) (by decide) h9) (fun g4 hf => ?_)
  exact gg_vret C hr (by decide) (by decide) dJ5_putStringAt_47b60_18 hf

def w_J5_append_cf1ce (X : Cx) (post : Option Nat → GM → Prop) (px : String → GM → Prop) (v0 : Option Nat) (v1 : Option Nat) (g : GM) : Prop :=
  (if v1 = none then False else wStr X v1 (fun (j3 : Nat) => w_J0_length_8abf5 X (fun (i2 : Int32) (g1 : GM) => wGetI g1 v0 9 3 (fun (i4 : Int32) => wIs g1 v0 9 (w_J5_ensureCapacityInternal_d00df X (fun (g5 : GM) => wGetI g5 v0 9 3 (fun (i6 : Int32) => wIs g5 v0 9 (w_J5_putStringAt_47b60 X (fun (g7 : GM) => wGetI g7 v0 9 3 (fun (i8 : Int32) => wPut g7 v0 9 3 (.int (i8 + i2)) (fun g9 => post v0 g9))) px v0 i6 v1 g5))) px v0 (i4 + i2) g1))) px v1 g))
abbrev rm_J5_append_cf1ce : Room := { frames := 4, cells := 1, slots := 128, locals := 125 }
set_option maxHeartbeats 4000000 in
set_option maxRecDepth 100000 in
theorem m_J5_append_cf1ce {X : Cx} {l : Launch} (hfl : l.stackTraces = false) {post : Option Nat → GM → Prop} {px : String → GM → Prop} {v0 : Option Nat} {v1 : Option Nat} {g : GM} (hf : w_J5_append_cf1ce X post px v0 v1 g) : gMet X l yJ5_append_cf1ce cJ5_append_cf1ce 3 (some (.object "java/lang/AbstractStringBuilder")) rm_J5_append_cf1ce [va_rf v0, va_rf v1] g (qR X post) px := by
  refine gg_enter (L := [some (va_rf v0), some (va_rf v1), none]) hfl (by decide +kernel) (by simp [lg_sl, gcat, gcI, gcL, gcF, gcD]) (by simp [gll, lv_args, gcat, gcI, gcL, gcF, gcD]) ?_
  intro p e s m args below meth c C hr ht hm
  have C : FC X p l s m args meth c cJ5_append_cf1ce 3 "java/lang/AbstractStringBuilder" := C
  unfold w_J5_append_cf1ce at hf
  refine gg_aload_n C dJ5_append_cf1ce_0 rfl ?_
  refine gg_ifnonnull (tgt := 9) C dJ5_append_cf1ce_1 (by decide) hf (fun hf => ?_) (fun hf => ?_)
  · refine gg_aload_n C dJ5_append_cf1ce_9 rfl ?_
    refine gr_I (k' := 0) (n' := 0) (gk_VS (As := []) (rest := []) C dJ5_append_cf1ce_10 rfl tw_778 tw_779 tw_780 tw_32 tw_781 gd_J0_length_8abf5 rfl ⟨by decide, by decide⟩ (by simp [gcat, gcI, gcL, gcF, gcD]) ⟨by decide, by decide⟩ hf (fun j3 hf => m_J0_length_8abf5 hfl hf)) rfl rfl (fun E g9 h9 => gx_out C (fun x hx => (ht x hx).elim) (by decide) (by decide) h9) (fun i2 g1 hf => ?_)
    refine gg_istore_n (L' := [some (va_rf v0), some (va_rf v1), some (.int i2)]) C dJ5_append_cf1ce_13 (Or.inr (Or.inr ⟨_, rfl, gcat _⟩)) (by decide) rfl ?_
    refine gg_aload_n C dJ5_append_cf1ce_14 rfl ?_
    refine gg_aload_n C dJ5_append_cf1ce_15 rfl ?_
    refine gg_getI C dJ5_append_cf1ce_16 lk_java_lang_AbstractStringBuilder_79 hf (fun i4 hf => ?_)
    refine gg_iload_n C dJ5_append_cf1ce_19 rfl ?_
    refine gg_iadd C dJ5_append_cf1ce_20 ?_
    refine gr_V (k' := 1) (n' := 128) (gk_U (nA := 1) (ci := 9) (x := yJ5_ensureCapacityInternal_d00df) (owner := "java/lang/AbstractStringBuilder") (Cn := "java/lang/StringBuilder") (As := [.int (i4 + i2)]) (rest := []) C dJ5_append_cf1ce_21 rfl rfl tw_727 tw_1375 tw_729 tx_1 tw_30 tw_730 rfl ⟨by decide +kernel, by decide +kernel, by decide +kernel⟩ rfl ⟨by decide, by decide⟩ (by simp [gcat, gcI, gcL, gcF, gcD]) ⟨by decide, by decide⟩ hf (fun hf => m_J5_ensureCapacityInternal_d00df hfl hf)) rfl rfl (fun E g9 h9 => gx_out C (fun x hx => (ht x hx).elim) (by decide) (by decide) h9) (fun g5 hf => ?_)
    refine gg_aload_n C dJ5_append_cf1ce_24 rfl ?_
    refine gg_aload_n C dJ5_append_cf1ce_25 rfl ?_
    refine gg_getI C dJ5_append_cf1ce_26 lk_java_lang_AbstractStringBuilder_79 hf (fun i6 hf => ?_)
    refine gg_aload_n C dJ5_append_cf1ce_29 rfl ?_
    refine gr_V (k' := 1) (n' := 128) (gk_U (nA := 2) (ci := 9) (x := yJ5_putStringAt_47b60) (owner := "java/lang/AbstractStringBuilder") (Cn := "java/lang/StringBuilder") (As := [.int i6, va_rf v1]) (rest := []) C dJ5_append_cf1ce_30 rfl rfl tw_787 tw_1377 tw_789 tx_3 tw_30 tw_790 rfl ⟨by decide +kernel, by decide +kernel, by decide +kernel⟩ rfl ⟨by decide, by decide⟩ (by simp [gcat, gcI, gcL, gcF, gcD]) ⟨by decide, by decide⟩ hf (fun hf => m_J5_putStringAt_47b60 hfl hf)) rfl rfl (fun E g9 h9 => gx_out C (fun x hx => (ht x hx).elim) (by decide) (by decide) h9) (fun g7 hf => ?_)
    refine gg_aload_n C dJ5_append_cf1ce_33 rfl ?_
    refine gg_dup C dJ5_append_cf1ce_34 (gcat _) ?_
    refine gg_getI C dJ5_append_cf1ce_35 lk_java_lang_AbstractStringBuilder_79 hf (fun i8 hf => ?_)
    refine gg_iload_n C dJ5_append_cf1ce_38 rfl ?_
    refine gg_iadd C dJ5_append_cf1ce_39 ?_
    refine gg_put C dJ5_append_cf1ce_40 pk_java_lang_AbstractStringBuilder_79 (gNar_int _) hf (fun g9 hf => ?_)
    refine gg_aload_n C dJ5_append_cf1ce_43 rfl ?_
    exact gg_aret C hr (Or.inl ⟨_, rfl⟩) (by decide) (by decide) dJ5_append_cf1ce_44 hf
  · refine gg_aload_n C dJ5_append_cf1ce_4 rfl ?_
    exact hf.elim

def w_J4_append_15ec4 (X : Cx) (post : Option Nat → GM → Prop) (px : String → GM → Prop) (v0 : Option Nat) (v1 : Option Nat) (g : GM) : Prop :=
  wIs g v0 9 (w_J5_append_cf1ce X (fun (r2 : Option Nat) (g1 : GM) => post v0 g1) px v0 v1 g)
abbrev rm_J4_append_15ec4 : Room := { frames := 5, cells := 1, slots := 128, locals := 147 }
set_option maxHeartbeats 4000000 in
set_option maxRecDepth 100000 in
theorem m_J4_append_15ec4 {X : Cx} {l : Launch} (hfl : l.stackTraces = false) {post : Option Nat → GM → Prop} {px : String → GM → Prop} {v0 : Option Nat} {v1 : Option Nat} {g : GM} (hf : w_J4_append_15ec4 X post px v0 v1 g) : gMet X l yJ4_append_15ec4 cJ4_append_15ec4 2 (some (.object "java/lang/StringBuilder")) rm_J4_append_15ec4 [va_rf v0, va_rf v1] g (qR X post) px := by
  refine gg_enter (L := [some (va_rf v0), some (va_rf v1)]) hfl (by decide +kernel) (by simp [lg_sl, gcat, gcI, gcL, gcF, gcD]) (by simp [gll, lv_args, gcat, gcI, gcL, gcF, gcD]) ?_
  intro p e s m args below meth c C hr ht hm
  have C : FC X p l s m args meth c cJ4_append_15ec4 2 "java/lang/StringBuilder" := C
  unfold w_J4_append_15ec4 at hf
  refine gg_aload_n C dJ4_append_15ec4_0 rfl ?_
  refine gg_aload_n C dJ4_append_15ec4_1 rfl ?_
  refine gr_R (k' := 1) (n' := 128) (gk_SU (nA := 1) (ci := 9) (As := [va_rf v1]) (rest := []) C dJ4_append_15ec4_2 rfl tw_720 tw_1373 tw_142 tw_721 tw_30 tw_722 ⟨by decide +kernel, by decide +kernel⟩ rfl ⟨by decide, by decide⟩ (by simp [gcat, gcI, gcL, gcF, gcD]) ⟨by decide, by decide⟩ hf (fun hf => m_J5_append_cf1ce hfl hf)) rfl rfl (fun E g9 h9 => gx_out C (fun x hx => (ht x hx).elim) (by decide) (by decide) h9) (fun r2 g1 hf => ?_)
  refine gg_pop C dJ4_append_15ec4_5 (gcat _) ?_
  refine gg_aload_n C dJ4_append_15ec4_6 rfl ?_
  exact gg_aret C hr (Or.inl ⟨_, rfl⟩) (by decide) (by decide) dJ4_append_15ec4_7 hf

def w_X7_standingOfApproved_b41 (X : Cx) (post : Option Nat → GM → Prop) (px : String → GM → Prop)  (t0 : Option Nat) (g : GM) : Prop :=
  post t0 g
def w_X7_standingOfApproved (X : Cx) (post : Option Nat → GM → Prop) (px : String → GM → Prop) (v0 : Option Nat) (v1 : Option Nat) (g : GM) : Prop :=
  wIs g v0 7 (w_X7_holdReason X (fun (i2 : Int32) (g1 : GM) => (if i2 = (118 : Int32) then post (some (X.2.2.2 6)) g1 else (if i2 = (99 : Int32) then post (some (X.2.2.2 7)) g1 else (if i2 = (116 : Int32) then w_X7_standingOfApproved_b41 X post px (some (X.2.2.2 8)) g1 else w_X7_standingOfApproved_b41 X post px (some (X.2.2.2 5)) g1)))) px v0 v1 g)
abbrev rm_X7_standingOfApproved : Room := { frames := 2, cells := 0, slots := 0, locals := 42 }
set_option maxHeartbeats 4000000 in
set_option maxRecDepth 100000 in
theorem m_X7_standingOfApproved {X : Cx} {l : Launch} (hfl : l.stackTraces = false) {post : Option Nat → GM → Prop} {px : String → GM → Prop} {v0 : Option Nat} {v1 : Option Nat} {g : GM} (hf : w_X7_standingOfApproved X post px v0 v1 g) : gMet X l yX7_standingOfApproved cX7_standingOfApproved 3 (some (.object "java/lang/String")) rm_X7_standingOfApproved [va_rf v0, va_rf v1] g (qR X post) px := by
  refine gg_enter (L := [some (va_rf v0), some (va_rf v1), none]) hfl (by decide +kernel) (by simp [lg_sl, gcat, gcI, gcL, gcF, gcD]) (by simp [gll, lv_args, gcat, gcI, gcL, gcF, gcD]) ?_
  intro p e s m args below meth c C hr ht hm
  have C : FC X p l s m args meth c cX7_standingOfApproved 3 "Releasetrain" := C
  have hb_41 : ∀ (t0 : Option Nat) (g : GM), w_X7_standingOfApproved_b41 X post px  t0 g → GG X p l e rm_X7_standingOfApproved s m args below meth c 3 (vx_MQ below (qR X post) (gXC X px) args s rm_X7_standingOfApproved.cells rm_X7_standingOfApproved.slots (gA X)) 0 0 41 [none, none, none] [va_rf t0] g := by
    intro  t0 g hf
    unfold w_X7_standingOfApproved_b41 at hf
    exact gg_aret C hr (Or.inl ⟨_, rfl⟩) (by decide) (by decide) dX7_standingOfApproved_41 hf
  unfold w_X7_standingOfApproved at hf
  refine gg_aload_n C dX7_standingOfApproved_0 rfl ?_
  refine gg_aload_n C dX7_standingOfApproved_1 rfl ?_
  refine gr_I (k' := 0) (n' := 0) (gk_V (ci := 7) (As := [va_rf v1]) (rest := []) C dX7_standingOfApproved_2 rfl rfl tw_640 tw_642 tw_10 tw_25 tw_643 gd_X7_holdReason rfl ⟨by decide, by decide⟩ (by simp [gcat, gcI, gcL, gcF, gcD]) ⟨by decide, by decide⟩ hf (fun hf => m_X7_holdReason hfl hf)) rfl rfl (fun E g9 h9 => gx_out C (fun x hx => (ht x hx).elim) (by decide) (by decide) h9) (fun i2 g1 hf => ?_)
  refine gg_istore_n (L' := [some (va_rf v0), some (va_rf v1), some (.int i2)]) C dX7_standingOfApproved_5 (Or.inr (Or.inr ⟨_, rfl, gcat _⟩)) (by decide) rfl ?_
  refine gg_iload_n C dX7_standingOfApproved_6 rfl ?_
  refine gg_bipush C dX7_standingOfApproved_7 (v := (118 : Int32)) (by decide) ?_
  refine gg_icmp_ne (tgt := 16) C dX7_standingOfApproved_9 (by decide) hf (fun hf => ?_) (fun hf => ?_)
  · refine gg_iload_n C dX7_standingOfApproved_16 rfl ?_
    refine gg_bipush C dX7_standingOfApproved_17 (v := (99 : Int32)) (by decide) ?_
    refine gg_icmp_ne (tgt := 26) C dX7_standingOfApproved_19 (by decide) hf (fun hf => ?_) (fun hf => ?_)
    · refine gg_iload_n C dX7_standingOfApproved_26 rfl ?_
      refine gg_bipush C dX7_standingOfApproved_27 (v := (116 : Int32)) (by decide) ?_
      refine gg_icmp_ne (tgt := 38) C dX7_standingOfApproved_29 (by decide) hf (fun hf => ?_) (fun hf => ?_)
      · refine gg_ldcSW C dX7_standingOfApproved_38 (j := 5) (tx := "approved") (by decide +kernel) ?_
        exact gg_sub (L' := [none, none, none]) (by first | exact trivial | simp [gsub]) (hb_41 _ _ hf)
      · refine gg_ldcSW C dX7_standingOfApproved_32 (j := 8) (tx := "held by ratings") (by decide +kernel) ?_
        refine gg_goto (tgt := 41) C dX7_standingOfApproved_35 (by decide) ?_
        exact gg_sub (L' := [none, none, none]) (by first | exact trivial | simp [gsub]) (hb_41 _ _ hf)
    · refine gg_ldcSW C dX7_standingOfApproved_22 (j := 7) (tx := "held by crashes") (by decide +kernel) ?_
      exact gg_aret C hr (Or.inl ⟨_, rfl⟩) (by decide) (by decide) dX7_standingOfApproved_25 hf
  · refine gg_ldcSW C dX7_standingOfApproved_12 (j := 6) (tx := "held by review") (by decide +kernel) ?_
    exact gg_aret C hr (Or.inl ⟨_, rfl⟩) (by decide) (by decide) dX7_standingOfApproved_15 hf

def w_X7_standingOf_b46 (X : Cx) (post : Option Nat → GM → Prop) (px : String → GM → Prop)  (t0 : Option Nat) (g : GM) : Prop :=
  post t0 g
def w_X7_standingOf (X : Cx) (post : Option Nat → GM → Prop) (px : String → GM → Prop) (v0 : Option Nat) (v1 : Option Nat) (g : GM) : Prop :=
  wGetI g v1 1 7 (fun (i1 : Int32) => (if i1 = (100 : Int32) then post (some (X.2.2.2 2)) g else wGetI g v1 1 7 (fun (i2 : Int32) => (if i2 = (119 : Int32) then post (some (X.2.2.2 3)) g else wGetI g v1 1 7 (fun (i3 : Int32) => (if i3 = (114 : Int32) then w_X7_standingOf_b46 X post px (some (X.2.2.2 4)) g else wIs g v0 7 (w_X7_standingOfApproved X (fun (r5 : Option Nat) (g4 : GM) => w_X7_standingOf_b46 X post px r5 g4) px v0 v1 g)))))))
abbrev rm_X7_standingOf : Room := { frames := 3, cells := 0, slots := 0, locals := 64 }
set_option maxHeartbeats 4000000 in
set_option maxRecDepth 100000 in
theorem m_X7_standingOf {X : Cx} {l : Launch} (hfl : l.stackTraces = false) {post : Option Nat → GM → Prop} {px : String → GM → Prop} {v0 : Option Nat} {v1 : Option Nat} {g : GM} (hf : w_X7_standingOf X post px v0 v1 g) : gMet X l yX7_standingOf cX7_standingOf 2 (some (.object "java/lang/String")) rm_X7_standingOf [va_rf v0, va_rf v1] g (qR X post) px := by
  refine gg_enter (L := [some (va_rf v0), some (va_rf v1)]) hfl (by decide +kernel) (by simp [lg_sl, gcat, gcI, gcL, gcF, gcD]) (by simp [gll, lv_args, gcat, gcI, gcL, gcF, gcD]) ?_
  intro p e s m args below meth c C hr ht hm
  have C : FC X p l s m args meth c cX7_standingOf 2 "Releasetrain" := C
  have hb_46 : ∀ (t0 : Option Nat) (g : GM), w_X7_standingOf_b46 X post px  t0 g → GG X p l e rm_X7_standingOf s m args below meth c 2 (vx_MQ below (qR X post) (gXC X px) args s rm_X7_standingOf.cells rm_X7_standingOf.slots (gA X)) 0 0 46 [none, none] [va_rf t0] g := by
    intro  t0 g hf
    unfold w_X7_standingOf_b46 at hf
    exact gg_aret C hr (Or.inl ⟨_, rfl⟩) (by decide) (by decide) dX7_standingOf_46 hf
  unfold w_X7_standingOf at hf
  refine gg_aload_n C dX7_standingOf_0 rfl ?_
  refine gg_getI C dX7_standingOf_1 lk_X7_125 hf (fun i1 hf => ?_)
  refine gg_bipush C dX7_standingOf_4 (v := (100 : Int32)) (by decide) ?_
  refine gg_icmp_ne (tgt := 13) C dX7_standingOf_6 (by decide) hf (fun hf => ?_) (fun hf => ?_)
  · refine gg_aload_n C dX7_standingOf_13 rfl ?_
    refine gg_getI C dX7_standingOf_14 lk_X7_125 hf (fun i2 hf => ?_)
    refine gg_bipush C dX7_standingOf_17 (v := (119 : Int32)) (by decide) ?_
    refine gg_icmp_ne (tgt := 26) C dX7_standingOf_19 (by decide) hf (fun hf => ?_) (fun hf => ?_)
    · refine gg_aload_n C dX7_standingOf_26 rfl ?_
      refine gg_getI C dX7_standingOf_27 lk_X7_125 hf (fun i3 hf => ?_)
      refine gg_bipush C dX7_standingOf_30 (v := (114 : Int32)) (by decide) ?_
      refine gg_icmp_ne (tgt := 41) C dX7_standingOf_32 (by decide) hf (fun hf => ?_) (fun hf => ?_)
      · refine gg_aload_n C dX7_standingOf_41 rfl ?_
        refine gg_aload_n C dX7_standingOf_42 rfl ?_
        refine gr_R (k' := 0) (n' := 0) (gk_V (ci := 7) (As := [va_rf v1]) (rest := []) C dX7_standingOf_43 rfl rfl tw_999 tw_1001 tw_15 tw_25 tw_1002 gd_X7_standingOfApproved rfl ⟨by decide, by decide⟩ (by simp [gcat, gcI, gcL, gcF, gcD]) ⟨by decide, by decide⟩ hf (fun hf => m_X7_standingOfApproved hfl hf)) rfl rfl (fun E g9 h9 => gx_out C (fun x hx => (ht x hx).elim) (by decide) (by decide) h9) (fun r5 g4 hf => ?_)
        exact gg_sub (L' := [none, none]) (by first | exact trivial | simp [gsub]) (hb_46 _ _ hf)
      · refine gg_ldcSW C dX7_standingOf_35 (j := 4) (tx := "refused") (by decide +kernel) ?_
        refine gg_goto (tgt := 46) C dX7_standingOf_38 (by decide) ?_
        exact gg_sub (L' := [none, none]) (by first | exact trivial | simp [gsub]) (hb_46 _ _ hf)
    · refine gg_ldcSW C dX7_standingOf_22 (j := 3) (tx := "waiting") (by decide +kernel) ?_
      exact gg_aret C hr (Or.inl ⟨_, rfl⟩) (by decide) (by decide) dX7_standingOf_25 hf
  · refine gg_ldcSW C dX7_standingOf_9 (j := 2) (tx := "draft") (by decide +kernel) ?_
    exact gg_aret C hr (Or.inl ⟨_, rfl⟩) (by decide) (by decide) dX7_standingOf_12 hf

def w_J5_length_8abf5 (X : Cx) (post : Int32 → GM → Prop) (px : String → GM → Prop) (v0 : Option Nat) (g : GM) : Prop :=
  wGetI g v0 9 3 (fun (i1 : Int32) => post i1 g)
abbrev rm_J5_length_8abf5 : Room := { frames := 0, cells := 0, slots := 0, locals := 0 }
set_option maxHeartbeats 4000000 in
set_option maxRecDepth 100000 in
theorem m_J5_length_8abf5 {X : Cx} {l : Launch} (hfl : l.stackTraces = false) {post : Int32 → GM → Prop} {px : String → GM → Prop} {v0 : Option Nat} {g : GM} (hf : w_J5_length_8abf5 X post px v0 g) : gMet X l yJ5_length_8abf5 cJ5_length_8abf5 1 (some .int) rm_J5_length_8abf5 [va_rf v0] g (qI X post) px := by
  refine gg_enter (L := [some (va_rf v0)]) hfl (by decide +kernel) (by simp [lg_sl, gcat, gcI, gcL, gcF, gcD]) (by simp [gll, lv_args, gcat, gcI, gcL, gcF, gcD]) ?_
  intro p e s m args below meth c C hr ht hm
  have C : FC X p l s m args meth c cJ5_length_8abf5 1 "java/lang/AbstractStringBuilder" := C
  unfold w_J5_length_8abf5 at hf
  refine gg_aload_n C dJ5_length_8abf5_0 rfl ?_
  refine gg_getI C dJ5_length_8abf5_1 lk_java_lang_AbstractStringBuilder_79 hf (fun i1 hf => ?_)
  exact gg_iret C hr (by decide) (by decide) dJ5_length_8abf5_4 rfl hf

def w_J4_length_8abf5 (X : Cx) (post : Int32 → GM → Prop) (px : String → GM → Prop) (v0 : Option Nat) (g : GM) : Prop :=
  wIs g v0 9 (w_J5_length_8abf5 X (fun (i2 : Int32) (g1 : GM) => post i2 g1) px v0 g)
abbrev rm_J4_length_8abf5 : Room := { frames := 1, cells := 0, slots := 0, locals := 20 }
set_option maxHeartbeats 4000000 in
set_option maxRecDepth 100000 in
theorem m_J4_length_8abf5 {X : Cx} {l : Launch} (hfl : l.stackTraces = false) {post : Int32 → GM → Prop} {px : String → GM → Prop} {v0 : Option Nat} {g : GM} (hf : w_J4_length_8abf5 X post px v0 g) : gMet X l yJ4_length_8abf5 cJ4_length_8abf5 1 (some .int) rm_J4_length_8abf5 [va_rf v0] g (qI X post) px := by
  refine gg_enter (L := [some (va_rf v0)]) hfl (by decide +kernel) (by simp [lg_sl, gcat, gcI, gcL, gcF, gcD]) (by simp [gll, lv_args, gcat, gcI, gcL, gcF, gcD]) ?_
  intro p e s m args below meth c C hr ht hm
  have C : FC X p l s m args meth c cJ4_length_8abf5 1 "java/lang/StringBuilder" := C
  unfold w_J4_length_8abf5 at hf
  refine gg_aload_n C dJ4_length_8abf5_0 rfl ?_
  refine gr_I (k' := 0) (n' := 0) (gk_SU (nA := 0) (ci := 9) (As := []) (rest := []) C dJ4_length_8abf5_1 rfl tw_870 tw_866 tw_142 tw_865 tw_30 tw_871 ⟨by decide +kernel, by decide +kernel⟩ rfl ⟨by decide, by decide⟩ (by simp [gcat, gcI, gcL, gcF, gcD]) ⟨by decide, by decide⟩ hf (fun hf => m_J5_length_8abf5 hfl hf)) rfl rfl (fun E g9 h9 => gx_out C (fun x hx => (ht x hx).elim) (by decide) (by decide) h9) (fun i2 g1 hf => ?_)
  exact gg_iret C hr (by decide) (by decide) dJ4_length_8abf5_4 rfl hf

def w_X7_writeBuild_b56 (X : Cx) (post : Int32 → GM → Prop) (px : String → GM → Prop)  (l0 : Option Nat) (l2 : Option Nat) (t0 : Option Nat) (t1 : Option Nat) (g : GM) : Prop :=
  wIs g t1 9 (w_J4_append_15ec4 X (fun (r16 : Option Nat) (g15 : GM) => wGetR g15 l0 7 6 (fun (r17 : Option Nat) => wIs g15 l0 7 (w_X7_standingOf X (fun (r19 : Option Nat) (g18 : GM) => wIs g18 r17 9 (w_J4_append_15ec4 X (fun (r21 : Option Nat) (g20 : GM) => wGetR g20 l0 7 6 (fun (r22 : Option Nat) => wIs g20 r22 9 (w_J4_length_8abf5 X (fun (i24 : Int32) (g23 : GM) => post i24 g23) px r22 g20))) px r17 r19 g18)) px l0 l2 g15))) px t1 t0 g)
def w_X7_writeBuild (X : Cx) (post : Int32 → GM → Prop) (px : String → GM → Prop) (v0 : Option Nat) (v1 : Int32) (g : GM) : Prop :=
  wIs g v0 7 (w_X7_knownBuild X (fun (r2 : Option Nat) (g1 : GM) => wGetR g1 v0 7 6 (fun (r3 : Option Nat) => wIs g1 r3 9 (w_J4_setLength_d00df X (fun (g4 : GM) => wGetR g4 v0 7 6 (fun (r5 : Option Nat) => wIs g4 r5 9 (w_J4_append_cf468 X (fun (r7 : Option Nat) (g6 : GM) => wGetR g6 v0 7 6 (fun (r8 : Option Nat) => wGetI g6 r2 1 1 (fun (i9 : Int32) => wIs g6 r8 9 (w_J4_append_bf812 X (fun (r11 : Option Nat) (g10 : GM) => wGetR g10 v0 7 6 (fun (r12 : Option Nat) => wIs g10 r2 1 (w_X1_isFix X (fun (i14 : Int32) (g13 : GM) => (if i14 = 0 then w_X7_writeBuild_b56 X post px v0 r2 (some (X.2.2.2 1)) r12 g13 else w_X7_writeBuild_b56 X post px v0 r2 (some (X.2.2.2 0)) r12 g13)) px r2 g10))) px r8 i9 g6)))) px r5 (118 : Int32) g4))) px r3 (0 : Int32) g1))) px v0 v1 g)
abbrev rm_X7_writeBuild : Room := { frames := 7, cells := 6, slots := 646, locals := 168 }
set_option maxHeartbeats 4000000 in
set_option maxRecDepth 100000 in
theorem m_X7_writeBuild {X : Cx} {l : Launch} (hfl : l.stackTraces = false) {post : Int32 → GM → Prop} {px : String → GM → Prop} {v0 : Option Nat} {v1 : Int32} {g : GM} (hf : w_X7_writeBuild X post px v0 v1 g) : gMet X l yX7_writeBuild cX7_writeBuild 3 (some .int) rm_X7_writeBuild [va_rf v0, .int v1] g (qI X post) px := by
  refine gg_enter (L := [some (va_rf v0), some (.int v1), none]) hfl (by decide +kernel) (by simp [lg_sl, gcat, gcI, gcL, gcF, gcD]) (by simp [gll, lv_args, gcat, gcI, gcL, gcF, gcD]) ?_
  intro p e s m args below meth c C hr ht hm
  have C : FC X p l s m args meth c cX7_writeBuild 3 "Releasetrain" := C
  have hb_56 : ∀ (l0 : Option Nat) (l2 : Option Nat) (t0 : Option Nat) (t1 : Option Nat) (g : GM), w_X7_writeBuild_b56 X post px  l0 l2 t0 t1 g → GG X p l e rm_X7_writeBuild s m args below meth c 3 (vx_MQ below (qI X post) (gXC X px) args s rm_X7_writeBuild.cells rm_X7_writeBuild.slots (gA X)) 4 390 56 [some (va_rf l0), none, some (va_rf l2)] [va_rf t0, va_rf t1] g := by
    intro  l0 l2 t0 t1 g hf
    unfold w_X7_writeBuild_b56 at hf
    refine gr_R (k' := 5) (n' := 518) (gk_V (ci := 9) (As := [va_rf t0]) (rest := []) C dX7_writeBuild_56 rfl rfl tw_991 tw_717 tw_718 tw_31 tw_719 gd_J4_append_15ec4 rfl ⟨by decide, by decide⟩ (by simp [gcat, gcI, gcL, gcF, gcD]) ⟨by decide, by decide⟩ hf (fun hf => m_J4_append_15ec4 hfl hf)) rfl rfl (fun E g9 h9 => gx_out C (fun x hx => (ht x hx).elim) (by decide) (by decide) h9) (fun r16 g15 hf => ?_)
    refine gg_pop C dX7_writeBuild_59 (gcat _) ?_
    refine gg_aload_n C dX7_writeBuild_60 rfl ?_
    refine gg_getR C dX7_writeBuild_61 lk_X7_38 hf (fun r17 hf => ?_)
    refine gg_aload_n C dX7_writeBuild_64 rfl ?_
    refine gg_aload_n C dX7_writeBuild_65 rfl ?_
    refine gr_R (k' := 5) (n' := 518) (gk_V (ci := 7) (As := [va_rf l2]) (rest := [va_rf r17]) C dX7_writeBuild_66 rfl rfl tw_992 tw_994 tw_14 tw_25 tw_995 gd_X7_standingOf rfl ⟨by decide, by decide⟩ (by simp [gcat, gcI, gcL, gcF, gcD]) ⟨by decide, by decide⟩ hf (fun hf => m_X7_standingOf hfl hf)) rfl rfl (fun E g9 h9 => gx_out C (fun x hx => (ht x hx).elim) (by decide) (by decide) h9) (fun r19 g18 hf => ?_)
    refine gr_R (k' := 6) (n' := 646) (gk_V (ci := 9) (As := [va_rf r19]) (rest := []) C dX7_writeBuild_69 rfl rfl tw_991 tw_717 tw_718 tw_31 tw_719 gd_J4_append_15ec4 rfl ⟨by decide, by decide⟩ (by simp [gcat, gcI, gcL, gcF, gcD]) ⟨by decide, by decide⟩ hf (fun hf => m_J4_append_15ec4 hfl hf)) rfl rfl (fun E g9 h9 => gx_out C (fun x hx => (ht x hx).elim) (by decide) (by decide) h9) (fun r21 g20 hf => ?_)
    refine gg_pop C dX7_writeBuild_72 (gcat _) ?_
    refine gg_aload_n C dX7_writeBuild_73 rfl ?_
    refine gg_getR C dX7_writeBuild_74 lk_X7_38 hf (fun r22 hf => ?_)
    refine gr_I (k' := 6) (n' := 646) (gk_V (ci := 9) (As := []) (rest := []) C dX7_writeBuild_77 rfl rfl tw_1007 tw_868 tw_1382 tw_31 tw_869 gd_J4_length_8abf5 rfl ⟨by decide, by decide⟩ (by simp [gcat, gcI, gcL, gcF, gcD]) ⟨by decide, by decide⟩ hf (fun hf => m_J4_length_8abf5 hfl hf)) rfl rfl (fun E g9 h9 => gx_out C (fun x hx => (ht x hx).elim) (by decide) (by decide) h9) (fun i24 g23 hf => ?_)
    exact gg_iret C hr (by decide) (by decide) dX7_writeBuild_80 rfl hf
  unfold w_X7_writeBuild at hf
  refine gg_aload_n C dX7_writeBuild_0 rfl ?_
  refine gg_iload_n C dX7_writeBuild_1 rfl ?_
  refine gr_R (k' := 1) (n' := 6) (gk_V (ci := 7) (As := [.int v1]) (rest := []) C dX7_writeBuild_2 rfl rfl tw_209 tw_211 tw_0 tw_25 tw_212 gd_X7_knownBuild rfl ⟨by decide, by decide⟩ (by simp [gcat, gcI, gcL, gcF, gcD]) ⟨by decide, by decide⟩ hf (fun hf => m_X7_knownBuild hfl hf)) rfl rfl (fun E g9 h9 => gx_out C (fun x hx => (ht x hx).elim) (by decide) (by decide) h9) (fun r2 g1 hf => ?_)
  refine gg_astore_n (L' := [some (va_rf v0), some (.int v1), some (va_rf r2)]) C dX7_writeBuild_5 (Or.inr (Or.inr ⟨_, rfl, rfl⟩)) (by decide) rfl ?_
  refine gg_aload_n C dX7_writeBuild_6 rfl ?_
  refine gg_getR C dX7_writeBuild_7 lk_X7_38 hf (fun r3 hf => ?_)
  refine gg_iconst C dX7_writeBuild_10 (v := (0 : Int32)) (by decide) ?_
  refine gr_V (k' := 2) (n' := 134) (gk_V (ci := 9) (As := [.int (0 : Int32)]) (rest := []) C dX7_writeBuild_11 rfl rfl tw_701 tw_702 tw_703 tw_31 tw_704 gd_J4_setLength_d00df rfl ⟨by decide, by decide⟩ (by simp [gcat, gcI, gcL, gcF, gcD]) ⟨by decide, by decide⟩ hf (fun hf => m_J4_setLength_d00df hfl hf)) rfl rfl (fun E g9 h9 => gx_out C (fun x hx => (ht x hx).elim) (by decide) (by decide) h9) (fun g4 hf => ?_)
  refine gg_aload_n C dX7_writeBuild_14 rfl ?_
  refine gg_getR C dX7_writeBuild_15 lk_X7_38 hf (fun r5 hf => ?_)
  refine gg_bipush C dX7_writeBuild_18 (v := (118 : Int32)) (by decide) ?_
  refine gr_R (k' := 3) (n' := 262) (gk_V (ci := 9) (As := [.int (118 : Int32)]) (rest := []) C dX7_writeBuild_20 rfl rfl tw_964 tw_965 tw_966 tw_31 tw_967 gd_J4_append_cf468 rfl ⟨by decide, by decide⟩ (by simp [gcat, gcI, gcL, gcF, gcD]) ⟨by decide, by decide⟩ hf (fun hf => m_J4_append_cf468 hfl hf)) rfl rfl (fun E g9 h9 => gx_out C (fun x hx => (ht x hx).elim) (by decide) (by decide) h9) (fun r7 g6 hf => ?_)
  refine gg_pop C dX7_writeBuild_23 (gcat _) ?_
  refine gg_aload_n C dX7_writeBuild_24 rfl ?_
  refine gg_getR C dX7_writeBuild_25 lk_X7_38 hf (fun r8 hf => ?_)
  refine gg_aload_n C dX7_writeBuild_28 rfl ?_
  refine gg_getI C dX7_writeBuild_29 lk_X7_364 hf (fun i9 hf => ?_)
  refine gr_R (k' := 4) (n' := 390) (gk_V (ci := 9) (As := [.int i9]) (rest := []) C dX7_writeBuild_32 rfl rfl tw_984 tw_822 tw_823 tw_31 tw_824 gd_J4_append_bf812 rfl ⟨by decide, by decide⟩ (by simp [gcat, gcI, gcL, gcF, gcD]) ⟨by decide, by decide⟩ hf (fun hf => m_J4_append_bf812 hfl hf)) rfl rfl (fun E g9 h9 => gx_out C (fun x hx => (ht x hx).elim) (by decide) (by decide) h9) (fun r11 g10 hf => ?_)
  refine gg_pop C dX7_writeBuild_35 (gcat _) ?_
  refine gg_aload_n C dX7_writeBuild_36 rfl ?_
  refine gg_getR C dX7_writeBuild_37 lk_X7_38 hf (fun r12 hf => ?_)
  refine gg_aload_n C dX7_writeBuild_40 rfl ?_
  refine gr_I (k' := 4) (n' := 390) (gk_V (ci := 1) (As := []) (rest := [va_rf r12]) C dX7_writeBuild_41 rfl rfl tw_985 tw_986 tw_987 tw_59 tw_988 gd_X1_isFix rfl ⟨by decide, by decide⟩ (by simp [gcat, gcI, gcL, gcF, gcD]) ⟨by decide, by decide⟩ hf (fun hf => m_X1_isFix hfl hf)) rfl rfl (fun E g9 h9 => gx_out C (fun x hx => (ht x hx).elim) (by decide) (by decide) h9) (fun i14 g13 hf => ?_)
  refine gg_if_eq (tgt := 53) C dX7_writeBuild_44 (by decide) hf (fun hf => ?_) (fun hf => ?_)
  · refine gg_ldcSW C dX7_writeBuild_53 (j := 1) (tx := " app ") (by decide +kernel) ?_
    exact gg_sub (L' := [some (va_rf v0), none, some (va_rf r2)]) (by first | exact ⟨rfl, ⟨rfl, trivial⟩⟩ | simp [gsub]) (hb_56 _ _ _ _ _ hf)
  · refine gg_ldcSW C dX7_writeBuild_47 (j := 0) (tx := " fix ") (by decide +kernel) ?_
    refine gg_goto (tgt := 56) C dX7_writeBuild_50 (by decide) ?_
    exact gg_sub (L' := [some (va_rf v0), none, some (va_rf r2)]) (by first | exact ⟨rfl, ⟨rfl, trivial⟩⟩ | simp [gsub]) (hb_56 _ _ _ _ _ hf)

def w_J0_checkIndex_df160 (X : Cx) (post : GM → Prop) (px : String → GM → Prop) (v0 : Int32) (v1 : Int32) (g : GM) : Prop :=
  ∀ r1 : Option Nat, w_J3_checkIndex_8e157 X (fun (i3 : Int32) (g2 : GM) => post g2) px v0 v1 r1 g
abbrev rm_J0_checkIndex_df160 : Room := { frames := 1, cells := 0, slots := 0, locals := 22 }
set_option maxHeartbeats 4000000 in
set_option maxRecDepth 100000 in
theorem m_J0_checkIndex_df160 {X : Cx} {l : Launch} (hfl : l.stackTraces = false) {post : GM → Prop} {px : String → GM → Prop} {v0 : Int32} {v1 : Int32} {g : GM} (hf : w_J0_checkIndex_df160 X post px v0 v1 g) : gMet X l yJ0_checkIndex_df160 cJ0_checkIndex_df160 2 none rm_J0_checkIndex_df160 [.int v0, .int v1] g (qV X post) px := by
  refine gg_enter (L := [some (.int v0), some (.int v1)]) hfl (by decide +kernel) (by simp [lg_sl, gcat, gcI, gcL, gcF, gcD]) (by simp [gll, lv_args, gcat, gcI, gcL, gcF, gcD]) ?_
  intro p e s m args below meth c C hr ht hm
  have C : FC X p l s m args meth c cJ0_checkIndex_df160 2 "java/lang/String" := C
  unfold w_J0_checkIndex_df160 at hf
  refine gg_iload_n C dJ0_checkIndex_df160_0 rfl ?_
  refine gg_iload_n C dJ0_checkIndex_df160_1 rfl ?_
  refine gg_s_any C dJ0_checkIndex_df160_2 tw_764 (fun r1 => ?_)
  replace hf := hf r1
  refine gr_I (k' := 0) (n' := 0) (gk_S (As := [.int v0, .int v1, va_rf r1]) (rest := []) C dJ0_checkIndex_df160_5 tw_983 tw_296 tw_39 tw_297 gd_J3_checkIndex_8e157 rfl ⟨by decide, by decide⟩ (by simp [gcat, gcI, gcL, gcF, gcD]) ⟨by decide, by decide⟩ (m_J3_checkIndex_8e157 hfl hf)) rfl rfl (fun E g9 h9 => gx_out C (fun x hx => (ht x hx).elim) (by decide) (by decide) h9) (fun i3 g2 hf => ?_)
  refine gg_pop C dJ0_checkIndex_df160_8 (rfl) ?_
  exact gg_vret C hr (by decide) (by decide) dJ0_checkIndex_df160_9 hf

def w_J5_charAt_5068e (X : Cx) (post : Int32 → GM → Prop) (px : String → GM → Prop) (v0 : Option Nat) (v1 : Int32) (g : GM) : Prop :=
  wGetI g v0 9 1 (fun (i1 : Int32) => wGetR g v0 9 0 (fun (r2 : Option Nat) => wGetI g v0 9 3 (fun (i3 : Int32) => wLen X g r2 (fun (i4 : Int32) => w_J0_checkIndex_df160 X (fun (g5 : GM) => (if i1 = 0 then wAld g5 r2 v1 2 (fun (i6 : Int32) => (narrow .char (.int ((((i6 &&& (255 : Int32))).toUInt32 % 65536).toInt32)) = .int ((((i6 &&& (255 : Int32))).toUInt32 % 65536).toInt32) ∧ post ((((i6 &&& (255 : Int32))).toUInt32 % 65536).toInt32) g5)) else False)) px v1 (if (i4 >>> (i1 &&& 31)) < i3 then (i4 >>> (i1 &&& 31)) else i3) g))))
abbrev rm_J5_charAt_5068e : Room := { frames := 2, cells := 0, slots := 0, locals := 43 }
set_option maxHeartbeats 4000000 in
set_option maxRecDepth 100000 in
theorem m_J5_charAt_5068e {X : Cx} {l : Launch} (hfl : l.stackTraces = false) {post : Int32 → GM → Prop} {px : String → GM → Prop} {v0 : Option Nat} {v1 : Int32} {g : GM} (hf : w_J5_charAt_5068e X post px v0 v1 g) : gMet X l yJ5_charAt_5068e cJ5_charAt_5068e 5 (some .char) rm_J5_charAt_5068e [va_rf v0, .int v1] g (qI X post) px := by
  refine gg_enter (L := [some (va_rf v0), some (.int v1), none, none, none]) hfl (by decide +kernel) (by simp [lg_sl, gcat, gcI, gcL, gcF, gcD]) (by simp [gll, lv_args, gcat, gcI, gcL, gcF, gcD]) ?_
  intro p e s m args below meth c C hr ht hm
  have C : FC X p l s m args meth c cJ5_charAt_5068e 5 "java/lang/AbstractStringBuilder" := C
  unfold w_J5_charAt_5068e at hf
  refine gg_aload_n C dJ5_charAt_5068e_0 rfl ?_
  refine gg_getI C dJ5_charAt_5068e_1 lk_java_lang_AbstractStringBuilder_22 hf (fun i1 hf => ?_)
  refine gg_istore_n (L' := [some (va_rf v0), some (.int v1), some (.int i1), none, none]) C dJ5_charAt_5068e_4 (Or.inr (Or.inr ⟨_, rfl, rfl⟩)) (by decide) rfl ?_
  refine gg_aload_n C dJ5_charAt_5068e_5 rfl ?_
  refine gg_getR C dJ5_charAt_5068e_6 lk_java_lang_AbstractStringBuilder_15 hf (fun r2 hf => ?_)
  refine gg_astore_n (L' := [some (va_rf v0), some (.int v1), some (.int i1), some (va_rf r2), none]) C dJ5_charAt_5068e_9 (Or.inr (Or.inr ⟨_, rfl, rfl⟩)) (by decide) rfl ?_
  refine gg_aload_n C dJ5_charAt_5068e_10 rfl ?_
  refine gg_getI C dJ5_charAt_5068e_11 lk_java_lang_AbstractStringBuilder_79 hf (fun i3 hf => ?_)
  refine gg_aload_n C dJ5_charAt_5068e_14 rfl ?_
  refine gg_alen C dJ5_charAt_5068e_15 hf (fun i4 hf => ?_)
  refine gg_iload_n C dJ5_charAt_5068e_16 rfl ?_
  refine gg_ishr C dJ5_charAt_5068e_17 ?_
  refine gg_mmin C dJ5_charAt_5068e_18 tw_1258 tw_488 tw_44 tw_min (by decide) (by simp [gcat, gcI, gcL, gcF, gcD]) (by decide) (by decide) ?_
  refine gg_istore (L' := [some (va_rf v0), some (.int v1), some (.int i1), some (va_rf r2), some (.int (if (i4 >>> (i1 &&& 31)) < i3 then (i4 >>> (i1 &&& 31)) else i3))]) C dJ5_charAt_5068e_21 (Or.inr (Or.inr ⟨_, rfl, gcat _⟩)) (by decide) rfl ?_
  refine gg_iload_n C dJ5_charAt_5068e_23 rfl ?_
  refine gg_iload C dJ5_charAt_5068e_24 rfl ?_
  refine gr_V (k' := 0) (n' := 0) (gk_S (As := [.int v1, .int (if (i4 >>> (i1 &&& 31)) < i3 then (i4 >>> (i1 &&& 31)) else i3)]) (rest := []) C dJ5_charAt_5068e_26 tw_1259 tw_981 tw_32 tw_982 gd_J0_checkIndex_df160 rfl ⟨by decide, by decide⟩ (by simp [gcat, gcI, gcL, gcF, gcD]) ⟨by decide, by decide⟩ (m_J0_checkIndex_df160 hfl hf)) rfl rfl (fun E g9 h9 => gx_out C (fun x hx => (ht x hx).elim) (by decide) (by decide) h9) (fun g5 hf => ?_)
  refine gg_iload_n C dJ5_charAt_5068e_29 rfl ?_
  refine gg_if_ne (tgt := 42) C dJ5_charAt_5068e_30 (by decide) hf (fun hf => ?_) (fun hf => ?_)
  · refine gg_aload_n C dJ5_charAt_5068e_42 rfl ?_
    refine gg_iload_n C dJ5_charAt_5068e_43 rfl ?_
    exact hf.elim
  · refine gg_aload_n C dJ5_charAt_5068e_33 rfl ?_
    refine gg_iload_n C dJ5_charAt_5068e_34 rfl ?_
    refine gg_bald C dJ5_charAt_5068e_35 hf (fun i6 hf => ?_)
    refine gg_sipush C dJ5_charAt_5068e_36 (v := (255 : Int32)) (by decide) ?_
    refine gg_iand C dJ5_charAt_5068e_39 ?_
    refine gg_i2c C dJ5_charAt_5068e_40 ?_
    exact gg_iret C hr (by decide) (by decide) dJ5_charAt_5068e_41 hf.1 hf.2

def w_J4_charAt_5068e (X : Cx) (post : Int32 → GM → Prop) (px : String → GM → Prop) (v0 : Option Nat) (v1 : Int32) (g : GM) : Prop :=
  wIs g v0 9 (w_J5_charAt_5068e X (fun (i2 : Int32) (g1 : GM) => (narrow .char (.int i2) = .int i2 ∧ post i2 g1)) px v0 v1 g)
abbrev rm_J4_charAt_5068e : Room := { frames := 3, cells := 0, slots := 0, locals := 67 }
set_option maxHeartbeats 4000000 in
set_option maxRecDepth 100000 in
theorem m_J4_charAt_5068e {X : Cx} {l : Launch} (hfl : l.stackTraces = false) {post : Int32 → GM → Prop} {px : String → GM → Prop} {v0 : Option Nat} {v1 : Int32} {g : GM} (hf : w_J4_charAt_5068e X post px v0 v1 g) : gMet X l yJ4_charAt_5068e cJ4_charAt_5068e 2 (some .char) rm_J4_charAt_5068e [va_rf v0, .int v1] g (qI X post) px := by
  refine gg_enter (L := [some (va_rf v0), some (.int v1)]) hfl (by decide +kernel) (by simp [lg_sl, gcat, gcI, gcL, gcF, gcD]) (by simp [gll, lv_args, gcat, gcI, gcL, gcF, gcD]) ?_
  intro p e s m args below meth c C hr ht hm
  have C : FC X p l s m args meth c cJ4_charAt_5068e 2 "java/lang/StringBuilder" := C
  unfold w_J4_charAt_5068e at hf
  refine gg_aload_n C dJ4_charAt_5068e_0 rfl ?_
  refine gg_iload_n C dJ4_charAt_5068e_1 rfl ?_
  refine gr_I (k' := 0) (n' := 0) (gk_SU (nA := 1) (ci := 9) (As := [.int v1]) (rest := []) C dJ4_charAt_5068e_2 rfl tw_1255 tw_1383 tw_142 tw_1256 tw_30 tw_1257 ⟨by decide +kernel, by decide +kernel⟩ rfl ⟨by decide, by decide⟩ (by simp [gcat, gcI, gcL, gcF, gcD]) ⟨by decide, by decide⟩ hf (fun hf => m_J5_charAt_5068e hfl hf)) rfl rfl (fun E g9 h9 => gx_out C (fun x hx => (ht x hx).elim) (by decide) (by decide) h9) (fun i2 g1 hf => ?_)
  exact gg_iret C hr (by decide) (by decide) dJ4_charAt_5068e_5 hf.1 hf.2

def w_X7_lineAt (X : Cx) (post : Int32 → GM → Prop) (px : String → GM → Prop) (v0 : Option Nat) (v1 : Int32) (g : GM) : Prop :=
  wGetR g v0 7 6 (fun (r1 : Option Nat) => wIs g r1 9 (w_J4_length_8abf5 X (fun (i3 : Int32) (g2 : GM) => w_X7_outside X (fun (i5 : Int32) (g4 : GM) => (if i5 = 0 then wGetR g4 v0 7 6 (fun (r6 : Option Nat) => wIs g4 r6 9 (w_J4_charAt_5068e X (fun (i8 : Int32) (g7 : GM) => (narrow .char (.int i8) = .int i8 ∧ post i8 g7)) px r6 v1 g4)) else px "java/lang/IndexOutOfBoundsException" g4)) px v1 (0 : Int32) (i3 - (1 : Int32)) g2) px r1 g))
abbrev rm_X7_lineAt : Room := { frames := 6, cells := 1, slots := 6, locals := 88 }
set_option maxHeartbeats 4000000 in
set_option maxRecDepth 100000 in
theorem m_X7_lineAt {X : Cx} {l : Launch} (hfl : l.stackTraces = false) {post : Int32 → GM → Prop} {px : String → GM → Prop} {v0 : Option Nat} {v1 : Int32} {g : GM} (hf : w_X7_lineAt X post px v0 v1 g) : gMet X l yX7_lineAt cX7_lineAt 2 (some .char) rm_X7_lineAt [va_rf v0, .int v1] g (qI X post) px := by
  refine gg_enter (L := [some (va_rf v0), some (.int v1)]) hfl (by decide +kernel) (by simp [lg_sl, gcat, gcI, gcL, gcF, gcD]) (by simp [gll, lv_args, gcat, gcI, gcL, gcF, gcD]) ?_
  intro p e s m args below meth c C hr ht hm
  have C : FC X p l s m args meth c cX7_lineAt 2 "Releasetrain" := C
  unfold w_X7_lineAt at hf
  refine gg_iload_n C dX7_lineAt_0 rfl ?_
  refine gg_iconst C dX7_lineAt_1 (v := (0 : Int32)) (by decide) ?_
  refine gg_aload_n C dX7_lineAt_2 rfl ?_
  refine gg_getR C dX7_lineAt_3 lk_X7_38 hf (fun r1 hf => ?_)
  refine gr_I (k' := 0) (n' := 0) (gk_V (ci := 9) (As := []) (rest := [.int (0 : Int32), .int v1]) C dX7_lineAt_6 rfl rfl tw_1007 tw_868 tw_1382 tw_31 tw_869 gd_J4_length_8abf5 rfl ⟨by decide, by decide⟩ (by simp [gcat, gcI, gcL, gcF, gcD]) ⟨by decide, by decide⟩ hf (fun hf => m_J4_length_8abf5 hfl hf)) rfl rfl (fun E g9 h9 => gx_out C (fun x hx => (ht x hx).elim) (by decide) (by decide) h9) (fun i3 g2 hf => ?_)
  refine gg_iconst C dX7_lineAt_9 (v := (1 : Int32)) (by decide) ?_
  refine gg_isub C dX7_lineAt_10 ?_
  refine gr_I (k' := 0) (n' := 0) (gk_S (As := [.int v1, .int (0 : Int32), .int (i3 - (1 : Int32))]) (rest := []) C dX7_lineAt_11 tw_213 tw_214 tw_25 tw_215 gd_X7_outside rfl ⟨by decide, by decide⟩ (by simp [gcat, gcI, gcL, gcF, gcD]) ⟨by decide, by decide⟩ (m_X7_outside hfl hf)) rfl rfl (fun E g9 h9 => gx_out C (fun x hx => (ht x hx).elim) (by decide) (by decide) h9) (fun i5 g4 hf => ?_)
  refine gg_if_eq (tgt := 28) C dX7_lineAt_14 (by decide) hf (fun hf => ?_) (fun hf => ?_)
  · refine gg_aload_n C dX7_lineAt_28 rfl ?_
    refine gg_getR C dX7_lineAt_29 lk_X7_38 hf (fun r6 hf => ?_)
    refine gg_iload_n C dX7_lineAt_32 rfl ?_
    refine gr_I (k' := 0) (n' := 0) (gk_V (ci := 9) (As := [.int v1]) (rest := []) C dX7_lineAt_33 rfl rfl tw_1251 tw_1252 tw_1253 tw_31 tw_1254 gd_J4_charAt_5068e rfl ⟨by decide, by decide⟩ (by simp [gcat, gcI, gcL, gcF, gcD]) ⟨by decide, by decide⟩ hf (fun hf => m_J4_charAt_5068e hfl hf)) rfl rfl (fun E g9 h9 => gx_out C (fun x hx => (ht x hx).elim) (by decide) (by decide) h9) (fun i8 g7 hf => ?_)
    exact gg_iret C hr (by decide) (by decide) dX7_lineAt_36 hf.1 hf.2
  · exact gg_throwW (cls := "java/lang/IndexOutOfBoundsException") (names := ["java/lang/RuntimeException", "java/lang/Exception"]) C (by decide +kernel) (by decide +kernel) tw_1238 tw_41 xk_X7_285 (show ("Releasetrain", 386, "there is no such character", 38) ∈ gStr by decide +kernel) dX7_lineAt_17 dX7_lineAt_20 dX7_lineAt_21 dX7_lineAt_24 dX7_lineAt_27 (fun x hx => (ht x hx).elim) (by decide) (by simp [gcat, gcI, gcL, gcF, gcD]) (by decide) (by decide) (by decide) (by decide) hf

def w_L_at_b13 (X : Cx) (post : Int32 → GM → Prop) (px : String → GM → Prop)  (t0 : Int32) (g : GM) : Prop :=
  post t0 g
def w_L_at (X : Cx) (post : Int32 → GM → Prop) (px : String → GM → Prop) (v0 : Option Nat) (v1 : Int32) (g : GM) : Prop :=
  wScl X v0 (fun (i1 : Int32) => (if i1 ≤ v1 then w_L_at_b13 X post px (0 : Int32) g else wSca X v0 v1 (fun (i2 : Int32) => w_L_at_b13 X post px i2 g)))
abbrev rm_L_at : Room := { frames := 0, cells := 0, slots := 0, locals := 0 }
set_option maxHeartbeats 4000000 in
set_option maxRecDepth 100000 in
theorem m_L_at {X : Cx} {l : Launch} (hfl : l.stackTraces = false) {post : Int32 → GM → Prop} {px : String → GM → Prop} {v0 : Option Nat} {v1 : Int32} {g : GM} (hf : w_L_at X post px v0 v1 g) : gMet X l yL_at cL_at 2 (some .int) rm_L_at [va_rf v0, .int v1] g (qI X post) px := by
  refine gg_enter (L := [some (va_rf v0), some (.int v1)]) hfl (by decide +kernel) (by simp [lg_sl, gcat, gcI, gcL, gcF, gcD]) (by simp [gll, lv_args, gcat, gcI, gcL, gcF, gcD]) ?_
  intro p e s m args below meth c C hr ht hm
  have C : FC X p l s m args meth c cL_at 2 "ReleasetrainLaw" := C
  have hb_13 : ∀ (t0 : Int32) (g : GM), w_L_at_b13 X post px  t0 g → GG X p l e rm_L_at s m args below meth c 2 (vx_MQ below (qI X post) (gXC X px) args s rm_L_at.cells rm_L_at.slots (gA X)) 0 0 13 [none, none] [.int t0] g := by
    intro  t0 g hf
    unfold w_L_at_b13 at hf
    exact gg_iret C hr (by decide) (by decide) dL_at_13 rfl hf
  unfold w_L_at at hf
  refine gg_iload_n C dL_at_0 rfl ?_
  refine gg_aload_n C dL_at_1 rfl ?_
  refine gg_scl C dL_at_2 hf (fun i1 hf => ?_)
  refine gg_icmp_ge (tgt := 12) C dL_at_3 (by decide) hf (fun hf => ?_) (fun hf => ?_)
  · refine gg_iconst C dL_at_12 (v := (0 : Int32)) (by decide) ?_
    exact gg_sub (L' := [none, none]) (by first | exact trivial | simp [gsub]) (hb_13 _ _ hf)
  · refine gg_aload_n C dL_at_6 rfl ?_
    refine gg_iload_n C dL_at_7 rfl ?_
    refine gg_sca C dL_at_8 hf (fun i2 hf => ?_)
    refine gg_goto (tgt := 13) C dL_at_9 (by decide) ?_
    exact gg_sub (L' := [none, none]) (by first | exact trivial | simp [gsub]) (hb_13 _ _ hf)

def w_L_some_b15 (X : Cx) (post : Int32 → GM → Prop) (px : String → GM → Prop)  (t0 : Int32) (g : GM) : Prop :=
  post t0 g
def w_L_some (X : Cx) (post : Int32 → GM → Prop) (px : String → GM → Prop) (v0 : Int32) (v1 : Int32) (g : GM) : Prop :=
  ¬ v1 = 0 ∧ (if 0 ≤ (irem v0 v1) then w_L_some_b15 X post px (irem v0 v1) g else w_L_some_b15 X post px ((irem v0 v1) + v1) g)
abbrev rm_L_some : Room := { frames := 0, cells := 0, slots := 0, locals := 0 }
set_option maxHeartbeats 4000000 in
set_option maxRecDepth 100000 in
theorem m_L_some {X : Cx} {l : Launch} (hfl : l.stackTraces = false) {post : Int32 → GM → Prop} {px : String → GM → Prop} {v0 : Int32} {v1 : Int32} {g : GM} (hf : w_L_some X post px v0 v1 g) : gMet X l yL_some cL_some 3 (some .int) rm_L_some [.int v0, .int v1] g (qI X post) px := by
  refine gg_enter (L := [some (.int v0), some (.int v1), none]) hfl (by decide +kernel) (by simp [lg_sl, gcat, gcI, gcL, gcF, gcD]) (by simp [gll, lv_args, gcat, gcI, gcL, gcF, gcD]) ?_
  intro p e s m args below meth c C hr ht hm
  have C : FC X p l s m args meth c cL_some 3 "ReleasetrainLaw" := C
  have hb_15 : ∀ (t0 : Int32) (g : GM), w_L_some_b15 X post px  t0 g → GG X p l e rm_L_some s m args below meth c 3 (vx_MQ below (qI X post) (gXC X px) args s rm_L_some.cells rm_L_some.slots (gA X)) 0 0 15 [none, none, none] [.int t0] g := by
    intro  t0 g hf
    unfold w_L_some_b15 at hf
    exact gg_iret C hr (by decide) (by decide) dL_some_15 rfl hf
  unfold w_L_some at hf
  refine gg_iload_n C dL_some_0 rfl ?_
  refine gg_iload_n C dL_some_1 rfl ?_
  refine gg_irem C dL_some_2 hf.1 ?_
  replace hf := hf.2
  refine gg_istore_n (L' := [some (.int v0), some (.int v1), some (.int (irem v0 v1))]) C dL_some_3 (Or.inr (Or.inr ⟨_, rfl, rfl⟩)) (by decide) rfl ?_
  refine gg_iload_n C dL_some_4 rfl ?_
  refine gg_if_ge (tgt := 14) C dL_some_5 (by decide) hf (fun hf => ?_) (fun hf => ?_)
  · refine gg_iload_n C dL_some_14 rfl ?_
    exact gg_sub (L' := [none, none, none]) (by first | exact trivial | simp [gsub]) (hb_15 _ _ hf)
  · refine gg_iload_n C dL_some_8 rfl ?_
    refine gg_iload_n C dL_some_9 rfl ?_
    refine gg_iadd C dL_some_10 ?_
    refine gg_goto (tgt := 15) C dL_some_11 (by decide) ?_
    exact gg_sub (L' := [none, none, none]) (by first | exact trivial | simp [gsub]) (hb_15 _ _ hf)

def w_L_build_b47 (X : Cx) (post : Int32 → GM → Prop) (px : String → GM → Prop)  (t0 : Int32) (g : GM) : Prop :=
  post t0 g
def w_L_build (X : Cx) (post : Int32 → GM → Prop) (px : String → GM → Prop) (v0 : Option Nat) (v1 : Option Nat) (g : GM) : Prop :=
  wLen X g v1 (fun (i1 : Int32) => (if i1 = (4 : Int32) then wAld g v1 (0 : Int32) 0 (fun (i10 : Int32) => wAld g v1 (1 : Int32) 0 (fun (i11 : Int32) => wAld g v1 (2 : Int32) 0 (fun (i12 : Int32) => wAld g v1 (3 : Int32) 0 (fun (i13 : Int32) => wIs g v0 7 (w_X7_addFix X (fun (i15 : Int32) (g14 : GM) => w_L_build_b47 X post px i15 g14) (fun E g9 => if E = "java/util/NoSuchElementException" then post (-1001 : Int32) g9 else (if E = "java/lang/IllegalArgumentException" then post (-1002 : Int32) g9 else (if E = "java/lang/IllegalStateException" then post (-1003 : Int32) g9 else (False)))) v0 i10 i11 i12 i13 g))))) else wAld g v1 (0 : Int32) 0 (fun (i2 : Int32) => wAld g v1 (1 : Int32) 0 (fun (i3 : Int32) => wAld g v1 (2 : Int32) 0 (fun (i4 : Int32) => wAld g v1 (3 : Int32) 0 (fun (i5 : Int32) => wAld g v1 (4 : Int32) 0 (fun (i6 : Int32) => wAld g v1 (5 : Int32) 0 (fun (i7 : Int32) => wIs g v0 7 (w_X7_addBuild X (fun (i9 : Int32) (g8 : GM) => w_L_build_b47 X post px i9 g8) (fun E g9 => if E = "java/util/NoSuchElementException" then post (-1001 : Int32) g9 else (if E = "java/lang/IllegalArgumentException" then post (-1002 : Int32) g9 else (if E = "java/lang/IllegalStateException" then post (-1003 : Int32) g9 else (False)))) v0 i2 i3 i4 i5 i6 i7 g)))))))))
abbrev rm_L_build : Room := { frames := 9, cells := 5, slots := 189, locals := 263 }
set_option maxHeartbeats 4000000 in
set_option maxRecDepth 100000 in
theorem m_L_build {X : Cx} {l : Launch} (hfl : l.stackTraces = false) {post : Int32 → GM → Prop} {px : String → GM → Prop} {v0 : Option Nat} {v1 : Option Nat} {g : GM} (hf : w_L_build X post px v0 v1 g) : vx_Met l yL_build (.codeWith yL_build cL_build 3 (some .int) [(0, 47, 48, 17), (0, 47, 53, 19), (0, 47, 58, 21)] :: TBL) rm_L_build (gPc X [va_rf v0, va_rf v1] g) (qI X post) (gXC X px) rm_L_build.cells rm_L_build.slots (gA X) := by
  refine gg_enterW (hh := [(0, 47, 48, 17), (0, 47, 53, 19), (0, 47, 58, 21)]) (L := [some (va_rf v0), some (va_rf v1), none]) hfl (by decide +kernel) (by simp [lg_sl, gcat, gcI, gcL, gcF, gcD]) (by simp [gll, lv_args, gcat, gcI, gcL, gcF, gcD]) ?_
  intro p e s m args below meth c C hr ht
  have C : FC X p l s m args meth c cL_build 3 "ReleasetrainLaw" := C
  have hb_47 : ∀ (t0 : Int32) (g : GM), w_L_build_b47 X post px  t0 g → GG X p l e rm_L_build s m args below meth c 3 (vx_MQ below (qI X post) (gXC X px) args s rm_L_build.cells rm_L_build.slots (gA X)) 5 189 47 [none, none, none] [.int t0] g := by
    intro  t0 g hf
    unfold w_L_build_b47 at hf
    exact gg_iret C hr (by decide) (by decide) dL_build_47 rfl hf
  unfold w_L_build at hf
  refine gg_aload_n C dL_build_0 rfl ?_
  refine gg_alen C dL_build_1 hf (fun i1 hf => ?_)
  refine gg_iconst C dL_build_2 (v := (4 : Int32)) (by decide) ?_
  refine gg_icmp_ne (tgt := 25) C dL_build_3 (by decide) hf (fun hf => ?_) (fun hf => ?_)
  · refine gg_aload_n C dL_build_25 rfl ?_
    refine gg_aload_n C dL_build_26 rfl ?_
    refine gg_iconst C dL_build_27 (v := (0 : Int32)) (by decide) ?_
    refine gg_iald C dL_build_28 hf (fun i2 hf => ?_)
    refine gg_aload_n C dL_build_29 rfl ?_
    refine gg_iconst C dL_build_30 (v := (1 : Int32)) (by decide) ?_
    refine gg_iald C dL_build_31 hf (fun i3 hf => ?_)
    refine gg_aload_n C dL_build_32 rfl ?_
    refine gg_iconst C dL_build_33 (v := (2 : Int32)) (by decide) ?_
    refine gg_iald C dL_build_34 hf (fun i4 hf => ?_)
    refine gg_aload_n C dL_build_35 rfl ?_
    refine gg_iconst C dL_build_36 (v := (3 : Int32)) (by decide) ?_
    refine gg_iald C dL_build_37 hf (fun i5 hf => ?_)
    refine gg_aload_n C dL_build_38 rfl ?_
    refine gg_iconst C dL_build_39 (v := (4 : Int32)) (by decide) ?_
    refine gg_iald C dL_build_40 hf (fun i6 hf => ?_)
    refine gg_aload_n C dL_build_41 rfl ?_
    refine gg_iconst C dL_build_42 (v := (5 : Int32)) (by decide) ?_
    refine gg_iald C dL_build_43 hf (fun i7 hf => ?_)
    refine gr_I (k' := 5) (n' := 186) (gk_V (ci := 7) (As := [.int i2, .int i3, .int i4, .int i5, .int i6, .int i7]) (rest := []) C dL_build_44 rfl rfl tw_495 tw_496 tw_497 tw_25 tw_498 gd_X7_addBuild rfl ⟨by decide, by decide⟩ (by simp [gcat, gcI, gcL, gcF, gcD]) ⟨by decide, by decide⟩ hf (fun hf => m_X7_addBuild hfl hf)) rfl rfl (fun E g9 h9 => by
    by_cases e9 : E = "java/util/NoSuchElementException"
    · subst e9
      rw [if_pos rfl] at h9
      refine gx_catch (name := "java/util/NoSuchElementException") (pre := []) (x := ⟨0, 47, 48, 17⟩) (suf := [⟨0, 47, 53, 19⟩, ⟨0, 47, 58, 21⟩]) C ht (fun z hz => nomatch hz) (by decide) (by decide) tw_202 (by decide +kernel) (fun q9 => ?_)
      refine gg_astore_n (L' := [some (va_rf v0), some (va_rf v1), some (va_rf (some q9))]) C dL_build_48 (Or.inr (Or.inr ⟨_, rfl, gcat _⟩)) (by decide) rfl ?_
      refine gg_sipush C dL_build_49 (v := (-1001 : Int32)) (by decide) ?_
      exact gg_iret C hr (by decide) (by decide) dL_build_52 rfl h9
    rw [if_neg e9] at h9
    by_cases e9 : E = "java/lang/IllegalArgumentException"
    · subst e9
      rw [if_pos rfl] at h9
      refine gx_catch (name := "java/lang/IllegalArgumentException") (pre := [⟨0, 47, 48, 17⟩]) (x := ⟨0, 47, 53, 19⟩) (suf := [⟨0, 47, 58, 21⟩]) C ht (by intro z hz; simp only [List.mem_cons, List.not_mem_nil, or_false] at hz; rcases hz with rfl <;> first | exact Or.inl (by decide) | exact Or.inr ⟨by decide, "java/util/NoSuchElementException", tw_202, by decide +kernel⟩) (by decide) (by decide) tw_203 (by decide +kernel) (fun q9 => ?_)
      refine gg_astore_n (L' := [some (va_rf v0), some (va_rf v1), some (va_rf (some q9))]) C dL_build_53 (Or.inr (Or.inr ⟨_, rfl, gcat _⟩)) (by decide) rfl ?_
      refine gg_sipush C dL_build_54 (v := (-1002 : Int32)) (by decide) ?_
      exact gg_iret C hr (by decide) (by decide) dL_build_57 rfl h9
    rw [if_neg e9] at h9
    by_cases e9 : E = "java/lang/IllegalStateException"
    · subst e9
      rw [if_pos rfl] at h9
      refine gx_catch (name := "java/lang/IllegalStateException") (pre := [⟨0, 47, 48, 17⟩, ⟨0, 47, 53, 19⟩]) (x := ⟨0, 47, 58, 21⟩) (suf := []) C ht (by intro z hz; simp only [List.mem_cons, List.not_mem_nil, or_false] at hz; rcases hz with rfl | rfl <;> first | exact Or.inl (by decide) | exact Or.inr ⟨by decide, "java/util/NoSuchElementException", tw_202, by decide +kernel⟩ | exact Or.inr ⟨by decide, "java/lang/IllegalArgumentException", tw_203, by decide +kernel⟩) (by decide) (by decide) tw_204 (by decide +kernel) (fun q9 => ?_)
      refine gg_astore_n (L' := [some (va_rf v0), some (va_rf v1), some (va_rf (some q9))]) C dL_build_58 (Or.inr (Or.inr ⟨_, rfl, gcat _⟩)) (by decide) rfl ?_
      refine gg_sipush C dL_build_59 (v := (-1003 : Int32)) (by decide) ?_
      exact gg_iret C hr (by decide) (by decide) dL_build_62 rfl h9
    rw [if_neg e9] at h9
    exact h9.elim) (fun i9 g8 hf => ?_)
    exact gg_sub (L' := [none, none, none]) (by first | exact trivial | simp [gsub]) (gg_widen (k' := 5) (n' := 189) (by decide) (by decide) (hb_47 _ _ hf))
  · refine gg_aload_n C dL_build_6 rfl ?_
    refine gg_aload_n C dL_build_7 rfl ?_
    refine gg_iconst C dL_build_8 (v := (0 : Int32)) (by decide) ?_
    refine gg_iald C dL_build_9 hf (fun i10 hf => ?_)
    refine gg_aload_n C dL_build_10 rfl ?_
    refine gg_iconst C dL_build_11 (v := (1 : Int32)) (by decide) ?_
    refine gg_iald C dL_build_12 hf (fun i11 hf => ?_)
    refine gg_aload_n C dL_build_13 rfl ?_
    refine gg_iconst C dL_build_14 (v := (2 : Int32)) (by decide) ?_
    refine gg_iald C dL_build_15 hf (fun i12 hf => ?_)
    refine gg_aload_n C dL_build_16 rfl ?_
    refine gg_iconst C dL_build_17 (v := (3 : Int32)) (by decide) ?_
    refine gg_iald C dL_build_18 hf (fun i13 hf => ?_)
    refine gr_I (k' := 5) (n' := 189) (gk_V (ci := 7) (As := [.int i10, .int i11, .int i12, .int i13]) (rest := []) C dL_build_19 rfl rfl tw_205 tw_206 tw_207 tw_25 tw_208 gd_X7_addFix rfl ⟨by decide, by decide⟩ (by simp [gcat, gcI, gcL, gcF, gcD]) ⟨by decide, by decide⟩ hf (fun hf => m_X7_addFix hfl hf)) rfl rfl (fun E g9 h9 => by
    by_cases e9 : E = "java/util/NoSuchElementException"
    · subst e9
      rw [if_pos rfl] at h9
      refine gx_catch (name := "java/util/NoSuchElementException") (pre := []) (x := ⟨0, 47, 48, 17⟩) (suf := [⟨0, 47, 53, 19⟩, ⟨0, 47, 58, 21⟩]) C ht (fun z hz => nomatch hz) (by decide) (by decide) tw_202 (by decide +kernel) (fun q9 => ?_)
      refine gg_astore_n (L' := [some (va_rf v0), some (va_rf v1), some (va_rf (some q9))]) C dL_build_48 (Or.inr (Or.inr ⟨_, rfl, gcat _⟩)) (by decide) rfl ?_
      refine gg_sipush C dL_build_49 (v := (-1001 : Int32)) (by decide) ?_
      exact gg_iret C hr (by decide) (by decide) dL_build_52 rfl h9
    rw [if_neg e9] at h9
    by_cases e9 : E = "java/lang/IllegalArgumentException"
    · subst e9
      rw [if_pos rfl] at h9
      refine gx_catch (name := "java/lang/IllegalArgumentException") (pre := [⟨0, 47, 48, 17⟩]) (x := ⟨0, 47, 53, 19⟩) (suf := [⟨0, 47, 58, 21⟩]) C ht (by intro z hz; simp only [List.mem_cons, List.not_mem_nil, or_false] at hz; rcases hz with rfl <;> first | exact Or.inl (by decide) | exact Or.inr ⟨by decide, "java/util/NoSuchElementException", tw_202, by decide +kernel⟩) (by decide) (by decide) tw_203 (by decide +kernel) (fun q9 => ?_)
      refine gg_astore_n (L' := [some (va_rf v0), some (va_rf v1), some (va_rf (some q9))]) C dL_build_53 (Or.inr (Or.inr ⟨_, rfl, gcat _⟩)) (by decide) rfl ?_
      refine gg_sipush C dL_build_54 (v := (-1002 : Int32)) (by decide) ?_
      exact gg_iret C hr (by decide) (by decide) dL_build_57 rfl h9
    rw [if_neg e9] at h9
    by_cases e9 : E = "java/lang/IllegalStateException"
    · subst e9
      rw [if_pos rfl] at h9
      refine gx_catch (name := "java/lang/IllegalStateException") (pre := [⟨0, 47, 48, 17⟩, ⟨0, 47, 53, 19⟩]) (x := ⟨0, 47, 58, 21⟩) (suf := []) C ht (by intro z hz; simp only [List.mem_cons, List.not_mem_nil, or_false] at hz; rcases hz with rfl | rfl <;> first | exact Or.inl (by decide) | exact Or.inr ⟨by decide, "java/util/NoSuchElementException", tw_202, by decide +kernel⟩ | exact Or.inr ⟨by decide, "java/lang/IllegalArgumentException", tw_203, by decide +kernel⟩) (by decide) (by decide) tw_204 (by decide +kernel) (fun q9 => ?_)
      refine gg_astore_n (L' := [some (va_rf v0), some (va_rf v1), some (va_rf (some q9))]) C dL_build_58 (Or.inr (Or.inr ⟨_, rfl, gcat _⟩)) (by decide) rfl ?_
      refine gg_sipush C dL_build_59 (v := (-1003 : Int32)) (by decide) ?_
      exact gg_iret C hr (by decide) (by decide) dL_build_62 rfl h9
    rw [if_neg e9] at h9
    exact h9.elim) (fun i15 g14 hf => ?_)
    refine gg_goto (tgt := 47) C dL_build_22 (by decide) ?_
    exact gg_sub (L' := [none, none, none]) (by first | exact trivial | simp [gsub]) (hb_47 _ _ hf)
