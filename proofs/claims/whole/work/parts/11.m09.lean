def w_X8_crash_b143 (X : Cx) (post : Int32 → GM → Prop) (px : String → GM → Prop)  (l0 : Option Nat) (l1 : Int32) (l3 : Int32) (g : GM) : Prop :=
  wGetR g l0 8 29 (fun (r13 : Option Nat) => wAld g r13 l3 0 (fun (i14 : Int32) => wAst g r13 l3 0 (i14 + (1 : Int32)) (fun g15 => wGetR g15 l0 8 30 (fun (r16 : Option Nat) => wAld g15 r16 l3 0 (fun (i17 : Int32) => wGetR g15 l0 8 3 (fun (r18 : Option Nat) => wAld g15 r18 l1 0 (fun (i19 : Int32) => wAst g15 r16 l3 0 (i17 ||| ((1 : Int32) <<< (i19 &&& 31))) (fun g20 => wGetR g20 l0 8 20 (fun (r21 : Option Nat) => wGetR g20 l0 8 3 (fun (r22 : Option Nat) => wAld g20 r22 l1 0 (fun (i23 : Int32) => wAld g20 r21 i23 0 (fun (i24 : Int32) => wAst g20 r21 i23 0 (i24 + (1 : Int32)) (fun g25 => post l3 g25)))))))))))))
def w_X8_crash_l96 (X : Cx) (post : Int32 → GM → Prop) (px : String → GM → Prop)  : Nat → Option Nat → Int32 → Int32 → Int32 → Int32 → GM → Prop
  | 0, _, _, _, _, _, _ => False
  | f + 1, l0, l1, l3, l4, l5, g => (if l4 ≤ l5 then wGetR g l0 8 28 (fun (r26 : Option Nat) => wAst g r26 l3 0 l4 (fun g27 => wGetI g27 l0 8 31 (fun (i28 : Int32) => wPut g27 l0 8 31 (.int (i28 + (1 : Int32))) (fun g29 => w_X8_crash_b143 X post px l0 l1 l3 g29)))) else wGetR g l0 8 27 (fun (r30 : Option Nat) => wAldq g r30 l3 6 (fun (r31 : Option Nat) => wGetR g l0 8 32 (fun (r32 : Option Nat) => wAld g r32 l5 1 (fun (i33 : Int32) => wAst g r31 l5 1 (vp_nar .char i33) (fun g34 => w_X8_crash_l96 X post px f l0 l1 l3 l4 (l5 + 1) g34))))))
def w_X8_crash_b73 (X : Cx) (post : Int32 → GM → Prop) (px : String → GM → Prop)  (l0 : Option Nat) (l1 : Int32) (l3 : Int32) (l4 : Int32) (t0 : Int32) (t1 : Option Nat) (g : GM) : Prop :=
  wPut g t1 8 36 (.int t0) (fun g10 => wGetI g10 l0 8 36 (fun (i11 : Int32) => (if i11 ≤ 0 then wGetI g10 l0 8 31 (fun (i12 : Int32) => (if l3 = i12 then w_X8_crash_l96 X post px 3000 l0 l1 l3 l4 (0 : Int32) g10 else w_X8_crash_b143 X post px l0 l1 l3 g10)) else post (0 : Int32) g10)))
def w_X8_crash_b68 (X : Cx) (post : Int32 → GM → Prop) (px : String → GM → Prop)  (l0 : Option Nat) (l1 : Int32) (l3 : Int32) (l4 : Int32) (t0 : Option Nat) (g : GM) : Prop :=
  w_X8_crash_b73 X post px l0 l1 l3 l4 (2 : Int32) t0 g
def w_X8_crash_b25 (X : Cx) (post : Int32 → GM → Prop) (px : String → GM → Prop)  (l0 : Option Nat) (l1 : Int32) (l2 : Int32) (t0 : Int32) (g : GM) : Prop :=
  wGetI g l0 8 33 (fun (i4 : Int32) => wPut g l0 8 33 (.int (0 : Int32)) (fun g5 => wIs g5 l0 8 (w_X8_noDevice X (fun (i7 : Int32) (g6 : GM) => (if i7 = 0 then wGetR g6 l0 8 3 (fun (r8 : Option Nat) => wAld g6 r8 l1 0 (fun (i9 : Int32) => (if i9 = (-1 : Int32) then w_X8_crash_b68 X post px l0 l1 t0 i4 l0 g6 else (if l2 = 0 then (if t0 = (30 : Int32) then w_X8_crash_b68 X post px l0 l1 t0 i4 l0 g6 else w_X8_crash_b73 X post px l0 l1 t0 i4 (0 : Int32) l0 g6) else w_X8_crash_b68 X post px l0 l1 t0 i4 l0 g6)))) else post (0 : Int32) g6)) px l0 l1 g5)))
def w_X8_crash_b12 (X : Cx) (post : Int32 → GM → Prop) (px : String → GM → Prop)  (l0 : Option Nat) (l1 : Int32) (t0 : Int32) (g : GM) : Prop :=
  (if t0 = 0 then wIs g l0 8 (w_X8_groupFor X (fun (i3 : Int32) (g2 : GM) => w_X8_crash_b25 X post px l0 l1 t0 i3 g2) px l0 g) else w_X8_crash_b25 X post px l0 l1 t0 (-1 : Int32) g)
def w_X8_crash (X : Cx) (post : Int32 → GM → Prop) (px : String → GM → Prop) (v0 : Option Nat) (v1 : Int32) (g : GM) : Prop :=
  wGetI g v0 8 33 (fun (i1 : Int32) => (if i1 = 0 then w_X8_crash_b12 X post px v0 v1 (1 : Int32) g else w_X8_crash_b12 X post px v0 v1 (0 : Int32) g))
abbrev rm_X8_crash : Room := { frames := 3, cells := 0, slots := 0, locals := 65 }
set_option maxHeartbeats 4000000 in
set_option maxRecDepth 100000 in
theorem m_X8_crash {X : Cx} {l : Launch} (hfl : l.stackTraces = false) {post : Int32 → GM → Prop} {px : String → GM → Prop} {v0 : Option Nat} {v1 : Int32} {g : GM} (hf : w_X8_crash X post px v0 v1 g) : gMet X l yX8_crash cX8_crash 6 (some .int) rm_X8_crash [va_rf v0, .int v1] g (qI X post) px := by
  refine gg_enter (L := [some (va_rf v0), some (.int v1), none, none, none, none]) hfl (by decide +kernel) (by simp [lg_sl, gcat, gcI, gcL, gcF, gcD]) (by simp [gll, lv_args, gcat, gcI, gcL, gcF, gcD]) ?_
  intro p e s m args below meth c C hr ht hm
  have C : FC X p l s m args meth c cX8_crash 6 "ReleasetrainModel" := C
  have hb_143 : ∀ (l0 : Option Nat) (l1 : Int32) (l3 : Int32) (g : GM), w_X8_crash_b143 X post px  l0 l1 l3 g → GG X p l e rm_X8_crash s m args below meth c 6 (vx_MQ below (qI X post) (gXC X px) args s rm_X8_crash.cells rm_X8_crash.slots (gA X)) 0 0 143 [some (va_rf l0), some (.int l1), none, some (.int l3), none, none] [] g := by
    intro  l0 l1 l3 g hf
    unfold w_X8_crash_b143 at hf
    refine gg_aload_n C dX8_crash_143 rfl ?_
    refine gg_getR C dX8_crash_144 lk_X8_94 hf (fun r13 hf => ?_)
    refine gg_iload_n C dX8_crash_147 rfl ?_
    refine gg_dup2 C dX8_crash_148 (rfl) (gcat _) ?_
    refine gg_iald C dX8_crash_149 hf (fun i14 hf => ?_)
    refine gg_iconst C dX8_crash_150 (v := (1 : Int32)) (by decide) ?_
    refine gg_iadd C dX8_crash_151 ?_
    refine gg_iast C dX8_crash_152 hf (fun g15 hf => ?_)
    refine gg_aload_n C dX8_crash_153 rfl ?_
    refine gg_getR C dX8_crash_154 lk_X8_97 hf (fun r16 hf => ?_)
    refine gg_iload_n C dX8_crash_157 rfl ?_
    refine gg_dup2 C dX8_crash_158 (rfl) (gcat _) ?_
    refine gg_iald C dX8_crash_159 hf (fun i17 hf => ?_)
    refine gg_iconst C dX8_crash_160 (v := (1 : Int32)) (by decide) ?_
    refine gg_aload_n C dX8_crash_161 rfl ?_
    refine gg_getR C dX8_crash_162 lk_X8_19 hf (fun r18 hf => ?_)
    refine gg_iload_n C dX8_crash_165 rfl ?_
    refine gg_iald C dX8_crash_166 hf (fun i19 hf => ?_)
    refine gg_ishl C dX8_crash_167 ?_
    refine gg_ior C dX8_crash_168 ?_
    refine gg_iast C dX8_crash_169 hf (fun g20 hf => ?_)
    refine gg_aload_n C dX8_crash_170 rfl ?_
    refine gg_getR C dX8_crash_171 lk_X8_71 hf (fun r21 hf => ?_)
    refine gg_aload_n C dX8_crash_174 rfl ?_
    refine gg_getR C dX8_crash_175 lk_X8_19 hf (fun r22 hf => ?_)
    refine gg_iload_n C dX8_crash_178 rfl ?_
    refine gg_iald C dX8_crash_179 hf (fun i23 hf => ?_)
    refine gg_dup2 C dX8_crash_180 (rfl) (gcat _) ?_
    refine gg_iald C dX8_crash_181 hf (fun i24 hf => ?_)
    refine gg_iconst C dX8_crash_182 (v := (1 : Int32)) (by decide) ?_
    refine gg_iadd C dX8_crash_183 ?_
    refine gg_iast C dX8_crash_184 hf (fun g25 hf => ?_)
    refine gg_iload_n C dX8_crash_185 rfl ?_
    exact gg_iret C hr (by decide) (by decide) dX8_crash_186 rfl hf
  have hb_96 : ∀ (f : Nat) (l0 : Option Nat) (l1 : Int32) (l3 : Int32) (l4 : Int32) (l5 : Int32) (g : GM), w_X8_crash_l96 X post px  f l0 l1 l3 l4 l5 g → GG X p l e rm_X8_crash s m args below meth c 6 (vx_MQ below (qI X post) (gXC X px) args s rm_X8_crash.cells rm_X8_crash.slots (gA X)) 0 0 96 [some (va_rf l0), some (.int l1), none, some (.int l3), some (.int l4), some (.int l5)] [] g := by
    intro  f
    induction f with
    | zero => intro l0 l1 l3 l4 l5 g hf; exact (show False from hf).elim
    | succ f ih =>
      intro l0 l1 l3 l4 l5 g hf
      rw [w_X8_crash_l96] at hf
      refine gg_iload C dX8_crash_96 rfl ?_
      refine gg_iload C dX8_crash_98 rfl ?_
      refine gg_icmp_ge (tgt := 125) C dX8_crash_100 (by decide) hf (fun hf => ?_) (fun hf => ?_)
      · refine gg_aload_n C dX8_crash_125 rfl ?_
        refine gg_getR C dX8_crash_126 lk_X8_91 hf (fun r26 hf => ?_)
        refine gg_iload_n C dX8_crash_129 rfl ?_
        refine gg_iload C dX8_crash_130 rfl ?_
        refine gg_iast C dX8_crash_132 hf (fun g27 hf => ?_)
        refine gg_aload_n C dX8_crash_133 rfl ?_
        refine gg_dup C dX8_crash_134 (gcat _) ?_
        refine gg_getI C dX8_crash_135 lk_X8_130 hf (fun i28 hf => ?_)
        refine gg_iconst C dX8_crash_138 (v := (1 : Int32)) (by decide) ?_
        refine gg_iadd C dX8_crash_139 ?_
        refine gg_put C dX8_crash_140 pk_X8_130 (gNar_int _) hf (fun g29 hf => ?_)
        exact gg_sub (L' := [some (va_rf l0), some (.int l1), none, some (.int l3), none, none]) (by first | exact ⟨rfl, ⟨rfl, ⟨rfl, trivial⟩⟩⟩ | simp [gsub]) (hb_143 _ _ _ _ hf)
      · refine gg_aload_n C dX8_crash_103 rfl ?_
        refine gg_getR C dX8_crash_104 lk_X8_88 hf (fun r30 hf => ?_)
        refine gg_iload_n C dX8_crash_107 rfl ?_
        refine gg_aaload (kd := 6) C dX8_crash_108 rfl rfl hf (fun r31 hf => ?_)
        refine gg_iload C dX8_crash_109 rfl ?_
        refine gg_aload_n C dX8_crash_111 rfl ?_
        refine gg_getR C dX8_crash_112 lk_X8_100 hf (fun r32 hf => ?_)
        refine gg_iload C dX8_crash_115 rfl ?_
        refine gg_cald C dX8_crash_117 hf (fun i33 hf => ?_)
        refine gg_cast C dX8_crash_118 hf (fun g34 hf => ?_)
        refine gg_iinc (L' := [some (va_rf l0), some (.int l1), none, some (.int l3), some (.int l4), some (.int (l5 + 1))]) C dX8_crash_119 rfl (v := (l5 + 1)) rfl (Or.inr (Or.inr ⟨_, rfl, rfl⟩)) (by decide) rfl ?_
        refine gg_goto (tgt := 96) C dX8_crash_122 (by decide) ?_
        exact ih _ _ _ _ _ _ hf
  have hb_73 : ∀ (l0 : Option Nat) (l1 : Int32) (l3 : Int32) (l4 : Int32) (t0 : Int32) (t1 : Option Nat) (g : GM), w_X8_crash_b73 X post px  l0 l1 l3 l4 t0 t1 g → GG X p l e rm_X8_crash s m args below meth c 6 (vx_MQ below (qI X post) (gXC X px) args s rm_X8_crash.cells rm_X8_crash.slots (gA X)) 0 0 73 [some (va_rf l0), some (.int l1), none, some (.int l3), some (.int l4), none] [.int t0, va_rf t1] g := by
    intro  l0 l1 l3 l4 t0 t1 g hf
    unfold w_X8_crash_b73 at hf
    refine gg_put C dX8_crash_73 pk_X8_110 (gNar_int _) hf (fun g10 hf => ?_)
    refine gg_aload_n C dX8_crash_76 rfl ?_
    refine gg_getI C dX8_crash_77 lk_X8_110 hf (fun i11 hf => ?_)
    refine gg_if_le (tgt := 85) C dX8_crash_80 (by decide) hf (fun hf => ?_) (fun hf => ?_)
    · refine gg_iload_n C dX8_crash_85 rfl ?_
      refine gg_aload_n C dX8_crash_86 rfl ?_
      refine gg_getI C dX8_crash_87 lk_X8_130 hf (fun i12 hf => ?_)
      refine gg_icmp_ne (tgt := 143) C dX8_crash_90 (by decide) hf (fun hf => ?_) (fun hf => ?_)
      · exact gg_sub (L' := [some (va_rf l0), some (.int l1), none, some (.int l3), none, none]) (by first | exact ⟨rfl, ⟨rfl, ⟨rfl, trivial⟩⟩⟩ | simp [gsub]) (hb_143 _ _ _ _ hf)
      · refine gg_iconst C dX8_crash_93 (v := (0 : Int32)) (by decide) ?_
        refine gg_istore (L' := [some (va_rf l0), some (.int l1), none, some (.int l3), some (.int l4), some (.int (0 : Int32))]) C dX8_crash_94 (Or.inr (Or.inr ⟨_, rfl, rfl⟩)) (by decide) rfl ?_
        exact hb_96 _ _ _ _ _ _ _ hf
    · refine gg_iconst C dX8_crash_83 (v := (0 : Int32)) (by decide) ?_
      exact gg_iret C hr (by decide) (by decide) dX8_crash_84 rfl hf
  have hb_68 : ∀ (l0 : Option Nat) (l1 : Int32) (l3 : Int32) (l4 : Int32) (t0 : Option Nat) (g : GM), w_X8_crash_b68 X post px  l0 l1 l3 l4 t0 g → GG X p l e rm_X8_crash s m args below meth c 6 (vx_MQ below (qI X post) (gXC X px) args s rm_X8_crash.cells rm_X8_crash.slots (gA X)) 0 0 68 [some (va_rf l0), some (.int l1), none, some (.int l3), some (.int l4), none] [va_rf t0] g := by
    intro  l0 l1 l3 l4 t0 g hf
    unfold w_X8_crash_b68 at hf
    refine gg_iconst C dX8_crash_68 (v := (2 : Int32)) (by decide) ?_
    refine gg_goto (tgt := 73) C dX8_crash_69 (by decide) ?_
    exact hb_73 _ _ _ _ _ _ _ hf
  have hb_25 : ∀ (l0 : Option Nat) (l1 : Int32) (l2 : Int32) (t0 : Int32) (g : GM), w_X8_crash_b25 X post px  l0 l1 l2 t0 g → GG X p l e rm_X8_crash s m args below meth c 6 (vx_MQ below (qI X post) (gXC X px) args s rm_X8_crash.cells rm_X8_crash.slots (gA X)) 0 0 25 [some (va_rf l0), some (.int l1), some (.int l2), none, none, none] [.int t0] g := by
    intro  l0 l1 l2 t0 g hf
    unfold w_X8_crash_b25 at hf
    refine gg_istore_n (L' := [some (va_rf l0), some (.int l1), some (.int l2), some (.int t0), none, none]) C dX8_crash_25 (Or.inr (Or.inr ⟨_, rfl, rfl⟩)) (by decide) rfl ?_
    refine gg_aload_n C dX8_crash_26 rfl ?_
    refine gg_getI C dX8_crash_27 lk_X8_207 hf (fun i4 hf => ?_)
    refine gg_istore (L' := [some (va_rf l0), some (.int l1), some (.int l2), some (.int t0), some (.int i4), none]) C dX8_crash_30 (Or.inr (Or.inr ⟨_, rfl, rfl⟩)) (by decide) rfl ?_
    refine gg_aload_n C dX8_crash_32 rfl ?_
    refine gg_iconst C dX8_crash_33 (v := (0 : Int32)) (by decide) ?_
    refine gg_put C dX8_crash_34 pk_X8_207 (gNar_int _) hf (fun g5 hf => ?_)
    refine gg_aload_n C dX8_crash_37 rfl ?_
    refine gg_iload_n C dX8_crash_38 rfl ?_
    refine gr_I (k' := 0) (n' := 0) (gk_V (ci := 8) (As := [.int l1]) (rest := []) C dX8_crash_39 rfl rfl tw_1721 tw_1723 tw_39 tw_56 tw_1724 gd_X8_noDevice rfl ⟨by decide, by decide⟩ (by simp [gcat, gcI, gcL, gcF, gcD]) ⟨by decide, by decide⟩ hf (fun hf => m_X8_noDevice hfl hf)) rfl rfl (fun E g9 h9 => gx_out C (fun x hx => (ht x hx).elim) (by decide) (by decide) h9) (fun i7 g6 hf => ?_)
    refine gg_if_eq (tgt := 47) C dX8_crash_42 (by decide) hf (fun hf => ?_) (fun hf => ?_)
    · refine gg_aload_n C dX8_crash_47 rfl ?_
      refine gg_aload_n C dX8_crash_48 rfl ?_
      refine gg_getR C dX8_crash_49 lk_X8_19 hf (fun r8 hf => ?_)
      refine gg_iload_n C dX8_crash_52 rfl ?_
      refine gg_iald C dX8_crash_53 hf (fun i9 hf => ?_)
      refine gg_iconst C dX8_crash_54 (v := (-1 : Int32)) (by decide) ?_
      refine gg_icmp_eq (tgt := 68) C dX8_crash_55 (by decide) hf (fun hf => ?_) (fun hf => ?_)
      · exact gg_sub (L' := [some (va_rf l0), some (.int l1), none, some (.int t0), some (.int i4), none]) (by first | exact ⟨rfl, ⟨rfl, ⟨rfl, ⟨rfl, trivial⟩⟩⟩⟩ | simp [gsub]) (hb_68 _ _ _ _ _ _ hf)
      · refine gg_iload_n C dX8_crash_58 rfl ?_
        refine gg_if_ne (tgt := 68) C dX8_crash_59 (by decide) hf (fun hf => ?_) (fun hf => ?_)
        · exact gg_sub (L' := [some (va_rf l0), some (.int l1), none, some (.int t0), some (.int i4), none]) (by first | exact ⟨rfl, ⟨rfl, ⟨rfl, ⟨rfl, trivial⟩⟩⟩⟩ | simp [gsub]) (hb_68 _ _ _ _ _ _ hf)
        · refine gg_iload_n C dX8_crash_62 rfl ?_
          refine gg_bipush C dX8_crash_63 (v := (30 : Int32)) (by decide) ?_
          refine gg_icmp_ne (tgt := 72) C dX8_crash_65 (by decide) hf (fun hf => ?_) (fun hf => ?_)
          · refine gg_iconst C dX8_crash_72 (v := (0 : Int32)) (by decide) ?_
            exact gg_sub (L' := [some (va_rf l0), some (.int l1), none, some (.int t0), some (.int i4), none]) (by first | exact ⟨rfl, ⟨rfl, ⟨rfl, ⟨rfl, trivial⟩⟩⟩⟩ | simp [gsub]) (hb_73 _ _ _ _ _ _ _ hf)
          · exact gg_sub (L' := [some (va_rf l0), some (.int l1), none, some (.int t0), some (.int i4), none]) (by first | exact ⟨rfl, ⟨rfl, ⟨rfl, ⟨rfl, trivial⟩⟩⟩⟩ | simp [gsub]) (hb_68 _ _ _ _ _ _ hf)
    · refine gg_iconst C dX8_crash_45 (v := (0 : Int32)) (by decide) ?_
      exact gg_iret C hr (by decide) (by decide) dX8_crash_46 rfl hf
  have hb_12 : ∀ (l0 : Option Nat) (l1 : Int32) (t0 : Int32) (g : GM), w_X8_crash_b12 X post px  l0 l1 t0 g → GG X p l e rm_X8_crash s m args below meth c 6 (vx_MQ below (qI X post) (gXC X px) args s rm_X8_crash.cells rm_X8_crash.slots (gA X)) 0 0 12 [some (va_rf l0), some (.int l1), none, none, none, none] [.int t0] g := by
    intro  l0 l1 t0 g hf
    unfold w_X8_crash_b12 at hf
    refine gg_istore_n (L' := [some (va_rf l0), some (.int l1), some (.int t0), none, none, none]) C dX8_crash_12 (Or.inr (Or.inr ⟨_, rfl, rfl⟩)) (by decide) rfl ?_
    refine gg_iload_n C dX8_crash_13 rfl ?_
    refine gg_if_eq (tgt := 21) C dX8_crash_14 (by decide) hf (fun hf => ?_) (fun hf => ?_)
    · refine gg_aload_n C dX8_crash_21 rfl ?_
      refine gr_I (k' := 0) (n' := 0) (gk_V (ci := 8) (As := []) (rest := []) C dX8_crash_22 rfl rfl tw_1753 tw_1755 tw_41 tw_56 tw_1756 gd_X8_groupFor rfl ⟨by decide, by decide⟩ (by simp [gcat, gcI, gcL, gcF, gcD]) ⟨by decide, by decide⟩ hf (fun hf => m_X8_groupFor hfl hf)) rfl rfl (fun E g9 h9 => gx_out C (fun x hx => (ht x hx).elim) (by decide) (by decide) h9) (fun i3 g2 hf => ?_)
      exact hb_25 _ _ _ _ _ hf
    · refine gg_iconst C dX8_crash_17 (v := (-1 : Int32)) (by decide) ?_
      refine gg_goto (tgt := 25) C dX8_crash_18 (by decide) ?_
      exact hb_25 _ _ _ _ _ hf
  unfold w_X8_crash at hf
  refine gg_aload_n C dX8_crash_0 rfl ?_
  refine gg_getI C dX8_crash_1 lk_X8_207 hf (fun i1 hf => ?_)
  refine gg_if_ne (tgt := 11) C dX8_crash_4 (by decide) hf (fun hf => ?_) (fun hf => ?_)
  · refine gg_iconst C dX8_crash_11 (v := (0 : Int32)) (by decide) ?_
    exact hb_12 _ _ _ _ hf
  · refine gg_iconst C dX8_crash_7 (v := (1 : Int32)) (by decide) ?_
    refine gg_goto (tgt := 12) C dX8_crash_8 (by decide) ?_
    exact hb_12 _ _ _ _ hf

def w_X8_groups (X : Cx) (post : Int32 → GM → Prop) (px : String → GM → Prop) (v0 : Option Nat) (g : GM) : Prop :=
  wPut g v0 8 36 (.int (0 : Int32)) (fun g1 => wGetI g1 v0 8 31 (fun (i2 : Int32) => post i2 g1))
abbrev rm_X8_groups : Room := { frames := 0, cells := 0, slots := 0, locals := 0 }
set_option maxHeartbeats 4000000 in
set_option maxRecDepth 100000 in
theorem m_X8_groups {X : Cx} {l : Launch} (hfl : l.stackTraces = false) {post : Int32 → GM → Prop} {px : String → GM → Prop} {v0 : Option Nat} {g : GM} (hf : w_X8_groups X post px v0 g) : gMet X l yX8_groups cX8_groups 1 (some .int) rm_X8_groups [va_rf v0] g (qI X post) px := by
  refine gg_enter (L := [some (va_rf v0)]) hfl (by decide +kernel) (by simp [lg_sl, gcat, gcI, gcL, gcF, gcD]) (by simp [gll, lv_args, gcat, gcI, gcL, gcF, gcD]) ?_
  intro p e s m args below meth c C hr ht hm
  have C : FC X p l s m args meth c cX8_groups 1 "ReleasetrainModel" := C
  unfold w_X8_groups at hf
  refine gg_aload_n C dX8_groups_0 rfl ?_
  refine gg_iconst C dX8_groups_1 (v := (0 : Int32)) (by decide) ?_
  refine gg_put C dX8_groups_2 pk_X8_110 (gNar_int _) hf (fun g1 hf => ?_)
  refine gg_aload_n C dX8_groups_5 rfl ?_
  refine gg_getI C dX8_groups_6 lk_X8_130 hf (fun i2 hf => ?_)
  exact gg_iret C hr (by decide) (by decide) dX8_groups_9 rfl hf

def w_X8_crashesIn_b18 (X : Cx) (post : Int32 → GM → Prop) (px : String → GM → Prop)  (t0 : Int32) (g : GM) : Prop :=
  post t0 g
def w_X8_crashesIn (X : Cx) (post : Int32 → GM → Prop) (px : String → GM → Prop) (v0 : Option Nat) (v1 : Int32) (g : GM) : Prop :=
  wIs g v0 8 (w_X8_noGroup X (fun (i2 : Int32) (g1 : GM) => (if i2 = 0 then wGetR g1 v0 8 29 (fun (r3 : Option Nat) => wAld g1 r3 v1 0 (fun (i4 : Int32) => w_X8_crashesIn_b18 X post px i4 g1)) else w_X8_crashesIn_b18 X post px (0 : Int32) g1)) px v0 v1 g)
abbrev rm_X8_crashesIn : Room := { frames := 2, cells := 0, slots := 0, locals := 43 }
set_option maxHeartbeats 4000000 in
set_option maxRecDepth 100000 in
theorem m_X8_crashesIn {X : Cx} {l : Launch} (hfl : l.stackTraces = false) {post : Int32 → GM → Prop} {px : String → GM → Prop} {v0 : Option Nat} {v1 : Int32} {g : GM} (hf : w_X8_crashesIn X post px v0 v1 g) : gMet X l yX8_crashesIn cX8_crashesIn 2 (some .int) rm_X8_crashesIn [va_rf v0, .int v1] g (qI X post) px := by
  refine gg_enter (L := [some (va_rf v0), some (.int v1)]) hfl (by decide +kernel) (by simp [lg_sl, gcat, gcI, gcL, gcF, gcD]) (by simp [gll, lv_args, gcat, gcI, gcL, gcF, gcD]) ?_
  intro p e s m args below meth c C hr ht hm
  have C : FC X p l s m args meth c cX8_crashesIn 2 "ReleasetrainModel" := C
  have hb_18 : ∀ (t0 : Int32) (g : GM), w_X8_crashesIn_b18 X post px  t0 g → GG X p l e rm_X8_crashesIn s m args below meth c 2 (vx_MQ below (qI X post) (gXC X px) args s rm_X8_crashesIn.cells rm_X8_crashesIn.slots (gA X)) 0 0 18 [none, none] [.int t0] g := by
    intro  t0 g hf
    unfold w_X8_crashesIn_b18 at hf
    exact gg_iret C hr (by decide) (by decide) dX8_crashesIn_18 rfl hf
  unfold w_X8_crashesIn at hf
  refine gg_aload_n C dX8_crashesIn_0 rfl ?_
  refine gg_iload_n C dX8_crashesIn_1 rfl ?_
  refine gr_I (k' := 0) (n' := 0) (gk_V (ci := 8) (As := [.int v1]) (rest := []) C dX8_crashesIn_2 rfl rfl tw_1769 tw_1771 tw_42 tw_56 tw_1772 gd_X8_noGroup rfl ⟨by decide, by decide⟩ (by simp [gcat, gcI, gcL, gcF, gcD]) ⟨by decide, by decide⟩ hf (fun hf => m_X8_noGroup hfl hf)) rfl rfl (fun E g9 h9 => gx_out C (fun x hx => (ht x hx).elim) (by decide) (by decide) h9) (fun i2 g1 hf => ?_)
  refine gg_if_eq (tgt := 12) C dX8_crashesIn_5 (by decide) hf (fun hf => ?_) (fun hf => ?_)
  · refine gg_aload_n C dX8_crashesIn_12 rfl ?_
    refine gg_getR C dX8_crashesIn_13 lk_X8_94 hf (fun r3 hf => ?_)
    refine gg_iload_n C dX8_crashesIn_16 rfl ?_
    refine gg_iald C dX8_crashesIn_17 hf (fun i4 hf => ?_)
    exact gg_sub (L' := [none, none]) (by first | exact trivial | simp [gsub]) (hb_18 _ _ hf)
  · refine gg_iconst C dX8_crashesIn_8 (v := (0 : Int32)) (by decide) ?_
    refine gg_goto (tgt := 18) C dX8_crashesIn_9 (by decide) ?_
    exact gg_sub (L' := [none, none]) (by first | exact trivial | simp [gsub]) (hb_18 _ _ hf)

def w_X8_stackAt_b56 (X : Cx) (post : Int32 → GM → Prop) (px : String → GM → Prop)  (t0 : Int32) (g : GM) : Prop :=
  (narrow .char (.int t0) = .int t0 ∧ post t0 g)
def w_X8_stackAt_b33 (X : Cx) (post : Int32 → GM → Prop) (px : String → GM → Prop)  (l0 : Option Nat) (l1 : Int32) (l2 : Int32) (t0 : Int32) (t1 : Option Nat) (g : GM) : Prop :=
  wPut g t1 8 36 (.int t0) (fun g7 => wGetI g7 l0 8 36 (fun (i8 : Int32) => (if i8 ≤ 0 then wGetR g7 l0 8 27 (fun (r9 : Option Nat) => wAldq g7 r9 l1 6 (fun (r10 : Option Nat) => wAld g7 r10 l2 1 (fun (i11 : Int32) => w_X8_stackAt_b56 X post px i11 g7))) else w_X8_stackAt_b56 X post px (32 : Int32) g7)))
def w_X8_stackAt (X : Cx) (post : Int32 → GM → Prop) (px : String → GM → Prop) (v0 : Option Nat) (v1 : Int32) (v2 : Int32) (g : GM) : Prop :=
  wIs g v0 8 (w_X8_noGroup X (fun (i2 : Int32) (g1 : GM) => (if i2 = 0 then wGetR g1 v0 8 28 (fun (r3 : Option Nat) => wAld g1 r3 v1 0 (fun (i4 : Int32) => w_X8_in X (fun (i6 : Int32) (g5 : GM) => (if i6 = 0 then w_X8_stackAt_b33 X post px v0 v1 v2 (2 : Int32) v0 g5 else w_X8_stackAt_b33 X post px v0 v1 v2 (0 : Int32) v0 g5)) px v2 (0 : Int32) (i4 - (1 : Int32)) g1)) else post (32 : Int32) g1)) px v0 v1 g)
abbrev rm_X8_stackAt : Room := { frames := 2, cells := 0, slots := 0, locals := 43 }
set_option maxHeartbeats 4000000 in
set_option maxRecDepth 100000 in
theorem m_X8_stackAt {X : Cx} {l : Launch} (hfl : l.stackTraces = false) {post : Int32 → GM → Prop} {px : String → GM → Prop} {v0 : Option Nat} {v1 : Int32} {v2 : Int32} {g : GM} (hf : w_X8_stackAt X post px v0 v1 v2 g) : gMet X l yX8_stackAt cX8_stackAt 3 (some .char) rm_X8_stackAt [va_rf v0, .int v1, .int v2] g (qI X post) px := by
  refine gg_enter (L := [some (va_rf v0), some (.int v1), some (.int v2)]) hfl (by decide +kernel) (by simp [lg_sl, gcat, gcI, gcL, gcF, gcD]) (by simp [gll, lv_args, gcat, gcI, gcL, gcF, gcD]) ?_
  intro p e s m args below meth c C hr ht hm
  have C : FC X p l s m args meth c cX8_stackAt 3 "ReleasetrainModel" := C
  have hb_56 : ∀ (t0 : Int32) (g : GM), w_X8_stackAt_b56 X post px  t0 g → GG X p l e rm_X8_stackAt s m args below meth c 3 (vx_MQ below (qI X post) (gXC X px) args s rm_X8_stackAt.cells rm_X8_stackAt.slots (gA X)) 0 0 56 [none, none, none] [.int t0] g := by
    intro  t0 g hf
    unfold w_X8_stackAt_b56 at hf
    exact gg_iret C hr (by decide) (by decide) dX8_stackAt_56 hf.1 hf.2
  have hb_33 : ∀ (l0 : Option Nat) (l1 : Int32) (l2 : Int32) (t0 : Int32) (t1 : Option Nat) (g : GM), w_X8_stackAt_b33 X post px  l0 l1 l2 t0 t1 g → GG X p l e rm_X8_stackAt s m args below meth c 3 (vx_MQ below (qI X post) (gXC X px) args s rm_X8_stackAt.cells rm_X8_stackAt.slots (gA X)) 0 0 33 [some (va_rf l0), some (.int l1), some (.int l2)] [.int t0, va_rf t1] g := by
    intro  l0 l1 l2 t0 t1 g hf
    unfold w_X8_stackAt_b33 at hf
    refine gg_put C dX8_stackAt_33 pk_X8_110 (gNar_int _) hf (fun g7 hf => ?_)
    refine gg_aload_n C dX8_stackAt_36 rfl ?_
    refine gg_getI C dX8_stackAt_37 lk_X8_110 hf (fun i8 hf => ?_)
    refine gg_if_le (tgt := 48) C dX8_stackAt_40 (by decide) hf (fun hf => ?_) (fun hf => ?_)
    · refine gg_aload_n C dX8_stackAt_48 rfl ?_
      refine gg_getR C dX8_stackAt_49 lk_X8_88 hf (fun r9 hf => ?_)
      refine gg_iload_n C dX8_stackAt_52 rfl ?_
      refine gg_aaload (kd := 6) C dX8_stackAt_53 rfl rfl hf (fun r10 hf => ?_)
      refine gg_iload_n C dX8_stackAt_54 rfl ?_
      refine gg_cald C dX8_stackAt_55 hf (fun i11 hf => ?_)
      exact gg_sub (L' := [none, none, none]) (by first | exact trivial | simp [gsub]) (hb_56 _ _ hf)
    · refine gg_bipush C dX8_stackAt_43 (v := (32 : Int32)) (by decide) ?_
      refine gg_goto (tgt := 56) C dX8_stackAt_45 (by decide) ?_
      exact gg_sub (L' := [none, none, none]) (by first | exact trivial | simp [gsub]) (hb_56 _ _ hf)
  unfold w_X8_stackAt at hf
  refine gg_aload_n C dX8_stackAt_0 rfl ?_
  refine gg_iload_n C dX8_stackAt_1 rfl ?_
  refine gr_I (k' := 0) (n' := 0) (gk_V (ci := 8) (As := [.int v1]) (rest := []) C dX8_stackAt_2 rfl rfl tw_1769 tw_1771 tw_42 tw_56 tw_1772 gd_X8_noGroup rfl ⟨by decide, by decide⟩ (by simp [gcat, gcI, gcL, gcF, gcD]) ⟨by decide, by decide⟩ hf (fun hf => m_X8_noGroup hfl hf)) rfl rfl (fun E g9 h9 => gx_out C (fun x hx => (ht x hx).elim) (by decide) (by decide) h9) (fun i2 g1 hf => ?_)
  refine gg_if_eq (tgt := 11) C dX8_stackAt_5 (by decide) hf (fun hf => ?_) (fun hf => ?_)
  · refine gg_aload_n C dX8_stackAt_11 rfl ?_
    refine gg_iload_n C dX8_stackAt_12 rfl ?_
    refine gg_iconst C dX8_stackAt_13 (v := (0 : Int32)) (by decide) ?_
    refine gg_aload_n C dX8_stackAt_14 rfl ?_
    refine gg_getR C dX8_stackAt_15 lk_X8_91 hf (fun r3 hf => ?_)
    refine gg_iload_n C dX8_stackAt_18 rfl ?_
    refine gg_iald C dX8_stackAt_19 hf (fun i4 hf => ?_)
    refine gg_iconst C dX8_stackAt_20 (v := (1 : Int32)) (by decide) ?_
    refine gg_isub C dX8_stackAt_21 ?_
    refine gr_I (k' := 0) (n' := 0) (gk_S (As := [.int v2, .int (0 : Int32), .int (i4 - (1 : Int32))]) (rest := [va_rf v0]) C dX8_stackAt_22 tw_1580 tw_1581 tw_56 tw_1582 gd_X8_in rfl ⟨by decide, by decide⟩ (by simp [gcat, gcI, gcL, gcF, gcD]) ⟨by decide, by decide⟩ (m_X8_in hfl hf)) rfl rfl (fun E g9 h9 => gx_out C (fun x hx => (ht x hx).elim) (by decide) (by decide) h9) (fun i6 g5 hf => ?_)
    refine gg_if_eq (tgt := 32) C dX8_stackAt_25 (by decide) hf (fun hf => ?_) (fun hf => ?_)
    · refine gg_iconst C dX8_stackAt_32 (v := (2 : Int32)) (by decide) ?_
      exact hb_33 _ _ _ _ _ _ hf
    · refine gg_iconst C dX8_stackAt_28 (v := (0 : Int32)) (by decide) ?_
      refine gg_goto (tgt := 33) C dX8_stackAt_29 (by decide) ?_
      exact hb_33 _ _ _ _ _ _ hf
  · refine gg_bipush C dX8_stackAt_8 (v := (32 : Int32)) (by decide) ?_
    exact gg_iret C hr (by decide) (by decide) dX8_stackAt_10 rfl hf

def w_X8_likeness_b75 (X : Cx) (post : UInt32 → GM → Prop) (px : String → GM → Prop)  (t0 : UInt32) (g : GM) : Prop :=
  post t0 g
def w_X8_likeness_b34 (X : Cx) (post : UInt32 → GM → Prop) (px : String → GM → Prop)  (l0 : Option Nat) (l1 : Int32) (l2 : Int32) (t0 : Int32) (t1 : Option Nat) (g : GM) : Prop :=
  wPut g t1 8 36 (.int t0) (fun g4 => wGetI g4 l0 8 36 (fun (i5 : Int32) => (if i5 ≤ 0 then wGetR g4 l0 8 27 (fun (r6 : Option Nat) => wAldq g4 r6 l1 6 (fun (r7 : Option Nat) => wGetR g4 l0 8 28 (fun (r8 : Option Nat) => wAld g4 r8 l1 0 (fun (i9 : Int32) => wGetR g4 l0 8 27 (fun (r10 : Option Nat) => wAldq g4 r10 l2 6 (fun (r11 : Option Nat) => wGetR g4 l0 8 28 (fun (r12 : Option Nat) => wAld g4 r12 l2 0 (fun (i13 : Int32) => w_X8_alike X (fun (x15 : UInt32) (g14 : GM) => w_X8_likeness_b75 X post px x15 g14) px r7 i9 r11 i13 g4)))))))) else w_X8_likeness_b75 X post px FP.fconst0 g4)))
def w_X8_likeness_b33 (X : Cx) (post : UInt32 → GM → Prop) (px : String → GM → Prop)  (l0 : Option Nat) (l1 : Int32) (l2 : Int32) (t0 : Option Nat) (g : GM) : Prop :=
  w_X8_likeness_b34 X post px l0 l1 l2 (1 : Int32) t0 g
def w_X8_likeness (X : Cx) (post : UInt32 → GM → Prop) (px : String → GM → Prop) (v0 : Option Nat) (v1 : Int32) (v2 : Int32) (g : GM) : Prop :=
  wGetI g v0 8 31 (fun (i1 : Int32) => w_X8_in X (fun (i3 : Int32) (g2 : GM) => (if i3 = 0 then w_X8_likeness_b33 X post px v0 v1 v2 v0 g2 else wGetI g2 v0 8 31 (fun (i16 : Int32) => w_X8_in X (fun (i18 : Int32) (g17 : GM) => (if i18 = 0 then w_X8_likeness_b33 X post px v0 v1 v2 v0 g17 else w_X8_likeness_b34 X post px v0 v1 v2 (0 : Int32) v0 g17)) px v2 (0 : Int32) (i16 - (1 : Int32)) g2))) px v1 (0 : Int32) (i1 - (1 : Int32)) g)
abbrev rm_X8_likeness : Room := { frames := 2, cells := 0, slots := 0, locals := 41 }
set_option maxHeartbeats 4000000 in
set_option maxRecDepth 100000 in
theorem m_X8_likeness {X : Cx} {l : Launch} (hfl : l.stackTraces = false) {post : UInt32 → GM → Prop} {px : String → GM → Prop} {v0 : Option Nat} {v1 : Int32} {v2 : Int32} {g : GM} (hf : w_X8_likeness X post px v0 v1 v2 g) : gMet X l yX8_likeness cX8_likeness 3 (some .float) rm_X8_likeness [va_rf v0, .int v1, .int v2] g (qF X post) px := by
  refine gg_enter (L := [some (va_rf v0), some (.int v1), some (.int v2)]) hfl (by decide +kernel) (by simp [lg_sl, gcat, gcI, gcL, gcF, gcD]) (by simp [gll, lv_args, gcat, gcI, gcL, gcF, gcD]) ?_
  intro p e s m args below meth c C hr ht hm
  have C : FC X p l s m args meth c cX8_likeness 3 "ReleasetrainModel" := C
  have hb_75 : ∀ (t0 : UInt32) (g : GM), w_X8_likeness_b75 X post px  t0 g → GG X p l e rm_X8_likeness s m args below meth c 3 (vx_MQ below (qF X post) (gXC X px) args s rm_X8_likeness.cells rm_X8_likeness.slots (gA X)) 0 0 75 [none, none, none] [.float t0] g := by
    intro  t0 g hf
    unfold w_X8_likeness_b75 at hf
    exact gg_fret C hr (by decide) (by decide) dX8_likeness_75 hf
  have hb_34 : ∀ (l0 : Option Nat) (l1 : Int32) (l2 : Int32) (t0 : Int32) (t1 : Option Nat) (g : GM), w_X8_likeness_b34 X post px  l0 l1 l2 t0 t1 g → GG X p l e rm_X8_likeness s m args below meth c 3 (vx_MQ below (qF X post) (gXC X px) args s rm_X8_likeness.cells rm_X8_likeness.slots (gA X)) 0 0 34 [some (va_rf l0), some (.int l1), some (.int l2)] [.int t0, va_rf t1] g := by
    intro  l0 l1 l2 t0 t1 g hf
    unfold w_X8_likeness_b34 at hf
    refine gg_put C dX8_likeness_34 pk_X8_110 (gNar_int _) hf (fun g4 hf => ?_)
    refine gg_aload_n C dX8_likeness_37 rfl ?_
    refine gg_getI C dX8_likeness_38 lk_X8_110 hf (fun i5 hf => ?_)
    refine gg_if_le (tgt := 48) C dX8_likeness_41 (by decide) hf (fun hf => ?_) (fun hf => ?_)
    · refine gg_aload_n C dX8_likeness_48 rfl ?_
      refine gg_getR C dX8_likeness_49 lk_X8_88 hf (fun r6 hf => ?_)
      refine gg_iload_n C dX8_likeness_52 rfl ?_
      refine gg_aaload (kd := 6) C dX8_likeness_53 rfl rfl hf (fun r7 hf => ?_)
      refine gg_aload_n C dX8_likeness_54 rfl ?_
      refine gg_getR C dX8_likeness_55 lk_X8_91 hf (fun r8 hf => ?_)
      refine gg_iload_n C dX8_likeness_58 rfl ?_
      refine gg_iald C dX8_likeness_59 hf (fun i9 hf => ?_)
      refine gg_aload_n C dX8_likeness_60 rfl ?_
      refine gg_getR C dX8_likeness_61 lk_X8_88 hf (fun r10 hf => ?_)
      refine gg_iload_n C dX8_likeness_64 rfl ?_
      refine gg_aaload (kd := 6) C dX8_likeness_65 rfl rfl hf (fun r11 hf => ?_)
      refine gg_aload_n C dX8_likeness_66 rfl ?_
      refine gg_getR C dX8_likeness_67 lk_X8_91 hf (fun r12 hf => ?_)
      refine gg_iload_n C dX8_likeness_70 rfl ?_
      refine gg_iald C dX8_likeness_71 hf (fun i13 hf => ?_)
      refine gr_F (k' := 0) (n' := 0) (gk_S (As := [va_rf r7, .int i9, va_rf r11, .int i13]) (rest := []) C dX8_likeness_72 tw_1757 tw_1758 tw_56 tw_1759 gd_X8_alike rfl ⟨by decide, by decide⟩ (by simp [gcat, gcI, gcL, gcF, gcD]) ⟨by decide, by decide⟩ (m_X8_alike hfl hf)) rfl rfl (fun E g9 h9 => gx_out C (fun x hx => (ht x hx).elim) (by decide) (by decide) h9) (fun x15 g14 hf => ?_)
      exact gg_sub (L' := [none, none, none]) (by first | exact trivial | simp [gsub]) (hb_75 _ _ hf)
    · refine gg_fconst0 C dX8_likeness_44 ?_
      refine gg_goto (tgt := 75) C dX8_likeness_45 (by decide) ?_
      exact gg_sub (L' := [none, none, none]) (by first | exact trivial | simp [gsub]) (hb_75 _ _ hf)
  have hb_33 : ∀ (l0 : Option Nat) (l1 : Int32) (l2 : Int32) (t0 : Option Nat) (g : GM), w_X8_likeness_b33 X post px  l0 l1 l2 t0 g → GG X p l e rm_X8_likeness s m args below meth c 3 (vx_MQ below (qF X post) (gXC X px) args s rm_X8_likeness.cells rm_X8_likeness.slots (gA X)) 0 0 33 [some (va_rf l0), some (.int l1), some (.int l2)] [va_rf t0] g := by
    intro  l0 l1 l2 t0 g hf
    unfold w_X8_likeness_b33 at hf
    refine gg_iconst C dX8_likeness_33 (v := (1 : Int32)) (by decide) ?_
    exact hb_34 _ _ _ _ _ _ hf
  unfold w_X8_likeness at hf
  refine gg_aload_n C dX8_likeness_0 rfl ?_
  refine gg_iload_n C dX8_likeness_1 rfl ?_
  refine gg_iconst C dX8_likeness_2 (v := (0 : Int32)) (by decide) ?_
  refine gg_aload_n C dX8_likeness_3 rfl ?_
  refine gg_getI C dX8_likeness_4 lk_X8_130 hf (fun i1 hf => ?_)
  refine gg_iconst C dX8_likeness_7 (v := (1 : Int32)) (by decide) ?_
  refine gg_isub C dX8_likeness_8 ?_
  refine gr_I (k' := 0) (n' := 0) (gk_S (As := [.int v1, .int (0 : Int32), .int (i1 - (1 : Int32))]) (rest := [va_rf v0]) C dX8_likeness_9 tw_1580 tw_1581 tw_56 tw_1582 gd_X8_in rfl ⟨by decide, by decide⟩ (by simp [gcat, gcI, gcL, gcF, gcD]) ⟨by decide, by decide⟩ (m_X8_in hfl hf)) rfl rfl (fun E g9 h9 => gx_out C (fun x hx => (ht x hx).elim) (by decide) (by decide) h9) (fun i3 g2 hf => ?_)
  refine gg_if_eq (tgt := 33) C dX8_likeness_12 (by decide) hf (fun hf => ?_) (fun hf => ?_)
  · exact hb_33 _ _ _ _ _ hf
  · refine gg_iload_n C dX8_likeness_15 rfl ?_
    refine gg_iconst C dX8_likeness_16 (v := (0 : Int32)) (by decide) ?_
    refine gg_aload_n C dX8_likeness_17 rfl ?_
    refine gg_getI C dX8_likeness_18 lk_X8_130 hf (fun i16 hf => ?_)
    refine gg_iconst C dX8_likeness_21 (v := (1 : Int32)) (by decide) ?_
    refine gg_isub C dX8_likeness_22 ?_
    refine gr_I (k' := 0) (n' := 0) (gk_S (As := [.int v2, .int (0 : Int32), .int (i16 - (1 : Int32))]) (rest := [va_rf v0]) C dX8_likeness_23 tw_1580 tw_1581 tw_56 tw_1582 gd_X8_in rfl ⟨by decide, by decide⟩ (by simp [gcat, gcI, gcL, gcF, gcD]) ⟨by decide, by decide⟩ (m_X8_in hfl hf)) rfl rfl (fun E g9 h9 => gx_out C (fun x hx => (ht x hx).elim) (by decide) (by decide) h9) (fun i18 g17 hf => ?_)
    refine gg_if_eq (tgt := 33) C dX8_likeness_26 (by decide) hf (fun hf => ?_) (fun hf => ?_)
    · exact hb_33 _ _ _ _ _ hf
    · refine gg_iconst C dX8_likeness_29 (v := (0 : Int32)) (by decide) ?_
      refine gg_goto (tgt := 34) C dX8_likeness_30 (by decide) ?_
      exact hb_34 _ _ _ _ _ _ hf

def w_Jxf58ca_isNaN_12338_b11 (X : Cx) (post : Int32 → GM → Prop) (px : String → GM → Prop)  (t0 : Int32) (g : GM) : Prop :=
  (narrow .boolean (.int t0) = .int t0 ∧ post t0 g)
def w_Jxf58ca_isNaN_12338 (X : Cx) (post : Int32 → GM → Prop) (px : String → GM → Prop) (v0 : UInt32) (g : GM) : Prop :=
  (if (Op.cmpValue (FP.fcmp v0 v0) .l) = 0 then w_Jxf58ca_isNaN_12338_b11 X post px (0 : Int32) g else w_Jxf58ca_isNaN_12338_b11 X post px (1 : Int32) g)
abbrev rm_Jxf58ca_isNaN_12338 : Room := { frames := 0, cells := 0, slots := 0, locals := 0 }
set_option maxHeartbeats 4000000 in
set_option maxRecDepth 100000 in
theorem m_Jxf58ca_isNaN_12338 {X : Cx} {l : Launch} (hfl : l.stackTraces = false) {post : Int32 → GM → Prop} {px : String → GM → Prop} {v0 : UInt32} {g : GM} (hf : w_Jxf58ca_isNaN_12338 X post px v0 g) : gMet X l yJxf58ca_isNaN_12338 cJxf58ca_isNaN_12338 1 (some .boolean) rm_Jxf58ca_isNaN_12338 [.float v0] g (qI X post) px := by
  refine gg_enterF (L := [some (.float v0)]) hfl (by decide +kernel) (by simp [lg_sl, gcat, gcI, gcL, gcF, gcD]) (by simp [gll, lv_args, gcat, gcI, gcL, gcF, gcD]) ?_
  intro p e s m args below meth c C hr ht hm
  have C : FC X p l s m args meth c cJxf58ca_isNaN_12338 1 "java/lang/Float" := C
  have hb_11 : ∀ (t0 : Int32) (g : GM), w_Jxf58ca_isNaN_12338_b11 X post px  t0 g → GG X p l e rm_Jxf58ca_isNaN_12338 s m args below meth c 1 (vx_MQ below (qI X post) (gXC X px) args s rm_Jxf58ca_isNaN_12338.cells rm_Jxf58ca_isNaN_12338.slots (gA X)) 0 0 11 [none] [.int t0] g := by
    intro  t0 g hf
    unfold w_Jxf58ca_isNaN_12338_b11 at hf
    exact gg_iret C hr (by decide) (by decide) dJxf58ca_isNaN_12338_11 hf.1 hf.2
  unfold w_Jxf58ca_isNaN_12338 at hf
  refine gg_fload_n C dJxf58ca_isNaN_12338_0 rfl ?_
  refine gg_fload_n C dJxf58ca_isNaN_12338_1 rfl ?_
  refine gg_fcmp C dJxf58ca_isNaN_12338_2 ?_
  refine gg_if_eq (tgt := 10) C dJxf58ca_isNaN_12338_3 (by decide) hf (fun hf => ?_) (fun hf => ?_)
  · refine gg_iconst C dJxf58ca_isNaN_12338_10 (v := (0 : Int32)) (by decide) ?_
    exact gg_sub (L' := [none]) (by first | exact trivial | simp [gsub]) (hb_11 _ _ hf)
  · refine gg_iconst C dJxf58ca_isNaN_12338_6 (v := (1 : Int32)) (by decide) ?_
    refine gg_goto (tgt := 11) C dJxf58ca_isNaN_12338_7 (by decide) ?_
    exact gg_sub (L' := [none]) (by first | exact trivial | simp [gsub]) (hb_11 _ _ hf)

def w_Jxf58ca_floatToIntBits_5c35a (X : Cx) (post : Int32 → GM → Prop) (px : String → GM → Prop) (v0 : UInt32) (g : GM) : Prop :=
  w_Jxf58ca_isNaN_12338 X (fun (i2 : Int32) (g1 : GM) => (if i2 = 0 then post ((v0).toInt32) g1 else post (2143289344 : Int32) g1)) px v0 g
abbrev rm_Jxf58ca_floatToIntBits_5c35a : Room := { frames := 1, cells := 0, slots := 0, locals := 20 }
set_option maxHeartbeats 4000000 in
set_option maxRecDepth 100000 in
theorem m_Jxf58ca_floatToIntBits_5c35a {X : Cx} {l : Launch} (hfl : l.stackTraces = false) {post : Int32 → GM → Prop} {px : String → GM → Prop} {v0 : UInt32} {g : GM} (hf : w_Jxf58ca_floatToIntBits_5c35a X post px v0 g) : gMet X l yJxf58ca_floatToIntBits_5c35a cJxf58ca_floatToIntBits_5c35a 1 (some .int) rm_Jxf58ca_floatToIntBits_5c35a [.float v0] g (qI X post) px := by
  refine gg_enterF (L := [some (.float v0)]) hfl (by decide +kernel) (by simp [lg_sl, gcat, gcI, gcL, gcF, gcD]) (by simp [gll, lv_args, gcat, gcI, gcL, gcF, gcD]) ?_
  intro p e s m args below meth c C hr ht hm
  have C : FC X p l s m args meth c cJxf58ca_floatToIntBits_5c35a 1 "java/lang/Float" := C
  unfold w_Jxf58ca_floatToIntBits_5c35a at hf
  refine gg_fload_n C dJxf58ca_floatToIntBits_5c35a_0 rfl ?_
  refine gr_I (k' := 0) (n' := 0) (gk_S (As := [.float v0]) (rest := []) C dJxf58ca_floatToIntBits_5c35a_1 tw_1788 tw_1789 tw_79 tw_1790 gd_Jxf58ca_isNaN_12338 rfl ⟨by decide, by decide⟩ (by simp [gcat, gcI, gcL, gcF, gcD]) ⟨by decide, by decide⟩ (m_Jxf58ca_isNaN_12338 hfl hf)) rfl rfl (fun E g9 h9 => gx_out C (fun x hx => (ht x hx).elim) (by decide) (by decide) h9) (fun i2 g1 hf => ?_)
  refine gg_if_ne (tgt := 12) C dJxf58ca_floatToIntBits_5c35a_4 (by decide) hf (fun hf => ?_) (fun hf => ?_)
  · refine gg_ldc C dJxf58ca_floatToIntBits_5c35a_12 (v := (2143289344 : Int32)) tw_1794 ?_
    exact gg_iret C hr (by decide) (by decide) dJxf58ca_floatToIntBits_5c35a_14 rfl hf
  · refine gg_fload_n C dJxf58ca_floatToIntBits_5c35a_7 rfl ?_
    refine gg_f2raw C dJxf58ca_floatToIntBits_5c35a_8 tw_1791 tw_1793 tw_1792 tw_79 (by decide) (by simp [gcat, gcI, gcL, gcF, gcD]) ?_
    exact gg_iret C hr (by decide) (by decide) dJxf58ca_floatToIntBits_5c35a_11 rfl hf

def w_X8_setBound_b17 (X : Cx) (post : Int32 → GM → Prop) (px : String → GM → Prop)  (l0 : Option Nat) (l1 : Int32) (t0 : Int32) (t1 : Option Nat) (g : GM) : Prop :=
  wPut g t1 8 36 (.int t0) (fun g3 => wGetI g3 l0 8 36 (fun (i4 : Int32) => (if i4 ≤ 0 then wGetF g3 l0 8 25 (fun (x5 : UInt32) => w_Jxf58ca_floatToIntBits_5c35a X (fun (i7 : Int32) (g6 : GM) => vf_n32 (FP.fdiv (FP.i2f l1) (1148846080 : UInt32)) ∧ wPut g6 l0 8 25 (.float (FP.fdiv (FP.i2f l1) (1148846080 : UInt32))) (fun g8 => post i7 g8)) px x5 g3) else post (0 : Int32) g3)))
def w_X8_setBound (X : Cx) (post : Int32 → GM → Prop) (px : String → GM → Prop) (v0 : Option Nat) (v1 : Int32) (g : GM) : Prop :=
  w_X8_in X (fun (i2 : Int32) (g1 : GM) => (if i2 = 0 then w_X8_setBound_b17 X post px v0 v1 (1 : Int32) v0 g1 else w_X8_setBound_b17 X post px v0 v1 (0 : Int32) v0 g1)) px v1 (0 : Int32) (1000 : Int32) g
abbrev rm_X8_setBound : Room := { frames := 2, cells := 0, slots := 0, locals := 40 }
set_option maxHeartbeats 4000000 in
set_option maxRecDepth 100000 in
theorem m_X8_setBound {X : Cx} {l : Launch} (hfl : l.stackTraces = false) {post : Int32 → GM → Prop} {px : String → GM → Prop} {v0 : Option Nat} {v1 : Int32} {g : GM} (hf : w_X8_setBound X post px v0 v1 g) : gMet X l yX8_setBound cX8_setBound 3 (some .int) rm_X8_setBound [va_rf v0, .int v1] g (qI X post) px := by
  refine gg_enter (L := [some (va_rf v0), some (.int v1), none]) hfl (by decide +kernel) (by simp [lg_sl, gcat, gcI, gcL, gcF, gcD]) (by simp [gll, lv_args, gcat, gcI, gcL, gcF, gcD]) ?_
  intro p e s m args below meth c C hr ht hm
  have C : FC X p l s m args meth c cX8_setBound 3 "ReleasetrainModel" := C
  have hb_17 : ∀ (l0 : Option Nat) (l1 : Int32) (t0 : Int32) (t1 : Option Nat) (g : GM), w_X8_setBound_b17 X post px  l0 l1 t0 t1 g → GG X p l e rm_X8_setBound s m args below meth c 3 (vx_MQ below (qI X post) (gXC X px) args s rm_X8_setBound.cells rm_X8_setBound.slots (gA X)) 0 0 17 [some (va_rf l0), some (.int l1), none] [.int t0, va_rf t1] g := by
    intro  l0 l1 t0 t1 g hf
    unfold w_X8_setBound_b17 at hf
    refine gg_put C dX8_setBound_17 pk_X8_110 (gNar_int _) hf (fun g3 hf => ?_)
    refine gg_aload_n C dX8_setBound_20 rfl ?_
    refine gg_getI C dX8_setBound_21 lk_X8_110 hf (fun i4 hf => ?_)
    refine gg_if_le (tgt := 29) C dX8_setBound_24 (by decide) hf (fun hf => ?_) (fun hf => ?_)
    · refine gg_aload_n C dX8_setBound_29 rfl ?_
      refine gg_getF C dX8_setBound_30 lk_X8_79 hf (fun x5 hf => ?_)
      refine gr_I (k' := 0) (n' := 0) (gk_S (As := [.float x5]) (rest := []) C dX8_setBound_33 tw_1785 tw_1786 tw_79 tw_1787 gd_Jxf58ca_floatToIntBits_5c35a rfl ⟨by decide, by decide⟩ (by simp [gcat, gcI, gcL, gcF, gcD]) ⟨by decide, by decide⟩ (m_Jxf58ca_floatToIntBits_5c35a hfl hf)) rfl rfl (fun E g9 h9 => gx_out C (fun x hx => (ht x hx).elim) (by decide) (by decide) h9) (fun i7 g6 hf => ?_)
      refine gg_istore_n (L' := [some (va_rf l0), some (.int l1), some (.int i7)]) C dX8_setBound_36 (Or.inr (Or.inr ⟨_, rfl, rfl⟩)) (by decide) rfl ?_
      refine gg_aload_n C dX8_setBound_37 rfl ?_
      refine gg_iload_n C dX8_setBound_38 rfl ?_
      refine gg_i2f C dX8_setBound_39 ?_
      refine gg_ldcf C dX8_setBound_40 (v := (1148846080 : UInt32)) tw_1795 ?_
      refine gg_fdiv C dX8_setBound_42 hf.1 ?_
      replace hf := hf.2
      refine gg_put C dX8_setBound_43 pk_X8_79 (gNar_float _) hf (fun g8 hf => ?_)
      refine gg_iload_n C dX8_setBound_46 rfl ?_
      exact gg_iret C hr (by decide) (by decide) dX8_setBound_47 rfl hf
    · refine gg_iconst C dX8_setBound_27 (v := (0 : Int32)) (by decide) ?_
      exact gg_iret C hr (by decide) (by decide) dX8_setBound_28 rfl hf
  unfold w_X8_setBound at hf
  refine gg_aload_n C dX8_setBound_0 rfl ?_
  refine gg_iload_n C dX8_setBound_1 rfl ?_
  refine gg_iconst C dX8_setBound_2 (v := (0 : Int32)) (by decide) ?_
  refine gg_sipush C dX8_setBound_3 (v := (1000 : Int32)) (by decide) ?_
  refine gr_I (k' := 0) (n' := 0) (gk_S (As := [.int v1, .int (0 : Int32), .int (1000 : Int32)]) (rest := [va_rf v0]) C dX8_setBound_6 tw_1580 tw_1581 tw_56 tw_1582 gd_X8_in rfl ⟨by decide, by decide⟩ (by simp [gcat, gcI, gcL, gcF, gcD]) ⟨by decide, by decide⟩ (m_X8_in hfl hf)) rfl rfl (fun E g9 h9 => gx_out C (fun x hx => (ht x hx).elim) (by decide) (by decide) h9) (fun i2 g1 hf => ?_)
  refine gg_if_eq (tgt := 16) C dX8_setBound_9 (by decide) hf (fun hf => ?_) (fun hf => ?_)
  · refine gg_iconst C dX8_setBound_16 (v := (1 : Int32)) (by decide) ?_
    exact hb_17 _ _ _ _ _ hf
  · refine gg_iconst C dX8_setBound_12 (v := (0 : Int32)) (by decide) ?_
    refine gg_goto (tgt := 17) C dX8_setBound_13 (by decide) ?_
    exact hb_17 _ _ _ _ _ hf

def w_X8_worstGroup_b67 (X : Cx) (post : Int32 → GM → Prop) (px : String → GM → Prop)  (t0 : Int32) (g : GM) : Prop :=
  post t0 g
def w_X8_worstGroup_b48 (X : Cx) (post : Int32 → GM → Prop) (px : String → GM → Prop) (k20 : Option Nat → Int32 → Int32 → GM → Prop) (l0 : Option Nat) (l2 : Int32) (t0 : Int32) (g : GM) : Prop :=
  k20 l0 t0 (l2 + 1) g
def w_X8_worstGroup_l20 (X : Cx) (post : Int32 → GM → Prop) (px : String → GM → Prop)  : Nat → Option Nat → Int32 → Int32 → GM → Prop
  | 0, _, _, _, _ => False
  | f + 1, l0, l1, l2, g => wGetI g l0 8 31 (fun (i3 : Int32) => (if i3 ≤ l2 then wGetI g l0 8 36 (fun (i4 : Int32) => (if i4 ≤ 0 then w_X8_worstGroup_b67 X post px l1 g else w_X8_worstGroup_b67 X post px (0 : Int32) g)) else wGetR g l0 8 29 (fun (r5 : Option Nat) => wAld g r5 l2 0 (fun (i6 : Int32) => wGetR g l0 8 29 (fun (r7 : Option Nat) => wAld g r7 l1 0 (fun (i8 : Int32) => (if i6 ≤ i8 then w_X8_worstGroup_b48 X post px (w_X8_worstGroup_l20 X post px f) l0 l2 l1 g else w_X8_worstGroup_b48 X post px (w_X8_worstGroup_l20 X post px f) l0 l2 l2 g)))))))
def w_X8_worstGroup_b13 (X : Cx) (post : Int32 → GM → Prop) (px : String → GM → Prop)  (l0 : Option Nat) (t0 : Int32) (t1 : Option Nat) (g : GM) : Prop :=
  wPut g t1 8 36 (.int t0) (fun g2 => w_X8_worstGroup_l20 X post px 3000 l0 (0 : Int32) (1 : Int32) g2)
def w_X8_worstGroup (X : Cx) (post : Int32 → GM → Prop) (px : String → GM → Prop) (v0 : Option Nat) (g : GM) : Prop :=
  wGetI g v0 8 31 (fun (i1 : Int32) => (if i1 = 0 then w_X8_worstGroup_b13 X post px v0 (1 : Int32) v0 g else w_X8_worstGroup_b13 X post px v0 (0 : Int32) v0 g))
abbrev rm_X8_worstGroup : Room := { frames := 0, cells := 0, slots := 0, locals := 0 }
set_option maxHeartbeats 4000000 in
set_option maxRecDepth 100000 in
theorem m_X8_worstGroup {X : Cx} {l : Launch} (hfl : l.stackTraces = false) {post : Int32 → GM → Prop} {px : String → GM → Prop} {v0 : Option Nat} {g : GM} (hf : w_X8_worstGroup X post px v0 g) : gMet X l yX8_worstGroup cX8_worstGroup 3 (some .int) rm_X8_worstGroup [va_rf v0] g (qI X post) px := by
  refine gg_enter (L := [some (va_rf v0), none, none]) hfl (by decide +kernel) (by simp [lg_sl, gcat, gcI, gcL, gcF, gcD]) (by simp [gll, lv_args, gcat, gcI, gcL, gcF, gcD]) ?_
  intro p e s m args below meth c C hr ht hm
  have C : FC X p l s m args meth c cX8_worstGroup 3 "ReleasetrainModel" := C
  have hb_67 : ∀ (t0 : Int32) (g : GM), w_X8_worstGroup_b67 X post px  t0 g → GG X p l e rm_X8_worstGroup s m args below meth c 3 (vx_MQ below (qI X post) (gXC X px) args s rm_X8_worstGroup.cells rm_X8_worstGroup.slots (gA X)) 0 0 67 [none, none, none] [.int t0] g := by
    intro  t0 g hf
    unfold w_X8_worstGroup_b67 at hf
    exact gg_iret C hr (by decide) (by decide) dX8_worstGroup_67 rfl hf
  have hb_48 : ∀ (k20 : Option Nat → Int32 → Int32 → GM → Prop), (∀ (l0 : Option Nat) (l1 : Int32) (l2 : Int32) (g : GM), k20 l0 l1 l2 g → GG X p l e rm_X8_worstGroup s m args below meth c 3 (vx_MQ below (qI X post) (gXC X px) args s rm_X8_worstGroup.cells rm_X8_worstGroup.slots (gA X)) 0 0 20 [some (va_rf l0), some (.int l1), some (.int l2)] [] g) → ∀ (l0 : Option Nat) (l2 : Int32) (t0 : Int32) (g : GM), w_X8_worstGroup_b48 X post px k20 l0 l2 t0 g → GG X p l e rm_X8_worstGroup s m args below meth c 3 (vx_MQ below (qI X post) (gXC X px) args s rm_X8_worstGroup.cells rm_X8_worstGroup.slots (gA X)) 0 0 48 [some (va_rf l0), none, some (.int l2)] [.int t0] g := by
    intro k20 hk20 l0 l2 t0 g hf
    unfold w_X8_worstGroup_b48 at hf
    refine gg_istore_n (L' := [some (va_rf l0), some (.int t0), some (.int l2)]) C dX8_worstGroup_48 (Or.inr (Or.inr ⟨_, rfl, gcat _⟩)) (by decide) rfl ?_
    refine gg_iinc (L' := [some (va_rf l0), some (.int t0), some (.int (l2 + 1))]) C dX8_worstGroup_49 rfl (v := (l2 + 1)) rfl (Or.inr (Or.inr ⟨_, rfl, rfl⟩)) (by decide) rfl ?_
    refine gg_goto (tgt := 20) C dX8_worstGroup_52 (by decide) ?_
    exact hk20 _ _ _ _ hf
  have hb_20 : ∀ (f : Nat) (l0 : Option Nat) (l1 : Int32) (l2 : Int32) (g : GM), w_X8_worstGroup_l20 X post px  f l0 l1 l2 g → GG X p l e rm_X8_worstGroup s m args below meth c 3 (vx_MQ below (qI X post) (gXC X px) args s rm_X8_worstGroup.cells rm_X8_worstGroup.slots (gA X)) 0 0 20 [some (va_rf l0), some (.int l1), some (.int l2)] [] g := by
    intro  f
    induction f with
    | zero => intro l0 l1 l2 g hf; exact (show False from hf).elim
    | succ f ih =>
      intro l0 l1 l2 g hf
      rw [w_X8_worstGroup_l20] at hf
      refine gg_iload_n C dX8_worstGroup_20 rfl ?_
      refine gg_aload_n C dX8_worstGroup_21 rfl ?_
      refine gg_getI C dX8_worstGroup_22 lk_X8_130 hf (fun i3 hf => ?_)
      refine gg_icmp_ge (tgt := 55) C dX8_worstGroup_25 (by decide) hf (fun hf => ?_) (fun hf => ?_)
      · refine gg_aload_n C dX8_worstGroup_55 rfl ?_
        refine gg_getI C dX8_worstGroup_56 lk_X8_110 hf (fun i4 hf => ?_)
        refine gg_if_le (tgt := 66) C dX8_worstGroup_59 (by decide) hf (fun hf => ?_) (fun hf => ?_)
        · refine gg_iload_n C dX8_worstGroup_66 rfl ?_
          exact gg_sub (L' := [none, none, none]) (by first | exact trivial | simp [gsub]) (hb_67 _ _ hf)
        · refine gg_iconst C dX8_worstGroup_62 (v := (0 : Int32)) (by decide) ?_
          refine gg_goto (tgt := 67) C dX8_worstGroup_63 (by decide) ?_
          exact gg_sub (L' := [none, none, none]) (by first | exact trivial | simp [gsub]) (hb_67 _ _ hf)
      · refine gg_aload_n C dX8_worstGroup_28 rfl ?_
        refine gg_getR C dX8_worstGroup_29 lk_X8_94 hf (fun r5 hf => ?_)
        refine gg_iload_n C dX8_worstGroup_32 rfl ?_
        refine gg_iald C dX8_worstGroup_33 hf (fun i6 hf => ?_)
        refine gg_aload_n C dX8_worstGroup_34 rfl ?_
        refine gg_getR C dX8_worstGroup_35 lk_X8_94 hf (fun r7 hf => ?_)
        refine gg_iload_n C dX8_worstGroup_38 rfl ?_
        refine gg_iald C dX8_worstGroup_39 hf (fun i8 hf => ?_)
        refine gg_icmp_le (tgt := 47) C dX8_worstGroup_40 (by decide) hf (fun hf => ?_) (fun hf => ?_)
        · refine gg_iload_n C dX8_worstGroup_47 rfl ?_
          exact gg_sub (L' := [some (va_rf l0), none, some (.int l2)]) (by first | exact ⟨rfl, ⟨rfl, trivial⟩⟩ | simp [gsub]) (hb_48 _ ih _ _ _ _ hf)
        · refine gg_iload_n C dX8_worstGroup_43 rfl ?_
          refine gg_goto (tgt := 48) C dX8_worstGroup_44 (by decide) ?_
          exact gg_sub (L' := [some (va_rf l0), none, some (.int l2)]) (by first | exact ⟨rfl, ⟨rfl, trivial⟩⟩ | simp [gsub]) (hb_48 _ ih _ _ _ _ hf)
  have hb_13 : ∀ (l0 : Option Nat) (t0 : Int32) (t1 : Option Nat) (g : GM), w_X8_worstGroup_b13 X post px  l0 t0 t1 g → GG X p l e rm_X8_worstGroup s m args below meth c 3 (vx_MQ below (qI X post) (gXC X px) args s rm_X8_worstGroup.cells rm_X8_worstGroup.slots (gA X)) 0 0 13 [some (va_rf l0), none, none] [.int t0, va_rf t1] g := by
    intro  l0 t0 t1 g hf
    unfold w_X8_worstGroup_b13 at hf
    refine gg_put C dX8_worstGroup_13 pk_X8_110 (gNar_int _) hf (fun g2 hf => ?_)
    refine gg_iconst C dX8_worstGroup_16 (v := (0 : Int32)) (by decide) ?_
    refine gg_istore_n (L' := [some (va_rf l0), some (.int (0 : Int32)), none]) C dX8_worstGroup_17 (Or.inr (Or.inr ⟨_, rfl, gcat _⟩)) (by decide) rfl ?_
    refine gg_iconst C dX8_worstGroup_18 (v := (1 : Int32)) (by decide) ?_
    refine gg_istore_n (L' := [some (va_rf l0), some (.int (0 : Int32)), some (.int (1 : Int32))]) C dX8_worstGroup_19 (Or.inr (Or.inr ⟨_, rfl, rfl⟩)) (by decide) rfl ?_
    exact hb_20 _ _ _ _ _ hf
  unfold w_X8_worstGroup at hf
  refine gg_aload_n C dX8_worstGroup_0 rfl ?_
  refine gg_aload_n C dX8_worstGroup_1 rfl ?_
  refine gg_getI C dX8_worstGroup_2 lk_X8_130 hf (fun i1 hf => ?_)
  refine gg_if_ne (tgt := 12) C dX8_worstGroup_5 (by decide) hf (fun hf => ?_) (fun hf => ?_)
  · refine gg_iconst C dX8_worstGroup_12 (v := (0 : Int32)) (by decide) ?_
    exact hb_13 _ _ _ _ hf
  · refine gg_iconst C dX8_worstGroup_8 (v := (1 : Int32)) (by decide) ?_
    refine gg_goto (tgt := 13) C dX8_worstGroup_9 (by decide) ?_
    exact hb_13 _ _ _ _ hf

def w_X8_buildsIn_b18 (X : Cx) (post : Int32 → GM → Prop) (px : String → GM → Prop)  (t0 : Int32) (g : GM) : Prop :=
  post t0 g
def w_X8_buildsIn (X : Cx) (post : Int32 → GM → Prop) (px : String → GM → Prop) (v0 : Option Nat) (v1 : Int32) (g : GM) : Prop :=
  wIs g v0 8 (w_X8_noGroup X (fun (i2 : Int32) (g1 : GM) => (if i2 = 0 then wGetR g1 v0 8 30 (fun (r3 : Option Nat) => wAld g1 r3 v1 0 (fun (i4 : Int32) => w_X8_buildsIn_b18 X post px i4 g1)) else w_X8_buildsIn_b18 X post px (0 : Int32) g1)) px v0 v1 g)
abbrev rm_X8_buildsIn : Room := { frames := 2, cells := 0, slots := 0, locals := 43 }
set_option maxHeartbeats 4000000 in
set_option maxRecDepth 100000 in
theorem m_X8_buildsIn {X : Cx} {l : Launch} (hfl : l.stackTraces = false) {post : Int32 → GM → Prop} {px : String → GM → Prop} {v0 : Option Nat} {v1 : Int32} {g : GM} (hf : w_X8_buildsIn X post px v0 v1 g) : gMet X l yX8_buildsIn cX8_buildsIn 2 (some .int) rm_X8_buildsIn [va_rf v0, .int v1] g (qI X post) px := by
  refine gg_enter (L := [some (va_rf v0), some (.int v1)]) hfl (by decide +kernel) (by simp [lg_sl, gcat, gcI, gcL, gcF, gcD]) (by simp [gll, lv_args, gcat, gcI, gcL, gcF, gcD]) ?_
  intro p e s m args below meth c C hr ht hm
  have C : FC X p l s m args meth c cX8_buildsIn 2 "ReleasetrainModel" := C
  have hb_18 : ∀ (t0 : Int32) (g : GM), w_X8_buildsIn_b18 X post px  t0 g → GG X p l e rm_X8_buildsIn s m args below meth c 2 (vx_MQ below (qI X post) (gXC X px) args s rm_X8_buildsIn.cells rm_X8_buildsIn.slots (gA X)) 0 0 18 [none, none] [.int t0] g := by
    intro  t0 g hf
    unfold w_X8_buildsIn_b18 at hf
    exact gg_iret C hr (by decide) (by decide) dX8_buildsIn_18 rfl hf
  unfold w_X8_buildsIn at hf
  refine gg_aload_n C dX8_buildsIn_0 rfl ?_
  refine gg_iload_n C dX8_buildsIn_1 rfl ?_
  refine gr_I (k' := 0) (n' := 0) (gk_V (ci := 8) (As := [.int v1]) (rest := []) C dX8_buildsIn_2 rfl rfl tw_1769 tw_1771 tw_42 tw_56 tw_1772 gd_X8_noGroup rfl ⟨by decide, by decide⟩ (by simp [gcat, gcI, gcL, gcF, gcD]) ⟨by decide, by decide⟩ hf (fun hf => m_X8_noGroup hfl hf)) rfl rfl (fun E g9 h9 => gx_out C (fun x hx => (ht x hx).elim) (by decide) (by decide) h9) (fun i2 g1 hf => ?_)
  refine gg_if_eq (tgt := 12) C dX8_buildsIn_5 (by decide) hf (fun hf => ?_) (fun hf => ?_)
  · refine gg_aload_n C dX8_buildsIn_12 rfl ?_
    refine gg_getR C dX8_buildsIn_13 lk_X8_97 hf (fun r3 hf => ?_)
    refine gg_iload_n C dX8_buildsIn_16 rfl ?_
    refine gg_iald C dX8_buildsIn_17 hf (fun i4 hf => ?_)
    exact gg_sub (L' := [none, none]) (by first | exact trivial | simp [gsub]) (hb_18 _ _ hf)
  · refine gg_iconst C dX8_buildsIn_8 (v := (0 : Int32)) (by decide) ?_
    refine gg_goto (tgt := 18) C dX8_buildsIn_9 (by decide) ?_
    exact gg_sub (L' := [none, none]) (by first | exact trivial | simp [gsub]) (hb_18 _ _ hf)

def w_X8_setRate_b17 (X : Cx) (post : Int32 → GM → Prop) (px : String → GM → Prop)  (l0 : Option Nat) (l1 : Int32) (t0 : Int32) (t1 : Option Nat) (g : GM) : Prop :=
  wPut g t1 8 36 (.int t0) (fun g3 => wGetI g3 l0 8 36 (fun (i4 : Int32) => (if i4 ≤ 0 then wGetF g3 l0 8 26 (fun (x5 : UInt32) => w_Jxf58ca_floatToIntBits_5c35a X (fun (i7 : Int32) (g6 : GM) => vf_n32 (FP.fdiv (FP.i2f l1) (1148846080 : UInt32)) ∧ wPut g6 l0 8 26 (.float (FP.fdiv (FP.i2f l1) (1148846080 : UInt32))) (fun g8 => post i7 g8)) px x5 g3) else post (0 : Int32) g3)))
def w_X8_setRate (X : Cx) (post : Int32 → GM → Prop) (px : String → GM → Prop) (v0 : Option Nat) (v1 : Int32) (g : GM) : Prop :=
  w_X8_in X (fun (i2 : Int32) (g1 : GM) => (if i2 = 0 then w_X8_setRate_b17 X post px v0 v1 (1 : Int32) v0 g1 else w_X8_setRate_b17 X post px v0 v1 (0 : Int32) v0 g1)) px v1 (0 : Int32) (9999 : Int32) g
abbrev rm_X8_setRate : Room := { frames := 2, cells := 0, slots := 0, locals := 40 }
set_option maxHeartbeats 4000000 in
set_option maxRecDepth 100000 in
theorem m_X8_setRate {X : Cx} {l : Launch} (hfl : l.stackTraces = false) {post : Int32 → GM → Prop} {px : String → GM → Prop} {v0 : Option Nat} {v1 : Int32} {g : GM} (hf : w_X8_setRate X post px v0 v1 g) : gMet X l yX8_setRate cX8_setRate 3 (some .int) rm_X8_setRate [va_rf v0, .int v1] g (qI X post) px := by
  refine gg_enter (L := [some (va_rf v0), some (.int v1), none]) hfl (by decide +kernel) (by simp [lg_sl, gcat, gcI, gcL, gcF, gcD]) (by simp [gll, lv_args, gcat, gcI, gcL, gcF, gcD]) ?_
  intro p e s m args below meth c C hr ht hm
  have C : FC X p l s m args meth c cX8_setRate 3 "ReleasetrainModel" := C
  have hb_17 : ∀ (l0 : Option Nat) (l1 : Int32) (t0 : Int32) (t1 : Option Nat) (g : GM), w_X8_setRate_b17 X post px  l0 l1 t0 t1 g → GG X p l e rm_X8_setRate s m args below meth c 3 (vx_MQ below (qI X post) (gXC X px) args s rm_X8_setRate.cells rm_X8_setRate.slots (gA X)) 0 0 17 [some (va_rf l0), some (.int l1), none] [.int t0, va_rf t1] g := by
    intro  l0 l1 t0 t1 g hf
    unfold w_X8_setRate_b17 at hf
    refine gg_put C dX8_setRate_17 pk_X8_110 (gNar_int _) hf (fun g3 hf => ?_)
    refine gg_aload_n C dX8_setRate_20 rfl ?_
    refine gg_getI C dX8_setRate_21 lk_X8_110 hf (fun i4 hf => ?_)
    refine gg_if_le (tgt := 29) C dX8_setRate_24 (by decide) hf (fun hf => ?_) (fun hf => ?_)
    · refine gg_aload_n C dX8_setRate_29 rfl ?_
      refine gg_getF C dX8_setRate_30 lk_X8_83 hf (fun x5 hf => ?_)
      refine gr_I (k' := 0) (n' := 0) (gk_S (As := [.float x5]) (rest := []) C dX8_setRate_33 tw_1785 tw_1786 tw_79 tw_1787 gd_Jxf58ca_floatToIntBits_5c35a rfl ⟨by decide, by decide⟩ (by simp [gcat, gcI, gcL, gcF, gcD]) ⟨by decide, by decide⟩ (m_Jxf58ca_floatToIntBits_5c35a hfl hf)) rfl rfl (fun E g9 h9 => gx_out C (fun x hx => (ht x hx).elim) (by decide) (by decide) h9) (fun i7 g6 hf => ?_)
      refine gg_istore_n (L' := [some (va_rf l0), some (.int l1), some (.int i7)]) C dX8_setRate_36 (Or.inr (Or.inr ⟨_, rfl, rfl⟩)) (by decide) rfl ?_
      refine gg_aload_n C dX8_setRate_37 rfl ?_
      refine gg_iload_n C dX8_setRate_38 rfl ?_
      refine gg_i2f C dX8_setRate_39 ?_
      refine gg_ldcf C dX8_setRate_40 (v := (1148846080 : UInt32)) tw_1795 ?_
      refine gg_fdiv C dX8_setRate_42 hf.1 ?_
      replace hf := hf.2
      refine gg_put C dX8_setRate_43 pk_X8_83 (gNar_float _) hf (fun g8 hf => ?_)
      refine gg_iload_n C dX8_setRate_46 rfl ?_
      exact gg_iret C hr (by decide) (by decide) dX8_setRate_47 rfl hf
    · refine gg_iconst C dX8_setRate_27 (v := (0 : Int32)) (by decide) ?_
      exact gg_iret C hr (by decide) (by decide) dX8_setRate_28 rfl hf
  unfold w_X8_setRate at hf
  refine gg_aload_n C dX8_setRate_0 rfl ?_
  refine gg_iload_n C dX8_setRate_1 rfl ?_
  refine gg_iconst C dX8_setRate_2 (v := (0 : Int32)) (by decide) ?_
  refine gg_sipush C dX8_setRate_3 (v := (9999 : Int32)) (by decide) ?_
  refine gr_I (k' := 0) (n' := 0) (gk_S (As := [.int v1, .int (0 : Int32), .int (9999 : Int32)]) (rest := [va_rf v0]) C dX8_setRate_6 tw_1580 tw_1581 tw_56 tw_1582 gd_X8_in rfl ⟨by decide, by decide⟩ (by simp [gcat, gcI, gcL, gcF, gcD]) ⟨by decide, by decide⟩ (m_X8_in hfl hf)) rfl rfl (fun E g9 h9 => gx_out C (fun x hx => (ht x hx).elim) (by decide) (by decide) h9) (fun i2 g1 hf => ?_)
  refine gg_if_eq (tgt := 16) C dX8_setRate_9 (by decide) hf (fun hf => ?_) (fun hf => ?_)
  · refine gg_iconst C dX8_setRate_16 (v := (1 : Int32)) (by decide) ?_
    exact hb_17 _ _ _ _ _ hf
  · refine gg_iconst C dX8_setRate_12 (v := (0 : Int32)) (by decide) ?_
    refine gg_goto (tgt := 17) C dX8_setRate_13 (by decide) ?_
    exact hb_17 _ _ _ _ _ hf

def w_X8_crashRate_b17 (X : Cx) (post : UInt32 → GM → Prop) (px : String → GM → Prop)  (t0 : UInt32) (g : GM) : Prop :=
  post t0 g
def w_X8_crashRate (X : Cx) (post : UInt32 → GM → Prop) (px : String → GM → Prop) (v0 : Option Nat) (v1 : Int32) (g : GM) : Prop :=
  wIs g v0 8 (w_X8_noBuild X (fun (i2 : Int32) (g1 : GM) => (if i2 = 0 then wIs g1 v0 8 (w_X8_rateOf X (fun (x4 : UInt32) (g3 : GM) => w_X8_crashRate_b17 X post px x4 g3) px v0 v1 g1) else w_X8_crashRate_b17 X post px FP.fconst0 g1)) px v0 v1 g)
abbrev rm_X8_crashRate : Room := { frames := 3, cells := 0, slots := 0, locals := 64 }
set_option maxHeartbeats 4000000 in
set_option maxRecDepth 100000 in
theorem m_X8_crashRate {X : Cx} {l : Launch} (hfl : l.stackTraces = false) {post : UInt32 → GM → Prop} {px : String → GM → Prop} {v0 : Option Nat} {v1 : Int32} {g : GM} (hf : w_X8_crashRate X post px v0 v1 g) : gMet X l yX8_crashRate cX8_crashRate 2 (some .float) rm_X8_crashRate [va_rf v0, .int v1] g (qF X post) px := by
  refine gg_enter (L := [some (va_rf v0), some (.int v1)]) hfl (by decide +kernel) (by simp [lg_sl, gcat, gcI, gcL, gcF, gcD]) (by simp [gll, lv_args, gcat, gcI, gcL, gcF, gcD]) ?_
  intro p e s m args below meth c C hr ht hm
  have C : FC X p l s m args meth c cX8_crashRate 2 "ReleasetrainModel" := C
  have hb_17 : ∀ (t0 : UInt32) (g : GM), w_X8_crashRate_b17 X post px  t0 g → GG X p l e rm_X8_crashRate s m args below meth c 2 (vx_MQ below (qF X post) (gXC X px) args s rm_X8_crashRate.cells rm_X8_crashRate.slots (gA X)) 0 0 17 [none, none] [.float t0] g := by
    intro  t0 g hf
    unfold w_X8_crashRate_b17 at hf
    exact gg_fret C hr (by decide) (by decide) dX8_crashRate_17 hf
  unfold w_X8_crashRate at hf
  refine gg_aload_n C dX8_crashRate_0 rfl ?_
  refine gg_iload_n C dX8_crashRate_1 rfl ?_
  refine gr_I (k' := 0) (n' := 0) (gk_V (ci := 8) (As := [.int v1]) (rest := []) C dX8_crashRate_2 rfl rfl tw_1599 tw_1601 tw_26 tw_56 tw_1602 gd_X8_noBuild rfl ⟨by decide, by decide⟩ (by simp [gcat, gcI, gcL, gcF, gcD]) ⟨by decide, by decide⟩ hf (fun hf => m_X8_noBuild hfl hf)) rfl rfl (fun E g9 h9 => gx_out C (fun x hx => (ht x hx).elim) (by decide) (by decide) h9) (fun i2 g1 hf => ?_)
  refine gg_if_eq (tgt := 12) C dX8_crashRate_5 (by decide) hf (fun hf => ?_) (fun hf => ?_)
  · refine gg_aload_n C dX8_crashRate_12 rfl ?_
    refine gg_iload_n C dX8_crashRate_13 rfl ?_
    refine gr_F (k' := 0) (n' := 0) (gk_V (ci := 8) (As := [.int v1]) (rest := []) C dX8_crashRate_14 rfl rfl tw_1671 tw_1673 tw_34 tw_56 tw_1674 gd_X8_rateOf rfl ⟨by decide, by decide⟩ (by simp [gcat, gcI, gcL, gcF, gcD]) ⟨by decide, by decide⟩ hf (fun hf => m_X8_rateOf hfl hf)) rfl rfl (fun E g9 h9 => gx_out C (fun x hx => (ht x hx).elim) (by decide) (by decide) h9) (fun x4 g3 hf => ?_)
    exact gg_sub (L' := [none, none]) (by first | exact trivial | simp [gsub]) (hb_17 _ _ hf)
  · refine gg_fconst0 C dX8_crashRate_8 ?_
    refine gg_goto (tgt := 17) C dX8_crashRate_9 (by decide) ?_
    exact gg_sub (L' := [none, none]) (by first | exact trivial | simp [gsub]) (hb_17 _ _ hf)

def w_X8_rate_b39 (X : Cx) (post : Int32 → GM → Prop) (px : String → GM → Prop)  (l0 : Option Nat) (l1 : Int32) (l2 : Int32) (t0 : Int32) (t1 : Option Nat) (g : GM) : Prop :=
  wPut g t1 8 36 (.int t0) (fun g7 => wGetI g7 l0 8 36 (fun (i8 : Int32) => (if i8 ≤ 0 then wGetR g7 l0 8 5 (fun (r9 : Option Nat) => wAldq g7 r9 l1 5 (fun (r10 : Option Nat) => wGetR g7 l0 8 3 (fun (r11 : Option Nat) => wAld g7 r11 l1 0 (fun (i12 : Int32) => wAld g7 r10 i12 0 (fun (i13 : Int32) => wGetR g7 l0 8 5 (fun (r14 : Option Nat) => wAldq g7 r14 l1 5 (fun (r15 : Option Nat) => wGetR g7 l0 8 3 (fun (r16 : Option Nat) => wAld g7 r16 l1 0 (fun (i17 : Int32) => wAst g7 r15 i17 0 l2 (fun g18 => post i13 g18)))))))))) else post (0 : Int32) g7)))
def w_X8_rate (X : Cx) (post : Int32 → GM → Prop) (px : String → GM → Prop) (v0 : Option Nat) (v1 : Int32) (v2 : Int32) (g : GM) : Prop :=
  wIs g v0 8 (w_X8_noDevice X (fun (i2 : Int32) (g1 : GM) => (if i2 = 0 then w_X8_in X (fun (i4 : Int32) (g3 : GM) => (if i4 = 0 then w_X8_rate_b39 X post px v0 v1 v2 (2 : Int32) v0 g3 else wGetR g3 v0 8 3 (fun (r5 : Option Nat) => wAld g3 r5 v1 0 (fun (i6 : Int32) => (if i6 = (-1 : Int32) then w_X8_rate_b39 X post px v0 v1 v2 (3 : Int32) v0 g3 else w_X8_rate_b39 X post px v0 v1 v2 (0 : Int32) v0 g3))))) px v2 (1 : Int32) (5 : Int32) g1 else post (0 : Int32) g1)) px v0 v1 g)
abbrev rm_X8_rate : Room := { frames := 3, cells := 0, slots := 0, locals := 64 }
set_option maxHeartbeats 4000000 in
set_option maxRecDepth 100000 in
theorem m_X8_rate {X : Cx} {l : Launch} (hfl : l.stackTraces = false) {post : Int32 → GM → Prop} {px : String → GM → Prop} {v0 : Option Nat} {v1 : Int32} {v2 : Int32} {g : GM} (hf : w_X8_rate X post px v0 v1 v2 g) : gMet X l yX8_rate cX8_rate 4 (some .int) rm_X8_rate [va_rf v0, .int v1, .int v2] g (qI X post) px := by
  refine gg_enter (L := [some (va_rf v0), some (.int v1), some (.int v2), none]) hfl (by decide +kernel) (by simp [lg_sl, gcat, gcI, gcL, gcF, gcD]) (by simp [gll, lv_args, gcat, gcI, gcL, gcF, gcD]) ?_
  intro p e s m args below meth c C hr ht hm
  have C : FC X p l s m args meth c cX8_rate 4 "ReleasetrainModel" := C
  have hb_39 : ∀ (l0 : Option Nat) (l1 : Int32) (l2 : Int32) (t0 : Int32) (t1 : Option Nat) (g : GM), w_X8_rate_b39 X post px  l0 l1 l2 t0 t1 g → GG X p l e rm_X8_rate s m args below meth c 4 (vx_MQ below (qI X post) (gXC X px) args s rm_X8_rate.cells rm_X8_rate.slots (gA X)) 0 0 39 [some (va_rf l0), some (.int l1), some (.int l2), none] [.int t0, va_rf t1] g := by
    intro  l0 l1 l2 t0 t1 g hf
    unfold w_X8_rate_b39 at hf
    refine gg_put C dX8_rate_39 pk_X8_110 (gNar_int _) hf (fun g7 hf => ?_)
    refine gg_aload_n C dX8_rate_42 rfl ?_
    refine gg_getI C dX8_rate_43 lk_X8_110 hf (fun i8 hf => ?_)
    refine gg_if_le (tgt := 51) C dX8_rate_46 (by decide) hf (fun hf => ?_) (fun hf => ?_)
    · refine gg_aload_n C dX8_rate_51 rfl ?_
      refine gg_getR C dX8_rate_52 lk_X8_27 hf (fun r9 hf => ?_)
      refine gg_iload_n C dX8_rate_55 rfl ?_
      refine gg_aaload (kd := 5) C dX8_rate_56 rfl rfl hf (fun r10 hf => ?_)
      refine gg_aload_n C dX8_rate_57 rfl ?_
      refine gg_getR C dX8_rate_58 lk_X8_19 hf (fun r11 hf => ?_)
      refine gg_iload_n C dX8_rate_61 rfl ?_
      refine gg_iald C dX8_rate_62 hf (fun i12 hf => ?_)
      refine gg_iald C dX8_rate_63 hf (fun i13 hf => ?_)
      refine gg_istore_n (L' := [some (va_rf l0), some (.int l1), some (.int l2), some (.int i13)]) C dX8_rate_64 (Or.inr (Or.inr ⟨_, rfl, rfl⟩)) (by decide) rfl ?_
      refine gg_aload_n C dX8_rate_65 rfl ?_
      refine gg_getR C dX8_rate_66 lk_X8_27 hf (fun r14 hf => ?_)
      refine gg_iload_n C dX8_rate_69 rfl ?_
      refine gg_aaload (kd := 5) C dX8_rate_70 rfl rfl hf (fun r15 hf => ?_)
      refine gg_aload_n C dX8_rate_71 rfl ?_
      refine gg_getR C dX8_rate_72 lk_X8_19 hf (fun r16 hf => ?_)
      refine gg_iload_n C dX8_rate_75 rfl ?_
      refine gg_iald C dX8_rate_76 hf (fun i17 hf => ?_)
      refine gg_iload_n C dX8_rate_77 rfl ?_
      refine gg_iast C dX8_rate_78 hf (fun g18 hf => ?_)
      refine gg_iload_n C dX8_rate_79 rfl ?_
      exact gg_iret C hr (by decide) (by decide) dX8_rate_80 rfl hf
    · refine gg_iconst C dX8_rate_49 (v := (0 : Int32)) (by decide) ?_
      exact gg_iret C hr (by decide) (by decide) dX8_rate_50 rfl hf
  unfold w_X8_rate at hf
  refine gg_aload_n C dX8_rate_0 rfl ?_
  refine gg_iload_n C dX8_rate_1 rfl ?_
  refine gr_I (k' := 0) (n' := 0) (gk_V (ci := 8) (As := [.int v1]) (rest := []) C dX8_rate_2 rfl rfl tw_1721 tw_1723 tw_39 tw_56 tw_1724 gd_X8_noDevice rfl ⟨by decide, by decide⟩ (by simp [gcat, gcI, gcL, gcF, gcD]) ⟨by decide, by decide⟩ hf (fun hf => m_X8_noDevice hfl hf)) rfl rfl (fun E g9 h9 => gx_out C (fun x hx => (ht x hx).elim) (by decide) (by decide) h9) (fun i2 g1 hf => ?_)
  refine gg_if_eq (tgt := 10) C dX8_rate_5 (by decide) hf (fun hf => ?_) (fun hf => ?_)
  · refine gg_aload_n C dX8_rate_10 rfl ?_
    refine gg_iload_n C dX8_rate_11 rfl ?_
    refine gg_iconst C dX8_rate_12 (v := (1 : Int32)) (by decide) ?_
    refine gg_iconst C dX8_rate_13 (v := (5 : Int32)) (by decide) ?_
    refine gr_I (k' := 0) (n' := 0) (gk_S (As := [.int v2, .int (1 : Int32), .int (5 : Int32)]) (rest := [va_rf v0]) C dX8_rate_14 tw_1580 tw_1581 tw_56 tw_1582 gd_X8_in rfl ⟨by decide, by decide⟩ (by simp [gcat, gcI, gcL, gcF, gcD]) ⟨by decide, by decide⟩ (m_X8_in hfl hf)) rfl rfl (fun E g9 h9 => gx_out C (fun x hx => (ht x hx).elim) (by decide) (by decide) h9) (fun i4 g3 hf => ?_)
    refine gg_if_ne (tgt := 24) C dX8_rate_17 (by decide) hf (fun hf => ?_) (fun hf => ?_)
    · refine gg_aload_n C dX8_rate_24 rfl ?_
      refine gg_getR C dX8_rate_25 lk_X8_19 hf (fun r5 hf => ?_)
      refine gg_iload_n C dX8_rate_28 rfl ?_
      refine gg_iald C dX8_rate_29 hf (fun i6 hf => ?_)
      refine gg_iconst C dX8_rate_30 (v := (-1 : Int32)) (by decide) ?_
      refine gg_icmp_ne (tgt := 38) C dX8_rate_31 (by decide) hf (fun hf => ?_) (fun hf => ?_)
      · refine gg_iconst C dX8_rate_38 (v := (0 : Int32)) (by decide) ?_
        exact hb_39 _ _ _ _ _ _ hf
      · refine gg_iconst C dX8_rate_34 (v := (3 : Int32)) (by decide) ?_
        refine gg_goto (tgt := 39) C dX8_rate_35 (by decide) ?_
        exact hb_39 _ _ _ _ _ _ hf
    · refine gg_iconst C dX8_rate_20 (v := (2 : Int32)) (by decide) ?_
      refine gg_goto (tgt := 39) C dX8_rate_21 (by decide) ?_
      exact hb_39 _ _ _ _ _ _ hf
  · refine gg_iconst C dX8_rate_8 (v := (0 : Int32)) (by decide) ?_
    exact gg_iret C hr (by decide) (by decide) dX8_rate_9 rfl hf

def w_X8_rating_b43 (X : Cx) (post : UInt64 → GM → Prop) (px : String → GM → Prop)  (t0 : UInt64) (g : GM) : Prop :=
  post t0 g
def w_X8_rating_b24 (X : Cx) (post : UInt64 → GM → Prop) (px : String → GM → Prop)  (l0 : Option Nat) (l1 : Int32) (t0 : Int32) (t1 : Option Nat) (g : GM) : Prop :=
  wPut g t1 8 36 (.int t0) (fun g5 => wGetI g5 l0 8 36 (fun (i6 : Int32) => (if i6 ≤ 0 then wIs g5 l0 8 (w_X8_ratingOf X (fun (z8 : UInt64) (g7 : GM) => w_X8_rating_b43 X post px z8 g7) px l0 l1 g5) else w_X8_rating_b43 X post px FP.dconst0 g5)))
def w_X8_rating (X : Cx) (post : UInt64 → GM → Prop) (px : String → GM → Prop) (v0 : Option Nat) (v1 : Int32) (g : GM) : Prop :=
  wIs g v0 8 (w_X8_noBuild X (fun (i2 : Int32) (g1 : GM) => (if i2 = 0 then wIs g1 v0 8 (w_X8_ratings X (fun (i4 : Int32) (g3 : GM) => (if i4 = 0 then w_X8_rating_b24 X post px v0 v1 (2 : Int32) v0 g3 else w_X8_rating_b24 X post px v0 v1 (0 : Int32) v0 g3)) px v0 v1 g1) else post FP.dconst0 g1)) px v0 v1 g)
abbrev rm_X8_rating : Room := { frames := 3, cells := 0, slots := 0, locals := 64 }
set_option maxHeartbeats 4000000 in
set_option maxRecDepth 100000 in
theorem m_X8_rating {X : Cx} {l : Launch} (hfl : l.stackTraces = false) {post : UInt64 → GM → Prop} {px : String → GM → Prop} {v0 : Option Nat} {v1 : Int32} {g : GM} (hf : w_X8_rating X post px v0 v1 g) : gMet X l yX8_rating cX8_rating 2 (some .double) rm_X8_rating [va_rf v0, .int v1] g (qD X post) px := by
  refine gg_enter (L := [some (va_rf v0), some (.int v1)]) hfl (by decide +kernel) (by simp [lg_sl, gcat, gcI, gcL, gcF, gcD]) (by simp [gll, lv_args, gcat, gcI, gcL, gcF, gcD]) ?_
  intro p e s m args below meth c C hr ht hm
  have C : FC X p l s m args meth c cX8_rating 2 "ReleasetrainModel" := C
  have hb_43 : ∀ (t0 : UInt64) (g : GM), w_X8_rating_b43 X post px  t0 g → GG X p l e rm_X8_rating s m args below meth c 2 (vx_MQ below (qD X post) (gXC X px) args s rm_X8_rating.cells rm_X8_rating.slots (gA X)) 0 0 43 [none, none] [.double t0] g := by
    intro  t0 g hf
    unfold w_X8_rating_b43 at hf
    exact gg_dret C hr (by decide) (by decide) dX8_rating_43 hf
  have hb_24 : ∀ (l0 : Option Nat) (l1 : Int32) (t0 : Int32) (t1 : Option Nat) (g : GM), w_X8_rating_b24 X post px  l0 l1 t0 t1 g → GG X p l e rm_X8_rating s m args below meth c 2 (vx_MQ below (qD X post) (gXC X px) args s rm_X8_rating.cells rm_X8_rating.slots (gA X)) 0 0 24 [some (va_rf l0), some (.int l1)] [.int t0, va_rf t1] g := by
    intro  l0 l1 t0 t1 g hf
    unfold w_X8_rating_b24 at hf
    refine gg_put C dX8_rating_24 pk_X8_110 (gNar_int _) hf (fun g5 hf => ?_)
    refine gg_aload_n C dX8_rating_27 rfl ?_
    refine gg_getI C dX8_rating_28 lk_X8_110 hf (fun i6 hf => ?_)
    refine gg_if_le (tgt := 38) C dX8_rating_31 (by decide) hf (fun hf => ?_) (fun hf => ?_)
    · refine gg_aload_n C dX8_rating_38 rfl ?_
      refine gg_iload_n C dX8_rating_39 rfl ?_
      refine gr_D (k' := 0) (n' := 0) (gk_V (ci := 8) (As := [.int l1]) (rest := []) C dX8_rating_40 rfl rfl tw_1679 tw_1681 tw_36 tw_56 tw_1682 gd_X8_ratingOf rfl ⟨by decide, by decide⟩ (by simp [gcat, gcI, gcL, gcF, gcD]) ⟨by decide, by decide⟩ hf (fun hf => m_X8_ratingOf hfl hf)) rfl rfl (fun E g9 h9 => gx_out C (fun x hx => (ht x hx).elim) (by decide) (by decide) h9) (fun z8 g7 hf => ?_)
      exact gg_sub (L' := [none, none]) (by first | exact trivial | simp [gsub]) (hb_43 _ _ hf)
    · refine gg_dconst0 C dX8_rating_34 ?_
      refine gg_goto (tgt := 43) C dX8_rating_35 (by decide) ?_
      exact gg_sub (L' := [none, none]) (by first | exact trivial | simp [gsub]) (hb_43 _ _ hf)
  unfold w_X8_rating at hf
  refine gg_aload_n C dX8_rating_0 rfl ?_
  refine gg_iload_n C dX8_rating_1 rfl ?_
  refine gr_I (k' := 0) (n' := 0) (gk_V (ci := 8) (As := [.int v1]) (rest := []) C dX8_rating_2 rfl rfl tw_1599 tw_1601 tw_26 tw_56 tw_1602 gd_X8_noBuild rfl ⟨by decide, by decide⟩ (by simp [gcat, gcI, gcL, gcF, gcD]) ⟨by decide, by decide⟩ hf (fun hf => m_X8_noBuild hfl hf)) rfl rfl (fun E g9 h9 => gx_out C (fun x hx => (ht x hx).elim) (by decide) (by decide) h9) (fun i2 g1 hf => ?_)
  refine gg_if_eq (tgt := 10) C dX8_rating_5 (by decide) hf (fun hf => ?_) (fun hf => ?_)
  · refine gg_aload_n C dX8_rating_10 rfl ?_
    refine gg_aload_n C dX8_rating_11 rfl ?_
    refine gg_iload_n C dX8_rating_12 rfl ?_
    refine gr_I (k' := 0) (n' := 0) (gk_V (ci := 8) (As := [.int v1]) (rest := [va_rf v0]) C dX8_rating_13 rfl rfl tw_1675 tw_1677 tw_35 tw_56 tw_1678 gd_X8_ratings rfl ⟨by decide, by decide⟩ (by simp [gcat, gcI, gcL, gcF, gcD]) ⟨by decide, by decide⟩ hf (fun hf => m_X8_ratings hfl hf)) rfl rfl (fun E g9 h9 => gx_out C (fun x hx => (ht x hx).elim) (by decide) (by decide) h9) (fun i4 g3 hf => ?_)
    refine gg_if_ne (tgt := 23) C dX8_rating_16 (by decide) hf (fun hf => ?_) (fun hf => ?_)
    · refine gg_iconst C dX8_rating_23 (v := (0 : Int32)) (by decide) ?_
      exact hb_24 _ _ _ _ _ hf
    · refine gg_iconst C dX8_rating_19 (v := (2 : Int32)) (by decide) ?_
      refine gg_goto (tgt := 24) C dX8_rating_20 (by decide) ?_
      exact hb_24 _ _ _ _ _ hf
  · refine gg_dconst0 C dX8_rating_8 ?_
    exact gg_dret C hr (by decide) (by decide) dX8_rating_9 hf

def w_Jxe99ae_isNaN_b9ae7_b11 (X : Cx) (post : Int32 → GM → Prop) (px : String → GM → Prop)  (t0 : Int32) (g : GM) : Prop :=
  (narrow .boolean (.int t0) = .int t0 ∧ post t0 g)
def w_Jxe99ae_isNaN_b9ae7 (X : Cx) (post : Int32 → GM → Prop) (px : String → GM → Prop) (v0 : UInt64) (g : GM) : Prop :=
  (if (Op.cmpValue (FP.dcmp v0 v0) .l) = 0 then w_Jxe99ae_isNaN_b9ae7_b11 X post px (0 : Int32) g else w_Jxe99ae_isNaN_b9ae7_b11 X post px (1 : Int32) g)
abbrev rm_Jxe99ae_isNaN_b9ae7 : Room := { frames := 0, cells := 0, slots := 0, locals := 0 }
set_option maxHeartbeats 4000000 in
set_option maxRecDepth 100000 in
theorem m_Jxe99ae_isNaN_b9ae7 {X : Cx} {l : Launch} (hfl : l.stackTraces = false) {post : Int32 → GM → Prop} {px : String → GM → Prop} {v0 : UInt64} {g : GM} (hf : w_Jxe99ae_isNaN_b9ae7 X post px v0 g) : gMet X l yJxe99ae_isNaN_b9ae7 cJxe99ae_isNaN_b9ae7 2 (some .boolean) rm_Jxe99ae_isNaN_b9ae7 [.double v0] g (qI X post) px := by
  refine gg_enterF (L := [some (.double v0), none]) hfl (by decide +kernel) (by simp [lg_sl, gcat, gcI, gcL, gcF, gcD]) (by simp [gll, lv_args, gcat, gcI, gcL, gcF, gcD]) ?_
  intro p e s m args below meth c C hr ht hm
  have C : FC X p l s m args meth c cJxe99ae_isNaN_b9ae7 2 "java/lang/Double" := C
  have hb_11 : ∀ (t0 : Int32) (g : GM), w_Jxe99ae_isNaN_b9ae7_b11 X post px  t0 g → GG X p l e rm_Jxe99ae_isNaN_b9ae7 s m args below meth c 2 (vx_MQ below (qI X post) (gXC X px) args s rm_Jxe99ae_isNaN_b9ae7.cells rm_Jxe99ae_isNaN_b9ae7.slots (gA X)) 0 0 11 [none, none] [.int t0] g := by
    intro  t0 g hf
    unfold w_Jxe99ae_isNaN_b9ae7_b11 at hf
    exact gg_iret C hr (by decide) (by decide) dJxe99ae_isNaN_b9ae7_11 hf.1 hf.2
  unfold w_Jxe99ae_isNaN_b9ae7 at hf
  refine gg_dload_n C dJxe99ae_isNaN_b9ae7_0 rfl ?_
  refine gg_dload_n C dJxe99ae_isNaN_b9ae7_1 rfl ?_
  refine gg_dcmp C dJxe99ae_isNaN_b9ae7_2 ?_
  refine gg_if_eq (tgt := 10) C dJxe99ae_isNaN_b9ae7_3 (by decide) hf (fun hf => ?_) (fun hf => ?_)
  · refine gg_iconst C dJxe99ae_isNaN_b9ae7_10 (v := (0 : Int32)) (by decide) ?_
    exact gg_sub (L' := [none, none]) (by first | exact trivial | simp [gsub]) (hb_11 _ _ hf)
  · refine gg_iconst C dJxe99ae_isNaN_b9ae7_6 (v := (1 : Int32)) (by decide) ?_
    refine gg_goto (tgt := 11) C dJxe99ae_isNaN_b9ae7_7 (by decide) ?_
    exact gg_sub (L' := [none, none]) (by first | exact trivial | simp [gsub]) (hb_11 _ _ hf)

def w_Jxe99ae_doubleToLongBits_ccdee (X : Cx) (post : Int64 → GM → Prop) (px : String → GM → Prop) (v0 : UInt64) (g : GM) : Prop :=
  w_Jxe99ae_isNaN_b9ae7 X (fun (i2 : Int32) (g1 : GM) => (if i2 = 0 then post ((v0).toInt64) g1 else post (9221120237041090560 : Int64) g1)) px v0 g
abbrev rm_Jxe99ae_doubleToLongBits_ccdee : Room := { frames := 1, cells := 0, slots := 0, locals := 21 }
set_option maxHeartbeats 4000000 in
set_option maxRecDepth 100000 in
theorem m_Jxe99ae_doubleToLongBits_ccdee {X : Cx} {l : Launch} (hfl : l.stackTraces = false) {post : Int64 → GM → Prop} {px : String → GM → Prop} {v0 : UInt64} {g : GM} (hf : w_Jxe99ae_doubleToLongBits_ccdee X post px v0 g) : gMet X l yJxe99ae_doubleToLongBits_ccdee cJxe99ae_doubleToLongBits_ccdee 2 (some .long) rm_Jxe99ae_doubleToLongBits_ccdee [.double v0] g (qL X post) px := by
  refine gg_enterF (L := [some (.double v0), none]) hfl (by decide +kernel) (by simp [lg_sl, gcat, gcI, gcL, gcF, gcD]) (by simp [gll, lv_args, gcat, gcI, gcL, gcF, gcD]) ?_
  intro p e s m args below meth c C hr ht hm
  have C : FC X p l s m args meth c cJxe99ae_doubleToLongBits_ccdee 2 "java/lang/Double" := C
  unfold w_Jxe99ae_doubleToLongBits_ccdee at hf
  refine gg_dload_n C dJxe99ae_doubleToLongBits_ccdee_0 rfl ?_
  refine gr_I (k' := 0) (n' := 0) (gk_S (As := [.double v0]) (rest := []) C dJxe99ae_doubleToLongBits_ccdee_1 tw_1828 tw_1829 tw_81 tw_1830 gd_Jxe99ae_isNaN_b9ae7 rfl ⟨by decide, by decide⟩ (by simp [gcat, gcI, gcL, gcF, gcD]) ⟨by decide, by decide⟩ (m_Jxe99ae_isNaN_b9ae7 hfl hf)) rfl rfl (fun E g9 h9 => gx_out C (fun x hx => (ht x hx).elim) (by decide) (by decide) h9) (fun i2 g1 hf => ?_)
  refine gg_if_ne (tgt := 12) C dJxe99ae_doubleToLongBits_ccdee_4 (by decide) hf (fun hf => ?_) (fun hf => ?_)
  · refine gg_ldc2 C dJxe99ae_doubleToLongBits_ccdee_12 (v := (9221120237041090560 : Int64)) tw_1834 ?_
    exact gg_lret C hr (by decide) (by decide) dJxe99ae_doubleToLongBits_ccdee_15 hf
  · refine gg_dload_n C dJxe99ae_doubleToLongBits_ccdee_7 rfl ?_
    refine gg_d2raw C dJxe99ae_doubleToLongBits_ccdee_8 tw_1831 tw_1833 tw_1832 tw_81 (by decide) (by simp [gcat, gcI, gcL, gcF, gcD]) ?_
    exact gg_lret C hr (by decide) (by decide) dJxe99ae_doubleToLongBits_ccdee_11 hf

def w_X8_ratingBits_b21 (X : Cx) (post : Int64 → GM → Prop) (px : String → GM → Prop)  (t0 : Int64) (g : GM) : Prop :=
  post t0 g
def w_X8_ratingBits (X : Cx) (post : Int64 → GM → Prop) (px : String → GM → Prop) (v0 : Option Nat) (v1 : Int32) (g : GM) : Prop :=
  wIs g v0 8 (w_X8_rating X (fun (z2 : UInt64) (g1 : GM) => wGetI g1 v0 8 36 (fun (i3 : Int32) => (if i3 ≤ 0 then w_Jxe99ae_doubleToLongBits_ccdee X (fun (y5 : Int64) (g4 : GM) => w_X8_ratingBits_b21 X post px y5 g4) px z2 g1 else w_X8_ratingBits_b21 X post px (0 : Int64) g1))) px v0 v1 g)
abbrev rm_X8_ratingBits : Room := { frames := 4, cells := 0, slots := 0, locals := 85 }
set_option maxHeartbeats 4000000 in
set_option maxRecDepth 100000 in
theorem m_X8_ratingBits {X : Cx} {l : Launch} (hfl : l.stackTraces = false) {post : Int64 → GM → Prop} {px : String → GM → Prop} {v0 : Option Nat} {v1 : Int32} {g : GM} (hf : w_X8_ratingBits X post px v0 v1 g) : gMet X l yX8_ratingBits cX8_ratingBits 4 (some .long) rm_X8_ratingBits [va_rf v0, .int v1] g (qL X post) px := by
  refine gg_enter (L := [some (va_rf v0), some (.int v1), none, none]) hfl (by decide +kernel) (by simp [lg_sl, gcat, gcI, gcL, gcF, gcD]) (by simp [gll, lv_args, gcat, gcI, gcL, gcF, gcD]) ?_
  intro p e s m args below meth c C hr ht hm
  have C : FC X p l s m args meth c cX8_ratingBits 4 "ReleasetrainModel" := C
  have hb_21 : ∀ (t0 : Int64) (g : GM), w_X8_ratingBits_b21 X post px  t0 g → GG X p l e rm_X8_ratingBits s m args below meth c 4 (vx_MQ below (qL X post) (gXC X px) args s rm_X8_ratingBits.cells rm_X8_ratingBits.slots (gA X)) 0 0 21 [none, none, none, none] [.long t0] g := by
    intro  t0 g hf
    unfold w_X8_ratingBits_b21 at hf
    exact gg_lret C hr (by decide) (by decide) dX8_ratingBits_21 hf
  unfold w_X8_ratingBits at hf
  refine gg_aload_n C dX8_ratingBits_0 rfl ?_
  refine gg_iload_n C dX8_ratingBits_1 rfl ?_
  refine gr_D (k' := 0) (n' := 0) (gk_V (ci := 8) (As := [.int v1]) (rest := []) C dX8_ratingBits_2 rfl rfl tw_1824 tw_1817 tw_1818 tw_56 tw_1819 gd_X8_rating rfl ⟨by decide, by decide⟩ (by simp [gcat, gcI, gcL, gcF, gcD]) ⟨by decide, by decide⟩ hf (fun hf => m_X8_rating hfl hf)) rfl rfl (fun E g9 h9 => gx_out C (fun x hx => (ht x hx).elim) (by decide) (by decide) h9) (fun z2 g1 hf => ?_)
  refine gg_dstore_n (L' := [some (va_rf v0), some (.int v1), some (.double z2), none]) C dX8_ratingBits_5 (Or.inr (Or.inr ⟨_, rfl, rfl⟩)) (by decide) rfl ?_
  refine gg_aload_n C dX8_ratingBits_6 rfl ?_
  refine gg_getI C dX8_ratingBits_7 lk_X8_110 hf (fun i3 hf => ?_)
  refine gg_if_le (tgt := 17) C dX8_ratingBits_10 (by decide) hf (fun hf => ?_) (fun hf => ?_)
  · refine gg_dload_n C dX8_ratingBits_17 rfl ?_
    refine gr_L (k' := 0) (n' := 0) (gk_S (As := [.double z2]) (rest := []) C dX8_ratingBits_18 tw_1825 tw_1826 tw_81 tw_1827 gd_Jxe99ae_doubleToLongBits_ccdee rfl ⟨by decide, by decide⟩ (by simp [gcat, gcI, gcL, gcF, gcD]) ⟨by decide, by decide⟩ (m_Jxe99ae_doubleToLongBits_ccdee hfl hf)) rfl rfl (fun E g9 h9 => gx_out C (fun x hx => (ht x hx).elim) (by decide) (by decide) h9) (fun y5 g4 hf => ?_)
    exact gg_sub (L' := [none, none, none, none]) (by first | exact trivial | simp [gsub]) (hb_21 _ _ hf)
  · refine gg_lconst C dX8_ratingBits_13 (v := (0 : Int64)) (by decide) ?_
    refine gg_goto (tgt := 21) C dX8_ratingBits_14 (by decide) ?_
    exact gg_sub (L' := [none, none, none, none]) (by first | exact trivial | simp [gsub]) (hb_21 _ _ hf)

def w_X8_sells_b33 (X : Cx) (post : Int32 → GM → Prop) (px : String → GM → Prop)  (t0 : Int32) (g : GM) : Prop :=
  (narrow .boolean (.int t0) = .int t0 ∧ post t0 g)
def w_X8_sells_b32 (X : Cx) (post : Int32 → GM → Prop) (px : String → GM → Prop)   (g : GM) : Prop :=
  w_X8_sells_b33 X post px (0 : Int32) g
def w_X8_sells (X : Cx) (post : Int32 → GM → Prop) (px : String → GM → Prop) (v0 : Option Nat) (v1 : Int32) (v2 : Int32) (g : GM) : Prop :=
  wGetR g v0 8 3 (fun (r1 : Option Nat) => wAld g r1 v1 0 (fun (i2 : Int32) => (if i2 = (-1 : Int32) then w_X8_sells_b32 X post px g else wGetR g v0 8 12 (fun (r3 : Option Nat) => wGetR g v0 8 3 (fun (r4 : Option Nat) => wAld g r4 v1 0 (fun (i5 : Int32) => wAld g r3 i5 0 (fun (i6 : Int32) => w_X8_has X (fun (i8 : Int32) (g7 : GM) => (if i8 = 0 then w_X8_sells_b32 X post px g7 else w_X8_sells_b33 X post px (1 : Int32) g7)) px i6 v2 g)))))))
abbrev rm_X8_sells : Room := { frames := 1, cells := 0, slots := 0, locals := 21 }
set_option maxHeartbeats 4000000 in
set_option maxRecDepth 100000 in
theorem m_X8_sells {X : Cx} {l : Launch} (hfl : l.stackTraces = false) {post : Int32 → GM → Prop} {px : String → GM → Prop} {v0 : Option Nat} {v1 : Int32} {v2 : Int32} {g : GM} (hf : w_X8_sells X post px v0 v1 v2 g) : gMet X l yX8_sells cX8_sells 3 (some .boolean) rm_X8_sells [va_rf v0, .int v1, .int v2] g (qI X post) px := by
  refine gg_enter (L := [some (va_rf v0), some (.int v1), some (.int v2)]) hfl (by decide +kernel) (by simp [lg_sl, gcat, gcI, gcL, gcF, gcD]) (by simp [gll, lv_args, gcat, gcI, gcL, gcF, gcD]) ?_
  intro p e s m args below meth c C hr ht hm
  have C : FC X p l s m args meth c cX8_sells 3 "ReleasetrainModel" := C
  have hb_33 : ∀ (t0 : Int32) (g : GM), w_X8_sells_b33 X post px  t0 g → GG X p l e rm_X8_sells s m args below meth c 3 (vx_MQ below (qI X post) (gXC X px) args s rm_X8_sells.cells rm_X8_sells.slots (gA X)) 0 0 33 [none, none, none] [.int t0] g := by
    intro  t0 g hf
    unfold w_X8_sells_b33 at hf
    exact gg_iret C hr (by decide) (by decide) dX8_sells_33 hf.1 hf.2
  have hb_32 : ∀  (g : GM), w_X8_sells_b32 X post px   g → GG X p l e rm_X8_sells s m args below meth c 3 (vx_MQ below (qI X post) (gXC X px) args s rm_X8_sells.cells rm_X8_sells.slots (gA X)) 0 0 32 [none, none, none] [] g := by
    intro   g hf
    unfold w_X8_sells_b32 at hf
    refine gg_iconst C dX8_sells_32 (v := (0 : Int32)) (by decide) ?_
    exact hb_33 _ _ hf
  unfold w_X8_sells at hf
  refine gg_aload_n C dX8_sells_0 rfl ?_
  refine gg_getR C dX8_sells_1 lk_X8_19 hf (fun r1 hf => ?_)
  refine gg_iload_n C dX8_sells_4 rfl ?_
  refine gg_iald C dX8_sells_5 hf (fun i2 hf => ?_)
  refine gg_iconst C dX8_sells_6 (v := (-1 : Int32)) (by decide) ?_
  refine gg_icmp_eq (tgt := 32) C dX8_sells_7 (by decide) hf (fun hf => ?_) (fun hf => ?_)
  · exact gg_sub (L' := [none, none, none]) (by first | exact trivial | simp [gsub]) (hb_32 _ hf)
  · refine gg_aload_n C dX8_sells_10 rfl ?_
    refine gg_getR C dX8_sells_11 lk_X8_45 hf (fun r3 hf => ?_)
    refine gg_aload_n C dX8_sells_14 rfl ?_
    refine gg_getR C dX8_sells_15 lk_X8_19 hf (fun r4 hf => ?_)
    refine gg_iload_n C dX8_sells_18 rfl ?_
    refine gg_iald C dX8_sells_19 hf (fun i5 hf => ?_)
    refine gg_iald C dX8_sells_20 hf (fun i6 hf => ?_)
    refine gg_iload_n C dX8_sells_21 rfl ?_
    refine gr_I (k' := 0) (n' := 0) (gk_S (As := [.int i6, .int v2]) (rest := []) C dX8_sells_22 tw_1705 tw_1706 tw_56 tw_1707 gd_X8_has rfl ⟨by decide, by decide⟩ (by simp [gcat, gcI, gcL, gcF, gcD]) ⟨by decide, by decide⟩ (m_X8_has hfl hf)) rfl rfl (fun E g9 h9 => gx_out C (fun x hx => (ht x hx).elim) (by decide) (by decide) h9) (fun i8 g7 hf => ?_)
    refine gg_if_eq (tgt := 32) C dX8_sells_25 (by decide) hf (fun hf => ?_) (fun hf => ?_)
    · exact gg_sub (L' := [none, none, none]) (by first | exact trivial | simp [gsub]) (hb_32 _ hf)
    · refine gg_iconst C dX8_sells_28 (v := (1 : Int32)) (by decide) ?_
      refine gg_goto (tgt := 33) C dX8_sells_29 (by decide) ?_
      exact gg_sub (L' := [none, none, none]) (by first | exact trivial | simp [gsub]) (hb_33 _ _ hf)
