def w_L_writeBuild (X : Cx) (post : Int32 → GM → Prop) (px : String → GM → Prop) (v0 : Option Nat) (v1 : Int32) (v2 : Option Nat) (g : GM) : Prop :=
  wIs g v0 7 (w_X7_writeBuild X (fun (i2 : Int32) (g1 : GM) => wAstJ g1 v2 (0 : Int32) ((i2).toInt64) (fun g3 => post (0 : Int32) g3)) (fun E g9 => if E = "java/util/NoSuchElementException" then post (1 : Int32) g9 else (False)) v0 v1 g)
abbrev rm_L_writeBuild : Room := { frames := 8, cells := 6, slots := 646, locals := 190 }
set_option maxHeartbeats 4000000 in
set_option maxRecDepth 100000 in
theorem m_L_writeBuild {X : Cx} {l : Launch} (hfl : l.stackTraces = false) {post : Int32 → GM → Prop} {px : String → GM → Prop} {v0 : Option Nat} {v1 : Int32} {v2 : Option Nat} {g : GM} (hf : w_L_writeBuild X post px v0 v1 v2 g) : vx_Met l yL_writeBuild (.codeWith yL_writeBuild cL_writeBuild 4 (some .int) [(0, 9, 12, 25)] :: TBL) rm_L_writeBuild (gPc X [va_rf v0, .int v1, va_rf v2] g) (qI X post) (gXC X px) rm_L_writeBuild.cells rm_L_writeBuild.slots (gA X) := by
  refine gg_enterW (hh := [(0, 9, 12, 25)]) (L := [some (va_rf v0), some (.int v1), some (va_rf v2), none]) hfl (by decide +kernel) (by simp [lg_sl, gcat, gcI, gcL, gcF, gcD]) (by simp [gll, lv_args, gcat, gcI, gcL, gcF, gcD]) ?_
  intro p e s m args below meth c C hr ht
  have C : FC X p l s m args meth c cL_writeBuild 4 "ReleasetrainLaw" := C
  unfold w_L_writeBuild at hf
  refine gg_aload_n C dL_writeBuild_0 rfl ?_
  refine gg_iconst C dL_writeBuild_1 (v := (0 : Int32)) (by decide) ?_
  refine gg_aload_n C dL_writeBuild_2 rfl ?_
  refine gg_iload_n C dL_writeBuild_3 rfl ?_
  refine gr_I (k' := 6) (n' := 646) (gk_V (ci := 7) (As := [.int v1]) (rest := [.int (0 : Int32), va_rf v2]) C dL_writeBuild_4 rfl rfl tw_1133 tw_1134 tw_1135 tw_47 tw_1136 gd_X7_writeBuild rfl ⟨by decide, by decide⟩ (by simp [gcat, gcI, gcL, gcF, gcD]) ⟨by decide, by decide⟩ hf (fun hf => m_X7_writeBuild hfl hf)) rfl rfl (fun E g9 h9 => by
    by_cases e9 : E = "java/util/NoSuchElementException"
    · subst e9
      rw [if_pos rfl] at h9
      exact gx_catch (name := "java/util/NoSuchElementException") (pre := []) (x := ⟨0, 9, 12, 25⟩) (suf := []) C ht (fun z hz => nomatch hz) (by decide) (by decide) tw_586 (by decide +kernel) (fun q9 => gg_astore_n (L' := [some (va_rf v0), some (.int v1), some (va_rf v2), some (va_rf (some q9))]) C dL_writeBuild_12 (Or.inr (Or.inr ⟨_, rfl, gcat _⟩)) (by decide) rfl (gg_iconst (v := (1 : Int32)) C dL_writeBuild_13 (by decide) (gg_iret C hr (by decide) (by decide) dL_writeBuild_14 rfl h9)))
    rw [if_neg e9] at h9
    exact h9.elim) (fun i2 g1 hf => ?_)
  refine gg_i2l C dL_writeBuild_7 ?_
  refine gg_last C dL_writeBuild_8 hf (fun g3 hf => ?_)
  refine gg_goto (tgt := 15) C dL_writeBuild_9 (by decide) ?_
  refine gg_iconst C dL_writeBuild_15 (v := (0 : Int32)) (by decide) ?_
  exact gg_iret C hr (by decide) (by decide) dL_writeBuild_16 rfl hf

def w_L_lineAt (X : Cx) (post : Int32 → GM → Prop) (px : String → GM → Prop) (v0 : Option Nat) (v1 : Int32) (v2 : Option Nat) (g : GM) : Prop :=
  wIs g v0 7 (w_X7_lineAt X (fun (i2 : Int32) (g1 : GM) => wAstJ g1 v2 (0 : Int32) ((i2).toInt64) (fun g3 => post (0 : Int32) g3)) (fun E g9 => if E = "java/lang/IndexOutOfBoundsException" then post (1 : Int32) g9 else (False)) v0 v1 g)
abbrev rm_L_lineAt : Room := { frames := 7, cells := 1, slots := 6, locals := 109 }
set_option maxHeartbeats 4000000 in
set_option maxRecDepth 100000 in
theorem m_L_lineAt {X : Cx} {l : Launch} (hfl : l.stackTraces = false) {post : Int32 → GM → Prop} {px : String → GM → Prop} {v0 : Option Nat} {v1 : Int32} {v2 : Option Nat} {g : GM} (hf : w_L_lineAt X post px v0 v1 v2 g) : vx_Met l yL_lineAt (.codeWith yL_lineAt cL_lineAt 4 (some .int) [(0, 9, 12, 109)] :: TBL) rm_L_lineAt (gPc X [va_rf v0, .int v1, va_rf v2] g) (qI X post) (gXC X px) rm_L_lineAt.cells rm_L_lineAt.slots (gA X) := by
  refine gg_enterW (hh := [(0, 9, 12, 109)]) (L := [some (va_rf v0), some (.int v1), some (va_rf v2), none]) hfl (by decide +kernel) (by simp [lg_sl, gcat, gcI, gcL, gcF, gcD]) (by simp [gll, lv_args, gcat, gcI, gcL, gcF, gcD]) ?_
  intro p e s m args below meth c C hr ht
  have C : FC X p l s m args meth c cL_lineAt 4 "ReleasetrainLaw" := C
  unfold w_L_lineAt at hf
  refine gg_aload_n C dL_lineAt_0 rfl ?_
  refine gg_iconst C dL_lineAt_1 (v := (0 : Int32)) (by decide) ?_
  refine gg_aload_n C dL_lineAt_2 rfl ?_
  refine gg_iload_n C dL_lineAt_3 rfl ?_
  refine gr_I (k' := 1) (n' := 6) (gk_V (ci := 7) (As := [.int v1]) (rest := [.int (0 : Int32), va_rf v2]) C dL_lineAt_4 rfl rfl tw_1423 tw_1424 tw_1425 tw_47 tw_1426 gd_X7_lineAt rfl ⟨by decide, by decide⟩ (by simp [gcat, gcI, gcL, gcF, gcD]) ⟨by decide, by decide⟩ hf (fun hf => m_X7_lineAt hfl hf)) rfl rfl (fun E g9 h9 => by
    by_cases e9 : E = "java/lang/IndexOutOfBoundsException"
    · subst e9
      rw [if_pos rfl] at h9
      exact gx_catch (name := "java/lang/IndexOutOfBoundsException") (pre := []) (x := ⟨0, 9, 12, 109⟩) (suf := []) C ht (fun z hz => nomatch hz) (by decide) (by decide) tw_950 (by decide +kernel) (fun q9 => gg_astore_n (L' := [some (va_rf v0), some (.int v1), some (va_rf v2), some (va_rf (some q9))]) C dL_lineAt_12 (Or.inr (Or.inr ⟨_, rfl, gcat _⟩)) (by decide) rfl (gg_iconst (v := (1 : Int32)) C dL_lineAt_13 (by decide) (gg_iret C hr (by decide) (by decide) dL_lineAt_14 rfl h9)))
    rw [if_neg e9] at h9
    exact h9.elim) (fun i2 g1 hf => ?_)
  refine gg_i2l C dL_lineAt_7 ?_
  refine gg_last C dL_lineAt_8 hf (fun g3 hf => ?_)
  refine gg_goto (tgt := 15) C dL_lineAt_9 (by decide) ?_
  refine gg_iconst C dL_lineAt_15 (v := (0 : Int32)) (by decide) ?_
  exact gg_iret C hr (by decide) (by decide) dL_lineAt_16 rfl hf

def w_L_usedShare (X : Cx) (post : Int32 → GM → Prop) (px : String → GM → Prop) (v0 : Option Nat) (v1 : Option Nat) (g : GM) : Prop :=
  wIs g v0 7 (w_X7_usedShare X (fun (x2 : UInt32) (g1 : GM) => vf_n64 (FP.f2d x2) ∧ wAstD g1 v1 (0 : Int32) (FP.f2d x2) (fun g3 => post (0 : Int32) g3)) (fun E g9 => if E = "java/lang/ArithmeticException" then post (1 : Int32) g9 else (False)) v0 g)
abbrev rm_L_usedShare : Room := { frames := 7, cells := 1, slots := 6, locals := 106 }
set_option maxHeartbeats 4000000 in
set_option maxRecDepth 100000 in
theorem m_L_usedShare {X : Cx} {l : Launch} (hfl : l.stackTraces = false) {post : Int32 → GM → Prop} {px : String → GM → Prop} {v0 : Option Nat} {v1 : Option Nat} {g : GM} (hf : w_L_usedShare X post px v0 v1 g) : vx_Met l yL_usedShare (.codeWith yL_usedShare cL_usedShare 3 (some .int) [(0, 8, 11, 138)] :: TBL) rm_L_usedShare (gPc X [va_rf v0, va_rf v1] g) (qI X post) (gXC X px) rm_L_usedShare.cells rm_L_usedShare.slots (gA X) := by
  refine gg_enterW (hh := [(0, 8, 11, 138)]) (L := [some (va_rf v0), some (va_rf v1), none]) hfl (by decide +kernel) (by simp [lg_sl, gcat, gcI, gcL, gcF, gcD]) (by simp [gll, lv_args, gcat, gcI, gcL, gcF, gcD]) ?_
  intro p e s m args below meth c C hr ht
  have C : FC X p l s m args meth c cL_usedShare 3 "ReleasetrainLaw" := C
  unfold w_L_usedShare at hf
  refine gg_aload_n C dL_usedShare_0 rfl ?_
  refine gg_iconst C dL_usedShare_1 (v := (0 : Int32)) (by decide) ?_
  refine gg_aload_n C dL_usedShare_2 rfl ?_
  refine gr_F (k' := 1) (n' := 6) (gk_V (ci := 7) (As := []) (rest := [.int (0 : Int32), va_rf v1]) C dL_usedShare_3 rfl rfl tw_1441 tw_1442 tw_1443 tw_47 tw_1444 gd_X7_usedShare rfl ⟨by decide, by decide⟩ (by simp [gcat, gcI, gcL, gcF, gcD]) ⟨by decide, by decide⟩ hf (fun hf => m_X7_usedShare hfl hf)) rfl rfl (fun E g9 h9 => by
    by_cases e9 : E = "java/lang/ArithmeticException"
    · subst e9
      rw [if_pos rfl] at h9
      exact gx_catch (name := "java/lang/ArithmeticException") (pre := []) (x := ⟨0, 8, 11, 138⟩) (suf := []) C ht (fun z hz => nomatch hz) (by decide) (by decide) tw_1060 (by decide +kernel) (fun q9 => gg_astore_n (L' := [some (va_rf v0), some (va_rf v1), some (va_rf (some q9))]) C dL_usedShare_11 (Or.inr (Or.inr ⟨_, rfl, gcat _⟩)) (by decide) rfl (gg_iconst (v := (1 : Int32)) C dL_usedShare_12 (by decide) (gg_iret C hr (by decide) (by decide) dL_usedShare_13 rfl h9)))
    rw [if_neg e9] at h9
    exact h9.elim) (fun x2 g1 hf => ?_)
  refine gg_f2d C dL_usedShare_6 hf.1 ?_
  replace hf := hf.2
  refine gg_dast C dL_usedShare_7 hf (fun g3 hf => ?_)
  refine gg_goto (tgt := 14) C dL_usedShare_8 (by decide) ?_
  refine gg_iconst C dL_usedShare_14 (v := (0 : Int32)) (by decide) ?_
  exact gg_iret C hr (by decide) (by decide) dL_usedShare_15 rfl hf
