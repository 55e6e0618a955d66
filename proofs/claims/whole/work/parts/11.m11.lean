def w_L_stage (X : Cx) (post : Int32 → GM → Prop) (px : String → GM → Prop) (v0 : Option Nat) (v1 : Int32) (v2 : Int32) (v3 : Int32) (v4 : Option Nat) (g : GM) : Prop :=
  wIs g v0 7 (w_X7_stage X (fun (i2 : Int32) (g1 : GM) => wAstJ g1 v4 (0 : Int32) ((i2).toInt64) (fun g3 => post (0 : Int32) g3)) (fun E g9 => if E = "java/util/NoSuchElementException" then post (1 : Int32) g9 else (if E = "java/lang/IllegalArgumentException" then post (2 : Int32) g9 else (if E = "java/lang/IllegalStateException" then post (3 : Int32) g9 else (if E = "java/lang/UnsupportedOperationException" then post (4 : Int32) g9 else (False))))) v0 v1 v2 v3 g)
abbrev rm_L_stage : Room := { frames := 8, cells := 2, slots := 12, locals := 128 }
set_option maxHeartbeats 4000000 in
set_option maxRecDepth 100000 in
theorem m_L_stage {X : Cx} {l : Launch} (hfl : l.stackTraces = false) {post : Int32 → GM → Prop} {px : String → GM → Prop} {v0 : Option Nat} {v1 : Int32} {v2 : Int32} {v3 : Int32} {v4 : Option Nat} {g : GM} (hf : w_L_stage X post px v0 v1 v2 v3 v4 g) : vx_Met l yL_stage (.codeWith yL_stage cL_stage 6 (some .int) [(0, 12, 15, 25), (0, 12, 19, 13), (0, 12, 23, 15), (0, 12, 27, 55)] :: TBL) rm_L_stage (gPc X [va_rf v0, .int v1, .int v2, .int v3, va_rf v4] g) (qI X post) (gXC X px) rm_L_stage.cells rm_L_stage.slots (gA X) := by
  refine gg_enterW (hh := [(0, 12, 15, 25), (0, 12, 19, 13), (0, 12, 23, 15), (0, 12, 27, 55)]) (L := [some (va_rf v0), some (.int v1), some (.int v2), some (.int v3), some (va_rf v4), none]) hfl (by decide +kernel) (by simp [lg_sl, gcat, gcI, gcL, gcF, gcD]) (by simp [gll, lv_args, gcat, gcI, gcL, gcF, gcD]) ?_
  intro p e s m args below meth c C hr ht
  have C : FC X p l s m args meth c cL_stage 6 "ReleasetrainLaw" := C
  unfold w_L_stage at hf
  refine gg_aload C dL_stage_0 rfl ?_
  refine gg_iconst C dL_stage_2 (v := (0 : Int32)) (by decide) ?_
  refine gg_aload_n C dL_stage_3 rfl ?_
  refine gg_iload_n C dL_stage_4 rfl ?_
  refine gg_iload_n C dL_stage_5 rfl ?_
  refine gg_iload_n C dL_stage_6 rfl ?_
  refine gr_I (k' := 2) (n' := 12) (gk_V (ci := 7) (As := [.int v1, .int v2, .int v3]) (rest := [.int (0 : Int32), va_rf v4]) C dL_stage_7 rfl rfl tw_693 tw_694 tw_695 tw_47 tw_696 gd_X7_stage rfl ⟨by decide, by decide⟩ (by simp [gcat, gcI, gcL, gcF, gcD]) ⟨by decide, by decide⟩ hf (fun hf => m_X7_stage hfl hf)) rfl rfl (fun E g9 h9 => by
    by_cases e9 : E = "java/util/NoSuchElementException"
    · subst e9
      rw [if_pos rfl] at h9
      exact gx_catch (name := "java/util/NoSuchElementException") (pre := []) (x := ⟨0, 12, 15, 25⟩) (suf := [⟨0, 12, 19, 13⟩, ⟨0, 12, 23, 15⟩, ⟨0, 12, 27, 55⟩]) C ht (fun z hz => nomatch hz) (by decide) (by decide) tw_586 (by decide +kernel) (fun q9 => gg_astore (L' := [some (va_rf v0), some (.int v1), some (.int v2), some (.int v3), some (va_rf v4), some (va_rf (some q9))]) C dL_stage_15 (Or.inr (Or.inr ⟨_, rfl, gcat _⟩)) (by decide) rfl (gg_iconst (v := (1 : Int32)) C dL_stage_17 (by decide) (gg_iret C hr (by decide) (by decide) dL_stage_18 rfl h9)))
    rw [if_neg e9] at h9
    by_cases e9 : E = "java/lang/IllegalArgumentException"
    · subst e9
      rw [if_pos rfl] at h9
      exact gx_catch (name := "java/lang/IllegalArgumentException") (pre := [⟨0, 12, 15, 25⟩]) (x := ⟨0, 12, 19, 13⟩) (suf := [⟨0, 12, 23, 15⟩, ⟨0, 12, 27, 55⟩]) C ht (by intro z hz; simp only [List.mem_cons, List.not_mem_nil, or_false] at hz; rcases hz with rfl <;> first | exact Or.inr ⟨by decide, "java/util/NoSuchElementException", tw_586, by decide +kernel⟩) (by decide) (by decide) tw_224 (by decide +kernel) (fun q9 => gg_astore (L' := [some (va_rf v0), some (.int v1), some (.int v2), some (.int v3), some (va_rf v4), some (va_rf (some q9))]) C dL_stage_19 (Or.inr (Or.inr ⟨_, rfl, gcat _⟩)) (by decide) rfl (gg_iconst (v := (2 : Int32)) C dL_stage_21 (by decide) (gg_iret C hr (by decide) (by decide) dL_stage_22 rfl h9)))
    rw [if_neg e9] at h9
    by_cases e9 : E = "java/lang/IllegalStateException"
    · subst e9
      rw [if_pos rfl] at h9
      exact gx_catch (name := "java/lang/IllegalStateException") (pre := [⟨0, 12, 15, 25⟩, ⟨0, 12, 19, 13⟩]) (x := ⟨0, 12, 23, 15⟩) (suf := [⟨0, 12, 27, 55⟩]) C ht (by intro z hz; simp only [List.mem_cons, List.not_mem_nil, or_false] at hz; rcases hz with rfl | rfl <;> first | exact Or.inr ⟨by decide, "java/util/NoSuchElementException", tw_586, by decide +kernel⟩ | exact Or.inr ⟨by decide, "java/lang/IllegalArgumentException", tw_224, by decide +kernel⟩) (by decide) (by decide) tw_225 (by decide +kernel) (fun q9 => gg_astore (L' := [some (va_rf v0), some (.int v1), some (.int v2), some (.int v3), some (va_rf v4), some (va_rf (some q9))]) C dL_stage_23 (Or.inr (Or.inr ⟨_, rfl, gcat _⟩)) (by decide) rfl (gg_iconst (v := (3 : Int32)) C dL_stage_25 (by decide) (gg_iret C hr (by decide) (by decide) dL_stage_26 rfl h9)))
    rw [if_neg e9] at h9
    by_cases e9 : E = "java/lang/UnsupportedOperationException"
    · subst e9
      rw [if_pos rfl] at h9
      exact gx_catch (name := "java/lang/UnsupportedOperationException") (pre := [⟨0, 12, 15, 25⟩, ⟨0, 12, 19, 13⟩, ⟨0, 12, 23, 15⟩]) (x := ⟨0, 12, 27, 55⟩) (suf := []) C ht (by intro z hz; simp only [List.mem_cons, List.not_mem_nil, or_false] at hz; rcases hz with rfl | rfl | rfl <;> first | exact Or.inr ⟨by decide, "java/util/NoSuchElementException", tw_586, by decide +kernel⟩ | exact Or.inr ⟨by decide, "java/lang/IllegalArgumentException", tw_224, by decide +kernel⟩ | exact Or.inr ⟨by decide, "java/lang/IllegalStateException", tw_225, by decide +kernel⟩) (by decide) (by decide) tw_692 (by decide +kernel) (fun q9 => gg_astore (L' := [some (va_rf v0), some (.int v1), some (.int v2), some (.int v3), some (va_rf v4), some (va_rf (some q9))]) C dL_stage_27 (Or.inr (Or.inr ⟨_, rfl, gcat _⟩)) (by decide) rfl (gg_iconst (v := (4 : Int32)) C dL_stage_29 (by decide) (gg_iret C hr (by decide) (by decide) dL_stage_30 rfl h9)))
    rw [if_neg e9] at h9
    exact h9.elim) (fun i2 g1 hf => ?_)
  refine gg_i2l C dL_stage_10 ?_
  refine gg_last C dL_stage_11 hf (fun g3 hf => ?_)
  refine gg_goto (tgt := 31) C dL_stage_12 (by decide) ?_
  refine gg_iconst C dL_stage_31 (v := (0 : Int32)) (by decide) ?_
  exact gg_iret C hr (by decide) (by decide) dL_stage_32 rfl hf

def w_L_percentageOf (X : Cx) (post : Int32 → GM → Prop) (px : String → GM → Prop) (v0 : Option Nat) (v1 : Int32) (v2 : Option Nat) (g : GM) : Prop :=
  wIs g v0 7 (w_X7_percentageOf X (fun (i2 : Int32) (g1 : GM) => wAstJ g1 v2 (0 : Int32) ((i2).toInt64) (fun g3 => post (0 : Int32) g3)) (fun E g9 => if E = "java/util/NoSuchElementException" then post (1 : Int32) g9 else (False)) v0 v1 g)
abbrev rm_L_percentageOf : Room := { frames := 8, cells := 1, slots := 6, locals := 124 }
set_option maxHeartbeats 4000000 in
set_option maxRecDepth 100000 in
theorem m_L_percentageOf {X : Cx} {l : Launch} (hfl : l.stackTraces = false) {post : Int32 → GM → Prop} {px : String → GM → Prop} {v0 : Option Nat} {v1 : Int32} {v2 : Option Nat} {g : GM} (hf : w_L_percentageOf X post px v0 v1 v2 g) : vx_Met l yL_percentageOf (.codeWith yL_percentageOf cL_percentageOf 4 (some .int) [(0, 9, 12, 25)] :: TBL) rm_L_percentageOf (gPc X [va_rf v0, .int v1, va_rf v2] g) (qI X post) (gXC X px) rm_L_percentageOf.cells rm_L_percentageOf.slots (gA X) := by
  refine gg_enterW (hh := [(0, 9, 12, 25)]) (L := [some (va_rf v0), some (.int v1), some (va_rf v2), none]) hfl (by decide +kernel) (by simp [lg_sl, gcat, gcI, gcL, gcF, gcD]) (by simp [gll, lv_args, gcat, gcI, gcL, gcF, gcD]) ?_
  intro p e s m args below meth c C hr ht
  have C : FC X p l s m args meth c cL_percentageOf 4 "ReleasetrainLaw" := C
  unfold w_L_percentageOf at hf
  refine gg_aload_n C dL_percentageOf_0 rfl ?_
  refine gg_iconst C dL_percentageOf_1 (v := (0 : Int32)) (by decide) ?_
  refine gg_aload_n C dL_percentageOf_2 rfl ?_
  refine gg_iload_n C dL_percentageOf_3 rfl ?_
  refine gr_I (k' := 1) (n' := 6) (gk_V (ci := 7) (As := [.int v1]) (rest := [.int (0 : Int32), va_rf v2]) C dL_percentageOf_4 rfl rfl tw_717 tw_718 tw_719 tw_47 tw_720 gd_X7_percentageOf rfl ⟨by decide, by decide⟩ (by simp [gcat, gcI, gcL, gcF, gcD]) ⟨by decide, by decide⟩ hf (fun hf => m_X7_percentageOf hfl hf)) rfl rfl (fun E g9 h9 => by
    by_cases e9 : E = "java/util/NoSuchElementException"
    · subst e9
      rw [if_pos rfl] at h9
      exact gx_catch (name := "java/util/NoSuchElementException") (pre := []) (x := ⟨0, 9, 12, 25⟩) (suf := []) C ht (fun z hz => nomatch hz) (by decide) (by decide) tw_586 (by decide +kernel) (fun q9 => gg_astore_n (L' := [some (va_rf v0), some (.int v1), some (va_rf v2), some (va_rf (some q9))]) C dL_percentageOf_12 (Or.inr (Or.inr ⟨_, rfl, gcat _⟩)) (by decide) rfl (gg_iconst (v := (1 : Int32)) C dL_percentageOf_13 (by decide) (gg_iret C hr (by decide) (by decide) dL_percentageOf_14 rfl h9)))
    rw [if_neg e9] at h9
    exact h9.elim) (fun i2 g1 hf => ?_)
  refine gg_i2l C dL_percentageOf_7 ?_
  refine gg_last C dL_percentageOf_8 hf (fun g3 hf => ?_)
  refine gg_goto (tgt := 15) C dL_percentageOf_9 (by decide) ?_
  refine gg_iconst C dL_percentageOf_15 (v := (0 : Int32)) (by decide) ?_
  exact gg_iret C hr (by decide) (by decide) dL_percentageOf_16 rfl hf

def w_L_percentageAfter (X : Cx) (post : Int32 → GM → Prop) (px : String → GM → Prop) (v0 : Option Nat) (v1 : Int32) (v2 : Int32) (v3 : Option Nat) (g : GM) : Prop :=
  wIs g v0 7 (w_X7_percentageAfter X (fun (i2 : Int32) (g1 : GM) => wAstJ g1 v3 (0 : Int32) ((i2).toInt64) (fun g3 => post (0 : Int32) g3)) (fun E g9 => if E = "java/util/NoSuchElementException" then post (1 : Int32) g9 else (if E = "java/lang/IllegalArgumentException" then post (2 : Int32) g9 else (False))) v0 v1 v2 g)
abbrev rm_L_percentageAfter : Room := { frames := 8, cells := 2, slots := 12, locals := 126 }
set_option maxHeartbeats 4000000 in
set_option maxRecDepth 100000 in
theorem m_L_percentageAfter {X : Cx} {l : Launch} (hfl : l.stackTraces = false) {post : Int32 → GM → Prop} {px : String → GM → Prop} {v0 : Option Nat} {v1 : Int32} {v2 : Int32} {v3 : Option Nat} {g : GM} (hf : w_L_percentageAfter X post px v0 v1 v2 v3 g) : vx_Met l yL_percentageAfter (.codeWith yL_percentageAfter cL_percentageAfter 5 (some .int) [(0, 10, 13, 25), (0, 10, 17, 13)] :: TBL) rm_L_percentageAfter (gPc X [va_rf v0, .int v1, .int v2, va_rf v3] g) (qI X post) (gXC X px) rm_L_percentageAfter.cells rm_L_percentageAfter.slots (gA X) := by
  refine gg_enterW (hh := [(0, 10, 13, 25), (0, 10, 17, 13)]) (L := [some (va_rf v0), some (.int v1), some (.int v2), some (va_rf v3), none]) hfl (by decide +kernel) (by simp [lg_sl, gcat, gcI, gcL, gcF, gcD]) (by simp [gll, lv_args, gcat, gcI, gcL, gcF, gcD]) ?_
  intro p e s m args below meth c C hr ht
  have C : FC X p l s m args meth c cL_percentageAfter 5 "ReleasetrainLaw" := C
  unfold w_L_percentageAfter at hf
  refine gg_aload_n C dL_percentageAfter_0 rfl ?_
  refine gg_iconst C dL_percentageAfter_1 (v := (0 : Int32)) (by decide) ?_
  refine gg_aload_n C dL_percentageAfter_2 rfl ?_
  refine gg_iload_n C dL_percentageAfter_3 rfl ?_
  refine gg_iload_n C dL_percentageAfter_4 rfl ?_
  refine gr_I (k' := 2) (n' := 12) (gk_V (ci := 7) (As := [.int v1, .int v2]) (rest := [.int (0 : Int32), va_rf v3]) C dL_percentageAfter_5 rfl rfl tw_724 tw_725 tw_726 tw_47 tw_727 gd_X7_percentageAfter rfl ⟨by decide, by decide⟩ (by simp [gcat, gcI, gcL, gcF, gcD]) ⟨by decide, by decide⟩ hf (fun hf => m_X7_percentageAfter hfl hf)) rfl rfl (fun E g9 h9 => by
    by_cases e9 : E = "java/util/NoSuchElementException"
    · subst e9
      rw [if_pos rfl] at h9
      exact gx_catch (name := "java/util/NoSuchElementException") (pre := []) (x := ⟨0, 10, 13, 25⟩) (suf := [⟨0, 10, 17, 13⟩]) C ht (fun z hz => nomatch hz) (by decide) (by decide) tw_586 (by decide +kernel) (fun q9 => gg_astore (L' := [some (va_rf v0), some (.int v1), some (.int v2), some (va_rf v3), some (va_rf (some q9))]) C dL_percentageAfter_13 (Or.inr (Or.inr ⟨_, rfl, gcat _⟩)) (by decide) rfl (gg_iconst (v := (1 : Int32)) C dL_percentageAfter_15 (by decide) (gg_iret C hr (by decide) (by decide) dL_percentageAfter_16 rfl h9)))
    rw [if_neg e9] at h9
    by_cases e9 : E = "java/lang/IllegalArgumentException"
    · subst e9
      rw [if_pos rfl] at h9
      exact gx_catch (name := "java/lang/IllegalArgumentException") (pre := [⟨0, 10, 13, 25⟩]) (x := ⟨0, 10, 17, 13⟩) (suf := []) C ht (by intro z hz; simp only [List.mem_cons, List.not_mem_nil, or_false] at hz; rcases hz with rfl <;> first | exact Or.inr ⟨by decide, "java/util/NoSuchElementException", tw_586, by decide +kernel⟩) (by decide) (by decide) tw_224 (by decide +kernel) (fun q9 => gg_astore (L' := [some (va_rf v0), some (.int v1), some (.int v2), some (va_rf v3), some (va_rf (some q9))]) C dL_percentageAfter_17 (Or.inr (Or.inr ⟨_, rfl, gcat _⟩)) (by decide) rfl (gg_iconst (v := (2 : Int32)) C dL_percentageAfter_19 (by decide) (gg_iret C hr (by decide) (by decide) dL_percentageAfter_20 rfl h9)))
    rw [if_neg e9] at h9
    exact h9.elim) (fun i2 g1 hf => ?_)
  refine gg_i2l C dL_percentageAfter_8 ?_
  refine gg_last C dL_percentageAfter_9 hf (fun g3 hf => ?_)
  refine gg_goto (tgt := 21) C dL_percentageAfter_10 (by decide) ?_
  refine gg_iconst C dL_percentageAfter_21 (v := (0 : Int32)) (by decide) ?_
  exact gg_iret C hr (by decide) (by decide) dL_percentageAfter_22 rfl hf

def w_L_pass (X : Cx) (post : Int32 → GM → Prop) (px : String → GM → Prop) (v0 : Option Nat) (v1 : Int32) (v2 : Option Nat) (g : GM) : Prop :=
  wIs g v0 7 (w_X7_pass X (fun (i2 : Int32) (g1 : GM) => wAstJ g1 v2 (0 : Int32) ((i2).toInt64) (fun g3 => post (0 : Int32) g3)) (fun E g9 => if E = "java/lang/IllegalArgumentException" then post (1 : Int32) g9 else (if E = "java/lang/IllegalStateException" then post (2 : Int32) g9 else (False))) v0 v1 g)
abbrev rm_L_pass : Room := { frames := 7, cells := 1, slots := 6, locals := 108 }
set_option maxHeartbeats 4000000 in
set_option maxRecDepth 100000 in
theorem m_L_pass {X : Cx} {l : Launch} (hfl : l.stackTraces = false) {post : Int32 → GM → Prop} {px : String → GM → Prop} {v0 : Option Nat} {v1 : Int32} {v2 : Option Nat} {g : GM} (hf : w_L_pass X post px v0 v1 v2 g) : vx_Met l yL_pass (.codeWith yL_pass cL_pass 4 (some .int) [(0, 9, 12, 13), (0, 9, 15, 15)] :: TBL) rm_L_pass (gPc X [va_rf v0, .int v1, va_rf v2] g) (qI X post) (gXC X px) rm_L_pass.cells rm_L_pass.slots (gA X) := by
  refine gg_enterW (hh := [(0, 9, 12, 13), (0, 9, 15, 15)]) (L := [some (va_rf v0), some (.int v1), some (va_rf v2), none]) hfl (by decide +kernel) (by simp [lg_sl, gcat, gcI, gcL, gcF, gcD]) (by simp [gll, lv_args, gcat, gcI, gcL, gcF, gcD]) ?_
  intro p e s m args below meth c C hr ht
  have C : FC X p l s m args meth c cL_pass 4 "ReleasetrainLaw" := C
  unfold w_L_pass at hf
  refine gg_aload_n C dL_pass_0 rfl ?_
  refine gg_iconst C dL_pass_1 (v := (0 : Int32)) (by decide) ?_
  refine gg_aload_n C dL_pass_2 rfl ?_
  refine gg_iload_n C dL_pass_3 rfl ?_
  refine gr_I (k' := 1) (n' := 6) (gk_V (ci := 7) (As := [.int v1]) (rest := [.int (0 : Int32), va_rf v2]) C dL_pass_4 rfl rfl tw_753 tw_754 tw_755 tw_47 tw_756 gd_X7_pass rfl ⟨by decide, by decide⟩ (by simp [gcat, gcI, gcL, gcF, gcD]) ⟨by decide, by decide⟩ hf (fun hf => m_X7_pass hfl hf)) rfl rfl (fun E g9 h9 => by
    by_cases e9 : E = "java/lang/IllegalArgumentException"
    · subst e9
      rw [if_pos rfl] at h9
      exact gx_catch (name := "java/lang/IllegalArgumentException") (pre := []) (x := ⟨0, 9, 12, 13⟩) (suf := [⟨0, 9, 15, 15⟩]) C ht (fun z hz => nomatch hz) (by decide) (by decide) tw_224 (by decide +kernel) (fun q9 => gg_astore_n (L' := [some (va_rf v0), some (.int v1), some (va_rf v2), some (va_rf (some q9))]) C dL_pass_12 (Or.inr (Or.inr ⟨_, rfl, gcat _⟩)) (by decide) rfl (gg_iconst (v := (1 : Int32)) C dL_pass_13 (by decide) (gg_iret C hr (by decide) (by decide) dL_pass_14 rfl h9)))
    rw [if_neg e9] at h9
    by_cases e9 : E = "java/lang/IllegalStateException"
    · subst e9
      rw [if_pos rfl] at h9
      exact gx_catch (name := "java/lang/IllegalStateException") (pre := [⟨0, 9, 12, 13⟩]) (x := ⟨0, 9, 15, 15⟩) (suf := []) C ht (by intro z hz; simp only [List.mem_cons, List.not_mem_nil, or_false] at hz; rcases hz with rfl <;> first | exact Or.inr ⟨by decide, "java/lang/IllegalArgumentException", tw_224, by decide +kernel⟩) (by decide) (by decide) tw_225 (by decide +kernel) (fun q9 => gg_astore_n (L' := [some (va_rf v0), some (.int v1), some (va_rf v2), some (va_rf (some q9))]) C dL_pass_15 (Or.inr (Or.inr ⟨_, rfl, gcat _⟩)) (by decide) rfl (gg_iconst (v := (2 : Int32)) C dL_pass_16 (by decide) (gg_iret C hr (by decide) (by decide) dL_pass_17 rfl h9)))
    rw [if_neg e9] at h9
    exact h9.elim) (fun i2 g1 hf => ?_)
  refine gg_i2l C dL_pass_7 ?_
  refine gg_last C dL_pass_8 hf (fun g3 hf => ?_)
  refine gg_goto (tgt := 18) C dL_pass_9 (by decide) ?_
  refine gg_iconst C dL_pass_18 (v := (0 : Int32)) (by decide) ?_
  exact gg_iret C hr (by decide) (by decide) dL_pass_19 rfl hf

def w_L_holdOf (X : Cx) (post : Int32 → GM → Prop) (px : String → GM → Prop) (v0 : Option Nat) (v1 : Int32) (v2 : Option Nat) (g : GM) : Prop :=
  wIs g v0 7 (w_X7_holdOf X (fun (i2 : Int32) (g1 : GM) => wAstJ g1 v2 (0 : Int32) ((i2).toInt64) (fun g3 => post (0 : Int32) g3)) (fun E g9 => if E = "java/util/NoSuchElementException" then post (1 : Int32) g9 else (if E = "java/lang/IllegalStateException" then post (2 : Int32) g9 else (False))) v0 v1 g)
abbrev rm_L_holdOf : Room := { frames := 8, cells := 2, slots := 12, locals := 125 }
set_option maxHeartbeats 4000000 in
set_option maxRecDepth 100000 in
theorem m_L_holdOf {X : Cx} {l : Launch} (hfl : l.stackTraces = false) {post : Int32 → GM → Prop} {px : String → GM → Prop} {v0 : Option Nat} {v1 : Int32} {v2 : Option Nat} {g : GM} (hf : w_L_holdOf X post px v0 v1 v2 g) : vx_Met l yL_holdOf (.codeWith yL_holdOf cL_holdOf 4 (some .int) [(0, 9, 12, 25), (0, 9, 15, 15)] :: TBL) rm_L_holdOf (gPc X [va_rf v0, .int v1, va_rf v2] g) (qI X post) (gXC X px) rm_L_holdOf.cells rm_L_holdOf.slots (gA X) := by
  refine gg_enterW (hh := [(0, 9, 12, 25), (0, 9, 15, 15)]) (L := [some (va_rf v0), some (.int v1), some (va_rf v2), none]) hfl (by decide +kernel) (by simp [lg_sl, gcat, gcI, gcL, gcF, gcD]) (by simp [gll, lv_args, gcat, gcI, gcL, gcF, gcD]) ?_
  intro p e s m args below meth c C hr ht
  have C : FC X p l s m args meth c cL_holdOf 4 "ReleasetrainLaw" := C
  unfold w_L_holdOf at hf
  refine gg_aload_n C dL_holdOf_0 rfl ?_
  refine gg_iconst C dL_holdOf_1 (v := (0 : Int32)) (by decide) ?_
  refine gg_aload_n C dL_holdOf_2 rfl ?_
  refine gg_iload_n C dL_holdOf_3 rfl ?_
  refine gr_I (k' := 2) (n' := 12) (gk_V (ci := 7) (As := [.int v1]) (rest := [.int (0 : Int32), va_rf v2]) C dL_holdOf_4 rfl rfl tw_761 tw_762 tw_763 tw_47 tw_764 gd_X7_holdOf rfl ⟨by decide, by decide⟩ (by simp [gcat, gcI, gcL, gcF, gcD]) ⟨by decide, by decide⟩ hf (fun hf => m_X7_holdOf hfl hf)) rfl rfl (fun E g9 h9 => by
    by_cases e9 : E = "java/util/NoSuchElementException"
    · subst e9
      rw [if_pos rfl] at h9
      exact gx_catch (name := "java/util/NoSuchElementException") (pre := []) (x := ⟨0, 9, 12, 25⟩) (suf := [⟨0, 9, 15, 15⟩]) C ht (fun z hz => nomatch hz) (by decide) (by decide) tw_586 (by decide +kernel) (fun q9 => gg_astore_n (L' := [some (va_rf v0), some (.int v1), some (va_rf v2), some (va_rf (some q9))]) C dL_holdOf_12 (Or.inr (Or.inr ⟨_, rfl, gcat _⟩)) (by decide) rfl (gg_iconst (v := (1 : Int32)) C dL_holdOf_13 (by decide) (gg_iret C hr (by decide) (by decide) dL_holdOf_14 rfl h9)))
    rw [if_neg e9] at h9
    by_cases e9 : E = "java/lang/IllegalStateException"
    · subst e9
      rw [if_pos rfl] at h9
      exact gx_catch (name := "java/lang/IllegalStateException") (pre := [⟨0, 9, 12, 25⟩]) (x := ⟨0, 9, 15, 15⟩) (suf := []) C ht (by intro z hz; simp only [List.mem_cons, List.not_mem_nil, or_false] at hz; rcases hz with rfl <;> first | exact Or.inr ⟨by decide, "java/util/NoSuchElementException", tw_586, by decide +kernel⟩) (by decide) (by decide) tw_225 (by decide +kernel) (fun q9 => gg_astore_n (L' := [some (va_rf v0), some (.int v1), some (va_rf v2), some (va_rf (some q9))]) C dL_holdOf_15 (Or.inr (Or.inr ⟨_, rfl, gcat _⟩)) (by decide) rfl (gg_iconst (v := (2 : Int32)) C dL_holdOf_16 (by decide) (gg_iret C hr (by decide) (by decide) dL_holdOf_17 rfl h9)))
    rw [if_neg e9] at h9
    exact h9.elim) (fun i2 g1 hf => ?_)
  refine gg_i2l C dL_holdOf_7 ?_
  refine gg_last C dL_holdOf_8 hf (fun g3 hf => ?_)
  refine gg_goto (tgt := 18) C dL_holdOf_9 (by decide) ?_
  refine gg_iconst C dL_holdOf_18 (v := (0 : Int32)) (by decide) ?_
  exact gg_iret C hr (by decide) (by decide) dL_holdOf_19 rfl hf

def w_L_couldHave_b16 (X : Cx) (post : Int32 → GM → Prop) (px : String → GM → Prop)  (t0 : Int64) (t1 : Int32) (t2 : Option Nat) (g : GM) : Prop :=
  wAstJ g t2 t1 t0 (fun g3 => post (0 : Int32) g3)
def w_L_couldHave (X : Cx) (post : Int32 → GM → Prop) (px : String → GM → Prop) (v0 : Option Nat) (v1 : Int32) (v2 : Int32) (v3 : Option Nat) (g : GM) : Prop :=
  wIs g v0 7 (w_X7_couldHave X (fun (i2 : Int32) (g1 : GM) => (if i2 = 0 then w_L_couldHave_b16 X post px (0 : Int64) (0 : Int32) v3 g1 else w_L_couldHave_b16 X post px (1 : Int64) (0 : Int32) v3 g1)) (fun E g9 => if E = "java/util/NoSuchElementException" then post (1 : Int32) g9 else (False)) v0 v1 v2 g)
abbrev rm_L_couldHave : Room := { frames := 8, cells := 2, slots := 12, locals := 126 }
set_option maxHeartbeats 4000000 in
set_option maxRecDepth 100000 in
theorem m_L_couldHave {X : Cx} {l : Launch} (hfl : l.stackTraces = false) {post : Int32 → GM → Prop} {px : String → GM → Prop} {v0 : Option Nat} {v1 : Int32} {v2 : Int32} {v3 : Option Nat} {g : GM} (hf : w_L_couldHave X post px v0 v1 v2 v3 g) : vx_Met l yL_couldHave (.codeWith yL_couldHave cL_couldHave 5 (some .int) [(0, 17, 20, 25)] :: TBL) rm_L_couldHave (gPc X [va_rf v0, .int v1, .int v2, va_rf v3] g) (qI X post) (gXC X px) rm_L_couldHave.cells rm_L_couldHave.slots (gA X) := by
  refine gg_enterW (hh := [(0, 17, 20, 25)]) (L := [some (va_rf v0), some (.int v1), some (.int v2), some (va_rf v3), none]) hfl (by decide +kernel) (by simp [lg_sl, gcat, gcI, gcL, gcF, gcD]) (by simp [gll, lv_args, gcat, gcI, gcL, gcF, gcD]) ?_
  intro p e s m args below meth c C hr ht
  have C : FC X p l s m args meth c cL_couldHave 5 "ReleasetrainLaw" := C
  have hb_16 : ∀ (t0 : Int64) (t1 : Int32) (t2 : Option Nat) (g : GM), w_L_couldHave_b16 X post px  t0 t1 t2 g → GG X p l e rm_L_couldHave s m args below meth c 5 (vx_MQ below (qI X post) (gXC X px) args s rm_L_couldHave.cells rm_L_couldHave.slots (gA X)) 2 12 16 [none, none, none, none, none] [.long t0, .int t1, va_rf t2] g := by
    intro  t0 t1 t2 g hf
    unfold w_L_couldHave_b16 at hf
    refine gg_last C dL_couldHave_16 hf (fun g3 hf => ?_)
    refine gg_goto (tgt := 24) C dL_couldHave_17 (by decide) ?_
    refine gg_iconst C dL_couldHave_24 (v := (0 : Int32)) (by decide) ?_
    exact gg_iret C hr (by decide) (by decide) dL_couldHave_25 rfl hf
  unfold w_L_couldHave at hf
  refine gg_aload_n C dL_couldHave_0 rfl ?_
  refine gg_iconst C dL_couldHave_1 (v := (0 : Int32)) (by decide) ?_
  refine gg_aload_n C dL_couldHave_2 rfl ?_
  refine gg_iload_n C dL_couldHave_3 rfl ?_
  refine gg_iload_n C dL_couldHave_4 rfl ?_
  refine gr_I (k' := 2) (n' := 12) (gk_V (ci := 7) (As := [.int v1, .int v2]) (rest := [.int (0 : Int32), va_rf v3]) C dL_couldHave_5 rfl rfl tw_768 tw_769 tw_770 tw_47 tw_771 gd_X7_couldHave rfl ⟨by decide, by decide⟩ (by simp [gcat, gcI, gcL, gcF, gcD]) ⟨by decide, by decide⟩ hf (fun hf => m_X7_couldHave hfl hf)) rfl rfl (fun E g9 h9 => by
    by_cases e9 : E = "java/util/NoSuchElementException"
    · subst e9
      rw [if_pos rfl] at h9
      exact gx_catch (name := "java/util/NoSuchElementException") (pre := []) (x := ⟨0, 17, 20, 25⟩) (suf := []) C ht (fun z hz => nomatch hz) (by decide) (by decide) tw_586 (by decide +kernel) (fun q9 => gg_astore (L' := [some (va_rf v0), some (.int v1), some (.int v2), some (va_rf v3), some (va_rf (some q9))]) C dL_couldHave_20 (Or.inr (Or.inr ⟨_, rfl, gcat _⟩)) (by decide) rfl (gg_iconst (v := (1 : Int32)) C dL_couldHave_22 (by decide) (gg_iret C hr (by decide) (by decide) dL_couldHave_23 rfl h9)))
    rw [if_neg e9] at h9
    exact h9.elim) (fun i2 g1 hf => ?_)
  refine gg_if_eq (tgt := 15) C dL_couldHave_8 (by decide) hf (fun hf => ?_) (fun hf => ?_)
  · refine gg_lconst C dL_couldHave_15 (v := (0 : Int64)) (by decide) ?_
    exact gg_sub (L' := [none, none, none, none, none]) (by first | exact trivial | simp [gsub]) (hb_16 _ _ _ _ hf)
  · refine gg_lconst C dL_couldHave_11 (v := (1 : Int64)) (by decide) ?_
    refine gg_goto (tgt := 16) C dL_couldHave_12 (by decide) ?_
    exact gg_sub (L' := [none, none, none, none, none]) (by first | exact trivial | simp [gsub]) (hb_16 _ _ _ _ hf)

def w_L_reach (X : Cx) (post : Int32 → GM → Prop) (px : String → GM → Prop) (v0 : Option Nat) (v1 : Int32) (v2 : Option Nat) (g : GM) : Prop :=
  wIs g v0 7 (w_X7_reach X (fun (i2 : Int32) (g1 : GM) => wAstJ g1 v2 (0 : Int32) ((i2).toInt64) (fun g3 => post (0 : Int32) g3)) (fun E g9 => if E = "java/util/NoSuchElementException" then post (1 : Int32) g9 else (False)) v0 v1 g)
abbrev rm_L_reach : Room := { frames := 8, cells := 1, slots := 6, locals := 128 }
set_option maxHeartbeats 4000000 in
set_option maxRecDepth 100000 in
theorem m_L_reach {X : Cx} {l : Launch} (hfl : l.stackTraces = false) {post : Int32 → GM → Prop} {px : String → GM → Prop} {v0 : Option Nat} {v1 : Int32} {v2 : Option Nat} {g : GM} (hf : w_L_reach X post px v0 v1 v2 g) : vx_Met l yL_reach (.codeWith yL_reach cL_reach 4 (some .int) [(0, 9, 12, 25)] :: TBL) rm_L_reach (gPc X [va_rf v0, .int v1, va_rf v2] g) (qI X post) (gXC X px) rm_L_reach.cells rm_L_reach.slots (gA X) := by
  refine gg_enterW (hh := [(0, 9, 12, 25)]) (L := [some (va_rf v0), some (.int v1), some (va_rf v2), none]) hfl (by decide +kernel) (by simp [lg_sl, gcat, gcI, gcL, gcF, gcD]) (by simp [gll, lv_args, gcat, gcI, gcL, gcF, gcD]) ?_
  intro p e s m args below meth c C hr ht
  have C : FC X p l s m args meth c cL_reach 4 "ReleasetrainLaw" := C
  unfold w_L_reach at hf
  refine gg_aload_n C dL_reach_0 rfl ?_
  refine gg_iconst C dL_reach_1 (v := (0 : Int32)) (by decide) ?_
  refine gg_aload_n C dL_reach_2 rfl ?_
  refine gg_iload_n C dL_reach_3 rfl ?_
  refine gr_I (k' := 1) (n' := 6) (gk_V (ci := 7) (As := [.int v1]) (rest := [.int (0 : Int32), va_rf v2]) C dL_reach_4 rfl rfl tw_795 tw_796 tw_797 tw_47 tw_798 gd_X7_reach rfl ⟨by decide, by decide⟩ (by simp [gcat, gcI, gcL, gcF, gcD]) ⟨by decide, by decide⟩ hf (fun hf => m_X7_reach hfl hf)) rfl rfl (fun E g9 h9 => by
    by_cases e9 : E = "java/util/NoSuchElementException"
    · subst e9
      rw [if_pos rfl] at h9
      exact gx_catch (name := "java/util/NoSuchElementException") (pre := []) (x := ⟨0, 9, 12, 25⟩) (suf := []) C ht (fun z hz => nomatch hz) (by decide) (by decide) tw_586 (by decide +kernel) (fun q9 => gg_astore_n (L' := [some (va_rf v0), some (.int v1), some (va_rf v2), some (va_rf (some q9))]) C dL_reach_12 (Or.inr (Or.inr ⟨_, rfl, gcat _⟩)) (by decide) rfl (gg_iconst (v := (1 : Int32)) C dL_reach_13 (by decide) (gg_iret C hr (by decide) (by decide) dL_reach_14 rfl h9)))
    rw [if_neg e9] at h9
    exact h9.elim) (fun i2 g1 hf => ?_)
  refine gg_i2l C dL_reach_7 ?_
  refine gg_last C dL_reach_8 hf (fun g3 hf => ?_)
  refine gg_goto (tgt := 15) C dL_reach_9 (by decide) ?_
  refine gg_iconst C dL_reach_15 (v := (0 : Int32)) (by decide) ?_
  exact gg_iret C hr (by decide) (by decide) dL_reach_16 rfl hf

def w_L_reachByDevices (X : Cx) (post : Int32 → GM → Prop) (px : String → GM → Prop) (v0 : Option Nat) (v1 : Int32) (v2 : Option Nat) (g : GM) : Prop :=
  wIs g v0 7 (w_X7_reachByDevices X (fun (i2 : Int32) (g1 : GM) => wAstJ g1 v2 (0 : Int32) ((i2).toInt64) (fun g3 => post (0 : Int32) g3)) (fun E g9 => if E = "java/util/NoSuchElementException" then post (1 : Int32) g9 else (False)) v0 v1 g)
abbrev rm_L_reachByDevices : Room := { frames := 8, cells := 1, slots := 6, locals := 127 }
set_option maxHeartbeats 4000000 in
set_option maxRecDepth 100000 in
theorem m_L_reachByDevices {X : Cx} {l : Launch} (hfl : l.stackTraces = false) {post : Int32 → GM → Prop} {px : String → GM → Prop} {v0 : Option Nat} {v1 : Int32} {v2 : Option Nat} {g : GM} (hf : w_L_reachByDevices X post px v0 v1 v2 g) : vx_Met l yL_reachByDevices (.codeWith yL_reachByDevices cL_reachByDevices 4 (some .int) [(0, 9, 12, 25)] :: TBL) rm_L_reachByDevices (gPc X [va_rf v0, .int v1, va_rf v2] g) (qI X post) (gXC X px) rm_L_reachByDevices.cells rm_L_reachByDevices.slots (gA X) := by
  refine gg_enterW (hh := [(0, 9, 12, 25)]) (L := [some (va_rf v0), some (.int v1), some (va_rf v2), none]) hfl (by decide +kernel) (by simp [lg_sl, gcat, gcI, gcL, gcF, gcD]) (by simp [gll, lv_args, gcat, gcI, gcL, gcF, gcD]) ?_
  intro p e s m args below meth c C hr ht
  have C : FC X p l s m args meth c cL_reachByDevices 4 "ReleasetrainLaw" := C
  unfold w_L_reachByDevices at hf
  refine gg_aload_n C dL_reachByDevices_0 rfl ?_
  refine gg_iconst C dL_reachByDevices_1 (v := (0 : Int32)) (by decide) ?_
  refine gg_aload_n C dL_reachByDevices_2 rfl ?_
  refine gg_iload_n C dL_reachByDevices_3 rfl ?_
  refine gr_I (k' := 1) (n' := 6) (gk_V (ci := 7) (As := [.int v1]) (rest := [.int (0 : Int32), va_rf v2]) C dL_reachByDevices_4 rfl rfl tw_807 tw_808 tw_809 tw_47 tw_810 gd_X7_reachByDevices rfl ⟨by decide, by decide⟩ (by simp [gcat, gcI, gcL, gcF, gcD]) ⟨by decide, by decide⟩ hf (fun hf => m_X7_reachByDevices hfl hf)) rfl rfl (fun E g9 h9 => by
    by_cases e9 : E = "java/util/NoSuchElementException"
    · subst e9
      rw [if_pos rfl] at h9
      exact gx_catch (name := "java/util/NoSuchElementException") (pre := []) (x := ⟨0, 9, 12, 25⟩) (suf := []) C ht (fun z hz => nomatch hz) (by decide) (by decide) tw_586 (by decide +kernel) (fun q9 => gg_astore_n (L' := [some (va_rf v0), some (.int v1), some (va_rf v2), some (va_rf (some q9))]) C dL_reachByDevices_12 (Or.inr (Or.inr ⟨_, rfl, gcat _⟩)) (by decide) rfl (gg_iconst (v := (1 : Int32)) C dL_reachByDevices_13 (by decide) (gg_iret C hr (by decide) (by decide) dL_reachByDevices_14 rfl h9)))
    rw [if_neg e9] at h9
    exact h9.elim) (fun i2 g1 hf => ?_)
  refine gg_i2l C dL_reachByDevices_7 ?_
  refine gg_last C dL_reachByDevices_8 hf (fun g3 hf => ?_)
  refine gg_goto (tgt := 15) C dL_reachByDevices_9 (by decide) ?_
  refine gg_iconst C dL_reachByDevices_15 (v := (0 : Int32)) (by decide) ?_
  exact gg_iret C hr (by decide) (by decide) dL_reachByDevices_16 rfl hf

def w_L_offered (X : Cx) (post : Int32 → GM → Prop) (px : String → GM → Prop) (v0 : Option Nat) (v1 : Int32) (v2 : Option Nat) (g : GM) : Prop :=
  wIs g v0 7 (w_X7_offered X (fun (i2 : Int32) (g1 : GM) => wAstJ g1 v2 (0 : Int32) ((i2).toInt64) (fun g3 => post (0 : Int32) g3)) (fun E g9 => if E = "java/util/NoSuchElementException" then post (1 : Int32) g9 else (if E = "java/lang/IllegalStateException" then post (2 : Int32) g9 else (False))) v0 v1 g)
abbrev rm_L_offered : Room := { frames := 8, cells := 2, slots := 12, locals := 130 }
set_option maxHeartbeats 4000000 in
set_option maxRecDepth 100000 in
theorem m_L_offered {X : Cx} {l : Launch} (hfl : l.stackTraces = false) {post : Int32 → GM → Prop} {px : String → GM → Prop} {v0 : Option Nat} {v1 : Int32} {v2 : Option Nat} {g : GM} (hf : w_L_offered X post px v0 v1 v2 g) : vx_Met l yL_offered (.codeWith yL_offered cL_offered 4 (some .int) [(0, 9, 12, 25), (0, 9, 15, 15)] :: TBL) rm_L_offered (gPc X [va_rf v0, .int v1, va_rf v2] g) (qI X post) (gXC X px) rm_L_offered.cells rm_L_offered.slots (gA X) := by
  refine gg_enterW (hh := [(0, 9, 12, 25), (0, 9, 15, 15)]) (L := [some (va_rf v0), some (.int v1), some (va_rf v2), none]) hfl (by decide +kernel) (by simp [lg_sl, gcat, gcI, gcL, gcF, gcD]) (by simp [gll, lv_args, gcat, gcI, gcL, gcF, gcD]) ?_
  intro p e s m args below meth c C hr ht
  have C : FC X p l s m args meth c cL_offered 4 "ReleasetrainLaw" := C
  unfold w_L_offered at hf
  refine gg_aload_n C dL_offered_0 rfl ?_
  refine gg_iconst C dL_offered_1 (v := (0 : Int32)) (by decide) ?_
  refine gg_aload_n C dL_offered_2 rfl ?_
  refine gg_iload_n C dL_offered_3 rfl ?_
  refine gr_I (k' := 2) (n' := 12) (gk_V (ci := 7) (As := [.int v1]) (rest := [.int (0 : Int32), va_rf v2]) C dL_offered_4 rfl rfl tw_814 tw_815 tw_816 tw_47 tw_817 gd_X7_offered rfl ⟨by decide, by decide⟩ (by simp [gcat, gcI, gcL, gcF, gcD]) ⟨by decide, by decide⟩ hf (fun hf => m_X7_offered hfl hf)) rfl rfl (fun E g9 h9 => by
    by_cases e9 : E = "java/util/NoSuchElementException"
    · subst e9
      rw [if_pos rfl] at h9
      exact gx_catch (name := "java/util/NoSuchElementException") (pre := []) (x := ⟨0, 9, 12, 25⟩) (suf := [⟨0, 9, 15, 15⟩]) C ht (fun z hz => nomatch hz) (by decide) (by decide) tw_586 (by decide +kernel) (fun q9 => gg_astore_n (L' := [some (va_rf v0), some (.int v1), some (va_rf v2), some (va_rf (some q9))]) C dL_offered_12 (Or.inr (Or.inr ⟨_, rfl, gcat _⟩)) (by decide) rfl (gg_iconst (v := (1 : Int32)) C dL_offered_13 (by decide) (gg_iret C hr (by decide) (by decide) dL_offered_14 rfl h9)))
    rw [if_neg e9] at h9
    by_cases e9 : E = "java/lang/IllegalStateException"
    · subst e9
      rw [if_pos rfl] at h9
      exact gx_catch (name := "java/lang/IllegalStateException") (pre := [⟨0, 9, 12, 25⟩]) (x := ⟨0, 9, 15, 15⟩) (suf := []) C ht (by intro z hz; simp only [List.mem_cons, List.not_mem_nil, or_false] at hz; rcases hz with rfl <;> first | exact Or.inr ⟨by decide, "java/util/NoSuchElementException", tw_586, by decide +kernel⟩) (by decide) (by decide) tw_225 (by decide +kernel) (fun q9 => gg_astore_n (L' := [some (va_rf v0), some (.int v1), some (va_rf v2), some (va_rf (some q9))]) C dL_offered_15 (Or.inr (Or.inr ⟨_, rfl, gcat _⟩)) (by decide) rfl (gg_iconst (v := (2 : Int32)) C dL_offered_16 (by decide) (gg_iret C hr (by decide) (by decide) dL_offered_17 rfl h9)))
    rw [if_neg e9] at h9
    exact h9.elim) (fun i2 g1 hf => ?_)
  refine gg_i2l C dL_offered_7 ?_
  refine gg_last C dL_offered_8 hf (fun g3 hf => ?_)
  refine gg_goto (tgt := 18) C dL_offered_9 (by decide) ?_
  refine gg_iconst C dL_offered_18 (v := (0 : Int32)) (by decide) ?_
  exact gg_iret C hr (by decide) (by decide) dL_offered_19 rfl hf

def w_L_update (X : Cx) (post : Int32 → GM → Prop) (px : String → GM → Prop) (v0 : Option Nat) (v1 : Int32) (v2 : Option Nat) (g : GM) : Prop :=
  wIs g v0 7 (w_X7_update X (fun (i2 : Int32) (g1 : GM) => wAstJ g1 v2 (0 : Int32) ((i2).toInt64) (fun g3 => post (0 : Int32) g3)) (fun E g9 => if E = "java/util/NoSuchElementException" then post (1 : Int32) g9 else (if E = "java/lang/IllegalStateException" then post (2 : Int32) g9 else (False))) v0 v1 g)
abbrev rm_L_update : Room := { frames := 8, cells := 2, slots := 12, locals := 132 }
set_option maxHeartbeats 4000000 in
set_option maxRecDepth 100000 in
theorem m_L_update {X : Cx} {l : Launch} (hfl : l.stackTraces = false) {post : Int32 → GM → Prop} {px : String → GM → Prop} {v0 : Option Nat} {v1 : Int32} {v2 : Option Nat} {g : GM} (hf : w_L_update X post px v0 v1 v2 g) : vx_Met l yL_update (.codeWith yL_update cL_update 4 (some .int) [(0, 9, 12, 25), (0, 9, 15, 15)] :: TBL) rm_L_update (gPc X [va_rf v0, .int v1, va_rf v2] g) (qI X post) (gXC X px) rm_L_update.cells rm_L_update.slots (gA X) := by
  refine gg_enterW (hh := [(0, 9, 12, 25), (0, 9, 15, 15)]) (L := [some (va_rf v0), some (.int v1), some (va_rf v2), none]) hfl (by decide +kernel) (by simp [lg_sl, gcat, gcI, gcL, gcF, gcD]) (by simp [gll, lv_args, gcat, gcI, gcL, gcF, gcD]) ?_
  intro p e s m args below meth c C hr ht
  have C : FC X p l s m args meth c cL_update 4 "ReleasetrainLaw" := C
  unfold w_L_update at hf
  refine gg_aload_n C dL_update_0 rfl ?_
  refine gg_iconst C dL_update_1 (v := (0 : Int32)) (by decide) ?_
  refine gg_aload_n C dL_update_2 rfl ?_
  refine gg_iload_n C dL_update_3 rfl ?_
  refine gr_I (k' := 2) (n' := 12) (gk_V (ci := 7) (As := [.int v1]) (rest := [.int (0 : Int32), va_rf v2]) C dL_update_4 rfl rfl tw_834 tw_835 tw_836 tw_47 tw_837 gd_X7_update rfl ⟨by decide, by decide⟩ (by simp [gcat, gcI, gcL, gcF, gcD]) ⟨by decide, by decide⟩ hf (fun hf => m_X7_update hfl hf)) rfl rfl (fun E g9 h9 => by
    by_cases e9 : E = "java/util/NoSuchElementException"
    · subst e9
      rw [if_pos rfl] at h9
      exact gx_catch (name := "java/util/NoSuchElementException") (pre := []) (x := ⟨0, 9, 12, 25⟩) (suf := [⟨0, 9, 15, 15⟩]) C ht (fun z hz => nomatch hz) (by decide) (by decide) tw_586 (by decide +kernel) (fun q9 => gg_astore_n (L' := [some (va_rf v0), some (.int v1), some (va_rf v2), some (va_rf (some q9))]) C dL_update_12 (Or.inr (Or.inr ⟨_, rfl, gcat _⟩)) (by decide) rfl (gg_iconst (v := (1 : Int32)) C dL_update_13 (by decide) (gg_iret C hr (by decide) (by decide) dL_update_14 rfl h9)))
    rw [if_neg e9] at h9
    by_cases e9 : E = "java/lang/IllegalStateException"
    · subst e9
      rw [if_pos rfl] at h9
      exact gx_catch (name := "java/lang/IllegalStateException") (pre := [⟨0, 9, 12, 25⟩]) (x := ⟨0, 9, 15, 15⟩) (suf := []) C ht (by intro z hz; simp only [List.mem_cons, List.not_mem_nil, or_false] at hz; rcases hz with rfl <;> first | exact Or.inr ⟨by decide, "java/util/NoSuchElementException", tw_586, by decide +kernel⟩) (by decide) (by decide) tw_225 (by decide +kernel) (fun q9 => gg_astore_n (L' := [some (va_rf v0), some (.int v1), some (va_rf v2), some (va_rf (some q9))]) C dL_update_15 (Or.inr (Or.inr ⟨_, rfl, gcat _⟩)) (by decide) rfl (gg_iconst (v := (2 : Int32)) C dL_update_16 (by decide) (gg_iret C hr (by decide) (by decide) dL_update_17 rfl h9)))
    rw [if_neg e9] at h9
    exact h9.elim) (fun i2 g1 hf => ?_)
  refine gg_i2l C dL_update_7 ?_
  refine gg_last C dL_update_8 hf (fun g3 hf => ?_)
  refine gg_goto (tgt := 18) C dL_update_9 (by decide) ?_
  refine gg_iconst C dL_update_18 (v := (0 : Int32)) (by decide) ?_
  exact gg_iret C hr (by decide) (by decide) dL_update_19 rfl hf

def w_L_buildOf (X : Cx) (post : Int32 → GM → Prop) (px : String → GM → Prop) (v0 : Option Nat) (v1 : Int32) (v2 : Option Nat) (g : GM) : Prop :=
  wIs g v0 7 (w_X7_buildOf X (fun (i2 : Int32) (g1 : GM) => wAstJ g1 v2 (0 : Int32) ((i2).toInt64) (fun g3 => post (0 : Int32) g3)) (fun E g9 => if E = "java/util/NoSuchElementException" then post (1 : Int32) g9 else (if E = "java/lang/IllegalStateException" then post (2 : Int32) g9 else (False))) v0 v1 g)
abbrev rm_L_buildOf : Room := { frames := 8, cells := 2, slots := 12, locals := 124 }
set_option maxHeartbeats 4000000 in
set_option maxRecDepth 100000 in
theorem m_L_buildOf {X : Cx} {l : Launch} (hfl : l.stackTraces = false) {post : Int32 → GM → Prop} {px : String → GM → Prop} {v0 : Option Nat} {v1 : Int32} {v2 : Option Nat} {g : GM} (hf : w_L_buildOf X post px v0 v1 v2 g) : vx_Met l yL_buildOf (.codeWith yL_buildOf cL_buildOf 4 (some .int) [(0, 9, 12, 25), (0, 9, 15, 15)] :: TBL) rm_L_buildOf (gPc X [va_rf v0, .int v1, va_rf v2] g) (qI X post) (gXC X px) rm_L_buildOf.cells rm_L_buildOf.slots (gA X) := by
  refine gg_enterW (hh := [(0, 9, 12, 25), (0, 9, 15, 15)]) (L := [some (va_rf v0), some (.int v1), some (va_rf v2), none]) hfl (by decide +kernel) (by simp [lg_sl, gcat, gcI, gcL, gcF, gcD]) (by simp [gll, lv_args, gcat, gcI, gcL, gcF, gcD]) ?_
  intro p e s m args below meth c C hr ht
  have C : FC X p l s m args meth c cL_buildOf 4 "ReleasetrainLaw" := C
  unfold w_L_buildOf at hf
  refine gg_aload_n C dL_buildOf_0 rfl ?_
  refine gg_iconst C dL_buildOf_1 (v := (0 : Int32)) (by decide) ?_
  refine gg_aload_n C dL_buildOf_2 rfl ?_
  refine gg_iload_n C dL_buildOf_3 rfl ?_
  refine gr_I (k' := 2) (n' := 12) (gk_V (ci := 7) (As := [.int v1]) (rest := [.int (0 : Int32), va_rf v2]) C dL_buildOf_4 rfl rfl tw_841 tw_842 tw_843 tw_47 tw_844 gd_X7_buildOf rfl ⟨by decide, by decide⟩ (by simp [gcat, gcI, gcL, gcF, gcD]) ⟨by decide, by decide⟩ hf (fun hf => m_X7_buildOf hfl hf)) rfl rfl (fun E g9 h9 => by
    by_cases e9 : E = "java/util/NoSuchElementException"
    · subst e9
      rw [if_pos rfl] at h9
      exact gx_catch (name := "java/util/NoSuchElementException") (pre := []) (x := ⟨0, 9, 12, 25⟩) (suf := [⟨0, 9, 15, 15⟩]) C ht (fun z hz => nomatch hz) (by decide) (by decide) tw_586 (by decide +kernel) (fun q9 => gg_astore_n (L' := [some (va_rf v0), some (.int v1), some (va_rf v2), some (va_rf (some q9))]) C dL_buildOf_12 (Or.inr (Or.inr ⟨_, rfl, gcat _⟩)) (by decide) rfl (gg_iconst (v := (1 : Int32)) C dL_buildOf_13 (by decide) (gg_iret C hr (by decide) (by decide) dL_buildOf_14 rfl h9)))
    rw [if_neg e9] at h9
    by_cases e9 : E = "java/lang/IllegalStateException"
    · subst e9
      rw [if_pos rfl] at h9
      exact gx_catch (name := "java/lang/IllegalStateException") (pre := [⟨0, 9, 12, 25⟩]) (x := ⟨0, 9, 15, 15⟩) (suf := []) C ht (by intro z hz; simp only [List.mem_cons, List.not_mem_nil, or_false] at hz; rcases hz with rfl <;> first | exact Or.inr ⟨by decide, "java/util/NoSuchElementException", tw_586, by decide +kernel⟩) (by decide) (by decide) tw_225 (by decide +kernel) (fun q9 => gg_astore_n (L' := [some (va_rf v0), some (.int v1), some (va_rf v2), some (va_rf (some q9))]) C dL_buildOf_15 (Or.inr (Or.inr ⟨_, rfl, gcat _⟩)) (by decide) rfl (gg_iconst (v := (2 : Int32)) C dL_buildOf_16 (by decide) (gg_iret C hr (by decide) (by decide) dL_buildOf_17 rfl h9)))
    rw [if_neg e9] at h9
    exact h9.elim) (fun i2 g1 hf => ?_)
  refine gg_i2l C dL_buildOf_7 ?_
  refine gg_last C dL_buildOf_8 hf (fun g3 hf => ?_)
  refine gg_goto (tgt := 18) C dL_buildOf_9 (by decide) ?_
  refine gg_iconst C dL_buildOf_18 (v := (0 : Int32)) (by decide) ?_
  exact gg_iret C hr (by decide) (by decide) dL_buildOf_19 rfl hf

def w_L_devicesWith (X : Cx) (post : Int32 → GM → Prop) (px : String → GM → Prop) (v0 : Option Nat) (v1 : Int32) (v2 : Option Nat) (g : GM) : Prop :=
  wIs g v0 7 (w_X7_devicesWith X (fun (i2 : Int32) (g1 : GM) => wAstJ g1 v2 (0 : Int32) ((i2).toInt64) (fun g3 => post (0 : Int32) g3)) (fun E g9 => if E = "java/util/NoSuchElementException" then post (1 : Int32) g9 else (False)) v0 v1 g)
abbrev rm_L_devicesWith : Room := { frames := 8, cells := 1, slots := 6, locals := 124 }
set_option maxHeartbeats 4000000 in
set_option maxRecDepth 100000 in
theorem m_L_devicesWith {X : Cx} {l : Launch} (hfl : l.stackTraces = false) {post : Int32 → GM → Prop} {px : String → GM → Prop} {v0 : Option Nat} {v1 : Int32} {v2 : Option Nat} {g : GM} (hf : w_L_devicesWith X post px v0 v1 v2 g) : vx_Met l yL_devicesWith (.codeWith yL_devicesWith cL_devicesWith 4 (some .int) [(0, 9, 12, 25)] :: TBL) rm_L_devicesWith (gPc X [va_rf v0, .int v1, va_rf v2] g) (qI X post) (gXC X px) rm_L_devicesWith.cells rm_L_devicesWith.slots (gA X) := by
  refine gg_enterW (hh := [(0, 9, 12, 25)]) (L := [some (va_rf v0), some (.int v1), some (va_rf v2), none]) hfl (by decide +kernel) (by simp [lg_sl, gcat, gcI, gcL, gcF, gcD]) (by simp [gll, lv_args, gcat, gcI, gcL, gcF, gcD]) ?_
  intro p e s m args below meth c C hr ht
  have C : FC X p l s m args meth c cL_devicesWith 4 "ReleasetrainLaw" := C
  unfold w_L_devicesWith at hf
  refine gg_aload_n C dL_devicesWith_0 rfl ?_
  refine gg_iconst C dL_devicesWith_1 (v := (0 : Int32)) (by decide) ?_
  refine gg_aload_n C dL_devicesWith_2 rfl ?_
  refine gg_iload_n C dL_devicesWith_3 rfl ?_
  refine gr_I (k' := 1) (n' := 6) (gk_V (ci := 7) (As := [.int v1]) (rest := [.int (0 : Int32), va_rf v2]) C dL_devicesWith_4 rfl rfl tw_852 tw_853 tw_854 tw_47 tw_855 gd_X7_devicesWith rfl ⟨by decide, by decide⟩ (by simp [gcat, gcI, gcL, gcF, gcD]) ⟨by decide, by decide⟩ hf (fun hf => m_X7_devicesWith hfl hf)) rfl rfl (fun E g9 h9 => by
    by_cases e9 : E = "java/util/NoSuchElementException"
    · subst e9
      rw [if_pos rfl] at h9
      exact gx_catch (name := "java/util/NoSuchElementException") (pre := []) (x := ⟨0, 9, 12, 25⟩) (suf := []) C ht (fun z hz => nomatch hz) (by decide) (by decide) tw_586 (by decide +kernel) (fun q9 => gg_astore_n (L' := [some (va_rf v0), some (.int v1), some (va_rf v2), some (va_rf (some q9))]) C dL_devicesWith_12 (Or.inr (Or.inr ⟨_, rfl, gcat _⟩)) (by decide) rfl (gg_iconst (v := (1 : Int32)) C dL_devicesWith_13 (by decide) (gg_iret C hr (by decide) (by decide) dL_devicesWith_14 rfl h9)))
    rw [if_neg e9] at h9
    exact h9.elim) (fun i2 g1 hf => ?_)
  refine gg_i2l C dL_devicesWith_7 ?_
  refine gg_last C dL_devicesWith_8 hf (fun g3 hf => ?_)
  refine gg_goto (tgt := 15) C dL_devicesWith_9 (by decide) ?_
  refine gg_iconst C dL_devicesWith_15 (v := (0 : Int32)) (by decide) ?_
  exact gg_iret C hr (by decide) (by decide) dL_devicesWith_16 rfl hf

def w_L_installs (X : Cx) (post : Int32 → GM → Prop) (px : String → GM → Prop) (v0 : Option Nat) (v1 : Int32) (v2 : Option Nat) (g : GM) : Prop :=
  wIs g v0 7 (w_X7_installs X (fun (i2 : Int32) (g1 : GM) => wAstJ g1 v2 (0 : Int32) ((i2).toInt64) (fun g3 => post (0 : Int32) g3)) (fun E g9 => if E = "java/util/NoSuchElementException" then post (1 : Int32) g9 else (False)) v0 v1 g)
abbrev rm_L_installs : Room := { frames := 8, cells := 1, slots := 6, locals := 124 }
set_option maxHeartbeats 4000000 in
set_option maxRecDepth 100000 in
theorem m_L_installs {X : Cx} {l : Launch} (hfl : l.stackTraces = false) {post : Int32 → GM → Prop} {px : String → GM → Prop} {v0 : Option Nat} {v1 : Int32} {v2 : Option Nat} {g : GM} (hf : w_L_installs X post px v0 v1 v2 g) : vx_Met l yL_installs (.codeWith yL_installs cL_installs 4 (some .int) [(0, 9, 12, 25)] :: TBL) rm_L_installs (gPc X [va_rf v0, .int v1, va_rf v2] g) (qI X post) (gXC X px) rm_L_installs.cells rm_L_installs.slots (gA X) := by
  refine gg_enterW (hh := [(0, 9, 12, 25)]) (L := [some (va_rf v0), some (.int v1), some (va_rf v2), none]) hfl (by decide +kernel) (by simp [lg_sl, gcat, gcI, gcL, gcF, gcD]) (by simp [gll, lv_args, gcat, gcI, gcL, gcF, gcD]) ?_
  intro p e s m args below meth c C hr ht
  have C : FC X p l s m args meth c cL_installs 4 "ReleasetrainLaw" := C
  unfold w_L_installs at hf
  refine gg_aload_n C dL_installs_0 rfl ?_
  refine gg_iconst C dL_installs_1 (v := (0 : Int32)) (by decide) ?_
  refine gg_aload_n C dL_installs_2 rfl ?_
  refine gg_iload_n C dL_installs_3 rfl ?_
  refine gr_I (k' := 1) (n' := 6) (gk_V (ci := 7) (As := [.int v1]) (rest := [.int (0 : Int32), va_rf v2]) C dL_installs_4 rfl rfl tw_859 tw_860 tw_861 tw_47 tw_862 gd_X7_installs rfl ⟨by decide, by decide⟩ (by simp [gcat, gcI, gcL, gcF, gcD]) ⟨by decide, by decide⟩ hf (fun hf => m_X7_installs hfl hf)) rfl rfl (fun E g9 h9 => by
    by_cases e9 : E = "java/util/NoSuchElementException"
    · subst e9
      rw [if_pos rfl] at h9
      exact gx_catch (name := "java/util/NoSuchElementException") (pre := []) (x := ⟨0, 9, 12, 25⟩) (suf := []) C ht (fun z hz => nomatch hz) (by decide) (by decide) tw_586 (by decide +kernel) (fun q9 => gg_astore_n (L' := [some (va_rf v0), some (.int v1), some (va_rf v2), some (va_rf (some q9))]) C dL_installs_12 (Or.inr (Or.inr ⟨_, rfl, gcat _⟩)) (by decide) rfl (gg_iconst (v := (1 : Int32)) C dL_installs_13 (by decide) (gg_iret C hr (by decide) (by decide) dL_installs_14 rfl h9)))
    rw [if_neg e9] at h9
    exact h9.elim) (fun i2 g1 hf => ?_)
  refine gg_i2l C dL_installs_7 ?_
  refine gg_last C dL_installs_8 hf (fun g3 hf => ?_)
  refine gg_goto (tgt := 15) C dL_installs_9 (by decide) ?_
  refine gg_iconst C dL_installs_15 (v := (0 : Int32)) (by decide) ?_
  exact gg_iret C hr (by decide) (by decide) dL_installs_16 rfl hf

def w_L_type (X : Cx) (post : Int32 → GM → Prop) (px : String → GM → Prop) (v0 : Option Nat) (v1 : Int32) (v2 : Option Nat) (g : GM) : Prop :=
  wIs g v0 7 (w_X7_type X (fun (i2 : Int32) (g1 : GM) => wAstJ g1 v2 (0 : Int32) ((i2).toInt64) (fun g3 => post (0 : Int32) g3)) (fun E g9 => if E = "java/lang/IllegalArgumentException" then post (1 : Int32) g9 else (if E = "java/lang/IllegalStateException" then post (2 : Int32) g9 else (False))) v0 v1 g)
abbrev rm_L_type : Room := { frames := 7, cells := 1, slots := 6, locals := 103 }
set_option maxHeartbeats 4000000 in
set_option maxRecDepth 100000 in
theorem m_L_type {X : Cx} {l : Launch} (hfl : l.stackTraces = false) {post : Int32 → GM → Prop} {px : String → GM → Prop} {v0 : Option Nat} {v1 : Int32} {v2 : Option Nat} {g : GM} (hf : w_L_type X post px v0 v1 v2 g) : vx_Met l yL_type (.codeWith yL_type cL_type 4 (some .int) [(0, 9, 12, 13), (0, 9, 15, 15)] :: TBL) rm_L_type (gPc X [va_rf v0, .int v1, va_rf v2] g) (qI X post) (gXC X px) rm_L_type.cells rm_L_type.slots (gA X) := by
  refine gg_enterW (hh := [(0, 9, 12, 13), (0, 9, 15, 15)]) (L := [some (va_rf v0), some (.int v1), some (va_rf v2), none]) hfl (by decide +kernel) (by simp [lg_sl, gcat, gcI, gcL, gcF, gcD]) (by simp [gll, lv_args, gcat, gcI, gcL, gcF, gcD]) ?_
  intro p e s m args below meth c C hr ht
  have C : FC X p l s m args meth c cL_type 4 "ReleasetrainLaw" := C
  unfold w_L_type at hf
  refine gg_aload_n C dL_type_0 rfl ?_
  refine gg_iconst C dL_type_1 (v := (0 : Int32)) (by decide) ?_
  refine gg_aload_n C dL_type_2 rfl ?_
  refine gg_iload_n C dL_type_3 rfl ?_
  refine gr_I (k' := 1) (n' := 6) (gk_V (ci := 7) (As := [.int v1]) (rest := [.int (0 : Int32), va_rf v2]) C dL_type_4 rfl rfl tw_866 tw_867 tw_868 tw_47 tw_869 gd_X7_type rfl ⟨by decide, by decide⟩ (by simp [gcat, gcI, gcL, gcF, gcD]) ⟨by decide, by decide⟩ hf (fun hf => m_X7_type hfl hf)) rfl rfl (fun E g9 h9 => by
    by_cases e9 : E = "java/lang/IllegalArgumentException"
    · subst e9
      rw [if_pos rfl] at h9
      exact gx_catch (name := "java/lang/IllegalArgumentException") (pre := []) (x := ⟨0, 9, 12, 13⟩) (suf := [⟨0, 9, 15, 15⟩]) C ht (fun z hz => nomatch hz) (by decide) (by decide) tw_224 (by decide +kernel) (fun q9 => gg_astore_n (L' := [some (va_rf v0), some (.int v1), some (va_rf v2), some (va_rf (some q9))]) C dL_type_12 (Or.inr (Or.inr ⟨_, rfl, gcat _⟩)) (by decide) rfl (gg_iconst (v := (1 : Int32)) C dL_type_13 (by decide) (gg_iret C hr (by decide) (by decide) dL_type_14 rfl h9)))
    rw [if_neg e9] at h9
    by_cases e9 : E = "java/lang/IllegalStateException"
    · subst e9
      rw [if_pos rfl] at h9
      exact gx_catch (name := "java/lang/IllegalStateException") (pre := [⟨0, 9, 12, 13⟩]) (x := ⟨0, 9, 15, 15⟩) (suf := []) C ht (by intro z hz; simp only [List.mem_cons, List.not_mem_nil, or_false] at hz; rcases hz with rfl <;> first | exact Or.inr ⟨by decide, "java/lang/IllegalArgumentException", tw_224, by decide +kernel⟩) (by decide) (by decide) tw_225 (by decide +kernel) (fun q9 => gg_astore_n (L' := [some (va_rf v0), some (.int v1), some (va_rf v2), some (va_rf (some q9))]) C dL_type_15 (Or.inr (Or.inr ⟨_, rfl, gcat _⟩)) (by decide) rfl (gg_iconst (v := (2 : Int32)) C dL_type_16 (by decide) (gg_iret C hr (by decide) (by decide) dL_type_17 rfl h9)))
    rw [if_neg e9] at h9
    exact h9.elim) (fun i2 g1 hf => ?_)
  refine gg_i2l C dL_type_7 ?_
  refine gg_last C dL_type_8 hf (fun g3 hf => ?_)
  refine gg_goto (tgt := 18) C dL_type_9 (by decide) ?_
  refine gg_iconst C dL_type_18 (v := (0 : Int32)) (by decide) ?_
  exact gg_iret C hr (by decide) (by decide) dL_type_19 rfl hf

def w_L_crash (X : Cx) (post : Int32 → GM → Prop) (px : String → GM → Prop) (v0 : Option Nat) (v1 : Int32) (v2 : Option Nat) (g : GM) : Prop :=
  wIs g v0 7 (w_X7_crash X (fun (i2 : Int32) (g1 : GM) => wAstJ g1 v2 (0 : Int32) ((i2).toInt64) (fun g3 => post (0 : Int32) g3)) (fun E g9 => if E = "java/util/NoSuchElementException" then post (1 : Int32) g9 else (if E = "java/lang/IllegalStateException" then post (2 : Int32) g9 else (False))) v0 v1 g)
abbrev rm_L_crash : Room := { frames := 9, cells := 6, slots := 88, locals := 256 }
set_option maxHeartbeats 4000000 in
set_option maxRecDepth 100000 in
theorem m_L_crash {X : Cx} {l : Launch} (hfl : l.stackTraces = false) {post : Int32 → GM → Prop} {px : String → GM → Prop} {v0 : Option Nat} {v1 : Int32} {v2 : Option Nat} {g : GM} (hf : w_L_crash X post px v0 v1 v2 g) : vx_Met l yL_crash (.codeWith yL_crash cL_crash 4 (some .int) [(0, 9, 12, 25), (0, 9, 15, 15)] :: TBL) rm_L_crash (gPc X [va_rf v0, .int v1, va_rf v2] g) (qI X post) (gXC X px) rm_L_crash.cells rm_L_crash.slots (gA X) := by
  refine gg_enterW (hh := [(0, 9, 12, 25), (0, 9, 15, 15)]) (L := [some (va_rf v0), some (.int v1), some (va_rf v2), none]) hfl (by decide +kernel) (by simp [lg_sl, gcat, gcI, gcL, gcF, gcD]) (by simp [gll, lv_args, gcat, gcI, gcL, gcF, gcD]) ?_
  intro p e s m args below meth c C hr ht
  have C : FC X p l s m args meth c cL_crash 4 "ReleasetrainLaw" := C
  unfold w_L_crash at hf
  refine gg_aload_n C dL_crash_0 rfl ?_
  refine gg_iconst C dL_crash_1 (v := (0 : Int32)) (by decide) ?_
  refine gg_aload_n C dL_crash_2 rfl ?_
  refine gg_iload_n C dL_crash_3 rfl ?_
  refine gr_I (k' := 6) (n' := 88) (gk_V (ci := 7) (As := [.int v1]) (rest := [.int (0 : Int32), va_rf v2]) C dL_crash_4 rfl rfl tw_879 tw_880 tw_881 tw_47 tw_882 gd_X7_crash rfl ⟨by decide, by decide⟩ (by simp [gcat, gcI, gcL, gcF, gcD]) ⟨by decide, by decide⟩ hf (fun hf => m_X7_crash hfl hf)) rfl rfl (fun E g9 h9 => by
    by_cases e9 : E = "java/util/NoSuchElementException"
    · subst e9
      rw [if_pos rfl] at h9
      exact gx_catch (name := "java/util/NoSuchElementException") (pre := []) (x := ⟨0, 9, 12, 25⟩) (suf := [⟨0, 9, 15, 15⟩]) C ht (fun z hz => nomatch hz) (by decide) (by decide) tw_586 (by decide +kernel) (fun q9 => gg_astore_n (L' := [some (va_rf v0), some (.int v1), some (va_rf v2), some (va_rf (some q9))]) C dL_crash_12 (Or.inr (Or.inr ⟨_, rfl, gcat _⟩)) (by decide) rfl (gg_iconst (v := (1 : Int32)) C dL_crash_13 (by decide) (gg_iret C hr (by decide) (by decide) dL_crash_14 rfl h9)))
    rw [if_neg e9] at h9
    by_cases e9 : E = "java/lang/IllegalStateException"
    · subst e9
      rw [if_pos rfl] at h9
      exact gx_catch (name := "java/lang/IllegalStateException") (pre := [⟨0, 9, 12, 25⟩]) (x := ⟨0, 9, 15, 15⟩) (suf := []) C ht (by intro z hz; simp only [List.mem_cons, List.not_mem_nil, or_false] at hz; rcases hz with rfl <;> first | exact Or.inr ⟨by decide, "java/util/NoSuchElementException", tw_586, by decide +kernel⟩) (by decide) (by decide) tw_225 (by decide +kernel) (fun q9 => gg_astore_n (L' := [some (va_rf v0), some (.int v1), some (va_rf v2), some (va_rf (some q9))]) C dL_crash_15 (Or.inr (Or.inr ⟨_, rfl, gcat _⟩)) (by decide) rfl (gg_iconst (v := (2 : Int32)) C dL_crash_16 (by decide) (gg_iret C hr (by decide) (by decide) dL_crash_17 rfl h9)))
    rw [if_neg e9] at h9
    exact h9.elim) (fun i2 g1 hf => ?_)
  refine gg_i2l C dL_crash_7 ?_
  refine gg_last C dL_crash_8 hf (fun g3 hf => ?_)
  refine gg_goto (tgt := 18) C dL_crash_9 (by decide) ?_
  refine gg_iconst C dL_crash_18 (v := (0 : Int32)) (by decide) ?_
  exact gg_iret C hr (by decide) (by decide) dL_crash_19 rfl hf

def w_L_crashesIn (X : Cx) (post : Int32 → GM → Prop) (px : String → GM → Prop) (v0 : Option Nat) (v1 : Int32) (v2 : Option Nat) (g : GM) : Prop :=
  wIs g v0 7 (w_X7_crashesIn X (fun (i2 : Int32) (g1 : GM) => wAstJ g1 v2 (0 : Int32) ((i2).toInt64) (fun g3 => post (0 : Int32) g3)) (fun E g9 => if E = "java/util/NoSuchElementException" then post (1 : Int32) g9 else (False)) v0 v1 g)
abbrev rm_L_crashesIn : Room := { frames := 8, cells := 1, slots := 6, locals := 124 }
set_option maxHeartbeats 4000000 in
set_option maxRecDepth 100000 in
theorem m_L_crashesIn {X : Cx} {l : Launch} (hfl : l.stackTraces = false) {post : Int32 → GM → Prop} {px : String → GM → Prop} {v0 : Option Nat} {v1 : Int32} {v2 : Option Nat} {g : GM} (hf : w_L_crashesIn X post px v0 v1 v2 g) : vx_Met l yL_crashesIn (.codeWith yL_crashesIn cL_crashesIn 4 (some .int) [(0, 9, 12, 25)] :: TBL) rm_L_crashesIn (gPc X [va_rf v0, .int v1, va_rf v2] g) (qI X post) (gXC X px) rm_L_crashesIn.cells rm_L_crashesIn.slots (gA X) := by
  refine gg_enterW (hh := [(0, 9, 12, 25)]) (L := [some (va_rf v0), some (.int v1), some (va_rf v2), none]) hfl (by decide +kernel) (by simp [lg_sl, gcat, gcI, gcL, gcF, gcD]) (by simp [gll, lv_args, gcat, gcI, gcL, gcF, gcD]) ?_
  intro p e s m args below meth c C hr ht
  have C : FC X p l s m args meth c cL_crashesIn 4 "ReleasetrainLaw" := C
  unfold w_L_crashesIn at hf
  refine gg_aload_n C dL_crashesIn_0 rfl ?_
  refine gg_iconst C dL_crashesIn_1 (v := (0 : Int32)) (by decide) ?_
  refine gg_aload_n C dL_crashesIn_2 rfl ?_
  refine gg_iload_n C dL_crashesIn_3 rfl ?_
  refine gr_I (k' := 1) (n' := 6) (gk_V (ci := 7) (As := [.int v1]) (rest := [.int (0 : Int32), va_rf v2]) C dL_crashesIn_4 rfl rfl tw_938 tw_939 tw_940 tw_47 tw_941 gd_X7_crashesIn rfl ⟨by decide, by decide⟩ (by simp [gcat, gcI, gcL, gcF, gcD]) ⟨by decide, by decide⟩ hf (fun hf => m_X7_crashesIn hfl hf)) rfl rfl (fun E g9 h9 => by
    by_cases e9 : E = "java/util/NoSuchElementException"
    · subst e9
      rw [if_pos rfl] at h9
      exact gx_catch (name := "java/util/NoSuchElementException") (pre := []) (x := ⟨0, 9, 12, 25⟩) (suf := []) C ht (fun z hz => nomatch hz) (by decide) (by decide) tw_586 (by decide +kernel) (fun q9 => gg_astore_n (L' := [some (va_rf v0), some (.int v1), some (va_rf v2), some (va_rf (some q9))]) C dL_crashesIn_12 (Or.inr (Or.inr ⟨_, rfl, gcat _⟩)) (by decide) rfl (gg_iconst (v := (1 : Int32)) C dL_crashesIn_13 (by decide) (gg_iret C hr (by decide) (by decide) dL_crashesIn_14 rfl h9)))
    rw [if_neg e9] at h9
    exact h9.elim) (fun i2 g1 hf => ?_)
  refine gg_i2l C dL_crashesIn_7 ?_
  refine gg_last C dL_crashesIn_8 hf (fun g3 hf => ?_)
  refine gg_goto (tgt := 15) C dL_crashesIn_9 (by decide) ?_
  refine gg_iconst C dL_crashesIn_15 (v := (0 : Int32)) (by decide) ?_
  exact gg_iret C hr (by decide) (by decide) dL_crashesIn_16 rfl hf

def w_L_stackAt (X : Cx) (post : Int32 → GM → Prop) (px : String → GM → Prop) (v0 : Option Nat) (v1 : Int32) (v2 : Int32) (v3 : Option Nat) (g : GM) : Prop :=
  wIs g v0 7 (w_X7_stackAt X (fun (i2 : Int32) (g1 : GM) => wAstJ g1 v3 (0 : Int32) ((i2).toInt64) (fun g3 => post (0 : Int32) g3)) (fun E g9 => if E = "java/util/NoSuchElementException" then post (1 : Int32) g9 else (if E = "java/lang/IndexOutOfBoundsException" then post (2 : Int32) g9 else (False))) v0 v1 v2 g)
abbrev rm_L_stackAt : Room := { frames := 8, cells := 2, slots := 12, locals := 126 }
set_option maxHeartbeats 4000000 in
set_option maxRecDepth 100000 in
theorem m_L_stackAt {X : Cx} {l : Launch} (hfl : l.stackTraces = false) {post : Int32 → GM → Prop} {px : String → GM → Prop} {v0 : Option Nat} {v1 : Int32} {v2 : Int32} {v3 : Option Nat} {g : GM} (hf : w_L_stackAt X post px v0 v1 v2 v3 g) : vx_Met l yL_stackAt (.codeWith yL_stackAt cL_stackAt 5 (some .int) [(0, 10, 13, 25), (0, 10, 17, 109)] :: TBL) rm_L_stackAt (gPc X [va_rf v0, .int v1, .int v2, va_rf v3] g) (qI X post) (gXC X px) rm_L_stackAt.cells rm_L_stackAt.slots (gA X) := by
  refine gg_enterW (hh := [(0, 10, 13, 25), (0, 10, 17, 109)]) (L := [some (va_rf v0), some (.int v1), some (.int v2), some (va_rf v3), none]) hfl (by decide +kernel) (by simp [lg_sl, gcat, gcI, gcL, gcF, gcD]) (by simp [gll, lv_args, gcat, gcI, gcL, gcF, gcD]) ?_
  intro p e s m args below meth c C hr ht
  have C : FC X p l s m args meth c cL_stackAt 5 "ReleasetrainLaw" := C
  unfold w_L_stackAt at hf
  refine gg_aload_n C dL_stackAt_0 rfl ?_
  refine gg_iconst C dL_stackAt_1 (v := (0 : Int32)) (by decide) ?_
  refine gg_aload_n C dL_stackAt_2 rfl ?_
  refine gg_iload_n C dL_stackAt_3 rfl ?_
  refine gg_iload_n C dL_stackAt_4 rfl ?_
  refine gr_I (k' := 2) (n' := 12) (gk_V (ci := 7) (As := [.int v1, .int v2]) (rest := [.int (0 : Int32), va_rf v3]) C dL_stackAt_5 rfl rfl tw_974 tw_975 tw_976 tw_47 tw_977 gd_X7_stackAt rfl ⟨by decide, by decide⟩ (by simp [gcat, gcI, gcL, gcF, gcD]) ⟨by decide, by decide⟩ hf (fun hf => m_X7_stackAt hfl hf)) rfl rfl (fun E g9 h9 => by
    by_cases e9 : E = "java/util/NoSuchElementException"
    · subst e9
      rw [if_pos rfl] at h9
      exact gx_catch (name := "java/util/NoSuchElementException") (pre := []) (x := ⟨0, 10, 13, 25⟩) (suf := [⟨0, 10, 17, 109⟩]) C ht (fun z hz => nomatch hz) (by decide) (by decide) tw_586 (by decide +kernel) (fun q9 => gg_astore (L' := [some (va_rf v0), some (.int v1), some (.int v2), some (va_rf v3), some (va_rf (some q9))]) C dL_stackAt_13 (Or.inr (Or.inr ⟨_, rfl, gcat _⟩)) (by decide) rfl (gg_iconst (v := (1 : Int32)) C dL_stackAt_15 (by decide) (gg_iret C hr (by decide) (by decide) dL_stackAt_16 rfl h9)))
    rw [if_neg e9] at h9
    by_cases e9 : E = "java/lang/IndexOutOfBoundsException"
    · subst e9
      rw [if_pos rfl] at h9
      exact gx_catch (name := "java/lang/IndexOutOfBoundsException") (pre := [⟨0, 10, 13, 25⟩]) (x := ⟨0, 10, 17, 109⟩) (suf := []) C ht (by intro z hz; simp only [List.mem_cons, List.not_mem_nil, or_false] at hz; rcases hz with rfl <;> first | exact Or.inr ⟨by decide, "java/util/NoSuchElementException", tw_586, by decide +kernel⟩) (by decide) (by decide) tw_950 (by decide +kernel) (fun q9 => gg_astore (L' := [some (va_rf v0), some (.int v1), some (.int v2), some (va_rf v3), some (va_rf (some q9))]) C dL_stackAt_17 (Or.inr (Or.inr ⟨_, rfl, gcat _⟩)) (by decide) rfl (gg_iconst (v := (2 : Int32)) C dL_stackAt_19 (by decide) (gg_iret C hr (by decide) (by decide) dL_stackAt_20 rfl h9)))
    rw [if_neg e9] at h9
    exact h9.elim) (fun i2 g1 hf => ?_)
  refine gg_i2l C dL_stackAt_8 ?_
  refine gg_last C dL_stackAt_9 hf (fun g3 hf => ?_)
  refine gg_goto (tgt := 21) C dL_stackAt_10 (by decide) ?_
  refine gg_iconst C dL_stackAt_21 (v := (0 : Int32)) (by decide) ?_
  exact gg_iret C hr (by decide) (by decide) dL_stackAt_22 rfl hf

def w_L_likeness (X : Cx) (post : Int32 → GM → Prop) (px : String → GM → Prop) (v0 : Option Nat) (v1 : Int32) (v2 : Int32) (v3 : Option Nat) (g : GM) : Prop :=
  wIs g v0 7 (w_X7_likeness X (fun (x2 : UInt32) (g1 : GM) => vf_n64 (FP.f2d x2) ∧ wAstD g1 v3 (0 : Int32) (FP.f2d x2) (fun g3 => post (0 : Int32) g3)) (fun E g9 => if E = "java/util/NoSuchElementException" then post (1 : Int32) g9 else (False)) v0 v1 v2 g)
abbrev rm_L_likeness : Room := { frames := 8, cells := 2, slots := 12, locals := 126 }
set_option maxHeartbeats 4000000 in
set_option maxRecDepth 100000 in
theorem m_L_likeness {X : Cx} {l : Launch} (hfl : l.stackTraces = false) {post : Int32 → GM → Prop} {px : String → GM → Prop} {v0 : Option Nat} {v1 : Int32} {v2 : Int32} {v3 : Option Nat} {g : GM} (hf : w_L_likeness X post px v0 v1 v2 v3 g) : vx_Met l yL_likeness (.codeWith yL_likeness cL_likeness 5 (some .int) [(0, 10, 13, 25)] :: TBL) rm_L_likeness (gPc X [va_rf v0, .int v1, .int v2, va_rf v3] g) (qI X post) (gXC X px) rm_L_likeness.cells rm_L_likeness.slots (gA X) := by
  refine gg_enterW (hh := [(0, 10, 13, 25)]) (L := [some (va_rf v0), some (.int v1), some (.int v2), some (va_rf v3), none]) hfl (by decide +kernel) (by simp [lg_sl, gcat, gcI, gcL, gcF, gcD]) (by simp [gll, lv_args, gcat, gcI, gcL, gcF, gcD]) ?_
  intro p e s m args below meth c C hr ht
  have C : FC X p l s m args meth c cL_likeness 5 "ReleasetrainLaw" := C
  unfold w_L_likeness at hf
  refine gg_aload_n C dL_likeness_0 rfl ?_
  refine gg_iconst C dL_likeness_1 (v := (0 : Int32)) (by decide) ?_
  refine gg_aload_n C dL_likeness_2 rfl ?_
  refine gg_iload_n C dL_likeness_3 rfl ?_
  refine gg_iload_n C dL_likeness_4 rfl ?_
  refine gr_F (k' := 2) (n' := 12) (gk_V (ci := 7) (As := [.int v1, .int v2]) (rest := [.int (0 : Int32), va_rf v3]) C dL_likeness_5 rfl rfl tw_994 tw_995 tw_996 tw_47 tw_997 gd_X7_likeness rfl ⟨by decide, by decide⟩ (by simp [gcat, gcI, gcL, gcF, gcD]) ⟨by decide, by decide⟩ hf (fun hf => m_X7_likeness hfl hf)) rfl rfl (fun E g9 h9 => by
    by_cases e9 : E = "java/util/NoSuchElementException"
    · subst e9
      rw [if_pos rfl] at h9
      exact gx_catch (name := "java/util/NoSuchElementException") (pre := []) (x := ⟨0, 10, 13, 25⟩) (suf := []) C ht (fun z hz => nomatch hz) (by decide) (by decide) tw_586 (by decide +kernel) (fun q9 => gg_astore (L' := [some (va_rf v0), some (.int v1), some (.int v2), some (va_rf v3), some (va_rf (some q9))]) C dL_likeness_13 (Or.inr (Or.inr ⟨_, rfl, gcat _⟩)) (by decide) rfl (gg_iconst (v := (1 : Int32)) C dL_likeness_15 (by decide) (gg_iret C hr (by decide) (by decide) dL_likeness_16 rfl h9)))
    rw [if_neg e9] at h9
    exact h9.elim) (fun x2 g1 hf => ?_)
  refine gg_f2d C dL_likeness_8 hf.1 ?_
  replace hf := hf.2
  refine gg_dast C dL_likeness_9 hf (fun g3 hf => ?_)
  refine gg_goto (tgt := 17) C dL_likeness_10 (by decide) ?_
  refine gg_iconst C dL_likeness_17 (v := (0 : Int32)) (by decide) ?_
  exact gg_iret C hr (by decide) (by decide) dL_likeness_18 rfl hf

def w_L_setBound (X : Cx) (post : Int32 → GM → Prop) (px : String → GM → Prop) (v0 : Option Nat) (v1 : Int32) (v2 : Option Nat) (g : GM) : Prop :=
  wIs g v0 7 (w_X7_setBound X (fun (i2 : Int32) (g1 : GM) => wAstJ g1 v2 (0 : Int32) ((i2).toInt64) (fun g3 => post (0 : Int32) g3)) (fun E g9 => if E = "java/lang/IllegalArgumentException" then post (1 : Int32) g9 else (False)) v0 v1 g)
abbrev rm_L_setBound : Room := { frames := 7, cells := 1, slots := 6, locals := 104 }
set_option maxHeartbeats 4000000 in
set_option maxRecDepth 100000 in
theorem m_L_setBound {X : Cx} {l : Launch} (hfl : l.stackTraces = false) {post : Int32 → GM → Prop} {px : String → GM → Prop} {v0 : Option Nat} {v1 : Int32} {v2 : Option Nat} {g : GM} (hf : w_L_setBound X post px v0 v1 v2 g) : vx_Met l yL_setBound (.codeWith yL_setBound cL_setBound 4 (some .int) [(0, 9, 12, 13)] :: TBL) rm_L_setBound (gPc X [va_rf v0, .int v1, va_rf v2] g) (qI X post) (gXC X px) rm_L_setBound.cells rm_L_setBound.slots (gA X) := by
  refine gg_enterW (hh := [(0, 9, 12, 13)]) (L := [some (va_rf v0), some (.int v1), some (va_rf v2), none]) hfl (by decide +kernel) (by simp [lg_sl, gcat, gcI, gcL, gcF, gcD]) (by simp [gll, lv_args, gcat, gcI, gcL, gcF, gcD]) ?_
  intro p e s m args below meth c C hr ht
  have C : FC X p l s m args meth c cL_setBound 4 "ReleasetrainLaw" := C
  unfold w_L_setBound at hf
  refine gg_aload_n C dL_setBound_0 rfl ?_
  refine gg_iconst C dL_setBound_1 (v := (0 : Int32)) (by decide) ?_
  refine gg_aload_n C dL_setBound_2 rfl ?_
  refine gg_iload_n C dL_setBound_3 rfl ?_
  refine gr_I (k' := 1) (n' := 6) (gk_V (ci := 7) (As := [.int v1]) (rest := [.int (0 : Int32), va_rf v2]) C dL_setBound_4 rfl rfl tw_1001 tw_1002 tw_1003 tw_47 tw_1004 gd_X7_setBound rfl ⟨by decide, by decide⟩ (by simp [gcat, gcI, gcL, gcF, gcD]) ⟨by decide, by decide⟩ hf (fun hf => m_X7_setBound hfl hf)) rfl rfl (fun E g9 h9 => by
    by_cases e9 : E = "java/lang/IllegalArgumentException"
    · subst e9
      rw [if_pos rfl] at h9
      exact gx_catch (name := "java/lang/IllegalArgumentException") (pre := []) (x := ⟨0, 9, 12, 13⟩) (suf := []) C ht (fun z hz => nomatch hz) (by decide) (by decide) tw_224 (by decide +kernel) (fun q9 => gg_astore_n (L' := [some (va_rf v0), some (.int v1), some (va_rf v2), some (va_rf (some q9))]) C dL_setBound_12 (Or.inr (Or.inr ⟨_, rfl, gcat _⟩)) (by decide) rfl (gg_iconst (v := (1 : Int32)) C dL_setBound_13 (by decide) (gg_iret C hr (by decide) (by decide) dL_setBound_14 rfl h9)))
    rw [if_neg e9] at h9
    exact h9.elim) (fun i2 g1 hf => ?_)
  refine gg_i2l C dL_setBound_7 ?_
  refine gg_last C dL_setBound_8 hf (fun g3 hf => ?_)
  refine gg_goto (tgt := 15) C dL_setBound_9 (by decide) ?_
  refine gg_iconst C dL_setBound_15 (v := (0 : Int32)) (by decide) ?_
  exact gg_iret C hr (by decide) (by decide) dL_setBound_16 rfl hf

def w_L_worstGroup (X : Cx) (post : Int32 → GM → Prop) (px : String → GM → Prop) (v0 : Option Nat) (v1 : Option Nat) (g : GM) : Prop :=
  wIs g v0 7 (w_X7_worstGroup X (fun (i2 : Int32) (g1 : GM) => wAstJ g1 v1 (0 : Int32) ((i2).toInt64) (fun g3 => post (0 : Int32) g3)) (fun E g9 => if E = "java/lang/IllegalStateException" then post (1 : Int32) g9 else (False)) v0 g)
abbrev rm_L_worstGroup : Room := { frames := 7, cells := 1, slots := 6, locals := 105 }
set_option maxHeartbeats 4000000 in
set_option maxRecDepth 100000 in
theorem m_L_worstGroup {X : Cx} {l : Launch} (hfl : l.stackTraces = false) {post : Int32 → GM → Prop} {px : String → GM → Prop} {v0 : Option Nat} {v1 : Option Nat} {g : GM} (hf : w_L_worstGroup X post px v0 v1 g) : vx_Met l yL_worstGroup (.codeWith yL_worstGroup cL_worstGroup 3 (some .int) [(0, 8, 11, 15)] :: TBL) rm_L_worstGroup (gPc X [va_rf v0, va_rf v1] g) (qI X post) (gXC X px) rm_L_worstGroup.cells rm_L_worstGroup.slots (gA X) := by
  refine gg_enterW (hh := [(0, 8, 11, 15)]) (L := [some (va_rf v0), some (va_rf v1), none]) hfl (by decide +kernel) (by simp [lg_sl, gcat, gcI, gcL, gcF, gcD]) (by simp [gll, lv_args, gcat, gcI, gcL, gcF, gcD]) ?_
  intro p e s m args below meth c C hr ht
  have C : FC X p l s m args meth c cL_worstGroup 3 "ReleasetrainLaw" := C
  unfold w_L_worstGroup at hf
  refine gg_aload_n C dL_worstGroup_0 rfl ?_
  refine gg_iconst C dL_worstGroup_1 (v := (0 : Int32)) (by decide) ?_
  refine gg_aload_n C dL_worstGroup_2 rfl ?_
  refine gr_I (k' := 1) (n' := 6) (gk_V (ci := 7) (As := []) (rest := [.int (0 : Int32), va_rf v1]) C dL_worstGroup_3 rfl rfl tw_1019 tw_1020 tw_1021 tw_47 tw_1022 gd_X7_worstGroup rfl ⟨by decide, by decide⟩ (by simp [gcat, gcI, gcL, gcF, gcD]) ⟨by decide, by decide⟩ hf (fun hf => m_X7_worstGroup hfl hf)) rfl rfl (fun E g9 h9 => by
    by_cases e9 : E = "java/lang/IllegalStateException"
    · subst e9
      rw [if_pos rfl] at h9
      exact gx_catch (name := "java/lang/IllegalStateException") (pre := []) (x := ⟨0, 8, 11, 15⟩) (suf := []) C ht (fun z hz => nomatch hz) (by decide) (by decide) tw_225 (by decide +kernel) (fun q9 => gg_astore_n (L' := [some (va_rf v0), some (va_rf v1), some (va_rf (some q9))]) C dL_worstGroup_11 (Or.inr (Or.inr ⟨_, rfl, gcat _⟩)) (by decide) rfl (gg_iconst (v := (1 : Int32)) C dL_worstGroup_12 (by decide) (gg_iret C hr (by decide) (by decide) dL_worstGroup_13 rfl h9)))
    rw [if_neg e9] at h9
    exact h9.elim) (fun i2 g1 hf => ?_)
  refine gg_i2l C dL_worstGroup_6 ?_
  refine gg_last C dL_worstGroup_7 hf (fun g3 hf => ?_)
  refine gg_goto (tgt := 14) C dL_worstGroup_8 (by decide) ?_
  refine gg_iconst C dL_worstGroup_14 (v := (0 : Int32)) (by decide) ?_
  exact gg_iret C hr (by decide) (by decide) dL_worstGroup_15 rfl hf

def w_L_buildsIn (X : Cx) (post : Int32 → GM → Prop) (px : String → GM → Prop) (v0 : Option Nat) (v1 : Int32) (v2 : Option Nat) (g : GM) : Prop :=
  wIs g v0 7 (w_X7_buildsIn X (fun (i2 : Int32) (g1 : GM) => wAstJ g1 v2 (0 : Int32) ((i2).toInt64) (fun g3 => post (0 : Int32) g3)) (fun E g9 => if E = "java/util/NoSuchElementException" then post (1 : Int32) g9 else (False)) v0 v1 g)
abbrev rm_L_buildsIn : Room := { frames := 8, cells := 1, slots := 6, locals := 124 }
set_option maxHeartbeats 4000000 in
set_option maxRecDepth 100000 in
theorem m_L_buildsIn {X : Cx} {l : Launch} (hfl : l.stackTraces = false) {post : Int32 → GM → Prop} {px : String → GM → Prop} {v0 : Option Nat} {v1 : Int32} {v2 : Option Nat} {g : GM} (hf : w_L_buildsIn X post px v0 v1 v2 g) : vx_Met l yL_buildsIn (.codeWith yL_buildsIn cL_buildsIn 4 (some .int) [(0, 9, 12, 25)] :: TBL) rm_L_buildsIn (gPc X [va_rf v0, .int v1, va_rf v2] g) (qI X post) (gXC X px) rm_L_buildsIn.cells rm_L_buildsIn.slots (gA X) := by
  refine gg_enterW (hh := [(0, 9, 12, 25)]) (L := [some (va_rf v0), some (.int v1), some (va_rf v2), none]) hfl (by decide +kernel) (by simp [lg_sl, gcat, gcI, gcL, gcF, gcD]) (by simp [gll, lv_args, gcat, gcI, gcL, gcF, gcD]) ?_
  intro p e s m args below meth c C hr ht
  have C : FC X p l s m args meth c cL_buildsIn 4 "ReleasetrainLaw" := C
  unfold w_L_buildsIn at hf
  refine gg_aload_n C dL_buildsIn_0 rfl ?_
  refine gg_iconst C dL_buildsIn_1 (v := (0 : Int32)) (by decide) ?_
  refine gg_aload_n C dL_buildsIn_2 rfl ?_
  refine gg_iload_n C dL_buildsIn_3 rfl ?_
  refine gr_I (k' := 1) (n' := 6) (gk_V (ci := 7) (As := [.int v1]) (rest := [.int (0 : Int32), va_rf v2]) C dL_buildsIn_4 rfl rfl tw_1031 tw_1032 tw_1033 tw_47 tw_1034 gd_X7_buildsIn rfl ⟨by decide, by decide⟩ (by simp [gcat, gcI, gcL, gcF, gcD]) ⟨by decide, by decide⟩ hf (fun hf => m_X7_buildsIn hfl hf)) rfl rfl (fun E g9 h9 => by
    by_cases e9 : E = "java/util/NoSuchElementException"
    · subst e9
      rw [if_pos rfl] at h9
      exact gx_catch (name := "java/util/NoSuchElementException") (pre := []) (x := ⟨0, 9, 12, 25⟩) (suf := []) C ht (fun z hz => nomatch hz) (by decide) (by decide) tw_586 (by decide +kernel) (fun q9 => gg_astore_n (L' := [some (va_rf v0), some (.int v1), some (va_rf v2), some (va_rf (some q9))]) C dL_buildsIn_12 (Or.inr (Or.inr ⟨_, rfl, gcat _⟩)) (by decide) rfl (gg_iconst (v := (1 : Int32)) C dL_buildsIn_13 (by decide) (gg_iret C hr (by decide) (by decide) dL_buildsIn_14 rfl h9)))
    rw [if_neg e9] at h9
    exact h9.elim) (fun i2 g1 hf => ?_)
  refine gg_i2l C dL_buildsIn_7 ?_
  refine gg_last C dL_buildsIn_8 hf (fun g3 hf => ?_)
  refine gg_goto (tgt := 15) C dL_buildsIn_9 (by decide) ?_
  refine gg_iconst C dL_buildsIn_15 (v := (0 : Int32)) (by decide) ?_
  exact gg_iret C hr (by decide) (by decide) dL_buildsIn_16 rfl hf

def w_L_setRate (X : Cx) (post : Int32 → GM → Prop) (px : String → GM → Prop) (v0 : Option Nat) (v1 : Int32) (v2 : Option Nat) (g : GM) : Prop :=
  wIs g v0 7 (w_X7_setRate X (fun (i2 : Int32) (g1 : GM) => wAstJ g1 v2 (0 : Int32) ((i2).toInt64) (fun g3 => post (0 : Int32) g3)) (fun E g9 => if E = "java/lang/IllegalArgumentException" then post (1 : Int32) g9 else (False)) v0 v1 g)
abbrev rm_L_setRate : Room := { frames := 7, cells := 1, slots := 6, locals := 104 }
set_option maxHeartbeats 4000000 in
set_option maxRecDepth 100000 in
theorem m_L_setRate {X : Cx} {l : Launch} (hfl : l.stackTraces = false) {post : Int32 → GM → Prop} {px : String → GM → Prop} {v0 : Option Nat} {v1 : Int32} {v2 : Option Nat} {g : GM} (hf : w_L_setRate X post px v0 v1 v2 g) : vx_Met l yL_setRate (.codeWith yL_setRate cL_setRate 4 (some .int) [(0, 9, 12, 13)] :: TBL) rm_L_setRate (gPc X [va_rf v0, .int v1, va_rf v2] g) (qI X post) (gXC X px) rm_L_setRate.cells rm_L_setRate.slots (gA X) := by
  refine gg_enterW (hh := [(0, 9, 12, 13)]) (L := [some (va_rf v0), some (.int v1), some (va_rf v2), none]) hfl (by decide +kernel) (by simp [lg_sl, gcat, gcI, gcL, gcF, gcD]) (by simp [gll, lv_args, gcat, gcI, gcL, gcF, gcD]) ?_
  intro p e s m args below meth c C hr ht
  have C : FC X p l s m args meth c cL_setRate 4 "ReleasetrainLaw" := C
  unfold w_L_setRate at hf
  refine gg_aload_n C dL_setRate_0 rfl ?_
  refine gg_iconst C dL_setRate_1 (v := (0 : Int32)) (by decide) ?_
  refine gg_aload_n C dL_setRate_2 rfl ?_
  refine gg_iload_n C dL_setRate_3 rfl ?_
  refine gr_I (k' := 1) (n' := 6) (gk_V (ci := 7) (As := [.int v1]) (rest := [.int (0 : Int32), va_rf v2]) C dL_setRate_4 rfl rfl tw_1038 tw_1039 tw_1040 tw_47 tw_1041 gd_X7_setRate rfl ⟨by decide, by decide⟩ (by simp [gcat, gcI, gcL, gcF, gcD]) ⟨by decide, by decide⟩ hf (fun hf => m_X7_setRate hfl hf)) rfl rfl (fun E g9 h9 => by
    by_cases e9 : E = "java/lang/IllegalArgumentException"
    · subst e9
      rw [if_pos rfl] at h9
      exact gx_catch (name := "java/lang/IllegalArgumentException") (pre := []) (x := ⟨0, 9, 12, 13⟩) (suf := []) C ht (fun z hz => nomatch hz) (by decide) (by decide) tw_224 (by decide +kernel) (fun q9 => gg_astore_n (L' := [some (va_rf v0), some (.int v1), some (va_rf v2), some (va_rf (some q9))]) C dL_setRate_12 (Or.inr (Or.inr ⟨_, rfl, gcat _⟩)) (by decide) rfl (gg_iconst (v := (1 : Int32)) C dL_setRate_13 (by decide) (gg_iret C hr (by decide) (by decide) dL_setRate_14 rfl h9)))
    rw [if_neg e9] at h9
    exact h9.elim) (fun i2 g1 hf => ?_)
  refine gg_i2l C dL_setRate_7 ?_
  refine gg_last C dL_setRate_8 hf (fun g3 hf => ?_)
  refine gg_goto (tgt := 15) C dL_setRate_9 (by decide) ?_
  refine gg_iconst C dL_setRate_15 (v := (0 : Int32)) (by decide) ?_
  exact gg_iret C hr (by decide) (by decide) dL_setRate_16 rfl hf

def w_L_crashRate (X : Cx) (post : Int32 → GM → Prop) (px : String → GM → Prop) (v0 : Option Nat) (v1 : Int32) (v2 : Option Nat) (g : GM) : Prop :=
  wIs g v0 7 (w_X7_crashRate X (fun (x2 : UInt32) (g1 : GM) => vf_n64 (FP.f2d x2) ∧ wAstD g1 v2 (0 : Int32) (FP.f2d x2) (fun g3 => post (0 : Int32) g3)) (fun E g9 => if E = "java/util/NoSuchElementException" then post (1 : Int32) g9 else (False)) v0 v1 g)
abbrev rm_L_crashRate : Room := { frames := 8, cells := 1, slots := 6, locals := 124 }
set_option maxHeartbeats 4000000 in
set_option maxRecDepth 100000 in
theorem m_L_crashRate {X : Cx} {l : Launch} (hfl : l.stackTraces = false) {post : Int32 → GM → Prop} {px : String → GM → Prop} {v0 : Option Nat} {v1 : Int32} {v2 : Option Nat} {g : GM} (hf : w_L_crashRate X post px v0 v1 v2 g) : vx_Met l yL_crashRate (.codeWith yL_crashRate cL_crashRate 4 (some .int) [(0, 9, 12, 25)] :: TBL) rm_L_crashRate (gPc X [va_rf v0, .int v1, va_rf v2] g) (qI X post) (gXC X px) rm_L_crashRate.cells rm_L_crashRate.slots (gA X) := by
  refine gg_enterW (hh := [(0, 9, 12, 25)]) (L := [some (va_rf v0), some (.int v1), some (va_rf v2), none]) hfl (by decide +kernel) (by simp [lg_sl, gcat, gcI, gcL, gcF, gcD]) (by simp [gll, lv_args, gcat, gcI, gcL, gcF, gcD]) ?_
  intro p e s m args below meth c C hr ht
  have C : FC X p l s m args meth c cL_crashRate 4 "ReleasetrainLaw" := C
  unfold w_L_crashRate at hf
  refine gg_aload_n C dL_crashRate_0 rfl ?_
  refine gg_iconst C dL_crashRate_1 (v := (0 : Int32)) (by decide) ?_
  refine gg_aload_n C dL_crashRate_2 rfl ?_
  refine gg_iload_n C dL_crashRate_3 rfl ?_
  refine gr_F (k' := 1) (n' := 6) (gk_V (ci := 7) (As := [.int v1]) (rest := [.int (0 : Int32), va_rf v2]) C dL_crashRate_4 rfl rfl tw_1045 tw_1046 tw_1047 tw_47 tw_1048 gd_X7_crashRate rfl ⟨by decide, by decide⟩ (by simp [gcat, gcI, gcL, gcF, gcD]) ⟨by decide, by decide⟩ hf (fun hf => m_X7_crashRate hfl hf)) rfl rfl (fun E g9 h9 => by
    by_cases e9 : E = "java/util/NoSuchElementException"
    · subst e9
      rw [if_pos rfl] at h9
      exact gx_catch (name := "java/util/NoSuchElementException") (pre := []) (x := ⟨0, 9, 12, 25⟩) (suf := []) C ht (fun z hz => nomatch hz) (by decide) (by decide) tw_586 (by decide +kernel) (fun q9 => gg_astore_n (L' := [some (va_rf v0), some (.int v1), some (va_rf v2), some (va_rf (some q9))]) C dL_crashRate_12 (Or.inr (Or.inr ⟨_, rfl, gcat _⟩)) (by decide) rfl (gg_iconst (v := (1 : Int32)) C dL_crashRate_13 (by decide) (gg_iret C hr (by decide) (by decide) dL_crashRate_14 rfl h9)))
    rw [if_neg e9] at h9
    exact h9.elim) (fun x2 g1 hf => ?_)
  refine gg_f2d C dL_crashRate_7 hf.1 ?_
  replace hf := hf.2
  refine gg_dast C dL_crashRate_8 hf (fun g3 hf => ?_)
  refine gg_goto (tgt := 15) C dL_crashRate_9 (by decide) ?_
  refine gg_iconst C dL_crashRate_15 (v := (0 : Int32)) (by decide) ?_
  exact gg_iret C hr (by decide) (by decide) dL_crashRate_16 rfl hf

def w_L_rate (X : Cx) (post : Int32 → GM → Prop) (px : String → GM → Prop) (v0 : Option Nat) (v1 : Int32) (v2 : Int32) (v3 : Option Nat) (g : GM) : Prop :=
  wIs g v0 7 (w_X7_rate X (fun (i2 : Int32) (g1 : GM) => wAstJ g1 v3 (0 : Int32) ((i2).toInt64) (fun g3 => post (0 : Int32) g3)) (fun E g9 => if E = "java/util/NoSuchElementException" then post (1 : Int32) g9 else (if E = "java/lang/IllegalArgumentException" then post (2 : Int32) g9 else (if E = "java/lang/IllegalStateException" then post (3 : Int32) g9 else (False)))) v0 v1 v2 g)
abbrev rm_L_rate : Room := { frames := 8, cells := 2, slots := 12, locals := 128 }
set_option maxHeartbeats 4000000 in
set_option maxRecDepth 100000 in
theorem m_L_rate {X : Cx} {l : Launch} (hfl : l.stackTraces = false) {post : Int32 → GM → Prop} {px : String → GM → Prop} {v0 : Option Nat} {v1 : Int32} {v2 : Int32} {v3 : Option Nat} {g : GM} (hf : w_L_rate X post px v0 v1 v2 v3 g) : vx_Met l yL_rate (.codeWith yL_rate cL_rate 5 (some .int) [(0, 10, 13, 25), (0, 10, 17, 13), (0, 10, 21, 15)] :: TBL) rm_L_rate (gPc X [va_rf v0, .int v1, .int v2, va_rf v3] g) (qI X post) (gXC X px) rm_L_rate.cells rm_L_rate.slots (gA X) := by
  refine gg_enterW (hh := [(0, 10, 13, 25), (0, 10, 17, 13), (0, 10, 21, 15)]) (L := [some (va_rf v0), some (.int v1), some (.int v2), some (va_rf v3), none]) hfl (by decide +kernel) (by simp [lg_sl, gcat, gcI, gcL, gcF, gcD]) (by simp [gll, lv_args, gcat, gcI, gcL, gcF, gcD]) ?_
  intro p e s m args below meth c C hr ht
  have C : FC X p l s m args meth c cL_rate 5 "ReleasetrainLaw" := C
  unfold w_L_rate at hf
  refine gg_aload_n C dL_rate_0 rfl ?_
  refine gg_iconst C dL_rate_1 (v := (0 : Int32)) (by decide) ?_
  refine gg_aload_n C dL_rate_2 rfl ?_
  refine gg_iload_n C dL_rate_3 rfl ?_
  refine gg_iload_n C dL_rate_4 rfl ?_
  refine gr_I (k' := 2) (n' := 12) (gk_V (ci := 7) (As := [.int v1, .int v2]) (rest := [.int (0 : Int32), va_rf v3]) C dL_rate_5 rfl rfl tw_1052 tw_1053 tw_1054 tw_47 tw_1055 gd_X7_rate rfl ⟨by decide, by decide⟩ (by simp [gcat, gcI, gcL, gcF, gcD]) ⟨by decide, by decide⟩ hf (fun hf => m_X7_rate hfl hf)) rfl rfl (fun E g9 h9 => by
    by_cases e9 : E = "java/util/NoSuchElementException"
    · subst e9
      rw [if_pos rfl] at h9
      exact gx_catch (name := "java/util/NoSuchElementException") (pre := []) (x := ⟨0, 10, 13, 25⟩) (suf := [⟨0, 10, 17, 13⟩, ⟨0, 10, 21, 15⟩]) C ht (fun z hz => nomatch hz) (by decide) (by decide) tw_586 (by decide +kernel) (fun q9 => gg_astore (L' := [some (va_rf v0), some (.int v1), some (.int v2), some (va_rf v3), some (va_rf (some q9))]) C dL_rate_13 (Or.inr (Or.inr ⟨_, rfl, gcat _⟩)) (by decide) rfl (gg_iconst (v := (1 : Int32)) C dL_rate_15 (by decide) (gg_iret C hr (by decide) (by decide) dL_rate_16 rfl h9)))
    rw [if_neg e9] at h9
    by_cases e9 : E = "java/lang/IllegalArgumentException"
    · subst e9
      rw [if_pos rfl] at h9
      exact gx_catch (name := "java/lang/IllegalArgumentException") (pre := [⟨0, 10, 13, 25⟩]) (x := ⟨0, 10, 17, 13⟩) (suf := [⟨0, 10, 21, 15⟩]) C ht (by intro z hz; simp only [List.mem_cons, List.not_mem_nil, or_false] at hz; rcases hz with rfl <;> first | exact Or.inr ⟨by decide, "java/util/NoSuchElementException", tw_586, by decide +kernel⟩) (by decide) (by decide) tw_224 (by decide +kernel) (fun q9 => gg_astore (L' := [some (va_rf v0), some (.int v1), some (.int v2), some (va_rf v3), some (va_rf (some q9))]) C dL_rate_17 (Or.inr (Or.inr ⟨_, rfl, gcat _⟩)) (by decide) rfl (gg_iconst (v := (2 : Int32)) C dL_rate_19 (by decide) (gg_iret C hr (by decide) (by decide) dL_rate_20 rfl h9)))
    rw [if_neg e9] at h9
    by_cases e9 : E = "java/lang/IllegalStateException"
    · subst e9
      rw [if_pos rfl] at h9
      exact gx_catch (name := "java/lang/IllegalStateException") (pre := [⟨0, 10, 13, 25⟩, ⟨0, 10, 17, 13⟩]) (x := ⟨0, 10, 21, 15⟩) (suf := []) C ht (by intro z hz; simp only [List.mem_cons, List.not_mem_nil, or_false] at hz; rcases hz with rfl | rfl <;> first | exact Or.inr ⟨by decide, "java/util/NoSuchElementException", tw_586, by decide +kernel⟩ | exact Or.inr ⟨by decide, "java/lang/IllegalArgumentException", tw_224, by decide +kernel⟩) (by decide) (by decide) tw_225 (by decide +kernel) (fun q9 => gg_astore (L' := [some (va_rf v0), some (.int v1), some (.int v2), some (va_rf v3), some (va_rf (some q9))]) C dL_rate_21 (Or.inr (Or.inr ⟨_, rfl, gcat _⟩)) (by decide) rfl (gg_iconst (v := (3 : Int32)) C dL_rate_23 (by decide) (gg_iret C hr (by decide) (by decide) dL_rate_24 rfl h9)))
    rw [if_neg e9] at h9
    exact h9.elim) (fun i2 g1 hf => ?_)
  refine gg_i2l C dL_rate_8 ?_
  refine gg_last C dL_rate_9 hf (fun g3 hf => ?_)
  refine gg_goto (tgt := 25) C dL_rate_10 (by decide) ?_
  refine gg_iconst C dL_rate_25 (v := (0 : Int32)) (by decide) ?_
  exact gg_iret C hr (by decide) (by decide) dL_rate_26 rfl hf

def w_L_rating (X : Cx) (post : Int32 → GM → Prop) (px : String → GM → Prop) (v0 : Option Nat) (v1 : Int32) (v2 : Option Nat) (g : GM) : Prop :=
  wIs g v0 7 (w_X7_rating X (fun (z2 : UInt64) (g1 : GM) => wAstD g1 v2 (0 : Int32) z2 (fun g3 => post (0 : Int32) g3)) (fun E g9 => if E = "java/util/NoSuchElementException" then post (1 : Int32) g9 else (if E = "java/lang/ArithmeticException" then post (2 : Int32) g9 else (False))) v0 v1 g)
abbrev rm_L_rating : Room := { frames := 9, cells := 2, slots := 12, locals := 146 }
set_option maxHeartbeats 4000000 in
set_option maxRecDepth 100000 in
theorem m_L_rating {X : Cx} {l : Launch} (hfl : l.stackTraces = false) {post : Int32 → GM → Prop} {px : String → GM → Prop} {v0 : Option Nat} {v1 : Int32} {v2 : Option Nat} {g : GM} (hf : w_L_rating X post px v0 v1 v2 g) : vx_Met l yL_rating (.codeWith yL_rating cL_rating 4 (some .int) [(0, 8, 11, 25), (0, 8, 14, 138)] :: TBL) rm_L_rating (gPc X [va_rf v0, .int v1, va_rf v2] g) (qI X post) (gXC X px) rm_L_rating.cells rm_L_rating.slots (gA X) := by
  refine gg_enterW (hh := [(0, 8, 11, 25), (0, 8, 14, 138)]) (L := [some (va_rf v0), some (.int v1), some (va_rf v2), none]) hfl (by decide +kernel) (by simp [lg_sl, gcat, gcI, gcL, gcF, gcD]) (by simp [gll, lv_args, gcat, gcI, gcL, gcF, gcD]) ?_
  intro p e s m args below meth c C hr ht
  have C : FC X p l s m args meth c cL_rating 4 "ReleasetrainLaw" := C
  unfold w_L_rating at hf
  refine gg_aload_n C dL_rating_0 rfl ?_
  refine gg_iconst C dL_rating_1 (v := (0 : Int32)) (by decide) ?_
  refine gg_aload_n C dL_rating_2 rfl ?_
  refine gg_iload_n C dL_rating_3 rfl ?_
  refine gr_D (k' := 2) (n' := 12) (gk_V (ci := 7) (As := [.int v1]) (rest := [.int (0 : Int32), va_rf v2]) C dL_rating_4 rfl rfl tw_1074 tw_1075 tw_1076 tw_47 tw_1077 gd_X7_rating rfl ⟨by decide, by decide⟩ (by simp [gcat, gcI, gcL, gcF, gcD]) ⟨by decide, by decide⟩ hf (fun hf => m_X7_rating hfl hf)) rfl rfl (fun E g9 h9 => by
    by_cases e9 : E = "java/util/NoSuchElementException"
    · subst e9
      rw [if_pos rfl] at h9
      exact gx_catch (name := "java/util/NoSuchElementException") (pre := []) (x := ⟨0, 8, 11, 25⟩) (suf := [⟨0, 8, 14, 138⟩]) C ht (fun z hz => nomatch hz) (by decide) (by decide) tw_586 (by decide +kernel) (fun q9 => gg_astore_n (L' := [some (va_rf v0), some (.int v1), some (va_rf v2), some (va_rf (some q9))]) C dL_rating_11 (Or.inr (Or.inr ⟨_, rfl, gcat _⟩)) (by decide) rfl (gg_iconst (v := (1 : Int32)) C dL_rating_12 (by decide) (gg_iret C hr (by decide) (by decide) dL_rating_13 rfl h9)))
    rw [if_neg e9] at h9
    by_cases e9 : E = "java/lang/ArithmeticException"
    · subst e9
      rw [if_pos rfl] at h9
      exact gx_catch (name := "java/lang/ArithmeticException") (pre := [⟨0, 8, 11, 25⟩]) (x := ⟨0, 8, 14, 138⟩) (suf := []) C ht (by intro z hz; simp only [List.mem_cons, List.not_mem_nil, or_false] at hz; rcases hz with rfl <;> first | exact Or.inr ⟨by decide, "java/util/NoSuchElementException", tw_586, by decide +kernel⟩) (by decide) (by decide) tw_1060 (by decide +kernel) (fun q9 => gg_astore_n (L' := [some (va_rf v0), some (.int v1), some (va_rf v2), some (va_rf (some q9))]) C dL_rating_14 (Or.inr (Or.inr ⟨_, rfl, gcat _⟩)) (by decide) rfl (gg_iconst (v := (2 : Int32)) C dL_rating_15 (by decide) (gg_iret C hr (by decide) (by decide) dL_rating_16 rfl h9)))
    rw [if_neg e9] at h9
    exact h9.elim) (fun z2 g1 hf => ?_)
  refine gg_dast C dL_rating_7 hf (fun g3 hf => ?_)
  refine gg_goto (tgt := 17) C dL_rating_8 (by decide) ?_
  refine gg_iconst C dL_rating_17 (v := (0 : Int32)) (by decide) ?_
  exact gg_iret C hr (by decide) (by decide) dL_rating_18 rfl hf

def w_L_ratingBits (X : Cx) (post : Int32 → GM → Prop) (px : String → GM → Prop) (v0 : Option Nat) (v1 : Int32) (v2 : Option Nat) (g : GM) : Prop :=
  wIs g v0 7 (w_X7_ratingBits X (fun (y2 : Int64) (g1 : GM) => wAstJ g1 v2 (0 : Int32) y2 (fun g3 => post (0 : Int32) g3)) (fun E g9 => if E = "java/util/NoSuchElementException" then post (1 : Int32) g9 else (if E = "java/lang/ArithmeticException" then post (2 : Int32) g9 else (False))) v0 v1 g)
abbrev rm_L_ratingBits : Room := { frames := 9, cells := 2, slots := 12, locals := 146 }
set_option maxHeartbeats 4000000 in
set_option maxRecDepth 100000 in
theorem m_L_ratingBits {X : Cx} {l : Launch} (hfl : l.stackTraces = false) {post : Int32 → GM → Prop} {px : String → GM → Prop} {v0 : Option Nat} {v1 : Int32} {v2 : Option Nat} {g : GM} (hf : w_L_ratingBits X post px v0 v1 v2 g) : vx_Met l yL_ratingBits (.codeWith yL_ratingBits cL_ratingBits 4 (some .int) [(0, 8, 11, 25), (0, 8, 14, 138)] :: TBL) rm_L_ratingBits (gPc X [va_rf v0, .int v1, va_rf v2] g) (qI X post) (gXC X px) rm_L_ratingBits.cells rm_L_ratingBits.slots (gA X) := by
  refine gg_enterW (hh := [(0, 8, 11, 25), (0, 8, 14, 138)]) (L := [some (va_rf v0), some (.int v1), some (va_rf v2), none]) hfl (by decide +kernel) (by simp [lg_sl, gcat, gcI, gcL, gcF, gcD]) (by simp [gll, lv_args, gcat, gcI, gcL, gcF, gcD]) ?_
  intro p e s m args below meth c C hr ht
  have C : FC X p l s m args meth c cL_ratingBits 4 "ReleasetrainLaw" := C
  unfold w_L_ratingBits at hf
  refine gg_aload_n C dL_ratingBits_0 rfl ?_
  refine gg_iconst C dL_ratingBits_1 (v := (0 : Int32)) (by decide) ?_
  refine gg_aload_n C dL_ratingBits_2 rfl ?_
  refine gg_iload_n C dL_ratingBits_3 rfl ?_
  refine gr_L (k' := 2) (n' := 12) (gk_V (ci := 7) (As := [.int v1]) (rest := [.int (0 : Int32), va_rf v2]) C dL_ratingBits_4 rfl rfl tw_1088 tw_1089 tw_1090 tw_47 tw_1091 gd_X7_ratingBits rfl ⟨by decide, by decide⟩ (by simp [gcat, gcI, gcL, gcF, gcD]) ⟨by decide, by decide⟩ hf (fun hf => m_X7_ratingBits hfl hf)) rfl rfl (fun E g9 h9 => by
    by_cases e9 : E = "java/util/NoSuchElementException"
    · subst e9
      rw [if_pos rfl] at h9
      exact gx_catch (name := "java/util/NoSuchElementException") (pre := []) (x := ⟨0, 8, 11, 25⟩) (suf := [⟨0, 8, 14, 138⟩]) C ht (fun z hz => nomatch hz) (by decide) (by decide) tw_586 (by decide +kernel) (fun q9 => gg_astore_n (L' := [some (va_rf v0), some (.int v1), some (va_rf v2), some (va_rf (some q9))]) C dL_ratingBits_11 (Or.inr (Or.inr ⟨_, rfl, gcat _⟩)) (by decide) rfl (gg_iconst (v := (1 : Int32)) C dL_ratingBits_12 (by decide) (gg_iret C hr (by decide) (by decide) dL_ratingBits_13 rfl h9)))
    rw [if_neg e9] at h9
    by_cases e9 : E = "java/lang/ArithmeticException"
    · subst e9
      rw [if_pos rfl] at h9
      exact gx_catch (name := "java/lang/ArithmeticException") (pre := [⟨0, 8, 11, 25⟩]) (x := ⟨0, 8, 14, 138⟩) (suf := []) C ht (by intro z hz; simp only [List.mem_cons, List.not_mem_nil, or_false] at hz; rcases hz with rfl <;> first | exact Or.inr ⟨by decide, "java/util/NoSuchElementException", tw_586, by decide +kernel⟩) (by decide) (by decide) tw_1060 (by decide +kernel) (fun q9 => gg_astore_n (L' := [some (va_rf v0), some (.int v1), some (va_rf v2), some (va_rf (some q9))]) C dL_ratingBits_14 (Or.inr (Or.inr ⟨_, rfl, gcat _⟩)) (by decide) rfl (gg_iconst (v := (2 : Int32)) C dL_ratingBits_15 (by decide) (gg_iret C hr (by decide) (by decide) dL_ratingBits_16 rfl h9)))
    rw [if_neg e9] at h9
    exact h9.elim) (fun y2 g1 hf => ?_)
  refine gg_last C dL_ratingBits_7 hf (fun g3 hf => ?_)
  refine gg_goto (tgt := 17) C dL_ratingBits_8 (by decide) ?_
  refine gg_iconst C dL_ratingBits_17 (v := (0 : Int32)) (by decide) ?_
  exact gg_iret C hr (by decide) (by decide) dL_ratingBits_18 rfl hf

def w_L_buy (X : Cx) (post : Int32 → GM → Prop) (px : String → GM → Prop) (v0 : Option Nat) (v1 : Int32) (v2 : Int32) (v3 : Option Nat) (g : GM) : Prop :=
  wIs g v0 7 (w_X7_buy X (fun (i2 : Int32) (g1 : GM) => wAstJ g1 v3 (0 : Int32) ((i2).toInt64) (fun g3 => post (0 : Int32) g3)) (fun E g9 => if E = "java/util/NoSuchElementException" then post (1 : Int32) g9 else (if E = "java/lang/IllegalArgumentException" then post (2 : Int32) g9 else (if E = "java/lang/IllegalStateException" then post (3 : Int32) g9 else (if E = "java/lang/UnsupportedOperationException" then post (4 : Int32) g9 else (False))))) v0 v1 v2 g)
abbrev rm_L_buy : Room := { frames := 8, cells := 4, slots := 24, locals := 127 }
set_option maxHeartbeats 4000000 in
set_option maxRecDepth 100000 in
theorem m_L_buy {X : Cx} {l : Launch} (hfl : l.stackTraces = false) {post : Int32 → GM → Prop} {px : String → GM → Prop} {v0 : Option Nat} {v1 : Int32} {v2 : Int32} {v3 : Option Nat} {g : GM} (hf : w_L_buy X post px v0 v1 v2 v3 g) : vx_Met l yL_buy (.codeWith yL_buy cL_buy 5 (some .int) [(0, 10, 13, 25), (0, 10, 17, 13), (0, 10, 21, 15), (0, 10, 25, 55)] :: TBL) rm_L_buy (gPc X [va_rf v0, .int v1, .int v2, va_rf v3] g) (qI X post) (gXC X px) rm_L_buy.cells rm_L_buy.slots (gA X) := by
  refine gg_enterW (hh := [(0, 10, 13, 25), (0, 10, 17, 13), (0, 10, 21, 15), (0, 10, 25, 55)]) (L := [some (va_rf v0), some (.int v1), some (.int v2), some (va_rf v3), none]) hfl (by decide +kernel) (by simp [lg_sl, gcat, gcI, gcL, gcF, gcD]) (by simp [gll, lv_args, gcat, gcI, gcL, gcF, gcD]) ?_
  intro p e s m args below meth c C hr ht
  have C : FC X p l s m args meth c cL_buy 5 "ReleasetrainLaw" := C
  unfold w_L_buy at hf
  refine gg_aload_n C dL_buy_0 rfl ?_
  refine gg_iconst C dL_buy_1 (v := (0 : Int32)) (by decide) ?_
  refine gg_aload_n C dL_buy_2 rfl ?_
  refine gg_iload_n C dL_buy_3 rfl ?_
  refine gg_iload_n C dL_buy_4 rfl ?_
  refine gr_I (k' := 4) (n' := 24) (gk_V (ci := 7) (As := [.int v1, .int v2]) (rest := [.int (0 : Int32), va_rf v3]) C dL_buy_5 rfl rfl tw_1095 tw_1096 tw_1097 tw_47 tw_1098 gd_X7_buy rfl ⟨by decide, by decide⟩ (by simp [gcat, gcI, gcL, gcF, gcD]) ⟨by decide, by decide⟩ hf (fun hf => m_X7_buy hfl hf)) rfl rfl (fun E g9 h9 => by
    by_cases e9 : E = "java/util/NoSuchElementException"
    · subst e9
      rw [if_pos rfl] at h9
      exact gx_catch (name := "java/util/NoSuchElementException") (pre := []) (x := ⟨0, 10, 13, 25⟩) (suf := [⟨0, 10, 17, 13⟩, ⟨0, 10, 21, 15⟩, ⟨0, 10, 25, 55⟩]) C ht (fun z hz => nomatch hz) (by decide) (by decide) tw_586 (by decide +kernel) (fun q9 => gg_astore (L' := [some (va_rf v0), some (.int v1), some (.int v2), some (va_rf v3), some (va_rf (some q9))]) C dL_buy_13 (Or.inr (Or.inr ⟨_, rfl, gcat _⟩)) (by decide) rfl (gg_iconst (v := (1 : Int32)) C dL_buy_15 (by decide) (gg_iret C hr (by decide) (by decide) dL_buy_16 rfl h9)))
    rw [if_neg e9] at h9
    by_cases e9 : E = "java/lang/IllegalArgumentException"
    · subst e9
      rw [if_pos rfl] at h9
      exact gx_catch (name := "java/lang/IllegalArgumentException") (pre := [⟨0, 10, 13, 25⟩]) (x := ⟨0, 10, 17, 13⟩) (suf := [⟨0, 10, 21, 15⟩, ⟨0, 10, 25, 55⟩]) C ht (by intro z hz; simp only [List.mem_cons, List.not_mem_nil, or_false] at hz; rcases hz with rfl <;> first | exact Or.inr ⟨by decide, "java/util/NoSuchElementException", tw_586, by decide +kernel⟩) (by decide) (by decide) tw_224 (by decide +kernel) (fun q9 => gg_astore (L' := [some (va_rf v0), some (.int v1), some (.int v2), some (va_rf v3), some (va_rf (some q9))]) C dL_buy_17 (Or.inr (Or.inr ⟨_, rfl, gcat _⟩)) (by decide) rfl (gg_iconst (v := (2 : Int32)) C dL_buy_19 (by decide) (gg_iret C hr (by decide) (by decide) dL_buy_20 rfl h9)))
    rw [if_neg e9] at h9
    by_cases e9 : E = "java/lang/IllegalStateException"
    · subst e9
      rw [if_pos rfl] at h9
      exact gx_catch (name := "java/lang/IllegalStateException") (pre := [⟨0, 10, 13, 25⟩, ⟨0, 10, 17, 13⟩]) (x := ⟨0, 10, 21, 15⟩) (suf := [⟨0, 10, 25, 55⟩]) C ht (by intro z hz; simp only [List.mem_cons, List.not_mem_nil, or_false] at hz; rcases hz with rfl | rfl <;> first | exact Or.inr ⟨by decide, "java/util/NoSuchElementException", tw_586, by decide +kernel⟩ | exact Or.inr ⟨by decide, "java/lang/IllegalArgumentException", tw_224, by decide +kernel⟩) (by decide) (by decide) tw_225 (by decide +kernel) (fun q9 => gg_astore (L' := [some (va_rf v0), some (.int v1), some (.int v2), some (va_rf v3), some (va_rf (some q9))]) C dL_buy_21 (Or.inr (Or.inr ⟨_, rfl, gcat _⟩)) (by decide) rfl (gg_iconst (v := (3 : Int32)) C dL_buy_23 (by decide) (gg_iret C hr (by decide) (by decide) dL_buy_24 rfl h9)))
    rw [if_neg e9] at h9
    by_cases e9 : E = "java/lang/UnsupportedOperationException"
    · subst e9
      rw [if_pos rfl] at h9
      exact gx_catch (name := "java/lang/UnsupportedOperationException") (pre := [⟨0, 10, 13, 25⟩, ⟨0, 10, 17, 13⟩, ⟨0, 10, 21, 15⟩]) (x := ⟨0, 10, 25, 55⟩) (suf := []) C ht (by intro z hz; simp only [List.mem_cons, List.not_mem_nil, or_false] at hz; rcases hz with rfl | rfl | rfl <;> first | exact Or.inr ⟨by decide, "java/util/NoSuchElementException", tw_586, by decide +kernel⟩ | exact Or.inr ⟨by decide, "java/lang/IllegalArgumentException", tw_224, by decide +kernel⟩ | exact Or.inr ⟨by decide, "java/lang/IllegalStateException", tw_225, by decide +kernel⟩) (by decide) (by decide) tw_692 (by decide +kernel) (fun q9 => gg_astore (L' := [some (va_rf v0), some (.int v1), some (.int v2), some (va_rf v3), some (va_rf (some q9))]) C dL_buy_25 (Or.inr (Or.inr ⟨_, rfl, gcat _⟩)) (by decide) rfl (gg_iconst (v := (4 : Int32)) C dL_buy_27 (by decide) (gg_iret C hr (by decide) (by decide) dL_buy_28 rfl h9)))
    rw [if_neg e9] at h9
    exact h9.elim) (fun i2 g1 hf => ?_)
  refine gg_i2l C dL_buy_8 ?_
  refine gg_last C dL_buy_9 hf (fun g3 hf => ?_)
  refine gg_goto (tgt := 29) C dL_buy_10 (by decide) ?_
  refine gg_iconst C dL_buy_29 (v := (0 : Int32)) (by decide) ?_
  exact gg_iret C hr (by decide) (by decide) dL_buy_30 rfl hf

def w_L_owns_b16 (X : Cx) (post : Int32 → GM → Prop) (px : String → GM → Prop)  (t0 : Int64) (t1 : Int32) (t2 : Option Nat) (g : GM) : Prop :=
  wAstJ g t2 t1 t0 (fun g3 => post (0 : Int32) g3)
def w_L_owns (X : Cx) (post : Int32 → GM → Prop) (px : String → GM → Prop) (v0 : Option Nat) (v1 : Int32) (v2 : Int32) (v3 : Option Nat) (g : GM) : Prop :=
  wIs g v0 7 (w_X7_owns X (fun (i2 : Int32) (g1 : GM) => (if i2 = 0 then w_L_owns_b16 X post px (0 : Int64) (0 : Int32) v3 g1 else w_L_owns_b16 X post px (1 : Int64) (0 : Int32) v3 g1)) (fun E g9 => if E = "java/util/NoSuchElementException" then post (1 : Int32) g9 else (if E = "java/lang/IllegalArgumentException" then post (2 : Int32) g9 else (False))) v0 v1 v2 g)
abbrev rm_L_owns : Room := { frames := 8, cells := 2, slots := 12, locals := 126 }
set_option maxHeartbeats 4000000 in
set_option maxRecDepth 100000 in
theorem m_L_owns {X : Cx} {l : Launch} (hfl : l.stackTraces = false) {post : Int32 → GM → Prop} {px : String → GM → Prop} {v0 : Option Nat} {v1 : Int32} {v2 : Int32} {v3 : Option Nat} {g : GM} (hf : w_L_owns X post px v0 v1 v2 v3 g) : vx_Met l yL_owns (.codeWith yL_owns cL_owns 5 (some .int) [(0, 17, 20, 25), (0, 17, 24, 13)] :: TBL) rm_L_owns (gPc X [va_rf v0, .int v1, .int v2, va_rf v3] g) (qI X post) (gXC X px) rm_L_owns.cells rm_L_owns.slots (gA X) := by
  refine gg_enterW (hh := [(0, 17, 20, 25), (0, 17, 24, 13)]) (L := [some (va_rf v0), some (.int v1), some (.int v2), some (va_rf v3), none]) hfl (by decide +kernel) (by simp [lg_sl, gcat, gcI, gcL, gcF, gcD]) (by simp [gll, lv_args, gcat, gcI, gcL, gcF, gcD]) ?_
  intro p e s m args below meth c C hr ht
  have C : FC X p l s m args meth c cL_owns 5 "ReleasetrainLaw" := C
  have hb_16 : ∀ (t0 : Int64) (t1 : Int32) (t2 : Option Nat) (g : GM), w_L_owns_b16 X post px  t0 t1 t2 g → GG X p l e rm_L_owns s m args below meth c 5 (vx_MQ below (qI X post) (gXC X px) args s rm_L_owns.cells rm_L_owns.slots (gA X)) 2 12 16 [none, none, none, none, none] [.long t0, .int t1, va_rf t2] g := by
    intro  t0 t1 t2 g hf
    unfold w_L_owns_b16 at hf
    refine gg_last C dL_owns_16 hf (fun g3 hf => ?_)
    refine gg_goto (tgt := 28) C dL_owns_17 (by decide) ?_
    refine gg_iconst C dL_owns_28 (v := (0 : Int32)) (by decide) ?_
    exact gg_iret C hr (by decide) (by decide) dL_owns_29 rfl hf
  unfold w_L_owns at hf
  refine gg_aload_n C dL_owns_0 rfl ?_
  refine gg_iconst C dL_owns_1 (v := (0 : Int32)) (by decide) ?_
  refine gg_aload_n C dL_owns_2 rfl ?_
  refine gg_iload_n C dL_owns_3 rfl ?_
  refine gg_iload_n C dL_owns_4 rfl ?_
  refine gr_I (k' := 2) (n' := 12) (gk_V (ci := 7) (As := [.int v1, .int v2]) (rest := [.int (0 : Int32), va_rf v3]) C dL_owns_5 rfl rfl tw_1115 tw_1116 tw_1117 tw_47 tw_1118 gd_X7_owns rfl ⟨by decide, by decide⟩ (by simp [gcat, gcI, gcL, gcF, gcD]) ⟨by decide, by decide⟩ hf (fun hf => m_X7_owns hfl hf)) rfl rfl (fun E g9 h9 => by
    by_cases e9 : E = "java/util/NoSuchElementException"
    · subst e9
      rw [if_pos rfl] at h9
      exact gx_catch (name := "java/util/NoSuchElementException") (pre := []) (x := ⟨0, 17, 20, 25⟩) (suf := [⟨0, 17, 24, 13⟩]) C ht (fun z hz => nomatch hz) (by decide) (by decide) tw_586 (by decide +kernel) (fun q9 => gg_astore (L' := [some (va_rf v0), some (.int v1), some (.int v2), some (va_rf v3), some (va_rf (some q9))]) C dL_owns_20 (Or.inr (Or.inr ⟨_, rfl, gcat _⟩)) (by decide) rfl (gg_iconst (v := (1 : Int32)) C dL_owns_22 (by decide) (gg_iret C hr (by decide) (by decide) dL_owns_23 rfl h9)))
    rw [if_neg e9] at h9
    by_cases e9 : E = "java/lang/IllegalArgumentException"
    · subst e9
      rw [if_pos rfl] at h9
      exact gx_catch (name := "java/lang/IllegalArgumentException") (pre := [⟨0, 17, 20, 25⟩]) (x := ⟨0, 17, 24, 13⟩) (suf := []) C ht (by intro z hz; simp only [List.mem_cons, List.not_mem_nil, or_false] at hz; rcases hz with rfl <;> first | exact Or.inr ⟨by decide, "java/util/NoSuchElementException", tw_586, by decide +kernel⟩) (by decide) (by decide) tw_224 (by decide +kernel) (fun q9 => gg_astore (L' := [some (va_rf v0), some (.int v1), some (.int v2), some (va_rf v3), some (va_rf (some q9))]) C dL_owns_24 (Or.inr (Or.inr ⟨_, rfl, gcat _⟩)) (by decide) rfl (gg_iconst (v := (2 : Int32)) C dL_owns_26 (by decide) (gg_iret C hr (by decide) (by decide) dL_owns_27 rfl h9)))
    rw [if_neg e9] at h9
    exact h9.elim) (fun i2 g1 hf => ?_)
  refine gg_if_eq (tgt := 15) C dL_owns_8 (by decide) hf (fun hf => ?_) (fun hf => ?_)
  · refine gg_lconst C dL_owns_15 (v := (0 : Int64)) (by decide) ?_
    exact gg_sub (L' := [none, none, none, none, none]) (by first | exact trivial | simp [gsub]) (hb_16 _ _ _ _ hf)
  · refine gg_lconst C dL_owns_11 (v := (1 : Int64)) (by decide) ?_
    refine gg_goto (tgt := 16) C dL_owns_12 (by decide) ?_
    exact gg_sub (L' := [none, none, none, none, none]) (by first | exact trivial | simp [gsub]) (hb_16 _ _ _ _ hf)

def w_L_canUse_b16 (X : Cx) (post : Int32 → GM → Prop) (px : String → GM → Prop)  (t0 : Int64) (t1 : Int32) (t2 : Option Nat) (g : GM) : Prop :=
  wAstJ g t2 t1 t0 (fun g3 => post (0 : Int32) g3)
def w_L_canUse (X : Cx) (post : Int32 → GM → Prop) (px : String → GM → Prop) (v0 : Option Nat) (v1 : Int32) (v2 : Int32) (v3 : Option Nat) (g : GM) : Prop :=
  wIs g v0 7 (w_X7_canUse X (fun (i2 : Int32) (g1 : GM) => (if i2 = 0 then w_L_canUse_b16 X post px (0 : Int64) (0 : Int32) v3 g1 else w_L_canUse_b16 X post px (1 : Int64) (0 : Int32) v3 g1)) (fun E g9 => if E = "java/util/NoSuchElementException" then post (1 : Int32) g9 else (if E = "java/lang/IllegalArgumentException" then post (2 : Int32) g9 else (False))) v0 v1 v2 g)
abbrev rm_L_canUse : Room := { frames := 8, cells := 2, slots := 12, locals := 126 }
set_option maxHeartbeats 4000000 in
set_option maxRecDepth 100000 in
theorem m_L_canUse {X : Cx} {l : Launch} (hfl : l.stackTraces = false) {post : Int32 → GM → Prop} {px : String → GM → Prop} {v0 : Option Nat} {v1 : Int32} {v2 : Int32} {v3 : Option Nat} {g : GM} (hf : w_L_canUse X post px v0 v1 v2 v3 g) : vx_Met l yL_canUse (.codeWith yL_canUse cL_canUse 5 (some .int) [(0, 17, 20, 25), (0, 17, 24, 13)] :: TBL) rm_L_canUse (gPc X [va_rf v0, .int v1, .int v2, va_rf v3] g) (qI X post) (gXC X px) rm_L_canUse.cells rm_L_canUse.slots (gA X) := by
  refine gg_enterW (hh := [(0, 17, 20, 25), (0, 17, 24, 13)]) (L := [some (va_rf v0), some (.int v1), some (.int v2), some (va_rf v3), none]) hfl (by decide +kernel) (by simp [lg_sl, gcat, gcI, gcL, gcF, gcD]) (by simp [gll, lv_args, gcat, gcI, gcL, gcF, gcD]) ?_
  intro p e s m args below meth c C hr ht
  have C : FC X p l s m args meth c cL_canUse 5 "ReleasetrainLaw" := C
  have hb_16 : ∀ (t0 : Int64) (t1 : Int32) (t2 : Option Nat) (g : GM), w_L_canUse_b16 X post px  t0 t1 t2 g → GG X p l e rm_L_canUse s m args below meth c 5 (vx_MQ below (qI X post) (gXC X px) args s rm_L_canUse.cells rm_L_canUse.slots (gA X)) 2 12 16 [none, none, none, none, none] [.long t0, .int t1, va_rf t2] g := by
    intro  t0 t1 t2 g hf
    unfold w_L_canUse_b16 at hf
    refine gg_last C dL_canUse_16 hf (fun g3 hf => ?_)
    refine gg_goto (tgt := 28) C dL_canUse_17 (by decide) ?_
    refine gg_iconst C dL_canUse_28 (v := (0 : Int32)) (by decide) ?_
    exact gg_iret C hr (by decide) (by decide) dL_canUse_29 rfl hf
  unfold w_L_canUse at hf
  refine gg_aload_n C dL_canUse_0 rfl ?_
  refine gg_iconst C dL_canUse_1 (v := (0 : Int32)) (by decide) ?_
  refine gg_aload_n C dL_canUse_2 rfl ?_
  refine gg_iload_n C dL_canUse_3 rfl ?_
  refine gg_iload_n C dL_canUse_4 rfl ?_
  refine gr_I (k' := 2) (n' := 12) (gk_V (ci := 7) (As := [.int v1, .int v2]) (rest := [.int (0 : Int32), va_rf v3]) C dL_canUse_5 rfl rfl tw_1122 tw_1123 tw_1124 tw_47 tw_1125 gd_X7_canUse rfl ⟨by decide, by decide⟩ (by simp [gcat, gcI, gcL, gcF, gcD]) ⟨by decide, by decide⟩ hf (fun hf => m_X7_canUse hfl hf)) rfl rfl (fun E g9 h9 => by
    by_cases e9 : E = "java/util/NoSuchElementException"
    · subst e9
      rw [if_pos rfl] at h9
      exact gx_catch (name := "java/util/NoSuchElementException") (pre := []) (x := ⟨0, 17, 20, 25⟩) (suf := [⟨0, 17, 24, 13⟩]) C ht (fun z hz => nomatch hz) (by decide) (by decide) tw_586 (by decide +kernel) (fun q9 => gg_astore (L' := [some (va_rf v0), some (.int v1), some (.int v2), some (va_rf v3), some (va_rf (some q9))]) C dL_canUse_20 (Or.inr (Or.inr ⟨_, rfl, gcat _⟩)) (by decide) rfl (gg_iconst (v := (1 : Int32)) C dL_canUse_22 (by decide) (gg_iret C hr (by decide) (by decide) dL_canUse_23 rfl h9)))
    rw [if_neg e9] at h9
    by_cases e9 : E = "java/lang/IllegalArgumentException"
    · subst e9
      rw [if_pos rfl] at h9
      exact gx_catch (name := "java/lang/IllegalArgumentException") (pre := [⟨0, 17, 20, 25⟩]) (x := ⟨0, 17, 24, 13⟩) (suf := []) C ht (by intro z hz; simp only [List.mem_cons, List.not_mem_nil, or_false] at hz; rcases hz with rfl <;> first | exact Or.inr ⟨by decide, "java/util/NoSuchElementException", tw_586, by decide +kernel⟩) (by decide) (by decide) tw_224 (by decide +kernel) (fun q9 => gg_astore (L' := [some (va_rf v0), some (.int v1), some (.int v2), some (va_rf v3), some (va_rf (some q9))]) C dL_canUse_24 (Or.inr (Or.inr ⟨_, rfl, gcat _⟩)) (by decide) rfl (gg_iconst (v := (2 : Int32)) C dL_canUse_26 (by decide) (gg_iret C hr (by decide) (by decide) dL_canUse_27 rfl h9)))
    rw [if_neg e9] at h9
    exact h9.elim) (fun i2 g1 hf => ?_)
  refine gg_if_eq (tgt := 15) C dL_canUse_8 (by decide) hf (fun hf => ?_) (fun hf => ?_)
  · refine gg_lconst C dL_canUse_15 (v := (0 : Int64)) (by decide) ?_
    exact gg_sub (L' := [none, none, none, none, none]) (by first | exact trivial | simp [gsub]) (hb_16 _ _ _ _ hf)
  · refine gg_lconst C dL_canUse_11 (v := (1 : Int64)) (by decide) ?_
    refine gg_goto (tgt := 16) C dL_canUse_12 (by decide) ?_
    exact gg_sub (L' := [none, none, none, none, none]) (by first | exact trivial | simp [gsub]) (hb_16 _ _ _ _ hf)
