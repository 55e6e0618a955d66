def w_L_three_b25 (X : Cx) (post : Int32 → GM → Prop) (px : String → GM → Prop)  (t0 : Int32) (g : GM) : Prop :=
  post t0 g
def w_L_three (X : Cx) (post : Int32 → GM → Prop) (px : String → GM → Prop) (v0 : Option Nat) (v1 : Int32) (v2 : Int32) (v3 : Int32) (v4 : Int32) (g : GM) : Prop :=
  (if v1 = (100 : Int32) then wIs g v0 7 (w_X7_addDevice X (fun (i4 : Int32) (g3 : GM) => w_L_three_b25 X post px i4 g3) (fun E g9 => if E = "java/util/NoSuchElementException" then post (-1001 : Int32) g9 else (if E = "java/lang/IllegalArgumentException" then post (-1002 : Int32) g9 else (if E = "java/lang/IllegalStateException" then post (-1003 : Int32) g9 else (if E = "java/lang/UnsupportedOperationException" then post (-1004 : Int32) g9 else (False))))) v0 v2 v3 v4 g) else wIs g v0 7 (w_X7_stage X (fun (i2 : Int32) (g1 : GM) => w_L_three_b25 X post px i2 g1) (fun E g9 => if E = "java/util/NoSuchElementException" then post (-1001 : Int32) g9 else (if E = "java/lang/IllegalArgumentException" then post (-1002 : Int32) g9 else (if E = "java/lang/IllegalStateException" then post (-1003 : Int32) g9 else (if E = "java/lang/UnsupportedOperationException" then post (-1004 : Int32) g9 else (False))))) v0 v2 v3 v4 g))
abbrev rm_L_three : Room := { frames := 9, cells := 6, slots := 240, locals := 258 }
set_option maxHeartbeats 4000000 in
set_option maxRecDepth 100000 in
theorem m_L_three {X : Cx} {l : Launch} (hfl : l.stackTraces = false) {post : Int32 → GM → Prop} {px : String → GM → Prop} {v0 : Option Nat} {v1 : Int32} {v2 : Int32} {v3 : Int32} {v4 : Int32} {g : GM} (hf : w_L_three X post px v0 v1 v2 v3 v4 g) : vx_Met l yL_three (.codeWith yL_three cL_three 6 (some .int) [(0, 25, 26, 17), (0, 25, 32, 19), (0, 25, 38, 21), (0, 25, 44, 30)] :: TBL) rm_L_three (gPc X [va_rf v0, .int v1, .int v2, .int v3, .int v4] g) (qI X post) (gXC X px) rm_L_three.cells rm_L_three.slots (gA X) := by
  refine gg_enterW (hh := [(0, 25, 26, 17), (0, 25, 32, 19), (0, 25, 38, 21), (0, 25, 44, 30)]) (L := [some (va_rf v0), some (.int v1), some (.int v2), some (.int v3), some (.int v4), none]) hfl (by decide +kernel) (by simp [lg_sl, gcat, gcI, gcL, gcF, gcD]) (by simp [gll, lv_args, gcat, gcI, gcL, gcF, gcD]) ?_
  intro p e s m args below meth c C hr ht
  have C : FC X p l s m args meth c cL_three 6 "ReleasetrainLaw" := C
  have hb_25 : ∀ (t0 : Int32) (g : GM), w_L_three_b25 X post px  t0 g → GG X p l e rm_L_three s m args below meth c 6 (vx_MQ below (qI X post) (gXC X px) args s rm_L_three.cells rm_L_three.slots (gA X)) 6 240 25 [none, none, none, none, none, none] [.int t0] g := by
    intro  t0 g hf
    unfold w_L_three_b25 at hf
    exact gg_iret C hr (by decide) (by decide) dL_three_25 rfl hf
  unfold w_L_three at hf
  refine gg_iload_n C dL_three_0 rfl ?_
  refine gg_bipush C dL_three_1 (v := (100 : Int32)) (by decide) ?_
  refine gg_icmp_ne (tgt := 17) C dL_three_3 (by decide) hf (fun hf => ?_) (fun hf => ?_)
  · refine gg_aload_n C dL_three_17 rfl ?_
    refine gg_iload_n C dL_three_18 rfl ?_
    refine gg_iload_n C dL_three_19 rfl ?_
    refine gg_iload C dL_three_20 rfl ?_
    refine gr_I (k' := 2) (n' := 12) (gk_V (ci := 7) (As := [.int v2, .int v3, .int v4]) (rest := []) C dL_three_22 rfl rfl tw_586 tw_587 tw_588 tw_25 tw_589 gd_X7_stage rfl ⟨by decide, by decide⟩ (by simp [gcat, gcI, gcL, gcF, gcD]) ⟨by decide, by decide⟩ hf (fun hf => m_X7_stage hfl hf)) rfl rfl (fun E g9 h9 => by
    by_cases e9 : E = "java/util/NoSuchElementException"
    · subst e9
      rw [if_pos rfl] at h9
      refine gx_catch (name := "java/util/NoSuchElementException") (pre := []) (x := ⟨0, 25, 26, 17⟩) (suf := [⟨0, 25, 32, 19⟩, ⟨0, 25, 38, 21⟩, ⟨0, 25, 44, 30⟩]) C ht (fun z hz => nomatch hz) (by decide) (by decide) tw_202 (by decide +kernel) (fun q9 => ?_)
      refine gg_astore (L' := [some (va_rf v0), some (.int v1), some (.int v2), some (.int v3), some (.int v4), some (va_rf (some q9))]) C dL_three_26 (Or.inr (Or.inr ⟨_, rfl, rfl⟩)) (by decide) rfl ?_
      refine gg_sipush C dL_three_28 (v := (-1001 : Int32)) (by decide) ?_
      exact gg_iret C hr (by decide) (by decide) dL_three_31 rfl h9
    rw [if_neg e9] at h9
    by_cases e9 : E = "java/lang/IllegalArgumentException"
    · subst e9
      rw [if_pos rfl] at h9
      refine gx_catch (name := "java/lang/IllegalArgumentException") (pre := [⟨0, 25, 26, 17⟩]) (x := ⟨0, 25, 32, 19⟩) (suf := [⟨0, 25, 38, 21⟩, ⟨0, 25, 44, 30⟩]) C ht (by intro z hz; simp only [List.mem_cons, List.not_mem_nil, or_false] at hz; rcases hz with rfl <;> first | exact Or.inl (by decide) | exact Or.inr ⟨by decide, "java/util/NoSuchElementException", tw_202, by decide +kernel⟩) (by decide) (by decide) tw_203 (by decide +kernel) (fun q9 => ?_)
      refine gg_astore (L' := [some (va_rf v0), some (.int v1), some (.int v2), some (.int v3), some (.int v4), some (va_rf (some q9))]) C dL_three_32 (Or.inr (Or.inr ⟨_, rfl, rfl⟩)) (by decide) rfl ?_
      refine gg_sipush C dL_three_34 (v := (-1002 : Int32)) (by decide) ?_
      exact gg_iret C hr (by decide) (by decide) dL_three_37 rfl h9
    rw [if_neg e9] at h9
    by_cases e9 : E = "java/lang/IllegalStateException"
    · subst e9
      rw [if_pos rfl] at h9
      refine gx_catch (name := "java/lang/IllegalStateException") (pre := [⟨0, 25, 26, 17⟩, ⟨0, 25, 32, 19⟩]) (x := ⟨0, 25, 38, 21⟩) (suf := [⟨0, 25, 44, 30⟩]) C ht (by intro z hz; simp only [List.mem_cons, List.not_mem_nil, or_false] at hz; rcases hz with rfl | rfl <;> first | exact Or.inl (by decide) | exact Or.inr ⟨by decide, "java/util/NoSuchElementException", tw_202, by decide +kernel⟩ | exact Or.inr ⟨by decide, "java/lang/IllegalArgumentException", tw_203, by decide +kernel⟩) (by decide) (by decide) tw_204 (by decide +kernel) (fun q9 => ?_)
      refine gg_astore (L' := [some (va_rf v0), some (.int v1), some (.int v2), some (.int v3), some (.int v4), some (va_rf (some q9))]) C dL_three_38 (Or.inr (Or.inr ⟨_, rfl, rfl⟩)) (by decide) rfl ?_
      refine gg_sipush C dL_three_40 (v := (-1003 : Int32)) (by decide) ?_
      exact gg_iret C hr (by decide) (by decide) dL_three_43 rfl h9
    rw [if_neg e9] at h9
    by_cases e9 : E = "java/lang/UnsupportedOperationException"
    · subst e9
      rw [if_pos rfl] at h9
      refine gx_catch (name := "java/lang/UnsupportedOperationException") (pre := [⟨0, 25, 26, 17⟩, ⟨0, 25, 32, 19⟩, ⟨0, 25, 38, 21⟩]) (x := ⟨0, 25, 44, 30⟩) (suf := []) C ht (by intro z hz; simp only [List.mem_cons, List.not_mem_nil, or_false] at hz; rcases hz with rfl | rfl | rfl <;> first | exact Or.inl (by decide) | exact Or.inr ⟨by decide, "java/util/NoSuchElementException", tw_202, by decide +kernel⟩ | exact Or.inr ⟨by decide, "java/lang/IllegalArgumentException", tw_203, by decide +kernel⟩ | exact Or.inr ⟨by decide, "java/lang/IllegalStateException", tw_204, by decide +kernel⟩) (by decide) (by decide) tw_520 (by decide +kernel) (fun q9 => ?_)
      refine gg_astore (L' := [some (va_rf v0), some (.int v1), some (.int v2), some (.int v3), some (.int v4), some (va_rf (some q9))]) C dL_three_44 (Or.inr (Or.inr ⟨_, rfl, rfl⟩)) (by decide) rfl ?_
      refine gg_sipush C dL_three_46 (v := (-1004 : Int32)) (by decide) ?_
      exact gg_iret C hr (by decide) (by decide) dL_three_49 rfl h9
    rw [if_neg e9] at h9
    exact h9.elim) (fun i2 g1 hf => ?_)
    exact gg_sub (L' := [none, none, none, none, none, none]) (by first | exact trivial | simp [gsub]) (gg_widen (k' := 6) (n' := 240) (by decide) (by decide) (hb_25 _ _ hf))
  · refine gg_aload_n C dL_three_6 rfl ?_
    refine gg_iload_n C dL_three_7 rfl ?_
    refine gg_iload_n C dL_three_8 rfl ?_
    refine gg_iload C dL_three_9 rfl ?_
    refine gr_I (k' := 6) (n' := 240) (gk_V (ci := 7) (As := [.int v2, .int v3, .int v4]) (rest := []) C dL_three_11 rfl rfl tw_521 tw_522 tw_523 tw_25 tw_524 gd_X7_addDevice rfl ⟨by decide, by decide⟩ (by simp [gcat, gcI, gcL, gcF, gcD]) ⟨by decide, by decide⟩ hf (fun hf => m_X7_addDevice hfl hf)) rfl rfl (fun E g9 h9 => by
    by_cases e9 : E = "java/util/NoSuchElementException"
    · subst e9
      rw [if_pos rfl] at h9
      refine gx_catch (name := "java/util/NoSuchElementException") (pre := []) (x := ⟨0, 25, 26, 17⟩) (suf := [⟨0, 25, 32, 19⟩, ⟨0, 25, 38, 21⟩, ⟨0, 25, 44, 30⟩]) C ht (fun z hz => nomatch hz) (by decide) (by decide) tw_202 (by decide +kernel) (fun q9 => ?_)
      refine gg_astore (L' := [some (va_rf v0), some (.int v1), some (.int v2), some (.int v3), some (.int v4), some (va_rf (some q9))]) C dL_three_26 (Or.inr (Or.inr ⟨_, rfl, rfl⟩)) (by decide) rfl ?_
      refine gg_sipush C dL_three_28 (v := (-1001 : Int32)) (by decide) ?_
      exact gg_iret C hr (by decide) (by decide) dL_three_31 rfl h9
    rw [if_neg e9] at h9
    by_cases e9 : E = "java/lang/IllegalArgumentException"
    · subst e9
      rw [if_pos rfl] at h9
      refine gx_catch (name := "java/lang/IllegalArgumentException") (pre := [⟨0, 25, 26, 17⟩]) (x := ⟨0, 25, 32, 19⟩) (suf := [⟨0, 25, 38, 21⟩, ⟨0, 25, 44, 30⟩]) C ht (by intro z hz; simp only [List.mem_cons, List.not_mem_nil, or_false] at hz; rcases hz with rfl <;> first | exact Or.inl (by decide) | exact Or.inr ⟨by decide, "java/util/NoSuchElementException", tw_202, by decide +kernel⟩) (by decide) (by decide) tw_203 (by decide +kernel) (fun q9 => ?_)
      refine gg_astore (L' := [some (va_rf v0), some (.int v1), some (.int v2), some (.int v3), some (.int v4), some (va_rf (some q9))]) C dL_three_32 (Or.inr (Or.inr ⟨_, rfl, rfl⟩)) (by decide) rfl ?_
      refine gg_sipush C dL_three_34 (v := (-1002 : Int32)) (by decide) ?_
      exact gg_iret C hr (by decide) (by decide) dL_three_37 rfl h9
    rw [if_neg e9] at h9
    by_cases e9 : E = "java/lang/IllegalStateException"
    · subst e9
      rw [if_pos rfl] at h9
      refine gx_catch (name := "java/lang/IllegalStateException") (pre := [⟨0, 25, 26, 17⟩, ⟨0, 25, 32, 19⟩]) (x := ⟨0, 25, 38, 21⟩) (suf := [⟨0, 25, 44, 30⟩]) C ht (by intro z hz; simp only [List.mem_cons, List.not_mem_nil, or_false] at hz; rcases hz with rfl | rfl <;> first | exact Or.inl (by decide) | exact Or.inr ⟨by decide, "java/util/NoSuchElementException", tw_202, by decide +kernel⟩ | exact Or.inr ⟨by decide, "java/lang/IllegalArgumentException", tw_203, by decide +kernel⟩) (by decide) (by decide) tw_204 (by decide +kernel) (fun q9 => ?_)
      refine gg_astore (L' := [some (va_rf v0), some (.int v1), some (.int v2), some (.int v3), some (.int v4), some (va_rf (some q9))]) C dL_three_38 (Or.inr (Or.inr ⟨_, rfl, rfl⟩)) (by decide) rfl ?_
      refine gg_sipush C dL_three_40 (v := (-1003 : Int32)) (by decide) ?_
      exact gg_iret C hr (by decide) (by decide) dL_three_43 rfl h9
    rw [if_neg e9] at h9
    by_cases e9 : E = "java/lang/UnsupportedOperationException"
    · subst e9
      rw [if_pos rfl] at h9
      refine gx_catch (name := "java/lang/UnsupportedOperationException") (pre := [⟨0, 25, 26, 17⟩, ⟨0, 25, 32, 19⟩, ⟨0, 25, 38, 21⟩]) (x := ⟨0, 25, 44, 30⟩) (suf := []) C ht (by intro z hz; simp only [List.mem_cons, List.not_mem_nil, or_false] at hz; rcases hz with rfl | rfl | rfl <;> first | exact Or.inl (by decide) | exact Or.inr ⟨by decide, "java/util/NoSuchElementException", tw_202, by decide +kernel⟩ | exact Or.inr ⟨by decide, "java/lang/IllegalArgumentException", tw_203, by decide +kernel⟩ | exact Or.inr ⟨by decide, "java/lang/IllegalStateException", tw_204, by decide +kernel⟩) (by decide) (by decide) tw_520 (by decide +kernel) (fun q9 => ?_)
      refine gg_astore (L' := [some (va_rf v0), some (.int v1), some (.int v2), some (.int v3), some (.int v4), some (va_rf (some q9))]) C dL_three_44 (Or.inr (Or.inr ⟨_, rfl, rfl⟩)) (by decide) rfl ?_
      refine gg_sipush C dL_three_46 (v := (-1004 : Int32)) (by decide) ?_
      exact gg_iret C hr (by decide) (by decide) dL_three_49 rfl h9
    rw [if_neg e9] at h9
    exact h9.elim) (fun i4 g3 hf => ?_)
    refine gg_goto (tgt := 25) C dL_three_14 (by decide) ?_
    exact gg_sub (L' := [none, none, none, none, none, none]) (by first | exact trivial | simp [gsub]) (hb_25 _ _ hf)

def w_L_of (X : Cx) (post : Int32 → GM → Prop) (px : String → GM → Prop) (v0 : Option Nat) (v1 : Int32) (v2 : Int32) (g : GM) : Prop :=
  (if v2 = (0 : Int32) then wIs g v0 7 (w_X7_submit X (fun (i3 : Int32) (g2 : GM) => post i3 g2) (fun E g9 => if E = "java/util/NoSuchElementException" then post (-1001 : Int32) g9 else (if E = "java/lang/IllegalStateException" then post (-1003 : Int32) g9 else (False))) v0 v1 g) else (if v2 = (1 : Int32) then wIs g v0 7 (w_X7_appeal X (fun (i6 : Int32) (g5 : GM) => post i6 g5) (fun E g9 => if E = "java/util/NoSuchElementException" then post (-1001 : Int32) g9 else (if E = "java/lang/IllegalStateException" then post (-1003 : Int32) g9 else (False))) v0 v1 g) else (if v2 = (2 : Int32) then wIs g v0 7 (w_X7_stateOf X (fun (i9 : Int32) (g8 : GM) => post i9 g8) (fun E g9 => if E = "java/util/NoSuchElementException" then post (-1001 : Int32) g9 else (if E = "java/lang/IllegalStateException" then post (-1003 : Int32) g9 else (False))) v0 v1 g) else (if v2 = (3 : Int32) then wIs g v0 7 (w_X7_percentageOf X (fun (i12 : Int32) (g11 : GM) => post i12 g11) (fun E g9 => if E = "java/util/NoSuchElementException" then post (-1001 : Int32) g9 else (if E = "java/lang/IllegalStateException" then post (-1003 : Int32) g9 else (False))) v0 v1 g) else (if v2 = (4 : Int32) then wIs g v0 7 (w_X7_holdOf X (fun (i15 : Int32) (g14 : GM) => post i15 g14) (fun E g9 => if E = "java/util/NoSuchElementException" then post (-1001 : Int32) g9 else (if E = "java/lang/IllegalStateException" then post (-1003 : Int32) g9 else (False))) v0 v1 g) else (if v2 = (5 : Int32) then wIs g v0 7 (w_X7_reach X (fun (i18 : Int32) (g17 : GM) => post i18 g17) (fun E g9 => if E = "java/util/NoSuchElementException" then post (-1001 : Int32) g9 else (if E = "java/lang/IllegalStateException" then post (-1003 : Int32) g9 else (False))) v0 v1 g) else (if v2 = (6 : Int32) then wIs g v0 7 (w_X7_reachByDevices X (fun (i21 : Int32) (g20 : GM) => post i21 g20) (fun E g9 => if E = "java/util/NoSuchElementException" then post (-1001 : Int32) g9 else (if E = "java/lang/IllegalStateException" then post (-1003 : Int32) g9 else (False))) v0 v1 g) else (if v2 = (7 : Int32) then wIs g v0 7 (w_X7_devicesWith X (fun (i24 : Int32) (g23 : GM) => post i24 g23) (fun E g9 => if E = "java/util/NoSuchElementException" then post (-1001 : Int32) g9 else (if E = "java/lang/IllegalStateException" then post (-1003 : Int32) g9 else (False))) v0 v1 g) else (if v2 = (8 : Int32) then wIs g v0 7 (w_X7_installs X (fun (i27 : Int32) (g26 : GM) => post i27 g26) (fun E g9 => if E = "java/util/NoSuchElementException" then post (-1001 : Int32) g9 else (if E = "java/lang/IllegalStateException" then post (-1003 : Int32) g9 else (False))) v0 v1 g) else wIs g v0 7 (w_X7_writeBuild X (fun (i29 : Int32) (g28 : GM) => post i29 g28) (fun E g9 => if E = "java/util/NoSuchElementException" then post (-1001 : Int32) g9 else (if E = "java/lang/IllegalStateException" then post (-1003 : Int32) g9 else (False))) v0 v1 g))))))))))
abbrev rm_L_of : Room := { frames := 8, cells := 6, slots := 646, locals := 190 }
set_option maxHeartbeats 4000000 in
set_option maxRecDepth 100000 in
theorem m_L_of {X : Cx} {l : Launch} (hfl : l.stackTraces = false) {post : Int32 → GM → Prop} {px : String → GM → Prop} {v0 : Option Nat} {v1 : Int32} {v2 : Int32} {g : GM} (hf : w_L_of X post px v0 v1 v2 g) : vx_Met l yL_of (.codeWith yL_of cL_of 4 (some .int) [(0, 57, 112, 17), (58, 63, 112, 17), (64, 69, 112, 17), (70, 75, 112, 17), (76, 81, 112, 17), (82, 87, 112, 17), (88, 93, 112, 17), (94, 99, 112, 17), (100, 105, 112, 17), (106, 111, 112, 17), (0, 57, 117, 21), (58, 63, 117, 21), (64, 69, 117, 21), (70, 75, 117, 21), (76, 81, 117, 21), (82, 87, 117, 21), (88, 93, 117, 21), (94, 99, 117, 21), (100, 105, 117, 21), (106, 111, 117, 21)] :: TBL) rm_L_of (gPc X [va_rf v0, .int v1, .int v2] g) (qI X post) (gXC X px) rm_L_of.cells rm_L_of.slots (gA X) := by
  refine gg_enterW (hh := [(0, 57, 112, 17), (58, 63, 112, 17), (64, 69, 112, 17), (70, 75, 112, 17), (76, 81, 112, 17), (82, 87, 112, 17), (88, 93, 112, 17), (94, 99, 112, 17), (100, 105, 112, 17), (106, 111, 112, 17), (0, 57, 117, 21), (58, 63, 117, 21), (64, 69, 117, 21), (70, 75, 117, 21), (76, 81, 117, 21), (82, 87, 117, 21), (88, 93, 117, 21), (94, 99, 117, 21), (100, 105, 117, 21), (106, 111, 117, 21)]) (L := [some (va_rf v0), some (.int v1), some (.int v2), none]) hfl (by decide +kernel) (by simp [lg_sl, gcat, gcI, gcL, gcF, gcD]) (by simp [gll, lv_args, gcat, gcI, gcL, gcF, gcD]) ?_
  intro p e s m args below meth c C hr ht
  have C : FC X p l s m args meth c cL_of 4 "ReleasetrainLaw" := C
  unfold w_L_of at hf
  refine gg_iload_n C dL_of_0 rfl ?_
  by_cases e1 : v2 = (0 : Int32)
  · rw [if_pos e1] at hf
    refine gg_tableIn (tgt := 52) C dL_of_1 (by rw [e1]; decide) (by rw [e1]; decide) (off := 51) (by rw [e1]; decide) (by decide) ?_
    refine gg_aload_n C dL_of_52 rfl ?_
    refine gg_iload_n C dL_of_53 rfl ?_
    refine gr_I (k' := 2) (n' := 12) (gk_V (ci := 7) (As := [.int v1]) (rest := []) C dL_of_54 rfl rfl tw_610 tw_611 tw_612 tw_25 tw_613 gd_X7_submit rfl ⟨by decide, by decide⟩ (by simp [gcat, gcI, gcL, gcF, gcD]) ⟨by decide, by decide⟩ hf (fun hf => m_X7_submit hfl hf)) rfl rfl (fun E g9 h9 => by
    by_cases e9 : E = "java/util/NoSuchElementException"
    · subst e9
      rw [if_pos rfl] at h9
      refine gx_catch (name := "java/util/NoSuchElementException") (pre := []) (x := ⟨0, 57, 112, 17⟩) (suf := [⟨58, 63, 112, 17⟩, ⟨64, 69, 112, 17⟩, ⟨70, 75, 112, 17⟩, ⟨76, 81, 112, 17⟩, ⟨82, 87, 112, 17⟩, ⟨88, 93, 112, 17⟩, ⟨94, 99, 112, 17⟩, ⟨100, 105, 112, 17⟩, ⟨106, 111, 112, 17⟩, ⟨0, 57, 117, 21⟩, ⟨58, 63, 117, 21⟩, ⟨64, 69, 117, 21⟩, ⟨70, 75, 117, 21⟩, ⟨76, 81, 117, 21⟩, ⟨82, 87, 117, 21⟩, ⟨88, 93, 117, 21⟩, ⟨94, 99, 117, 21⟩, ⟨100, 105, 117, 21⟩, ⟨106, 111, 117, 21⟩]) C ht (fun z hz => nomatch hz) (by decide) (by decide) tw_202 (by decide +kernel) (fun q9 => ?_)
      refine gg_astore_n (L' := [some (va_rf v0), some (.int v1), some (.int v2), some (va_rf (some q9))]) C dL_of_112 (Or.inr (Or.inr ⟨_, rfl, rfl⟩)) (by decide) rfl ?_
      refine gg_sipush C dL_of_113 (v := (-1001 : Int32)) (by decide) ?_
      exact gg_iret C hr (by decide) (by decide) dL_of_116 rfl h9
    rw [if_neg e9] at h9
    by_cases e9 : E = "java/lang/IllegalStateException"
    · subst e9
      rw [if_pos rfl] at h9
      refine gx_catch (name := "java/lang/IllegalStateException") (pre := [⟨0, 57, 112, 17⟩, ⟨58, 63, 112, 17⟩, ⟨64, 69, 112, 17⟩, ⟨70, 75, 112, 17⟩, ⟨76, 81, 112, 17⟩, ⟨82, 87, 112, 17⟩, ⟨88, 93, 112, 17⟩, ⟨94, 99, 112, 17⟩, ⟨100, 105, 112, 17⟩, ⟨106, 111, 112, 17⟩]) (x := ⟨0, 57, 117, 21⟩) (suf := [⟨58, 63, 117, 21⟩, ⟨64, 69, 117, 21⟩, ⟨70, 75, 117, 21⟩, ⟨76, 81, 117, 21⟩, ⟨82, 87, 117, 21⟩, ⟨88, 93, 117, 21⟩, ⟨94, 99, 117, 21⟩, ⟨100, 105, 117, 21⟩, ⟨106, 111, 117, 21⟩]) C ht (by intro z hz; simp only [List.mem_cons, List.not_mem_nil, or_false] at hz; rcases hz with rfl | rfl | rfl | rfl | rfl | rfl | rfl | rfl | rfl | rfl <;> first | exact Or.inl (by decide) | exact Or.inr ⟨by decide, "java/util/NoSuchElementException", tw_202, by decide +kernel⟩) (by decide) (by decide) tw_204 (by decide +kernel) (fun q9 => ?_)
      refine gg_astore_n (L' := [some (va_rf v0), some (.int v1), some (.int v2), some (va_rf (some q9))]) C dL_of_117 (Or.inr (Or.inr ⟨_, rfl, rfl⟩)) (by decide) rfl ?_
      refine gg_sipush C dL_of_118 (v := (-1003 : Int32)) (by decide) ?_
      exact gg_iret C hr (by decide) (by decide) dL_of_121 rfl h9
    rw [if_neg e9] at h9
    exact h9.elim) (fun i3 g2 hf => ?_)
    exact gg_iret C hr (by decide) (by decide) dL_of_57 rfl hf
  rw [if_neg e1] at hf
  by_cases e4 : v2 = (1 : Int32)
  · rw [if_pos e4] at hf
    refine gg_tableIn (tgt := 58) C dL_of_1 (by rw [e4]; decide) (by rw [e4]; decide) (off := 57) (by rw [e4]; decide) (by decide) ?_
    refine gg_aload_n C dL_of_58 rfl ?_
    refine gg_iload_n C dL_of_59 rfl ?_
    refine gr_I (k' := 2) (n' := 12) (gk_V (ci := 7) (As := [.int v1]) (rest := []) C dL_of_60 rfl rfl tw_623 tw_624 tw_625 tw_25 tw_626 gd_X7_appeal rfl ⟨by decide, by decide⟩ (by simp [gcat, gcI, gcL, gcF, gcD]) ⟨by decide, by decide⟩ hf (fun hf => m_X7_appeal hfl hf)) rfl rfl (fun E g9 h9 => by
    by_cases e9 : E = "java/util/NoSuchElementException"
    · subst e9
      rw [if_pos rfl] at h9
      refine gx_catch (name := "java/util/NoSuchElementException") (pre := [⟨0, 57, 112, 17⟩]) (x := ⟨58, 63, 112, 17⟩) (suf := [⟨64, 69, 112, 17⟩, ⟨70, 75, 112, 17⟩, ⟨76, 81, 112, 17⟩, ⟨82, 87, 112, 17⟩, ⟨88, 93, 112, 17⟩, ⟨94, 99, 112, 17⟩, ⟨100, 105, 112, 17⟩, ⟨106, 111, 112, 17⟩, ⟨0, 57, 117, 21⟩, ⟨58, 63, 117, 21⟩, ⟨64, 69, 117, 21⟩, ⟨70, 75, 117, 21⟩, ⟨76, 81, 117, 21⟩, ⟨82, 87, 117, 21⟩, ⟨88, 93, 117, 21⟩, ⟨94, 99, 117, 21⟩, ⟨100, 105, 117, 21⟩, ⟨106, 111, 117, 21⟩]) C ht (by intro z hz; simp only [List.mem_cons, List.not_mem_nil, or_false] at hz; rcases hz with rfl <;> first | exact Or.inl (by decide)) (by decide) (by decide) tw_202 (by decide +kernel) (fun q9 => ?_)
      refine gg_astore_n (L' := [some (va_rf v0), some (.int v1), some (.int v2), some (va_rf (some q9))]) C dL_of_112 (Or.inr (Or.inr ⟨_, rfl, rfl⟩)) (by decide) rfl ?_
      refine gg_sipush C dL_of_113 (v := (-1001 : Int32)) (by decide) ?_
      exact gg_iret C hr (by decide) (by decide) dL_of_116 rfl h9
    rw [if_neg e9] at h9
    by_cases e9 : E = "java/lang/IllegalStateException"
    · subst e9
      rw [if_pos rfl] at h9
      refine gx_catch (name := "java/lang/IllegalStateException") (pre := [⟨0, 57, 112, 17⟩, ⟨58, 63, 112, 17⟩, ⟨64, 69, 112, 17⟩, ⟨70, 75, 112, 17⟩, ⟨76, 81, 112, 17⟩, ⟨82, 87, 112, 17⟩, ⟨88, 93, 112, 17⟩, ⟨94, 99, 112, 17⟩, ⟨100, 105, 112, 17⟩, ⟨106, 111, 112, 17⟩, ⟨0, 57, 117, 21⟩]) (x := ⟨58, 63, 117, 21⟩) (suf := [⟨64, 69, 117, 21⟩, ⟨70, 75, 117, 21⟩, ⟨76, 81, 117, 21⟩, ⟨82, 87, 117, 21⟩, ⟨88, 93, 117, 21⟩, ⟨94, 99, 117, 21⟩, ⟨100, 105, 117, 21⟩, ⟨106, 111, 117, 21⟩]) C ht (by intro z hz; simp only [List.mem_cons, List.not_mem_nil, or_false] at hz; rcases hz with rfl | rfl | rfl | rfl | rfl | rfl | rfl | rfl | rfl | rfl | rfl <;> first | exact Or.inl (by decide) | exact Or.inr ⟨by decide, "java/util/NoSuchElementException", tw_202, by decide +kernel⟩) (by decide) (by decide) tw_204 (by decide +kernel) (fun q9 => ?_)
      refine gg_astore_n (L' := [some (va_rf v0), some (.int v1), some (.int v2), some (va_rf (some q9))]) C dL_of_117 (Or.inr (Or.inr ⟨_, rfl, rfl⟩)) (by decide) rfl ?_
      refine gg_sipush C dL_of_118 (v := (-1003 : Int32)) (by decide) ?_
      exact gg_iret C hr (by decide) (by decide) dL_of_121 rfl h9
    rw [if_neg e9] at h9
    exact h9.elim) (fun i6 g5 hf => ?_)
    exact gg_iret C hr (by decide) (by decide) dL_of_63 rfl hf
  rw [if_neg e4] at hf
  by_cases e7 : v2 = (2 : Int32)
  · rw [if_pos e7] at hf
    refine gg_tableIn (tgt := 64) C dL_of_1 (by rw [e7]; decide) (by rw [e7]; decide) (off := 63) (by rw [e7]; decide) (by decide) ?_
    refine gg_aload_n C dL_of_64 rfl ?_
    refine gg_iload_n C dL_of_65 rfl ?_
    refine gr_I (k' := 1) (n' := 6) (gk_V (ci := 7) (As := [.int v1]) (rest := []) C dL_of_66 rfl rfl tw_628 tw_629 tw_630 tw_25 tw_631 gd_X7_stateOf rfl ⟨by decide, by decide⟩ (by simp [gcat, gcI, gcL, gcF, gcD]) ⟨by decide, by decide⟩ hf (fun hf => m_X7_stateOf hfl hf)) rfl rfl (fun E g9 h9 => by
    by_cases e9 : E = "java/util/NoSuchElementException"
    · subst e9
      rw [if_pos rfl] at h9
      refine gx_catch (name := "java/util/NoSuchElementException") (pre := [⟨0, 57, 112, 17⟩, ⟨58, 63, 112, 17⟩]) (x := ⟨64, 69, 112, 17⟩) (suf := [⟨70, 75, 112, 17⟩, ⟨76, 81, 112, 17⟩, ⟨82, 87, 112, 17⟩, ⟨88, 93, 112, 17⟩, ⟨94, 99, 112, 17⟩, ⟨100, 105, 112, 17⟩, ⟨106, 111, 112, 17⟩, ⟨0, 57, 117, 21⟩, ⟨58, 63, 117, 21⟩, ⟨64, 69, 117, 21⟩, ⟨70, 75, 117, 21⟩, ⟨76, 81, 117, 21⟩, ⟨82, 87, 117, 21⟩, ⟨88, 93, 117, 21⟩, ⟨94, 99, 117, 21⟩, ⟨100, 105, 117, 21⟩, ⟨106, 111, 117, 21⟩]) C ht (by intro z hz; simp only [List.mem_cons, List.not_mem_nil, or_false] at hz; rcases hz with rfl | rfl <;> first | exact Or.inl (by decide)) (by decide) (by decide) tw_202 (by decide +kernel) (fun q9 => ?_)
      refine gg_astore_n (L' := [some (va_rf v0), some (.int v1), some (.int v2), some (va_rf (some q9))]) C dL_of_112 (Or.inr (Or.inr ⟨_, rfl, rfl⟩)) (by decide) rfl ?_
      refine gg_sipush C dL_of_113 (v := (-1001 : Int32)) (by decide) ?_
      exact gg_iret C hr (by decide) (by decide) dL_of_116 rfl h9
    rw [if_neg e9] at h9
    by_cases e9 : E = "java/lang/IllegalStateException"
    · subst e9
      rw [if_pos rfl] at h9
      refine gx_catch (name := "java/lang/IllegalStateException") (pre := [⟨0, 57, 112, 17⟩, ⟨58, 63, 112, 17⟩, ⟨64, 69, 112, 17⟩, ⟨70, 75, 112, 17⟩, ⟨76, 81, 112, 17⟩, ⟨82, 87, 112, 17⟩, ⟨88, 93, 112, 17⟩, ⟨94, 99, 112, 17⟩, ⟨100, 105, 112, 17⟩, ⟨106, 111, 112, 17⟩, ⟨0, 57, 117, 21⟩, ⟨58, 63, 117, 21⟩]) (x := ⟨64, 69, 117, 21⟩) (suf := [⟨70, 75, 117, 21⟩, ⟨76, 81, 117, 21⟩, ⟨82, 87, 117, 21⟩, ⟨88, 93, 117, 21⟩, ⟨94, 99, 117, 21⟩, ⟨100, 105, 117, 21⟩, ⟨106, 111, 117, 21⟩]) C ht (by intro z hz; simp only [List.mem_cons, List.not_mem_nil, or_false] at hz; rcases hz with rfl | rfl | rfl | rfl | rfl | rfl | rfl | rfl | rfl | rfl | rfl | rfl <;> first | exact Or.inl (by decide) | exact Or.inr ⟨by decide, "java/util/NoSuchElementException", tw_202, by decide +kernel⟩) (by decide) (by decide) tw_204 (by decide +kernel) (fun q9 => ?_)
      refine gg_astore_n (L' := [some (va_rf v0), some (.int v1), some (.int v2), some (va_rf (some q9))]) C dL_of_117 (Or.inr (Or.inr ⟨_, rfl, rfl⟩)) (by decide) rfl ?_
      refine gg_sipush C dL_of_118 (v := (-1003 : Int32)) (by decide) ?_
      exact gg_iret C hr (by decide) (by decide) dL_of_121 rfl h9
    rw [if_neg e9] at h9
    exact h9.elim) (fun i9 g8 hf => ?_)
    exact gg_iret C hr (by decide) (by decide) dL_of_69 rfl hf
  rw [if_neg e7] at hf
  by_cases e10 : v2 = (3 : Int32)
  · rw [if_pos e10] at hf
    refine gg_tableIn (tgt := 70) C dL_of_1 (by rw [e10]; decide) (by rw [e10]; decide) (off := 69) (by rw [e10]; decide) (by decide) ?_
    refine gg_aload_n C dL_of_70 rfl ?_
    refine gg_iload_n C dL_of_71 rfl ?_
    refine gr_I (k' := 1) (n' := 6) (gk_V (ci := 7) (As := [.int v1]) (rest := []) C dL_of_72 rfl rfl tw_632 tw_633 tw_634 tw_25 tw_635 gd_X7_percentageOf rfl ⟨by decide, by decide⟩ (by simp [gcat, gcI, gcL, gcF, gcD]) ⟨by decide, by decide⟩ hf (fun hf => m_X7_percentageOf hfl hf)) rfl rfl (fun E g9 h9 => by
    by_cases e9 : E = "java/util/NoSuchElementException"
    · subst e9
      rw [if_pos rfl] at h9
      refine gx_catch (name := "java/util/NoSuchElementException") (pre := [⟨0, 57, 112, 17⟩, ⟨58, 63, 112, 17⟩, ⟨64, 69, 112, 17⟩]) (x := ⟨70, 75, 112, 17⟩) (suf := [⟨76, 81, 112, 17⟩, ⟨82, 87, 112, 17⟩, ⟨88, 93, 112, 17⟩, ⟨94, 99, 112, 17⟩, ⟨100, 105, 112, 17⟩, ⟨106, 111, 112, 17⟩, ⟨0, 57, 117, 21⟩, ⟨58, 63, 117, 21⟩, ⟨64, 69, 117, 21⟩, ⟨70, 75, 117, 21⟩, ⟨76, 81, 117, 21⟩, ⟨82, 87, 117, 21⟩, ⟨88, 93, 117, 21⟩, ⟨94, 99, 117, 21⟩, ⟨100, 105, 117, 21⟩, ⟨106, 111, 117, 21⟩]) C ht (by intro z hz; simp only [List.mem_cons, List.not_mem_nil, or_false] at hz; rcases hz with rfl | rfl | rfl <;> first | exact Or.inl (by decide)) (by decide) (by decide) tw_202 (by decide +kernel) (fun q9 => ?_)
      refine gg_astore_n (L' := [some (va_rf v0), some (.int v1), some (.int v2), some (va_rf (some q9))]) C dL_of_112 (Or.inr (Or.inr ⟨_, rfl, rfl⟩)) (by decide) rfl ?_
      refine gg_sipush C dL_of_113 (v := (-1001 : Int32)) (by decide) ?_
      exact gg_iret C hr (by decide) (by decide) dL_of_116 rfl h9
    rw [if_neg e9] at h9
    by_cases e9 : E = "java/lang/IllegalStateException"
    · subst e9
      rw [if_pos rfl] at h9
      refine gx_catch (name := "java/lang/IllegalStateException") (pre := [⟨0, 57, 112, 17⟩, ⟨58, 63, 112, 17⟩, ⟨64, 69, 112, 17⟩, ⟨70, 75, 112, 17⟩, ⟨76, 81, 112, 17⟩, ⟨82, 87, 112, 17⟩, ⟨88, 93, 112, 17⟩, ⟨94, 99, 112, 17⟩, ⟨100, 105, 112, 17⟩, ⟨106, 111, 112, 17⟩, ⟨0, 57, 117, 21⟩, ⟨58, 63, 117, 21⟩, ⟨64, 69, 117, 21⟩]) (x := ⟨70, 75, 117, 21⟩) (suf := [⟨76, 81, 117, 21⟩, ⟨82, 87, 117, 21⟩, ⟨88, 93, 117, 21⟩, ⟨94, 99, 117, 21⟩, ⟨100, 105, 117, 21⟩, ⟨106, 111, 117, 21⟩]) C ht (by intro z hz; simp only [List.mem_cons, List.not_mem_nil, or_false] at hz; rcases hz with rfl | rfl | rfl | rfl | rfl | rfl | rfl | rfl | rfl | rfl | rfl | rfl | rfl <;> first | exact Or.inl (by decide) | exact Or.inr ⟨by decide, "java/util/NoSuchElementException", tw_202, by decide +kernel⟩) (by decide) (by decide) tw_204 (by decide +kernel) (fun q9 => ?_)
      refine gg_astore_n (L' := [some (va_rf v0), some (.int v1), some (.int v2), some (va_rf (some q9))]) C dL_of_117 (Or.inr (Or.inr ⟨_, rfl, rfl⟩)) (by decide) rfl ?_
      refine gg_sipush C dL_of_118 (v := (-1003 : Int32)) (by decide) ?_
      exact gg_iret C hr (by decide) (by decide) dL_of_121 rfl h9
    rw [if_neg e9] at h9
    exact h9.elim) (fun i12 g11 hf => ?_)
    exact gg_iret C hr (by decide) (by decide) dL_of_75 rfl hf
  rw [if_neg e10] at hf
  by_cases e13 : v2 = (4 : Int32)
  · rw [if_pos e13] at hf
    refine gg_tableIn (tgt := 76) C dL_of_1 (by rw [e13]; decide) (by rw [e13]; decide) (off := 75) (by rw [e13]; decide) (by decide) ?_
    refine gg_aload_n C dL_of_76 rfl ?_
    refine gg_iload_n C dL_of_77 rfl ?_
    refine gr_I (k' := 2) (n' := 12) (gk_V (ci := 7) (As := [.int v1]) (rest := []) C dL_of_78 rfl rfl tw_636 tw_637 tw_638 tw_25 tw_639 gd_X7_holdOf rfl ⟨by decide, by decide⟩ (by simp [gcat, gcI, gcL, gcF, gcD]) ⟨by decide, by decide⟩ hf (fun hf => m_X7_holdOf hfl hf)) rfl rfl (fun E g9 h9 => by
    by_cases e9 : E = "java/util/NoSuchElementException"
    · subst e9
      rw [if_pos rfl] at h9
      refine gx_catch (name := "java/util/NoSuchElementException") (pre := [⟨0, 57, 112, 17⟩, ⟨58, 63, 112, 17⟩, ⟨64, 69, 112, 17⟩, ⟨70, 75, 112, 17⟩]) (x := ⟨76, 81, 112, 17⟩) (suf := [⟨82, 87, 112, 17⟩, ⟨88, 93, 112, 17⟩, ⟨94, 99, 112, 17⟩, ⟨100, 105, 112, 17⟩, ⟨106, 111, 112, 17⟩, ⟨0, 57, 117, 21⟩, ⟨58, 63, 117, 21⟩, ⟨64, 69, 117, 21⟩, ⟨70, 75, 117, 21⟩, ⟨76, 81, 117, 21⟩, ⟨82, 87, 117, 21⟩, ⟨88, 93, 117, 21⟩, ⟨94, 99, 117, 21⟩, ⟨100, 105, 117, 21⟩, ⟨106, 111, 117, 21⟩]) C ht (by intro z hz; simp only [List.mem_cons, List.not_mem_nil, or_false] at hz; rcases hz with rfl | rfl | rfl | rfl <;> first | exact Or.inl (by decide)) (by decide) (by decide) tw_202 (by decide +kernel) (fun q9 => ?_)
      refine gg_astore_n (L' := [some (va_rf v0), some (.int v1), some (.int v2), some (va_rf (some q9))]) C dL_of_112 (Or.inr (Or.inr ⟨_, rfl, rfl⟩)) (by decide) rfl ?_
      refine gg_sipush C dL_of_113 (v := (-1001 : Int32)) (by decide) ?_
      exact gg_iret C hr (by decide) (by decide) dL_of_116 rfl h9
    rw [if_neg e9] at h9
    by_cases e9 : E = "java/lang/IllegalStateException"
    · subst e9
      rw [if_pos rfl] at h9
      refine gx_catch (name := "java/lang/IllegalStateException") (pre := [⟨0, 57, 112, 17⟩, ⟨58, 63, 112, 17⟩, ⟨64, 69, 112, 17⟩, ⟨70, 75, 112, 17⟩, ⟨76, 81, 112, 17⟩, ⟨82, 87, 112, 17⟩, ⟨88, 93, 112, 17⟩, ⟨94, 99, 112, 17⟩, ⟨100, 105, 112, 17⟩, ⟨106, 111, 112, 17⟩, ⟨0, 57, 117, 21⟩, ⟨58, 63, 117, 21⟩, ⟨64, 69, 117, 21⟩, ⟨70, 75, 117, 21⟩]) (x := ⟨76, 81, 117, 21⟩) (suf := [⟨82, 87, 117, 21⟩, ⟨88, 93, 117, 21⟩, ⟨94, 99, 117, 21⟩, ⟨100, 105, 117, 21⟩, ⟨106, 111, 117, 21⟩]) C ht (by intro z hz; simp only [List.mem_cons, List.not_mem_nil, or_false] at hz; rcases hz with rfl | rfl | rfl | rfl | rfl | rfl | rfl | rfl | rfl | rfl | rfl | rfl | rfl | rfl <;> first | exact Or.inl (by decide) | exact Or.inr ⟨by decide, "java/util/NoSuchElementException", tw_202, by decide +kernel⟩) (by decide) (by decide) tw_204 (by decide +kernel) (fun q9 => ?_)
      refine gg_astore_n (L' := [some (va_rf v0), some (.int v1), some (.int v2), some (va_rf (some q9))]) C dL_of_117 (Or.inr (Or.inr ⟨_, rfl, rfl⟩)) (by decide) rfl ?_
      refine gg_sipush C dL_of_118 (v := (-1003 : Int32)) (by decide) ?_
      exact gg_iret C hr (by decide) (by decide) dL_of_121 rfl h9
    rw [if_neg e9] at h9
    exact h9.elim) (fun i15 g14 hf => ?_)
    exact gg_iret C hr (by decide) (by decide) dL_of_81 rfl hf
  rw [if_neg e13] at hf
  by_cases e16 : v2 = (5 : Int32)
  · rw [if_pos e16] at hf
    refine gg_tableIn (tgt := 82) C dL_of_1 (by rw [e16]; decide) (by rw [e16]; decide) (off := 81) (by rw [e16]; decide) (by decide) ?_
    refine gg_aload_n C dL_of_82 rfl ?_
    refine gg_iload_n C dL_of_83 rfl ?_
    refine gr_I (k' := 1) (n' := 6) (gk_V (ci := 7) (As := [.int v1]) (rest := []) C dL_of_84 rfl rfl tw_657 tw_658 tw_659 tw_25 tw_660 gd_X7_reach rfl ⟨by decide, by decide⟩ (by simp [gcat, gcI, gcL, gcF, gcD]) ⟨by decide, by decide⟩ hf (fun hf => m_X7_reach hfl hf)) rfl rfl (fun E g9 h9 => by
    by_cases e9 : E = "java/util/NoSuchElementException"
    · subst e9
      rw [if_pos rfl] at h9
      refine gx_catch (name := "java/util/NoSuchElementException") (pre := [⟨0, 57, 112, 17⟩, ⟨58, 63, 112, 17⟩, ⟨64, 69, 112, 17⟩, ⟨70, 75, 112, 17⟩, ⟨76, 81, 112, 17⟩]) (x := ⟨82, 87, 112, 17⟩) (suf := [⟨88, 93, 112, 17⟩, ⟨94, 99, 112, 17⟩, ⟨100, 105, 112, 17⟩, ⟨106, 111, 112, 17⟩, ⟨0, 57, 117, 21⟩, ⟨58, 63, 117, 21⟩, ⟨64, 69, 117, 21⟩, ⟨70, 75, 117, 21⟩, ⟨76, 81, 117, 21⟩, ⟨82, 87, 117, 21⟩, ⟨88, 93, 117, 21⟩, ⟨94, 99, 117, 21⟩, ⟨100, 105, 117, 21⟩, ⟨106, 111, 117, 21⟩]) C ht (by intro z hz; simp only [List.mem_cons, List.not_mem_nil, or_false] at hz; rcases hz with rfl | rfl | rfl | rfl | rfl <;> first | exact Or.inl (by decide)) (by decide) (by decide) tw_202 (by decide +kernel) (fun q9 => ?_)
      refine gg_astore_n (L' := [some (va_rf v0), some (.int v1), some (.int v2), some (va_rf (some q9))]) C dL_of_112 (Or.inr (Or.inr ⟨_, rfl, rfl⟩)) (by decide) rfl ?_
      refine gg_sipush C dL_of_113 (v := (-1001 : Int32)) (by decide) ?_
      exact gg_iret C hr (by decide) (by decide) dL_of_116 rfl h9
    rw [if_neg e9] at h9
    by_cases e9 : E = "java/lang/IllegalStateException"
    · subst e9
      rw [if_pos rfl] at h9
      refine gx_catch (name := "java/lang/IllegalStateException") (pre := [⟨0, 57, 112, 17⟩, ⟨58, 63, 112, 17⟩, ⟨64, 69, 112, 17⟩, ⟨70, 75, 112, 17⟩, ⟨76, 81, 112, 17⟩, ⟨82, 87, 112, 17⟩, ⟨88, 93, 112, 17⟩, ⟨94, 99, 112, 17⟩, ⟨100, 105, 112, 17⟩, ⟨106, 111, 112, 17⟩, ⟨0, 57, 117, 21⟩, ⟨58, 63, 117, 21⟩, ⟨64, 69, 117, 21⟩, ⟨70, 75, 117, 21⟩, ⟨76, 81, 117, 21⟩]) (x := ⟨82, 87, 117, 21⟩) (suf := [⟨88, 93, 117, 21⟩, ⟨94, 99, 117, 21⟩, ⟨100, 105, 117, 21⟩, ⟨106, 111, 117, 21⟩]) C ht (by intro z hz; simp only [List.mem_cons, List.not_mem_nil, or_false] at hz; rcases hz with rfl | rfl | rfl | rfl | rfl | rfl | rfl | rfl | rfl | rfl | rfl | rfl | rfl | rfl | rfl <;> first | exact Or.inl (by decide) | exact Or.inr ⟨by decide, "java/util/NoSuchElementException", tw_202, by decide +kernel⟩) (by decide) (by decide) tw_204 (by decide +kernel) (fun q9 => ?_)
      refine gg_astore_n (L' := [some (va_rf v0), some (.int v1), some (.int v2), some (va_rf (some q9))]) C dL_of_117 (Or.inr (Or.inr ⟨_, rfl, rfl⟩)) (by decide) rfl ?_
      refine gg_sipush C dL_of_118 (v := (-1003 : Int32)) (by decide) ?_
      exact gg_iret C hr (by decide) (by decide) dL_of_121 rfl h9
    rw [if_neg e9] at h9
    exact h9.elim) (fun i18 g17 hf => ?_)
    exact gg_iret C hr (by decide) (by decide) dL_of_87 rfl hf
  rw [if_neg e16] at hf
  by_cases e19 : v2 = (6 : Int32)
  · rw [if_pos e19] at hf
    refine gg_tableIn (tgt := 88) C dL_of_1 (by rw [e19]; decide) (by rw [e19]; decide) (off := 87) (by rw [e19]; decide) (by decide) ?_
    refine gg_aload_n C dL_of_88 rfl ?_
    refine gg_iload_n C dL_of_89 rfl ?_
    refine gr_I (k' := 1) (n' := 6) (gk_V (ci := 7) (As := [.int v1]) (rest := []) C dL_of_90 rfl rfl tw_677 tw_678 tw_679 tw_25 tw_680 gd_X7_reachByDevices rfl ⟨by decide, by decide⟩ (by simp [gcat, gcI, gcL, gcF, gcD]) ⟨by decide, by decide⟩ hf (fun hf => m_X7_reachByDevices hfl hf)) rfl rfl (fun E g9 h9 => by
    by_cases e9 : E = "java/util/NoSuchElementException"
    · subst e9
      rw [if_pos rfl] at h9
      refine gx_catch (name := "java/util/NoSuchElementException") (pre := [⟨0, 57, 112, 17⟩, ⟨58, 63, 112, 17⟩, ⟨64, 69, 112, 17⟩, ⟨70, 75, 112, 17⟩, ⟨76, 81, 112, 17⟩, ⟨82, 87, 112, 17⟩]) (x := ⟨88, 93, 112, 17⟩) (suf := [⟨94, 99, 112, 17⟩, ⟨100, 105, 112, 17⟩, ⟨106, 111, 112, 17⟩, ⟨0, 57, 117, 21⟩, ⟨58, 63, 117, 21⟩, ⟨64, 69, 117, 21⟩, ⟨70, 75, 117, 21⟩, ⟨76, 81, 117, 21⟩, ⟨82, 87, 117, 21⟩, ⟨88, 93, 117, 21⟩, ⟨94, 99, 117, 21⟩, ⟨100, 105, 117, 21⟩, ⟨106, 111, 117, 21⟩]) C ht (by intro z hz; simp only [List.mem_cons, List.not_mem_nil, or_false] at hz; rcases hz with rfl | rfl | rfl | rfl | rfl | rfl <;> first | exact Or.inl (by decide)) (by decide) (by decide) tw_202 (by decide +kernel) (fun q9 => ?_)
      refine gg_astore_n (L' := [some (va_rf v0), some (.int v1), some (.int v2), some (va_rf (some q9))]) C dL_of_112 (Or.inr (Or.inr ⟨_, rfl, rfl⟩)) (by decide) rfl ?_
      refine gg_sipush C dL_of_113 (v := (-1001 : Int32)) (by decide) ?_
      exact gg_iret C hr (by decide) (by decide) dL_of_116 rfl h9
    rw [if_neg e9] at h9
    by_cases e9 : E = "java/lang/IllegalStateException"
    · subst e9
      rw [if_pos rfl] at h9
      refine gx_catch (name := "java/lang/IllegalStateException") (pre := [⟨0, 57, 112, 17⟩, ⟨58, 63, 112, 17⟩, ⟨64, 69, 112, 17⟩, ⟨70, 75, 112, 17⟩, ⟨76, 81, 112, 17⟩, ⟨82, 87, 112, 17⟩, ⟨88, 93, 112, 17⟩, ⟨94, 99, 112, 17⟩, ⟨100, 105, 112, 17⟩, ⟨106, 111, 112, 17⟩, ⟨0, 57, 117, 21⟩, ⟨58, 63, 117, 21⟩, ⟨64, 69, 117, 21⟩, ⟨70, 75, 117, 21⟩, ⟨76, 81, 117, 21⟩, ⟨82, 87, 117, 21⟩]) (x := ⟨88, 93, 117, 21⟩) (suf := [⟨94, 99, 117, 21⟩, ⟨100, 105, 117, 21⟩, ⟨106, 111, 117, 21⟩]) C ht (by intro z hz; simp only [List.mem_cons, List.not_mem_nil, or_false] at hz; rcases hz with rfl | rfl | rfl | rfl | rfl | rfl | rfl | rfl | rfl | rfl | rfl | rfl | rfl | rfl | rfl | rfl <;> first | exact Or.inl (by decide) | exact Or.inr ⟨by decide, "java/util/NoSuchElementException", tw_202, by decide +kernel⟩) (by decide) (by decide) tw_204 (by decide +kernel) (fun q9 => ?_)
      refine gg_astore_n (L' := [some (va_rf v0), some (.int v1), some (.int v2), some (va_rf (some q9))]) C dL_of_117 (Or.inr (Or.inr ⟨_, rfl, rfl⟩)) (by decide) rfl ?_
      refine gg_sipush C dL_of_118 (v := (-1003 : Int32)) (by decide) ?_
      exact gg_iret C hr (by decide) (by decide) dL_of_121 rfl h9
    rw [if_neg e9] at h9
    exact h9.elim) (fun i21 g20 hf => ?_)
    exact gg_iret C hr (by decide) (by decide) dL_of_93 rfl hf
  rw [if_neg e19] at hf
  by_cases e22 : v2 = (7 : Int32)
  · rw [if_pos e22] at hf
    refine gg_tableIn (tgt := 94) C dL_of_1 (by rw [e22]; decide) (by rw [e22]; decide) (off := 93) (by rw [e22]; decide) (by decide) ?_
    refine gg_aload_n C dL_of_94 rfl ?_
    refine gg_iload_n C dL_of_95 rfl ?_
    refine gr_I (k' := 1) (n' := 6) (gk_V (ci := 7) (As := [.int v1]) (rest := []) C dL_of_96 rfl rfl tw_689 tw_690 tw_691 tw_25 tw_692 gd_X7_devicesWith rfl ⟨by decide, by decide⟩ (by simp [gcat, gcI, gcL, gcF, gcD]) ⟨by decide, by decide⟩ hf (fun hf => m_X7_devicesWith hfl hf)) rfl rfl (fun E g9 h9 => by
    by_cases e9 : E = "java/util/NoSuchElementException"
    · subst e9
      rw [if_pos rfl] at h9
      refine gx_catch (name := "java/util/NoSuchElementException") (pre := [⟨0, 57, 112, 17⟩, ⟨58, 63, 112, 17⟩, ⟨64, 69, 112, 17⟩, ⟨70, 75, 112, 17⟩, ⟨76, 81, 112, 17⟩, ⟨82, 87, 112, 17⟩, ⟨88, 93, 112, 17⟩]) (x := ⟨94, 99, 112, 17⟩) (suf := [⟨100, 105, 112, 17⟩, ⟨106, 111, 112, 17⟩, ⟨0, 57, 117, 21⟩, ⟨58, 63, 117, 21⟩, ⟨64, 69, 117, 21⟩, ⟨70, 75, 117, 21⟩, ⟨76, 81, 117, 21⟩, ⟨82, 87, 117, 21⟩, ⟨88, 93, 117, 21⟩, ⟨94, 99, 117, 21⟩, ⟨100, 105, 117, 21⟩, ⟨106, 111, 117, 21⟩]) C ht (by intro z hz; simp only [List.mem_cons, List.not_mem_nil, or_false] at hz; rcases hz with rfl | rfl | rfl | rfl | rfl | rfl | rfl <;> first | exact Or.inl (by decide)) (by decide) (by decide) tw_202 (by decide +kernel) (fun q9 => ?_)
      refine gg_astore_n (L' := [some (va_rf v0), some (.int v1), some (.int v2), some (va_rf (some q9))]) C dL_of_112 (Or.inr (Or.inr ⟨_, rfl, rfl⟩)) (by decide) rfl ?_
      refine gg_sipush C dL_of_113 (v := (-1001 : Int32)) (by decide) ?_
      exact gg_iret C hr (by decide) (by decide) dL_of_116 rfl h9
    rw [if_neg e9] at h9
    by_cases e9 : E = "java/lang/IllegalStateException"
    · subst e9
      rw [if_pos rfl] at h9
      refine gx_catch (name := "java/lang/IllegalStateException") (pre := [⟨0, 57, 112, 17⟩, ⟨58, 63, 112, 17⟩, ⟨64, 69, 112, 17⟩, ⟨70, 75, 112, 17⟩, ⟨76, 81, 112, 17⟩, ⟨82, 87, 112, 17⟩, ⟨88, 93, 112, 17⟩, ⟨94, 99, 112, 17⟩, ⟨100, 105, 112, 17⟩, ⟨106, 111, 112, 17⟩, ⟨0, 57, 117, 21⟩, ⟨58, 63, 117, 21⟩, ⟨64, 69, 117, 21⟩, ⟨70, 75, 117, 21⟩, ⟨76, 81, 117, 21⟩, ⟨82, 87, 117, 21⟩, ⟨88, 93, 117, 21⟩]) (x := ⟨94, 99, 117, 21⟩) (suf := [⟨100, 105, 117, 21⟩, ⟨106, 111, 117, 21⟩]) C ht (by intro z hz; simp only [List.mem_cons, List.not_mem_nil, or_false] at hz; rcases hz with rfl | rfl | rfl | rfl | rfl | rfl | rfl | rfl | rfl | rfl | rfl | rfl | rfl | rfl | rfl | rfl | rfl <;> first | exact Or.inl (by decide) | exact Or.inr ⟨by decide, "java/util/NoSuchElementException", tw_202, by decide +kernel⟩) (by decide) (by decide) tw_204 (by decide +kernel) (fun q9 => ?_)
      refine gg_astore_n (L' := [some (va_rf v0), some (.int v1), some (.int v2), some (va_rf (some q9))]) C dL_of_117 (Or.inr (Or.inr ⟨_, rfl, rfl⟩)) (by decide) rfl ?_
      refine gg_sipush C dL_of_118 (v := (-1003 : Int32)) (by decide) ?_
      exact gg_iret C hr (by decide) (by decide) dL_of_121 rfl h9
    rw [if_neg e9] at h9
    exact h9.elim) (fun i24 g23 hf => ?_)
    exact gg_iret C hr (by decide) (by decide) dL_of_99 rfl hf
  rw [if_neg e22] at hf
  by_cases e25 : v2 = (8 : Int32)
  · rw [if_pos e25] at hf
    refine gg_tableIn (tgt := 100) C dL_of_1 (by rw [e25]; decide) (by rw [e25]; decide) (off := 99) (by rw [e25]; decide) (by decide) ?_
    refine gg_aload_n C dL_of_100 rfl ?_
    refine gg_iload_n C dL_of_101 rfl ?_
    refine gr_I (k' := 1) (n' := 6) (gk_V (ci := 7) (As := [.int v1]) (rest := []) C dL_of_102 rfl rfl tw_693 tw_694 tw_695 tw_25 tw_696 gd_X7_installs rfl ⟨by decide, by decide⟩ (by simp [gcat, gcI, gcL, gcF, gcD]) ⟨by decide, by decide⟩ hf (fun hf => m_X7_installs hfl hf)) rfl rfl (fun E g9 h9 => by
    by_cases e9 : E = "java/util/NoSuchElementException"
    · subst e9
      rw [if_pos rfl] at h9
      refine gx_catch (name := "java/util/NoSuchElementException") (pre := [⟨0, 57, 112, 17⟩, ⟨58, 63, 112, 17⟩, ⟨64, 69, 112, 17⟩, ⟨70, 75, 112, 17⟩, ⟨76, 81, 112, 17⟩, ⟨82, 87, 112, 17⟩, ⟨88, 93, 112, 17⟩, ⟨94, 99, 112, 17⟩]) (x := ⟨100, 105, 112, 17⟩) (suf := [⟨106, 111, 112, 17⟩, ⟨0, 57, 117, 21⟩, ⟨58, 63, 117, 21⟩, ⟨64, 69, 117, 21⟩, ⟨70, 75, 117, 21⟩, ⟨76, 81, 117, 21⟩, ⟨82, 87, 117, 21⟩, ⟨88, 93, 117, 21⟩, ⟨94, 99, 117, 21⟩, ⟨100, 105, 117, 21⟩, ⟨106, 111, 117, 21⟩]) C ht (by intro z hz; simp only [List.mem_cons, List.not_mem_nil, or_false] at hz; rcases hz with rfl | rfl | rfl | rfl | rfl | rfl | rfl | rfl <;> first | exact Or.inl (by decide)) (by decide) (by decide) tw_202 (by decide +kernel) (fun q9 => ?_)
      refine gg_astore_n (L' := [some (va_rf v0), some (.int v1), some (.int v2), some (va_rf (some q9))]) C dL_of_112 (Or.inr (Or.inr ⟨_, rfl, rfl⟩)) (by decide) rfl ?_
      refine gg_sipush C dL_of_113 (v := (-1001 : Int32)) (by decide) ?_
      exact gg_iret C hr (by decide) (by decide) dL_of_116 rfl h9
    rw [if_neg e9] at h9
    by_cases e9 : E = "java/lang/IllegalStateException"
    · subst e9
      rw [if_pos rfl] at h9
      refine gx_catch (name := "java/lang/IllegalStateException") (pre := [⟨0, 57, 112, 17⟩, ⟨58, 63, 112, 17⟩, ⟨64, 69, 112, 17⟩, ⟨70, 75, 112, 17⟩, ⟨76, 81, 112, 17⟩, ⟨82, 87, 112, 17⟩, ⟨88, 93, 112, 17⟩, ⟨94, 99, 112, 17⟩, ⟨100, 105, 112, 17⟩, ⟨106, 111, 112, 17⟩, ⟨0, 57, 117, 21⟩, ⟨58, 63, 117, 21⟩, ⟨64, 69, 117, 21⟩, ⟨70, 75, 117, 21⟩, ⟨76, 81, 117, 21⟩, ⟨82, 87, 117, 21⟩, ⟨88, 93, 117, 21⟩, ⟨94, 99, 117, 21⟩]) (x := ⟨100, 105, 117, 21⟩) (suf := [⟨106, 111, 117, 21⟩]) C ht (by intro z hz; simp only [List.mem_cons, List.not_mem_nil, or_false] at hz; rcases hz with rfl | rfl | rfl | rfl | rfl | rfl | rfl | rfl | rfl | rfl | rfl | rfl | rfl | rfl | rfl | rfl | rfl | rfl <;> first | exact Or.inl (by decide) | exact Or.inr ⟨by decide, "java/util/NoSuchElementException", tw_202, by decide +kernel⟩) (by decide) (by decide) tw_204 (by decide +kernel) (fun q9 => ?_)
      refine gg_astore_n (L' := [some (va_rf v0), some (.int v1), some (.int v2), some (va_rf (some q9))]) C dL_of_117 (Or.inr (Or.inr ⟨_, rfl, rfl⟩)) (by decide) rfl ?_
      refine gg_sipush C dL_of_118 (v := (-1003 : Int32)) (by decide) ?_
      exact gg_iret C hr (by decide) (by decide) dL_of_121 rfl h9
    rw [if_neg e9] at h9
    exact h9.elim) (fun i27 g26 hf => ?_)
    exact gg_iret C hr (by decide) (by decide) dL_of_105 rfl hf
  rw [if_neg e25] at hf
  refine gg_tableOut (tgt := 106) C dL_of_1 (by have h0 := sw_ne (z := 0) (by decide) e1; have h1 := sw_ne (z := 1) (by decide) e4; have h2 := sw_ne (z := 2) (by decide) e7; have h3 := sw_ne (z := 3) (by decide) e10; have h4 := sw_ne (z := 4) (by decide) e13; have h5 := sw_ne (z := 5) (by decide) e16; have h6 := sw_ne (z := 6) (by decide) e19; have h7 := sw_ne (z := 7) (by decide) e22; have h8 := sw_ne (z := 8) (by decide) e25; omega) (by decide) ?_
  refine gg_aload_n C dL_of_106 rfl ?_
  refine gg_iload_n C dL_of_107 rfl ?_
  refine gr_I (k' := 6) (n' := 646) (gk_V (ci := 7) (As := [.int v1]) (rest := []) C dL_of_108 rfl rfl tw_697 tw_698 tw_699 tw_25 tw_700 gd_X7_writeBuild rfl ⟨by decide, by decide⟩ (by simp [gcat, gcI, gcL, gcF, gcD]) ⟨by decide, by decide⟩ hf (fun hf => m_X7_writeBuild hfl hf)) rfl rfl (fun E g9 h9 => by
    by_cases e9 : E = "java/util/NoSuchElementException"
    · subst e9
      rw [if_pos rfl] at h9
      refine gx_catch (name := "java/util/NoSuchElementException") (pre := [⟨0, 57, 112, 17⟩, ⟨58, 63, 112, 17⟩, ⟨64, 69, 112, 17⟩, ⟨70, 75, 112, 17⟩, ⟨76, 81, 112, 17⟩, ⟨82, 87, 112, 17⟩, ⟨88, 93, 112, 17⟩, ⟨94, 99, 112, 17⟩, ⟨100, 105, 112, 17⟩]) (x := ⟨106, 111, 112, 17⟩) (suf := [⟨0, 57, 117, 21⟩, ⟨58, 63, 117, 21⟩, ⟨64, 69, 117, 21⟩, ⟨70, 75, 117, 21⟩, ⟨76, 81, 117, 21⟩, ⟨82, 87, 117, 21⟩, ⟨88, 93, 117, 21⟩, ⟨94, 99, 117, 21⟩, ⟨100, 105, 117, 21⟩, ⟨106, 111, 117, 21⟩]) C ht (by intro z hz; simp only [List.mem_cons, List.not_mem_nil, or_false] at hz; rcases hz with rfl | rfl | rfl | rfl | rfl | rfl | rfl | rfl | rfl <;> first | exact Or.inl (by decide)) (by decide) (by decide) tw_202 (by decide +kernel) (fun q9 => ?_)
      refine gg_astore_n (L' := [some (va_rf v0), some (.int v1), some (.int v2), some (va_rf (some q9))]) C dL_of_112 (Or.inr (Or.inr ⟨_, rfl, rfl⟩)) (by decide) rfl ?_
      refine gg_sipush C dL_of_113 (v := (-1001 : Int32)) (by decide) ?_
      exact gg_iret C hr (by decide) (by decide) dL_of_116 rfl h9
    rw [if_neg e9] at h9
    by_cases e9 : E = "java/lang/IllegalStateException"
    · subst e9
      rw [if_pos rfl] at h9
      refine gx_catch (name := "java/lang/IllegalStateException") (pre := [⟨0, 57, 112, 17⟩, ⟨58, 63, 112, 17⟩, ⟨64, 69, 112, 17⟩, ⟨70, 75, 112, 17⟩, ⟨76, 81, 112, 17⟩, ⟨82, 87, 112, 17⟩, ⟨88, 93, 112, 17⟩, ⟨94, 99, 112, 17⟩, ⟨100, 105, 112, 17⟩, ⟨106, 111, 112, 17⟩, ⟨0, 57, 117, 21⟩, ⟨58, 63, 117, 21⟩, ⟨64, 69, 117, 21⟩, ⟨70, 75, 117, 21⟩, ⟨76, 81, 117, 21⟩, ⟨82, 87, 117, 21⟩, ⟨88, 93, 117, 21⟩, ⟨94, 99, 117, 21⟩, ⟨100, 105, 117, 21⟩]) (x := ⟨106, 111, 117, 21⟩) (suf := []) C ht (by intro z hz; simp only [List.mem_cons, List.not_mem_nil, or_false] at hz; rcases hz with rfl | rfl | rfl | rfl | rfl | rfl | rfl | rfl | rfl | rfl | rfl | rfl | rfl | rfl | rfl | rfl | rfl | rfl | rfl <;> first | exact Or.inl (by decide) | exact Or.inr ⟨by decide, "java/util/NoSuchElementException", tw_202, by decide +kernel⟩) (by decide) (by decide) tw_204 (by decide +kernel) (fun q9 => ?_)
      refine gg_astore_n (L' := [some (va_rf v0), some (.int v1), some (.int v2), some (va_rf (some q9))]) C dL_of_117 (Or.inr (Or.inr ⟨_, rfl, rfl⟩)) (by decide) rfl ?_
      refine gg_sipush C dL_of_118 (v := (-1003 : Int32)) (by decide) ?_
      exact gg_iret C hr (by decide) (by decide) dL_of_121 rfl h9
    rw [if_neg e9] at h9
    exact h9.elim) (fun i29 g28 hf => ?_)
  exact gg_iret C hr (by decide) (by decide) dL_of_111 rfl hf

def w_L_device_b43 (X : Cx) (post : Int32 → GM → Prop) (px : String → GM → Prop)  (t0 : Int32) (g : GM) : Prop :=
  post t0 g
def w_L_device (X : Cx) (post : Int32 → GM → Prop) (px : String → GM → Prop) (v0 : Option Nat) (v1 : Int32) (v2 : Int32) (g : GM) : Prop :=
  (if v2 = 0 then wIs g v0 7 (w_X7_offered X (fun (i8 : Int32) (g7 : GM) => w_L_device_b43 X post px i8 g7) (fun E g9 => if E = "java/util/NoSuchElementException" then post (-1001 : Int32) g9 else (if E = "java/lang/IllegalStateException" then post (-1003 : Int32) g9 else (False))) v0 v1 g) else (if v2 = (1 : Int32) then wIs g v0 7 (w_X7_update X (fun (i6 : Int32) (g5 : GM) => w_L_device_b43 X post px i6 g5) (fun E g9 => if E = "java/util/NoSuchElementException" then post (-1001 : Int32) g9 else (if E = "java/lang/IllegalStateException" then post (-1003 : Int32) g9 else (False))) v0 v1 g) else (if v2 = (2 : Int32) then wIs g v0 7 (w_X7_buildOf X (fun (i4 : Int32) (g3 : GM) => w_L_device_b43 X post px i4 g3) (fun E g9 => if E = "java/util/NoSuchElementException" then post (-1001 : Int32) g9 else (if E = "java/lang/IllegalStateException" then post (-1003 : Int32) g9 else (False))) v0 v1 g) else wIs g v0 7 (w_X7_crash X (fun (i2 : Int32) (g1 : GM) => w_L_device_b43 X post px i2 g1) (fun E g9 => if E = "java/util/NoSuchElementException" then post (-1001 : Int32) g9 else (if E = "java/lang/IllegalStateException" then post (-1003 : Int32) g9 else (False))) v0 v1 g))))
abbrev rm_L_device : Room := { frames := 9, cells := 6, slots := 88, locals := 256 }
set_option maxHeartbeats 4000000 in
set_option maxRecDepth 100000 in
theorem m_L_device {X : Cx} {l : Launch} (hfl : l.stackTraces = false) {post : Int32 → GM → Prop} {px : String → GM → Prop} {v0 : Option Nat} {v1 : Int32} {v2 : Int32} {g : GM} (hf : w_L_device X post px v0 v1 v2 g) : vx_Met l yL_device (.codeWith yL_device cL_device 4 (some .int) [(0, 43, 44, 17), (0, 43, 49, 21)] :: TBL) rm_L_device (gPc X [va_rf v0, .int v1, .int v2] g) (qI X post) (gXC X px) rm_L_device.cells rm_L_device.slots (gA X) := by
  refine gg_enterW (hh := [(0, 43, 44, 17), (0, 43, 49, 21)]) (L := [some (va_rf v0), some (.int v1), some (.int v2), none]) hfl (by decide +kernel) (by simp [lg_sl, gcat, gcI, gcL, gcF, gcD]) (by simp [gll, lv_args, gcat, gcI, gcL, gcF, gcD]) ?_
  intro p e s m args below meth c C hr ht
  have C : FC X p l s m args meth c cL_device 4 "ReleasetrainLaw" := C
  have hb_43 : ∀ (t0 : Int32) (g : GM), w_L_device_b43 X post px  t0 g → GG X p l e rm_L_device s m args below meth c 4 (vx_MQ below (qI X post) (gXC X px) args s rm_L_device.cells rm_L_device.slots (gA X)) 6 88 43 [none, none, none, none] [.int t0] g := by
    intro  t0 g hf
    unfold w_L_device_b43 at hf
    exact gg_iret C hr (by decide) (by decide) dL_device_43 rfl hf
  unfold w_L_device at hf
  refine gg_iload_n C dL_device_0 rfl ?_
  refine gg_if_ne (tgt := 12) C dL_device_1 (by decide) hf (fun hf => ?_) (fun hf => ?_)
  · refine gg_iload_n C dL_device_12 rfl ?_
    refine gg_iconst C dL_device_13 (v := (1 : Int32)) (by decide) ?_
    refine gg_icmp_ne (tgt := 25) C dL_device_14 (by decide) hf (fun hf => ?_) (fun hf => ?_)
    · refine gg_iload_n C dL_device_25 rfl ?_
      refine gg_iconst C dL_device_26 (v := (2 : Int32)) (by decide) ?_
      refine gg_icmp_ne (tgt := 38) C dL_device_27 (by decide) hf (fun hf => ?_) (fun hf => ?_)
      · refine gg_aload_n C dL_device_38 rfl ?_
        refine gg_iload_n C dL_device_39 rfl ?_
        refine gr_I (k' := 6) (n' := 88) (gk_V (ci := 7) (As := [.int v1]) (rest := []) C dL_device_40 rfl rfl tw_1046 tw_1047 tw_1048 tw_25 tw_1049 gd_X7_crash rfl ⟨by decide, by decide⟩ (by simp [gcat, gcI, gcL, gcF, gcD]) ⟨by decide, by decide⟩ hf (fun hf => m_X7_crash hfl hf)) rfl rfl (fun E g9 h9 => by
    by_cases e9 : E = "java/util/NoSuchElementException"
    · subst e9
      rw [if_pos rfl] at h9
      refine gx_catch (name := "java/util/NoSuchElementException") (pre := []) (x := ⟨0, 43, 44, 17⟩) (suf := [⟨0, 43, 49, 21⟩]) C ht (fun z hz => nomatch hz) (by decide) (by decide) tw_202 (by decide +kernel) (fun q9 => ?_)
      refine gg_astore_n (L' := [some (va_rf v0), some (.int v1), some (.int v2), some (va_rf (some q9))]) C dL_device_44 (Or.inr (Or.inr ⟨_, rfl, rfl⟩)) (by decide) rfl ?_
      refine gg_sipush C dL_device_45 (v := (-1001 : Int32)) (by decide) ?_
      exact gg_iret C hr (by decide) (by decide) dL_device_48 rfl h9
    rw [if_neg e9] at h9
    by_cases e9 : E = "java/lang/IllegalStateException"
    · subst e9
      rw [if_pos rfl] at h9
      refine gx_catch (name := "java/lang/IllegalStateException") (pre := [⟨0, 43, 44, 17⟩]) (x := ⟨0, 43, 49, 21⟩) (suf := []) C ht (by intro z hz; simp only [List.mem_cons, List.not_mem_nil, or_false] at hz; rcases hz with rfl <;> first | exact Or.inl (by decide) | exact Or.inr ⟨by decide, "java/util/NoSuchElementException", tw_202, by decide +kernel⟩) (by decide) (by decide) tw_204 (by decide +kernel) (fun q9 => ?_)
      refine gg_astore_n (L' := [some (va_rf v0), some (.int v1), some (.int v2), some (va_rf (some q9))]) C dL_device_49 (Or.inr (Or.inr ⟨_, rfl, rfl⟩)) (by decide) rfl ?_
      refine gg_sipush C dL_device_50 (v := (-1003 : Int32)) (by decide) ?_
      exact gg_iret C hr (by decide) (by decide) dL_device_53 rfl h9
    rw [if_neg e9] at h9
    exact h9.elim) (fun i2 g1 hf => ?_)
        exact gg_sub (L' := [none, none, none, none]) (by first | exact trivial | simp [gsub]) (hb_43 _ _ hf)
      · refine gg_aload_n C dL_device_30 rfl ?_
        refine gg_iload_n C dL_device_31 rfl ?_
        refine gr_I (k' := 2) (n' := 12) (gk_V (ci := 7) (As := [.int v1]) (rest := []) C dL_device_32 rfl rfl tw_1038 tw_1039 tw_1040 tw_25 tw_1041 gd_X7_buildOf rfl ⟨by decide, by decide⟩ (by simp [gcat, gcI, gcL, gcF, gcD]) ⟨by decide, by decide⟩ hf (fun hf => m_X7_buildOf hfl hf)) rfl rfl (fun E g9 h9 => by
    by_cases e9 : E = "java/util/NoSuchElementException"
    · subst e9
      rw [if_pos rfl] at h9
      refine gx_catch (name := "java/util/NoSuchElementException") (pre := []) (x := ⟨0, 43, 44, 17⟩) (suf := [⟨0, 43, 49, 21⟩]) C ht (fun z hz => nomatch hz) (by decide) (by decide) tw_202 (by decide +kernel) (fun q9 => ?_)
      refine gg_astore_n (L' := [some (va_rf v0), some (.int v1), some (.int v2), some (va_rf (some q9))]) C dL_device_44 (Or.inr (Or.inr ⟨_, rfl, rfl⟩)) (by decide) rfl ?_
      refine gg_sipush C dL_device_45 (v := (-1001 : Int32)) (by decide) ?_
      exact gg_iret C hr (by decide) (by decide) dL_device_48 rfl h9
    rw [if_neg e9] at h9
    by_cases e9 : E = "java/lang/IllegalStateException"
    · subst e9
      rw [if_pos rfl] at h9
      refine gx_catch (name := "java/lang/IllegalStateException") (pre := [⟨0, 43, 44, 17⟩]) (x := ⟨0, 43, 49, 21⟩) (suf := []) C ht (by intro z hz; simp only [List.mem_cons, List.not_mem_nil, or_false] at hz; rcases hz with rfl <;> first | exact Or.inl (by decide) | exact Or.inr ⟨by decide, "java/util/NoSuchElementException", tw_202, by decide +kernel⟩) (by decide) (by decide) tw_204 (by decide +kernel) (fun q9 => ?_)
      refine gg_astore_n (L' := [some (va_rf v0), some (.int v1), some (.int v2), some (va_rf (some q9))]) C dL_device_49 (Or.inr (Or.inr ⟨_, rfl, rfl⟩)) (by decide) rfl ?_
      refine gg_sipush C dL_device_50 (v := (-1003 : Int32)) (by decide) ?_
      exact gg_iret C hr (by decide) (by decide) dL_device_53 rfl h9
    rw [if_neg e9] at h9
    exact h9.elim) (fun i4 g3 hf => ?_)
        refine gg_goto (tgt := 43) C dL_device_35 (by decide) ?_
        exact gg_sub (L' := [none, none, none, none]) (by first | exact trivial | simp [gsub]) (gg_widen (k' := 6) (n' := 88) (by decide) (by decide) (hb_43 _ _ hf))
    · refine gg_aload_n C dL_device_17 rfl ?_
      refine gg_iload_n C dL_device_18 rfl ?_
      refine gr_I (k' := 2) (n' := 12) (gk_V (ci := 7) (As := [.int v1]) (rest := []) C dL_device_19 rfl rfl tw_1034 tw_1035 tw_1036 tw_25 tw_1037 gd_X7_update rfl ⟨by decide, by decide⟩ (by simp [gcat, gcI, gcL, gcF, gcD]) ⟨by decide, by decide⟩ hf (fun hf => m_X7_update hfl hf)) rfl rfl (fun E g9 h9 => by
    by_cases e9 : E = "java/util/NoSuchElementException"
    · subst e9
      rw [if_pos rfl] at h9
      refine gx_catch (name := "java/util/NoSuchElementException") (pre := []) (x := ⟨0, 43, 44, 17⟩) (suf := [⟨0, 43, 49, 21⟩]) C ht (fun z hz => nomatch hz) (by decide) (by decide) tw_202 (by decide +kernel) (fun q9 => ?_)
      refine gg_astore_n (L' := [some (va_rf v0), some (.int v1), some (.int v2), some (va_rf (some q9))]) C dL_device_44 (Or.inr (Or.inr ⟨_, rfl, rfl⟩)) (by decide) rfl ?_
      refine gg_sipush C dL_device_45 (v := (-1001 : Int32)) (by decide) ?_
      exact gg_iret C hr (by decide) (by decide) dL_device_48 rfl h9
    rw [if_neg e9] at h9
    by_cases e9 : E = "java/lang/IllegalStateException"
    · subst e9
      rw [if_pos rfl] at h9
      refine gx_catch (name := "java/lang/IllegalStateException") (pre := [⟨0, 43, 44, 17⟩]) (x := ⟨0, 43, 49, 21⟩) (suf := []) C ht (by intro z hz; simp only [List.mem_cons, List.not_mem_nil, or_false] at hz; rcases hz with rfl <;> first | exact Or.inl (by decide) | exact Or.inr ⟨by decide, "java/util/NoSuchElementException", tw_202, by decide +kernel⟩) (by decide) (by decide) tw_204 (by decide +kernel) (fun q9 => ?_)
      refine gg_astore_n (L' := [some (va_rf v0), some (.int v1), some (.int v2), some (va_rf (some q9))]) C dL_device_49 (Or.inr (Or.inr ⟨_, rfl, rfl⟩)) (by decide) rfl ?_
      refine gg_sipush C dL_device_50 (v := (-1003 : Int32)) (by decide) ?_
      exact gg_iret C hr (by decide) (by decide) dL_device_53 rfl h9
    rw [if_neg e9] at h9
    exact h9.elim) (fun i6 g5 hf => ?_)
      refine gg_goto (tgt := 43) C dL_device_22 (by decide) ?_
      exact gg_sub (L' := [none, none, none, none]) (by first | exact trivial | simp [gsub]) (gg_widen (k' := 6) (n' := 88) (by decide) (by decide) (hb_43 _ _ hf))
  · refine gg_aload_n C dL_device_4 rfl ?_
    refine gg_iload_n C dL_device_5 rfl ?_
    refine gr_I (k' := 2) (n' := 12) (gk_V (ci := 7) (As := [.int v1]) (rest := []) C dL_device_6 rfl rfl tw_1011 tw_1012 tw_1013 tw_25 tw_1014 gd_X7_offered rfl ⟨by decide, by decide⟩ (by simp [gcat, gcI, gcL, gcF, gcD]) ⟨by decide, by decide⟩ hf (fun hf => m_X7_offered hfl hf)) rfl rfl (fun E g9 h9 => by
    by_cases e9 : E = "java/util/NoSuchElementException"
    · subst e9
      rw [if_pos rfl] at h9
      refine gx_catch (name := "java/util/NoSuchElementException") (pre := []) (x := ⟨0, 43, 44, 17⟩) (suf := [⟨0, 43, 49, 21⟩]) C ht (fun z hz => nomatch hz) (by decide) (by decide) tw_202 (by decide +kernel) (fun q9 => ?_)
      refine gg_astore_n (L' := [some (va_rf v0), some (.int v1), some (.int v2), some (va_rf (some q9))]) C dL_device_44 (Or.inr (Or.inr ⟨_, rfl, rfl⟩)) (by decide) rfl ?_
      refine gg_sipush C dL_device_45 (v := (-1001 : Int32)) (by decide) ?_
      exact gg_iret C hr (by decide) (by decide) dL_device_48 rfl h9
    rw [if_neg e9] at h9
    by_cases e9 : E = "java/lang/IllegalStateException"
    · subst e9
      rw [if_pos rfl] at h9
      refine gx_catch (name := "java/lang/IllegalStateException") (pre := [⟨0, 43, 44, 17⟩]) (x := ⟨0, 43, 49, 21⟩) (suf := []) C ht (by intro z hz; simp only [List.mem_cons, List.not_mem_nil, or_false] at hz; rcases hz with rfl <;> first | exact Or.inl (by decide) | exact Or.inr ⟨by decide, "java/util/NoSuchElementException", tw_202, by decide +kernel⟩) (by decide) (by decide) tw_204 (by decide +kernel) (fun q9 => ?_)
      refine gg_astore_n (L' := [some (va_rf v0), some (.int v1), some (.int v2), some (va_rf (some q9))]) C dL_device_49 (Or.inr (Or.inr ⟨_, rfl, rfl⟩)) (by decide) rfl ?_
      refine gg_sipush C dL_device_50 (v := (-1003 : Int32)) (by decide) ?_
      exact gg_iret C hr (by decide) (by decide) dL_device_53 rfl h9
    rw [if_neg e9] at h9
    exact h9.elim) (fun i8 g7 hf => ?_)
    refine gg_goto (tgt := 43) C dL_device_9 (by decide) ?_
    exact gg_sub (L' := [none, none, none, none]) (by first | exact trivial | simp [gsub]) (gg_widen (k' := 6) (n' := 88) (by decide) (by decide) (hb_43 _ _ hf))

def w_L_both_b66 (X : Cx) (post : Int32 → GM → Prop) (px : String → GM → Prop)  (t0 : Int32) (g : GM) : Prop :=
  post t0 g
def w_L_both_b95 (X : Cx) (post : Int32 → GM → Prop) (px : String → GM → Prop)  (t0 : Int32) (g : GM) : Prop :=
  post t0 g
def w_L_both_b110 (X : Cx) (post : Int32 → GM → Prop) (px : String → GM → Prop)  (t0 : Int32) (g : GM) : Prop :=
  post t0 g
def w_L_both (X : Cx) (post : Int32 → GM → Prop) (px : String → GM → Prop) (v0 : Option Nat) (v1 : Int32) (v2 : Int32) (v3 : Int32) (g : GM) : Prop :=
  (if v1 = (98 : Int32) then wIs g v0 7 (w_X7_buy X (fun (i3 : Int32) (g2 : GM) => post i3 g2) (fun E g9 => if E = "java/util/NoSuchElementException" then post (-1001 : Int32) g9 else (if E = "java/lang/IllegalArgumentException" then post (-1002 : Int32) g9 else (if E = "java/lang/IllegalStateException" then post (-1003 : Int32) g9 else (if E = "java/lang/UnsupportedOperationException" then post (-1004 : Int32) g9 else (False))))) v0 v2 v3 g) else (if v1 = (99 : Int32) then wIs g v0 7 (w_X7_couldHave X (fun (i6 : Int32) (g5 : GM) => (if i6 = 0 then w_L_both_b66 X post px (0 : Int32) g5 else w_L_both_b66 X post px (1 : Int32) g5)) (fun E g9 => if E = "java/util/NoSuchElementException" then post (-1001 : Int32) g9 else (if E = "java/lang/IllegalArgumentException" then post (-1002 : Int32) g9 else (if E = "java/lang/IllegalStateException" then post (-1003 : Int32) g9 else (if E = "java/lang/UnsupportedOperationException" then post (-1004 : Int32) g9 else (False))))) v0 v2 v3 g) else (if v1 = (111 : Int32) then wIs g v0 7 (w_X7_owns X (fun (i9 : Int32) (g8 : GM) => (if i9 = 0 then w_L_both_b95 X post px (0 : Int32) g8 else w_L_both_b95 X post px (1 : Int32) g8)) (fun E g9 => if E = "java/util/NoSuchElementException" then post (-1001 : Int32) g9 else (if E = "java/lang/IllegalArgumentException" then post (-1002 : Int32) g9 else (if E = "java/lang/IllegalStateException" then post (-1003 : Int32) g9 else (if E = "java/lang/UnsupportedOperationException" then post (-1004 : Int32) g9 else (False))))) v0 v2 v3 g) else (if v1 = (114 : Int32) then wIs g v0 7 (w_X7_rate X (fun (i12 : Int32) (g11 : GM) => post i12 g11) (fun E g9 => if E = "java/util/NoSuchElementException" then post (-1001 : Int32) g9 else (if E = "java/lang/IllegalArgumentException" then post (-1002 : Int32) g9 else (if E = "java/lang/IllegalStateException" then post (-1003 : Int32) g9 else (if E = "java/lang/UnsupportedOperationException" then post (-1004 : Int32) g9 else (False))))) v0 v2 v3 g) else (if v1 = (117 : Int32) then wIs g v0 7 (w_X7_canUse X (fun (i15 : Int32) (g14 : GM) => (if i15 = 0 then w_L_both_b110 X post px (0 : Int32) g14 else w_L_both_b110 X post px (1 : Int32) g14)) (fun E g9 => if E = "java/util/NoSuchElementException" then post (-1001 : Int32) g9 else (if E = "java/lang/IllegalArgumentException" then post (-1002 : Int32) g9 else (if E = "java/lang/IllegalStateException" then post (-1003 : Int32) g9 else (if E = "java/lang/UnsupportedOperationException" then post (-1004 : Int32) g9 else (False))))) v0 v2 v3 g) else wIs g v0 7 (w_X7_percentageAfter X (fun (i17 : Int32) (g16 : GM) => post i17 g16) (fun E g9 => if E = "java/util/NoSuchElementException" then post (-1001 : Int32) g9 else (if E = "java/lang/IllegalArgumentException" then post (-1002 : Int32) g9 else (if E = "java/lang/IllegalStateException" then post (-1003 : Int32) g9 else (if E = "java/lang/UnsupportedOperationException" then post (-1004 : Int32) g9 else (False))))) v0 v2 v3 g))))))
abbrev rm_L_both : Room := { frames := 8, cells := 4, slots := 24, locals := 128 }
set_option maxHeartbeats 4000000 in
set_option maxRecDepth 100000 in
theorem m_L_both {X : Cx} {l : Launch} (hfl : l.stackTraces = false) {post : Int32 → GM → Prop} {px : String → GM → Prop} {v0 : Option Nat} {v1 : Int32} {v2 : Int32} {v3 : Int32} {g : GM} (hf : w_L_both X post px v0 v1 v2 v3 g) : vx_Met l yL_both (.codeWith yL_both cL_both 5 (some .int) [(0, 66, 118, 17), (67, 73, 118, 17), (74, 80, 118, 17), (81, 95, 118, 17), (96, 110, 118, 17), (111, 117, 118, 17), (0, 66, 124, 19), (67, 73, 124, 19), (74, 80, 124, 19), (81, 95, 124, 19), (96, 110, 124, 19), (111, 117, 124, 19), (0, 66, 130, 21), (67, 73, 130, 21), (74, 80, 130, 21), (81, 95, 130, 21), (96, 110, 130, 21), (111, 117, 130, 21), (0, 66, 136, 30), (67, 73, 136, 30), (74, 80, 136, 30), (81, 95, 136, 30), (96, 110, 136, 30), (111, 117, 136, 30)] :: TBL) rm_L_both (gPc X [va_rf v0, .int v1, .int v2, .int v3] g) (qI X post) (gXC X px) rm_L_both.cells rm_L_both.slots (gA X) := by
  refine gg_enterW (hh := [(0, 66, 118, 17), (67, 73, 118, 17), (74, 80, 118, 17), (81, 95, 118, 17), (96, 110, 118, 17), (111, 117, 118, 17), (0, 66, 124, 19), (67, 73, 124, 19), (74, 80, 124, 19), (81, 95, 124, 19), (96, 110, 124, 19), (111, 117, 124, 19), (0, 66, 130, 21), (67, 73, 130, 21), (74, 80, 130, 21), (81, 95, 130, 21), (96, 110, 130, 21), (111, 117, 130, 21), (0, 66, 136, 30), (67, 73, 136, 30), (74, 80, 136, 30), (81, 95, 136, 30), (96, 110, 136, 30), (111, 117, 136, 30)]) (L := [some (va_rf v0), some (.int v1), some (.int v2), some (.int v3), none]) hfl (by decide +kernel) (by simp [lg_sl, gcat, gcI, gcL, gcF, gcD]) (by simp [gll, lv_args, gcat, gcI, gcL, gcF, gcD]) ?_
  intro p e s m args below meth c C hr ht
  have C : FC X p l s m args meth c cL_both 5 "ReleasetrainLaw" := C
  have hb_66 : ∀ (t0 : Int32) (g : GM), w_L_both_b66 X post px  t0 g → GG X p l e rm_L_both s m args below meth c 5 (vx_MQ below (qI X post) (gXC X px) args s rm_L_both.cells rm_L_both.slots (gA X)) 2 12 66 [none, none, none, none, none] [.int t0] g := by
    intro  t0 g hf
    unfold w_L_both_b66 at hf
    exact gg_iret C hr (by decide) (by decide) dL_both_66 rfl hf
  have hb_95 : ∀ (t0 : Int32) (g : GM), w_L_both_b95 X post px  t0 g → GG X p l e rm_L_both s m args below meth c 5 (vx_MQ below (qI X post) (gXC X px) args s rm_L_both.cells rm_L_both.slots (gA X)) 2 12 95 [none, none, none, none, none] [.int t0] g := by
    intro  t0 g hf
    unfold w_L_both_b95 at hf
    exact gg_iret C hr (by decide) (by decide) dL_both_95 rfl hf
  have hb_110 : ∀ (t0 : Int32) (g : GM), w_L_both_b110 X post px  t0 g → GG X p l e rm_L_both s m args below meth c 5 (vx_MQ below (qI X post) (gXC X px) args s rm_L_both.cells rm_L_both.slots (gA X)) 2 12 110 [none, none, none, none, none] [.int t0] g := by
    intro  t0 g hf
    unfold w_L_both_b110 at hf
    exact gg_iret C hr (by decide) (by decide) dL_both_110 rfl hf
  unfold w_L_both at hf
  refine gg_iload_n C dL_both_0 rfl ?_
  by_cases e1 : v1 = (98 : Int32)
  · rw [if_pos e1] at hf
    refine gg_lookup (tgt := 74) (off := 73) C dL_both_1 (by decide +kernel) (by rw [e1]; decide +kernel) (by decide) ?_
    refine gg_aload_n C dL_both_74 rfl ?_
    refine gg_iload_n C dL_both_75 rfl ?_
    refine gg_iload_n C dL_both_76 rfl ?_
    refine gr_I (k' := 4) (n' := 24) (gk_V (ci := 7) (As := [.int v2, .int v3]) (rest := []) C dL_both_77 rfl rfl tw_1117 tw_1118 tw_1119 tw_25 tw_1120 gd_X7_buy rfl ⟨by decide, by decide⟩ (by simp [gcat, gcI, gcL, gcF, gcD]) ⟨by decide, by decide⟩ hf (fun hf => m_X7_buy hfl hf)) rfl rfl (fun E g9 h9 => by
    by_cases e9 : E = "java/util/NoSuchElementException"
    · subst e9
      rw [if_pos rfl] at h9
      refine gx_catch (name := "java/util/NoSuchElementException") (pre := [⟨0, 66, 118, 17⟩, ⟨67, 73, 118, 17⟩]) (x := ⟨74, 80, 118, 17⟩) (suf := [⟨81, 95, 118, 17⟩, ⟨96, 110, 118, 17⟩, ⟨111, 117, 118, 17⟩, ⟨0, 66, 124, 19⟩, ⟨67, 73, 124, 19⟩, ⟨74, 80, 124, 19⟩, ⟨81, 95, 124, 19⟩, ⟨96, 110, 124, 19⟩, ⟨111, 117, 124, 19⟩, ⟨0, 66, 130, 21⟩, ⟨67, 73, 130, 21⟩, ⟨74, 80, 130, 21⟩, ⟨81, 95, 130, 21⟩, ⟨96, 110, 130, 21⟩, ⟨111, 117, 130, 21⟩, ⟨0, 66, 136, 30⟩, ⟨67, 73, 136, 30⟩, ⟨74, 80, 136, 30⟩, ⟨81, 95, 136, 30⟩, ⟨96, 110, 136, 30⟩, ⟨111, 117, 136, 30⟩]) C ht (by intro z hz; simp only [List.mem_cons, List.not_mem_nil, or_false] at hz; rcases hz with rfl | rfl <;> first | exact Or.inl (by decide)) (by decide) (by decide) tw_202 (by decide +kernel) (fun q9 => ?_)
      refine gg_astore (L' := [some (va_rf v0), some (.int v1), some (.int v2), some (.int v3), some (va_rf (some q9))]) C dL_both_118 (Or.inr (Or.inr ⟨_, rfl, rfl⟩)) (by decide) rfl ?_
      refine gg_sipush C dL_both_120 (v := (-1001 : Int32)) (by decide) ?_
      exact gg_iret C hr (by decide) (by decide) dL_both_123 rfl h9
    rw [if_neg e9] at h9
    by_cases e9 : E = "java/lang/IllegalArgumentException"
    · subst e9
      rw [if_pos rfl] at h9
      refine gx_catch (name := "java/lang/IllegalArgumentException") (pre := [⟨0, 66, 118, 17⟩, ⟨67, 73, 118, 17⟩, ⟨74, 80, 118, 17⟩, ⟨81, 95, 118, 17⟩, ⟨96, 110, 118, 17⟩, ⟨111, 117, 118, 17⟩, ⟨0, 66, 124, 19⟩, ⟨67, 73, 124, 19⟩]) (x := ⟨74, 80, 124, 19⟩) (suf := [⟨81, 95, 124, 19⟩, ⟨96, 110, 124, 19⟩, ⟨111, 117, 124, 19⟩, ⟨0, 66, 130, 21⟩, ⟨67, 73, 130, 21⟩, ⟨74, 80, 130, 21⟩, ⟨81, 95, 130, 21⟩, ⟨96, 110, 130, 21⟩, ⟨111, 117, 130, 21⟩, ⟨0, 66, 136, 30⟩, ⟨67, 73, 136, 30⟩, ⟨74, 80, 136, 30⟩, ⟨81, 95, 136, 30⟩, ⟨96, 110, 136, 30⟩, ⟨111, 117, 136, 30⟩]) C ht (by intro z hz; simp only [List.mem_cons, List.not_mem_nil, or_false] at hz; rcases hz with rfl | rfl | rfl | rfl | rfl | rfl | rfl | rfl <;> first | exact Or.inl (by decide) | exact Or.inr ⟨by decide, "java/util/NoSuchElementException", tw_202, by decide +kernel⟩) (by decide) (by decide) tw_203 (by decide +kernel) (fun q9 => ?_)
      refine gg_astore (L' := [some (va_rf v0), some (.int v1), some (.int v2), some (.int v3), some (va_rf (some q9))]) C dL_both_124 (Or.inr (Or.inr ⟨_, rfl, rfl⟩)) (by decide) rfl ?_
      refine gg_sipush C dL_both_126 (v := (-1002 : Int32)) (by decide) ?_
      exact gg_iret C hr (by decide) (by decide) dL_both_129 rfl h9
    rw [if_neg e9] at h9
    by_cases e9 : E = "java/lang/IllegalStateException"
    · subst e9
      rw [if_pos rfl] at h9
      refine gx_catch (name := "java/lang/IllegalStateException") (pre := [⟨0, 66, 118, 17⟩, ⟨67, 73, 118, 17⟩, ⟨74, 80, 118, 17⟩, ⟨81, 95, 118, 17⟩, ⟨96, 110, 118, 17⟩, ⟨111, 117, 118, 17⟩, ⟨0, 66, 124, 19⟩, ⟨67, 73, 124, 19⟩, ⟨74, 80, 124, 19⟩, ⟨81, 95, 124, 19⟩, ⟨96, 110, 124, 19⟩, ⟨111, 117, 124, 19⟩, ⟨0, 66, 130, 21⟩, ⟨67, 73, 130, 21⟩]) (x := ⟨74, 80, 130, 21⟩) (suf := [⟨81, 95, 130, 21⟩, ⟨96, 110, 130, 21⟩, ⟨111, 117, 130, 21⟩, ⟨0, 66, 136, 30⟩, ⟨67, 73, 136, 30⟩, ⟨74, 80, 136, 30⟩, ⟨81, 95, 136, 30⟩, ⟨96, 110, 136, 30⟩, ⟨111, 117, 136, 30⟩]) C ht (by intro z hz; simp only [List.mem_cons, List.not_mem_nil, or_false] at hz; rcases hz with rfl | rfl | rfl | rfl | rfl | rfl | rfl | rfl | rfl | rfl | rfl | rfl | rfl | rfl <;> first | exact Or.inl (by decide) | exact Or.inr ⟨by decide, "java/util/NoSuchElementException", tw_202, by decide +kernel⟩ | exact Or.inr ⟨by decide, "java/lang/IllegalArgumentException", tw_203, by decide +kernel⟩) (by decide) (by decide) tw_204 (by decide +kernel) (fun q9 => ?_)
      refine gg_astore (L' := [some (va_rf v0), some (.int v1), some (.int v2), some (.int v3), some (va_rf (some q9))]) C dL_both_130 (Or.inr (Or.inr ⟨_, rfl, rfl⟩)) (by decide) rfl ?_
      refine gg_sipush C dL_both_132 (v := (-1003 : Int32)) (by decide) ?_
      exact gg_iret C hr (by decide) (by decide) dL_both_135 rfl h9
    rw [if_neg e9] at h9
    by_cases e9 : E = "java/lang/UnsupportedOperationException"
    · subst e9
      rw [if_pos rfl] at h9
      refine gx_catch (name := "java/lang/UnsupportedOperationException") (pre := [⟨0, 66, 118, 17⟩, ⟨67, 73, 118, 17⟩, ⟨74, 80, 118, 17⟩, ⟨81, 95, 118, 17⟩, ⟨96, 110, 118, 17⟩, ⟨111, 117, 118, 17⟩, ⟨0, 66, 124, 19⟩, ⟨67, 73, 124, 19⟩, ⟨74, 80, 124, 19⟩, ⟨81, 95, 124, 19⟩, ⟨96, 110, 124, 19⟩, ⟨111, 117, 124, 19⟩, ⟨0, 66, 130, 21⟩, ⟨67, 73, 130, 21⟩, ⟨74, 80, 130, 21⟩, ⟨81, 95, 130, 21⟩, ⟨96, 110, 130, 21⟩, ⟨111, 117, 130, 21⟩, ⟨0, 66, 136, 30⟩, ⟨67, 73, 136, 30⟩]) (x := ⟨74, 80, 136, 30⟩) (suf := [⟨81, 95, 136, 30⟩, ⟨96, 110, 136, 30⟩, ⟨111, 117, 136, 30⟩]) C ht (by intro z hz; simp only [List.mem_cons, List.not_mem_nil, or_false] at hz; rcases hz with rfl | rfl | rfl | rfl | rfl | rfl | rfl | rfl | rfl | rfl | rfl | rfl | rfl | rfl | rfl | rfl | rfl | rfl | rfl | rfl <;> first | exact Or.inl (by decide) | exact Or.inr ⟨by decide, "java/util/NoSuchElementException", tw_202, by decide +kernel⟩ | exact Or.inr ⟨by decide, "java/lang/IllegalArgumentException", tw_203, by decide +kernel⟩ | exact Or.inr ⟨by decide, "java/lang/IllegalStateException", tw_204, by decide +kernel⟩) (by decide) (by decide) tw_520 (by decide +kernel) (fun q9 => ?_)
      refine gg_astore (L' := [some (va_rf v0), some (.int v1), some (.int v2), some (.int v3), some (va_rf (some q9))]) C dL_both_136 (Or.inr (Or.inr ⟨_, rfl, rfl⟩)) (by decide) rfl ?_
      refine gg_sipush C dL_both_138 (v := (-1004 : Int32)) (by decide) ?_
      exact gg_iret C hr (by decide) (by decide) dL_both_141 rfl h9
    rw [if_neg e9] at h9
    exact h9.elim) (fun i3 g2 hf => ?_)
    exact gg_iret C hr (by decide) (by decide) dL_both_80 rfl hf
  rw [if_neg e1] at hf
  by_cases e4 : v1 = (99 : Int32)
  · rw [if_pos e4] at hf
    refine gg_lookup (tgt := 52) (off := 51) C dL_both_1 (by decide +kernel) (by rw [e4]; decide +kernel) (by decide) ?_
    refine gg_aload_n C dL_both_52 rfl ?_
    refine gg_iload_n C dL_both_53 rfl ?_
    refine gg_iload_n C dL_both_54 rfl ?_
    refine gr_I (k' := 2) (n' := 12) (gk_V (ci := 7) (As := [.int v2, .int v3]) (rest := []) C dL_both_55 rfl rfl tw_1108 tw_1109 tw_1110 tw_25 tw_1111 gd_X7_couldHave rfl ⟨by decide, by decide⟩ (by simp [gcat, gcI, gcL, gcF, gcD]) ⟨by decide, by decide⟩ hf (fun hf => m_X7_couldHave hfl hf)) rfl rfl (fun E g9 h9 => by
    by_cases e9 : E = "java/util/NoSuchElementException"
    · subst e9
      rw [if_pos rfl] at h9
      refine gx_catch (name := "java/util/NoSuchElementException") (pre := []) (x := ⟨0, 66, 118, 17⟩) (suf := [⟨67, 73, 118, 17⟩, ⟨74, 80, 118, 17⟩, ⟨81, 95, 118, 17⟩, ⟨96, 110, 118, 17⟩, ⟨111, 117, 118, 17⟩, ⟨0, 66, 124, 19⟩, ⟨67, 73, 124, 19⟩, ⟨74, 80, 124, 19⟩, ⟨81, 95, 124, 19⟩, ⟨96, 110, 124, 19⟩, ⟨111, 117, 124, 19⟩, ⟨0, 66, 130, 21⟩, ⟨67, 73, 130, 21⟩, ⟨74, 80, 130, 21⟩, ⟨81, 95, 130, 21⟩, ⟨96, 110, 130, 21⟩, ⟨111, 117, 130, 21⟩, ⟨0, 66, 136, 30⟩, ⟨67, 73, 136, 30⟩, ⟨74, 80, 136, 30⟩, ⟨81, 95, 136, 30⟩, ⟨96, 110, 136, 30⟩, ⟨111, 117, 136, 30⟩]) C ht (fun z hz => nomatch hz) (by decide) (by decide) tw_202 (by decide +kernel) (fun q9 => ?_)
      refine gg_astore (L' := [some (va_rf v0), some (.int v1), some (.int v2), some (.int v3), some (va_rf (some q9))]) C dL_both_118 (Or.inr (Or.inr ⟨_, rfl, rfl⟩)) (by decide) rfl ?_
      refine gg_sipush C dL_both_120 (v := (-1001 : Int32)) (by decide) ?_
      exact gg_iret C hr (by decide) (by decide) dL_both_123 rfl h9
    rw [if_neg e9] at h9
    by_cases e9 : E = "java/lang/IllegalArgumentException"
    · subst e9
      rw [if_pos rfl] at h9
      refine gx_catch (name := "java/lang/IllegalArgumentException") (pre := [⟨0, 66, 118, 17⟩, ⟨67, 73, 118, 17⟩, ⟨74, 80, 118, 17⟩, ⟨81, 95, 118, 17⟩, ⟨96, 110, 118, 17⟩, ⟨111, 117, 118, 17⟩]) (x := ⟨0, 66, 124, 19⟩) (suf := [⟨67, 73, 124, 19⟩, ⟨74, 80, 124, 19⟩, ⟨81, 95, 124, 19⟩, ⟨96, 110, 124, 19⟩, ⟨111, 117, 124, 19⟩, ⟨0, 66, 130, 21⟩, ⟨67, 73, 130, 21⟩, ⟨74, 80, 130, 21⟩, ⟨81, 95, 130, 21⟩, ⟨96, 110, 130, 21⟩, ⟨111, 117, 130, 21⟩, ⟨0, 66, 136, 30⟩, ⟨67, 73, 136, 30⟩, ⟨74, 80, 136, 30⟩, ⟨81, 95, 136, 30⟩, ⟨96, 110, 136, 30⟩, ⟨111, 117, 136, 30⟩]) C ht (by intro z hz; simp only [List.mem_cons, List.not_mem_nil, or_false] at hz; rcases hz with rfl | rfl | rfl | rfl | rfl | rfl <;> first | exact Or.inl (by decide) | exact Or.inr ⟨by decide, "java/util/NoSuchElementException", tw_202, by decide +kernel⟩) (by decide) (by decide) tw_203 (by decide +kernel) (fun q9 => ?_)
      refine gg_astore (L' := [some (va_rf v0), some (.int v1), some (.int v2), some (.int v3), some (va_rf (some q9))]) C dL_both_124 (Or.inr (Or.inr ⟨_, rfl, rfl⟩)) (by decide) rfl ?_
      refine gg_sipush C dL_both_126 (v := (-1002 : Int32)) (by decide) ?_
      exact gg_iret C hr (by decide) (by decide) dL_both_129 rfl h9
    rw [if_neg e9] at h9
    by_cases e9 : E = "java/lang/IllegalStateException"
    · subst e9
      rw [if_pos rfl] at h9
      refine gx_catch (name := "java/lang/IllegalStateException") (pre := [⟨0, 66, 118, 17⟩, ⟨67, 73, 118, 17⟩, ⟨74, 80, 118, 17⟩, ⟨81, 95, 118, 17⟩, ⟨96, 110, 118, 17⟩, ⟨111, 117, 118, 17⟩, ⟨0, 66, 124, 19⟩, ⟨67, 73, 124, 19⟩, ⟨74, 80, 124, 19⟩, ⟨81, 95, 124, 19⟩, ⟨96, 110, 124, 19⟩, ⟨111, 117, 124, 19⟩]) (x := ⟨0, 66, 130, 21⟩) (suf := [⟨67, 73, 130, 21⟩, ⟨74, 80, 130, 21⟩, ⟨81, 95, 130, 21⟩, ⟨96, 110, 130, 21⟩, ⟨111, 117, 130, 21⟩, ⟨0, 66, 136, 30⟩, ⟨67, 73, 136, 30⟩, ⟨74, 80, 136, 30⟩, ⟨81, 95, 136, 30⟩, ⟨96, 110, 136, 30⟩, ⟨111, 117, 136, 30⟩]) C ht (by intro z hz; simp only [List.mem_cons, List.not_mem_nil, or_false] at hz; rcases hz with rfl | rfl | rfl | rfl | rfl | rfl | rfl | rfl | rfl | rfl | rfl | rfl <;> first | exact Or.inl (by decide) | exact Or.inr ⟨by decide, "java/util/NoSuchElementException", tw_202, by decide +kernel⟩ | exact Or.inr ⟨by decide, "java/lang/IllegalArgumentException", tw_203, by decide +kernel⟩) (by decide) (by decide) tw_204 (by decide +kernel) (fun q9 => ?_)
      refine gg_astore (L' := [some (va_rf v0), some (.int v1), some (.int v2), some (.int v3), some (va_rf (some q9))]) C dL_both_130 (Or.inr (Or.inr ⟨_, rfl, rfl⟩)) (by decide) rfl ?_
      refine gg_sipush C dL_both_132 (v := (-1003 : Int32)) (by decide) ?_
      exact gg_iret C hr (by decide) (by decide) dL_both_135 rfl h9
    rw [if_neg e9] at h9
    by_cases e9 : E = "java/lang/UnsupportedOperationException"
    · subst e9
      rw [if_pos rfl] at h9
      refine gx_catch (name := "java/lang/UnsupportedOperationException") (pre := [⟨0, 66, 118, 17⟩, ⟨67, 73, 118, 17⟩, ⟨74, 80, 118, 17⟩, ⟨81, 95, 118, 17⟩, ⟨96, 110, 118, 17⟩, ⟨111, 117, 118, 17⟩, ⟨0, 66, 124, 19⟩, ⟨67, 73, 124, 19⟩, ⟨74, 80, 124, 19⟩, ⟨81, 95, 124, 19⟩, ⟨96, 110, 124, 19⟩, ⟨111, 117, 124, 19⟩, ⟨0, 66, 130, 21⟩, ⟨67, 73, 130, 21⟩, ⟨74, 80, 130, 21⟩, ⟨81, 95, 130, 21⟩, ⟨96, 110, 130, 21⟩, ⟨111, 117, 130, 21⟩]) (x := ⟨0, 66, 136, 30⟩) (suf := [⟨67, 73, 136, 30⟩, ⟨74, 80, 136, 30⟩, ⟨81, 95, 136, 30⟩, ⟨96, 110, 136, 30⟩, ⟨111, 117, 136, 30⟩]) C ht (by intro z hz; simp only [List.mem_cons, List.not_mem_nil, or_false] at hz; rcases hz with rfl | rfl | rfl | rfl | rfl | rfl | rfl | rfl | rfl | rfl | rfl | rfl | rfl | rfl | rfl | rfl | rfl | rfl <;> first | exact Or.inl (by decide) | exact Or.inr ⟨by decide, "java/util/NoSuchElementException", tw_202, by decide +kernel⟩ | exact Or.inr ⟨by decide, "java/lang/IllegalArgumentException", tw_203, by decide +kernel⟩ | exact Or.inr ⟨by decide, "java/lang/IllegalStateException", tw_204, by decide +kernel⟩) (by decide) (by decide) tw_520 (by decide +kernel) (fun q9 => ?_)
      refine gg_astore (L' := [some (va_rf v0), some (.int v1), some (.int v2), some (.int v3), some (va_rf (some q9))]) C dL_both_136 (Or.inr (Or.inr ⟨_, rfl, rfl⟩)) (by decide) rfl ?_
      refine gg_sipush C dL_both_138 (v := (-1004 : Int32)) (by decide) ?_
      exact gg_iret C hr (by decide) (by decide) dL_both_141 rfl h9
    rw [if_neg e9] at h9
    exact h9.elim) (fun i6 g5 hf => ?_)
    refine gg_if_eq (tgt := 65) C dL_both_58 (by decide) hf (fun hf => ?_) (fun hf => ?_)
    · refine gg_iconst C dL_both_65 (v := (0 : Int32)) (by decide) ?_
      exact gg_sub (L' := [none, none, none, none, none]) (by first | exact trivial | simp [gsub]) (hb_66 _ _ hf)
    · refine gg_iconst C dL_both_61 (v := (1 : Int32)) (by decide) ?_
      refine gg_goto (tgt := 66) C dL_both_62 (by decide) ?_
      exact gg_sub (L' := [none, none, none, none, none]) (by first | exact trivial | simp [gsub]) (hb_66 _ _ hf)
  rw [if_neg e4] at hf
  by_cases e7 : v1 = (111 : Int32)
  · rw [if_pos e7] at hf
    refine gg_lookup (tgt := 81) (off := 80) C dL_both_1 (by decide +kernel) (by rw [e7]; decide +kernel) (by decide) ?_
    refine gg_aload_n C dL_both_81 rfl ?_
    refine gg_iload_n C dL_both_82 rfl ?_
    refine gg_iload_n C dL_both_83 rfl ?_
    refine gr_I (k' := 2) (n' := 12) (gk_V (ci := 7) (As := [.int v2, .int v3]) (rest := []) C dL_both_84 rfl rfl tw_1134 tw_1135 tw_1136 tw_25 tw_1137 gd_X7_owns rfl ⟨by decide, by decide⟩ (by simp [gcat, gcI, gcL, gcF, gcD]) ⟨by decide, by decide⟩ hf (fun hf => m_X7_owns hfl hf)) rfl rfl (fun E g9 h9 => by
    by_cases e9 : E = "java/util/NoSuchElementException"
    · subst e9
      rw [if_pos rfl] at h9
      refine gx_catch (name := "java/util/NoSuchElementException") (pre := [⟨0, 66, 118, 17⟩, ⟨67, 73, 118, 17⟩, ⟨74, 80, 118, 17⟩]) (x := ⟨81, 95, 118, 17⟩) (suf := [⟨96, 110, 118, 17⟩, ⟨111, 117, 118, 17⟩, ⟨0, 66, 124, 19⟩, ⟨67, 73, 124, 19⟩, ⟨74, 80, 124, 19⟩, ⟨81, 95, 124, 19⟩, ⟨96, 110, 124, 19⟩, ⟨111, 117, 124, 19⟩, ⟨0, 66, 130, 21⟩, ⟨67, 73, 130, 21⟩, ⟨74, 80, 130, 21⟩, ⟨81, 95, 130, 21⟩, ⟨96, 110, 130, 21⟩, ⟨111, 117, 130, 21⟩, ⟨0, 66, 136, 30⟩, ⟨67, 73, 136, 30⟩, ⟨74, 80, 136, 30⟩, ⟨81, 95, 136, 30⟩, ⟨96, 110, 136, 30⟩, ⟨111, 117, 136, 30⟩]) C ht (by intro z hz; simp only [List.mem_cons, List.not_mem_nil, or_false] at hz; rcases hz with rfl | rfl | rfl <;> first | exact Or.inl (by decide)) (by decide) (by decide) tw_202 (by decide +kernel) (fun q9 => ?_)
      refine gg_astore (L' := [some (va_rf v0), some (.int v1), some (.int v2), some (.int v3), some (va_rf (some q9))]) C dL_both_118 (Or.inr (Or.inr ⟨_, rfl, rfl⟩)) (by decide) rfl ?_
      refine gg_sipush C dL_both_120 (v := (-1001 : Int32)) (by decide) ?_
      exact gg_iret C hr (by decide) (by decide) dL_both_123 rfl h9
    rw [if_neg e9] at h9
    by_cases e9 : E = "java/lang/IllegalArgumentException"
    · subst e9
      rw [if_pos rfl] at h9
      refine gx_catch (name := "java/lang/IllegalArgumentException") (pre := [⟨0, 66, 118, 17⟩, ⟨67, 73, 118, 17⟩, ⟨74, 80, 118, 17⟩, ⟨81, 95, 118, 17⟩, ⟨96, 110, 118, 17⟩, ⟨111, 117, 118, 17⟩, ⟨0, 66, 124, 19⟩, ⟨67, 73, 124, 19⟩, ⟨74, 80, 124, 19⟩]) (x := ⟨81, 95, 124, 19⟩) (suf := [⟨96, 110, 124, 19⟩, ⟨111, 117, 124, 19⟩, ⟨0, 66, 130, 21⟩, ⟨67, 73, 130, 21⟩, ⟨74, 80, 130, 21⟩, ⟨81, 95, 130, 21⟩, ⟨96, 110, 130, 21⟩, ⟨111, 117, 130, 21⟩, ⟨0, 66, 136, 30⟩, ⟨67, 73, 136, 30⟩, ⟨74, 80, 136, 30⟩, ⟨81, 95, 136, 30⟩, ⟨96, 110, 136, 30⟩, ⟨111, 117, 136, 30⟩]) C ht (by intro z hz; simp only [List.mem_cons, List.not_mem_nil, or_false] at hz; rcases hz with rfl | rfl | rfl | rfl | rfl | rfl | rfl | rfl | rfl <;> first | exact Or.inl (by decide) | exact Or.inr ⟨by decide, "java/util/NoSuchElementException", tw_202, by decide +kernel⟩) (by decide) (by decide) tw_203 (by decide +kernel) (fun q9 => ?_)
      refine gg_astore (L' := [some (va_rf v0), some (.int v1), some (.int v2), some (.int v3), some (va_rf (some q9))]) C dL_both_124 (Or.inr (Or.inr ⟨_, rfl, rfl⟩)) (by decide) rfl ?_
      refine gg_sipush C dL_both_126 (v := (-1002 : Int32)) (by decide) ?_
      exact gg_iret C hr (by decide) (by decide) dL_both_129 rfl h9
    rw [if_neg e9] at h9
    by_cases e9 : E = "java/lang/IllegalStateException"
    · subst e9
      rw [if_pos rfl] at h9
      refine gx_catch (name := "java/lang/IllegalStateException") (pre := [⟨0, 66, 118, 17⟩, ⟨67, 73, 118, 17⟩, ⟨74, 80, 118, 17⟩, ⟨81, 95, 118, 17⟩, ⟨96, 110, 118, 17⟩, ⟨111, 117, 118, 17⟩, ⟨0, 66, 124, 19⟩, ⟨67, 73, 124, 19⟩, ⟨74, 80, 124, 19⟩, ⟨81, 95, 124, 19⟩, ⟨96, 110, 124, 19⟩, ⟨111, 117, 124, 19⟩, ⟨0, 66, 130, 21⟩, ⟨67, 73, 130, 21⟩, ⟨74, 80, 130, 21⟩]) (x := ⟨81, 95, 130, 21⟩) (suf := [⟨96, 110, 130, 21⟩, ⟨111, 117, 130, 21⟩, ⟨0, 66, 136, 30⟩, ⟨67, 73, 136, 30⟩, ⟨74, 80, 136, 30⟩, ⟨81, 95, 136, 30⟩, ⟨96, 110, 136, 30⟩, ⟨111, 117, 136, 30⟩]) C ht (by intro z hz; simp only [List.mem_cons, List.not_mem_nil, or_false] at hz; rcases hz with rfl | rfl | rfl | rfl | rfl | rfl | rfl | rfl | rfl | rfl | rfl | rfl | rfl | rfl | rfl <;> first | exact Or.inl (by decide) | exact Or.inr ⟨by decide, "java/util/NoSuchElementException", tw_202, by decide +kernel⟩ | exact Or.inr ⟨by decide, "java/lang/IllegalArgumentException", tw_203, by decide +kernel⟩) (by decide) (by decide) tw_204 (by decide +kernel) (fun q9 => ?_)
      refine gg_astore (L' := [some (va_rf v0), some (.int v1), some (.int v2), some (.int v3), some (va_rf (some q9))]) C dL_both_130 (Or.inr (Or.inr ⟨_, rfl, rfl⟩)) (by decide) rfl ?_
      refine gg_sipush C dL_both_132 (v := (-1003 : Int32)) (by decide) ?_
      exact gg_iret C hr (by decide) (by decide) dL_both_135 rfl h9
    rw [if_neg e9] at h9
    by_cases e9 : E = "java/lang/UnsupportedOperationException"
    · subst e9
      rw [if_pos rfl] at h9
      refine gx_catch (name := "java/lang/UnsupportedOperationException") (pre := [⟨0, 66, 118, 17⟩, ⟨67, 73, 118, 17⟩, ⟨74, 80, 118, 17⟩, ⟨81, 95, 118, 17⟩, ⟨96, 110, 118, 17⟩, ⟨111, 117, 118, 17⟩, ⟨0, 66, 124, 19⟩, ⟨67, 73, 124, 19⟩, ⟨74, 80, 124, 19⟩, ⟨81, 95, 124, 19⟩, ⟨96, 110, 124, 19⟩, ⟨111, 117, 124, 19⟩, ⟨0, 66, 130, 21⟩, ⟨67, 73, 130, 21⟩, ⟨74, 80, 130, 21⟩, ⟨81, 95, 130, 21⟩, ⟨96, 110, 130, 21⟩, ⟨111, 117, 130, 21⟩, ⟨0, 66, 136, 30⟩, ⟨67, 73, 136, 30⟩, ⟨74, 80, 136, 30⟩]) (x := ⟨81, 95, 136, 30⟩) (suf := [⟨96, 110, 136, 30⟩, ⟨111, 117, 136, 30⟩]) C ht (by intro z hz; simp only [List.mem_cons, List.not_mem_nil, or_false] at hz; rcases hz with rfl | rfl | rfl | rfl | rfl | rfl | rfl | rfl | rfl | rfl | rfl | rfl | rfl | rfl | rfl | rfl | rfl | rfl | rfl | rfl | rfl <;> first | exact Or.inl (by decide) | exact Or.inr ⟨by decide, "java/util/NoSuchElementException", tw_202, by decide +kernel⟩ | exact Or.inr ⟨by decide, "java/lang/IllegalArgumentException", tw_203, by decide +kernel⟩ | exact Or.inr ⟨by decide, "java/lang/IllegalStateException", tw_204, by decide +kernel⟩) (by decide) (by decide) tw_520 (by decide +kernel) (fun q9 => ?_)
      refine gg_astore (L' := [some (va_rf v0), some (.int v1), some (.int v2), some (.int v3), some (va_rf (some q9))]) C dL_both_136 (Or.inr (Or.inr ⟨_, rfl, rfl⟩)) (by decide) rfl ?_
      refine gg_sipush C dL_both_138 (v := (-1004 : Int32)) (by decide) ?_
      exact gg_iret C hr (by decide) (by decide) dL_both_141 rfl h9
    rw [if_neg e9] at h9
    exact h9.elim) (fun i9 g8 hf => ?_)
    refine gg_if_eq (tgt := 94) C dL_both_87 (by decide) hf (fun hf => ?_) (fun hf => ?_)
    · refine gg_iconst C dL_both_94 (v := (0 : Int32)) (by decide) ?_
      exact gg_sub (L' := [none, none, none, none, none]) (by first | exact trivial | simp [gsub]) (hb_95 _ _ hf)
    · refine gg_iconst C dL_both_90 (v := (1 : Int32)) (by decide) ?_
      refine gg_goto (tgt := 95) C dL_both_91 (by decide) ?_
      exact gg_sub (L' := [none, none, none, none, none]) (by first | exact trivial | simp [gsub]) (hb_95 _ _ hf)
  rw [if_neg e7] at hf
  by_cases e10 : v1 = (114 : Int32)
  · rw [if_pos e10] at hf
    refine gg_lookup (tgt := 67) (off := 66) C dL_both_1 (by decide +kernel) (by rw [e10]; decide +kernel) (by decide) ?_
    refine gg_aload_n C dL_both_67 rfl ?_
    refine gg_iload_n C dL_both_68 rfl ?_
    refine gg_iload_n C dL_both_69 rfl ?_
    refine gr_I (k' := 2) (n' := 12) (gk_V (ci := 7) (As := [.int v2, .int v3]) (rest := []) C dL_both_70 rfl rfl tw_1112 tw_1113 tw_1114 tw_25 tw_1115 gd_X7_rate rfl ⟨by decide, by decide⟩ (by simp [gcat, gcI, gcL, gcF, gcD]) ⟨by decide, by decide⟩ hf (fun hf => m_X7_rate hfl hf)) rfl rfl (fun E g9 h9 => by
    by_cases e9 : E = "java/util/NoSuchElementException"
    · subst e9
      rw [if_pos rfl] at h9
      refine gx_catch (name := "java/util/NoSuchElementException") (pre := [⟨0, 66, 118, 17⟩]) (x := ⟨67, 73, 118, 17⟩) (suf := [⟨74, 80, 118, 17⟩, ⟨81, 95, 118, 17⟩, ⟨96, 110, 118, 17⟩, ⟨111, 117, 118, 17⟩, ⟨0, 66, 124, 19⟩, ⟨67, 73, 124, 19⟩, ⟨74, 80, 124, 19⟩, ⟨81, 95, 124, 19⟩, ⟨96, 110, 124, 19⟩, ⟨111, 117, 124, 19⟩, ⟨0, 66, 130, 21⟩, ⟨67, 73, 130, 21⟩, ⟨74, 80, 130, 21⟩, ⟨81, 95, 130, 21⟩, ⟨96, 110, 130, 21⟩, ⟨111, 117, 130, 21⟩, ⟨0, 66, 136, 30⟩, ⟨67, 73, 136, 30⟩, ⟨74, 80, 136, 30⟩, ⟨81, 95, 136, 30⟩, ⟨96, 110, 136, 30⟩, ⟨111, 117, 136, 30⟩]) C ht (by intro z hz; simp only [List.mem_cons, List.not_mem_nil, or_false] at hz; rcases hz with rfl <;> first | exact Or.inl (by decide)) (by decide) (by decide) tw_202 (by decide +kernel) (fun q9 => ?_)
      refine gg_astore (L' := [some (va_rf v0), some (.int v1), some (.int v2), some (.int v3), some (va_rf (some q9))]) C dL_both_118 (Or.inr (Or.inr ⟨_, rfl, rfl⟩)) (by decide) rfl ?_
      refine gg_sipush C dL_both_120 (v := (-1001 : Int32)) (by decide) ?_
      exact gg_iret C hr (by decide) (by decide) dL_both_123 rfl h9
    rw [if_neg e9] at h9
    by_cases e9 : E = "java/lang/IllegalArgumentException"
    · subst e9
      rw [if_pos rfl] at h9
      refine gx_catch (name := "java/lang/IllegalArgumentException") (pre := [⟨0, 66, 118, 17⟩, ⟨67, 73, 118, 17⟩, ⟨74, 80, 118, 17⟩, ⟨81, 95, 118, 17⟩, ⟨96, 110, 118, 17⟩, ⟨111, 117, 118, 17⟩, ⟨0, 66, 124, 19⟩]) (x := ⟨67, 73, 124, 19⟩) (suf := [⟨74, 80, 124, 19⟩, ⟨81, 95, 124, 19⟩, ⟨96, 110, 124, 19⟩, ⟨111, 117, 124, 19⟩, ⟨0, 66, 130, 21⟩, ⟨67, 73, 130, 21⟩, ⟨74, 80, 130, 21⟩, ⟨81, 95, 130, 21⟩, ⟨96, 110, 130, 21⟩, ⟨111, 117, 130, 21⟩, ⟨0, 66, 136, 30⟩, ⟨67, 73, 136, 30⟩, ⟨74, 80, 136, 30⟩, ⟨81, 95, 136, 30⟩, ⟨96, 110, 136, 30⟩, ⟨111, 117, 136, 30⟩]) C ht (by intro z hz; simp only [List.mem_cons, List.not_mem_nil, or_false] at hz; rcases hz with rfl | rfl | rfl | rfl | rfl | rfl | rfl <;> first | exact Or.inl (by decide) | exact Or.inr ⟨by decide, "java/util/NoSuchElementException", tw_202, by decide +kernel⟩) (by decide) (by decide) tw_203 (by decide +kernel) (fun q9 => ?_)
      refine gg_astore (L' := [some (va_rf v0), some (.int v1), some (.int v2), some (.int v3), some (va_rf (some q9))]) C dL_both_124 (Or.inr (Or.inr ⟨_, rfl, rfl⟩)) (by decide) rfl ?_
      refine gg_sipush C dL_both_126 (v := (-1002 : Int32)) (by decide) ?_
      exact gg_iret C hr (by decide) (by decide) dL_both_129 rfl h9
    rw [if_neg e9] at h9
    by_cases e9 : E = "java/lang/IllegalStateException"
    · subst e9
      rw [if_pos rfl] at h9
      refine gx_catch (name := "java/lang/IllegalStateException") (pre := [⟨0, 66, 118, 17⟩, ⟨67, 73, 118, 17⟩, ⟨74, 80, 118, 17⟩, ⟨81, 95, 118, 17⟩, ⟨96, 110, 118, 17⟩, ⟨111, 117, 118, 17⟩, ⟨0, 66, 124, 19⟩, ⟨67, 73, 124, 19⟩, ⟨74, 80, 124, 19⟩, ⟨81, 95, 124, 19⟩, ⟨96, 110, 124, 19⟩, ⟨111, 117, 124, 19⟩, ⟨0, 66, 130, 21⟩]) (x := ⟨67, 73, 130, 21⟩) (suf := [⟨74, 80, 130, 21⟩, ⟨81, 95, 130, 21⟩, ⟨96, 110, 130, 21⟩, ⟨111, 117, 130, 21⟩, ⟨0, 66, 136, 30⟩, ⟨67, 73, 136, 30⟩, ⟨74, 80, 136, 30⟩, ⟨81, 95, 136, 30⟩, ⟨96, 110, 136, 30⟩, ⟨111, 117, 136, 30⟩]) C ht (by intro z hz; simp only [List.mem_cons, List.not_mem_nil, or_false] at hz; rcases hz with rfl | rfl | rfl | rfl | rfl | rfl | rfl | rfl | rfl | rfl | rfl | rfl | rfl <;> first | exact Or.inl (by decide) | exact Or.inr ⟨by decide, "java/util/NoSuchElementException", tw_202, by decide +kernel⟩ | exact Or.inr ⟨by decide, "java/lang/IllegalArgumentException", tw_203, by decide +kernel⟩) (by decide) (by decide) tw_204 (by decide +kernel) (fun q9 => ?_)
      refine gg_astore (L' := [some (va_rf v0), some (.int v1), some (.int v2), some (.int v3), some (va_rf (some q9))]) C dL_both_130 (Or.inr (Or.inr ⟨_, rfl, rfl⟩)) (by decide) rfl ?_
      refine gg_sipush C dL_both_132 (v := (-1003 : Int32)) (by decide) ?_
      exact gg_iret C hr (by decide) (by decide) dL_both_135 rfl h9
    rw [if_neg e9] at h9
    by_cases e9 : E = "java/lang/UnsupportedOperationException"
    · subst e9
      rw [if_pos rfl] at h9
      refine gx_catch (name := "java/lang/UnsupportedOperationException") (pre := [⟨0, 66, 118, 17⟩, ⟨67, 73, 118, 17⟩, ⟨74, 80, 118, 17⟩, ⟨81, 95, 118, 17⟩, ⟨96, 110, 118, 17⟩, ⟨111, 117, 118, 17⟩, ⟨0, 66, 124, 19⟩, ⟨67, 73, 124, 19⟩, ⟨74, 80, 124, 19⟩, ⟨81, 95, 124, 19⟩, ⟨96, 110, 124, 19⟩, ⟨111, 117, 124, 19⟩, ⟨0, 66, 130, 21⟩, ⟨67, 73, 130, 21⟩, ⟨74, 80, 130, 21⟩, ⟨81, 95, 130, 21⟩, ⟨96, 110, 130, 21⟩, ⟨111, 117, 130, 21⟩, ⟨0, 66, 136, 30⟩]) (x := ⟨67, 73, 136, 30⟩) (suf := [⟨74, 80, 136, 30⟩, ⟨81, 95, 136, 30⟩, ⟨96, 110, 136, 30⟩, ⟨111, 117, 136, 30⟩]) C ht (by intro z hz; simp only [List.mem_cons, List.not_mem_nil, or_false] at hz; rcases hz with rfl | rfl | rfl | rfl | rfl | rfl | rfl | rfl | rfl | rfl | rfl | rfl | rfl | rfl | rfl | rfl | rfl | rfl | rfl <;> first | exact Or.inl (by decide) | exact Or.inr ⟨by decide, "java/util/NoSuchElementException", tw_202, by decide +kernel⟩ | exact Or.inr ⟨by decide, "java/lang/IllegalArgumentException", tw_203, by decide +kernel⟩ | exact Or.inr ⟨by decide, "java/lang/IllegalStateException", tw_204, by decide +kernel⟩) (by decide) (by decide) tw_520 (by decide +kernel) (fun q9 => ?_)
      refine gg_astore (L' := [some (va_rf v0), some (.int v1), some (.int v2), some (.int v3), some (va_rf (some q9))]) C dL_both_136 (Or.inr (Or.inr ⟨_, rfl, rfl⟩)) (by decide) rfl ?_
      refine gg_sipush C dL_both_138 (v := (-1004 : Int32)) (by decide) ?_
      exact gg_iret C hr (by decide) (by decide) dL_both_141 rfl h9
    rw [if_neg e9] at h9
    exact h9.elim) (fun i12 g11 hf => ?_)
    exact gg_iret C hr (by decide) (by decide) dL_both_73 rfl hf
  rw [if_neg e10] at hf
  by_cases e13 : v1 = (117 : Int32)
  · rw [if_pos e13] at hf
    refine gg_lookup (tgt := 96) (off := 95) C dL_both_1 (by decide +kernel) (by rw [e13]; decide +kernel) (by decide) ?_
    refine gg_aload_n C dL_both_96 rfl ?_
    refine gg_iload_n C dL_both_97 rfl ?_
    refine gg_iload_n C dL_both_98 rfl ?_
    refine gr_I (k' := 2) (n' := 12) (gk_V (ci := 7) (As := [.int v2, .int v3]) (rest := []) C dL_both_99 rfl rfl tw_1138 tw_1139 tw_1140 tw_25 tw_1141 gd_X7_canUse rfl ⟨by decide, by decide⟩ (by simp [gcat, gcI, gcL, gcF, gcD]) ⟨by decide, by decide⟩ hf (fun hf => m_X7_canUse hfl hf)) rfl rfl (fun E g9 h9 => by
    by_cases e9 : E = "java/util/NoSuchElementException"
    · subst e9
      rw [if_pos rfl] at h9
      refine gx_catch (name := "java/util/NoSuchElementException") (pre := [⟨0, 66, 118, 17⟩, ⟨67, 73, 118, 17⟩, ⟨74, 80, 118, 17⟩, ⟨81, 95, 118, 17⟩]) (x := ⟨96, 110, 118, 17⟩) (suf := [⟨111, 117, 118, 17⟩, ⟨0, 66, 124, 19⟩, ⟨67, 73, 124, 19⟩, ⟨74, 80, 124, 19⟩, ⟨81, 95, 124, 19⟩, ⟨96, 110, 124, 19⟩, ⟨111, 117, 124, 19⟩, ⟨0, 66, 130, 21⟩, ⟨67, 73, 130, 21⟩, ⟨74, 80, 130, 21⟩, ⟨81, 95, 130, 21⟩, ⟨96, 110, 130, 21⟩, ⟨111, 117, 130, 21⟩, ⟨0, 66, 136, 30⟩, ⟨67, 73, 136, 30⟩, ⟨74, 80, 136, 30⟩, ⟨81, 95, 136, 30⟩, ⟨96, 110, 136, 30⟩, ⟨111, 117, 136, 30⟩]) C ht (by intro z hz; simp only [List.mem_cons, List.not_mem_nil, or_false] at hz; rcases hz with rfl | rfl | rfl | rfl <;> first | exact Or.inl (by decide)) (by decide) (by decide) tw_202 (by decide +kernel) (fun q9 => ?_)
      refine gg_astore (L' := [some (va_rf v0), some (.int v1), some (.int v2), some (.int v3), some (va_rf (some q9))]) C dL_both_118 (Or.inr (Or.inr ⟨_, rfl, rfl⟩)) (by decide) rfl ?_
      refine gg_sipush C dL_both_120 (v := (-1001 : Int32)) (by decide) ?_
      exact gg_iret C hr (by decide) (by decide) dL_both_123 rfl h9
    rw [if_neg e9] at h9
    by_cases e9 : E = "java/lang/IllegalArgumentException"
    · subst e9
      rw [if_pos rfl] at h9
      refine gx_catch (name := "java/lang/IllegalArgumentException") (pre := [⟨0, 66, 118, 17⟩, ⟨67, 73, 118, 17⟩, ⟨74, 80, 118, 17⟩, ⟨81, 95, 118, 17⟩, ⟨96, 110, 118, 17⟩, ⟨111, 117, 118, 17⟩, ⟨0, 66, 124, 19⟩, ⟨67, 73, 124, 19⟩, ⟨74, 80, 124, 19⟩, ⟨81, 95, 124, 19⟩]) (x := ⟨96, 110, 124, 19⟩) (suf := [⟨111, 117, 124, 19⟩, ⟨0, 66, 130, 21⟩, ⟨67, 73, 130, 21⟩, ⟨74, 80, 130, 21⟩, ⟨81, 95, 130, 21⟩, ⟨96, 110, 130, 21⟩, ⟨111, 117, 130, 21⟩, ⟨0, 66, 136, 30⟩, ⟨67, 73, 136, 30⟩, ⟨74, 80, 136, 30⟩, ⟨81, 95, 136, 30⟩, ⟨96, 110, 136, 30⟩, ⟨111, 117, 136, 30⟩]) C ht (by intro z hz; simp only [List.mem_cons, List.not_mem_nil, or_false] at hz; rcases hz with rfl | rfl | rfl | rfl | rfl | rfl | rfl | rfl | rfl | rfl <;> first | exact Or.inl (by decide) | exact Or.inr ⟨by decide, "java/util/NoSuchElementException", tw_202, by decide +kernel⟩) (by decide) (by decide) tw_203 (by decide +kernel) (fun q9 => ?_)
      refine gg_astore (L' := [some (va_rf v0), some (.int v1), some (.int v2), some (.int v3), some (va_rf (some q9))]) C dL_both_124 (Or.inr (Or.inr ⟨_, rfl, rfl⟩)) (by decide) rfl ?_
      refine gg_sipush C dL_both_126 (v := (-1002 : Int32)) (by decide) ?_
      exact gg_iret C hr (by decide) (by decide) dL_both_129 rfl h9
    rw [if_neg e9] at h9
    by_cases e9 : E = "java/lang/IllegalStateException"
    · subst e9
      rw [if_pos rfl] at h9
      refine gx_catch (name := "java/lang/IllegalStateException") (pre := [⟨0, 66, 118, 17⟩, ⟨67, 73, 118, 17⟩, ⟨74, 80, 118, 17⟩, ⟨81, 95, 118, 17⟩, ⟨96, 110, 118, 17⟩, ⟨111, 117, 118, 17⟩, ⟨0, 66, 124, 19⟩, ⟨67, 73, 124, 19⟩, ⟨74, 80, 124, 19⟩, ⟨81, 95, 124, 19⟩, ⟨96, 110, 124, 19⟩, ⟨111, 117, 124, 19⟩, ⟨0, 66, 130, 21⟩, ⟨67, 73, 130, 21⟩, ⟨74, 80, 130, 21⟩, ⟨81, 95, 130, 21⟩]) (x := ⟨96, 110, 130, 21⟩) (suf := [⟨111, 117, 130, 21⟩, ⟨0, 66, 136, 30⟩, ⟨67, 73, 136, 30⟩, ⟨74, 80, 136, 30⟩, ⟨81, 95, 136, 30⟩, ⟨96, 110, 136, 30⟩, ⟨111, 117, 136, 30⟩]) C ht (by intro z hz; simp only [List.mem_cons, List.not_mem_nil, or_false] at hz; rcases hz with rfl | rfl | rfl | rfl | rfl | rfl | rfl | rfl | rfl | rfl | rfl | rfl | rfl | rfl | rfl | rfl <;> first | exact Or.inl (by decide) | exact Or.inr ⟨by decide, "java/util/NoSuchElementException", tw_202, by decide +kernel⟩ | exact Or.inr ⟨by decide, "java/lang/IllegalArgumentException", tw_203, by decide +kernel⟩) (by decide) (by decide) tw_204 (by decide +kernel) (fun q9 => ?_)
      refine gg_astore (L' := [some (va_rf v0), some (.int v1), some (.int v2), some (.int v3), some (va_rf (some q9))]) C dL_both_130 (Or.inr (Or.inr ⟨_, rfl, rfl⟩)) (by decide) rfl ?_
      refine gg_sipush C dL_both_132 (v := (-1003 : Int32)) (by decide) ?_
      exact gg_iret C hr (by decide) (by decide) dL_both_135 rfl h9
    rw [if_neg e9] at h9
    by_cases e9 : E = "java/lang/UnsupportedOperationException"
    · subst e9
      rw [if_pos rfl] at h9
      refine gx_catch (name := "java/lang/UnsupportedOperationException") (pre := [⟨0, 66, 118, 17⟩, ⟨67, 73, 118, 17⟩, ⟨74, 80, 118, 17⟩, ⟨81, 95, 118, 17⟩, ⟨96, 110, 118, 17⟩, ⟨111, 117, 118, 17⟩, ⟨0, 66, 124, 19⟩, ⟨67, 73, 124, 19⟩, ⟨74, 80, 124, 19⟩, ⟨81, 95, 124, 19⟩, ⟨96, 110, 124, 19⟩, ⟨111, 117, 124, 19⟩, ⟨0, 66, 130, 21⟩, ⟨67, 73, 130, 21⟩, ⟨74, 80, 130, 21⟩, ⟨81, 95, 130, 21⟩, ⟨96, 110, 130, 21⟩, ⟨111, 117, 130, 21⟩, ⟨0, 66, 136, 30⟩, ⟨67, 73, 136, 30⟩, ⟨74, 80, 136, 30⟩, ⟨81, 95, 136, 30⟩]) (x := ⟨96, 110, 136, 30⟩) (suf := [⟨111, 117, 136, 30⟩]) C ht (by intro z hz; simp only [List.mem_cons, List.not_mem_nil, or_false] at hz; rcases hz with rfl | rfl | rfl | rfl | rfl | rfl | rfl | rfl | rfl | rfl | rfl | rfl | rfl | rfl | rfl | rfl | rfl | rfl | rfl | rfl | rfl | rfl <;> first | exact Or.inl (by decide) | exact Or.inr ⟨by decide, "java/util/NoSuchElementException", tw_202, by decide +kernel⟩ | exact Or.inr ⟨by decide, "java/lang/IllegalArgumentException", tw_203, by decide +kernel⟩ | exact Or.inr ⟨by decide, "java/lang/IllegalStateException", tw_204, by decide +kernel⟩) (by decide) (by decide) tw_520 (by decide +kernel) (fun q9 => ?_)
      refine gg_astore (L' := [some (va_rf v0), some (.int v1), some (.int v2), some (.int v3), some (va_rf (some q9))]) C dL_both_136 (Or.inr (Or.inr ⟨_, rfl, rfl⟩)) (by decide) rfl ?_
      refine gg_sipush C dL_both_138 (v := (-1004 : Int32)) (by decide) ?_
      exact gg_iret C hr (by decide) (by decide) dL_both_141 rfl h9
    rw [if_neg e9] at h9
    exact h9.elim) (fun i15 g14 hf => ?_)
    refine gg_if_eq (tgt := 109) C dL_both_102 (by decide) hf (fun hf => ?_) (fun hf => ?_)
    · refine gg_iconst C dL_both_109 (v := (0 : Int32)) (by decide) ?_
      exact gg_sub (L' := [none, none, none, none, none]) (by first | exact trivial | simp [gsub]) (hb_110 _ _ hf)
    · refine gg_iconst C dL_both_105 (v := (1 : Int32)) (by decide) ?_
      refine gg_goto (tgt := 110) C dL_both_106 (by decide) ?_
      exact gg_sub (L' := [none, none, none, none, none]) (by first | exact trivial | simp [gsub]) (hb_110 _ _ hf)
  rw [if_neg e13] at hf
  refine gg_lookup (tgt := 111) (off := 110) C dL_both_1 (by decide +kernel) (by simp only [Op.lookupswitch.offset_cons, Op.lookupswitch.offset_nil]; rw [if_neg (sw_ne (by decide) e1), if_neg (sw_ne (by decide) e4), if_neg (sw_ne (by decide) e7), if_neg (sw_ne (by decide) e10), if_neg (sw_ne (by decide) e13)]) (by decide) ?_
  refine gg_aload_n C dL_both_111 rfl ?_
  refine gg_iload_n C dL_both_112 rfl ?_
  refine gg_iload_n C dL_both_113 rfl ?_
  refine gr_I (k' := 2) (n' := 12) (gk_V (ci := 7) (As := [.int v2, .int v3]) (rest := []) C dL_both_114 rfl rfl tw_1146 tw_1147 tw_1148 tw_25 tw_1149 gd_X7_percentageAfter rfl ⟨by decide, by decide⟩ (by simp [gcat, gcI, gcL, gcF, gcD]) ⟨by decide, by decide⟩ hf (fun hf => m_X7_percentageAfter hfl hf)) rfl rfl (fun E g9 h9 => by
    by_cases e9 : E = "java/util/NoSuchElementException"
    · subst e9
      rw [if_pos rfl] at h9
      refine gx_catch (name := "java/util/NoSuchElementException") (pre := [⟨0, 66, 118, 17⟩, ⟨67, 73, 118, 17⟩, ⟨74, 80, 118, 17⟩, ⟨81, 95, 118, 17⟩, ⟨96, 110, 118, 17⟩]) (x := ⟨111, 117, 118, 17⟩) (suf := [⟨0, 66, 124, 19⟩, ⟨67, 73, 124, 19⟩, ⟨74, 80, 124, 19⟩, ⟨81, 95, 124, 19⟩, ⟨96, 110, 124, 19⟩, ⟨111, 117, 124, 19⟩, ⟨0, 66, 130, 21⟩, ⟨67, 73, 130, 21⟩, ⟨74, 80, 130, 21⟩, ⟨81, 95, 130, 21⟩, ⟨96, 110, 130, 21⟩, ⟨111, 117, 130, 21⟩, ⟨0, 66, 136, 30⟩, ⟨67, 73, 136, 30⟩, ⟨74, 80, 136, 30⟩, ⟨81, 95, 136, 30⟩, ⟨96, 110, 136, 30⟩, ⟨111, 117, 136, 30⟩]) C ht (by intro z hz; simp only [List.mem_cons, List.not_mem_nil, or_false] at hz; rcases hz with rfl | rfl | rfl | rfl | rfl <;> first | exact Or.inl (by decide)) (by decide) (by decide) tw_202 (by decide +kernel) (fun q9 => ?_)
      refine gg_astore (L' := [some (va_rf v0), some (.int v1), some (.int v2), some (.int v3), some (va_rf (some q9))]) C dL_both_118 (Or.inr (Or.inr ⟨_, rfl, rfl⟩)) (by decide) rfl ?_
      refine gg_sipush C dL_both_120 (v := (-1001 : Int32)) (by decide) ?_
      exact gg_iret C hr (by decide) (by decide) dL_both_123 rfl h9
    rw [if_neg e9] at h9
    by_cases e9 : E = "java/lang/IllegalArgumentException"
    · subst e9
      rw [if_pos rfl] at h9
      refine gx_catch (name := "java/lang/IllegalArgumentException") (pre := [⟨0, 66, 118, 17⟩, ⟨67, 73, 118, 17⟩, ⟨74, 80, 118, 17⟩, ⟨81, 95, 118, 17⟩, ⟨96, 110, 118, 17⟩, ⟨111, 117, 118, 17⟩, ⟨0, 66, 124, 19⟩, ⟨67, 73, 124, 19⟩, ⟨74, 80, 124, 19⟩, ⟨81, 95, 124, 19⟩, ⟨96, 110, 124, 19⟩]) (x := ⟨111, 117, 124, 19⟩) (suf := [⟨0, 66, 130, 21⟩, ⟨67, 73, 130, 21⟩, ⟨74, 80, 130, 21⟩, ⟨81, 95, 130, 21⟩, ⟨96, 110, 130, 21⟩, ⟨111, 117, 130, 21⟩, ⟨0, 66, 136, 30⟩, ⟨67, 73, 136, 30⟩, ⟨74, 80, 136, 30⟩, ⟨81, 95, 136, 30⟩, ⟨96, 110, 136, 30⟩, ⟨111, 117, 136, 30⟩]) C ht (by intro z hz; simp only [List.mem_cons, List.not_mem_nil, or_false] at hz; rcases hz with rfl | rfl | rfl | rfl | rfl | rfl | rfl | rfl | rfl | rfl | rfl <;> first | exact Or.inl (by decide) | exact Or.inr ⟨by decide, "java/util/NoSuchElementException", tw_202, by decide +kernel⟩) (by decide) (by decide) tw_203 (by decide +kernel) (fun q9 => ?_)
      refine gg_astore (L' := [some (va_rf v0), some (.int v1), some (.int v2), some (.int v3), some (va_rf (some q9))]) C dL_both_124 (Or.inr (Or.inr ⟨_, rfl, rfl⟩)) (by decide) rfl ?_
      refine gg_sipush C dL_both_126 (v := (-1002 : Int32)) (by decide) ?_
      exact gg_iret C hr (by decide) (by decide) dL_both_129 rfl h9
    rw [if_neg e9] at h9
    by_cases e9 : E = "java/lang/IllegalStateException"
    · subst e9
      rw [if_pos rfl] at h9
      refine gx_catch (name := "java/lang/IllegalStateException") (pre := [⟨0, 66, 118, 17⟩, ⟨67, 73, 118, 17⟩, ⟨74, 80, 118, 17⟩, ⟨81, 95, 118, 17⟩, ⟨96, 110, 118, 17⟩, ⟨111, 117, 118, 17⟩, ⟨0, 66, 124, 19⟩, ⟨67, 73, 124, 19⟩, ⟨74, 80, 124, 19⟩, ⟨81, 95, 124, 19⟩, ⟨96, 110, 124, 19⟩, ⟨111, 117, 124, 19⟩, ⟨0, 66, 130, 21⟩, ⟨67, 73, 130, 21⟩, ⟨74, 80, 130, 21⟩, ⟨81, 95, 130, 21⟩, ⟨96, 110, 130, 21⟩]) (x := ⟨111, 117, 130, 21⟩) (suf := [⟨0, 66, 136, 30⟩, ⟨67, 73, 136, 30⟩, ⟨74, 80, 136, 30⟩, ⟨81, 95, 136, 30⟩, ⟨96, 110, 136, 30⟩, ⟨111, 117, 136, 30⟩]) C ht (by intro z hz; simp only [List.mem_cons, List.not_mem_nil, or_false] at hz; rcases hz with rfl | rfl | rfl | rfl | rfl | rfl | rfl | rfl | rfl | rfl | rfl | rfl | rfl | rfl | rfl | rfl | rfl <;> first | exact Or.inl (by decide) | exact Or.inr ⟨by decide, "java/util/NoSuchElementException", tw_202, by decide +kernel⟩ | exact Or.inr ⟨by decide, "java/lang/IllegalArgumentException", tw_203, by decide +kernel⟩) (by decide) (by decide) tw_204 (by decide +kernel) (fun q9 => ?_)
      refine gg_astore (L' := [some (va_rf v0), some (.int v1), some (.int v2), some (.int v3), some (va_rf (some q9))]) C dL_both_130 (Or.inr (Or.inr ⟨_, rfl, rfl⟩)) (by decide) rfl ?_
      refine gg_sipush C dL_both_132 (v := (-1003 : Int32)) (by decide) ?_
      exact gg_iret C hr (by decide) (by decide) dL_both_135 rfl h9
    rw [if_neg e9] at h9
    by_cases e9 : E = "java/lang/UnsupportedOperationException"
    · subst e9
      rw [if_pos rfl] at h9
      refine gx_catch (name := "java/lang/UnsupportedOperationException") (pre := [⟨0, 66, 118, 17⟩, ⟨67, 73, 118, 17⟩, ⟨74, 80, 118, 17⟩, ⟨81, 95, 118, 17⟩, ⟨96, 110, 118, 17⟩, ⟨111, 117, 118, 17⟩, ⟨0, 66, 124, 19⟩, ⟨67, 73, 124, 19⟩, ⟨74, 80, 124, 19⟩, ⟨81, 95, 124, 19⟩, ⟨96, 110, 124, 19⟩, ⟨111, 117, 124, 19⟩, ⟨0, 66, 130, 21⟩, ⟨67, 73, 130, 21⟩, ⟨74, 80, 130, 21⟩, ⟨81, 95, 130, 21⟩, ⟨96, 110, 130, 21⟩, ⟨111, 117, 130, 21⟩, ⟨0, 66, 136, 30⟩, ⟨67, 73, 136, 30⟩, ⟨74, 80, 136, 30⟩, ⟨81, 95, 136, 30⟩, ⟨96, 110, 136, 30⟩]) (x := ⟨111, 117, 136, 30⟩) (suf := []) C ht (by intro z hz; simp only [List.mem_cons, List.not_mem_nil, or_false] at hz; rcases hz with rfl | rfl | rfl | rfl | rfl | rfl | rfl | rfl | rfl | rfl | rfl | rfl | rfl | rfl | rfl | rfl | rfl | rfl | rfl | rfl | rfl | rfl | rfl <;> first | exact Or.inl (by decide) | exact Or.inr ⟨by decide, "java/util/NoSuchElementException", tw_202, by decide +kernel⟩ | exact Or.inr ⟨by decide, "java/lang/IllegalArgumentException", tw_203, by decide +kernel⟩ | exact Or.inr ⟨by decide, "java/lang/IllegalStateException", tw_204, by decide +kernel⟩) (by decide) (by decide) tw_520 (by decide +kernel) (fun q9 => ?_)
      refine gg_astore (L' := [some (va_rf v0), some (.int v1), some (.int v2), some (.int v3), some (va_rf (some q9))]) C dL_both_136 (Or.inr (Or.inr ⟨_, rfl, rfl⟩)) (by decide) rfl ?_
      refine gg_sipush C dL_both_138 (v := (-1004 : Int32)) (by decide) ?_
      exact gg_iret C hr (by decide) (by decide) dL_both_141 rfl h9
    rw [if_neg e9] at h9
    exact h9.elim) (fun i17 g16 hf => ?_)
  exact gg_iret C hr (by decide) (by decide) dL_both_117 rfl hf

def w_L_sets (X : Cx) (post : Int32 → GM → Prop) (px : String → GM → Prop) (v0 : Option Nat) (v1 : Int32) (v2 : Int32) (g : GM) : Prop :=
  (if v1 = (98 : Int32) then wIs g v0 7 (w_X7_setBarred X (fun (i3 : Int32) (g2 : GM) => post i3 g2) (fun E g9 => if E = "java/lang/IllegalArgumentException" then post (-1002 : Int32) g9 else (if E = "java/lang/IllegalStateException" then post (-1003 : Int32) g9 else (False))) v0 v2 g) else (if v1 = (100 : Int32) then wIs g v0 7 (w_X7_pass X (fun (i6 : Int32) (g5 : GM) => post i6 g5) (fun E g9 => if E = "java/lang/IllegalArgumentException" then post (-1002 : Int32) g9 else (if E = "java/lang/IllegalStateException" then post (-1003 : Int32) g9 else (False))) v0 v2 g) else (if v1 = (111 : Int32) then wIs g v0 7 (w_X7_setBound X (fun (i9 : Int32) (g8 : GM) => post i9 g8) (fun E g9 => if E = "java/lang/IllegalArgumentException" then post (-1002 : Int32) g9 else (if E = "java/lang/IllegalStateException" then post (-1003 : Int32) g9 else (False))) v0 v2 g) else (if v1 = (114 : Int32) then wIs g v0 7 (w_X7_setRate X (fun (i12 : Int32) (g11 : GM) => post i12 g11) (fun E g9 => if E = "java/lang/IllegalArgumentException" then post (-1002 : Int32) g9 else (if E = "java/lang/IllegalStateException" then post (-1003 : Int32) g9 else (False))) v0 v2 g) else (if v1 = (115 : Int32) then wIs g v0 7 (w_X7_setSize X (fun (i15 : Int32) (g14 : GM) => post i15 g14) (fun E g9 => if E = "java/lang/IllegalArgumentException" then post (-1002 : Int32) g9 else (if E = "java/lang/IllegalStateException" then post (-1003 : Int32) g9 else (False))) v0 v2 g) else wIs g v0 7 (w_X7_type X (fun (i17 : Int32) (g16 : GM) => post i17 g16) (fun E g9 => if E = "java/lang/IllegalArgumentException" then post (-1002 : Int32) g9 else (if E = "java/lang/IllegalStateException" then post (-1003 : Int32) g9 else (False))) v0 (((v2).toUInt32 % 65536).toInt32) g))))))
abbrev rm_L_sets : Room := { frames := 7, cells := 1, slots := 6, locals := 108 }
set_option maxHeartbeats 4000000 in
set_option maxRecDepth 100000 in
theorem m_L_sets {X : Cx} {l : Launch} (hfl : l.stackTraces = false) {post : Int32 → GM → Prop} {px : String → GM → Prop} {v0 : Option Nat} {v1 : Int32} {v2 : Int32} {g : GM} (hf : w_L_sets X post px v0 v1 v2 g) : vx_Met l yL_sets (.codeWith yL_sets cL_sets 4 (some .int) [(0, 57, 89, 19), (58, 63, 89, 19), (64, 69, 89, 19), (70, 75, 89, 19), (76, 81, 89, 19), (82, 88, 89, 19), (0, 57, 94, 21), (58, 63, 94, 21), (64, 69, 94, 21), (70, 75, 94, 21), (76, 81, 94, 21), (82, 88, 94, 21)] :: TBL) rm_L_sets (gPc X [va_rf v0, .int v1, .int v2] g) (qI X post) (gXC X px) rm_L_sets.cells rm_L_sets.slots (gA X) := by
  refine gg_enterW (hh := [(0, 57, 89, 19), (58, 63, 89, 19), (64, 69, 89, 19), (70, 75, 89, 19), (76, 81, 89, 19), (82, 88, 89, 19), (0, 57, 94, 21), (58, 63, 94, 21), (64, 69, 94, 21), (70, 75, 94, 21), (76, 81, 94, 21), (82, 88, 94, 21)]) (L := [some (va_rf v0), some (.int v1), some (.int v2), none]) hfl (by decide +kernel) (by simp [lg_sl, gcat, gcI, gcL, gcF, gcD]) (by simp [gll, lv_args, gcat, gcI, gcL, gcF, gcD]) ?_
  intro p e s m args below meth c C hr ht
  have C : FC X p l s m args meth c cL_sets 4 "ReleasetrainLaw" := C
  unfold w_L_sets at hf
  refine gg_iload_n C dL_sets_0 rfl ?_
  by_cases e1 : v1 = (98 : Int32)
  · rw [if_pos e1] at hf
    refine gg_lookup (tgt := 58) (off := 57) C dL_sets_1 (by decide +kernel) (by rw [e1]; decide +kernel) (by decide) ?_
    refine gg_aload_n C dL_sets_58 rfl ?_
    refine gg_iload_n C dL_sets_59 rfl ?_
    refine gr_I (k' := 1) (n' := 6) (gk_V (ci := 7) (As := [.int v2]) (rest := []) C dL_sets_60 rfl rfl tw_1164 tw_1165 tw_1166 tw_25 tw_1167 gd_X7_setBarred rfl ⟨by decide, by decide⟩ (by simp [gcat, gcI, gcL, gcF, gcD]) ⟨by decide, by decide⟩ hf (fun hf => m_X7_setBarred hfl hf)) rfl rfl (fun E g9 h9 => by
    by_cases e9 : E = "java/lang/IllegalArgumentException"
    · subst e9
      rw [if_pos rfl] at h9
      refine gx_catch (name := "java/lang/IllegalArgumentException") (pre := [⟨0, 57, 89, 19⟩]) (x := ⟨58, 63, 89, 19⟩) (suf := [⟨64, 69, 89, 19⟩, ⟨70, 75, 89, 19⟩, ⟨76, 81, 89, 19⟩, ⟨82, 88, 89, 19⟩, ⟨0, 57, 94, 21⟩, ⟨58, 63, 94, 21⟩, ⟨64, 69, 94, 21⟩, ⟨70, 75, 94, 21⟩, ⟨76, 81, 94, 21⟩, ⟨82, 88, 94, 21⟩]) C ht (by intro z hz; simp only [List.mem_cons, List.not_mem_nil, or_false] at hz; rcases hz with rfl <;> first | exact Or.inl (by decide)) (by decide) (by decide) tw_203 (by decide +kernel) (fun q9 => ?_)
      refine gg_astore_n (L' := [some (va_rf v0), some (.int v1), some (.int v2), some (va_rf (some q9))]) C dL_sets_89 (Or.inr (Or.inr ⟨_, rfl, rfl⟩)) (by decide) rfl ?_
      refine gg_sipush C dL_sets_90 (v := (-1002 : Int32)) (by decide) ?_
      exact gg_iret C hr (by decide) (by decide) dL_sets_93 rfl h9
    rw [if_neg e9] at h9
    by_cases e9 : E = "java/lang/IllegalStateException"
    · subst e9
      rw [if_pos rfl] at h9
      refine gx_catch (name := "java/lang/IllegalStateException") (pre := [⟨0, 57, 89, 19⟩, ⟨58, 63, 89, 19⟩, ⟨64, 69, 89, 19⟩, ⟨70, 75, 89, 19⟩, ⟨76, 81, 89, 19⟩, ⟨82, 88, 89, 19⟩, ⟨0, 57, 94, 21⟩]) (x := ⟨58, 63, 94, 21⟩) (suf := [⟨64, 69, 94, 21⟩, ⟨70, 75, 94, 21⟩, ⟨76, 81, 94, 21⟩, ⟨82, 88, 94, 21⟩]) C ht (by intro z hz; simp only [List.mem_cons, List.not_mem_nil, or_false] at hz; rcases hz with rfl | rfl | rfl | rfl | rfl | rfl | rfl <;> first | exact Or.inl (by decide) | exact Or.inr ⟨by decide, "java/lang/IllegalArgumentException", tw_203, by decide +kernel⟩) (by decide) (by decide) tw_204 (by decide +kernel) (fun q9 => ?_)
      refine gg_astore_n (L' := [some (va_rf v0), some (.int v1), some (.int v2), some (va_rf (some q9))]) C dL_sets_94 (Or.inr (Or.inr ⟨_, rfl, rfl⟩)) (by decide) rfl ?_
      refine gg_sipush C dL_sets_95 (v := (-1003 : Int32)) (by decide) ?_
      exact gg_iret C hr (by decide) (by decide) dL_sets_98 rfl h9
    rw [if_neg e9] at h9
    exact h9.elim) (fun i3 g2 hf => ?_)
    exact gg_iret C hr (by decide) (by decide) dL_sets_63 rfl hf
  rw [if_neg e1] at hf
  by_cases e4 : v1 = (100 : Int32)
  · rw [if_pos e4] at hf
    refine gg_lookup (tgt := 76) (off := 75) C dL_sets_1 (by decide +kernel) (by rw [e4]; decide +kernel) (by decide) ?_
    refine gg_aload_n C dL_sets_76 rfl ?_
    refine gg_iload_n C dL_sets_77 rfl ?_
    refine gr_I (k' := 1) (n' := 6) (gk_V (ci := 7) (As := [.int v2]) (rest := []) C dL_sets_78 rfl rfl tw_1187 tw_1188 tw_1189 tw_25 tw_1190 gd_X7_pass rfl ⟨by decide, by decide⟩ (by simp [gcat, gcI, gcL, gcF, gcD]) ⟨by decide, by decide⟩ hf (fun hf => m_X7_pass hfl hf)) rfl rfl (fun E g9 h9 => by
    by_cases e9 : E = "java/lang/IllegalArgumentException"
    · subst e9
      rw [if_pos rfl] at h9
      refine gx_catch (name := "java/lang/IllegalArgumentException") (pre := [⟨0, 57, 89, 19⟩, ⟨58, 63, 89, 19⟩, ⟨64, 69, 89, 19⟩, ⟨70, 75, 89, 19⟩]) (x := ⟨76, 81, 89, 19⟩) (suf := [⟨82, 88, 89, 19⟩, ⟨0, 57, 94, 21⟩, ⟨58, 63, 94, 21⟩, ⟨64, 69, 94, 21⟩, ⟨70, 75, 94, 21⟩, ⟨76, 81, 94, 21⟩, ⟨82, 88, 94, 21⟩]) C ht (by intro z hz; simp only [List.mem_cons, List.not_mem_nil, or_false] at hz; rcases hz with rfl | rfl | rfl | rfl <;> first | exact Or.inl (by decide)) (by decide) (by decide) tw_203 (by decide +kernel) (fun q9 => ?_)
      refine gg_astore_n (L' := [some (va_rf v0), some (.int v1), some (.int v2), some (va_rf (some q9))]) C dL_sets_89 (Or.inr (Or.inr ⟨_, rfl, rfl⟩)) (by decide) rfl ?_
      refine gg_sipush C dL_sets_90 (v := (-1002 : Int32)) (by decide) ?_
      exact gg_iret C hr (by decide) (by decide) dL_sets_93 rfl h9
    rw [if_neg e9] at h9
    by_cases e9 : E = "java/lang/IllegalStateException"
    · subst e9
      rw [if_pos rfl] at h9
      refine gx_catch (name := "java/lang/IllegalStateException") (pre := [⟨0, 57, 89, 19⟩, ⟨58, 63, 89, 19⟩, ⟨64, 69, 89, 19⟩, ⟨70, 75, 89, 19⟩, ⟨76, 81, 89, 19⟩, ⟨82, 88, 89, 19⟩, ⟨0, 57, 94, 21⟩, ⟨58, 63, 94, 21⟩, ⟨64, 69, 94, 21⟩, ⟨70, 75, 94, 21⟩]) (x := ⟨76, 81, 94, 21⟩) (suf := [⟨82, 88, 94, 21⟩]) C ht (by intro z hz; simp only [List.mem_cons, List.not_mem_nil, or_false] at hz; rcases hz with rfl | rfl | rfl | rfl | rfl | rfl | rfl | rfl | rfl | rfl <;> first | exact Or.inl (by decide) | exact Or.inr ⟨by decide, "java/lang/IllegalArgumentException", tw_203, by decide +kernel⟩) (by decide) (by decide) tw_204 (by decide +kernel) (fun q9 => ?_)
      refine gg_astore_n (L' := [some (va_rf v0), some (.int v1), some (.int v2), some (va_rf (some q9))]) C dL_sets_94 (Or.inr (Or.inr ⟨_, rfl, rfl⟩)) (by decide) rfl ?_
      refine gg_sipush C dL_sets_95 (v := (-1003 : Int32)) (by decide) ?_
      exact gg_iret C hr (by decide) (by decide) dL_sets_98 rfl h9
    rw [if_neg e9] at h9
    exact h9.elim) (fun i6 g5 hf => ?_)
    exact gg_iret C hr (by decide) (by decide) dL_sets_81 rfl hf
  rw [if_neg e4] at hf
  by_cases e7 : v1 = (111 : Int32)
  · rw [if_pos e7] at hf
    refine gg_lookup (tgt := 64) (off := 63) C dL_sets_1 (by decide +kernel) (by rw [e7]; decide +kernel) (by decide) ?_
    refine gg_aload_n C dL_sets_64 rfl ?_
    refine gg_iload_n C dL_sets_65 rfl ?_
    refine gr_I (k' := 1) (n' := 6) (gk_V (ci := 7) (As := [.int v2]) (rest := []) C dL_sets_66 rfl rfl tw_1168 tw_1169 tw_1170 tw_25 tw_1171 gd_X7_setBound rfl ⟨by decide, by decide⟩ (by simp [gcat, gcI, gcL, gcF, gcD]) ⟨by decide, by decide⟩ hf (fun hf => m_X7_setBound hfl hf)) rfl rfl (fun E g9 h9 => by
    by_cases e9 : E = "java/lang/IllegalArgumentException"
    · subst e9
      rw [if_pos rfl] at h9
      refine gx_catch (name := "java/lang/IllegalArgumentException") (pre := [⟨0, 57, 89, 19⟩, ⟨58, 63, 89, 19⟩]) (x := ⟨64, 69, 89, 19⟩) (suf := [⟨70, 75, 89, 19⟩, ⟨76, 81, 89, 19⟩, ⟨82, 88, 89, 19⟩, ⟨0, 57, 94, 21⟩, ⟨58, 63, 94, 21⟩, ⟨64, 69, 94, 21⟩, ⟨70, 75, 94, 21⟩, ⟨76, 81, 94, 21⟩, ⟨82, 88, 94, 21⟩]) C ht (by intro z hz; simp only [List.mem_cons, List.not_mem_nil, or_false] at hz; rcases hz with rfl | rfl <;> first | exact Or.inl (by decide)) (by decide) (by decide) tw_203 (by decide +kernel) (fun q9 => ?_)
      refine gg_astore_n (L' := [some (va_rf v0), some (.int v1), some (.int v2), some (va_rf (some q9))]) C dL_sets_89 (Or.inr (Or.inr ⟨_, rfl, rfl⟩)) (by decide) rfl ?_
      refine gg_sipush C dL_sets_90 (v := (-1002 : Int32)) (by decide) ?_
      exact gg_iret C hr (by decide) (by decide) dL_sets_93 rfl h9
    rw [if_neg e9] at h9
    by_cases e9 : E = "java/lang/IllegalStateException"
    · subst e9
      rw [if_pos rfl] at h9
      refine gx_catch (name := "java/lang/IllegalStateException") (pre := [⟨0, 57, 89, 19⟩, ⟨58, 63, 89, 19⟩, ⟨64, 69, 89, 19⟩, ⟨70, 75, 89, 19⟩, ⟨76, 81, 89, 19⟩, ⟨82, 88, 89, 19⟩, ⟨0, 57, 94, 21⟩, ⟨58, 63, 94, 21⟩]) (x := ⟨64, 69, 94, 21⟩) (suf := [⟨70, 75, 94, 21⟩, ⟨76, 81, 94, 21⟩, ⟨82, 88, 94, 21⟩]) C ht (by intro z hz; simp only [List.mem_cons, List.not_mem_nil, or_false] at hz; rcases hz with rfl | rfl | rfl | rfl | rfl | rfl | rfl | rfl <;> first | exact Or.inl (by decide) | exact Or.inr ⟨by decide, "java/lang/IllegalArgumentException", tw_203, by decide +kernel⟩) (by decide) (by decide) tw_204 (by decide +kernel) (fun q9 => ?_)
      refine gg_astore_n (L' := [some (va_rf v0), some (.int v1), some (.int v2), some (va_rf (some q9))]) C dL_sets_94 (Or.inr (Or.inr ⟨_, rfl, rfl⟩)) (by decide) rfl ?_
      refine gg_sipush C dL_sets_95 (v := (-1003 : Int32)) (by decide) ?_
      exact gg_iret C hr (by decide) (by decide) dL_sets_98 rfl h9
    rw [if_neg e9] at h9
    exact h9.elim) (fun i9 g8 hf => ?_)
    exact gg_iret C hr (by decide) (by decide) dL_sets_69 rfl hf
  rw [if_neg e7] at hf
  by_cases e10 : v1 = (114 : Int32)
  · rw [if_pos e10] at hf
    refine gg_lookup (tgt := 70) (off := 69) C dL_sets_1 (by decide +kernel) (by rw [e10]; decide +kernel) (by decide) ?_
    refine gg_aload_n C dL_sets_70 rfl ?_
    refine gg_iload_n C dL_sets_71 rfl ?_
    refine gr_I (k' := 1) (n' := 6) (gk_V (ci := 7) (As := [.int v2]) (rest := []) C dL_sets_72 rfl rfl tw_1183 tw_1184 tw_1185 tw_25 tw_1186 gd_X7_setRate rfl ⟨by decide, by decide⟩ (by simp [gcat, gcI, gcL, gcF, gcD]) ⟨by decide, by decide⟩ hf (fun hf => m_X7_setRate hfl hf)) rfl rfl (fun E g9 h9 => by
    by_cases e9 : E = "java/lang/IllegalArgumentException"
    · subst e9
      rw [if_pos rfl] at h9
      refine gx_catch (name := "java/lang/IllegalArgumentException") (pre := [⟨0, 57, 89, 19⟩, ⟨58, 63, 89, 19⟩, ⟨64, 69, 89, 19⟩]) (x := ⟨70, 75, 89, 19⟩) (suf := [⟨76, 81, 89, 19⟩, ⟨82, 88, 89, 19⟩, ⟨0, 57, 94, 21⟩, ⟨58, 63, 94, 21⟩, ⟨64, 69, 94, 21⟩, ⟨70, 75, 94, 21⟩, ⟨76, 81, 94, 21⟩, ⟨82, 88, 94, 21⟩]) C ht (by intro z hz; simp only [List.mem_cons, List.not_mem_nil, or_false] at hz; rcases hz with rfl | rfl | rfl <;> first | exact Or.inl (by decide)) (by decide) (by decide) tw_203 (by decide +kernel) (fun q9 => ?_)
      refine gg_astore_n (L' := [some (va_rf v0), some (.int v1), some (.int v2), some (va_rf (some q9))]) C dL_sets_89 (Or.inr (Or.inr ⟨_, rfl, rfl⟩)) (by decide) rfl ?_
      refine gg_sipush C dL_sets_90 (v := (-1002 : Int32)) (by decide) ?_
      exact gg_iret C hr (by decide) (by decide) dL_sets_93 rfl h9
    rw [if_neg e9] at h9
    by_cases e9 : E = "java/lang/IllegalStateException"
    · subst e9
      rw [if_pos rfl] at h9
      refine gx_catch (name := "java/lang/IllegalStateException") (pre := [⟨0, 57, 89, 19⟩, ⟨58, 63, 89, 19⟩, ⟨64, 69, 89, 19⟩, ⟨70, 75, 89, 19⟩, ⟨76, 81, 89, 19⟩, ⟨82, 88, 89, 19⟩, ⟨0, 57, 94, 21⟩, ⟨58, 63, 94, 21⟩, ⟨64, 69, 94, 21⟩]) (x := ⟨70, 75, 94, 21⟩) (suf := [⟨76, 81, 94, 21⟩, ⟨82, 88, 94, 21⟩]) C ht (by intro z hz; simp only [List.mem_cons, List.not_mem_nil, or_false] at hz; rcases hz with rfl | rfl | rfl | rfl | rfl | rfl | rfl | rfl | rfl <;> first | exact Or.inl (by decide) | exact Or.inr ⟨by decide, "java/lang/IllegalArgumentException", tw_203, by decide +kernel⟩) (by decide) (by decide) tw_204 (by decide +kernel) (fun q9 => ?_)
      refine gg_astore_n (L' := [some (va_rf v0), some (.int v1), some (.int v2), some (va_rf (some q9))]) C dL_sets_94 (Or.inr (Or.inr ⟨_, rfl, rfl⟩)) (by decide) rfl ?_
      refine gg_sipush C dL_sets_95 (v := (-1003 : Int32)) (by decide) ?_
      exact gg_iret C hr (by decide) (by decide) dL_sets_98 rfl h9
    rw [if_neg e9] at h9
    exact h9.elim) (fun i12 g11 hf => ?_)
    exact gg_iret C hr (by decide) (by decide) dL_sets_75 rfl hf
  rw [if_neg e10] at hf
  by_cases e13 : v1 = (115 : Int32)
  · rw [if_pos e13] at hf
    refine gg_lookup (tgt := 52) (off := 51) C dL_sets_1 (by decide +kernel) (by rw [e13]; decide +kernel) (by decide) ?_
    refine gg_aload_n C dL_sets_52 rfl ?_
    refine gg_iload_n C dL_sets_53 rfl ?_
    refine gr_I (k' := 1) (n' := 6) (gk_V (ci := 7) (As := [.int v2]) (rest := []) C dL_sets_54 rfl rfl tw_1159 tw_1160 tw_1161 tw_25 tw_1162 gd_X7_setSize rfl ⟨by decide, by decide⟩ (by simp [gcat, gcI, gcL, gcF, gcD]) ⟨by decide, by decide⟩ hf (fun hf => m_X7_setSize hfl hf)) rfl rfl (fun E g9 h9 => by
    by_cases e9 : E = "java/lang/IllegalArgumentException"
    · subst e9
      rw [if_pos rfl] at h9
      refine gx_catch (name := "java/lang/IllegalArgumentException") (pre := []) (x := ⟨0, 57, 89, 19⟩) (suf := [⟨58, 63, 89, 19⟩, ⟨64, 69, 89, 19⟩, ⟨70, 75, 89, 19⟩, ⟨76, 81, 89, 19⟩, ⟨82, 88, 89, 19⟩, ⟨0, 57, 94, 21⟩, ⟨58, 63, 94, 21⟩, ⟨64, 69, 94, 21⟩, ⟨70, 75, 94, 21⟩, ⟨76, 81, 94, 21⟩, ⟨82, 88, 94, 21⟩]) C ht (fun z hz => nomatch hz) (by decide) (by decide) tw_203 (by decide +kernel) (fun q9 => ?_)
      refine gg_astore_n (L' := [some (va_rf v0), some (.int v1), some (.int v2), some (va_rf (some q9))]) C dL_sets_89 (Or.inr (Or.inr ⟨_, rfl, rfl⟩)) (by decide) rfl ?_
      refine gg_sipush C dL_sets_90 (v := (-1002 : Int32)) (by decide) ?_
      exact gg_iret C hr (by decide) (by decide) dL_sets_93 rfl h9
    rw [if_neg e9] at h9
    by_cases e9 : E = "java/lang/IllegalStateException"
    · subst e9
      rw [if_pos rfl] at h9
      refine gx_catch (name := "java/lang/IllegalStateException") (pre := [⟨0, 57, 89, 19⟩, ⟨58, 63, 89, 19⟩, ⟨64, 69, 89, 19⟩, ⟨70, 75, 89, 19⟩, ⟨76, 81, 89, 19⟩, ⟨82, 88, 89, 19⟩]) (x := ⟨0, 57, 94, 21⟩) (suf := [⟨58, 63, 94, 21⟩, ⟨64, 69, 94, 21⟩, ⟨70, 75, 94, 21⟩, ⟨76, 81, 94, 21⟩, ⟨82, 88, 94, 21⟩]) C ht (by intro z hz; simp only [List.mem_cons, List.not_mem_nil, or_false] at hz; rcases hz with rfl | rfl | rfl | rfl | rfl | rfl <;> first | exact Or.inl (by decide) | exact Or.inr ⟨by decide, "java/lang/IllegalArgumentException", tw_203, by decide +kernel⟩) (by decide) (by decide) tw_204 (by decide +kernel) (fun q9 => ?_)
      refine gg_astore_n (L' := [some (va_rf v0), some (.int v1), some (.int v2), some (va_rf (some q9))]) C dL_sets_94 (Or.inr (Or.inr ⟨_, rfl, rfl⟩)) (by decide) rfl ?_
      refine gg_sipush C dL_sets_95 (v := (-1003 : Int32)) (by decide) ?_
      exact gg_iret C hr (by decide) (by decide) dL_sets_98 rfl h9
    rw [if_neg e9] at h9
    exact h9.elim) (fun i15 g14 hf => ?_)
    exact gg_iret C hr (by decide) (by decide) dL_sets_57 rfl hf
  rw [if_neg e13] at hf
  refine gg_lookup (tgt := 82) (off := 81) C dL_sets_1 (by decide +kernel) (by simp only [Op.lookupswitch.offset_cons, Op.lookupswitch.offset_nil]; rw [if_neg (sw_ne (by decide) e1), if_neg (sw_ne (by decide) e4), if_neg (sw_ne (by decide) e7), if_neg (sw_ne (by decide) e10), if_neg (sw_ne (by decide) e13)]) (by decide) ?_
  refine gg_aload_n C dL_sets_82 rfl ?_
  refine gg_iload_n C dL_sets_83 rfl ?_
  refine gg_i2c C dL_sets_84 ?_
  refine gr_I (k' := 1) (n' := 6) (gk_V (ci := 7) (As := [.int (((v2).toUInt32 % 65536).toInt32)]) (rest := []) C dL_sets_85 rfl rfl tw_1192 tw_1193 tw_1194 tw_25 tw_1195 gd_X7_type rfl ⟨by decide, by decide⟩ (by simp [gcat, gcI, gcL, gcF, gcD]) ⟨by decide, by decide⟩ hf (fun hf => m_X7_type hfl hf)) rfl rfl (fun E g9 h9 => by
    by_cases e9 : E = "java/lang/IllegalArgumentException"
    · subst e9
      rw [if_pos rfl] at h9
      refine gx_catch (name := "java/lang/IllegalArgumentException") (pre := [⟨0, 57, 89, 19⟩, ⟨58, 63, 89, 19⟩, ⟨64, 69, 89, 19⟩, ⟨70, 75, 89, 19⟩, ⟨76, 81, 89, 19⟩]) (x := ⟨82, 88, 89, 19⟩) (suf := [⟨0, 57, 94, 21⟩, ⟨58, 63, 94, 21⟩, ⟨64, 69, 94, 21⟩, ⟨70, 75, 94, 21⟩, ⟨76, 81, 94, 21⟩, ⟨82, 88, 94, 21⟩]) C ht (by intro z hz; simp only [List.mem_cons, List.not_mem_nil, or_false] at hz; rcases hz with rfl | rfl | rfl | rfl | rfl <;> first | exact Or.inl (by decide)) (by decide) (by decide) tw_203 (by decide +kernel) (fun q9 => ?_)
      refine gg_astore_n (L' := [some (va_rf v0), some (.int v1), some (.int v2), some (va_rf (some q9))]) C dL_sets_89 (Or.inr (Or.inr ⟨_, rfl, rfl⟩)) (by decide) rfl ?_
      refine gg_sipush C dL_sets_90 (v := (-1002 : Int32)) (by decide) ?_
      exact gg_iret C hr (by decide) (by decide) dL_sets_93 rfl h9
    rw [if_neg e9] at h9
    by_cases e9 : E = "java/lang/IllegalStateException"
    · subst e9
      rw [if_pos rfl] at h9
      refine gx_catch (name := "java/lang/IllegalStateException") (pre := [⟨0, 57, 89, 19⟩, ⟨58, 63, 89, 19⟩, ⟨64, 69, 89, 19⟩, ⟨70, 75, 89, 19⟩, ⟨76, 81, 89, 19⟩, ⟨82, 88, 89, 19⟩, ⟨0, 57, 94, 21⟩, ⟨58, 63, 94, 21⟩, ⟨64, 69, 94, 21⟩, ⟨70, 75, 94, 21⟩, ⟨76, 81, 94, 21⟩]) (x := ⟨82, 88, 94, 21⟩) (suf := []) C ht (by intro z hz; simp only [List.mem_cons, List.not_mem_nil, or_false] at hz; rcases hz with rfl | rfl | rfl | rfl | rfl | rfl | rfl | rfl | rfl | rfl | rfl <;> first | exact Or.inl (by decide) | exact Or.inr ⟨by decide, "java/lang/IllegalArgumentException", tw_203, by decide +kernel⟩) (by decide) (by decide) tw_204 (by decide +kernel) (fun q9 => ?_)
      refine gg_astore_n (L' := [some (va_rf v0), some (.int v1), some (.int v2), some (va_rf (some q9))]) C dL_sets_94 (Or.inr (Or.inr ⟨_, rfl, rfl⟩)) (by decide) rfl ?_
      refine gg_sipush C dL_sets_95 (v := (-1003 : Int32)) (by decide) ?_
      exact gg_iret C hr (by decide) (by decide) dL_sets_98 rfl h9
    rw [if_neg e9] at h9
    exact h9.elim) (fun i17 g16 hf => ?_)
  exact gg_iret C hr (by decide) (by decide) dL_sets_88 rfl hf

def w_L_asked_b27 (X : Cx) (post : Int32 → GM → Prop) (px : String → GM → Prop)  (t0 : Int32) (g : GM) : Prop :=
  post t0 g
def w_L_asked (X : Cx) (post : Int32 → GM → Prop) (px : String → GM → Prop) (v0 : Option Nat) (v1 : Int32) (g : GM) : Prop :=
  (if v1 = 0 then wIs g v0 7 (w_X7_nextInReview X (fun (i6 : Int32) (g5 : GM) => w_L_asked_b27 X post px i6 g5) (fun E g9 => if E = "java/lang/IllegalStateException" then post (-1003 : Int32) g9 else (False)) v0 g) else (if v1 = (1 : Int32) then wIs g v0 7 (w_X7_review X (fun (i4 : Int32) (g3 : GM) => w_L_asked_b27 X post px i4 g3) (fun E g9 => if E = "java/lang/IllegalStateException" then post (-1003 : Int32) g9 else (False)) v0 g) else wIs g v0 7 (w_X7_worstGroup X (fun (i2 : Int32) (g1 : GM) => w_L_asked_b27 X post px i2 g1) (fun E g9 => if E = "java/lang/IllegalStateException" then post (-1003 : Int32) g9 else (False)) v0 g)))
abbrev rm_L_asked : Room := { frames := 8, cells := 1, slots := 6, locals := 127 }
set_option maxHeartbeats 4000000 in
set_option maxRecDepth 100000 in
theorem m_L_asked {X : Cx} {l : Launch} (hfl : l.stackTraces = false) {post : Int32 → GM → Prop} {px : String → GM → Prop} {v0 : Option Nat} {v1 : Int32} {g : GM} (hf : w_L_asked X post px v0 v1 g) : vx_Met l yL_asked (.codeWith yL_asked cL_asked 3 (some .int) [(0, 27, 28, 21)] :: TBL) rm_L_asked (gPc X [va_rf v0, .int v1] g) (qI X post) (gXC X px) rm_L_asked.cells rm_L_asked.slots (gA X) := by
  refine gg_enterW (hh := [(0, 27, 28, 21)]) (L := [some (va_rf v0), some (.int v1), none]) hfl (by decide +kernel) (by simp [lg_sl, gcat, gcI, gcL, gcF, gcD]) (by simp [gll, lv_args, gcat, gcI, gcL, gcF, gcD]) ?_
  intro p e s m args below meth c C hr ht
  have C : FC X p l s m args meth c cL_asked 3 "ReleasetrainLaw" := C
  have hb_27 : ∀ (t0 : Int32) (g : GM), w_L_asked_b27 X post px  t0 g → GG X p l e rm_L_asked s m args below meth c 3 (vx_MQ below (qI X post) (gXC X px) args s rm_L_asked.cells rm_L_asked.slots (gA X)) 1 6 27 [none, none, none] [.int t0] g := by
    intro  t0 g hf
    unfold w_L_asked_b27 at hf
    exact gg_iret C hr (by decide) (by decide) dL_asked_27 rfl hf
  unfold w_L_asked at hf
  refine gg_iload_n C dL_asked_0 rfl ?_
  refine gg_if_ne (tgt := 11) C dL_asked_1 (by decide) hf (fun hf => ?_) (fun hf => ?_)
  · refine gg_iload_n C dL_asked_11 rfl ?_
    refine gg_iconst C dL_asked_12 (v := (1 : Int32)) (by decide) ?_
    refine gg_icmp_ne (tgt := 23) C dL_asked_13 (by decide) hf (fun hf => ?_) (fun hf => ?_)
    · refine gg_aload_n C dL_asked_23 rfl ?_
      refine gr_I (k' := 1) (n' := 6) (gk_V (ci := 7) (As := []) (rest := []) C dL_asked_24 rfl rfl tw_1219 tw_1220 tw_1221 tw_25 tw_1222 gd_X7_worstGroup rfl ⟨by decide, by decide⟩ (by simp [gcat, gcI, gcL, gcF, gcD]) ⟨by decide, by decide⟩ hf (fun hf => m_X7_worstGroup hfl hf)) rfl rfl (fun E g9 h9 => by
    by_cases e9 : E = "java/lang/IllegalStateException"
    · subst e9
      rw [if_pos rfl] at h9
      refine gx_catch (name := "java/lang/IllegalStateException") (pre := []) (x := ⟨0, 27, 28, 21⟩) (suf := []) C ht (fun z hz => nomatch hz) (by decide) (by decide) tw_204 (by decide +kernel) (fun q9 => ?_)
      refine gg_astore_n (L' := [some (va_rf v0), some (.int v1), some (va_rf (some q9))]) C dL_asked_28 (Or.inr (Or.inr ⟨_, rfl, rfl⟩)) (by decide) rfl ?_
      refine gg_sipush C dL_asked_29 (v := (-1003 : Int32)) (by decide) ?_
      exact gg_iret C hr (by decide) (by decide) dL_asked_32 rfl h9
    rw [if_neg e9] at h9
    exact h9.elim) (fun i2 g1 hf => ?_)
      exact gg_sub (L' := [none, none, none]) (by first | exact trivial | simp [gsub]) (hb_27 _ _ hf)
    · refine gg_aload_n C dL_asked_16 rfl ?_
      refine gr_I (k' := 1) (n' := 6) (gk_V (ci := 7) (As := []) (rest := []) C dL_asked_17 rfl rfl tw_1215 tw_1216 tw_1217 tw_25 tw_1218 gd_X7_review rfl ⟨by decide, by decide⟩ (by simp [gcat, gcI, gcL, gcF, gcD]) ⟨by decide, by decide⟩ hf (fun hf => m_X7_review hfl hf)) rfl rfl (fun E g9 h9 => by
    by_cases e9 : E = "java/lang/IllegalStateException"
    · subst e9
      rw [if_pos rfl] at h9
      refine gx_catch (name := "java/lang/IllegalStateException") (pre := []) (x := ⟨0, 27, 28, 21⟩) (suf := []) C ht (fun z hz => nomatch hz) (by decide) (by decide) tw_204 (by decide +kernel) (fun q9 => ?_)
      refine gg_astore_n (L' := [some (va_rf v0), some (.int v1), some (va_rf (some q9))]) C dL_asked_28 (Or.inr (Or.inr ⟨_, rfl, rfl⟩)) (by decide) rfl ?_
      refine gg_sipush C dL_asked_29 (v := (-1003 : Int32)) (by decide) ?_
      exact gg_iret C hr (by decide) (by decide) dL_asked_32 rfl h9
    rw [if_neg e9] at h9
    exact h9.elim) (fun i4 g3 hf => ?_)
      refine gg_goto (tgt := 27) C dL_asked_20 (by decide) ?_
      exact gg_sub (L' := [none, none, none]) (by first | exact trivial | simp [gsub]) (hb_27 _ _ hf)
  · refine gg_aload_n C dL_asked_4 rfl ?_
    refine gr_I (k' := 1) (n' := 6) (gk_V (ci := 7) (As := []) (rest := []) C dL_asked_5 rfl rfl tw_1202 tw_1203 tw_1204 tw_25 tw_1205 gd_X7_nextInReview rfl ⟨by decide, by decide⟩ (by simp [gcat, gcI, gcL, gcF, gcD]) ⟨by decide, by decide⟩ hf (fun hf => m_X7_nextInReview hfl hf)) rfl rfl (fun E g9 h9 => by
    by_cases e9 : E = "java/lang/IllegalStateException"
    · subst e9
      rw [if_pos rfl] at h9
      refine gx_catch (name := "java/lang/IllegalStateException") (pre := []) (x := ⟨0, 27, 28, 21⟩) (suf := []) C ht (fun z hz => nomatch hz) (by decide) (by decide) tw_204 (by decide +kernel) (fun q9 => ?_)
      refine gg_astore_n (L' := [some (va_rf v0), some (.int v1), some (va_rf (some q9))]) C dL_asked_28 (Or.inr (Or.inr ⟨_, rfl, rfl⟩)) (by decide) rfl ?_
      refine gg_sipush C dL_asked_29 (v := (-1003 : Int32)) (by decide) ?_
      exact gg_iret C hr (by decide) (by decide) dL_asked_32 rfl h9
    rw [if_neg e9] at h9
    exact h9.elim) (fun i6 g5 hf => ?_)
    refine gg_goto (tgt := 27) C dL_asked_8 (by decide) ?_
    exact gg_sub (L' := [none, none, none]) (by first | exact trivial | simp [gsub]) (hb_27 _ _ hf)

def w_L_group_b57 (X : Cx) (post : Int32 → GM → Prop) (px : String → GM → Prop)  (t0 : Int32) (g : GM) : Prop :=
  post t0 g
def w_L_group_b54 (X : Cx) (post : Int32 → GM → Prop) (px : String → GM → Prop)  (t0 : Int32) (t1 : Int32) (t2 : Option Nat) (g : GM) : Prop :=
  wIs g t2 7 (w_X7_stackAt X (fun (i2 : Int32) (g1 : GM) => w_L_group_b57 X post px i2 g1) (fun E g9 => if E = "java/util/NoSuchElementException" then post (-1001 : Int32) g9 else (if E = "java/lang/IndexOutOfBoundsException" then post (-1005 : Int32) g9 else (False))) t2 t1 t0 g)
def w_L_group (X : Cx) (post : Int32 → GM → Prop) (px : String → GM → Prop) (v0 : Option Nat) (v1 : Int32) (v2 : Int32) (g : GM) : Prop :=
  (if v1 = (-9 : Int32) then wIs g v0 7 (w_X7_lineAt X (fun (i8 : Int32) (g7 : GM) => w_L_group_b57 X post px i8 g7) (fun E g9 => if E = "java/util/NoSuchElementException" then post (-1001 : Int32) g9 else (if E = "java/lang/IndexOutOfBoundsException" then post (-1005 : Int32) g9 else (False))) v0 v2 g) else (if v2 = (-1 : Int32) then wIs g v0 7 (w_X7_crashesIn X (fun (i6 : Int32) (g5 : GM) => w_L_group_b57 X post px i6 g5) (fun E g9 => if E = "java/util/NoSuchElementException" then post (-1001 : Int32) g9 else (if E = "java/lang/IndexOutOfBoundsException" then post (-1005 : Int32) g9 else (False))) v0 v1 g) else (if v2 = (-2 : Int32) then wIs g v0 7 (w_X7_buildsIn X (fun (i4 : Int32) (g3 : GM) => w_L_group_b57 X post px i4 g3) (fun E g9 => if E = "java/util/NoSuchElementException" then post (-1001 : Int32) g9 else (if E = "java/lang/IndexOutOfBoundsException" then post (-1005 : Int32) g9 else (False))) v0 v1 g) else (if v2 = (-3 : Int32) then w_L_group_b54 X post px (-1 : Int32) v1 v0 g else w_L_group_b54 X post px v2 v1 v0 g))))
abbrev rm_L_group : Room := { frames := 8, cells := 2, slots := 12, locals := 126 }
set_option maxHeartbeats 4000000 in
set_option maxRecDepth 100000 in
theorem m_L_group {X : Cx} {l : Launch} (hfl : l.stackTraces = false) {post : Int32 → GM → Prop} {px : String → GM → Prop} {v0 : Option Nat} {v1 : Int32} {v2 : Int32} {g : GM} (hf : w_L_group X post px v0 v1 v2 g) : vx_Met l yL_group (.codeWith yL_group cL_group 4 (some .int) [(0, 57, 58, 17), (0, 57, 63, 139)] :: TBL) rm_L_group (gPc X [va_rf v0, .int v1, .int v2] g) (qI X post) (gXC X px) rm_L_group.cells rm_L_group.slots (gA X) := by
  refine gg_enterW (hh := [(0, 57, 58, 17), (0, 57, 63, 139)]) (L := [some (va_rf v0), some (.int v1), some (.int v2), none]) hfl (by decide +kernel) (by simp [lg_sl, gcat, gcI, gcL, gcF, gcD]) (by simp [gll, lv_args, gcat, gcI, gcL, gcF, gcD]) ?_
  intro p e s m args below meth c C hr ht
  have C : FC X p l s m args meth c cL_group 4 "ReleasetrainLaw" := C
  have hb_57 : ∀ (t0 : Int32) (g : GM), w_L_group_b57 X post px  t0 g → GG X p l e rm_L_group s m args below meth c 4 (vx_MQ below (qI X post) (gXC X px) args s rm_L_group.cells rm_L_group.slots (gA X)) 2 12 57 [none, none, none, none] [.int t0] g := by
    intro  t0 g hf
    unfold w_L_group_b57 at hf
    exact gg_iret C hr (by decide) (by decide) dL_group_57 rfl hf
  have hb_54 : ∀ (t0 : Int32) (t1 : Int32) (t2 : Option Nat) (g : GM), w_L_group_b54 X post px  t0 t1 t2 g → GG X p l e rm_L_group s m args below meth c 4 (vx_MQ below (qI X post) (gXC X px) args s rm_L_group.cells rm_L_group.slots (gA X)) 0 0 54 [none, none, none, none] [.int t0, .int t1, va_rf t2] g := by
    intro  t0 t1 t2 g hf
    unfold w_L_group_b54 at hf
    refine gr_I (k' := 2) (n' := 12) (gk_V (ci := 7) (As := [.int t1, .int t0]) (rest := []) C dL_group_54 rfl rfl tw_1274 tw_1275 tw_1276 tw_25 tw_1277 gd_X7_stackAt rfl ⟨by decide, by decide⟩ (by simp [gcat, gcI, gcL, gcF, gcD]) ⟨by decide, by decide⟩ hf (fun hf => m_X7_stackAt hfl hf)) rfl rfl (fun E g9 h9 => by
    by_cases e9 : E = "java/util/NoSuchElementException"
    · subst e9
      rw [if_pos rfl] at h9
      refine gx_catch (name := "java/util/NoSuchElementException") (pre := []) (x := ⟨0, 57, 58, 17⟩) (suf := [⟨0, 57, 63, 139⟩]) C ht (fun z hz => nomatch hz) (by decide) (by decide) tw_202 (by decide +kernel) (fun q9 => ?_)
      refine gg_astore_n (L' := [none, none, none, some (va_rf (some q9))]) C dL_group_58 (Or.inr (Or.inl rfl)) (by decide) rfl ?_
      refine gg_sipush C dL_group_59 (v := (-1001 : Int32)) (by decide) ?_
      exact gg_iret C hr (by decide) (by decide) dL_group_62 rfl h9
    rw [if_neg e9] at h9
    by_cases e9 : E = "java/lang/IndexOutOfBoundsException"
    · subst e9
      rw [if_pos rfl] at h9
      refine gx_catch (name := "java/lang/IndexOutOfBoundsException") (pre := [⟨0, 57, 58, 17⟩]) (x := ⟨0, 57, 63, 139⟩) (suf := []) C ht (by intro z hz; simp only [List.mem_cons, List.not_mem_nil, or_false] at hz; rcases hz with rfl <;> first | exact Or.inl (by decide) | exact Or.inr ⟨by decide, "java/util/NoSuchElementException", tw_202, by decide +kernel⟩) (by decide) (by decide) tw_1231 (by decide +kernel) (fun q9 => ?_)
      refine gg_astore_n (L' := [none, none, none, some (va_rf (some q9))]) C dL_group_63 (Or.inr (Or.inl rfl)) (by decide) rfl ?_
      refine gg_sipush C dL_group_64 (v := (-1005 : Int32)) (by decide) ?_
      exact gg_iret C hr (by decide) (by decide) dL_group_67 rfl h9
    rw [if_neg e9] at h9
    exact h9.elim) (fun i2 g1 hf => ?_)
    exact hb_57 _ _ hf
  unfold w_L_group at hf
  refine gg_iload_n C dL_group_0 rfl ?_
  refine gg_bipush C dL_group_1 (v := (-9 : Int32)) (by decide) ?_
  refine gg_icmp_ne (tgt := 14) C dL_group_3 (by decide) hf (fun hf => ?_) (fun hf => ?_)
  · refine gg_iload_n C dL_group_14 rfl ?_
    refine gg_iconst C dL_group_15 (v := (-1 : Int32)) (by decide) ?_
    refine gg_icmp_ne (tgt := 27) C dL_group_16 (by decide) hf (fun hf => ?_) (fun hf => ?_)
    · refine gg_iload_n C dL_group_27 rfl ?_
      refine gg_bipush C dL_group_28 (v := (-2 : Int32)) (by decide) ?_
      refine gg_icmp_ne (tgt := 41) C dL_group_30 (by decide) hf (fun hf => ?_) (fun hf => ?_)
      · refine gg_aload_n C dL_group_41 rfl ?_
        refine gg_iload_n C dL_group_42 rfl ?_
        refine gg_iload_n C dL_group_43 rfl ?_
        refine gg_bipush C dL_group_44 (v := (-3 : Int32)) (by decide) ?_
        refine gg_icmp_ne (tgt := 53) C dL_group_46 (by decide) hf (fun hf => ?_) (fun hf => ?_)
        · refine gg_iload_n C dL_group_53 rfl ?_
          exact gg_sub (L' := [none, none, none, none]) (by first | exact trivial | simp [gsub]) (hb_54 _ _ _ _ hf)
        · refine gg_iconst C dL_group_49 (v := (-1 : Int32)) (by decide) ?_
          refine gg_goto (tgt := 54) C dL_group_50 (by decide) ?_
          exact gg_sub (L' := [none, none, none, none]) (by first | exact trivial | simp [gsub]) (hb_54 _ _ _ _ hf)
      · refine gg_aload_n C dL_group_33 rfl ?_
        refine gg_iload_n C dL_group_34 rfl ?_
        refine gr_I (k' := 1) (n' := 6) (gk_V (ci := 7) (As := [.int v1]) (rest := []) C dL_group_35 rfl rfl tw_1270 tw_1271 tw_1272 tw_25 tw_1273 gd_X7_buildsIn rfl ⟨by decide, by decide⟩ (by simp [gcat, gcI, gcL, gcF, gcD]) ⟨by decide, by decide⟩ hf (fun hf => m_X7_buildsIn hfl hf)) rfl rfl (fun E g9 h9 => by
    by_cases e9 : E = "java/util/NoSuchElementException"
    · subst e9
      rw [if_pos rfl] at h9
      refine gx_catch (name := "java/util/NoSuchElementException") (pre := []) (x := ⟨0, 57, 58, 17⟩) (suf := [⟨0, 57, 63, 139⟩]) C ht (fun z hz => nomatch hz) (by decide) (by decide) tw_202 (by decide +kernel) (fun q9 => ?_)
      refine gg_astore_n (L' := [some (va_rf v0), some (.int v1), some (.int v2), some (va_rf (some q9))]) C dL_group_58 (Or.inr (Or.inr ⟨_, rfl, rfl⟩)) (by decide) rfl ?_
      refine gg_sipush C dL_group_59 (v := (-1001 : Int32)) (by decide) ?_
      exact gg_iret C hr (by decide) (by decide) dL_group_62 rfl h9
    rw [if_neg e9] at h9
    by_cases e9 : E = "java/lang/IndexOutOfBoundsException"
    · subst e9
      rw [if_pos rfl] at h9
      refine gx_catch (name := "java/lang/IndexOutOfBoundsException") (pre := [⟨0, 57, 58, 17⟩]) (x := ⟨0, 57, 63, 139⟩) (suf := []) C ht (by intro z hz; simp only [List.mem_cons, List.not_mem_nil, or_false] at hz; rcases hz with rfl <;> first | exact Or.inl (by decide) | exact Or.inr ⟨by decide, "java/util/NoSuchElementException", tw_202, by decide +kernel⟩) (by decide) (by decide) tw_1231 (by decide +kernel) (fun q9 => ?_)
      refine gg_astore_n (L' := [some (va_rf v0), some (.int v1), some (.int v2), some (va_rf (some q9))]) C dL_group_63 (Or.inr (Or.inr ⟨_, rfl, rfl⟩)) (by decide) rfl ?_
      refine gg_sipush C dL_group_64 (v := (-1005 : Int32)) (by decide) ?_
      exact gg_iret C hr (by decide) (by decide) dL_group_67 rfl h9
    rw [if_neg e9] at h9
    exact h9.elim) (fun i4 g3 hf => ?_)
        refine gg_goto (tgt := 57) C dL_group_38 (by decide) ?_
        exact gg_sub (L' := [none, none, none, none]) (by first | exact trivial | simp [gsub]) (gg_widen (k' := 2) (n' := 12) (by decide) (by decide) (hb_57 _ _ hf))
    · refine gg_aload_n C dL_group_19 rfl ?_
      refine gg_iload_n C dL_group_20 rfl ?_
      refine gr_I (k' := 1) (n' := 6) (gk_V (ci := 7) (As := [.int v1]) (rest := []) C dL_group_21 rfl rfl tw_1261 tw_1262 tw_1263 tw_25 tw_1264 gd_X7_crashesIn rfl ⟨by decide, by decide⟩ (by simp [gcat, gcI, gcL, gcF, gcD]) ⟨by decide, by decide⟩ hf (fun hf => m_X7_crashesIn hfl hf)) rfl rfl (fun E g9 h9 => by
    by_cases e9 : E = "java/util/NoSuchElementException"
    · subst e9
      rw [if_pos rfl] at h9
      refine gx_catch (name := "java/util/NoSuchElementException") (pre := []) (x := ⟨0, 57, 58, 17⟩) (suf := [⟨0, 57, 63, 139⟩]) C ht (fun z hz => nomatch hz) (by decide) (by decide) tw_202 (by decide +kernel) (fun q9 => ?_)
      refine gg_astore_n (L' := [some (va_rf v0), some (.int v1), some (.int v2), some (va_rf (some q9))]) C dL_group_58 (Or.inr (Or.inr ⟨_, rfl, rfl⟩)) (by decide) rfl ?_
      refine gg_sipush C dL_group_59 (v := (-1001 : Int32)) (by decide) ?_
      exact gg_iret C hr (by decide) (by decide) dL_group_62 rfl h9
    rw [if_neg e9] at h9
    by_cases e9 : E = "java/lang/IndexOutOfBoundsException"
    · subst e9
      rw [if_pos rfl] at h9
      refine gx_catch (name := "java/lang/IndexOutOfBoundsException") (pre := [⟨0, 57, 58, 17⟩]) (x := ⟨0, 57, 63, 139⟩) (suf := []) C ht (by intro z hz; simp only [List.mem_cons, List.not_mem_nil, or_false] at hz; rcases hz with rfl <;> first | exact Or.inl (by decide) | exact Or.inr ⟨by decide, "java/util/NoSuchElementException", tw_202, by decide +kernel⟩) (by decide) (by decide) tw_1231 (by decide +kernel) (fun q9 => ?_)
      refine gg_astore_n (L' := [some (va_rf v0), some (.int v1), some (.int v2), some (va_rf (some q9))]) C dL_group_63 (Or.inr (Or.inr ⟨_, rfl, rfl⟩)) (by decide) rfl ?_
      refine gg_sipush C dL_group_64 (v := (-1005 : Int32)) (by decide) ?_
      exact gg_iret C hr (by decide) (by decide) dL_group_67 rfl h9
    rw [if_neg e9] at h9
    exact h9.elim) (fun i6 g5 hf => ?_)
      refine gg_goto (tgt := 57) C dL_group_24 (by decide) ?_
      exact gg_sub (L' := [none, none, none, none]) (by first | exact trivial | simp [gsub]) (gg_widen (k' := 2) (n' := 12) (by decide) (by decide) (hb_57 _ _ hf))
  · refine gg_aload_n C dL_group_6 rfl ?_
    refine gg_iload_n C dL_group_7 rfl ?_
    refine gr_I (k' := 1) (n' := 6) (gk_V (ci := 7) (As := [.int v2]) (rest := []) C dL_group_8 rfl rfl tw_1234 tw_1235 tw_1236 tw_25 tw_1237 gd_X7_lineAt rfl ⟨by decide, by decide⟩ (by simp [gcat, gcI, gcL, gcF, gcD]) ⟨by decide, by decide⟩ hf (fun hf => m_X7_lineAt hfl hf)) rfl rfl (fun E g9 h9 => by
    by_cases e9 : E = "java/util/NoSuchElementException"
    · subst e9
      rw [if_pos rfl] at h9
      refine gx_catch (name := "java/util/NoSuchElementException") (pre := []) (x := ⟨0, 57, 58, 17⟩) (suf := [⟨0, 57, 63, 139⟩]) C ht (fun z hz => nomatch hz) (by decide) (by decide) tw_202 (by decide +kernel) (fun q9 => ?_)
      refine gg_astore_n (L' := [some (va_rf v0), some (.int v1), some (.int v2), some (va_rf (some q9))]) C dL_group_58 (Or.inr (Or.inr ⟨_, rfl, rfl⟩)) (by decide) rfl ?_
      refine gg_sipush C dL_group_59 (v := (-1001 : Int32)) (by decide) ?_
      exact gg_iret C hr (by decide) (by decide) dL_group_62 rfl h9
    rw [if_neg e9] at h9
    by_cases e9 : E = "java/lang/IndexOutOfBoundsException"
    · subst e9
      rw [if_pos rfl] at h9
      refine gx_catch (name := "java/lang/IndexOutOfBoundsException") (pre := [⟨0, 57, 58, 17⟩]) (x := ⟨0, 57, 63, 139⟩) (suf := []) C ht (by intro z hz; simp only [List.mem_cons, List.not_mem_nil, or_false] at hz; rcases hz with rfl <;> first | exact Or.inl (by decide) | exact Or.inr ⟨by decide, "java/util/NoSuchElementException", tw_202, by decide +kernel⟩) (by decide) (by decide) tw_1231 (by decide +kernel) (fun q9 => ?_)
      refine gg_astore_n (L' := [some (va_rf v0), some (.int v1), some (.int v2), some (va_rf (some q9))]) C dL_group_63 (Or.inr (Or.inr ⟨_, rfl, rfl⟩)) (by decide) rfl ?_
      refine gg_sipush C dL_group_64 (v := (-1005 : Int32)) (by decide) ?_
      exact gg_iret C hr (by decide) (by decide) dL_group_67 rfl h9
    rw [if_neg e9] at h9
    exact h9.elim) (fun i8 g7 hf => ?_)
    refine gg_goto (tgt := 57) C dL_group_11 (by decide) ?_
    exact gg_sub (L' := [none, none, none, none]) (by first | exact trivial | simp [gsub]) (gg_widen (k' := 2) (n' := 12) (by decide) (by decide) (hb_57 _ _ hf))

def w_L_like_b20 (X : Cx) (post : UInt32 → GM → Prop) (px : String → GM → Prop)  (t0 : UInt32) (g : GM) : Prop :=
  post t0 g
def w_L_like (X : Cx) (post : UInt32 → GM → Prop) (px : String → GM → Prop) (v0 : Option Nat) (v1 : Int32) (v2 : Int32) (g : GM) : Prop :=
  (if v2 = (-9 : Int32) then wIs g v0 7 (w_X7_crashRate X (fun (x4 : UInt32) (g3 : GM) => w_L_like_b20 X post px x4 g3) (fun E g9 => if E = "java/util/NoSuchElementException" then post (3212836864 : UInt32) g9 else (False)) v0 v1 g) else wIs g v0 7 (w_X7_likeness X (fun (x2 : UInt32) (g1 : GM) => w_L_like_b20 X post px x2 g1) (fun E g9 => if E = "java/util/NoSuchElementException" then post (3212836864 : UInt32) g9 else (False)) v0 v1 v2 g))
abbrev rm_L_like : Room := { frames := 8, cells := 2, slots := 12, locals := 126 }
set_option maxHeartbeats 4000000 in
set_option maxRecDepth 100000 in
theorem m_L_like {X : Cx} {l : Launch} (hfl : l.stackTraces = false) {post : UInt32 → GM → Prop} {px : String → GM → Prop} {v0 : Option Nat} {v1 : Int32} {v2 : Int32} {g : GM} (hf : w_L_like X post px v0 v1 v2 g) : vx_Met l yL_like (.codeWith yL_like cL_like 4 (some .float) [(0, 20, 21, 17)] :: TBL) rm_L_like (gPc X [va_rf v0, .int v1, .int v2] g) (qF X post) (gXC X px) rm_L_like.cells rm_L_like.slots (gA X) := by
  refine gg_enterW (hh := [(0, 20, 21, 17)]) (L := [some (va_rf v0), some (.int v1), some (.int v2), none]) hfl (by decide +kernel) (by simp [lg_sl, gcat, gcI, gcL, gcF, gcD]) (by simp [gll, lv_args, gcat, gcI, gcL, gcF, gcD]) ?_
  intro p e s m args below meth c C hr ht
  have C : FC X p l s m args meth c cL_like 4 "ReleasetrainLaw" := C
  have hb_20 : ∀ (t0 : UInt32) (g : GM), w_L_like_b20 X post px  t0 g → GG X p l e rm_L_like s m args below meth c 4 (vx_MQ below (qF X post) (gXC X px) args s rm_L_like.cells rm_L_like.slots (gA X)) 2 12 20 [none, none, none, none] [.float t0] g := by
    intro  t0 g hf
    unfold w_L_like_b20 at hf
    exact gg_fret C hr (by decide) (by decide) dL_like_20 hf
  unfold w_L_like at hf
  refine gg_iload_n C dL_like_0 rfl ?_
  refine gg_bipush C dL_like_1 (v := (-9 : Int32)) (by decide) ?_
  refine gg_icmp_ne (tgt := 14) C dL_like_3 (by decide) hf (fun hf => ?_) (fun hf => ?_)
  · refine gg_aload_n C dL_like_14 rfl ?_
    refine gg_iload_n C dL_like_15 rfl ?_
    refine gg_iload_n C dL_like_16 rfl ?_
    refine gr_F (k' := 2) (n' := 12) (gk_V (ci := 7) (As := [.int v1, .int v2]) (rest := []) C dL_like_17 rfl rfl tw_1286 tw_1287 tw_1288 tw_25 tw_1289 gd_X7_likeness rfl ⟨by decide, by decide⟩ (by simp [gcat, gcI, gcL, gcF, gcD]) ⟨by decide, by decide⟩ hf (fun hf => m_X7_likeness hfl hf)) rfl rfl (fun E g9 h9 => by
    by_cases e9 : E = "java/util/NoSuchElementException"
    · subst e9
      rw [if_pos rfl] at h9
      refine gx_catch (name := "java/util/NoSuchElementException") (pre := []) (x := ⟨0, 20, 21, 17⟩) (suf := []) C ht (fun z hz => nomatch hz) (by decide) (by decide) tw_202 (by decide +kernel) (fun q9 => ?_)
      refine gg_astore_n (L' := [some (va_rf v0), some (.int v1), some (.int v2), some (va_rf (some q9))]) C dL_like_21 (Or.inr (Or.inr ⟨_, rfl, rfl⟩)) (by decide) rfl ?_
      refine gg_ldcf C dL_like_22 (v := (3212836864 : UInt32)) tw_1290 ?_
      exact gg_fret C hr (by decide) (by decide) dL_like_24 h9
    rw [if_neg e9] at h9
    exact h9.elim) (fun x2 g1 hf => ?_)
    exact gg_sub (L' := [none, none, none, none]) (by first | exact trivial | simp [gsub]) (hb_20 _ _ hf)
  · refine gg_aload_n C dL_like_6 rfl ?_
    refine gg_iload_n C dL_like_7 rfl ?_
    refine gr_F (k' := 1) (n' := 6) (gk_V (ci := 7) (As := [.int v1]) (rest := []) C dL_like_8 rfl rfl tw_1282 tw_1283 tw_1284 tw_25 tw_1285 gd_X7_crashRate rfl ⟨by decide, by decide⟩ (by simp [gcat, gcI, gcL, gcF, gcD]) ⟨by decide, by decide⟩ hf (fun hf => m_X7_crashRate hfl hf)) rfl rfl (fun E g9 h9 => by
    by_cases e9 : E = "java/util/NoSuchElementException"
    · subst e9
      rw [if_pos rfl] at h9
      refine gx_catch (name := "java/util/NoSuchElementException") (pre := []) (x := ⟨0, 20, 21, 17⟩) (suf := []) C ht (fun z hz => nomatch hz) (by decide) (by decide) tw_202 (by decide +kernel) (fun q9 => ?_)
      refine gg_astore_n (L' := [some (va_rf v0), some (.int v1), some (.int v2), some (va_rf (some q9))]) C dL_like_21 (Or.inr (Or.inr ⟨_, rfl, rfl⟩)) (by decide) rfl ?_
      refine gg_ldcf C dL_like_22 (v := (3212836864 : UInt32)) tw_1290 ?_
      exact gg_fret C hr (by decide) (by decide) dL_like_24 h9
    rw [if_neg e9] at h9
    exact h9.elim) (fun x4 g3 hf => ?_)
    refine gg_goto (tgt := 20) C dL_like_11 (by decide) ?_
    exact gg_sub (L' := [none, none, none, none]) (by first | exact trivial | simp [gsub]) (gg_widen (k' := 2) (n' := 12) (by decide) (by decide) (hb_20 _ _ hf))

def w_L_rating (X : Cx) (post : UInt64 → GM → Prop) (px : String → GM → Prop) (v0 : Option Nat) (v1 : Int32) (g : GM) : Prop :=
  wIs g v0 7 (w_X7_rating X (fun (z2 : UInt64) (g1 : GM) => post z2 g1) (fun E g9 => if E = "java/util/NoSuchElementException" then post (13830554455654793216 : UInt64) g9 else (if E = "java/lang/ArithmeticException" then post (13835058055282163712 : UInt64) g9 else (False))) v0 v1 g)
abbrev rm_L_rating : Room := { frames := 9, cells := 2, slots := 12, locals := 146 }
set_option maxHeartbeats 4000000 in
set_option maxRecDepth 100000 in
theorem m_L_rating {X : Cx} {l : Launch} (hfl : l.stackTraces = false) {post : UInt64 → GM → Prop} {px : String → GM → Prop} {v0 : Option Nat} {v1 : Int32} {g : GM} (hf : w_L_rating X post px v0 v1 g) : vx_Met l yL_rating (.codeWith yL_rating cL_rating 3 (some .double) [(0, 5, 6, 17), (0, 5, 11, 156)] :: TBL) rm_L_rating (gPc X [va_rf v0, .int v1] g) (qD X post) (gXC X px) rm_L_rating.cells rm_L_rating.slots (gA X) := by
  refine gg_enterW (hh := [(0, 5, 6, 17), (0, 5, 11, 156)]) (L := [some (va_rf v0), some (.int v1), none]) hfl (by decide +kernel) (by simp [lg_sl, gcat, gcI, gcL, gcF, gcD]) (by simp [gll, lv_args, gcat, gcI, gcL, gcF, gcD]) ?_
  intro p e s m args below meth c C hr ht
  have C : FC X p l s m args meth c cL_rating 3 "ReleasetrainLaw" := C
  unfold w_L_rating at hf
  refine gg_aload_n C dL_rating_0 rfl ?_
  refine gg_iload_n C dL_rating_1 rfl ?_
  refine gr_D (k' := 2) (n' := 12) (gk_V (ci := 7) (As := [.int v1]) (rest := []) C dL_rating_2 rfl rfl tw_1308 tw_1309 tw_1310 tw_25 tw_1311 gd_X7_rating rfl ⟨by decide, by decide⟩ (by simp [gcat, gcI, gcL, gcF, gcD]) ⟨by decide, by decide⟩ hf (fun hf => m_X7_rating hfl hf)) rfl rfl (fun E g9 h9 => by
    by_cases e9 : E = "java/util/NoSuchElementException"
    · subst e9
      rw [if_pos rfl] at h9
      refine gx_catch (name := "java/util/NoSuchElementException") (pre := []) (x := ⟨0, 5, 6, 17⟩) (suf := [⟨0, 5, 11, 156⟩]) C ht (fun z hz => nomatch hz) (by decide) (by decide) tw_202 (by decide +kernel) (fun q9 => ?_)
      refine gg_astore_n (L' := [some (va_rf v0), some (.int v1), some (va_rf (some q9))]) C dL_rating_6 (Or.inr (Or.inr ⟨_, rfl, rfl⟩)) (by decide) rfl ?_
      refine gg_ldc2d C dL_rating_7 (v := (13830554455654793216 : UInt64)) tw_1319 ?_
      exact gg_dret C hr (by decide) (by decide) dL_rating_10 h9
    rw [if_neg e9] at h9
    by_cases e9 : E = "java/lang/ArithmeticException"
    · subst e9
      rw [if_pos rfl] at h9
      refine gx_catch (name := "java/lang/ArithmeticException") (pre := [⟨0, 5, 6, 17⟩]) (x := ⟨0, 5, 11, 156⟩) (suf := []) C ht (by intro z hz; simp only [List.mem_cons, List.not_mem_nil, or_false] at hz; rcases hz with rfl <;> first | exact Or.inl (by decide) | exact Or.inr ⟨by decide, "java/util/NoSuchElementException", tw_202, by decide +kernel⟩) (by decide) (by decide) tw_1294 (by decide +kernel) (fun q9 => ?_)
      refine gg_astore_n (L' := [some (va_rf v0), some (.int v1), some (va_rf (some q9))]) C dL_rating_11 (Or.inr (Or.inr ⟨_, rfl, rfl⟩)) (by decide) rfl ?_
      refine gg_ldc2d C dL_rating_12 (v := (13835058055282163712 : UInt64)) tw_1320 ?_
      exact gg_dret C hr (by decide) (by decide) dL_rating_15 h9
    rw [if_neg e9] at h9
    exact h9.elim) (fun z2 g1 hf => ?_)
  exact gg_dret C hr (by decide) (by decide) dL_rating_5 hf

def w_L_ratingBits (X : Cx) (post : Int64 → GM → Prop) (px : String → GM → Prop) (v0 : Option Nat) (v1 : Int32) (g : GM) : Prop :=
  wIs g v0 7 (w_X7_ratingBits X (fun (y2 : Int64) (g1 : GM) => post y2 g1) (fun E g9 => if E = "java/util/NoSuchElementException" then post (-1001 : Int64) g9 else (if E = "java/lang/ArithmeticException" then post (-1006 : Int64) g9 else (False))) v0 v1 g)
abbrev rm_L_ratingBits : Room := { frames := 9, cells := 2, slots := 12, locals := 146 }
set_option maxHeartbeats 4000000 in
set_option maxRecDepth 100000 in
theorem m_L_ratingBits {X : Cx} {l : Launch} (hfl : l.stackTraces = false) {post : Int64 → GM → Prop} {px : String → GM → Prop} {v0 : Option Nat} {v1 : Int32} {g : GM} (hf : w_L_ratingBits X post px v0 v1 g) : vx_Met l yL_ratingBits (.codeWith yL_ratingBits cL_ratingBits 3 (some .long) [(0, 5, 6, 17), (0, 5, 11, 156)] :: TBL) rm_L_ratingBits (gPc X [va_rf v0, .int v1] g) (qL X post) (gXC X px) rm_L_ratingBits.cells rm_L_ratingBits.slots (gA X) := by
  refine gg_enterW (hh := [(0, 5, 6, 17), (0, 5, 11, 156)]) (L := [some (va_rf v0), some (.int v1), none]) hfl (by decide +kernel) (by simp [lg_sl, gcat, gcI, gcL, gcF, gcD]) (by simp [gll, lv_args, gcat, gcI, gcL, gcF, gcD]) ?_
  intro p e s m args below meth c C hr ht
  have C : FC X p l s m args meth c cL_ratingBits 3 "ReleasetrainLaw" := C
  unfold w_L_ratingBits at hf
  refine gg_aload_n C dL_ratingBits_0 rfl ?_
  refine gg_iload_n C dL_ratingBits_1 rfl ?_
  refine gr_L (k' := 2) (n' := 12) (gk_V (ci := 7) (As := [.int v1]) (rest := []) C dL_ratingBits_2 rfl rfl tw_1324 tw_1325 tw_1326 tw_25 tw_1327 gd_X7_ratingBits rfl ⟨by decide, by decide⟩ (by simp [gcat, gcI, gcL, gcF, gcD]) ⟨by decide, by decide⟩ hf (fun hf => m_X7_ratingBits hfl hf)) rfl rfl (fun E g9 h9 => by
    by_cases e9 : E = "java/util/NoSuchElementException"
    · subst e9
      rw [if_pos rfl] at h9
      refine gx_catch (name := "java/util/NoSuchElementException") (pre := []) (x := ⟨0, 5, 6, 17⟩) (suf := [⟨0, 5, 11, 156⟩]) C ht (fun z hz => nomatch hz) (by decide) (by decide) tw_202 (by decide +kernel) (fun q9 => ?_)
      refine gg_astore_n (L' := [some (va_rf v0), some (.int v1), some (va_rf (some q9))]) C dL_ratingBits_6 (Or.inr (Or.inr ⟨_, rfl, rfl⟩)) (by decide) rfl ?_
      refine gg_ldc2 C dL_ratingBits_7 (v := (-1001 : Int64)) tw_1328 ?_
      exact gg_lret C hr (by decide) (by decide) dL_ratingBits_10 h9
    rw [if_neg e9] at h9
    by_cases e9 : E = "java/lang/ArithmeticException"
    · subst e9
      rw [if_pos rfl] at h9
      refine gx_catch (name := "java/lang/ArithmeticException") (pre := [⟨0, 5, 6, 17⟩]) (x := ⟨0, 5, 11, 156⟩) (suf := []) C ht (by intro z hz; simp only [List.mem_cons, List.not_mem_nil, or_false] at hz; rcases hz with rfl <;> first | exact Or.inl (by decide) | exact Or.inr ⟨by decide, "java/util/NoSuchElementException", tw_202, by decide +kernel⟩) (by decide) (by decide) tw_1294 (by decide +kernel) (fun q9 => ?_)
      refine gg_astore_n (L' := [some (va_rf v0), some (.int v1), some (va_rf (some q9))]) C dL_ratingBits_11 (Or.inr (Or.inr ⟨_, rfl, rfl⟩)) (by decide) rfl ?_
      refine gg_ldc2 C dL_ratingBits_12 (v := (-1006 : Int64)) tw_1329 ?_
      exact gg_lret C hr (by decide) (by decide) dL_ratingBits_15 h9
    rw [if_neg e9] at h9
    exact h9.elim) (fun y2 g1 hf => ?_)
  exact gg_lret C hr (by decide) (by decide) dL_ratingBits_5 hf

def w_L_used (X : Cx) (post : UInt32 → GM → Prop) (px : String → GM → Prop) (v0 : Option Nat) (g : GM) : Prop :=
  wIs g v0 7 (w_X7_usedShare X (fun (x2 : UInt32) (g1 : GM) => post x2 g1) (fun E g9 => if E = "java/lang/ArithmeticException" then post (3212836864 : UInt32) g9 else (False)) v0 g)
abbrev rm_L_used : Room := { frames := 7, cells := 1, slots := 6, locals := 106 }
set_option maxHeartbeats 4000000 in
set_option maxRecDepth 100000 in
theorem m_L_used {X : Cx} {l : Launch} (hfl : l.stackTraces = false) {post : UInt32 → GM → Prop} {px : String → GM → Prop} {v0 : Option Nat} {g : GM} (hf : w_L_used X post px v0 g) : vx_Met l yL_used (.codeWith yL_used cL_used 2 (some .float) [(0, 4, 5, 156)] :: TBL) rm_L_used (gPc X [va_rf v0] g) (qF X post) (gXC X px) rm_L_used.cells rm_L_used.slots (gA X) := by
  refine gg_enterW (hh := [(0, 4, 5, 156)]) (L := [some (va_rf v0), none]) hfl (by decide +kernel) (by simp [lg_sl, gcat, gcI, gcL, gcF, gcD]) (by simp [gll, lv_args, gcat, gcI, gcL, gcF, gcD]) ?_
  intro p e s m args below meth c C hr ht
  have C : FC X p l s m args meth c cL_used 2 "ReleasetrainLaw" := C
  unfold w_L_used at hf
  refine gg_aload_n C dL_used_0 rfl ?_
  refine gr_F (k' := 1) (n' := 6) (gk_V (ci := 7) (As := []) (rest := []) C dL_used_1 rfl rfl tw_1365 tw_1366 tw_1367 tw_25 tw_1368 gd_X7_usedShare rfl ⟨by decide, by decide⟩ (by simp [gcat, gcI, gcL, gcF, gcD]) ⟨by decide, by decide⟩ hf (fun hf => m_X7_usedShare hfl hf)) rfl rfl (fun E g9 h9 => by
    by_cases e9 : E = "java/lang/ArithmeticException"
    · subst e9
      rw [if_pos rfl] at h9
      refine gx_catch (name := "java/lang/ArithmeticException") (pre := []) (x := ⟨0, 4, 5, 156⟩) (suf := []) C ht (fun z hz => nomatch hz) (by decide) (by decide) tw_1294 (by decide +kernel) (fun q9 => ?_)
      refine gg_astore_n (L' := [some (va_rf v0), some (va_rf (some q9))]) C dL_used_5 (Or.inr (Or.inr ⟨_, rfl, gcat _⟩)) (by decide) rfl ?_
      refine gg_ldcf C dL_used_6 (v := (3212836864 : UInt32)) tw_1290 ?_
      exact gg_fret C hr (by decide) (by decide) dL_used_8 h9
    rw [if_neg e9] at h9
    exact h9.elim) (fun x2 g1 hf => ?_)
  exact gg_fret C hr (by decide) (by decide) dL_used_4 hf

def w_L_ofq (X : Cx) (post : Int32 → GM → Prop) (px : String → GM → Prop) (v0 : Option Nat) (v1 : Int32) (v2 : Int32) (g : GM) : Prop :=
  (if v2 = (0 : Int32) then wIs g v0 7 (w_X7_submit X (fun (i3 : Int32) (g2 : GM) => post i3 g2) (fun E g9 => if E = "java/util/NoSuchElementException" then post (-1001 : Int32) g9 else (if E = "java/lang/IllegalStateException" then post (-1003 : Int32) g9 else (False))) v0 v1 g) else (if v2 = (1 : Int32) then wIs g v0 7 (w_X7_appeal X (fun (i6 : Int32) (g5 : GM) => post i6 g5) (fun E g9 => if E = "java/util/NoSuchElementException" then post (-1001 : Int32) g9 else (if E = "java/lang/IllegalStateException" then post (-1003 : Int32) g9 else (False))) v0 v1 g) else (if v2 = (2 : Int32) then wIs g v0 7 (w_X7_stateOf X (fun (i9 : Int32) (g8 : GM) => post i9 g8) (fun E g9 => if E = "java/util/NoSuchElementException" then post (-1001 : Int32) g9 else (if E = "java/lang/IllegalStateException" then post (-1003 : Int32) g9 else (False))) v0 v1 g) else (if v2 = (3 : Int32) then wIs g v0 7 (w_X7_percentageOf X (fun (i12 : Int32) (g11 : GM) => post i12 g11) (fun E g9 => if E = "java/util/NoSuchElementException" then post (-1001 : Int32) g9 else (if E = "java/lang/IllegalStateException" then post (-1003 : Int32) g9 else (False))) v0 v1 g) else (if v2 = (4 : Int32) then wIs g v0 7 (w_X7_holdOf X (fun (i15 : Int32) (g14 : GM) => post i15 g14) (fun E g9 => if E = "java/util/NoSuchElementException" then post (-1001 : Int32) g9 else (if E = "java/lang/IllegalStateException" then post (-1003 : Int32) g9 else (False))) v0 v1 g) else (if v2 = (5 : Int32) then wIs g v0 7 (w_X7_reach X (fun (i18 : Int32) (g17 : GM) => post i18 g17) (fun E g9 => if E = "java/util/NoSuchElementException" then post (-1001 : Int32) g9 else (if E = "java/lang/IllegalStateException" then post (-1003 : Int32) g9 else (False))) v0 v1 g) else (if v2 = (6 : Int32) then wIs g v0 7 (w_X7_reachByDevices X (fun (i21 : Int32) (g20 : GM) => post i21 g20) (fun E g9 => if E = "java/util/NoSuchElementException" then post (-1001 : Int32) g9 else (if E = "java/lang/IllegalStateException" then post (-1003 : Int32) g9 else (False))) v0 v1 g) else (if v2 = (7 : Int32) then wIs g v0 7 (w_X7_devicesWith X (fun (i24 : Int32) (g23 : GM) => post i24 g23) (fun E g9 => if E = "java/util/NoSuchElementException" then post (-1001 : Int32) g9 else (if E = "java/lang/IllegalStateException" then post (-1003 : Int32) g9 else (False))) v0 v1 g) else (if v2 = (8 : Int32) then wIs g v0 7 (w_X7_installs X (fun (i27 : Int32) (g26 : GM) => post i27 g26) (fun E g9 => if E = "java/util/NoSuchElementException" then post (-1001 : Int32) g9 else (if E = "java/lang/IllegalStateException" then post (-1003 : Int32) g9 else (False))) v0 v1 g) else False)))))))))
abbrev rm_L_ofq : Room := { frames := 8, cells := 2, slots := 12, locals := 128 }
set_option maxHeartbeats 4000000 in
set_option maxRecDepth 100000 in
theorem m_L_ofq {X : Cx} {l : Launch} (hfl : l.stackTraces = false) {post : Int32 → GM → Prop} {px : String → GM → Prop} {v0 : Option Nat} {v1 : Int32} {v2 : Int32} {g : GM} (hf : w_L_ofq X post px v0 v1 v2 g) : vx_Met l yL_of (.codeWith yL_of cL_of 4 (some .int) [(0, 57, 112, 17), (58, 63, 112, 17), (64, 69, 112, 17), (70, 75, 112, 17), (76, 81, 112, 17), (82, 87, 112, 17), (88, 93, 112, 17), (94, 99, 112, 17), (100, 105, 112, 17), (106, 111, 112, 17), (0, 57, 117, 21), (58, 63, 117, 21), (64, 69, 117, 21), (70, 75, 117, 21), (76, 81, 117, 21), (82, 87, 117, 21), (88, 93, 117, 21), (94, 99, 117, 21), (100, 105, 117, 21), (106, 111, 117, 21)] :: TBL) rm_L_ofq (gPc X [va_rf v0, .int v1, .int v2] g) (qI X post) (gXC X px) rm_L_ofq.cells rm_L_ofq.slots (gA X) := by
  refine gg_enterW (hh := [(0, 57, 112, 17), (58, 63, 112, 17), (64, 69, 112, 17), (70, 75, 112, 17), (76, 81, 112, 17), (82, 87, 112, 17), (88, 93, 112, 17), (94, 99, 112, 17), (100, 105, 112, 17), (106, 111, 112, 17), (0, 57, 117, 21), (58, 63, 117, 21), (64, 69, 117, 21), (70, 75, 117, 21), (76, 81, 117, 21), (82, 87, 117, 21), (88, 93, 117, 21), (94, 99, 117, 21), (100, 105, 117, 21), (106, 111, 117, 21)]) (L := [some (va_rf v0), some (.int v1), some (.int v2), none]) hfl (by decide +kernel) (by simp [lg_sl, gcat, gcI, gcL, gcF, gcD]) (by simp [gll, lv_args, gcat, gcI, gcL, gcF, gcD]) ?_
  intro p e s m args below meth c C hr ht
  have C : FC X p l s m args meth c cL_of 4 "ReleasetrainLaw" := C
  unfold w_L_ofq at hf
  refine gg_iload_n C dL_of_0 rfl ?_
  by_cases e1 : v2 = (0 : Int32)
  · rw [if_pos e1] at hf
    refine gg_tableIn (tgt := 52) C dL_of_1 (by rw [e1]; decide) (by rw [e1]; decide) (off := 51) (by rw [e1]; decide) (by decide) ?_
    refine gg_aload_n C dL_of_52 rfl ?_
    refine gg_iload_n C dL_of_53 rfl ?_
    refine gr_I (k' := 2) (n' := 12) (gk_V (ci := 7) (As := [.int v1]) (rest := []) C dL_of_54 rfl rfl tw_610 tw_611 tw_612 tw_25 tw_613 gd_X7_submit rfl ⟨by decide, by decide⟩ (by simp [gcat, gcI, gcL, gcF, gcD]) ⟨by decide, by decide⟩ hf (fun hf => m_X7_submit hfl hf)) rfl rfl (fun E g9 h9 => by
    by_cases e9 : E = "java/util/NoSuchElementException"
    · subst e9
      rw [if_pos rfl] at h9
      refine gx_catch (name := "java/util/NoSuchElementException") (pre := []) (x := ⟨0, 57, 112, 17⟩) (suf := [⟨58, 63, 112, 17⟩, ⟨64, 69, 112, 17⟩, ⟨70, 75, 112, 17⟩, ⟨76, 81, 112, 17⟩, ⟨82, 87, 112, 17⟩, ⟨88, 93, 112, 17⟩, ⟨94, 99, 112, 17⟩, ⟨100, 105, 112, 17⟩, ⟨106, 111, 112, 17⟩, ⟨0, 57, 117, 21⟩, ⟨58, 63, 117, 21⟩, ⟨64, 69, 117, 21⟩, ⟨70, 75, 117, 21⟩, ⟨76, 81, 117, 21⟩, ⟨82, 87, 117, 21⟩, ⟨88, 93, 117, 21⟩, ⟨94, 99, 117, 21⟩, ⟨100, 105, 117, 21⟩, ⟨106, 111, 117, 21⟩]) C ht (fun z hz => nomatch hz) (by decide) (by decide) tw_202 (by decide +kernel) (fun q9 => ?_)
      refine gg_astore_n (L' := [some (va_rf v0), some (.int v1), some (.int v2), some (va_rf (some q9))]) C dL_of_112 (Or.inr (Or.inr ⟨_, rfl, rfl⟩)) (by decide) rfl ?_
      refine gg_sipush C dL_of_113 (v := (-1001 : Int32)) (by decide) ?_
      exact gg_iret C hr (by decide) (by decide) dL_of_116 rfl h9
    rw [if_neg e9] at h9
    by_cases e9 : E = "java/lang/IllegalStateException"
    · subst e9
      rw [if_pos rfl] at h9
      refine gx_catch (name := "java/lang/IllegalStateException") (pre := [⟨0, 57, 112, 17⟩, ⟨58, 63, 112, 17⟩, ⟨64, 69, 112, 17⟩, ⟨70, 75, 112, 17⟩, ⟨76, 81, 112, 17⟩, ⟨82, 87, 112, 17⟩, ⟨88, 93, 112, 17⟩, ⟨94, 99, 112, 17⟩, ⟨100, 105, 112, 17⟩, ⟨106, 111, 112, 17⟩]) (x := ⟨0, 57, 117, 21⟩) (suf := [⟨58, 63, 117, 21⟩, ⟨64, 69, 117, 21⟩, ⟨70, 75, 117, 21⟩, ⟨76, 81, 117, 21⟩, ⟨82, 87, 117, 21⟩, ⟨88, 93, 117, 21⟩, ⟨94, 99, 117, 21⟩, ⟨100, 105, 117, 21⟩, ⟨106, 111, 117, 21⟩]) C ht (by intro z hz; simp only [List.mem_cons, List.not_mem_nil, or_false] at hz; rcases hz with rfl | rfl | rfl | rfl | rfl | rfl | rfl | rfl | rfl | rfl <;> first | exact Or.inl (by decide) | exact Or.inr ⟨by decide, "java/util/NoSuchElementException", tw_202, by decide +kernel⟩) (by decide) (by decide) tw_204 (by decide +kernel) (fun q9 => ?_)
      refine gg_astore_n (L' := [some (va_rf v0), some (.int v1), some (.int v2), some (va_rf (some q9))]) C dL_of_117 (Or.inr (Or.inr ⟨_, rfl, rfl⟩)) (by decide) rfl ?_
      refine gg_sipush C dL_of_118 (v := (-1003 : Int32)) (by decide) ?_
      exact gg_iret C hr (by decide) (by decide) dL_of_121 rfl h9
    rw [if_neg e9] at h9
    exact h9.elim) (fun i3 g2 hf => ?_)
    exact gg_iret C hr (by decide) (by decide) dL_of_57 rfl hf
  rw [if_neg e1] at hf
  by_cases e4 : v2 = (1 : Int32)
  · rw [if_pos e4] at hf
    refine gg_tableIn (tgt := 58) C dL_of_1 (by rw [e4]; decide) (by rw [e4]; decide) (off := 57) (by rw [e4]; decide) (by decide) ?_
    refine gg_aload_n C dL_of_58 rfl ?_
    refine gg_iload_n C dL_of_59 rfl ?_
    refine gr_I (k' := 2) (n' := 12) (gk_V (ci := 7) (As := [.int v1]) (rest := []) C dL_of_60 rfl rfl tw_623 tw_624 tw_625 tw_25 tw_626 gd_X7_appeal rfl ⟨by decide, by decide⟩ (by simp [gcat, gcI, gcL, gcF, gcD]) ⟨by decide, by decide⟩ hf (fun hf => m_X7_appeal hfl hf)) rfl rfl (fun E g9 h9 => by
    by_cases e9 : E = "java/util/NoSuchElementException"
    · subst e9
      rw [if_pos rfl] at h9
      refine gx_catch (name := "java/util/NoSuchElementException") (pre := [⟨0, 57, 112, 17⟩]) (x := ⟨58, 63, 112, 17⟩) (suf := [⟨64, 69, 112, 17⟩, ⟨70, 75, 112, 17⟩, ⟨76, 81, 112, 17⟩, ⟨82, 87, 112, 17⟩, ⟨88, 93, 112, 17⟩, ⟨94, 99, 112, 17⟩, ⟨100, 105, 112, 17⟩, ⟨106, 111, 112, 17⟩, ⟨0, 57, 117, 21⟩, ⟨58, 63, 117, 21⟩, ⟨64, 69, 117, 21⟩, ⟨70, 75, 117, 21⟩, ⟨76, 81, 117, 21⟩, ⟨82, 87, 117, 21⟩, ⟨88, 93, 117, 21⟩, ⟨94, 99, 117, 21⟩, ⟨100, 105, 117, 21⟩, ⟨106, 111, 117, 21⟩]) C ht (by intro z hz; simp only [List.mem_cons, List.not_mem_nil, or_false] at hz; rcases hz with rfl <;> first | exact Or.inl (by decide)) (by decide) (by decide) tw_202 (by decide +kernel) (fun q9 => ?_)
      refine gg_astore_n (L' := [some (va_rf v0), some (.int v1), some (.int v2), some (va_rf (some q9))]) C dL_of_112 (Or.inr (Or.inr ⟨_, rfl, rfl⟩)) (by decide) rfl ?_
      refine gg_sipush C dL_of_113 (v := (-1001 : Int32)) (by decide) ?_
      exact gg_iret C hr (by decide) (by decide) dL_of_116 rfl h9
    rw [if_neg e9] at h9
    by_cases e9 : E = "java/lang/IllegalStateException"
    · subst e9
      rw [if_pos rfl] at h9
      refine gx_catch (name := "java/lang/IllegalStateException") (pre := [⟨0, 57, 112, 17⟩, ⟨58, 63, 112, 17⟩, ⟨64, 69, 112, 17⟩, ⟨70, 75, 112, 17⟩, ⟨76, 81, 112, 17⟩, ⟨82, 87, 112, 17⟩, ⟨88, 93, 112, 17⟩, ⟨94, 99, 112, 17⟩, ⟨100, 105, 112, 17⟩, ⟨106, 111, 112, 17⟩, ⟨0, 57, 117, 21⟩]) (x := ⟨58, 63, 117, 21⟩) (suf := [⟨64, 69, 117, 21⟩, ⟨70, 75, 117, 21⟩, ⟨76, 81, 117, 21⟩, ⟨82, 87, 117, 21⟩, ⟨88, 93, 117, 21⟩, ⟨94, 99, 117, 21⟩, ⟨100, 105, 117, 21⟩, ⟨106, 111, 117, 21⟩]) C ht (by intro z hz; simp only [List.mem_cons, List.not_mem_nil, or_false] at hz; rcases hz with rfl | rfl | rfl | rfl | rfl | rfl | rfl | rfl | rfl | rfl | rfl <;> first | exact Or.inl (by decide) | exact Or.inr ⟨by decide, "java/util/NoSuchElementException", tw_202, by decide +kernel⟩) (by decide) (by decide) tw_204 (by decide +kernel) (fun q9 => ?_)
      refine gg_astore_n (L' := [some (va_rf v0), some (.int v1), some (.int v2), some (va_rf (some q9))]) C dL_of_117 (Or.inr (Or.inr ⟨_, rfl, rfl⟩)) (by decide) rfl ?_
      refine gg_sipush C dL_of_118 (v := (-1003 : Int32)) (by decide) ?_
      exact gg_iret C hr (by decide) (by decide) dL_of_121 rfl h9
    rw [if_neg e9] at h9
    exact h9.elim) (fun i6 g5 hf => ?_)
    exact gg_iret C hr (by decide) (by decide) dL_of_63 rfl hf
  rw [if_neg e4] at hf
  by_cases e7 : v2 = (2 : Int32)
  · rw [if_pos e7] at hf
    refine gg_tableIn (tgt := 64) C dL_of_1 (by rw [e7]; decide) (by rw [e7]; decide) (off := 63) (by rw [e7]; decide) (by decide) ?_
    refine gg_aload_n C dL_of_64 rfl ?_
    refine gg_iload_n C dL_of_65 rfl ?_
    refine gr_I (k' := 1) (n' := 6) (gk_V (ci := 7) (As := [.int v1]) (rest := []) C dL_of_66 rfl rfl tw_628 tw_629 tw_630 tw_25 tw_631 gd_X7_stateOf rfl ⟨by decide, by decide⟩ (by simp [gcat, gcI, gcL, gcF, gcD]) ⟨by decide, by decide⟩ hf (fun hf => m_X7_stateOf hfl hf)) rfl rfl (fun E g9 h9 => by
    by_cases e9 : E = "java/util/NoSuchElementException"
    · subst e9
      rw [if_pos rfl] at h9
      refine gx_catch (name := "java/util/NoSuchElementException") (pre := [⟨0, 57, 112, 17⟩, ⟨58, 63, 112, 17⟩]) (x := ⟨64, 69, 112, 17⟩) (suf := [⟨70, 75, 112, 17⟩, ⟨76, 81, 112, 17⟩, ⟨82, 87, 112, 17⟩, ⟨88, 93, 112, 17⟩, ⟨94, 99, 112, 17⟩, ⟨100, 105, 112, 17⟩, ⟨106, 111, 112, 17⟩, ⟨0, 57, 117, 21⟩, ⟨58, 63, 117, 21⟩, ⟨64, 69, 117, 21⟩, ⟨70, 75, 117, 21⟩, ⟨76, 81, 117, 21⟩, ⟨82, 87, 117, 21⟩, ⟨88, 93, 117, 21⟩, ⟨94, 99, 117, 21⟩, ⟨100, 105, 117, 21⟩, ⟨106, 111, 117, 21⟩]) C ht (by intro z hz; simp only [List.mem_cons, List.not_mem_nil, or_false] at hz; rcases hz with rfl | rfl <;> first | exact Or.inl (by decide)) (by decide) (by decide) tw_202 (by decide +kernel) (fun q9 => ?_)
      refine gg_astore_n (L' := [some (va_rf v0), some (.int v1), some (.int v2), some (va_rf (some q9))]) C dL_of_112 (Or.inr (Or.inr ⟨_, rfl, rfl⟩)) (by decide) rfl ?_
      refine gg_sipush C dL_of_113 (v := (-1001 : Int32)) (by decide) ?_
      exact gg_iret C hr (by decide) (by decide) dL_of_116 rfl h9
    rw [if_neg e9] at h9
    by_cases e9 : E = "java/lang/IllegalStateException"
    · subst e9
      rw [if_pos rfl] at h9
      refine gx_catch (name := "java/lang/IllegalStateException") (pre := [⟨0, 57, 112, 17⟩, ⟨58, 63, 112, 17⟩, ⟨64, 69, 112, 17⟩, ⟨70, 75, 112, 17⟩, ⟨76, 81, 112, 17⟩, ⟨82, 87, 112, 17⟩, ⟨88, 93, 112, 17⟩, ⟨94, 99, 112, 17⟩, ⟨100, 105, 112, 17⟩, ⟨106, 111, 112, 17⟩, ⟨0, 57, 117, 21⟩, ⟨58, 63, 117, 21⟩]) (x := ⟨64, 69, 117, 21⟩) (suf := [⟨70, 75, 117, 21⟩, ⟨76, 81, 117, 21⟩, ⟨82, 87, 117, 21⟩, ⟨88, 93, 117, 21⟩, ⟨94, 99, 117, 21⟩, ⟨100, 105, 117, 21⟩, ⟨106, 111, 117, 21⟩]) C ht (by intro z hz; simp only [List.mem_cons, List.not_mem_nil, or_false] at hz; rcases hz with rfl | rfl | rfl | rfl | rfl | rfl | rfl | rfl | rfl | rfl | rfl | rfl <;> first | exact Or.inl (by decide) | exact Or.inr ⟨by decide, "java/util/NoSuchElementException", tw_202, by decide +kernel⟩) (by decide) (by decide) tw_204 (by decide +kernel) (fun q9 => ?_)
      refine gg_astore_n (L' := [some (va_rf v0), some (.int v1), some (.int v2), some (va_rf (some q9))]) C dL_of_117 (Or.inr (Or.inr ⟨_, rfl, rfl⟩)) (by decide) rfl ?_
      refine gg_sipush C dL_of_118 (v := (-1003 : Int32)) (by decide) ?_
      exact gg_iret C hr (by decide) (by decide) dL_of_121 rfl h9
    rw [if_neg e9] at h9
    exact h9.elim) (fun i9 g8 hf => ?_)
    exact gg_iret C hr (by decide) (by decide) dL_of_69 rfl hf
  rw [if_neg e7] at hf
  by_cases e10 : v2 = (3 : Int32)
  · rw [if_pos e10] at hf
    refine gg_tableIn (tgt := 70) C dL_of_1 (by rw [e10]; decide) (by rw [e10]; decide) (off := 69) (by rw [e10]; decide) (by decide) ?_
    refine gg_aload_n C dL_of_70 rfl ?_
    refine gg_iload_n C dL_of_71 rfl ?_
    refine gr_I (k' := 1) (n' := 6) (gk_V (ci := 7) (As := [.int v1]) (rest := []) C dL_of_72 rfl rfl tw_632 tw_633 tw_634 tw_25 tw_635 gd_X7_percentageOf rfl ⟨by decide, by decide⟩ (by simp [gcat, gcI, gcL, gcF, gcD]) ⟨by decide, by decide⟩ hf (fun hf => m_X7_percentageOf hfl hf)) rfl rfl (fun E g9 h9 => by
    by_cases e9 : E = "java/util/NoSuchElementException"
    · subst e9
      rw [if_pos rfl] at h9
      refine gx_catch (name := "java/util/NoSuchElementException") (pre := [⟨0, 57, 112, 17⟩, ⟨58, 63, 112, 17⟩, ⟨64, 69, 112, 17⟩]) (x := ⟨70, 75, 112, 17⟩) (suf := [⟨76, 81, 112, 17⟩, ⟨82, 87, 112, 17⟩, ⟨88, 93, 112, 17⟩, ⟨94, 99, 112, 17⟩, ⟨100, 105, 112, 17⟩, ⟨106, 111, 112, 17⟩, ⟨0, 57, 117, 21⟩, ⟨58, 63, 117, 21⟩, ⟨64, 69, 117, 21⟩, ⟨70, 75, 117, 21⟩, ⟨76, 81, 117, 21⟩, ⟨82, 87, 117, 21⟩, ⟨88, 93, 117, 21⟩, ⟨94, 99, 117, 21⟩, ⟨100, 105, 117, 21⟩, ⟨106, 111, 117, 21⟩]) C ht (by intro z hz; simp only [List.mem_cons, List.not_mem_nil, or_false] at hz; rcases hz with rfl | rfl | rfl <;> first | exact Or.inl (by decide)) (by decide) (by decide) tw_202 (by decide +kernel) (fun q9 => ?_)
      refine gg_astore_n (L' := [some (va_rf v0), some (.int v1), some (.int v2), some (va_rf (some q9))]) C dL_of_112 (Or.inr (Or.inr ⟨_, rfl, rfl⟩)) (by decide) rfl ?_
      refine gg_sipush C dL_of_113 (v := (-1001 : Int32)) (by decide) ?_
      exact gg_iret C hr (by decide) (by decide) dL_of_116 rfl h9
    rw [if_neg e9] at h9
    by_cases e9 : E = "java/lang/IllegalStateException"
    · subst e9
      rw [if_pos rfl] at h9
      refine gx_catch (name := "java/lang/IllegalStateException") (pre := [⟨0, 57, 112, 17⟩, ⟨58, 63, 112, 17⟩, ⟨64, 69, 112, 17⟩, ⟨70, 75, 112, 17⟩, ⟨76, 81, 112, 17⟩, ⟨82, 87, 112, 17⟩, ⟨88, 93, 112, 17⟩, ⟨94, 99, 112, 17⟩, ⟨100, 105, 112, 17⟩, ⟨106, 111, 112, 17⟩, ⟨0, 57, 117, 21⟩, ⟨58, 63, 117, 21⟩, ⟨64, 69, 117, 21⟩]) (x := ⟨70, 75, 117, 21⟩) (suf := [⟨76, 81, 117, 21⟩, ⟨82, 87, 117, 21⟩, ⟨88, 93, 117, 21⟩, ⟨94, 99, 117, 21⟩, ⟨100, 105, 117, 21⟩, ⟨106, 111, 117, 21⟩]) C ht (by intro z hz; simp only [List.mem_cons, List.not_mem_nil, or_false] at hz; rcases hz with rfl | rfl | rfl | rfl | rfl | rfl | rfl | rfl | rfl | rfl | rfl | rfl | rfl <;> first | exact Or.inl (by decide) | exact Or.inr ⟨by decide, "java/util/NoSuchElementException", tw_202, by decide +kernel⟩) (by decide) (by decide) tw_204 (by decide +kernel) (fun q9 => ?_)
      refine gg_astore_n (L' := [some (va_rf v0), some (.int v1), some (.int v2), some (va_rf (some q9))]) C dL_of_117 (Or.inr (Or.inr ⟨_, rfl, rfl⟩)) (by decide) rfl ?_
      refine gg_sipush C dL_of_118 (v := (-1003 : Int32)) (by decide) ?_
      exact gg_iret C hr (by decide) (by decide) dL_of_121 rfl h9
    rw [if_neg e9] at h9
    exact h9.elim) (fun i12 g11 hf => ?_)
    exact gg_iret C hr (by decide) (by decide) dL_of_75 rfl hf
  rw [if_neg e10] at hf
  by_cases e13 : v2 = (4 : Int32)
  · rw [if_pos e13] at hf
    refine gg_tableIn (tgt := 76) C dL_of_1 (by rw [e13]; decide) (by rw [e13]; decide) (off := 75) (by rw [e13]; decide) (by decide) ?_
    refine gg_aload_n C dL_of_76 rfl ?_
    refine gg_iload_n C dL_of_77 rfl ?_
    refine gr_I (k' := 2) (n' := 12) (gk_V (ci := 7) (As := [.int v1]) (rest := []) C dL_of_78 rfl rfl tw_636 tw_637 tw_638 tw_25 tw_639 gd_X7_holdOf rfl ⟨by decide, by decide⟩ (by simp [gcat, gcI, gcL, gcF, gcD]) ⟨by decide, by decide⟩ hf (fun hf => m_X7_holdOf hfl hf)) rfl rfl (fun E g9 h9 => by
    by_cases e9 : E = "java/util/NoSuchElementException"
    · subst e9
      rw [if_pos rfl] at h9
      refine gx_catch (name := "java/util/NoSuchElementException") (pre := [⟨0, 57, 112, 17⟩, ⟨58, 63, 112, 17⟩, ⟨64, 69, 112, 17⟩, ⟨70, 75, 112, 17⟩]) (x := ⟨76, 81, 112, 17⟩) (suf := [⟨82, 87, 112, 17⟩, ⟨88, 93, 112, 17⟩, ⟨94, 99, 112, 17⟩, ⟨100, 105, 112, 17⟩, ⟨106, 111, 112, 17⟩, ⟨0, 57, 117, 21⟩, ⟨58, 63, 117, 21⟩, ⟨64, 69, 117, 21⟩, ⟨70, 75, 117, 21⟩, ⟨76, 81, 117, 21⟩, ⟨82, 87, 117, 21⟩, ⟨88, 93, 117, 21⟩, ⟨94, 99, 117, 21⟩, ⟨100, 105, 117, 21⟩, ⟨106, 111, 117, 21⟩]) C ht (by intro z hz; simp only [List.mem_cons, List.not_mem_nil, or_false] at hz; rcases hz with rfl | rfl | rfl | rfl <;> first | exact Or.inl (by decide)) (by decide) (by decide) tw_202 (by decide +kernel) (fun q9 => ?_)
      refine gg_astore_n (L' := [some (va_rf v0), some (.int v1), some (.int v2), some (va_rf (some q9))]) C dL_of_112 (Or.inr (Or.inr ⟨_, rfl, rfl⟩)) (by decide) rfl ?_
      refine gg_sipush C dL_of_113 (v := (-1001 : Int32)) (by decide) ?_
      exact gg_iret C hr (by decide) (by decide) dL_of_116 rfl h9
    rw [if_neg e9] at h9
    by_cases e9 : E = "java/lang/IllegalStateException"
    · subst e9
      rw [if_pos rfl] at h9
      refine gx_catch (name := "java/lang/IllegalStateException") (pre := [⟨0, 57, 112, 17⟩, ⟨58, 63, 112, 17⟩, ⟨64, 69, 112, 17⟩, ⟨70, 75, 112, 17⟩, ⟨76, 81, 112, 17⟩, ⟨82, 87, 112, 17⟩, ⟨88, 93, 112, 17⟩, ⟨94, 99, 112, 17⟩, ⟨100, 105, 112, 17⟩, ⟨106, 111, 112, 17⟩, ⟨0, 57, 117, 21⟩, ⟨58, 63, 117, 21⟩, ⟨64, 69, 117, 21⟩, ⟨70, 75, 117, 21⟩]) (x := ⟨76, 81, 117, 21⟩) (suf := [⟨82, 87, 117, 21⟩, ⟨88, 93, 117, 21⟩, ⟨94, 99, 117, 21⟩, ⟨100, 105, 117, 21⟩, ⟨106, 111, 117, 21⟩]) C ht (by intro z hz; simp only [List.mem_cons, List.not_mem_nil, or_false] at hz; rcases hz with rfl | rfl | rfl | rfl | rfl | rfl | rfl | rfl | rfl | rfl | rfl | rfl | rfl | rfl <;> first | exact Or.inl (by decide) | exact Or.inr ⟨by decide, "java/util/NoSuchElementException", tw_202, by decide +kernel⟩) (by decide) (by decide) tw_204 (by decide +kernel) (fun q9 => ?_)
      refine gg_astore_n (L' := [some (va_rf v0), some (.int v1), some (.int v2), some (va_rf (some q9))]) C dL_of_117 (Or.inr (Or.inr ⟨_, rfl, rfl⟩)) (by decide) rfl ?_
      refine gg_sipush C dL_of_118 (v := (-1003 : Int32)) (by decide) ?_
      exact gg_iret C hr (by decide) (by decide) dL_of_121 rfl h9
    rw [if_neg e9] at h9
    exact h9.elim) (fun i15 g14 hf => ?_)
    exact gg_iret C hr (by decide) (by decide) dL_of_81 rfl hf
  rw [if_neg e13] at hf
  by_cases e16 : v2 = (5 : Int32)
  · rw [if_pos e16] at hf
    refine gg_tableIn (tgt := 82) C dL_of_1 (by rw [e16]; decide) (by rw [e16]; decide) (off := 81) (by rw [e16]; decide) (by decide) ?_
    refine gg_aload_n C dL_of_82 rfl ?_
    refine gg_iload_n C dL_of_83 rfl ?_
    refine gr_I (k' := 1) (n' := 6) (gk_V (ci := 7) (As := [.int v1]) (rest := []) C dL_of_84 rfl rfl tw_657 tw_658 tw_659 tw_25 tw_660 gd_X7_reach rfl ⟨by decide, by decide⟩ (by simp [gcat, gcI, gcL, gcF, gcD]) ⟨by decide, by decide⟩ hf (fun hf => m_X7_reach hfl hf)) rfl rfl (fun E g9 h9 => by
    by_cases e9 : E = "java/util/NoSuchElementException"
    · subst e9
      rw [if_pos rfl] at h9
      refine gx_catch (name := "java/util/NoSuchElementException") (pre := [⟨0, 57, 112, 17⟩, ⟨58, 63, 112, 17⟩, ⟨64, 69, 112, 17⟩, ⟨70, 75, 112, 17⟩, ⟨76, 81, 112, 17⟩]) (x := ⟨82, 87, 112, 17⟩) (suf := [⟨88, 93, 112, 17⟩, ⟨94, 99, 112, 17⟩, ⟨100, 105, 112, 17⟩, ⟨106, 111, 112, 17⟩, ⟨0, 57, 117, 21⟩, ⟨58, 63, 117, 21⟩, ⟨64, 69, 117, 21⟩, ⟨70, 75, 117, 21⟩, ⟨76, 81, 117, 21⟩, ⟨82, 87, 117, 21⟩, ⟨88, 93, 117, 21⟩, ⟨94, 99, 117, 21⟩, ⟨100, 105, 117, 21⟩, ⟨106, 111, 117, 21⟩]) C ht (by intro z hz; simp only [List.mem_cons, List.not_mem_nil, or_false] at hz; rcases hz with rfl | rfl | rfl | rfl | rfl <;> first | exact Or.inl (by decide)) (by decide) (by decide) tw_202 (by decide +kernel) (fun q9 => ?_)
      refine gg_astore_n (L' := [some (va_rf v0), some (.int v1), some (.int v2), some (va_rf (some q9))]) C dL_of_112 (Or.inr (Or.inr ⟨_, rfl, rfl⟩)) (by decide) rfl ?_
      refine gg_sipush C dL_of_113 (v := (-1001 : Int32)) (by decide) ?_
      exact gg_iret C hr (by decide) (by decide) dL_of_116 rfl h9
    rw [if_neg e9] at h9
    by_cases e9 : E = "java/lang/IllegalStateException"
    · subst e9
      rw [if_pos rfl] at h9
      refine gx_catch (name := "java/lang/IllegalStateException") (pre := [⟨0, 57, 112, 17⟩, ⟨58, 63, 112, 17⟩, ⟨64, 69, 112, 17⟩, ⟨70, 75, 112, 17⟩, ⟨76, 81, 112, 17⟩, ⟨82, 87, 112, 17⟩, ⟨88, 93, 112, 17⟩, ⟨94, 99, 112, 17⟩, ⟨100, 105, 112, 17⟩, ⟨106, 111, 112, 17⟩, ⟨0, 57, 117, 21⟩, ⟨58, 63, 117, 21⟩, ⟨64, 69, 117, 21⟩, ⟨70, 75, 117, 21⟩, ⟨76, 81, 117, 21⟩]) (x := ⟨82, 87, 117, 21⟩) (suf := [⟨88, 93, 117, 21⟩, ⟨94, 99, 117, 21⟩, ⟨100, 105, 117, 21⟩, ⟨106, 111, 117, 21⟩]) C ht (by intro z hz; simp only [List.mem_cons, List.not_mem_nil, or_false] at hz; rcases hz with rfl | rfl | rfl | rfl | rfl | rfl | rfl | rfl | rfl | rfl | rfl | rfl | rfl | rfl | rfl <;> first | exact Or.inl (by decide) | exact Or.inr ⟨by decide, "java/util/NoSuchElementException", tw_202, by decide +kernel⟩) (by decide) (by decide) tw_204 (by decide +kernel) (fun q9 => ?_)
      refine gg_astore_n (L' := [some (va_rf v0), some (.int v1), some (.int v2), some (va_rf (some q9))]) C dL_of_117 (Or.inr (Or.inr ⟨_, rfl, rfl⟩)) (by decide) rfl ?_
      refine gg_sipush C dL_of_118 (v := (-1003 : Int32)) (by decide) ?_
      exact gg_iret C hr (by decide) (by decide) dL_of_121 rfl h9
    rw [if_neg e9] at h9
    exact h9.elim) (fun i18 g17 hf => ?_)
    exact gg_iret C hr (by decide) (by decide) dL_of_87 rfl hf
  rw [if_neg e16] at hf
  by_cases e19 : v2 = (6 : Int32)
  · rw [if_pos e19] at hf
    refine gg_tableIn (tgt := 88) C dL_of_1 (by rw [e19]; decide) (by rw [e19]; decide) (off := 87) (by rw [e19]; decide) (by decide) ?_
    refine gg_aload_n C dL_of_88 rfl ?_
    refine gg_iload_n C dL_of_89 rfl ?_
    refine gr_I (k' := 1) (n' := 6) (gk_V (ci := 7) (As := [.int v1]) (rest := []) C dL_of_90 rfl rfl tw_677 tw_678 tw_679 tw_25 tw_680 gd_X7_reachByDevices rfl ⟨by decide, by decide⟩ (by simp [gcat, gcI, gcL, gcF, gcD]) ⟨by decide, by decide⟩ hf (fun hf => m_X7_reachByDevices hfl hf)) rfl rfl (fun E g9 h9 => by
    by_cases e9 : E = "java/util/NoSuchElementException"
    · subst e9
      rw [if_pos rfl] at h9
      refine gx_catch (name := "java/util/NoSuchElementException") (pre := [⟨0, 57, 112, 17⟩, ⟨58, 63, 112, 17⟩, ⟨64, 69, 112, 17⟩, ⟨70, 75, 112, 17⟩, ⟨76, 81, 112, 17⟩, ⟨82, 87, 112, 17⟩]) (x := ⟨88, 93, 112, 17⟩) (suf := [⟨94, 99, 112, 17⟩, ⟨100, 105, 112, 17⟩, ⟨106, 111, 112, 17⟩, ⟨0, 57, 117, 21⟩, ⟨58, 63, 117, 21⟩, ⟨64, 69, 117, 21⟩, ⟨70, 75, 117, 21⟩, ⟨76, 81, 117, 21⟩, ⟨82, 87, 117, 21⟩, ⟨88, 93, 117, 21⟩, ⟨94, 99, 117, 21⟩, ⟨100, 105, 117, 21⟩, ⟨106, 111, 117, 21⟩]) C ht (by intro z hz; simp only [List.mem_cons, List.not_mem_nil, or_false] at hz; rcases hz with rfl | rfl | rfl | rfl | rfl | rfl <;> first | exact Or.inl (by decide)) (by decide) (by decide) tw_202 (by decide +kernel) (fun q9 => ?_)
      refine gg_astore_n (L' := [some (va_rf v0), some (.int v1), some (.int v2), some (va_rf (some q9))]) C dL_of_112 (Or.inr (Or.inr ⟨_, rfl, rfl⟩)) (by decide) rfl ?_
      refine gg_sipush C dL_of_113 (v := (-1001 : Int32)) (by decide) ?_
      exact gg_iret C hr (by decide) (by decide) dL_of_116 rfl h9
    rw [if_neg e9] at h9
    by_cases e9 : E = "java/lang/IllegalStateException"
    · subst e9
      rw [if_pos rfl] at h9
      refine gx_catch (name := "java/lang/IllegalStateException") (pre := [⟨0, 57, 112, 17⟩, ⟨58, 63, 112, 17⟩, ⟨64, 69, 112, 17⟩, ⟨70, 75, 112, 17⟩, ⟨76, 81, 112, 17⟩, ⟨82, 87, 112, 17⟩, ⟨88, 93, 112, 17⟩, ⟨94, 99, 112, 17⟩, ⟨100, 105, 112, 17⟩, ⟨106, 111, 112, 17⟩, ⟨0, 57, 117, 21⟩, ⟨58, 63, 117, 21⟩, ⟨64, 69, 117, 21⟩, ⟨70, 75, 117, 21⟩, ⟨76, 81, 117, 21⟩, ⟨82, 87, 117, 21⟩]) (x := ⟨88, 93, 117, 21⟩) (suf := [⟨94, 99, 117, 21⟩, ⟨100, 105, 117, 21⟩, ⟨106, 111, 117, 21⟩]) C ht (by intro z hz; simp only [List.mem_cons, List.not_mem_nil, or_false] at hz; rcases hz with rfl | rfl | rfl | rfl | rfl | rfl | rfl | rfl | rfl | rfl | rfl | rfl | rfl | rfl | rfl | rfl <;> first | exact Or.inl (by decide) | exact Or.inr ⟨by decide, "java/util/NoSuchElementException", tw_202, by decide +kernel⟩) (by decide) (by decide) tw_204 (by decide +kernel) (fun q9 => ?_)
      refine gg_astore_n (L' := [some (va_rf v0), some (.int v1), some (.int v2), some (va_rf (some q9))]) C dL_of_117 (Or.inr (Or.inr ⟨_, rfl, rfl⟩)) (by decide) rfl ?_
      refine gg_sipush C dL_of_118 (v := (-1003 : Int32)) (by decide) ?_
      exact gg_iret C hr (by decide) (by decide) dL_of_121 rfl h9
    rw [if_neg e9] at h9
    exact h9.elim) (fun i21 g20 hf => ?_)
    exact gg_iret C hr (by decide) (by decide) dL_of_93 rfl hf
  rw [if_neg e19] at hf
  by_cases e22 : v2 = (7 : Int32)
  · rw [if_pos e22] at hf
    refine gg_tableIn (tgt := 94) C dL_of_1 (by rw [e22]; decide) (by rw [e22]; decide) (off := 93) (by rw [e22]; decide) (by decide) ?_
    refine gg_aload_n C dL_of_94 rfl ?_
    refine gg_iload_n C dL_of_95 rfl ?_
    refine gr_I (k' := 1) (n' := 6) (gk_V (ci := 7) (As := [.int v1]) (rest := []) C dL_of_96 rfl rfl tw_689 tw_690 tw_691 tw_25 tw_692 gd_X7_devicesWith rfl ⟨by decide, by decide⟩ (by simp [gcat, gcI, gcL, gcF, gcD]) ⟨by decide, by decide⟩ hf (fun hf => m_X7_devicesWith hfl hf)) rfl rfl (fun E g9 h9 => by
    by_cases e9 : E = "java/util/NoSuchElementException"
    · subst e9
      rw [if_pos rfl] at h9
      refine gx_catch (name := "java/util/NoSuchElementException") (pre := [⟨0, 57, 112, 17⟩, ⟨58, 63, 112, 17⟩, ⟨64, 69, 112, 17⟩, ⟨70, 75, 112, 17⟩, ⟨76, 81, 112, 17⟩, ⟨82, 87, 112, 17⟩, ⟨88, 93, 112, 17⟩]) (x := ⟨94, 99, 112, 17⟩) (suf := [⟨100, 105, 112, 17⟩, ⟨106, 111, 112, 17⟩, ⟨0, 57, 117, 21⟩, ⟨58, 63, 117, 21⟩, ⟨64, 69, 117, 21⟩, ⟨70, 75, 117, 21⟩, ⟨76, 81, 117, 21⟩, ⟨82, 87, 117, 21⟩, ⟨88, 93, 117, 21⟩, ⟨94, 99, 117, 21⟩, ⟨100, 105, 117, 21⟩, ⟨106, 111, 117, 21⟩]) C ht (by intro z hz; simp only [List.mem_cons, List.not_mem_nil, or_false] at hz; rcases hz with rfl | rfl | rfl | rfl | rfl | rfl | rfl <;> first | exact Or.inl (by decide)) (by decide) (by decide) tw_202 (by decide +kernel) (fun q9 => ?_)
      refine gg_astore_n (L' := [some (va_rf v0), some (.int v1), some (.int v2), some (va_rf (some q9))]) C dL_of_112 (Or.inr (Or.inr ⟨_, rfl, rfl⟩)) (by decide) rfl ?_
      refine gg_sipush C dL_of_113 (v := (-1001 : Int32)) (by decide) ?_
      exact gg_iret C hr (by decide) (by decide) dL_of_116 rfl h9
    rw [if_neg e9] at h9
    by_cases e9 : E = "java/lang/IllegalStateException"
    · subst e9
      rw [if_pos rfl] at h9
      refine gx_catch (name := "java/lang/IllegalStateException") (pre := [⟨0, 57, 112, 17⟩, ⟨58, 63, 112, 17⟩, ⟨64, 69, 112, 17⟩, ⟨70, 75, 112, 17⟩, ⟨76, 81, 112, 17⟩, ⟨82, 87, 112, 17⟩, ⟨88, 93, 112, 17⟩, ⟨94, 99, 112, 17⟩, ⟨100, 105, 112, 17⟩, ⟨106, 111, 112, 17⟩, ⟨0, 57, 117, 21⟩, ⟨58, 63, 117, 21⟩, ⟨64, 69, 117, 21⟩, ⟨70, 75, 117, 21⟩, ⟨76, 81, 117, 21⟩, ⟨82, 87, 117, 21⟩, ⟨88, 93, 117, 21⟩]) (x := ⟨94, 99, 117, 21⟩) (suf := [⟨100, 105, 117, 21⟩, ⟨106, 111, 117, 21⟩]) C ht (by intro z hz; simp only [List.mem_cons, List.not_mem_nil, or_false] at hz; rcases hz with rfl | rfl | rfl | rfl | rfl | rfl | rfl | rfl | rfl | rfl | rfl | rfl | rfl | rfl | rfl | rfl | rfl <;> first | exact Or.inl (by decide) | exact Or.inr ⟨by decide, "java/util/NoSuchElementException", tw_202, by decide +kernel⟩) (by decide) (by decide) tw_204 (by decide +kernel) (fun q9 => ?_)
      refine gg_astore_n (L' := [some (va_rf v0), some (.int v1), some (.int v2), some (va_rf (some q9))]) C dL_of_117 (Or.inr (Or.inr ⟨_, rfl, rfl⟩)) (by decide) rfl ?_
      refine gg_sipush C dL_of_118 (v := (-1003 : Int32)) (by decide) ?_
      exact gg_iret C hr (by decide) (by decide) dL_of_121 rfl h9
    rw [if_neg e9] at h9
    exact h9.elim) (fun i24 g23 hf => ?_)
    exact gg_iret C hr (by decide) (by decide) dL_of_99 rfl hf
  rw [if_neg e22] at hf
  by_cases e25 : v2 = (8 : Int32)
  · rw [if_pos e25] at hf
    refine gg_tableIn (tgt := 100) C dL_of_1 (by rw [e25]; decide) (by rw [e25]; decide) (off := 99) (by rw [e25]; decide) (by decide) ?_
    refine gg_aload_n C dL_of_100 rfl ?_
    refine gg_iload_n C dL_of_101 rfl ?_
    refine gr_I (k' := 1) (n' := 6) (gk_V (ci := 7) (As := [.int v1]) (rest := []) C dL_of_102 rfl rfl tw_693 tw_694 tw_695 tw_25 tw_696 gd_X7_installs rfl ⟨by decide, by decide⟩ (by simp [gcat, gcI, gcL, gcF, gcD]) ⟨by decide, by decide⟩ hf (fun hf => m_X7_installs hfl hf)) rfl rfl (fun E g9 h9 => by
    by_cases e9 : E = "java/util/NoSuchElementException"
    · subst e9
      rw [if_pos rfl] at h9
      refine gx_catch (name := "java/util/NoSuchElementException") (pre := [⟨0, 57, 112, 17⟩, ⟨58, 63, 112, 17⟩, ⟨64, 69, 112, 17⟩, ⟨70, 75, 112, 17⟩, ⟨76, 81, 112, 17⟩, ⟨82, 87, 112, 17⟩, ⟨88, 93, 112, 17⟩, ⟨94, 99, 112, 17⟩]) (x := ⟨100, 105, 112, 17⟩) (suf := [⟨106, 111, 112, 17⟩, ⟨0, 57, 117, 21⟩, ⟨58, 63, 117, 21⟩, ⟨64, 69, 117, 21⟩, ⟨70, 75, 117, 21⟩, ⟨76, 81, 117, 21⟩, ⟨82, 87, 117, 21⟩, ⟨88, 93, 117, 21⟩, ⟨94, 99, 117, 21⟩, ⟨100, 105, 117, 21⟩, ⟨106, 111, 117, 21⟩]) C ht (by intro z hz; simp only [List.mem_cons, List.not_mem_nil, or_false] at hz; rcases hz with rfl | rfl | rfl | rfl | rfl | rfl | rfl | rfl <;> first | exact Or.inl (by decide)) (by decide) (by decide) tw_202 (by decide +kernel) (fun q9 => ?_)
      refine gg_astore_n (L' := [some (va_rf v0), some (.int v1), some (.int v2), some (va_rf (some q9))]) C dL_of_112 (Or.inr (Or.inr ⟨_, rfl, rfl⟩)) (by decide) rfl ?_
      refine gg_sipush C dL_of_113 (v := (-1001 : Int32)) (by decide) ?_
      exact gg_iret C hr (by decide) (by decide) dL_of_116 rfl h9
    rw [if_neg e9] at h9
    by_cases e9 : E = "java/lang/IllegalStateException"
    · subst e9
      rw [if_pos rfl] at h9
      refine gx_catch (name := "java/lang/IllegalStateException") (pre := [⟨0, 57, 112, 17⟩, ⟨58, 63, 112, 17⟩, ⟨64, 69, 112, 17⟩, ⟨70, 75, 112, 17⟩, ⟨76, 81, 112, 17⟩, ⟨82, 87, 112, 17⟩, ⟨88, 93, 112, 17⟩, ⟨94, 99, 112, 17⟩, ⟨100, 105, 112, 17⟩, ⟨106, 111, 112, 17⟩, ⟨0, 57, 117, 21⟩, ⟨58, 63, 117, 21⟩, ⟨64, 69, 117, 21⟩, ⟨70, 75, 117, 21⟩, ⟨76, 81, 117, 21⟩, ⟨82, 87, 117, 21⟩, ⟨88, 93, 117, 21⟩, ⟨94, 99, 117, 21⟩]) (x := ⟨100, 105, 117, 21⟩) (suf := [⟨106, 111, 117, 21⟩]) C ht (by intro z hz; simp only [List.mem_cons, List.not_mem_nil, or_false] at hz; rcases hz with rfl | rfl | rfl | rfl | rfl | rfl | rfl | rfl | rfl | rfl | rfl | rfl | rfl | rfl | rfl | rfl | rfl | rfl <;> first | exact Or.inl (by decide) | exact Or.inr ⟨by decide, "java/util/NoSuchElementException", tw_202, by decide +kernel⟩) (by decide) (by decide) tw_204 (by decide +kernel) (fun q9 => ?_)
      refine gg_astore_n (L' := [some (va_rf v0), some (.int v1), some (.int v2), some (va_rf (some q9))]) C dL_of_117 (Or.inr (Or.inr ⟨_, rfl, rfl⟩)) (by decide) rfl ?_
      refine gg_sipush C dL_of_118 (v := (-1003 : Int32)) (by decide) ?_
      exact gg_iret C hr (by decide) (by decide) dL_of_121 rfl h9
    rw [if_neg e9] at h9
    exact h9.elim) (fun i27 g26 hf => ?_)
    exact gg_iret C hr (by decide) (by decide) dL_of_105 rfl hf
  rw [if_neg e25] at hf
  refine gg_tableOut (tgt := 106) C dL_of_1 (by have h0 := sw_ne (z := 0) (by decide) e1; have h1 := sw_ne (z := 1) (by decide) e4; have h2 := sw_ne (z := 2) (by decide) e7; have h3 := sw_ne (z := 3) (by decide) e10; have h4 := sw_ne (z := 4) (by decide) e13; have h5 := sw_ne (z := 5) (by decide) e16; have h6 := sw_ne (z := 6) (by decide) e19; have h7 := sw_ne (z := 7) (by decide) e22; have h8 := sw_ne (z := 8) (by decide) e25; omega) (by decide) ?_
  exact hf.elim

def w_L_builds_b23 (X : Cx) (post : Int32 → GM → Prop) (px : String → GM → Prop)  (l1 : Int32) (g : GM) : Prop :=
  post l1 g
def w_L_builds_l2 (X : Cx) (post : Int32 → GM → Prop) (px : String → GM → Prop)  : Nat → Option Nat → Int32 → GM → Prop
  | 0, _, _, _ => False
  | f + 1, l0, l1, g => (if (10 : Int32) ≤ l1 then w_L_builds_b23 X post px l1 g else w_L_ofq X (fun (i2 : Int32) (g1 : GM) => (if i2 < 0 then w_L_builds_b23 X post px l1 g1 else w_L_builds_l2 X post px f l0 (l1 + 1) g1)) (fun _ _ => False) l0 l1 (3 : Int32) g)
def w_L_builds (X : Cx) (post : Int32 → GM → Prop) (px : String → GM → Prop) (v0 : Option Nat) (g : GM) : Prop :=
  w_L_builds_l2 X post px 11 v0 (0 : Int32) g
abbrev rm_L_builds : Room := { frames := 9, cells := 22, slots := 132, locals := 151 }
set_option maxHeartbeats 16000000 in
set_option maxRecDepth 100000 in
theorem m_L_builds {X : Cx} {l : Launch} (hfl : l.stackTraces = false) {post : Int32 → GM → Prop} {px : String → GM → Prop} {v0 : Option Nat} {g : GM} (hf : w_L_builds X post px v0 g) : gMet X l yL_builds cL_builds 2 (some .int) rm_L_builds [va_rf v0] g (qI X post) px := by
  refine gg_enter (L := [some (va_rf v0), none]) hfl (by decide +kernel) (by simp [lg_sl, gcat, gcI, gcL, gcF, gcD]) (by simp [gll, lv_args, gcat, gcI, gcL, gcF, gcD]) ?_
  intro p e s m args below meth c C hr ht hm
  have C : FC X p l s m args meth c cL_builds 2 "ReleasetrainLaw" := C
  have hb_23 : ∀ (z zn : Nat) (hz : z + (0) ≤ 22) (hzn : zn + (0) ≤ 132) (l1 : Int32) (g : GM), w_L_builds_b23 X post px  l1 g → GG X p l e rm_L_builds s m args below meth c 2 (vx_MQ below (qI X post) (gXC X px) args s rm_L_builds.cells rm_L_builds.slots (gA X)) z zn 23 [none, some (.int l1)] [] g := by
    intro  z zn hz hzn l1 g hf
    unfold w_L_builds_b23 at hf
    refine gg_iload_n C dL_builds_23 rfl ?_
    exact gg_iret C hr (by show z ≤ 22; first | exact ar_l0 (z := z) hz rfl | omega) (by show zn ≤ 132; first | exact ar_l0 (z := zn) hzn rfl | omega) dL_builds_24 rfl hf
  have hb_2 : ∀ (f z zn : Nat) (hz : z + (f * 2 + 0) ≤ 22) (hzn : zn + (f * 12 + 0) ≤ 132) (l0 : Option Nat) (l1 : Int32) (g : GM), w_L_builds_l2 X post px  f l0 l1 g → GG X p l e rm_L_builds s m args below meth c 2 (vx_MQ below (qI X post) (gXC X px) args s rm_L_builds.cells rm_L_builds.slots (gA X)) z zn 2 [some (va_rf l0), some (.int l1)] [] g := by
    intro  f
    induction f with
    | zero => intro z zn hz hzn l0 l1 g hf; exact (show False from hf).elim
    | succ f ih =>
      intro z zn hz hzn l0 l1 g hf
      rw [w_L_builds_l2] at hf
      refine gg_iload_n C dL_builds_2 rfl ?_
      refine gg_bipush C dL_builds_3 (v := (10 : Int32)) (by decide) ?_
      refine gg_icmp_ge (tgt := 23) C dL_builds_5 (by decide) hf (fun hf => ?_) (fun hf => ?_)
      · exact gg_sub (L' := [none, some (.int l1)]) (by first | exact ⟨rfl, trivial⟩ | simp [gsub]) (hb_23 z zn (by first | exact ar_f (z := z) hz rfl | omega) (by first | exact ar_f (z := zn) hzn rfl | omega) _ _ hf)
      · refine gg_aload_n C dL_builds_8 rfl ?_
        refine gg_iload_n C dL_builds_9 rfl ?_
        refine gg_iconst C dL_builds_10 (v := (3 : Int32)) (by decide) ?_
        refine gr_I (k' := (z + 2)) (n' := (zn + 12)) (gk_SW (As := [va_rf l0, .int l1, .int (3 : Int32)]) (rest := []) C dL_builds_11 tw_607 tw_608 tw_24 tw_609 gd_L_of rfl ⟨by decide, by decide⟩ (by simp [gcat, gcI, gcL, gcF, gcD]) ⟨(by show z + 2 ≤ 22; first | exact ar_f (z := z) hz rfl | omega), (by show zn + 12 ≤ 132; first | exact ar_f (z := zn) hzn rfl | omega)⟩ (m_L_ofq hfl hf)) rfl rfl (fun E g9 h9 => h9.elim) (fun i2 g1 hf => ?_)
        refine gg_if_lt (tgt := 23) C dL_builds_14 (by decide) hf (fun hf => ?_) (fun hf => ?_)
        · exact gg_sub (L' := [none, some (.int l1)]) (by first | exact ⟨rfl, trivial⟩ | simp [gsub]) (hb_23 (z + 2) (zn + 12) (by first | exact ar_f2 (z := z) hz rfl | omega) (by first | exact ar_f2 (z := zn) hzn rfl | omega) _ _ hf)
        · refine gg_iinc (L' := [some (va_rf l0), some (.int (l1 + 1))]) C dL_builds_17 rfl (v := (l1 + 1)) rfl (Or.inr (Or.inr ⟨_, rfl, gcat _⟩)) (by decide) rfl ?_
          refine gg_goto (tgt := 2) C dL_builds_20 (by decide) ?_
          exact ih (z + 2) (zn + 12) (by first | exact ar_f3 (z := z) hz rfl | omega) (by first | exact ar_f3 (z := zn) hzn rfl | omega) _ _ _ hf
  unfold w_L_builds at hf
  refine gg_iconst C dL_builds_0 (v := (0 : Int32)) (by decide) ?_
  refine gg_istore_n (L' := [some (va_rf v0), some (.int (0 : Int32))]) C dL_builds_1 (Or.inr (Or.inr ⟨_, rfl, gcat _⟩)) (by decide) rfl ?_
  exact hb_2 11 0 0 (by omega) (by omega) _ _ _ hf

def w_L_devices_b25 (X : Cx) (post : Int32 → GM → Prop) (px : String → GM → Prop)  (l1 : Int32) (g : GM) : Prop :=
  post l1 g
def w_L_devices_l2 (X : Cx) (post : Int32 → GM → Prop) (px : String → GM → Prop)  : Nat → Option Nat → Int32 → GM → Prop
  | 0, _, _, _ => False
  | f + 1, l0, l1, g => (if (12 : Int32) ≤ l1 then w_L_devices_b25 X post px l1 g else w_L_both X (fun (i2 : Int32) (g1 : GM) => (if i2 < 0 then w_L_devices_b25 X post px l1 g1 else w_L_devices_l2 X post px f l0 (l1 + 1) g1)) (fun _ _ => False) l0 (111 : Int32) l1 (0 : Int32) g)
def w_L_devices (X : Cx) (post : Int32 → GM → Prop) (px : String → GM → Prop) (v0 : Option Nat) (g : GM) : Prop :=
  w_L_devices_l2 X post px 13 v0 (0 : Int32) g
abbrev rm_L_devices : Room := { frames := 9, cells := 52, slots := 312, locals := 152 }
set_option maxHeartbeats 16000000 in
set_option maxRecDepth 100000 in
theorem m_L_devices {X : Cx} {l : Launch} (hfl : l.stackTraces = false) {post : Int32 → GM → Prop} {px : String → GM → Prop} {v0 : Option Nat} {g : GM} (hf : w_L_devices X post px v0 g) : gMet X l yL_devices cL_devices 2 (some .int) rm_L_devices [va_rf v0] g (qI X post) px := by
  refine gg_enter (L := [some (va_rf v0), none]) hfl (by decide +kernel) (by simp [lg_sl, gcat, gcI, gcL, gcF, gcD]) (by simp [gll, lv_args, gcat, gcI, gcL, gcF, gcD]) ?_
  intro p e s m args below meth c C hr ht hm
  have C : FC X p l s m args meth c cL_devices 2 "ReleasetrainLaw" := C
  have hb_25 : ∀ (z zn : Nat) (hz : z + (0) ≤ 52) (hzn : zn + (0) ≤ 312) (l1 : Int32) (g : GM), w_L_devices_b25 X post px  l1 g → GG X p l e rm_L_devices s m args below meth c 2 (vx_MQ below (qI X post) (gXC X px) args s rm_L_devices.cells rm_L_devices.slots (gA X)) z zn 25 [none, some (.int l1)] [] g := by
    intro  z zn hz hzn l1 g hf
    unfold w_L_devices_b25 at hf
    refine gg_iload_n C dL_devices_25 rfl ?_
    exact gg_iret C hr (by show z ≤ 52; first | exact ar_l0 (z := z) hz rfl | omega) (by show zn ≤ 312; first | exact ar_l0 (z := zn) hzn rfl | omega) dL_devices_26 rfl hf
  have hb_2 : ∀ (f z zn : Nat) (hz : z + (f * 4 + 0) ≤ 52) (hzn : zn + (f * 24 + 0) ≤ 312) (l0 : Option Nat) (l1 : Int32) (g : GM), w_L_devices_l2 X post px  f l0 l1 g → GG X p l e rm_L_devices s m args below meth c 2 (vx_MQ below (qI X post) (gXC X px) args s rm_L_devices.cells rm_L_devices.slots (gA X)) z zn 2 [some (va_rf l0), some (.int l1)] [] g := by
    intro  f
    induction f with
    | zero => intro z zn hz hzn l0 l1 g hf; exact (show False from hf).elim
    | succ f ih =>
      intro z zn hz hzn l0 l1 g hf
      rw [w_L_devices_l2] at hf
      refine gg_iload_n C dL_devices_2 rfl ?_
      refine gg_bipush C dL_devices_3 (v := (12 : Int32)) (by decide) ?_
      refine gg_icmp_ge (tgt := 25) C dL_devices_5 (by decide) hf (fun hf => ?_) (fun hf => ?_)
      · exact gg_sub (L' := [none, some (.int l1)]) (by first | exact ⟨rfl, trivial⟩ | simp [gsub]) (hb_25 z zn (by first | exact ar_f (z := z) hz rfl | omega) (by first | exact ar_f (z := zn) hzn rfl | omega) _ _ hf)
      · refine gg_aload_n C dL_devices_8 rfl ?_
        refine gg_bipush C dL_devices_9 (v := (111 : Int32)) (by decide) ?_
        refine gg_iload_n C dL_devices_11 rfl ?_
        refine gg_iconst C dL_devices_12 (v := (0 : Int32)) (by decide) ?_
        refine gr_I (k' := (z + 4)) (n' := (zn + 24)) (gk_SW (As := [va_rf l0, .int (111 : Int32), .int l1, .int (0 : Int32)]) (rest := []) C dL_devices_13 tw_1105 tw_1106 tw_24 tw_1107 gd_L_both rfl ⟨by decide, by decide⟩ (by simp [gcat, gcI, gcL, gcF, gcD]) ⟨(by show z + 4 ≤ 52; first | exact ar_f (z := z) hz rfl | omega), (by show zn + 24 ≤ 312; first | exact ar_f (z := zn) hzn rfl | omega)⟩ (m_L_both hfl hf)) rfl rfl (fun E g9 h9 => h9.elim) (fun i2 g1 hf => ?_)
        refine gg_if_lt (tgt := 25) C dL_devices_16 (by decide) hf (fun hf => ?_) (fun hf => ?_)
        · exact gg_sub (L' := [none, some (.int l1)]) (by first | exact ⟨rfl, trivial⟩ | simp [gsub]) (hb_25 (z + 4) (zn + 24) (by first | exact ar_f2 (z := z) hz rfl | omega) (by first | exact ar_f2 (z := zn) hzn rfl | omega) _ _ hf)
        · refine gg_iinc (L' := [some (va_rf l0), some (.int (l1 + 1))]) C dL_devices_19 rfl (v := (l1 + 1)) rfl (Or.inr (Or.inr ⟨_, rfl, gcat _⟩)) (by decide) rfl ?_
          refine gg_goto (tgt := 2) C dL_devices_22 (by decide) ?_
          exact ih (z + 4) (zn + 24) (by first | exact ar_f3 (z := z) hz rfl | omega) (by first | exact ar_f3 (z := zn) hzn rfl | omega) _ _ _ hf
  unfold w_L_devices at hf
  refine gg_iconst C dL_devices_0 (v := (0 : Int32)) (by decide) ?_
  refine gg_istore_n (L' := [some (va_rf v0), some (.int (0 : Int32))]) C dL_devices_1 (Or.inr (Or.inr ⟨_, rfl, gcat _⟩)) (by decide) rfl ?_
  exact hb_2 13 0 0 (by omega) (by omega) _ _ _ hf

def w_Jxf58ca_isNaN_12338_b11 (X : Cx) (post : Int32 → GM → Prop) (px : String → GM → Prop)  (t0 : Int32) (g : GM) : Prop :=
  (narrow .boolean (.int t0) = .int t0 ∧ post t0 g)
def w_Jxf58ca_isNaN_12338 (X : Cx) (post : Int32 → GM → Prop) (px : String → GM → Prop) (v0 : UInt32) (g : GM) : Prop :=
  (if (Op.cmpValue (FP.fcmp v0 v0) .l) = 0 then w_Jxf58ca_isNaN_12338_b11 X post px (0 : Int32) g else w_Jxf58ca_isNaN_12338_b11 X post px (1 : Int32) g)
abbrev rm_Jxf58ca_isNaN_12338 : Room := { frames := 0, cells := 0, slots := 0, locals := 0 }
set_option maxHeartbeats 4000000 in
set_option maxRecDepth 100000 in
theorem m_Jxf58ca_isNaN_12338 {X : Cx} {l : Launch} (hfl : l.stackTraces = false) {post : Int32 → GM → Prop} {px : String → GM → Prop} {v0 : UInt32} {g : GM} (hf : w_Jxf58ca_isNaN_12338 X post px v0 g) : gMet X l yJxf58ca_isNaN_12338 cJxf58ca_isNaN_12338 1 (some .boolean) rm_Jxf58ca_isNaN_12338 [.float v0] g (qI X post) px := by
  refine gg_enterF (L := [some (.float v0)]) hfl (by decide +kernel) (by simp [lg_sl, gcat, gcI, gcL, gcF, gcD]) (by simp [gll, lv_args, gcat, gcI, gcL, gcF, gcD]) ?_
  intro p e s m args below meth c C hr ht hm
  have C : FC X p l s m args meth c cJxf58ca_isNaN_12338 1 "java/lang/Float" := C
  have hb_11 : ∀ (t0 : Int32) (g : GM), w_Jxf58ca_isNaN_12338_b11 X post px  t0 g → GG X p l e rm_Jxf58ca_isNaN_12338 s m args below meth c 1 (vx_MQ below (qI X post) (gXC X px) args s rm_Jxf58ca_isNaN_12338.cells rm_Jxf58ca_isNaN_12338.slots (gA X)) 0 0 11 [none] [.int t0] g := by
    intro  t0 g hf
    unfold w_Jxf58ca_isNaN_12338_b11 at hf
    exact gg_iret C hr (by decide) (by decide) dJxf58ca_isNaN_12338_11 hf.1 hf.2
  unfold w_Jxf58ca_isNaN_12338 at hf
  refine gg_fload_n C dJxf58ca_isNaN_12338_0 rfl ?_
  refine gg_fload_n C dJxf58ca_isNaN_12338_1 rfl ?_
  refine gg_fcmp C dJxf58ca_isNaN_12338_2 ?_
  refine gg_if_eq (tgt := 10) C dJxf58ca_isNaN_12338_3 (by decide) hf (fun hf => ?_) (fun hf => ?_)
  · refine gg_iconst C dJxf58ca_isNaN_12338_10 (v := (0 : Int32)) (by decide) ?_
    exact gg_sub (L' := [none]) (by first | exact trivial | simp [gsub]) (hb_11 _ _ hf)
  · refine gg_iconst C dJxf58ca_isNaN_12338_6 (v := (1 : Int32)) (by decide) ?_
    refine gg_goto (tgt := 11) C dJxf58ca_isNaN_12338_7 (by decide) ?_
    exact gg_sub (L' := [none]) (by first | exact trivial | simp [gsub]) (hb_11 _ _ hf)

def w_Jxf58ca_floatToIntBits_5c35a (X : Cx) (post : Int32 → GM → Prop) (px : String → GM → Prop) (v0 : UInt32) (g : GM) : Prop :=
  w_Jxf58ca_isNaN_12338 X (fun (i2 : Int32) (g1 : GM) => (if i2 = 0 then post ((v0).toInt32) g1 else post (2143289344 : Int32) g1)) px v0 g
abbrev rm_Jxf58ca_floatToIntBits_5c35a : Room := { frames := 1, cells := 0, slots := 0, locals := 20 }
set_option maxHeartbeats 4000000 in
set_option maxRecDepth 100000 in
theorem m_Jxf58ca_floatToIntBits_5c35a {X : Cx} {l : Launch} (hfl : l.stackTraces = false) {post : Int32 → GM → Prop} {px : String → GM → Prop} {v0 : UInt32} {g : GM} (hf : w_Jxf58ca_floatToIntBits_5c35a X post px v0 g) : gMet X l yJxf58ca_floatToIntBits_5c35a cJxf58ca_floatToIntBits_5c35a 1 (some .int) rm_Jxf58ca_floatToIntBits_5c35a [.float v0] g (qI X post) px := by
  refine gg_enterF (L := [some (.float v0)]) hfl (by decide +kernel) (by simp [lg_sl, gcat, gcI, gcL, gcF, gcD]) (by simp [gll, lv_args, gcat, gcI, gcL, gcF, gcD]) ?_
  intro p e s m args below meth c C hr ht hm
  have C : FC X p l s m args meth c cJxf58ca_floatToIntBits_5c35a 1 "java/lang/Float" := C
  unfold w_Jxf58ca_floatToIntBits_5c35a at hf
  refine gg_fload_n C dJxf58ca_floatToIntBits_5c35a_0 rfl ?_
  refine gr_I (k' := 0) (n' := 0) (gk_S (As := [.float v0]) (rest := []) C dJxf58ca_floatToIntBits_5c35a_1 tw_1349 tw_1350 tw_54 tw_1351 gd_Jxf58ca_isNaN_12338 rfl ⟨by decide, by decide⟩ (by simp [gcat, gcI, gcL, gcF, gcD]) ⟨by decide, by decide⟩ (m_Jxf58ca_isNaN_12338 hfl hf)) rfl rfl (fun E g9 h9 => gx_out C (fun x hx => (ht x hx).elim) (by decide) (by decide) h9) (fun i2 g1 hf => ?_)
  refine gg_if_ne (tgt := 12) C dJxf58ca_floatToIntBits_5c35a_4 (by decide) hf (fun hf => ?_) (fun hf => ?_)
  · refine gg_ldc C dJxf58ca_floatToIntBits_5c35a_12 (v := (2143289344 : Int32)) tw_1355 ?_
    exact gg_iret C hr (by decide) (by decide) dJxf58ca_floatToIntBits_5c35a_14 rfl hf
  · refine gg_fload_n C dJxf58ca_floatToIntBits_5c35a_7 rfl ?_
    refine gg_f2raw C dJxf58ca_floatToIntBits_5c35a_8 tw_1352 tw_1354 tw_1353 tw_54 (by decide) (by simp [gcat, gcI, gcL, gcF, gcD]) ?_
    exact gg_iret C hr (by decide) (by decide) dJxf58ca_floatToIntBits_5c35a_11 rfl hf

def w_L_sum_l201 (X : Cx) (post : Int64 → GM → Prop) (px : String → GM → Prop)  : Nat → Option Nat → Int64 → Int32 → GM → Prop
  | 0, _, _, _, _ => False
  | f + 1, l0, l3, l5, g => wIs g l0 7 (w_X7_groups X (fun (i14 : Int32) (g13 : GM) => (if i14 ≤ l5 then post l3 g13 else w_L_group X (fun (i16 : Int32) (g15 : GM) => w_L_group X (fun (i18 : Int32) (g17 : GM) => w_L_sum_l201 X post px f l0 ((((31 : Int64) * l3) + (i16).toInt64) + ((3 : Int64) * (i18).toInt64)) (l5 + 1) g17) (fun _ _ => False) l0 l5 (-2 : Int32) g15) (fun _ _ => False) l0 l5 (-1 : Int32) g13)) (fun _ _ => False) l0 g)
def w_L_sum_l161 (X : Cx) (post : Int64 → GM → Prop) (px : String → GM → Prop) (k124 : Option Nat → Int32 → Int64 → Int32 → GM → Prop) : Nat → Option Nat → Int32 → Int64 → Int32 → Int32 → GM → Prop
  | 0, _, _, _, _, _, _ => False
  | f + 1, l0, l2, l3, l5, l6, g => (if (8 : Int32) ≤ l6 then k124 l0 l2 l3 (l5 + 1) g else w_L_both X (fun (i24 : Int32) (g23 : GM) => w_L_sum_l161 X post px k124 f l0 l2 (((31 : Int64) * l3) + (i24).toInt64) l5 (l6 + 1) g23) (fun _ _ => False) l0 (111 : Int32) l5 l6 g)
def w_L_sum_l124 (X : Cx) (post : Int64 → GM → Prop) (px : String → GM → Prop)  : Nat → Option Nat → Int32 → Int64 → Int32 → GM → Prop
  | 0, _, _, _, _, _ => False
  | f + 1, l0, l2, l3, l5, g => (if l2 ≤ l5 then w_L_sum_l201 X post px 31 l0 l3 (0 : Int32) g else w_L_device X (fun (i20 : Int32) (g19 : GM) => w_L_device X (fun (i22 : Int32) (g21 : GM) => w_L_sum_l161 X post px (w_L_sum_l124 X post px f) 9 l0 l2 ((((31 : Int64) * l3) + (i20).toInt64) + ((3 : Int64) * (i22).toInt64)) l5 (0 : Int32) g21) (fun _ _ => False) l0 l5 (2 : Int32) g19) (fun _ _ => False) l0 l5 (0 : Int32) g)
def w_L_sum_l60 (X : Cx) (post : Int64 → GM → Prop) (px : String → GM → Prop) (k51 : Option Nat → Int32 → Int32 → Int64 → Int32 → GM → Prop) : Nat → Option Nat → Int32 → Int32 → Int64 → Int32 → Int32 → GM → Prop
  | 0, _, _, _, _, _, _, _ => False
  | f + 1, l0, l1, l2, l3, l5, l6, g => (if (9 : Int32) ≤ l6 then w_L_ratingBits X (fun (y26 : Int64) (g25 : GM) => w_L_like X (fun (x28 : UInt32) (g27 : GM) => w_Jxf58ca_floatToIntBits_5c35a X (fun (i30 : Int32) (g29 : GM) => k51 l0 l1 l2 ((((31 : Int64) * l3) + y26) + (i30).toInt64) (l5 + 1) g29) (fun _ _ => False) x28 g27) (fun _ _ => False) l0 l5 (-9 : Int32) g25) (fun _ _ => False) l0 l5 g else w_L_ofq X (fun (i32 : Int32) (g31 : GM) => w_L_sum_l60 X post px k51 f l0 l1 l2 (((31 : Int64) * l3) + (i32).toInt64) l5 (l6 + 1) g31) (fun _ _ => False) l0 l5 l6 g)
def w_L_sum_l51 (X : Cx) (post : Int64 → GM → Prop) (px : String → GM → Prop)  : Nat → Option Nat → Int32 → Int32 → Int64 → Int32 → GM → Prop
  | 0, _, _, _, _, _, _ => False
  | f + 1, l0, l1, l2, l3, l5, g => (if l1 ≤ l5 then w_L_sum_l124 X post px 13 l0 l2 l3 (0 : Int32) g else w_L_sum_l60 X post px (w_L_sum_l51 X post px f) 8 l0 l1 l2 l3 l5 (2 : Int32) g)
def w_L_sum (X : Cx) (post : Int64 → GM → Prop) (px : String → GM → Prop) (v0 : Option Nat) (g : GM) : Prop :=
  w_L_builds X (fun (i2 : Int32) (g1 : GM) => w_L_devices X (fun (i4 : Int32) (g3 : GM) => wIs g3 v0 7 (w_X7_day X (fun (i6 : Int32) (g5 : GM) => wIs g5 v0 7 (w_X7_groups X (fun (i8 : Int32) (g7 : GM) => w_L_asked X (fun (i10 : Int32) (g9 : GM) => w_L_asked X (fun (i12 : Int32) (g11 : GM) => w_L_sum_l51 X post px 11 v0 i2 i4 ((((i6).toInt64 + ((31 : Int64) * (i8).toInt64)) + ((961 : Int64) * (i10).toInt64)) + ((7 : Int64) * (i12).toInt64)) (0 : Int32) g11) (fun _ _ => False) v0 (2 : Int32) g9) (fun _ _ => False) v0 (0 : Int32) g7) (fun _ _ => False) v0 g5)) (fun _ _ => False) v0 g3)) (fun _ _ => False) v0 g1) (fun _ _ => False) v0 g
abbrev rm_L_sum : Room := { frames := 10, cells := 1044, slots := 7616, locals := 279 }
set_option maxHeartbeats 16000000 in
set_option maxRecDepth 100000 in
theorem m_L_sum {X : Cx} {l : Launch} (hfl : l.stackTraces = false) {post : Int64 → GM → Prop} {px : String → GM → Prop} {v0 : Option Nat} {g : GM} (hf : w_L_sum X post px v0 g) : gMet X l yL_sum cL_sum 7 (some .long) rm_L_sum [va_rf v0] g (qL X post) px := by
  refine gg_enter (L := [some (va_rf v0), none, none, none, none, none, none]) hfl (by decide +kernel) (by simp [lg_sl, gcat, gcI, gcL, gcF, gcD]) (by simp [gll, lv_args, gcat, gcI, gcL, gcF, gcD]) ?_
  intro p e s m args below meth c C hr ht hm
  have C : FC X p l s m args meth c cL_sum 7 "ReleasetrainLaw" := C
  have hb_201 : ∀ (f z zn : Nat) (hz : z + (f * 4 + 0) ≤ 1044) (hzn : zn + (f * 24 + 0) ≤ 7616) (l0 : Option Nat) (l3 : Int64) (l5 : Int32) (g : GM), w_L_sum_l201 X post px  f l0 l3 l5 g → GG X p l e rm_L_sum s m args below meth c 7 (vx_MQ below (qL X post) (gXC X px) args s rm_L_sum.cells rm_L_sum.slots (gA X)) z zn 201 [some (va_rf l0), none, none, some (.long l3), none, some (.int l5), none] [] g := by
    intro  f
    induction f with
    | zero => intro z zn hz hzn l0 l3 l5 g hf; exact (show False from hf).elim
    | succ f ih =>
      intro z zn hz hzn l0 l3 l5 g hf
      rw [w_L_sum_l201] at hf
      refine gg_iload C dL_sum_201 rfl ?_
      refine gg_aload_n C dL_sum_203 rfl ?_
      refine gr_I (k' := z) (n' := zn) (gk_V (ci := 7) (As := []) (rest := [.int l5]) C dL_sum_204 rfl rfl tw_185 tw_186 tw_187 tw_25 tw_188 gd_X7_groups rfl ⟨by decide, by decide⟩ (by simp [gcat, gcI, gcL, gcF, gcD]) ⟨(by show z + 0 ≤ 1044; first | exact ar_f (z := z) hz rfl | omega), (by show zn + 0 ≤ 7616; first | exact ar_f (z := zn) hzn rfl | omega)⟩ hf (fun hf => m_X7_groups hfl hf)) rfl rfl (fun E g9 h9 => h9.elim) (fun i14 g13 hf => ?_)
      refine gg_icmp_ge (tgt := 245) C dL_sum_207 (by decide) hf (fun hf => ?_) (fun hf => ?_)
      · refine gg_lload_n C dL_sum_245 rfl ?_
        exact gg_lret C hr (by show z ≤ 1044; first | exact ar_f0 (z := z) hz rfl | omega) (by show zn ≤ 7616; first | exact ar_f0 (z := zn) hzn rfl | omega) dL_sum_246 hf
      · refine gg_ldc2 C dL_sum_210 (v := (31 : Int64)) tw_1343 ?_
        refine gg_lload_n C dL_sum_213 rfl ?_
        refine gg_lmul C dL_sum_214 ?_
        refine gg_aload_n C dL_sum_215 rfl ?_
        refine gg_iload C dL_sum_216 rfl ?_
        refine gg_iconst C dL_sum_218 (v := (-1 : Int32)) (by decide) ?_
        refine gr_I (k' := (z + 2)) (n' := (zn + 12)) (gk_SW (As := [va_rf l0, .int l5, .int (-1 : Int32)]) (rest := [.long ((31 : Int64) * l3)]) C dL_sum_219 tw_1228 tw_1229 tw_24 tw_1230 gd_L_group rfl ⟨by decide, by decide⟩ (by simp [gcat, gcI, gcL, gcF, gcD]) ⟨(by show z + 2 ≤ 1044; first | exact ar_f (z := z) hz rfl | omega), (by show zn + 12 ≤ 7616; first | exact ar_f (z := zn) hzn rfl | omega)⟩ (m_L_group hfl hf)) rfl rfl (fun E g9 h9 => h9.elim) (fun i16 g15 hf => ?_)
        refine gg_i2l C dL_sum_222 ?_
        refine gg_ladd C dL_sum_223 ?_
        refine gg_ldc2 C dL_sum_224 (v := (3 : Int64)) tw_1356 ?_
        refine gg_aload_n C dL_sum_227 rfl ?_
        refine gg_iload C dL_sum_228 rfl ?_
        refine gg_bipush C dL_sum_230 (v := (-2 : Int32)) (by decide) ?_
        refine gr_I (k' := (z + 4)) (n' := (zn + 24)) (gk_SW (As := [va_rf l0, .int l5, .int (-2 : Int32)]) (rest := [.long (3 : Int64), .long (((31 : Int64) * l3) + (i16).toInt64)]) C dL_sum_232 tw_1228 tw_1229 tw_24 tw_1230 gd_L_group rfl ⟨by decide, by decide⟩ (by simp [gcat, gcI, gcL, gcF, gcD]) ⟨(by show (z + 2) + 2 ≤ 1044; first | exact ar_f2 (z := z) hz rfl | omega), (by show (zn + 12) + 12 ≤ 7616; first | exact ar_f2 (z := zn) hzn rfl | omega)⟩ (m_L_group hfl hf)) (Nat.add_assoc z 2 2) (Nat.add_assoc zn 12 12) (fun E g9 h9 => h9.elim) (fun i18 g17 hf => ?_)
        refine gg_i2l C dL_sum_235 ?_
        refine gg_lmul C dL_sum_236 ?_
        refine gg_ladd C dL_sum_237 ?_
        refine gg_lstore_n (L' := [some (va_rf l0), none, none, some (.long ((((31 : Int64) * l3) + (i16).toInt64) + ((3 : Int64) * (i18).toInt64))), none, some (.int l5), none]) C dL_sum_238 (Or.inr (Or.inl rfl)) (by decide) rfl ?_
        refine gg_iinc (L' := [some (va_rf l0), none, none, some (.long ((((31 : Int64) * l3) + (i16).toInt64) + ((3 : Int64) * (i18).toInt64))), none, some (.int (l5 + 1)), none]) C dL_sum_239 rfl (v := (l5 + 1)) rfl (Or.inr (Or.inl rfl)) (by decide) rfl ?_
        refine gg_goto (tgt := 201) C dL_sum_242 (by decide) ?_
        exact ih (z + 4) (zn + 24) (by first | exact ar_f3 (z := z) hz rfl | omega) (by first | exact ar_f3 (z := zn) hzn rfl | omega) _ _ _ _ hf
  have hb_161 : ∀ (E124 En124 : Nat), 124 ≤ E124 → 744 ≤ En124 → ∀ (k124 : Option Nat → Int32 → Int64 → Int32 → GM → Prop), (∀ (z zn : Nat), z + E124 ≤ 1044 → zn + En124 ≤ 7616 → ∀ (l0 : Option Nat) (l2 : Int32) (l3 : Int64) (l5 : Int32) (g : GM), k124 l0 l2 l3 l5 g → GG X p l e rm_L_sum s m args below meth c 7 (vx_MQ below (qL X post) (gXC X px) args s rm_L_sum.cells rm_L_sum.slots (gA X)) z zn 124 [some (va_rf l0), none, some (.int l2), some (.long l3), none, some (.int l5), none] [] g) → ∀ (f z zn : Nat) (hz : z + (f * 4 + 0 + E124) ≤ 1044) (hzn : zn + (f * 24 + 0 + En124) ≤ 7616) (l0 : Option Nat) (l2 : Int32) (l3 : Int64) (l5 : Int32) (l6 : Int32) (g : GM), w_L_sum_l161 X post px k124 f l0 l2 l3 l5 l6 g → GG X p l e rm_L_sum s m args below meth c 7 (vx_MQ below (qL X post) (gXC X px) args s rm_L_sum.cells rm_L_sum.slots (gA X)) z zn 161 [some (va_rf l0), none, some (.int l2), some (.long l3), none, some (.int l5), some (.int l6)] [] g := by
    intro E124 En124 hE124 hEn124 k124 hk124 f
    induction f with
    | zero => intro z zn hz hzn l0 l2 l3 l5 l6 g hf; exact (show False from hf).elim
    | succ f ih =>
      intro z zn hz hzn l0 l2 l3 l5 l6 g hf
      rw [w_L_sum_l161] at hf
      refine gg_iload C dL_sum_161 rfl ?_
      refine gg_bipush C dL_sum_163 (v := (8 : Int32)) (by decide) ?_
      refine gg_icmp_ge (tgt := 192) C dL_sum_165 (by decide) hf (fun hf => ?_) (fun hf => ?_)
      · refine gg_iinc (L' := [some (va_rf l0), none, some (.int l2), some (.long l3), none, some (.int (l5 + 1)), some (.int l6)]) C dL_sum_192 rfl (v := (l5 + 1)) rfl (Or.inr (Or.inl rfl)) (by decide) rfl ?_
        refine gg_goto (tgt := 124) C dL_sum_195 (by decide) ?_
        exact gg_sub (L' := [some (va_rf l0), none, some (.int l2), some (.long l3), none, some (.int (l5 + 1)), none]) (by first | exact ⟨rfl, ⟨rfl, ⟨rfl, ⟨rfl, trivial⟩⟩⟩⟩ | simp [gsub]) (hk124 z zn (by first | exact ar_g8 (z := z) hz rfl | omega) (by first | exact ar_g8 (z := zn) hzn rfl | omega) _ _ _ _ _ hf)
      · refine gg_ldc2 C dL_sum_168 (v := (31 : Int64)) tw_1343 ?_
        refine gg_lload_n C dL_sum_171 rfl ?_
        refine gg_lmul C dL_sum_172 ?_
        refine gg_aload_n C dL_sum_173 rfl ?_
        refine gg_bipush C dL_sum_174 (v := (111 : Int32)) (by decide) ?_
        refine gg_iload C dL_sum_176 rfl ?_
        refine gg_iload C dL_sum_178 rfl ?_
        refine gr_I (k' := (z + 4)) (n' := (zn + 24)) (gk_SW (As := [va_rf l0, .int (111 : Int32), .int l5, .int l6]) (rest := [.long ((31 : Int64) * l3)]) C dL_sum_180 tw_1105 tw_1106 tw_24 tw_1107 gd_L_both rfl ⟨by decide, by decide⟩ (by simp [gcat, gcI, gcL, gcF, gcD]) ⟨(by show z + 4 ≤ 1044; first | exact ar_g (z := z) hz rfl | omega), (by show zn + 24 ≤ 7616; first | exact ar_g (z := zn) hzn rfl | omega)⟩ (m_L_both hfl hf)) rfl rfl (fun E g9 h9 => h9.elim) (fun i24 g23 hf => ?_)
        refine gg_i2l C dL_sum_183 ?_
        refine gg_ladd C dL_sum_184 ?_
        refine gg_lstore_n (L' := [some (va_rf l0), none, some (.int l2), some (.long (((31 : Int64) * l3) + (i24).toInt64)), none, some (.int l5), some (.int l6)]) C dL_sum_185 (Or.inr (Or.inr ⟨_, rfl, rfl⟩)) (by decide) rfl ?_
        refine gg_iinc (L' := [some (va_rf l0), none, some (.int l2), some (.long (((31 : Int64) * l3) + (i24).toInt64)), none, some (.int l5), some (.int (l6 + 1))]) C dL_sum_186 rfl (v := (l6 + 1)) rfl (Or.inr (Or.inr ⟨_, rfl, rfl⟩)) (by decide) rfl ?_
        refine gg_goto (tgt := 161) C dL_sum_189 (by decide) ?_
        exact ih (z + 4) (zn + 24) (by first | exact ar_g3 (z := z) hz rfl | omega) (by first | exact ar_g3 (z := zn) hzn rfl | omega) _ _ _ _ _ _ hf
  have hb_124 : ∀ (f z zn : Nat) (hz : z + (f * 48 + 124) ≤ 1044) (hzn : zn + (f * 392 + 744) ≤ 7616) (l0 : Option Nat) (l2 : Int32) (l3 : Int64) (l5 : Int32) (g : GM), w_L_sum_l124 X post px  f l0 l2 l3 l5 g → GG X p l e rm_L_sum s m args below meth c 7 (vx_MQ below (qL X post) (gXC X px) args s rm_L_sum.cells rm_L_sum.slots (gA X)) z zn 124 [some (va_rf l0), none, some (.int l2), some (.long l3), none, some (.int l5), none] [] g := by
    intro  f
    induction f with
    | zero => intro z zn hz hzn l0 l2 l3 l5 g hf; exact (show False from hf).elim
    | succ f ih =>
      intro z zn hz hzn l0 l2 l3 l5 g hf
      rw [w_L_sum_l124] at hf
      refine gg_iload C dL_sum_124 rfl ?_
      refine gg_iload_n C dL_sum_126 rfl ?_
      refine gg_icmp_ge (tgt := 198) C dL_sum_127 (by decide) hf (fun hf => ?_) (fun hf => ?_)
      · refine gg_iconst C dL_sum_198 (v := (0 : Int32)) (by decide) ?_
        refine gg_istore (L' := [some (va_rf l0), none, some (.int l2), some (.long l3), none, some (.int (0 : Int32)), none]) C dL_sum_199 (Or.inr (Or.inl rfl)) (by decide) rfl ?_
        exact gg_sub (L' := [some (va_rf l0), none, none, some (.long l3), none, some (.int (0 : Int32)), none]) (by first | exact ⟨rfl, ⟨rfl, ⟨rfl, trivial⟩⟩⟩ | simp [gsub]) (hb_201 31 z zn (by first | exact ar_f (z := z) hz rfl | omega) (by first | exact ar_f (z := zn) hzn rfl | omega) _ _ _ _ hf)
      · refine gg_ldc2 C dL_sum_130 (v := (31 : Int64)) tw_1343 ?_
        refine gg_lload_n C dL_sum_133 rfl ?_
        refine gg_lmul C dL_sum_134 ?_
        refine gg_aload_n C dL_sum_135 rfl ?_
        refine gg_iload C dL_sum_136 rfl ?_
        refine gg_iconst C dL_sum_138 (v := (0 : Int32)) (by decide) ?_
        refine gr_I (k' := (z + 6)) (n' := (zn + 88)) (gk_SW (As := [va_rf l0, .int l5, .int (0 : Int32)]) (rest := [.long ((31 : Int64) * l3)]) C dL_sum_139 tw_1008 tw_1009 tw_24 tw_1010 gd_L_device rfl ⟨by decide, by decide⟩ (by simp [gcat, gcI, gcL, gcF, gcD]) ⟨(by show z + 6 ≤ 1044; first | exact ar_f (z := z) hz rfl | omega), (by show zn + 88 ≤ 7616; first | exact ar_f (z := zn) hzn rfl | omega)⟩ (m_L_device hfl hf)) rfl rfl (fun E g9 h9 => h9.elim) (fun i20 g19 hf => ?_)
        refine gg_i2l C dL_sum_142 ?_
        refine gg_ladd C dL_sum_143 ?_
        refine gg_ldc2 C dL_sum_144 (v := (3 : Int64)) tw_1356 ?_
        refine gg_aload_n C dL_sum_147 rfl ?_
        refine gg_iload C dL_sum_148 rfl ?_
        refine gg_iconst C dL_sum_150 (v := (2 : Int32)) (by decide) ?_
        refine gr_I (k' := (z + 12)) (n' := (zn + 176)) (gk_SW (As := [va_rf l0, .int l5, .int (2 : Int32)]) (rest := [.long (3 : Int64), .long (((31 : Int64) * l3) + (i20).toInt64)]) C dL_sum_151 tw_1008 tw_1009 tw_24 tw_1010 gd_L_device rfl ⟨by decide, by decide⟩ (by simp [gcat, gcI, gcL, gcF, gcD]) ⟨(by show (z + 6) + 6 ≤ 1044; first | exact ar_f2 (z := z) hz rfl | omega), (by show (zn + 88) + 88 ≤ 7616; first | exact ar_f2 (z := zn) hzn rfl | omega)⟩ (m_L_device hfl hf)) (Nat.add_assoc z 6 6) (Nat.add_assoc zn 88 88) (fun E g9 h9 => h9.elim) (fun i22 g21 hf => ?_)
        refine gg_i2l C dL_sum_154 ?_
        refine gg_lmul C dL_sum_155 ?_
        refine gg_ladd C dL_sum_156 ?_
        refine gg_lstore_n (L' := [some (va_rf l0), none, some (.int l2), some (.long ((((31 : Int64) * l3) + (i20).toInt64) + ((3 : Int64) * (i22).toInt64))), none, some (.int l5), none]) C dL_sum_157 (Or.inr (Or.inr ⟨_, rfl, rfl⟩)) (by decide) rfl ?_
        refine gg_iconst C dL_sum_158 (v := (0 : Int32)) (by decide) ?_
        refine gg_istore (L' := [some (va_rf l0), none, some (.int l2), some (.long ((((31 : Int64) * l3) + (i20).toInt64) + ((3 : Int64) * (i22).toInt64))), none, some (.int l5), some (.int (0 : Int32))]) C dL_sum_159 (Or.inr (Or.inr ⟨_, rfl, rfl⟩)) (by decide) rfl ?_
        exact hb_161 (f * 48 + 124) (f * 392 + 744) (by first | exact Nat.le_add_left _ _ | omega) (by first | exact Nat.le_add_left _ _ | omega) _ (ih) 9 (z + 12) (zn + 176) (by first | exact ar_f4 (z := z) hz rfl | omega) (by first | exact ar_f4 (z := zn) hzn rfl | omega) _ _ _ _ _ _ hf
  have hb_60 : ∀ (E51 En51 : Nat), 748 ≤ E51 → 5840 ≤ En51 → ∀ (k51 : Option Nat → Int32 → Int32 → Int64 → Int32 → GM → Prop), (∀ (z zn : Nat), z + E51 ≤ 1044 → zn + En51 ≤ 7616 → ∀ (l0 : Option Nat) (l1 : Int32) (l2 : Int32) (l3 : Int64) (l5 : Int32) (g : GM), k51 l0 l1 l2 l3 l5 g → GG X p l e rm_L_sum s m args below meth c 7 (vx_MQ below (qL X post) (gXC X px) args s rm_L_sum.cells rm_L_sum.slots (gA X)) z zn 51 [some (va_rf l0), some (.int l1), some (.int l2), some (.long l3), none, some (.int l5), none] [] g) → ∀ (f z zn : Nat) (hz : z + (f * 2 + 4 + E51) ≤ 1044) (hzn : zn + (f * 12 + 24 + En51) ≤ 7616) (l0 : Option Nat) (l1 : Int32) (l2 : Int32) (l3 : Int64) (l5 : Int32) (l6 : Int32) (g : GM), w_L_sum_l60 X post px k51 f l0 l1 l2 l3 l5 l6 g → GG X p l e rm_L_sum s m args below meth c 7 (vx_MQ below (qL X post) (gXC X px) args s rm_L_sum.cells rm_L_sum.slots (gA X)) z zn 60 [some (va_rf l0), some (.int l1), some (.int l2), some (.long l3), none, some (.int l5), some (.int l6)] [] g := by
    intro E51 En51 hE51 hEn51 k51 hk51 f
    induction f with
    | zero => intro z zn hz hzn l0 l1 l2 l3 l5 l6 g hf; exact (show False from hf).elim
    | succ f ih =>
      intro z zn hz hzn l0 l1 l2 l3 l5 l6 g hf
      rw [w_L_sum_l60] at hf
      refine gg_iload C dL_sum_60 rfl ?_
      refine gg_bipush C dL_sum_62 (v := (9 : Int32)) (by decide) ?_
      refine gg_icmp_ge (tgt := 89) C dL_sum_64 (by decide) hf (fun hf => ?_) (fun hf => ?_)
      · refine gg_ldc2 C dL_sum_89 (v := (31 : Int64)) tw_1343 ?_
        refine gg_lload_n C dL_sum_92 rfl ?_
        refine gg_lmul C dL_sum_93 ?_
        refine gg_aload_n C dL_sum_94 rfl ?_
        refine gg_iload C dL_sum_95 rfl ?_
        refine gr_L (k' := (z + 2)) (n' := (zn + 12)) (gk_SW (As := [va_rf l0, .int l5]) (rest := [.long ((31 : Int64) * l3)]) C dL_sum_97 tw_1321 tw_1322 tw_24 tw_1323 gd_L_ratingBits rfl ⟨by decide, by decide⟩ (by simp [gcat, gcI, gcL, gcF, gcD]) ⟨(by show z + 2 ≤ 1044; first | exact ar_g (z := z) hz rfl | omega), (by show zn + 12 ≤ 7616; first | exact ar_g (z := zn) hzn rfl | omega)⟩ (m_L_ratingBits hfl hf)) rfl rfl (fun E g9 h9 => h9.elim) (fun y26 g25 hf => ?_)
        refine gg_ladd C dL_sum_100 ?_
        refine gg_aload_n C dL_sum_101 rfl ?_
        refine gg_iload C dL_sum_102 rfl ?_
        refine gg_bipush C dL_sum_104 (v := (-9 : Int32)) (by decide) ?_
        refine gr_F (k' := (z + 4)) (n' := (zn + 24)) (gk_SW (As := [va_rf l0, .int l5, .int (-9 : Int32)]) (rest := [.long (((31 : Int64) * l3) + y26)]) C dL_sum_106 tw_1279 tw_1280 tw_24 tw_1281 gd_L_like rfl ⟨by decide, by decide⟩ (by simp [gcat, gcI, gcL, gcF, gcD]) ⟨(by show (z + 2) + 2 ≤ 1044; first | exact ar_g2 (z := z) hz rfl | omega), (by show (zn + 12) + 12 ≤ 7616; first | exact ar_g2 (z := zn) hzn rfl | omega)⟩ (m_L_like hfl hf)) (Nat.add_assoc z 2 2) (Nat.add_assoc zn 12 12) (fun E g9 h9 => h9.elim) (fun x28 g27 hf => ?_)
        refine gr_I (k' := (z + 4)) (n' := (zn + 24)) (gk_S (As := [.float x28]) (rest := [.long (((31 : Int64) * l3) + y26)]) C dL_sum_109 tw_1346 tw_1347 tw_54 tw_1348 gd_Jxf58ca_floatToIntBits_5c35a rfl ⟨by decide, by decide⟩ (by simp [gcat, gcI, gcL, gcF, gcD]) ⟨(by show (z + 4) + 0 ≤ 1044; first | exact ar_g2 (z := z) hz rfl | omega), (by show (zn + 24) + 0 ≤ 7616; first | exact ar_g2 (z := zn) hzn rfl | omega)⟩ (m_Jxf58ca_floatToIntBits_5c35a hfl hf)) rfl rfl (fun E g9 h9 => h9.elim) (fun i30 g29 hf => ?_)
        refine gg_i2l C dL_sum_112 ?_
        refine gg_ladd C dL_sum_113 ?_
        refine gg_lstore_n (L' := [some (va_rf l0), some (.int l1), some (.int l2), some (.long ((((31 : Int64) * l3) + y26) + (i30).toInt64)), none, some (.int l5), some (.int l6)]) C dL_sum_114 (Or.inr (Or.inr ⟨_, rfl, rfl⟩)) (by decide) rfl ?_
        refine gg_iinc (L' := [some (va_rf l0), some (.int l1), some (.int l2), some (.long ((((31 : Int64) * l3) + y26) + (i30).toInt64)), none, some (.int (l5 + 1)), some (.int l6)]) C dL_sum_115 rfl (v := (l5 + 1)) rfl (Or.inr (Or.inl rfl)) (by decide) rfl ?_
        refine gg_goto (tgt := 51) C dL_sum_118 (by decide) ?_
        exact gg_sub (L' := [some (va_rf l0), some (.int l1), some (.int l2), some (.long ((((31 : Int64) * l3) + y26) + (i30).toInt64)), none, some (.int (l5 + 1)), none]) (by first | exact ⟨rfl, ⟨rfl, ⟨rfl, ⟨rfl, ⟨rfl, trivial⟩⟩⟩⟩⟩ | simp [gsub]) (hk51 (z + 4) (zn + 24) (by first | exact ar_g7 (z := z) hz rfl | omega) (by first | exact ar_g7 (z := zn) hzn rfl | omega) _ _ _ _ _ _ hf)
      · refine gg_ldc2 C dL_sum_67 (v := (31 : Int64)) tw_1343 ?_
        refine gg_lload_n C dL_sum_70 rfl ?_
        refine gg_lmul C dL_sum_71 ?_
        refine gg_aload_n C dL_sum_72 rfl ?_
        refine gg_iload C dL_sum_73 rfl ?_
        refine gg_iload C dL_sum_75 rfl ?_
        refine gr_I (k' := (z + 2)) (n' := (zn + 12)) (gk_SW (As := [va_rf l0, .int l5, .int l6]) (rest := [.long ((31 : Int64) * l3)]) C dL_sum_77 tw_607 tw_608 tw_24 tw_609 gd_L_of rfl ⟨by decide, by decide⟩ (by simp [gcat, gcI, gcL, gcF, gcD]) ⟨(by show z + 2 ≤ 1044; first | exact ar_g (z := z) hz rfl | omega), (by show zn + 12 ≤ 7616; first | exact ar_g (z := zn) hzn rfl | omega)⟩ (m_L_ofq hfl hf)) rfl rfl (fun E g9 h9 => h9.elim) (fun i32 g31 hf => ?_)
        refine gg_i2l C dL_sum_80 ?_
        refine gg_ladd C dL_sum_81 ?_
        refine gg_lstore_n (L' := [some (va_rf l0), some (.int l1), some (.int l2), some (.long (((31 : Int64) * l3) + (i32).toInt64)), none, some (.int l5), some (.int l6)]) C dL_sum_82 (Or.inr (Or.inr ⟨_, rfl, rfl⟩)) (by decide) rfl ?_
        refine gg_iinc (L' := [some (va_rf l0), some (.int l1), some (.int l2), some (.long (((31 : Int64) * l3) + (i32).toInt64)), none, some (.int l5), some (.int (l6 + 1))]) C dL_sum_83 rfl (v := (l6 + 1)) rfl (Or.inr (Or.inr ⟨_, rfl, rfl⟩)) (by decide) rfl ?_
        refine gg_goto (tgt := 60) C dL_sum_86 (by decide) ?_
        exact ih (z + 2) (zn + 12) (by first | exact ar_g3 (z := z) hz rfl | omega) (by first | exact ar_g3 (z := zn) hzn rfl | omega) _ _ _ _ _ _ _ hf
  have hb_51 : ∀ (f z zn : Nat) (hz : z + (f * 20 + 748) ≤ 1044) (hzn : zn + (f * 120 + 5840) ≤ 7616) (l0 : Option Nat) (l1 : Int32) (l2 : Int32) (l3 : Int64) (l5 : Int32) (g : GM), w_L_sum_l51 X post px  f l0 l1 l2 l3 l5 g → GG X p l e rm_L_sum s m args below meth c 7 (vx_MQ below (qL X post) (gXC X px) args s rm_L_sum.cells rm_L_sum.slots (gA X)) z zn 51 [some (va_rf l0), some (.int l1), some (.int l2), some (.long l3), none, some (.int l5), none] [] g := by
    intro  f
    induction f with
    | zero => intro z zn hz hzn l0 l1 l2 l3 l5 g hf; exact (show False from hf).elim
    | succ f ih =>
      intro z zn hz hzn l0 l1 l2 l3 l5 g hf
      rw [w_L_sum_l51] at hf
      refine gg_iload C dL_sum_51 rfl ?_
      refine gg_iload_n C dL_sum_53 rfl ?_
      refine gg_icmp_ge (tgt := 121) C dL_sum_54 (by decide) hf (fun hf => ?_) (fun hf => ?_)
      · refine gg_iconst C dL_sum_121 (v := (0 : Int32)) (by decide) ?_
        refine gg_istore (L' := [some (va_rf l0), some (.int l1), some (.int l2), some (.long l3), none, some (.int (0 : Int32)), none]) C dL_sum_122 (Or.inr (Or.inl rfl)) (by decide) rfl ?_
        exact gg_sub (L' := [some (va_rf l0), none, some (.int l2), some (.long l3), none, some (.int (0 : Int32)), none]) (by first | exact ⟨rfl, ⟨rfl, ⟨rfl, ⟨rfl, trivial⟩⟩⟩⟩ | simp [gsub]) (hb_124 13 z zn (by first | exact ar_f (z := z) hz rfl | omega) (by first | exact ar_f (z := zn) hzn rfl | omega) _ _ _ _ _ hf)
      · refine gg_iconst C dL_sum_57 (v := (2 : Int32)) (by decide) ?_
        refine gg_istore (L' := [some (va_rf l0), some (.int l1), some (.int l2), some (.long l3), none, some (.int l5), some (.int (2 : Int32))]) C dL_sum_58 (Or.inr (Or.inr ⟨_, rfl, rfl⟩)) (by decide) rfl ?_
        exact hb_60 (f * 20 + 748) (f * 120 + 5840) (by first | exact Nat.le_add_left _ _ | omega) (by first | exact Nat.le_add_left _ _ | omega) _ (ih) 8 z zn (by first | exact ar_f6 (z := z) hz rfl | omega) (by first | exact ar_f6 (z := zn) hzn rfl | omega) _ _ _ _ _ _ _ hf
  unfold w_L_sum at hf
  refine gg_aload_n C dL_sum_0 rfl ?_
  refine gr_I (k' := (0 + 22)) (n' := (0 + 132)) (gk_S (As := [va_rf v0]) (rest := []) C dL_sum_1 tw_1330 tw_1331 tw_24 tw_1332 gd_L_builds rfl ⟨by decide, by decide⟩ (by simp [gcat, gcI, gcL, gcF, gcD]) ⟨(by show 0 + 22 ≤ 1044; omega), (by show 0 + 132 ≤ 7616; omega)⟩ (m_L_builds hfl hf)) rfl rfl (fun E g9 h9 => h9.elim) (fun i2 g1 hf => ?_)
  refine gg_istore_n (L' := [some (va_rf v0), some (.int i2), none, none, none, none, none]) C dL_sum_4 (Or.inr (Or.inr ⟨_, rfl, gcat _⟩)) (by decide) rfl ?_
  refine gg_aload_n C dL_sum_5 rfl ?_
  refine gr_I (k' := (0 + 74)) (n' := (0 + 444)) (gk_S (As := [va_rf v0]) (rest := []) C dL_sum_6 tw_1333 tw_1334 tw_24 tw_1335 gd_L_devices rfl ⟨by decide, by decide⟩ (by simp [gcat, gcI, gcL, gcF, gcD]) ⟨(by show (0 + 22) + 52 ≤ 1044; omega), (by show (0 + 132) + 312 ≤ 7616; omega)⟩ (m_L_devices hfl hf)) (Nat.add_assoc 0 22 52) (Nat.add_assoc 0 132 312) (fun E g9 h9 => h9.elim) (fun i4 g3 hf => ?_)
  refine gg_istore_n (L' := [some (va_rf v0), some (.int i2), some (.int i4), none, none, none, none]) C dL_sum_9 (Or.inr (Or.inr ⟨_, rfl, rfl⟩)) (by decide) rfl ?_
  refine gg_aload_n C dL_sum_10 rfl ?_
  refine gr_I (k' := (0 + 74)) (n' := (0 + 444)) (gk_V (ci := 7) (As := []) (rest := []) C dL_sum_11 rfl rfl tw_1339 tw_1340 tw_1341 tw_25 tw_1342 gd_X7_day rfl ⟨by decide, by decide⟩ (by simp [gcat, gcI, gcL, gcF, gcD]) ⟨(by show (0 + 74) + 0 ≤ 1044; omega), (by show (0 + 444) + 0 ≤ 7616; omega)⟩ hf (fun hf => m_X7_day hfl hf)) rfl rfl (fun E g9 h9 => h9.elim) (fun i6 g5 hf => ?_)
  refine gg_i2l C dL_sum_14 ?_
  refine gg_ldc2 C dL_sum_15 (v := (31 : Int64)) tw_1343 ?_
  refine gg_aload_n C dL_sum_18 rfl ?_
  refine gr_I (k' := (0 + 74)) (n' := (0 + 444)) (gk_V (ci := 7) (As := []) (rest := [.long (31 : Int64), .long ((i6).toInt64)]) C dL_sum_19 rfl rfl tw_185 tw_186 tw_187 tw_25 tw_188 gd_X7_groups rfl ⟨by decide, by decide⟩ (by simp [gcat, gcI, gcL, gcF, gcD]) ⟨(by show (0 + 74) + 0 ≤ 1044; omega), (by show (0 + 444) + 0 ≤ 7616; omega)⟩ hf (fun hf => m_X7_groups hfl hf)) rfl rfl (fun E g9 h9 => h9.elim) (fun i8 g7 hf => ?_)
  refine gg_i2l C dL_sum_22 ?_
  refine gg_lmul C dL_sum_23 ?_
  refine gg_ladd C dL_sum_24 ?_
  refine gg_ldc2 C dL_sum_25 (v := (961 : Int64)) tw_1344 ?_
  refine gg_aload_n C dL_sum_28 rfl ?_
  refine gg_iconst C dL_sum_29 (v := (0 : Int32)) (by decide) ?_
  refine gr_I (k' := (0 + 75)) (n' := (0 + 450)) (gk_SW (As := [va_rf v0, .int (0 : Int32)]) (rest := [.long (961 : Int64), .long ((i6).toInt64 + ((31 : Int64) * (i8).toInt64))]) C dL_sum_30 tw_1199 tw_1200 tw_24 tw_1201 gd_L_asked rfl ⟨by decide, by decide⟩ (by simp [gcat, gcI, gcL, gcF, gcD]) ⟨(by show (0 + 74) + 1 ≤ 1044; omega), (by show (0 + 444) + 6 ≤ 7616; omega)⟩ (m_L_asked hfl hf)) (Nat.add_assoc 0 74 1) (Nat.add_assoc 0 444 6) (fun E g9 h9 => h9.elim) (fun i10 g9 hf => ?_)
  refine gg_i2l C dL_sum_33 ?_
  refine gg_lmul C dL_sum_34 ?_
  refine gg_ladd C dL_sum_35 ?_
  refine gg_ldc2 C dL_sum_36 (v := (7 : Int64)) tw_1345 ?_
  refine gg_aload_n C dL_sum_39 rfl ?_
  refine gg_iconst C dL_sum_40 (v := (2 : Int32)) (by decide) ?_
  refine gr_I (k' := (0 + 76)) (n' := (0 + 456)) (gk_SW (As := [va_rf v0, .int (2 : Int32)]) (rest := [.long (7 : Int64), .long (((i6).toInt64 + ((31 : Int64) * (i8).toInt64)) + ((961 : Int64) * (i10).toInt64))]) C dL_sum_41 tw_1199 tw_1200 tw_24 tw_1201 gd_L_asked rfl ⟨by decide, by decide⟩ (by simp [gcat, gcI, gcL, gcF, gcD]) ⟨(by show (0 + 75) + 1 ≤ 1044; omega), (by show (0 + 450) + 6 ≤ 7616; omega)⟩ (m_L_asked hfl hf)) (Nat.add_assoc 0 75 1) (Nat.add_assoc 0 450 6) (fun E g9 h9 => h9.elim) (fun i12 g11 hf => ?_)
  refine gg_i2l C dL_sum_44 ?_
  refine gg_lmul C dL_sum_45 ?_
  refine gg_ladd C dL_sum_46 ?_
  refine gg_lstore_n (L' := [some (va_rf v0), some (.int i2), some (.int i4), some (.long ((((i6).toInt64 + ((31 : Int64) * (i8).toInt64)) + ((961 : Int64) * (i10).toInt64)) + ((7 : Int64) * (i12).toInt64))), none, none, none]) C dL_sum_47 (Or.inr (Or.inr ⟨_, rfl, rfl⟩)) (by decide) rfl ?_
  refine gg_iconst C dL_sum_48 (v := (0 : Int32)) (by decide) ?_
  refine gg_istore (L' := [some (va_rf v0), some (.int i2), some (.int i4), some (.long ((((i6).toInt64 + ((31 : Int64) * (i8).toInt64)) + ((961 : Int64) * (i10).toInt64)) + ((7 : Int64) * (i12).toInt64))), none, some (.int (0 : Int32)), none]) C dL_sum_49 (Or.inr (Or.inl rfl)) (by decide) rfl ?_
  exact hb_51 11 (0 + 76) (0 + 456) (by omega) (by omega) _ _ _ _ _ _ hf
