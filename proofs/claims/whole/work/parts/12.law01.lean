def w_L_law_b313 (X : Cx) (xs : Nat → Int32) (Ls b : Nat) (kI : GM → Prop) (v1 v2 v3 v4 : Option Nat) (v5 : Int32)  (g : GM) : Prop :=
  kI g
def w_law_0 (X : Cx) (xs : Nat → Int32) (Ls b : Nat) (kI : GM → Prop) (v1 v2 v3 v4 : Option Nat) (v5 : Int32) (g : GM) : Prop :=
  (vp_in (v5 + (1 : Int32)) Ls ∧ (vp_in (v5 + (2 : Int32)) Ls ∧ (vp_in (v5 + (3 : Int32)) Ls ∧ w_L_addDevice X (fun (i2 : Int32) (g1 : GM) => (vp_in (v5 + (1 : Int32)) Ls ∧ (vp_in (v5 + (2 : Int32)) Ls ∧ (vp_in (v5 + (3 : Int32)) Ls ∧ wIs g1 v2 8 (w_X8_addDevice X (fun (i4 : Int32) (g3 : GM) => wIs g3 v2 8 (w_X8_thrown X (fun (i6 : Int32) (g5 : GM) => (if i6 = i2 then (if i2 = 0 then wAldJ g5 v3 (0 : Int32) (fun (y7 : Int64) => (if (lg_cmp y7 ((i4).toInt64)) = 0 then w_L_law_b313 X xs Ls b kI v1 v2 v3 v4 v5 g5 else False)) else w_L_law_b313 X xs Ls b kI v1 v2 v3 v4 v5 g5) else False)) (fun _ _ => False) v2 g3)) (fun _ _ => False) v2 (xs ((v5 + (1 : Int32))).toNatClampNeg) (xs ((v5 + (2 : Int32))).toNatClampNeg) (xs ((v5 + (3 : Int32))).toNatClampNeg) g1))))) (fun _ _ => False) v1 (xs ((v5 + (1 : Int32))).toNatClampNeg) (xs ((v5 + (2 : Int32))).toNatClampNeg) (xs ((v5 + (3 : Int32))).toNatClampNeg) v3 g)))
set_option maxHeartbeats 4000000 in
set_option maxRecDepth 100000 in
theorem lc_0 {X : Cx} {p : Program} {l : Launch} {e : Env} {s : State} {m : MethodId} {args : Array Value} {below : List Frame} {meth : Method} {c : Code} {Q : State → Prop} {b Ls : Nat} {xs : Nat → Int32} (hfl : l.stackTraces = false) (C : FC X p l s m args meth c code 9 "ReleasetrainLaw") (hX : va_X b Ls xs s s.heap) (hbl : b < s.heap.size) (hbA : ¬ gA X b) {k n : Nat} (hk : k + 60 ≤ 603072) (hn : n + 4000 ≤ 7186538) {v1 v2 v3 v4 : Option Nat} {v5 : Int32} {kI : GM → Prop} (hkI : ∀ g, kI g → GG X p l e room_1 s m args below meth c 9 Q (k + 60) (n + 4000) 2917 [some (va_rf (some b)), some (va_rf v1), some (va_rf v2), some (va_rf v3), some (va_rf v4), some (.int v5), none, none, none] [] g) {g : GM} (hf : w_law_0 X xs Ls b kI v1 v2 v3 v4 v5 g) : GG X p l e room_1 s m args below meth c 9 Q k n 236 [some (va_rf (some b)), some (va_rf v1), some (va_rf v2), some (va_rf v3), some (va_rf v4), some (.int v5), none, none, none] [] g := by
  have hb_313 : ∀  (g : GM), w_L_law_b313 X xs Ls b kI v1 v2 v3 v4 v5  g → GG X p l e room_1 s m args below meth c 9 Q (k + 6) (n + 240) 313 [some (va_rf (some b)), some (va_rf v1), some (va_rf v2), some (va_rf v3), some (va_rf v4), some (.int v5), none, none, none] [] g := by
    intro  g hf
    unfold w_L_law_b313 at hf
    refine gg_goto (tgt := 2917) C dL_law_313 (by decide) ?_
    exact gg_widen (k' := k + 60) (n' := n + 4000) (by omega) (by omega) (hkI _ hf)
  unfold w_law_0 at hf
  refine gg_aload_n C dL_law_236 rfl ?_
  refine gg_aload_n C dL_law_237 rfl ?_
  refine gg_iload C dL_law_238 rfl ?_
  refine gg_iconst C dL_law_240 (v := (1 : Int32)) (by decide) ?_
  refine gg_iadd C dL_law_241 ?_
  refine gg_sld C hX hbl hbA dL_law_242 hf.1 ?_
  replace hf := hf.2
  refine gg_aload_n C dL_law_243 rfl ?_
  refine gg_iload C dL_law_244 rfl ?_
  refine gg_iconst C dL_law_246 (v := (2 : Int32)) (by decide) ?_
  refine gg_iadd C dL_law_247 ?_
  refine gg_sld C hX hbl hbA dL_law_248 hf.1 ?_
  replace hf := hf.2
  refine gg_aload_n C dL_law_249 rfl ?_
  refine gg_iload C dL_law_250 rfl ?_
  refine gg_iconst C dL_law_252 (v := (3 : Int32)) (by decide) ?_
  refine gg_iadd C dL_law_253 ?_
  refine gg_sld C hX hbl hbA dL_law_254 hf.1 ?_
  replace hf := hf.2
  refine gg_aload_n C dL_law_255 rfl ?_
  refine gr_I (k' := k + 6) (n' := n + 240) (gk_SW (As := [va_rf v1, .int (xs ((v5 + (1 : Int32))).toNatClampNeg), .int (xs ((v5 + (2 : Int32))).toNatClampNeg), .int (xs ((v5 + (3 : Int32))).toNatClampNeg), va_rf v3]) (rest := []) C dL_law_256 tw_221 tw_222 tw_46 tw_223 gd_L_addDevice rfl ⟨by decide, by decide⟩ (by simp [gcat, gcI, gcL, gcF, gcD]) ⟨(by show k + 6 ≤ 603072; omega), (by show n + 240 ≤ 7186538; omega)⟩ (m_L_addDevice hfl hf)) rfl rfl (fun E g9 h9 => h9.elim) (fun i2 g1 hf => ?_)
  refine gg_istore (L' := [some (va_rf (some b)), some (va_rf v1), some (va_rf v2), some (va_rf v3), some (va_rf v4), some (.int v5), some (.int i2), none, none]) C dL_law_259 (Or.inr (Or.inr ⟨_, rfl, rfl⟩)) (by decide) rfl ?_
  refine gg_aload_n C dL_law_261 rfl ?_
  refine gg_aload_n C dL_law_262 rfl ?_
  refine gg_iload C dL_law_263 rfl ?_
  refine gg_iconst C dL_law_265 (v := (1 : Int32)) (by decide) ?_
  refine gg_iadd C dL_law_266 ?_
  refine gg_sld C hX hbl hbA dL_law_267 hf.1 ?_
  replace hf := hf.2
  refine gg_aload_n C dL_law_268 rfl ?_
  refine gg_iload C dL_law_269 rfl ?_
  refine gg_iconst C dL_law_271 (v := (2 : Int32)) (by decide) ?_
  refine gg_iadd C dL_law_272 ?_
  refine gg_sld C hX hbl hbA dL_law_273 hf.1 ?_
  replace hf := hf.2
  refine gg_aload_n C dL_law_274 rfl ?_
  refine gg_iload C dL_law_275 rfl ?_
  refine gg_iconst C dL_law_277 (v := (3 : Int32)) (by decide) ?_
  refine gg_iadd C dL_law_278 ?_
  refine gg_sld C hX hbl hbA dL_law_279 hf.1 ?_
  replace hf := hf.2
  refine gr_I (k' := k + 6) (n' := n + 240) (gk_V (ci := 8) (As := [.int (xs ((v5 + (1 : Int32))).toNatClampNeg), .int (xs ((v5 + (2 : Int32))).toNatClampNeg), .int (xs ((v5 + (3 : Int32))).toNatClampNeg)]) (rest := []) C dL_law_280 rfl rfl tw_1576 tw_1577 tw_1578 tw_56 tw_1579 gd_X8_addDevice rfl ⟨by decide, by decide⟩ (by simp [gcat, gcI, gcL, gcF, gcD]) ⟨(by show k + 6 + 0 ≤ 603072; omega), (by show n + 240 + 0 ≤ 7186538; omega)⟩ hf (fun hf => m_X8_addDevice hfl hf)) rfl rfl (fun E g9 h9 => h9.elim) (fun i4 g3 hf => ?_)
  refine gg_istore (L' := [some (va_rf (some b)), some (va_rf v1), some (va_rf v2), some (va_rf v3), some (va_rf v4), some (.int v5), some (.int i2), some (.int i4), none]) C dL_law_283 (Or.inr (Or.inr ⟨_, rfl, rfl⟩)) (by decide) rfl ?_
  refine gg_aload_n C dL_law_285 rfl ?_
  refine gr_I (k' := k + 6) (n' := n + 240) (gk_V (ci := 8) (As := []) (rest := []) C dL_law_286 rfl rfl tw_1572 tw_1573 tw_1574 tw_56 tw_1575 gd_X8_thrown rfl ⟨by decide, by decide⟩ (by simp [gcat, gcI, gcL, gcF, gcD]) ⟨(by show k + 6 + 0 ≤ 603072; omega), (by show n + 240 + 0 ≤ 7186538; omega)⟩ hf (fun hf => m_X8_thrown hfl hf)) rfl rfl (fun E g9 h9 => h9.elim) (fun i6 g5 hf => ?_)
  refine gg_iload C dL_law_289 rfl ?_
  refine gg_icmp_eq (tgt := 296) C dL_law_291 (by decide) hf (fun hf => ?_) (fun hf => ?_)
  · refine gg_iload C dL_law_296 rfl ?_
    refine gg_if_ne (tgt := 313) C dL_law_298 (by decide) hf (fun hf => ?_) (fun hf => ?_)
    · exact gg_sub (L' := [some (va_rf (some b)), some (va_rf v1), some (va_rf v2), some (va_rf v3), some (va_rf v4), some (.int v5), none, none, none]) (by first | exact ⟨rfl, ⟨rfl, ⟨rfl, ⟨rfl, ⟨rfl, ⟨rfl, trivial⟩⟩⟩⟩⟩⟩ | simp [gsub]) (hb_313 _ hf)
    · refine gg_aload_n C dL_law_301 rfl ?_
      refine gg_iconst C dL_law_302 (v := (0 : Int32)) (by decide) ?_
      refine gg_lald C dL_law_303 hf (fun y7 hf => ?_)
      refine gg_iload C dL_law_304 rfl ?_
      refine gg_i2l C dL_law_306 ?_
      refine gg_lcmp C dL_law_307 ?_
      refine gg_if_eq (tgt := 313) C dL_law_308 (by decide) hf (fun hf => ?_) (fun hf => ?_)
      · exact gg_sub (L' := [some (va_rf (some b)), some (va_rf v1), some (va_rf v2), some (va_rf v3), some (va_rf v4), some (.int v5), none, none, none]) (by first | exact ⟨rfl, ⟨rfl, ⟨rfl, ⟨rfl, ⟨rfl, ⟨rfl, trivial⟩⟩⟩⟩⟩⟩ | simp [gsub]) (hb_313 _ hf)
      · refine gg_iconst C dL_law_311 (v := (0 : Int32)) (by decide) ?_
        exact hf.elim
  · refine gg_iconst C dL_law_294 (v := (0 : Int32)) (by decide) ?_
    exact hf.elim

def w_L_law_b431 (X : Cx) (xs : Nat → Int32) (Ls b : Nat) (kI : GM → Prop) (v1 v2 v3 v4 : Option Nat) (v5 : Int32)  (g : GM) : Prop :=
  kI g
def w_law_1 (X : Cx) (xs : Nat → Int32) (Ls b : Nat) (kI : GM → Prop) (v1 v2 v3 v4 : Option Nat) (v5 : Int32) (g : GM) : Prop :=
  (vp_in (v5 + (1 : Int32)) Ls ∧ (vp_in (v5 + (2 : Int32)) Ls ∧ (vp_in (v5 + (3 : Int32)) Ls ∧ (vp_in (v5 + (4 : Int32)) Ls ∧ (vp_in (v5 + (5 : Int32)) Ls ∧ (vp_in (v5 + (6 : Int32)) Ls ∧ w_L_addBuild X (fun (i2 : Int32) (g1 : GM) => (vp_in (v5 + (1 : Int32)) Ls ∧ (vp_in (v5 + (2 : Int32)) Ls ∧ (vp_in (v5 + (3 : Int32)) Ls ∧ (vp_in (v5 + (4 : Int32)) Ls ∧ (vp_in (v5 + (5 : Int32)) Ls ∧ (vp_in (v5 + (6 : Int32)) Ls ∧ wIs g1 v2 8 (w_X8_addBuild X (fun (i4 : Int32) (g3 : GM) => wIs g3 v2 8 (w_X8_thrown X (fun (i6 : Int32) (g5 : GM) => (if i6 = i2 then (if i2 = 0 then wAldJ g5 v3 (0 : Int32) (fun (y7 : Int64) => (if (lg_cmp y7 ((i4).toInt64)) = 0 then w_L_law_b431 X xs Ls b kI v1 v2 v3 v4 v5 g5 else False)) else w_L_law_b431 X xs Ls b kI v1 v2 v3 v4 v5 g5) else False)) (fun _ _ => False) v2 g3)) (fun _ _ => False) v2 (xs ((v5 + (1 : Int32))).toNatClampNeg) (xs ((v5 + (2 : Int32))).toNatClampNeg) (xs ((v5 + (3 : Int32))).toNatClampNeg) (xs ((v5 + (4 : Int32))).toNatClampNeg) (xs ((v5 + (5 : Int32))).toNatClampNeg) (xs ((v5 + (6 : Int32))).toNatClampNeg) g1)))))))) (fun _ _ => False) v1 (xs ((v5 + (1 : Int32))).toNatClampNeg) (xs ((v5 + (2 : Int32))).toNatClampNeg) (xs ((v5 + (3 : Int32))).toNatClampNeg) (xs ((v5 + (4 : Int32))).toNatClampNeg) (xs ((v5 + (5 : Int32))).toNatClampNeg) (xs ((v5 + (6 : Int32))).toNatClampNeg) v3 g))))))
set_option maxHeartbeats 4000000 in
set_option maxRecDepth 100000 in
theorem lc_1 {X : Cx} {p : Program} {l : Launch} {e : Env} {s : State} {m : MethodId} {args : Array Value} {below : List Frame} {meth : Method} {c : Code} {Q : State → Prop} {b Ls : Nat} {xs : Nat → Int32} (hfl : l.stackTraces = false) (C : FC X p l s m args meth c code 9 "ReleasetrainLaw") (hX : va_X b Ls xs s s.heap) (hbl : b < s.heap.size) (hbA : ¬ gA X b) {k n : Nat} (hk : k + 60 ≤ 603072) (hn : n + 4000 ≤ 7186538) {v1 v2 v3 v4 : Option Nat} {v5 : Int32} {kI : GM → Prop} (hkI : ∀ g, kI g → GG X p l e room_1 s m args below meth c 9 Q (k + 60) (n + 4000) 2917 [some (va_rf (some b)), some (va_rf v1), some (va_rf v2), some (va_rf v3), some (va_rf v4), some (.int v5), none, none, none] [] g) {g : GM} (hf : w_law_1 X xs Ls b kI v1 v2 v3 v4 v5 g) : GG X p l e room_1 s m args below meth c 9 Q k n 316 [some (va_rf (some b)), some (va_rf v1), some (va_rf v2), some (va_rf v3), some (va_rf v4), some (.int v5), none, none, none] [] g := by
  have hb_431 : ∀  (g : GM), w_L_law_b431 X xs Ls b kI v1 v2 v3 v4 v5  g → GG X p l e room_1 s m args below meth c 9 Q (k + 5) (n + 186) 431 [some (va_rf (some b)), some (va_rf v1), some (va_rf v2), some (va_rf v3), some (va_rf v4), some (.int v5), none, none, none] [] g := by
    intro  g hf
    unfold w_L_law_b431 at hf
    refine gg_goto (tgt := 2917) C dL_law_431 (by decide) ?_
    exact gg_widen (k' := k + 60) (n' := n + 4000) (by omega) (by omega) (hkI _ hf)
  unfold w_law_1 at hf
  refine gg_aload_n C dL_law_316 rfl ?_
  refine gg_aload_n C dL_law_317 rfl ?_
  refine gg_iload C dL_law_318 rfl ?_
  refine gg_iconst C dL_law_320 (v := (1 : Int32)) (by decide) ?_
  refine gg_iadd C dL_law_321 ?_
  refine gg_sld C hX hbl hbA dL_law_322 hf.1 ?_
  replace hf := hf.2
  refine gg_aload_n C dL_law_323 rfl ?_
  refine gg_iload C dL_law_324 rfl ?_
  refine gg_iconst C dL_law_326 (v := (2 : Int32)) (by decide) ?_
  refine gg_iadd C dL_law_327 ?_
  refine gg_sld C hX hbl hbA dL_law_328 hf.1 ?_
  replace hf := hf.2
  refine gg_aload_n C dL_law_329 rfl ?_
  refine gg_iload C dL_law_330 rfl ?_
  refine gg_iconst C dL_law_332 (v := (3 : Int32)) (by decide) ?_
  refine gg_iadd C dL_law_333 ?_
  refine gg_sld C hX hbl hbA dL_law_334 hf.1 ?_
  replace hf := hf.2
  refine gg_aload_n C dL_law_335 rfl ?_
  refine gg_iload C dL_law_336 rfl ?_
  refine gg_iconst C dL_law_338 (v := (4 : Int32)) (by decide) ?_
  refine gg_iadd C dL_law_339 ?_
  refine gg_sld C hX hbl hbA dL_law_340 hf.1 ?_
  replace hf := hf.2
  refine gg_aload_n C dL_law_341 rfl ?_
  refine gg_iload C dL_law_342 rfl ?_
  refine gg_iconst C dL_law_344 (v := (5 : Int32)) (by decide) ?_
  refine gg_iadd C dL_law_345 ?_
  refine gg_sld C hX hbl hbA dL_law_346 hf.1 ?_
  replace hf := hf.2
  refine gg_aload_n C dL_law_347 rfl ?_
  refine gg_iload C dL_law_348 rfl ?_
  refine gg_bipush C dL_law_350 (v := (6 : Int32)) (by decide) ?_
  refine gg_iadd C dL_law_352 ?_
  refine gg_sld C hX hbl hbA dL_law_353 hf.1 ?_
  replace hf := hf.2
  refine gg_aload_n C dL_law_354 rfl ?_
  refine gr_I (k' := k + 5) (n' := n + 186) (gk_SW (As := [va_rf v1, .int (xs ((v5 + (1 : Int32))).toNatClampNeg), .int (xs ((v5 + (2 : Int32))).toNatClampNeg), .int (xs ((v5 + (3 : Int32))).toNatClampNeg), .int (xs ((v5 + (4 : Int32))).toNatClampNeg), .int (xs ((v5 + (5 : Int32))).toNatClampNeg), .int (xs ((v5 + (6 : Int32))).toNatClampNeg), va_rf v3]) (rest := []) C dL_law_355 tw_475 tw_476 tw_46 tw_477 gd_L_addBuild rfl ⟨by decide, by decide⟩ (by simp [gcat, gcI, gcL, gcF, gcD]) ⟨(by show k + 5 ≤ 603072; omega), (by show n + 186 ≤ 7186538; omega)⟩ (m_L_addBuild hfl hf)) rfl rfl (fun E g9 h9 => h9.elim) (fun i2 g1 hf => ?_)
  refine gg_istore (L' := [some (va_rf (some b)), some (va_rf v1), some (va_rf v2), some (va_rf v3), some (va_rf v4), some (.int v5), some (.int i2), none, none]) C dL_law_358 (Or.inr (Or.inr ⟨_, rfl, rfl⟩)) (by decide) rfl ?_
  refine gg_aload_n C dL_law_360 rfl ?_
  refine gg_aload_n C dL_law_361 rfl ?_
  refine gg_iload C dL_law_362 rfl ?_
  refine gg_iconst C dL_law_364 (v := (1 : Int32)) (by decide) ?_
  refine gg_iadd C dL_law_365 ?_
  refine gg_sld C hX hbl hbA dL_law_366 hf.1 ?_
  replace hf := hf.2
  refine gg_aload_n C dL_law_367 rfl ?_
  refine gg_iload C dL_law_368 rfl ?_
  refine gg_iconst C dL_law_370 (v := (2 : Int32)) (by decide) ?_
  refine gg_iadd C dL_law_371 ?_
  refine gg_sld C hX hbl hbA dL_law_372 hf.1 ?_
  replace hf := hf.2
  refine gg_aload_n C dL_law_373 rfl ?_
  refine gg_iload C dL_law_374 rfl ?_
  refine gg_iconst C dL_law_376 (v := (3 : Int32)) (by decide) ?_
  refine gg_iadd C dL_law_377 ?_
  refine gg_sld C hX hbl hbA dL_law_378 hf.1 ?_
  replace hf := hf.2
  refine gg_aload_n C dL_law_379 rfl ?_
  refine gg_iload C dL_law_380 rfl ?_
  refine gg_iconst C dL_law_382 (v := (4 : Int32)) (by decide) ?_
  refine gg_iadd C dL_law_383 ?_
  refine gg_sld C hX hbl hbA dL_law_384 hf.1 ?_
  replace hf := hf.2
  refine gg_aload_n C dL_law_385 rfl ?_
  refine gg_iload C dL_law_386 rfl ?_
  refine gg_iconst C dL_law_388 (v := (5 : Int32)) (by decide) ?_
  refine gg_iadd C dL_law_389 ?_
  refine gg_sld C hX hbl hbA dL_law_390 hf.1 ?_
  replace hf := hf.2
  refine gg_aload_n C dL_law_391 rfl ?_
  refine gg_iload C dL_law_392 rfl ?_
  refine gg_bipush C dL_law_394 (v := (6 : Int32)) (by decide) ?_
  refine gg_iadd C dL_law_396 ?_
  refine gg_sld C hX hbl hbA dL_law_397 hf.1 ?_
  replace hf := hf.2
  refine gr_I (k' := k + 5) (n' := n + 186) (gk_V (ci := 8) (As := [.int (xs ((v5 + (1 : Int32))).toNatClampNeg), .int (xs ((v5 + (2 : Int32))).toNatClampNeg), .int (xs ((v5 + (3 : Int32))).toNatClampNeg), .int (xs ((v5 + (4 : Int32))).toNatClampNeg), .int (xs ((v5 + (5 : Int32))).toNatClampNeg), .int (xs ((v5 + (6 : Int32))).toNatClampNeg)]) (rest := []) C dL_law_398 rfl rfl tw_1583 tw_1584 tw_1585 tw_56 tw_1586 gd_X8_addBuild rfl ⟨by decide, by decide⟩ (by simp [gcat, gcI, gcL, gcF, gcD]) ⟨(by show k + 5 + 0 ≤ 603072; omega), (by show n + 186 + 0 ≤ 7186538; omega)⟩ hf (fun hf => m_X8_addBuild hfl hf)) rfl rfl (fun E g9 h9 => h9.elim) (fun i4 g3 hf => ?_)
  refine gg_istore (L' := [some (va_rf (some b)), some (va_rf v1), some (va_rf v2), some (va_rf v3), some (va_rf v4), some (.int v5), some (.int i2), some (.int i4), none]) C dL_law_401 (Or.inr (Or.inr ⟨_, rfl, rfl⟩)) (by decide) rfl ?_
  refine gg_aload_n C dL_law_403 rfl ?_
  refine gr_I (k' := k + 5) (n' := n + 186) (gk_V (ci := 8) (As := []) (rest := []) C dL_law_404 rfl rfl tw_1572 tw_1573 tw_1574 tw_56 tw_1575 gd_X8_thrown rfl ⟨by decide, by decide⟩ (by simp [gcat, gcI, gcL, gcF, gcD]) ⟨(by show k + 5 + 0 ≤ 603072; omega), (by show n + 186 + 0 ≤ 7186538; omega)⟩ hf (fun hf => m_X8_thrown hfl hf)) rfl rfl (fun E g9 h9 => h9.elim) (fun i6 g5 hf => ?_)
  refine gg_iload C dL_law_407 rfl ?_
  refine gg_icmp_eq (tgt := 414) C dL_law_409 (by decide) hf (fun hf => ?_) (fun hf => ?_)
  · refine gg_iload C dL_law_414 rfl ?_
    refine gg_if_ne (tgt := 431) C dL_law_416 (by decide) hf (fun hf => ?_) (fun hf => ?_)
    · exact gg_sub (L' := [some (va_rf (some b)), some (va_rf v1), some (va_rf v2), some (va_rf v3), some (va_rf v4), some (.int v5), none, none, none]) (by first | exact ⟨rfl, ⟨rfl, ⟨rfl, ⟨rfl, ⟨rfl, ⟨rfl, trivial⟩⟩⟩⟩⟩⟩ | simp [gsub]) (hb_431 _ hf)
    · refine gg_aload_n C dL_law_419 rfl ?_
      refine gg_iconst C dL_law_420 (v := (0 : Int32)) (by decide) ?_
      refine gg_lald C dL_law_421 hf (fun y7 hf => ?_)
      refine gg_iload C dL_law_422 rfl ?_
      refine gg_i2l C dL_law_424 ?_
      refine gg_lcmp C dL_law_425 ?_
      refine gg_if_eq (tgt := 431) C dL_law_426 (by decide) hf (fun hf => ?_) (fun hf => ?_)
      · exact gg_sub (L' := [some (va_rf (some b)), some (va_rf v1), some (va_rf v2), some (va_rf v3), some (va_rf v4), some (.int v5), none, none, none]) (by first | exact ⟨rfl, ⟨rfl, ⟨rfl, ⟨rfl, ⟨rfl, ⟨rfl, trivial⟩⟩⟩⟩⟩⟩ | simp [gsub]) (hb_431 _ hf)
      · refine gg_iconst C dL_law_429 (v := (0 : Int32)) (by decide) ?_
        exact hf.elim
  · refine gg_iconst C dL_law_412 (v := (0 : Int32)) (by decide) ?_
    exact hf.elim

def w_L_law_b523 (X : Cx) (xs : Nat → Int32) (Ls b : Nat) (kI : GM → Prop) (v1 v2 v3 v4 : Option Nat) (v5 : Int32)  (g : GM) : Prop :=
  kI g
def w_law_2 (X : Cx) (xs : Nat → Int32) (Ls b : Nat) (kI : GM → Prop) (v1 v2 v3 v4 : Option Nat) (v5 : Int32) (g : GM) : Prop :=
  (vp_in (v5 + (1 : Int32)) Ls ∧ (vp_in (v5 + (2 : Int32)) Ls ∧ (vp_in (v5 + (3 : Int32)) Ls ∧ (vp_in (v5 + (4 : Int32)) Ls ∧ w_L_addFix X (fun (i2 : Int32) (g1 : GM) => (vp_in (v5 + (1 : Int32)) Ls ∧ (vp_in (v5 + (2 : Int32)) Ls ∧ (vp_in (v5 + (3 : Int32)) Ls ∧ (vp_in (v5 + (4 : Int32)) Ls ∧ wIs g1 v2 8 (w_X8_addFix X (fun (i4 : Int32) (g3 : GM) => wIs g3 v2 8 (w_X8_thrown X (fun (i6 : Int32) (g5 : GM) => (if i6 = i2 then (if i2 = 0 then wAldJ g5 v3 (0 : Int32) (fun (y7 : Int64) => (if (lg_cmp y7 ((i4).toInt64)) = 0 then w_L_law_b523 X xs Ls b kI v1 v2 v3 v4 v5 g5 else False)) else w_L_law_b523 X xs Ls b kI v1 v2 v3 v4 v5 g5) else False)) (fun _ _ => False) v2 g3)) (fun _ _ => False) v2 (xs ((v5 + (1 : Int32))).toNatClampNeg) (xs ((v5 + (2 : Int32))).toNatClampNeg) (xs ((v5 + (3 : Int32))).toNatClampNeg) (xs ((v5 + (4 : Int32))).toNatClampNeg) g1)))))) (fun _ _ => False) v1 (xs ((v5 + (1 : Int32))).toNatClampNeg) (xs ((v5 + (2 : Int32))).toNatClampNeg) (xs ((v5 + (3 : Int32))).toNatClampNeg) (xs ((v5 + (4 : Int32))).toNatClampNeg) v3 g))))
set_option maxHeartbeats 4000000 in
set_option maxRecDepth 100000 in
theorem lc_2 {X : Cx} {p : Program} {l : Launch} {e : Env} {s : State} {m : MethodId} {args : Array Value} {below : List Frame} {meth : Method} {c : Code} {Q : State → Prop} {b Ls : Nat} {xs : Nat → Int32} (hfl : l.stackTraces = false) (C : FC X p l s m args meth c code 9 "ReleasetrainLaw") (hX : va_X b Ls xs s s.heap) (hbl : b < s.heap.size) (hbA : ¬ gA X b) {k n : Nat} (hk : k + 60 ≤ 603072) (hn : n + 4000 ≤ 7186538) {v1 v2 v3 v4 : Option Nat} {v5 : Int32} {kI : GM → Prop} (hkI : ∀ g, kI g → GG X p l e room_1 s m args below meth c 9 Q (k + 60) (n + 4000) 2917 [some (va_rf (some b)), some (va_rf v1), some (va_rf v2), some (va_rf v3), some (va_rf v4), some (.int v5), none, none, none] [] g) {g : GM} (hf : w_law_2 X xs Ls b kI v1 v2 v3 v4 v5 g) : GG X p l e room_1 s m args below meth c 9 Q k n 434 [some (va_rf (some b)), some (va_rf v1), some (va_rf v2), some (va_rf v3), some (va_rf v4), some (.int v5), none, none, none] [] g := by
  have hb_523 : ∀  (g : GM), w_L_law_b523 X xs Ls b kI v1 v2 v3 v4 v5  g → GG X p l e room_1 s m args below meth c 9 Q (k + 5) (n + 189) 523 [some (va_rf (some b)), some (va_rf v1), some (va_rf v2), some (va_rf v3), some (va_rf v4), some (.int v5), none, none, none] [] g := by
    intro  g hf
    unfold w_L_law_b523 at hf
    refine gg_goto (tgt := 2917) C dL_law_523 (by decide) ?_
    exact gg_widen (k' := k + 60) (n' := n + 4000) (by omega) (by omega) (hkI _ hf)
  unfold w_law_2 at hf
  refine gg_aload_n C dL_law_434 rfl ?_
  refine gg_aload_n C dL_law_435 rfl ?_
  refine gg_iload C dL_law_436 rfl ?_
  refine gg_iconst C dL_law_438 (v := (1 : Int32)) (by decide) ?_
  refine gg_iadd C dL_law_439 ?_
  refine gg_sld C hX hbl hbA dL_law_440 hf.1 ?_
  replace hf := hf.2
  refine gg_aload_n C dL_law_441 rfl ?_
  refine gg_iload C dL_law_442 rfl ?_
  refine gg_iconst C dL_law_444 (v := (2 : Int32)) (by decide) ?_
  refine gg_iadd C dL_law_445 ?_
  refine gg_sld C hX hbl hbA dL_law_446 hf.1 ?_
  replace hf := hf.2
  refine gg_aload_n C dL_law_447 rfl ?_
  refine gg_iload C dL_law_448 rfl ?_
  refine gg_iconst C dL_law_450 (v := (3 : Int32)) (by decide) ?_
  refine gg_iadd C dL_law_451 ?_
  refine gg_sld C hX hbl hbA dL_law_452 hf.1 ?_
  replace hf := hf.2
  refine gg_aload_n C dL_law_453 rfl ?_
  refine gg_iload C dL_law_454 rfl ?_
  refine gg_iconst C dL_law_456 (v := (4 : Int32)) (by decide) ?_
  refine gg_iadd C dL_law_457 ?_
  refine gg_sld C hX hbl hbA dL_law_458 hf.1 ?_
  replace hf := hf.2
  refine gg_aload_n C dL_law_459 rfl ?_
  refine gr_I (k' := k + 5) (n' := n + 189) (gk_SW (As := [va_rf v1, .int (xs ((v5 + (1 : Int32))).toNatClampNeg), .int (xs ((v5 + (2 : Int32))).toNatClampNeg), .int (xs ((v5 + (3 : Int32))).toNatClampNeg), .int (xs ((v5 + (4 : Int32))).toNatClampNeg), va_rf v3]) (rest := []) C dL_law_460 tw_583 tw_584 tw_46 tw_585 gd_L_addFix rfl ⟨by decide, by decide⟩ (by simp [gcat, gcI, gcL, gcF, gcD]) ⟨(by show k + 5 ≤ 603072; omega), (by show n + 189 ≤ 7186538; omega)⟩ (m_L_addFix hfl hf)) rfl rfl (fun E g9 h9 => h9.elim) (fun i2 g1 hf => ?_)
  refine gg_istore (L' := [some (va_rf (some b)), some (va_rf v1), some (va_rf v2), some (va_rf v3), some (va_rf v4), some (.int v5), some (.int i2), none, none]) C dL_law_463 (Or.inr (Or.inr ⟨_, rfl, rfl⟩)) (by decide) rfl ?_
  refine gg_aload_n C dL_law_465 rfl ?_
  refine gg_aload_n C dL_law_466 rfl ?_
  refine gg_iload C dL_law_467 rfl ?_
  refine gg_iconst C dL_law_469 (v := (1 : Int32)) (by decide) ?_
  refine gg_iadd C dL_law_470 ?_
  refine gg_sld C hX hbl hbA dL_law_471 hf.1 ?_
  replace hf := hf.2
  refine gg_aload_n C dL_law_472 rfl ?_
  refine gg_iload C dL_law_473 rfl ?_
  refine gg_iconst C dL_law_475 (v := (2 : Int32)) (by decide) ?_
  refine gg_iadd C dL_law_476 ?_
  refine gg_sld C hX hbl hbA dL_law_477 hf.1 ?_
  replace hf := hf.2
  refine gg_aload_n C dL_law_478 rfl ?_
  refine gg_iload C dL_law_479 rfl ?_
  refine gg_iconst C dL_law_481 (v := (3 : Int32)) (by decide) ?_
  refine gg_iadd C dL_law_482 ?_
  refine gg_sld C hX hbl hbA dL_law_483 hf.1 ?_
  replace hf := hf.2
  refine gg_aload_n C dL_law_484 rfl ?_
  refine gg_iload C dL_law_485 rfl ?_
  refine gg_iconst C dL_law_487 (v := (4 : Int32)) (by decide) ?_
  refine gg_iadd C dL_law_488 ?_
  refine gg_sld C hX hbl hbA dL_law_489 hf.1 ?_
  replace hf := hf.2
  refine gr_I (k' := k + 5) (n' := n + 189) (gk_V (ci := 8) (As := [.int (xs ((v5 + (1 : Int32))).toNatClampNeg), .int (xs ((v5 + (2 : Int32))).toNatClampNeg), .int (xs ((v5 + (3 : Int32))).toNatClampNeg), .int (xs ((v5 + (4 : Int32))).toNatClampNeg)]) (rest := []) C dL_law_490 rfl rfl tw_1595 tw_1596 tw_1597 tw_56 tw_1598 gd_X8_addFix rfl ⟨by decide, by decide⟩ (by simp [gcat, gcI, gcL, gcF, gcD]) ⟨(by show k + 5 + 0 ≤ 603072; omega), (by show n + 189 + 0 ≤ 7186538; omega)⟩ hf (fun hf => m_X8_addFix hfl hf)) rfl rfl (fun E g9 h9 => h9.elim) (fun i4 g3 hf => ?_)
  refine gg_istore (L' := [some (va_rf (some b)), some (va_rf v1), some (va_rf v2), some (va_rf v3), some (va_rf v4), some (.int v5), some (.int i2), some (.int i4), none]) C dL_law_493 (Or.inr (Or.inr ⟨_, rfl, rfl⟩)) (by decide) rfl ?_
  refine gg_aload_n C dL_law_495 rfl ?_
  refine gr_I (k' := k + 5) (n' := n + 189) (gk_V (ci := 8) (As := []) (rest := []) C dL_law_496 rfl rfl tw_1572 tw_1573 tw_1574 tw_56 tw_1575 gd_X8_thrown rfl ⟨by decide, by decide⟩ (by simp [gcat, gcI, gcL, gcF, gcD]) ⟨(by show k + 5 + 0 ≤ 603072; omega), (by show n + 189 + 0 ≤ 7186538; omega)⟩ hf (fun hf => m_X8_thrown hfl hf)) rfl rfl (fun E g9 h9 => h9.elim) (fun i6 g5 hf => ?_)
  refine gg_iload C dL_law_499 rfl ?_
  refine gg_icmp_eq (tgt := 506) C dL_law_501 (by decide) hf (fun hf => ?_) (fun hf => ?_)
  · refine gg_iload C dL_law_506 rfl ?_
    refine gg_if_ne (tgt := 523) C dL_law_508 (by decide) hf (fun hf => ?_) (fun hf => ?_)
    · exact gg_sub (L' := [some (va_rf (some b)), some (va_rf v1), some (va_rf v2), some (va_rf v3), some (va_rf v4), some (.int v5), none, none, none]) (by first | exact ⟨rfl, ⟨rfl, ⟨rfl, ⟨rfl, ⟨rfl, ⟨rfl, trivial⟩⟩⟩⟩⟩⟩ | simp [gsub]) (hb_523 _ hf)
    · refine gg_aload_n C dL_law_511 rfl ?_
      refine gg_iconst C dL_law_512 (v := (0 : Int32)) (by decide) ?_
      refine gg_lald C dL_law_513 hf (fun y7 hf => ?_)
      refine gg_iload C dL_law_514 rfl ?_
      refine gg_i2l C dL_law_516 ?_
      refine gg_lcmp C dL_law_517 ?_
      refine gg_if_eq (tgt := 523) C dL_law_518 (by decide) hf (fun hf => ?_) (fun hf => ?_)
      · exact gg_sub (L' := [some (va_rf (some b)), some (va_rf v1), some (va_rf v2), some (va_rf v3), some (va_rf v4), some (.int v5), none, none, none]) (by first | exact ⟨rfl, ⟨rfl, ⟨rfl, ⟨rfl, ⟨rfl, ⟨rfl, trivial⟩⟩⟩⟩⟩⟩ | simp [gsub]) (hb_523 _ hf)
      · refine gg_iconst C dL_law_521 (v := (0 : Int32)) (by decide) ?_
        exact hf.elim
  · refine gg_iconst C dL_law_504 (v := (0 : Int32)) (by decide) ?_
    exact hf.elim

def w_L_law_b579 (X : Cx) (xs : Nat → Int32) (Ls b : Nat) (kI : GM → Prop) (v1 v2 v3 v4 : Option Nat) (v5 : Int32)  (g : GM) : Prop :=
  kI g
def w_law_3 (X : Cx) (xs : Nat → Int32) (Ls b : Nat) (kI : GM → Prop) (v1 v2 v3 v4 : Option Nat) (v5 : Int32) (g : GM) : Prop :=
  (vp_in (v5 + (1 : Int32)) Ls ∧ w_L_submit X (fun (i2 : Int32) (g1 : GM) => (vp_in (v5 + (1 : Int32)) Ls ∧ wIs g1 v2 8 (w_X8_submit X (fun (i4 : Int32) (g3 : GM) => wIs g3 v2 8 (w_X8_thrown X (fun (i6 : Int32) (g5 : GM) => (if i6 = i2 then (if i2 = 0 then wAldJ g5 v3 (0 : Int32) (fun (y7 : Int64) => (if (lg_cmp y7 ((i4).toInt64)) = 0 then w_L_law_b579 X xs Ls b kI v1 v2 v3 v4 v5 g5 else False)) else w_L_law_b579 X xs Ls b kI v1 v2 v3 v4 v5 g5) else False)) (fun _ _ => False) v2 g3)) (fun _ _ => False) v2 (xs ((v5 + (1 : Int32))).toNatClampNeg) g1))) (fun _ _ => False) v1 (xs ((v5 + (1 : Int32))).toNatClampNeg) v3 g)
set_option maxHeartbeats 4000000 in
set_option maxRecDepth 100000 in
theorem lc_3 {X : Cx} {p : Program} {l : Launch} {e : Env} {s : State} {m : MethodId} {args : Array Value} {below : List Frame} {meth : Method} {c : Code} {Q : State → Prop} {b Ls : Nat} {xs : Nat → Int32} (hfl : l.stackTraces = false) (C : FC X p l s m args meth c code 9 "ReleasetrainLaw") (hX : va_X b Ls xs s s.heap) (hbl : b < s.heap.size) (hbA : ¬ gA X b) {k n : Nat} (hk : k + 60 ≤ 603072) (hn : n + 4000 ≤ 7186538) {v1 v2 v3 v4 : Option Nat} {v5 : Int32} {kI : GM → Prop} (hkI : ∀ g, kI g → GG X p l e room_1 s m args below meth c 9 Q (k + 60) (n + 4000) 2917 [some (va_rf (some b)), some (va_rf v1), some (va_rf v2), some (va_rf v3), some (va_rf v4), some (.int v5), none, none, none] [] g) {g : GM} (hf : w_law_3 X xs Ls b kI v1 v2 v3 v4 v5 g) : GG X p l e room_1 s m args below meth c 9 Q k n 526 [some (va_rf (some b)), some (va_rf v1), some (va_rf v2), some (va_rf v3), some (va_rf v4), some (.int v5), none, none, none] [] g := by
  have hb_579 : ∀  (g : GM), w_L_law_b579 X xs Ls b kI v1 v2 v3 v4 v5  g → GG X p l e room_1 s m args below meth c 9 Q (k + 2) (n + 12) 579 [some (va_rf (some b)), some (va_rf v1), some (va_rf v2), some (va_rf v3), some (va_rf v4), some (.int v5), none, none, none] [] g := by
    intro  g hf
    unfold w_L_law_b579 at hf
    refine gg_goto (tgt := 2917) C dL_law_579 (by decide) ?_
    exact gg_widen (k' := k + 60) (n' := n + 4000) (by omega) (by omega) (hkI _ hf)
  unfold w_law_3 at hf
  refine gg_aload_n C dL_law_526 rfl ?_
  refine gg_aload_n C dL_law_527 rfl ?_
  refine gg_iload C dL_law_528 rfl ?_
  refine gg_iconst C dL_law_530 (v := (1 : Int32)) (by decide) ?_
  refine gg_iadd C dL_law_531 ?_
  refine gg_sld C hX hbl hbA dL_law_532 hf.1 ?_
  replace hf := hf.2
  refine gg_aload_n C dL_law_533 rfl ?_
  refine gr_I (k' := k + 2) (n' := n + 12) (gk_SW (As := [va_rf v1, .int (xs ((v5 + (1 : Int32))).toNatClampNeg), va_rf v3]) (rest := []) C dL_law_534 tw_611 tw_612 tw_46 tw_613 gd_L_submit rfl ⟨by decide, by decide⟩ (by simp [gcat, gcI, gcL, gcF, gcD]) ⟨(by show k + 2 ≤ 603072; omega), (by show n + 12 ≤ 7186538; omega)⟩ (m_L_submit hfl hf)) rfl rfl (fun E g9 h9 => h9.elim) (fun i2 g1 hf => ?_)
  refine gg_istore (L' := [some (va_rf (some b)), some (va_rf v1), some (va_rf v2), some (va_rf v3), some (va_rf v4), some (.int v5), some (.int i2), none, none]) C dL_law_537 (Or.inr (Or.inr ⟨_, rfl, rfl⟩)) (by decide) rfl ?_
  refine gg_aload_n C dL_law_539 rfl ?_
  refine gg_aload_n C dL_law_540 rfl ?_
  refine gg_iload C dL_law_541 rfl ?_
  refine gg_iconst C dL_law_543 (v := (1 : Int32)) (by decide) ?_
  refine gg_iadd C dL_law_544 ?_
  refine gg_sld C hX hbl hbA dL_law_545 hf.1 ?_
  replace hf := hf.2
  refine gr_I (k' := k + 2) (n' := n + 12) (gk_V (ci := 8) (As := [.int (xs ((v5 + (1 : Int32))).toNatClampNeg)]) (rest := []) C dL_law_546 rfl rfl tw_1607 tw_1608 tw_1609 tw_56 tw_1610 gd_X8_submit rfl ⟨by decide, by decide⟩ (by simp [gcat, gcI, gcL, gcF, gcD]) ⟨(by show k + 2 + 0 ≤ 603072; omega), (by show n + 12 + 0 ≤ 7186538; omega)⟩ hf (fun hf => m_X8_submit hfl hf)) rfl rfl (fun E g9 h9 => h9.elim) (fun i4 g3 hf => ?_)
  refine gg_istore (L' := [some (va_rf (some b)), some (va_rf v1), some (va_rf v2), some (va_rf v3), some (va_rf v4), some (.int v5), some (.int i2), some (.int i4), none]) C dL_law_549 (Or.inr (Or.inr ⟨_, rfl, rfl⟩)) (by decide) rfl ?_
  refine gg_aload_n C dL_law_551 rfl ?_
  refine gr_I (k' := k + 2) (n' := n + 12) (gk_V (ci := 8) (As := []) (rest := []) C dL_law_552 rfl rfl tw_1572 tw_1573 tw_1574 tw_56 tw_1575 gd_X8_thrown rfl ⟨by decide, by decide⟩ (by simp [gcat, gcI, gcL, gcF, gcD]) ⟨(by show k + 2 + 0 ≤ 603072; omega), (by show n + 12 + 0 ≤ 7186538; omega)⟩ hf (fun hf => m_X8_thrown hfl hf)) rfl rfl (fun E g9 h9 => h9.elim) (fun i6 g5 hf => ?_)
  refine gg_iload C dL_law_555 rfl ?_
  refine gg_icmp_eq (tgt := 562) C dL_law_557 (by decide) hf (fun hf => ?_) (fun hf => ?_)
  · refine gg_iload C dL_law_562 rfl ?_
    refine gg_if_ne (tgt := 579) C dL_law_564 (by decide) hf (fun hf => ?_) (fun hf => ?_)
    · exact gg_sub (L' := [some (va_rf (some b)), some (va_rf v1), some (va_rf v2), some (va_rf v3), some (va_rf v4), some (.int v5), none, none, none]) (by first | exact ⟨rfl, ⟨rfl, ⟨rfl, ⟨rfl, ⟨rfl, ⟨rfl, trivial⟩⟩⟩⟩⟩⟩ | simp [gsub]) (hb_579 _ hf)
    · refine gg_aload_n C dL_law_567 rfl ?_
      refine gg_iconst C dL_law_568 (v := (0 : Int32)) (by decide) ?_
      refine gg_lald C dL_law_569 hf (fun y7 hf => ?_)
      refine gg_iload C dL_law_570 rfl ?_
      refine gg_i2l C dL_law_572 ?_
      refine gg_lcmp C dL_law_573 ?_
      refine gg_if_eq (tgt := 579) C dL_law_574 (by decide) hf (fun hf => ?_) (fun hf => ?_)
      · exact gg_sub (L' := [some (va_rf (some b)), some (va_rf v1), some (va_rf v2), some (va_rf v3), some (va_rf v4), some (.int v5), none, none, none]) (by first | exact ⟨rfl, ⟨rfl, ⟨rfl, ⟨rfl, ⟨rfl, ⟨rfl, trivial⟩⟩⟩⟩⟩⟩ | simp [gsub]) (hb_579 _ hf)
      · refine gg_iconst C dL_law_577 (v := (0 : Int32)) (by decide) ?_
        exact hf.elim
  · refine gg_iconst C dL_law_560 (v := (0 : Int32)) (by decide) ?_
    exact hf.elim

def w_L_law_b623 (X : Cx) (xs : Nat → Int32) (Ls b : Nat) (kI : GM → Prop) (v1 v2 v3 v4 : Option Nat) (v5 : Int32)  (g : GM) : Prop :=
  kI g
def w_law_4 (X : Cx) (xs : Nat → Int32) (Ls b : Nat) (kI : GM → Prop) (v1 v2 v3 v4 : Option Nat) (v5 : Int32) (g : GM) : Prop :=
  w_L_nextInReview X (fun (i2 : Int32) (g1 : GM) => wIs g1 v2 8 (w_X8_nextInReview X (fun (i4 : Int32) (g3 : GM) => wIs g3 v2 8 (w_X8_thrown X (fun (i6 : Int32) (g5 : GM) => (if i6 = i2 then (if i2 = 0 then wAldJ g5 v3 (0 : Int32) (fun (y7 : Int64) => (if (lg_cmp y7 ((i4).toInt64)) = 0 then w_L_law_b623 X xs Ls b kI v1 v2 v3 v4 v5 g5 else False)) else w_L_law_b623 X xs Ls b kI v1 v2 v3 v4 v5 g5) else False)) (fun _ _ => False) v2 g3)) (fun _ _ => False) v2 g1)) (fun _ _ => False) v1 v3 g
set_option maxHeartbeats 4000000 in
set_option maxRecDepth 100000 in
theorem lc_4 {X : Cx} {p : Program} {l : Launch} {e : Env} {s : State} {m : MethodId} {args : Array Value} {below : List Frame} {meth : Method} {c : Code} {Q : State → Prop} {b Ls : Nat} {xs : Nat → Int32} (hfl : l.stackTraces = false) (C : FC X p l s m args meth c code 9 "ReleasetrainLaw") (hX : va_X b Ls xs s s.heap) (hbl : b < s.heap.size) (hbA : ¬ gA X b) {k n : Nat} (hk : k + 60 ≤ 603072) (hn : n + 4000 ≤ 7186538) {v1 v2 v3 v4 : Option Nat} {v5 : Int32} {kI : GM → Prop} (hkI : ∀ g, kI g → GG X p l e room_1 s m args below meth c 9 Q (k + 60) (n + 4000) 2917 [some (va_rf (some b)), some (va_rf v1), some (va_rf v2), some (va_rf v3), some (va_rf v4), some (.int v5), none, none, none] [] g) {g : GM} (hf : w_law_4 X xs Ls b kI v1 v2 v3 v4 v5 g) : GG X p l e room_1 s m args below meth c 9 Q k n 582 [some (va_rf (some b)), some (va_rf v1), some (va_rf v2), some (va_rf v3), some (va_rf v4), some (.int v5), none, none, none] [] g := by
  have hb_623 : ∀  (g : GM), w_L_law_b623 X xs Ls b kI v1 v2 v3 v4 v5  g → GG X p l e room_1 s m args below meth c 9 Q (k + 1) (n + 6) 623 [some (va_rf (some b)), some (va_rf v1), some (va_rf v2), some (va_rf v3), some (va_rf v4), some (.int v5), none, none, none] [] g := by
    intro  g hf
    unfold w_L_law_b623 at hf
    refine gg_goto (tgt := 2917) C dL_law_623 (by decide) ?_
    exact gg_widen (k' := k + 60) (n' := n + 4000) (by omega) (by omega) (hkI _ hf)
  unfold w_law_4 at hf
  refine gg_aload_n C dL_law_582 rfl ?_
  refine gg_aload_n C dL_law_583 rfl ?_
  refine gr_I (k' := k + 1) (n' := n + 6) (gk_SW (As := [va_rf v1, va_rf v3]) (rest := []) C dL_law_584 tw_627 tw_628 tw_46 tw_629 gd_L_nextInReview rfl ⟨by decide, by decide⟩ (by simp [gcat, gcI, gcL, gcF, gcD]) ⟨(by show k + 1 ≤ 603072; omega), (by show n + 6 ≤ 7186538; omega)⟩ (m_L_nextInReview hfl hf)) rfl rfl (fun E g9 h9 => h9.elim) (fun i2 g1 hf => ?_)
  refine gg_istore (L' := [some (va_rf (some b)), some (va_rf v1), some (va_rf v2), some (va_rf v3), some (va_rf v4), some (.int v5), some (.int i2), none, none]) C dL_law_587 (Or.inr (Or.inr ⟨_, rfl, rfl⟩)) (by decide) rfl ?_
  refine gg_aload_n C dL_law_589 rfl ?_
  refine gr_I (k' := k + 1) (n' := n + 6) (gk_V (ci := 8) (As := []) (rest := []) C dL_law_590 rfl rfl tw_1615 tw_1616 tw_1617 tw_56 tw_1618 gd_X8_nextInReview rfl ⟨by decide, by decide⟩ (by simp [gcat, gcI, gcL, gcF, gcD]) ⟨(by show k + 1 + 0 ≤ 603072; omega), (by show n + 6 + 0 ≤ 7186538; omega)⟩ hf (fun hf => m_X8_nextInReview hfl hf)) rfl rfl (fun E g9 h9 => h9.elim) (fun i4 g3 hf => ?_)
  refine gg_istore (L' := [some (va_rf (some b)), some (va_rf v1), some (va_rf v2), some (va_rf v3), some (va_rf v4), some (.int v5), some (.int i2), some (.int i4), none]) C dL_law_593 (Or.inr (Or.inr ⟨_, rfl, rfl⟩)) (by decide) rfl ?_
  refine gg_aload_n C dL_law_595 rfl ?_
  refine gr_I (k' := k + 1) (n' := n + 6) (gk_V (ci := 8) (As := []) (rest := []) C dL_law_596 rfl rfl tw_1572 tw_1573 tw_1574 tw_56 tw_1575 gd_X8_thrown rfl ⟨by decide, by decide⟩ (by simp [gcat, gcI, gcL, gcF, gcD]) ⟨(by show k + 1 + 0 ≤ 603072; omega), (by show n + 6 + 0 ≤ 7186538; omega)⟩ hf (fun hf => m_X8_thrown hfl hf)) rfl rfl (fun E g9 h9 => h9.elim) (fun i6 g5 hf => ?_)
  refine gg_iload C dL_law_599 rfl ?_
  refine gg_icmp_eq (tgt := 606) C dL_law_601 (by decide) hf (fun hf => ?_) (fun hf => ?_)
  · refine gg_iload C dL_law_606 rfl ?_
    refine gg_if_ne (tgt := 623) C dL_law_608 (by decide) hf (fun hf => ?_) (fun hf => ?_)
    · exact gg_sub (L' := [some (va_rf (some b)), some (va_rf v1), some (va_rf v2), some (va_rf v3), some (va_rf v4), some (.int v5), none, none, none]) (by first | exact ⟨rfl, ⟨rfl, ⟨rfl, ⟨rfl, ⟨rfl, ⟨rfl, trivial⟩⟩⟩⟩⟩⟩ | simp [gsub]) (hb_623 _ hf)
    · refine gg_aload_n C dL_law_611 rfl ?_
      refine gg_iconst C dL_law_612 (v := (0 : Int32)) (by decide) ?_
      refine gg_lald C dL_law_613 hf (fun y7 hf => ?_)
      refine gg_iload C dL_law_614 rfl ?_
      refine gg_i2l C dL_law_616 ?_
      refine gg_lcmp C dL_law_617 ?_
      refine gg_if_eq (tgt := 623) C dL_law_618 (by decide) hf (fun hf => ?_) (fun hf => ?_)
      · exact gg_sub (L' := [some (va_rf (some b)), some (va_rf v1), some (va_rf v2), some (va_rf v3), some (va_rf v4), some (.int v5), none, none, none]) (by first | exact ⟨rfl, ⟨rfl, ⟨rfl, ⟨rfl, ⟨rfl, ⟨rfl, trivial⟩⟩⟩⟩⟩⟩ | simp [gsub]) (hb_623 _ hf)
      · refine gg_iconst C dL_law_621 (v := (0 : Int32)) (by decide) ?_
        exact hf.elim
  · refine gg_iconst C dL_law_604 (v := (0 : Int32)) (by decide) ?_
    exact hf.elim

def w_L_law_b667 (X : Cx) (xs : Nat → Int32) (Ls b : Nat) (kI : GM → Prop) (v1 v2 v3 v4 : Option Nat) (v5 : Int32)  (g : GM) : Prop :=
  kI g
def w_law_5 (X : Cx) (xs : Nat → Int32) (Ls b : Nat) (kI : GM → Prop) (v1 v2 v3 v4 : Option Nat) (v5 : Int32) (g : GM) : Prop :=
  w_L_review X (fun (i2 : Int32) (g1 : GM) => wIs g1 v2 8 (w_X8_review X (fun (i4 : Int32) (g3 : GM) => wIs g3 v2 8 (w_X8_thrown X (fun (i6 : Int32) (g5 : GM) => (if i6 = i2 then (if i2 = 0 then wAldJ g5 v3 (0 : Int32) (fun (y7 : Int64) => (if (lg_cmp y7 ((i4).toInt64)) = 0 then w_L_law_b667 X xs Ls b kI v1 v2 v3 v4 v5 g5 else False)) else w_L_law_b667 X xs Ls b kI v1 v2 v3 v4 v5 g5) else False)) (fun _ _ => False) v2 g3)) (fun _ _ => False) v2 g1)) (fun _ _ => False) v1 v3 g
set_option maxHeartbeats 4000000 in
set_option maxRecDepth 100000 in
theorem lc_5 {X : Cx} {p : Program} {l : Launch} {e : Env} {s : State} {m : MethodId} {args : Array Value} {below : List Frame} {meth : Method} {c : Code} {Q : State → Prop} {b Ls : Nat} {xs : Nat → Int32} (hfl : l.stackTraces = false) (C : FC X p l s m args meth c code 9 "ReleasetrainLaw") (hX : va_X b Ls xs s s.heap) (hbl : b < s.heap.size) (hbA : ¬ gA X b) {k n : Nat} (hk : k + 60 ≤ 603072) (hn : n + 4000 ≤ 7186538) {v1 v2 v3 v4 : Option Nat} {v5 : Int32} {kI : GM → Prop} (hkI : ∀ g, kI g → GG X p l e room_1 s m args below meth c 9 Q (k + 60) (n + 4000) 2917 [some (va_rf (some b)), some (va_rf v1), some (va_rf v2), some (va_rf v3), some (va_rf v4), some (.int v5), none, none, none] [] g) {g : GM} (hf : w_law_5 X xs Ls b kI v1 v2 v3 v4 v5 g) : GG X p l e room_1 s m args below meth c 9 Q k n 626 [some (va_rf (some b)), some (va_rf v1), some (va_rf v2), some (va_rf v3), some (va_rf v4), some (.int v5), none, none, none] [] g := by
  have hb_667 : ∀  (g : GM), w_L_law_b667 X xs Ls b kI v1 v2 v3 v4 v5  g → GG X p l e room_1 s m args below meth c 9 Q (k + 1) (n + 6) 667 [some (va_rf (some b)), some (va_rf v1), some (va_rf v2), some (va_rf v3), some (va_rf v4), some (.int v5), none, none, none] [] g := by
    intro  g hf
    unfold w_L_law_b667 at hf
    refine gg_goto (tgt := 2917) C dL_law_667 (by decide) ?_
    exact gg_widen (k' := k + 60) (n' := n + 4000) (by omega) (by omega) (hkI _ hf)
  unfold w_law_5 at hf
  refine gg_aload_n C dL_law_626 rfl ?_
  refine gg_aload_n C dL_law_627 rfl ?_
  refine gr_I (k' := k + 1) (n' := n + 6) (gk_SW (As := [va_rf v1, va_rf v3]) (rest := []) C dL_law_628 tw_647 tw_648 tw_46 tw_649 gd_L_review rfl ⟨by decide, by decide⟩ (by simp [gcat, gcI, gcL, gcF, gcD]) ⟨(by show k + 1 ≤ 603072; omega), (by show n + 6 ≤ 7186538; omega)⟩ (m_L_review hfl hf)) rfl rfl (fun E g9 h9 => h9.elim) (fun i2 g1 hf => ?_)
  refine gg_istore (L' := [some (va_rf (some b)), some (va_rf v1), some (va_rf v2), some (va_rf v3), some (va_rf v4), some (.int v5), some (.int i2), none, none]) C dL_law_631 (Or.inr (Or.inr ⟨_, rfl, rfl⟩)) (by decide) rfl ?_
  refine gg_aload_n C dL_law_633 rfl ?_
  refine gr_I (k' := k + 1) (n' := n + 6) (gk_V (ci := 8) (As := []) (rest := []) C dL_law_634 rfl rfl tw_1623 tw_1624 tw_1625 tw_56 tw_1626 gd_X8_review rfl ⟨by decide, by decide⟩ (by simp [gcat, gcI, gcL, gcF, gcD]) ⟨(by show k + 1 + 0 ≤ 603072; omega), (by show n + 6 + 0 ≤ 7186538; omega)⟩ hf (fun hf => m_X8_review hfl hf)) rfl rfl (fun E g9 h9 => h9.elim) (fun i4 g3 hf => ?_)
  refine gg_istore (L' := [some (va_rf (some b)), some (va_rf v1), some (va_rf v2), some (va_rf v3), some (va_rf v4), some (.int v5), some (.int i2), some (.int i4), none]) C dL_law_637 (Or.inr (Or.inr ⟨_, rfl, rfl⟩)) (by decide) rfl ?_
  refine gg_aload_n C dL_law_639 rfl ?_
  refine gr_I (k' := k + 1) (n' := n + 6) (gk_V (ci := 8) (As := []) (rest := []) C dL_law_640 rfl rfl tw_1572 tw_1573 tw_1574 tw_56 tw_1575 gd_X8_thrown rfl ⟨by decide, by decide⟩ (by simp [gcat, gcI, gcL, gcF, gcD]) ⟨(by show k + 1 + 0 ≤ 603072; omega), (by show n + 6 + 0 ≤ 7186538; omega)⟩ hf (fun hf => m_X8_thrown hfl hf)) rfl rfl (fun E g9 h9 => h9.elim) (fun i6 g5 hf => ?_)
  refine gg_iload C dL_law_643 rfl ?_
  refine gg_icmp_eq (tgt := 650) C dL_law_645 (by decide) hf (fun hf => ?_) (fun hf => ?_)
  · refine gg_iload C dL_law_650 rfl ?_
    refine gg_if_ne (tgt := 667) C dL_law_652 (by decide) hf (fun hf => ?_) (fun hf => ?_)
    · exact gg_sub (L' := [some (va_rf (some b)), some (va_rf v1), some (va_rf v2), some (va_rf v3), some (va_rf v4), some (.int v5), none, none, none]) (by first | exact ⟨rfl, ⟨rfl, ⟨rfl, ⟨rfl, ⟨rfl, ⟨rfl, trivial⟩⟩⟩⟩⟩⟩ | simp [gsub]) (hb_667 _ hf)
    · refine gg_aload_n C dL_law_655 rfl ?_
      refine gg_iconst C dL_law_656 (v := (0 : Int32)) (by decide) ?_
      refine gg_lald C dL_law_657 hf (fun y7 hf => ?_)
      refine gg_iload C dL_law_658 rfl ?_
      refine gg_i2l C dL_law_660 ?_
      refine gg_lcmp C dL_law_661 ?_
      refine gg_if_eq (tgt := 667) C dL_law_662 (by decide) hf (fun hf => ?_) (fun hf => ?_)
      · exact gg_sub (L' := [some (va_rf (some b)), some (va_rf v1), some (va_rf v2), some (va_rf v3), some (va_rf v4), some (.int v5), none, none, none]) (by first | exact ⟨rfl, ⟨rfl, ⟨rfl, ⟨rfl, ⟨rfl, ⟨rfl, trivial⟩⟩⟩⟩⟩⟩ | simp [gsub]) (hb_667 _ hf)
      · refine gg_iconst C dL_law_665 (v := (0 : Int32)) (by decide) ?_
        exact hf.elim
  · refine gg_iconst C dL_law_648 (v := (0 : Int32)) (by decide) ?_
    exact hf.elim

def w_L_law_b723 (X : Cx) (xs : Nat → Int32) (Ls b : Nat) (kI : GM → Prop) (v1 v2 v3 v4 : Option Nat) (v5 : Int32)  (g : GM) : Prop :=
  kI g
def w_law_6 (X : Cx) (xs : Nat → Int32) (Ls b : Nat) (kI : GM → Prop) (v1 v2 v3 v4 : Option Nat) (v5 : Int32) (g : GM) : Prop :=
  (vp_in (v5 + (1 : Int32)) Ls ∧ w_L_appeal X (fun (i2 : Int32) (g1 : GM) => (vp_in (v5 + (1 : Int32)) Ls ∧ wIs g1 v2 8 (w_X8_appeal X (fun (i4 : Int32) (g3 : GM) => wIs g3 v2 8 (w_X8_thrown X (fun (i6 : Int32) (g5 : GM) => (if i6 = i2 then (if i2 = 0 then wAldJ g5 v3 (0 : Int32) (fun (y7 : Int64) => (if (lg_cmp y7 ((i4).toInt64)) = 0 then w_L_law_b723 X xs Ls b kI v1 v2 v3 v4 v5 g5 else False)) else w_L_law_b723 X xs Ls b kI v1 v2 v3 v4 v5 g5) else False)) (fun _ _ => False) v2 g3)) (fun _ _ => False) v2 (xs ((v5 + (1 : Int32))).toNatClampNeg) g1))) (fun _ _ => False) v1 (xs ((v5 + (1 : Int32))).toNatClampNeg) v3 g)
set_option maxHeartbeats 4000000 in
set_option maxRecDepth 100000 in
theorem lc_6 {X : Cx} {p : Program} {l : Launch} {e : Env} {s : State} {m : MethodId} {args : Array Value} {below : List Frame} {meth : Method} {c : Code} {Q : State → Prop} {b Ls : Nat} {xs : Nat → Int32} (hfl : l.stackTraces = false) (C : FC X p l s m args meth c code 9 "ReleasetrainLaw") (hX : va_X b Ls xs s s.heap) (hbl : b < s.heap.size) (hbA : ¬ gA X b) {k n : Nat} (hk : k + 60 ≤ 603072) (hn : n + 4000 ≤ 7186538) {v1 v2 v3 v4 : Option Nat} {v5 : Int32} {kI : GM → Prop} (hkI : ∀ g, kI g → GG X p l e room_1 s m args below meth c 9 Q (k + 60) (n + 4000) 2917 [some (va_rf (some b)), some (va_rf v1), some (va_rf v2), some (va_rf v3), some (va_rf v4), some (.int v5), none, none, none] [] g) {g : GM} (hf : w_law_6 X xs Ls b kI v1 v2 v3 v4 v5 g) : GG X p l e room_1 s m args below meth c 9 Q k n 670 [some (va_rf (some b)), some (va_rf v1), some (va_rf v2), some (va_rf v3), some (va_rf v4), some (.int v5), none, none, none] [] g := by
  have hb_723 : ∀  (g : GM), w_L_law_b723 X xs Ls b kI v1 v2 v3 v4 v5  g → GG X p l e room_1 s m args below meth c 9 Q (k + 2) (n + 12) 723 [some (va_rf (some b)), some (va_rf v1), some (va_rf v2), some (va_rf v3), some (va_rf v4), some (.int v5), none, none, none] [] g := by
    intro  g hf
    unfold w_L_law_b723 at hf
    refine gg_goto (tgt := 2917) C dL_law_723 (by decide) ?_
    exact gg_widen (k' := k + 60) (n' := n + 4000) (by omega) (by omega) (hkI _ hf)
  unfold w_law_6 at hf
  refine gg_aload_n C dL_law_670 rfl ?_
  refine gg_aload_n C dL_law_671 rfl ?_
  refine gg_iload C dL_law_672 rfl ?_
  refine gg_iconst C dL_law_674 (v := (1 : Int32)) (by decide) ?_
  refine gg_iadd C dL_law_675 ?_
  refine gg_sld C hX hbl hbA dL_law_676 hf.1 ?_
  replace hf := hf.2
  refine gg_aload_n C dL_law_677 rfl ?_
  refine gr_I (k' := k + 2) (n' := n + 12) (gk_SW (As := [va_rf v1, .int (xs ((v5 + (1 : Int32))).toNatClampNeg), va_rf v3]) (rest := []) C dL_law_678 tw_658 tw_659 tw_46 tw_660 gd_L_appeal rfl ⟨by decide, by decide⟩ (by simp [gcat, gcI, gcL, gcF, gcD]) ⟨(by show k + 2 ≤ 603072; omega), (by show n + 12 ≤ 7186538; omega)⟩ (m_L_appeal hfl hf)) rfl rfl (fun E g9 h9 => h9.elim) (fun i2 g1 hf => ?_)
  refine gg_istore (L' := [some (va_rf (some b)), some (va_rf v1), some (va_rf v2), some (va_rf v3), some (va_rf v4), some (.int v5), some (.int i2), none, none]) C dL_law_681 (Or.inr (Or.inr ⟨_, rfl, rfl⟩)) (by decide) rfl ?_
  refine gg_aload_n C dL_law_683 rfl ?_
  refine gg_aload_n C dL_law_684 rfl ?_
  refine gg_iload C dL_law_685 rfl ?_
  refine gg_iconst C dL_law_687 (v := (1 : Int32)) (by decide) ?_
  refine gg_iadd C dL_law_688 ?_
  refine gg_sld C hX hbl hbA dL_law_689 hf.1 ?_
  replace hf := hf.2
  refine gr_I (k' := k + 2) (n' := n + 12) (gk_V (ci := 8) (As := [.int (xs ((v5 + (1 : Int32))).toNatClampNeg)]) (rest := []) C dL_law_690 rfl rfl tw_1631 tw_1632 tw_1633 tw_56 tw_1634 gd_X8_appeal rfl ⟨by decide, by decide⟩ (by simp [gcat, gcI, gcL, gcF, gcD]) ⟨(by show k + 2 + 0 ≤ 603072; omega), (by show n + 12 + 0 ≤ 7186538; omega)⟩ hf (fun hf => m_X8_appeal hfl hf)) rfl rfl (fun E g9 h9 => h9.elim) (fun i4 g3 hf => ?_)
  refine gg_istore (L' := [some (va_rf (some b)), some (va_rf v1), some (va_rf v2), some (va_rf v3), some (va_rf v4), some (.int v5), some (.int i2), some (.int i4), none]) C dL_law_693 (Or.inr (Or.inr ⟨_, rfl, rfl⟩)) (by decide) rfl ?_
  refine gg_aload_n C dL_law_695 rfl ?_
  refine gr_I (k' := k + 2) (n' := n + 12) (gk_V (ci := 8) (As := []) (rest := []) C dL_law_696 rfl rfl tw_1572 tw_1573 tw_1574 tw_56 tw_1575 gd_X8_thrown rfl ⟨by decide, by decide⟩ (by simp [gcat, gcI, gcL, gcF, gcD]) ⟨(by show k + 2 + 0 ≤ 603072; omega), (by show n + 12 + 0 ≤ 7186538; omega)⟩ hf (fun hf => m_X8_thrown hfl hf)) rfl rfl (fun E g9 h9 => h9.elim) (fun i6 g5 hf => ?_)
  refine gg_iload C dL_law_699 rfl ?_
  refine gg_icmp_eq (tgt := 706) C dL_law_701 (by decide) hf (fun hf => ?_) (fun hf => ?_)
  · refine gg_iload C dL_law_706 rfl ?_
    refine gg_if_ne (tgt := 723) C dL_law_708 (by decide) hf (fun hf => ?_) (fun hf => ?_)
    · exact gg_sub (L' := [some (va_rf (some b)), some (va_rf v1), some (va_rf v2), some (va_rf v3), some (va_rf v4), some (.int v5), none, none, none]) (by first | exact ⟨rfl, ⟨rfl, ⟨rfl, ⟨rfl, ⟨rfl, ⟨rfl, trivial⟩⟩⟩⟩⟩⟩ | simp [gsub]) (hb_723 _ hf)
    · refine gg_aload_n C dL_law_711 rfl ?_
      refine gg_iconst C dL_law_712 (v := (0 : Int32)) (by decide) ?_
      refine gg_lald C dL_law_713 hf (fun y7 hf => ?_)
      refine gg_iload C dL_law_714 rfl ?_
      refine gg_i2l C dL_law_716 ?_
      refine gg_lcmp C dL_law_717 ?_
      refine gg_if_eq (tgt := 723) C dL_law_718 (by decide) hf (fun hf => ?_) (fun hf => ?_)
      · exact gg_sub (L' := [some (va_rf (some b)), some (va_rf v1), some (va_rf v2), some (va_rf v3), some (va_rf v4), some (.int v5), none, none, none]) (by first | exact ⟨rfl, ⟨rfl, ⟨rfl, ⟨rfl, ⟨rfl, ⟨rfl, trivial⟩⟩⟩⟩⟩⟩ | simp [gsub]) (hb_723 _ hf)
      · refine gg_iconst C dL_law_721 (v := (0 : Int32)) (by decide) ?_
        exact hf.elim
  · refine gg_iconst C dL_law_704 (v := (0 : Int32)) (by decide) ?_
    exact hf.elim

def w_L_law_b779 (X : Cx) (xs : Nat → Int32) (Ls b : Nat) (kI : GM → Prop) (v1 v2 v3 v4 : Option Nat) (v5 : Int32)  (g : GM) : Prop :=
  kI g
def w_law_7 (X : Cx) (xs : Nat → Int32) (Ls b : Nat) (kI : GM → Prop) (v1 v2 v3 v4 : Option Nat) (v5 : Int32) (g : GM) : Prop :=
  (vp_in (v5 + (1 : Int32)) Ls ∧ w_L_setSize X (fun (i2 : Int32) (g1 : GM) => (vp_in (v5 + (1 : Int32)) Ls ∧ wIs g1 v2 8 (w_X8_setSize X (fun (i4 : Int32) (g3 : GM) => wIs g3 v2 8 (w_X8_thrown X (fun (i6 : Int32) (g5 : GM) => (if i6 = i2 then (if i2 = 0 then wAldJ g5 v3 (0 : Int32) (fun (y7 : Int64) => (if (lg_cmp y7 ((i4).toInt64)) = 0 then w_L_law_b779 X xs Ls b kI v1 v2 v3 v4 v5 g5 else False)) else w_L_law_b779 X xs Ls b kI v1 v2 v3 v4 v5 g5) else False)) (fun _ _ => False) v2 g3)) (fun _ _ => False) v2 (xs ((v5 + (1 : Int32))).toNatClampNeg) g1))) (fun _ _ => False) v1 (xs ((v5 + (1 : Int32))).toNatClampNeg) v3 g)
set_option maxHeartbeats 4000000 in
set_option maxRecDepth 100000 in
theorem lc_7 {X : Cx} {p : Program} {l : Launch} {e : Env} {s : State} {m : MethodId} {args : Array Value} {below : List Frame} {meth : Method} {c : Code} {Q : State → Prop} {b Ls : Nat} {xs : Nat → Int32} (hfl : l.stackTraces = false) (C : FC X p l s m args meth c code 9 "ReleasetrainLaw") (hX : va_X b Ls xs s s.heap) (hbl : b < s.heap.size) (hbA : ¬ gA X b) {k n : Nat} (hk : k + 60 ≤ 603072) (hn : n + 4000 ≤ 7186538) {v1 v2 v3 v4 : Option Nat} {v5 : Int32} {kI : GM → Prop} (hkI : ∀ g, kI g → GG X p l e room_1 s m args below meth c 9 Q (k + 60) (n + 4000) 2917 [some (va_rf (some b)), some (va_rf v1), some (va_rf v2), some (va_rf v3), some (va_rf v4), some (.int v5), none, none, none] [] g) {g : GM} (hf : w_law_7 X xs Ls b kI v1 v2 v3 v4 v5 g) : GG X p l e room_1 s m args below meth c 9 Q k n 726 [some (va_rf (some b)), some (va_rf v1), some (va_rf v2), some (va_rf v3), some (va_rf v4), some (.int v5), none, none, none] [] g := by
  have hb_779 : ∀  (g : GM), w_L_law_b779 X xs Ls b kI v1 v2 v3 v4 v5  g → GG X p l e room_1 s m args below meth c 9 Q (k + 1) (n + 6) 779 [some (va_rf (some b)), some (va_rf v1), some (va_rf v2), some (va_rf v3), some (va_rf v4), some (.int v5), none, none, none] [] g := by
    intro  g hf
    unfold w_L_law_b779 at hf
    refine gg_goto (tgt := 2917) C dL_law_779 (by decide) ?_
    exact gg_widen (k' := k + 60) (n' := n + 4000) (by omega) (by omega) (hkI _ hf)
  unfold w_law_7 at hf
  refine gg_aload_n C dL_law_726 rfl ?_
  refine gg_aload_n C dL_law_727 rfl ?_
  refine gg_iload C dL_law_728 rfl ?_
  refine gg_iconst C dL_law_730 (v := (1 : Int32)) (by decide) ?_
  refine gg_iadd C dL_law_731 ?_
  refine gg_sld C hX hbl hbA dL_law_732 hf.1 ?_
  replace hf := hf.2
  refine gg_aload_n C dL_law_733 rfl ?_
  refine gr_I (k' := k + 1) (n' := n + 6) (gk_SW (As := [va_rf v1, .int (xs ((v5 + (1 : Int32))).toNatClampNeg), va_rf v3]) (rest := []) C dL_law_734 tw_666 tw_667 tw_46 tw_668 gd_L_setSize rfl ⟨by decide, by decide⟩ (by simp [gcat, gcI, gcL, gcF, gcD]) ⟨(by show k + 1 ≤ 603072; omega), (by show n + 6 ≤ 7186538; omega)⟩ (m_L_setSize hfl hf)) rfl rfl (fun E g9 h9 => h9.elim) (fun i2 g1 hf => ?_)
  refine gg_istore (L' := [some (va_rf (some b)), some (va_rf v1), some (va_rf v2), some (va_rf v3), some (va_rf v4), some (.int v5), some (.int i2), none, none]) C dL_law_737 (Or.inr (Or.inr ⟨_, rfl, rfl⟩)) (by decide) rfl ?_
  refine gg_aload_n C dL_law_739 rfl ?_
  refine gg_aload_n C dL_law_740 rfl ?_
  refine gg_iload C dL_law_741 rfl ?_
  refine gg_iconst C dL_law_743 (v := (1 : Int32)) (by decide) ?_
  refine gg_iadd C dL_law_744 ?_
  refine gg_sld C hX hbl hbA dL_law_745 hf.1 ?_
  replace hf := hf.2
  refine gr_I (k' := k + 1) (n' := n + 6) (gk_V (ci := 8) (As := [.int (xs ((v5 + (1 : Int32))).toNatClampNeg)]) (rest := []) C dL_law_746 rfl rfl tw_1635 tw_1636 tw_1637 tw_56 tw_1638 gd_X8_setSize rfl ⟨by decide, by decide⟩ (by simp [gcat, gcI, gcL, gcF, gcD]) ⟨(by show k + 1 + 0 ≤ 603072; omega), (by show n + 6 + 0 ≤ 7186538; omega)⟩ hf (fun hf => m_X8_setSize hfl hf)) rfl rfl (fun E g9 h9 => h9.elim) (fun i4 g3 hf => ?_)
  refine gg_istore (L' := [some (va_rf (some b)), some (va_rf v1), some (va_rf v2), some (va_rf v3), some (va_rf v4), some (.int v5), some (.int i2), some (.int i4), none]) C dL_law_749 (Or.inr (Or.inr ⟨_, rfl, rfl⟩)) (by decide) rfl ?_
  refine gg_aload_n C dL_law_751 rfl ?_
  refine gr_I (k' := k + 1) (n' := n + 6) (gk_V (ci := 8) (As := []) (rest := []) C dL_law_752 rfl rfl tw_1572 tw_1573 tw_1574 tw_56 tw_1575 gd_X8_thrown rfl ⟨by decide, by decide⟩ (by simp [gcat, gcI, gcL, gcF, gcD]) ⟨(by show k + 1 + 0 ≤ 603072; omega), (by show n + 6 + 0 ≤ 7186538; omega)⟩ hf (fun hf => m_X8_thrown hfl hf)) rfl rfl (fun E g9 h9 => h9.elim) (fun i6 g5 hf => ?_)
  refine gg_iload C dL_law_755 rfl ?_
  refine gg_icmp_eq (tgt := 762) C dL_law_757 (by decide) hf (fun hf => ?_) (fun hf => ?_)
  · refine gg_iload C dL_law_762 rfl ?_
    refine gg_if_ne (tgt := 779) C dL_law_764 (by decide) hf (fun hf => ?_) (fun hf => ?_)
    · exact gg_sub (L' := [some (va_rf (some b)), some (va_rf v1), some (va_rf v2), some (va_rf v3), some (va_rf v4), some (.int v5), none, none, none]) (by first | exact ⟨rfl, ⟨rfl, ⟨rfl, ⟨rfl, ⟨rfl, ⟨rfl, trivial⟩⟩⟩⟩⟩⟩ | simp [gsub]) (hb_779 _ hf)
    · refine gg_aload_n C dL_law_767 rfl ?_
      refine gg_iconst C dL_law_768 (v := (0 : Int32)) (by decide) ?_
      refine gg_lald C dL_law_769 hf (fun y7 hf => ?_)
      refine gg_iload C dL_law_770 rfl ?_
      refine gg_i2l C dL_law_772 ?_
      refine gg_lcmp C dL_law_773 ?_
      refine gg_if_eq (tgt := 779) C dL_law_774 (by decide) hf (fun hf => ?_) (fun hf => ?_)
      · exact gg_sub (L' := [some (va_rf (some b)), some (va_rf v1), some (va_rf v2), some (va_rf v3), some (va_rf v4), some (.int v5), none, none, none]) (by first | exact ⟨rfl, ⟨rfl, ⟨rfl, ⟨rfl, ⟨rfl, ⟨rfl, trivial⟩⟩⟩⟩⟩⟩ | simp [gsub]) (hb_779 _ hf)
      · refine gg_iconst C dL_law_777 (v := (0 : Int32)) (by decide) ?_
        exact hf.elim
  · refine gg_iconst C dL_law_760 (v := (0 : Int32)) (by decide) ?_
    exact hf.elim

def w_L_law_b835 (X : Cx) (xs : Nat → Int32) (Ls b : Nat) (kI : GM → Prop) (v1 v2 v3 v4 : Option Nat) (v5 : Int32)  (g : GM) : Prop :=
  kI g
def w_law_8 (X : Cx) (xs : Nat → Int32) (Ls b : Nat) (kI : GM → Prop) (v1 v2 v3 v4 : Option Nat) (v5 : Int32) (g : GM) : Prop :=
  (vp_in (v5 + (1 : Int32)) Ls ∧ w_L_setBarred X (fun (i2 : Int32) (g1 : GM) => (vp_in (v5 + (1 : Int32)) Ls ∧ wIs g1 v2 8 (w_X8_setBarred X (fun (i4 : Int32) (g3 : GM) => wIs g3 v2 8 (w_X8_thrown X (fun (i6 : Int32) (g5 : GM) => (if i6 = i2 then (if i2 = 0 then wAldJ g5 v3 (0 : Int32) (fun (y7 : Int64) => (if (lg_cmp y7 ((i4).toInt64)) = 0 then w_L_law_b835 X xs Ls b kI v1 v2 v3 v4 v5 g5 else False)) else w_L_law_b835 X xs Ls b kI v1 v2 v3 v4 v5 g5) else False)) (fun _ _ => False) v2 g3)) (fun _ _ => False) v2 (xs ((v5 + (1 : Int32))).toNatClampNeg) g1))) (fun _ _ => False) v1 (xs ((v5 + (1 : Int32))).toNatClampNeg) v3 g)
set_option maxHeartbeats 4000000 in
set_option maxRecDepth 100000 in
theorem lc_8 {X : Cx} {p : Program} {l : Launch} {e : Env} {s : State} {m : MethodId} {args : Array Value} {below : List Frame} {meth : Method} {c : Code} {Q : State → Prop} {b Ls : Nat} {xs : Nat → Int32} (hfl : l.stackTraces = false) (C : FC X p l s m args meth c code 9 "ReleasetrainLaw") (hX : va_X b Ls xs s s.heap) (hbl : b < s.heap.size) (hbA : ¬ gA X b) {k n : Nat} (hk : k + 60 ≤ 603072) (hn : n + 4000 ≤ 7186538) {v1 v2 v3 v4 : Option Nat} {v5 : Int32} {kI : GM → Prop} (hkI : ∀ g, kI g → GG X p l e room_1 s m args below meth c 9 Q (k + 60) (n + 4000) 2917 [some (va_rf (some b)), some (va_rf v1), some (va_rf v2), some (va_rf v3), some (va_rf v4), some (.int v5), none, none, none] [] g) {g : GM} (hf : w_law_8 X xs Ls b kI v1 v2 v3 v4 v5 g) : GG X p l e room_1 s m args below meth c 9 Q k n 782 [some (va_rf (some b)), some (va_rf v1), some (va_rf v2), some (va_rf v3), some (va_rf v4), some (.int v5), none, none, none] [] g := by
  have hb_835 : ∀  (g : GM), w_L_law_b835 X xs Ls b kI v1 v2 v3 v4 v5  g → GG X p l e room_1 s m args below meth c 9 Q (k + 1) (n + 6) 835 [some (va_rf (some b)), some (va_rf v1), some (va_rf v2), some (va_rf v3), some (va_rf v4), some (.int v5), none, none, none] [] g := by
    intro  g hf
    unfold w_L_law_b835 at hf
    refine gg_goto (tgt := 2917) C dL_law_835 (by decide) ?_
    exact gg_widen (k' := k + 60) (n' := n + 4000) (by omega) (by omega) (hkI _ hf)
  unfold w_law_8 at hf
  refine gg_aload_n C dL_law_782 rfl ?_
  refine gg_aload_n C dL_law_783 rfl ?_
  refine gg_iload C dL_law_784 rfl ?_
  refine gg_iconst C dL_law_786 (v := (1 : Int32)) (by decide) ?_
  refine gg_iadd C dL_law_787 ?_
  refine gg_sld C hX hbl hbA dL_law_788 hf.1 ?_
  replace hf := hf.2
  refine gg_aload_n C dL_law_789 rfl ?_
  refine gr_I (k' := k + 1) (n' := n + 6) (gk_SW (As := [va_rf v1, .int (xs ((v5 + (1 : Int32))).toNatClampNeg), va_rf v3]) (rest := []) C dL_law_790 tw_674 tw_675 tw_46 tw_676 gd_L_setBarred rfl ⟨by decide, by decide⟩ (by simp [gcat, gcI, gcL, gcF, gcD]) ⟨(by show k + 1 ≤ 603072; omega), (by show n + 6 ≤ 7186538; omega)⟩ (m_L_setBarred hfl hf)) rfl rfl (fun E g9 h9 => h9.elim) (fun i2 g1 hf => ?_)
  refine gg_istore (L' := [some (va_rf (some b)), some (va_rf v1), some (va_rf v2), some (va_rf v3), some (va_rf v4), some (.int v5), some (.int i2), none, none]) C dL_law_793 (Or.inr (Or.inr ⟨_, rfl, rfl⟩)) (by decide) rfl ?_
  refine gg_aload_n C dL_law_795 rfl ?_
  refine gg_aload_n C dL_law_796 rfl ?_
  refine gg_iload C dL_law_797 rfl ?_
  refine gg_iconst C dL_law_799 (v := (1 : Int32)) (by decide) ?_
  refine gg_iadd C dL_law_800 ?_
  refine gg_sld C hX hbl hbA dL_law_801 hf.1 ?_
  replace hf := hf.2
  refine gr_I (k' := k + 1) (n' := n + 6) (gk_V (ci := 8) (As := [.int (xs ((v5 + (1 : Int32))).toNatClampNeg)]) (rest := []) C dL_law_802 rfl rfl tw_1639 tw_1640 tw_1641 tw_56 tw_1642 gd_X8_setBarred rfl ⟨by decide, by decide⟩ (by simp [gcat, gcI, gcL, gcF, gcD]) ⟨(by show k + 1 + 0 ≤ 603072; omega), (by show n + 6 + 0 ≤ 7186538; omega)⟩ hf (fun hf => m_X8_setBarred hfl hf)) rfl rfl (fun E g9 h9 => h9.elim) (fun i4 g3 hf => ?_)
  refine gg_istore (L' := [some (va_rf (some b)), some (va_rf v1), some (va_rf v2), some (va_rf v3), some (va_rf v4), some (.int v5), some (.int i2), some (.int i4), none]) C dL_law_805 (Or.inr (Or.inr ⟨_, rfl, rfl⟩)) (by decide) rfl ?_
  refine gg_aload_n C dL_law_807 rfl ?_
  refine gr_I (k' := k + 1) (n' := n + 6) (gk_V (ci := 8) (As := []) (rest := []) C dL_law_808 rfl rfl tw_1572 tw_1573 tw_1574 tw_56 tw_1575 gd_X8_thrown rfl ⟨by decide, by decide⟩ (by simp [gcat, gcI, gcL, gcF, gcD]) ⟨(by show k + 1 + 0 ≤ 603072; omega), (by show n + 6 + 0 ≤ 7186538; omega)⟩ hf (fun hf => m_X8_thrown hfl hf)) rfl rfl (fun E g9 h9 => h9.elim) (fun i6 g5 hf => ?_)
  refine gg_iload C dL_law_811 rfl ?_
  refine gg_icmp_eq (tgt := 818) C dL_law_813 (by decide) hf (fun hf => ?_) (fun hf => ?_)
  · refine gg_iload C dL_law_818 rfl ?_
    refine gg_if_ne (tgt := 835) C dL_law_820 (by decide) hf (fun hf => ?_) (fun hf => ?_)
    · exact gg_sub (L' := [some (va_rf (some b)), some (va_rf v1), some (va_rf v2), some (va_rf v3), some (va_rf v4), some (.int v5), none, none, none]) (by first | exact ⟨rfl, ⟨rfl, ⟨rfl, ⟨rfl, ⟨rfl, ⟨rfl, trivial⟩⟩⟩⟩⟩⟩ | simp [gsub]) (hb_835 _ hf)
    · refine gg_aload_n C dL_law_823 rfl ?_
      refine gg_iconst C dL_law_824 (v := (0 : Int32)) (by decide) ?_
      refine gg_lald C dL_law_825 hf (fun y7 hf => ?_)
      refine gg_iload C dL_law_826 rfl ?_
      refine gg_i2l C dL_law_828 ?_
      refine gg_lcmp C dL_law_829 ?_
      refine gg_if_eq (tgt := 835) C dL_law_830 (by decide) hf (fun hf => ?_) (fun hf => ?_)
      · exact gg_sub (L' := [some (va_rf (some b)), some (va_rf v1), some (va_rf v2), some (va_rf v3), some (va_rf v4), some (.int v5), none, none, none]) (by first | exact ⟨rfl, ⟨rfl, ⟨rfl, ⟨rfl, ⟨rfl, ⟨rfl, trivial⟩⟩⟩⟩⟩⟩ | simp [gsub]) (hb_835 _ hf)
      · refine gg_iconst C dL_law_833 (v := (0 : Int32)) (by decide) ?_
        exact hf.elim
  · refine gg_iconst C dL_law_816 (v := (0 : Int32)) (by decide) ?_
    exact hf.elim
