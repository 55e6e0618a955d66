def w_X0_init (X : Cx) (post : GM → Prop) (px : String → GM → Prop) (v0 : Option Nat) (g : GM) : Prop :=
  (∃ a : Nat, v0 = some a ∧ (¬ (101 : Int32) < 0 ∧ ((101 : Int32)).toNatClampNeg ≤ 101 ∧ wNew X g (.inl (0, ((101 : Int32)).toNatClampNeg, .inl (fun _ => 0))) (fun q1 g2 => wPut g2 v0 0 0 (va_rf (some q1)) (fun g3 => wPut g3 v0 0 1 (.int (0 : Int32)) (fun g4 => post g4)))))
abbrev rm_X0_init : Room := { frames := 1, cells := 1, slots := 101, locals := 12 }
set_option maxHeartbeats 4000000 in
set_option maxRecDepth 100000 in
theorem m_X0_init {X : Cx} {l : Launch} (hfl : l.stackTraces = false) {post : GM → Prop} {px : String → GM → Prop} {v0 : Option Nat} {g : GM} (hf : w_X0_init X post px v0 g) : gMet X l yX0_init cX0_init 1 none rm_X0_init [va_rf v0] g (qV X post) px := by
  refine gg_enter (L := [some (va_rf v0)]) hfl (by decide +kernel) (by simp [lg_sl, gcat, gcI, gcL, gcF, gcD]) (by simp [gll, lv_args, gcat, gcI, gcL, gcF, gcD]) ?_
  intro p e s m args below meth c C hr ht hm
  have C : FC X p l s m args meth c cX0_init 1 "Releasetrain$BucketCounts" := C
  unfold w_X0_init at hf
  refine gg_aload_n C dX0_init_0 rfl ?_
  refine gg_objInit C dX0_init_1 tw_353 tw_67 tw_68 (by decide) (by simp [gcat, gcI, gcL, gcF, gcD]) hf (fun hf => ?_)
  refine gg_aload_n C dX0_init_4 rfl ?_
  refine gg_bipush C dX0_init_5 (v := (101 : Int32)) (by decide) ?_
  refine gg_newarr' (k' := 1) (n' := 101) (kd := 0) (cap := 101) (x := fun N => (N, .inl (fun _ => 0))) C dX0_init_7 tw_362 rfl rfl (fun _ _ => rfl) (by decide) (by decide) (by decide) rfl rfl hf (fun q1 g2 hf => ?_)
  refine gg_putF C dX0_init_9 hm pk_X0_9 (gNar_arr _ _) hf (fun g3 hf => ?_)
  refine gg_aload_n C dX0_init_12 rfl ?_
  refine gg_iconst C dX0_init_13 (v := (0 : Int32)) (by decide) ?_
  refine gg_put C dX0_init_14 pk_X0_15 (gNar_int _) hf (fun g4 hf => ?_)
  exact gg_vret C hr (by decide) (by decide) dX0_init_17 hf

def w_X0_change_b36 (X : Cx) (post : GM → Prop) (px : String → GM → Prop) (k12 : Option Nat → Int32 → Int32 → Int32 → GM → Prop) (l0 : Option Nat) (l1 : Int32) (l2 : Int32) (l3 : Int32) (g : GM) : Prop :=
  k12 l0 l1 l2 (l3 + 1) g
def w_X0_change_l12 (X : Cx) (post : GM → Prop) (px : String → GM → Prop)  : Nat → Option Nat → Int32 → Int32 → Int32 → GM → Prop
  | 0, _, _, _, _, _ => False
  | f + 1, l0, l1, l2, l3, g => wGetR g l0 0 0 (fun (r3 : Option Nat) => wLen X g r3 (fun (i4 : Int32) => (if i4 ≤ l3 then post g else (if l3 ≤ l1 then w_X0_change_b36 X post px (w_X0_change_l12 X post px f) l0 l1 l2 l3 g else wGetR g l0 0 0 (fun (r5 : Option Nat) => wAld g r5 l3 0 (fun (i6 : Int32) => wAst g r5 l3 0 (i6 + l2) (fun g7 => w_X0_change_b36 X post px (w_X0_change_l12 X post px f) l0 l1 l2 l3 g7)))))))
def w_X0_change (X : Cx) (post : GM → Prop) (px : String → GM → Prop) (v0 : Option Nat) (v1 : Int32) (v2 : Int32) (g : GM) : Prop :=
  wGetI g v0 0 1 (fun (i1 : Int32) => wPut g v0 0 1 (.int (i1 + v2)) (fun g2 => w_X0_change_l12 X post px 3000 v0 v1 v2 (0 : Int32) g2))
abbrev rm_X0_change : Room := { frames := 0, cells := 0, slots := 0, locals := 0 }
set_option maxHeartbeats 4000000 in
set_option maxRecDepth 100000 in
theorem m_X0_change {X : Cx} {l : Launch} (hfl : l.stackTraces = false) {post : GM → Prop} {px : String → GM → Prop} {v0 : Option Nat} {v1 : Int32} {v2 : Int32} {g : GM} (hf : w_X0_change X post px v0 v1 v2 g) : gMet X l yX0_change cX0_change 4 none rm_X0_change [va_rf v0, .int v1, .int v2] g (qV X post) px := by
  refine gg_enter (L := [some (va_rf v0), some (.int v1), some (.int v2), none]) hfl (by decide +kernel) (by simp [lg_sl, gcat, gcI, gcL, gcF, gcD]) (by simp [gll, lv_args, gcat, gcI, gcL, gcF, gcD]) ?_
  intro p e s m args below meth c C hr ht hm
  have C : FC X p l s m args meth c cX0_change 4 "Releasetrain$BucketCounts" := C
  have hb_36 : ∀ (k12 : Option Nat → Int32 → Int32 → Int32 → GM → Prop), (∀ (l0 : Option Nat) (l1 : Int32) (l2 : Int32) (l3 : Int32) (g : GM), k12 l0 l1 l2 l3 g → GG X p l e rm_X0_change s m args below meth c 4 (vx_MQ below (qV X post) (gXC X px) args s rm_X0_change.cells rm_X0_change.slots (gA X)) 0 0 12 [some (va_rf l0), some (.int l1), some (.int l2), some (.int l3)] [] g) → ∀ (l0 : Option Nat) (l1 : Int32) (l2 : Int32) (l3 : Int32) (g : GM), w_X0_change_b36 X post px k12 l0 l1 l2 l3 g → GG X p l e rm_X0_change s m args below meth c 4 (vx_MQ below (qV X post) (gXC X px) args s rm_X0_change.cells rm_X0_change.slots (gA X)) 0 0 36 [some (va_rf l0), some (.int l1), some (.int l2), some (.int l3)] [] g := by
    intro k12 hk12 l0 l1 l2 l3 g hf
    unfold w_X0_change_b36 at hf
    refine gg_iinc (L' := [some (va_rf l0), some (.int l1), some (.int l2), some (.int (l3 + 1))]) C dX0_change_36 rfl (v := (l3 + 1)) rfl (Or.inr (Or.inr ⟨_, rfl, rfl⟩)) (by decide) rfl ?_
    refine gg_goto (tgt := 12) C dX0_change_39 (by decide) ?_
    exact hk12 _ _ _ _ _ hf
  have hb_12 : ∀ (f : Nat) (l0 : Option Nat) (l1 : Int32) (l2 : Int32) (l3 : Int32) (g : GM), w_X0_change_l12 X post px  f l0 l1 l2 l3 g → GG X p l e rm_X0_change s m args below meth c 4 (vx_MQ below (qV X post) (gXC X px) args s rm_X0_change.cells rm_X0_change.slots (gA X)) 0 0 12 [some (va_rf l0), some (.int l1), some (.int l2), some (.int l3)] [] g := by
    intro  f
    induction f with
    | zero => intro l0 l1 l2 l3 g hf; exact (show False from hf).elim
    | succ f ih =>
      intro l0 l1 l2 l3 g hf
      rw [w_X0_change_l12] at hf
      refine gg_iload_n C dX0_change_12 rfl ?_
      refine gg_aload_n C dX0_change_13 rfl ?_
      refine gg_getR C dX0_change_14 lk_X0_9 hf (fun r3 hf => ?_)
      refine gg_alen C dX0_change_17 hf (fun i4 hf => ?_)
      refine gg_icmp_ge (tgt := 42) C dX0_change_18 (by decide) hf (fun hf => ?_) (fun hf => ?_)
      · exact gg_vret C hr (by decide) (by decide) dX0_change_42 hf
      · refine gg_iload_n C dX0_change_21 rfl ?_
        refine gg_iload_n C dX0_change_22 rfl ?_
        refine gg_icmp_ge (tgt := 36) C dX0_change_23 (by decide) hf (fun hf => ?_) (fun hf => ?_)
        · exact hb_36 _ ih _ _ _ _ _ hf
        · refine gg_aload_n C dX0_change_26 rfl ?_
          refine gg_getR C dX0_change_27 lk_X0_9 hf (fun r5 hf => ?_)
          refine gg_iload_n C dX0_change_30 rfl ?_
          refine gg_dup2 C dX0_change_31 (rfl) (gcat _) ?_
          refine gg_iald C dX0_change_32 hf (fun i6 hf => ?_)
          refine gg_iload_n C dX0_change_33 rfl ?_
          refine gg_iadd C dX0_change_34 ?_
          refine gg_iast C dX0_change_35 hf (fun g7 hf => ?_)
          exact hb_36 _ ih _ _ _ _ _ hf
  unfold w_X0_change at hf
  refine gg_aload_n C dX0_change_0 rfl ?_
  refine gg_dup C dX0_change_1 (gcat _) ?_
  refine gg_getI C dX0_change_2 lk_X0_15 hf (fun i1 hf => ?_)
  refine gg_iload_n C dX0_change_5 rfl ?_
  refine gg_iadd C dX0_change_6 ?_
  refine gg_put C dX0_change_7 pk_X0_15 (gNar_int _) hf (fun g2 hf => ?_)
  refine gg_iconst C dX0_change_10 (v := (0 : Int32)) (by decide) ?_
  refine gg_istore_n (L' := [some (va_rf v0), some (.int v1), some (.int v2), some (.int (0 : Int32))]) C dX0_change_11 (Or.inr (Or.inr ⟨_, rfl, rfl⟩)) (by decide) rfl ?_
  exact hb_12 _ _ _ _ _ _ hf

def w_X7_outside_b15 (X : Cx) (post : Int32 → GM → Prop) (px : String → GM → Prop)  (t0 : Int32) (g : GM) : Prop :=
  (narrow .boolean (.int t0) = .int t0 ∧ post t0 g)
def w_X7_outside_b10 (X : Cx) (post : Int32 → GM → Prop) (px : String → GM → Prop)   (g : GM) : Prop :=
  w_X7_outside_b15 X post px (1 : Int32) g
def w_X7_outside (X : Cx) (post : Int32 → GM → Prop) (px : String → GM → Prop) (v0 : Int32) (v1 : Int32) (v2 : Int32) (g : GM) : Prop :=
  (if v0 < v1 then w_X7_outside_b10 X post px g else (if v0 ≤ v2 then w_X7_outside_b15 X post px (0 : Int32) g else w_X7_outside_b10 X post px g))
abbrev rm_X7_outside : Room := { frames := 0, cells := 0, slots := 0, locals := 0 }
set_option maxHeartbeats 4000000 in
set_option maxRecDepth 100000 in
theorem m_X7_outside {X : Cx} {l : Launch} (hfl : l.stackTraces = false) {post : Int32 → GM → Prop} {px : String → GM → Prop} {v0 : Int32} {v1 : Int32} {v2 : Int32} {g : GM} (hf : w_X7_outside X post px v0 v1 v2 g) : gMet X l yX7_outside cX7_outside 3 (some .boolean) rm_X7_outside [.int v0, .int v1, .int v2] g (qI X post) px := by
  refine gg_enter (L := [some (.int v0), some (.int v1), some (.int v2)]) hfl (by decide +kernel) (by simp [lg_sl, gcat, gcI, gcL, gcF, gcD]) (by simp [gll, lv_args, gcat, gcI, gcL, gcF, gcD]) ?_
  intro p e s m args below meth c C hr ht hm
  have C : FC X p l s m args meth c cX7_outside 3 "Releasetrain" := C
  have hb_15 : ∀ (t0 : Int32) (g : GM), w_X7_outside_b15 X post px  t0 g → GG X p l e rm_X7_outside s m args below meth c 3 (vx_MQ below (qI X post) (gXC X px) args s rm_X7_outside.cells rm_X7_outside.slots (gA X)) 0 0 15 [none, none, none] [.int t0] g := by
    intro  t0 g hf
    unfold w_X7_outside_b15 at hf
    exact gg_iret C hr (by decide) (by decide) dX7_outside_15 hf.1 hf.2
  have hb_10 : ∀  (g : GM), w_X7_outside_b10 X post px   g → GG X p l e rm_X7_outside s m args below meth c 3 (vx_MQ below (qI X post) (gXC X px) args s rm_X7_outside.cells rm_X7_outside.slots (gA X)) 0 0 10 [none, none, none] [] g := by
    intro   g hf
    unfold w_X7_outside_b10 at hf
    refine gg_iconst C dX7_outside_10 (v := (1 : Int32)) (by decide) ?_
    refine gg_goto (tgt := 15) C dX7_outside_11 (by decide) ?_
    exact hb_15 _ _ hf
  unfold w_X7_outside at hf
  refine gg_iload_n C dX7_outside_0 rfl ?_
  refine gg_iload_n C dX7_outside_1 rfl ?_
  refine gg_icmp_lt (tgt := 10) C dX7_outside_2 (by decide) hf (fun hf => ?_) (fun hf => ?_)
  · exact gg_sub (L' := [none, none, none]) (by first | exact trivial | simp [gsub]) (hb_10 _ hf)
  · refine gg_iload_n C dX7_outside_5 rfl ?_
    refine gg_iload_n C dX7_outside_6 rfl ?_
    refine gg_icmp_le (tgt := 14) C dX7_outside_7 (by decide) hf (fun hf => ?_) (fun hf => ?_)
    · refine gg_iconst C dX7_outside_14 (v := (0 : Int32)) (by decide) ?_
      exact gg_sub (L' := [none, none, none]) (by first | exact trivial | simp [gsub]) (hb_15 _ _ hf)
    · exact gg_sub (L' := [none, none, none]) (by first | exact trivial | simp [gsub]) (hb_10 _ hf)

def w_X0_countBelow_b25 (X : Cx) (post : Int32 → GM → Prop) (px : String → GM → Prop)  (t0 : Int32) (g : GM) : Prop :=
  post t0 g
def w_X0_countBelow (X : Cx) (post : Int32 → GM → Prop) (px : String → GM → Prop) (v0 : Option Nat) (v1 : Int32) (g : GM) : Prop :=
  wGetR g v0 0 0 (fun (r1 : Option Nat) => wLen X g r1 (fun (i2 : Int32) => w_X7_outside X (fun (i4 : Int32) (g3 : GM) => (if i4 = 0 then wGetR g3 v0 0 0 (fun (r5 : Option Nat) => wAld g3 r5 v1 0 (fun (i6 : Int32) => w_X0_countBelow_b25 X post px i6 g3)) else w_X0_countBelow_b25 X post px (0 : Int32) g3)) px v1 (0 : Int32) (i2 - (1 : Int32)) g))
abbrev rm_X0_countBelow : Room := { frames := 1, cells := 0, slots := 0, locals := 22 }
set_option maxHeartbeats 4000000 in
set_option maxRecDepth 100000 in
theorem m_X0_countBelow {X : Cx} {l : Launch} (hfl : l.stackTraces = false) {post : Int32 → GM → Prop} {px : String → GM → Prop} {v0 : Option Nat} {v1 : Int32} {g : GM} (hf : w_X0_countBelow X post px v0 v1 g) : gMet X l yX0_countBelow cX0_countBelow 2 (some .int) rm_X0_countBelow [va_rf v0, .int v1] g (qI X post) px := by
  refine gg_enter (L := [some (va_rf v0), some (.int v1)]) hfl (by decide +kernel) (by simp [lg_sl, gcat, gcI, gcL, gcF, gcD]) (by simp [gll, lv_args, gcat, gcI, gcL, gcF, gcD]) ?_
  intro p e s m args below meth c C hr ht hm
  have C : FC X p l s m args meth c cX0_countBelow 2 "Releasetrain$BucketCounts" := C
  have hb_25 : ∀ (t0 : Int32) (g : GM), w_X0_countBelow_b25 X post px  t0 g → GG X p l e rm_X0_countBelow s m args below meth c 2 (vx_MQ below (qI X post) (gXC X px) args s rm_X0_countBelow.cells rm_X0_countBelow.slots (gA X)) 0 0 25 [none, none] [.int t0] g := by
    intro  t0 g hf
    unfold w_X0_countBelow_b25 at hf
    exact gg_iret C hr (by decide) (by decide) dX0_countBelow_25 rfl hf
  unfold w_X0_countBelow at hf
  refine gg_iload_n C dX0_countBelow_0 rfl ?_
  refine gg_iconst C dX0_countBelow_1 (v := (0 : Int32)) (by decide) ?_
  refine gg_aload_n C dX0_countBelow_2 rfl ?_
  refine gg_getR C dX0_countBelow_3 lk_X0_9 hf (fun r1 hf => ?_)
  refine gg_alen C dX0_countBelow_6 hf (fun i2 hf => ?_)
  refine gg_iconst C dX0_countBelow_7 (v := (1 : Int32)) (by decide) ?_
  refine gg_isub C dX0_countBelow_8 ?_
  refine gr_I (k' := 0) (n' := 0) (gk_SN (host := "Releasetrain") (As := [.int v1, .int (0 : Int32), .int (i2 - (1 : Int32))]) (rest := []) C dX0_countBelow_9 (by decide +kernel) tw_214 tw_25 tw_215 gd_X7_outside rfl ⟨by decide, by decide⟩ (by simp [gcat, gcI, gcL, gcF, gcD]) ⟨by decide, by decide⟩ (m_X7_outside hfl hf)) rfl rfl (fun E g9 h9 => gx_out C (fun x hx => (ht x hx).elim) (by decide) (by decide) h9) (fun i4 g3 hf => ?_)
  refine gg_if_eq (tgt := 19) C dX0_countBelow_12 (by decide) hf (fun hf => ?_) (fun hf => ?_)
  · refine gg_aload_n C dX0_countBelow_19 rfl ?_
    refine gg_getR C dX0_countBelow_20 lk_X0_9 hf (fun r5 hf => ?_)
    refine gg_iload_n C dX0_countBelow_23 rfl ?_
    refine gg_iald C dX0_countBelow_24 hf (fun i6 hf => ?_)
    exact gg_sub (L' := [none, none]) (by first | exact trivial | simp [gsub]) (hb_25 _ _ hf)
  · refine gg_iconst C dX0_countBelow_15 (v := (0 : Int32)) (by decide) ?_
    refine gg_goto (tgt := 25) C dX0_countBelow_16 (by decide) ?_
    exact gg_sub (L' := [none, none]) (by first | exact trivial | simp [gsub]) (hb_25 _ _ hf)

def w_X1_init (X : Cx) (post : GM → Prop) (px : String → GM → Prop) (v0 : Option Nat) (v1 : Int32) (v2 : Int32) (v3 : Option Nat) (v4 : Int32) (v5 : Int32) (v6 : Option Nat) (g : GM) : Prop :=
  (∃ a : Nat, v0 = some a ∧ wNew X g (.inr (0, [.null, .int 0])) (fun q1 g2 => w_X0_init X (fun (g3 : GM) => wPut g3 v0 1 6 (va_rf (some q1)) (fun g4 => wPut g4 v0 1 7 (.int (100 : Int32)) (fun g5 => wPut g5 v0 1 8 (.int (0 : Int32)) (fun g6 => wPut g6 v0 1 9 (.int (0 : Int32)) (fun g7 => wPut g7 v0 1 10 (.int (0 : Int32)) (fun g8 => wPut g8 v0 1 11 (.int (0 : Int32)) (fun g9 => wPut g9 v0 1 12 (.int (0 : Int32)) (fun g10 => wPut g10 v0 1 13 (.int (0 : Int32)) (fun g11 => wPut g11 v0 1 14 (.int (0 : Int32)) (fun g12 => wPut g12 v0 1 15 (.int (0 : Int32)) (fun g13 => wPut g13 v0 1 0 (.int v1) (fun g14 => wPut g14 v0 1 1 (.int v2) (fun g15 => wPut g15 v0 1 2 (va_rf v3) (fun g16 => wPut g16 v0 1 3 (.int v4) (fun g17 => wPut g17 v0 1 4 (.int v5) (fun g18 => wPut g18 v0 1 5 (va_rf v6) (fun g19 => post g19))))))))))))))))) px (some q1) g2))
abbrev rm_X1_init : Room := { frames := 2, cells := 2, slots := 103, locals := 32 }
set_option maxHeartbeats 4000000 in
set_option maxRecDepth 100000 in
theorem m_X1_init {X : Cx} {l : Launch} (hfl : l.stackTraces = false) {post : GM → Prop} {px : String → GM → Prop} {v0 : Option Nat} {v1 : Int32} {v2 : Int32} {v3 : Option Nat} {v4 : Int32} {v5 : Int32} {v6 : Option Nat} {g : GM} (hf : w_X1_init X post px v0 v1 v2 v3 v4 v5 v6 g) : gMet X l yX1_init cX1_init 7 none rm_X1_init [va_rf v0, .int v1, .int v2, va_rf v3, .int v4, .int v5, va_rf v6] g (qV X post) px := by
  refine gg_enter (L := [some (va_rf v0), some (.int v1), some (.int v2), some (va_rf v3), some (.int v4), some (.int v5), some (va_rf v6)]) hfl (by decide +kernel) (by simp [lg_sl, gcat, gcI, gcL, gcF, gcD]) (by simp [gll, lv_args, gcat, gcI, gcL, gcF, gcD]) ?_
  intro p e s m args below meth c C hr ht hm
  have C : FC X p l s m args meth c cX1_init 7 "Releasetrain$Build" := C
  unfold w_X1_init at hf
  refine gg_aload_n C dX1_init_0 rfl ?_
  refine gg_objInit C dX1_init_1 tw_347 tw_67 tw_68 (by decide) (by simp [gcat, gcI, gcL, gcF, gcD]) hf (fun hf => ?_)
  refine gg_aload_n C dX1_init_4 rfl ?_
  refine gg_new (k' := 1) (n' := 2) C dX1_init_5 nk_X1_9 (by decide) (by decide) rfl rfl hf (fun q1 g2 hf => ?_)
  refine gg_dup C dX1_init_8 (gcat _) ?_
  refine gr_V (k' := 2) (n' := 103) (gk_IN (host := "Releasetrain") (As := []) (rest := [va_rf (some q1), va_rf v0]) C dX1_init_9 rfl (by decide +kernel) tw_351 tw_58 tw_352 gd_X0_init rfl ⟨by decide, by decide⟩ (by simp [gcat, gcI, gcL, gcF, gcD]) ⟨by decide, by decide⟩ (m_X0_init hfl hf)) rfl rfl (fun E g9 h9 => gx_out C (fun x hx => (ht x hx).elim) (by decide) (by decide) h9) (fun g3 hf => ?_)
  refine gg_putF C dX1_init_12 hm pk_X1_12 (gNar_obj _ _) hf (fun g4 hf => ?_)
  refine gg_aload_n C dX1_init_15 rfl ?_
  refine gg_bipush C dX1_init_16 (v := (100 : Int32)) (by decide) ?_
  refine gg_put C dX1_init_18 pk_X1_18 ⟨rfl, rfl⟩ hf (fun g5 hf => ?_)
  refine gg_aload_n C dX1_init_21 rfl ?_
  refine gg_iconst C dX1_init_22 (v := (0 : Int32)) (by decide) ?_
  refine gg_put C dX1_init_23 pk_X1_22 ⟨rfl, rfl⟩ hf (fun g6 hf => ?_)
  refine gg_aload_n C dX1_init_26 rfl ?_
  refine gg_iconst C dX1_init_27 (v := (0 : Int32)) (by decide) ?_
  refine gg_put C dX1_init_28 pk_X1_26 (gNar_int _) hf (fun g7 hf => ?_)
  refine gg_aload_n C dX1_init_31 rfl ?_
  refine gg_iconst C dX1_init_32 (v := (0 : Int32)) (by decide) ?_
  refine gg_put C dX1_init_33 pk_X1_30 (gNar_int _) hf (fun g8 hf => ?_)
  refine gg_aload_n C dX1_init_36 rfl ?_
  refine gg_iconst C dX1_init_37 (v := (0 : Int32)) (by decide) ?_
  refine gg_put C dX1_init_38 pk_X1_33 (gNar_int _) hf (fun g9 hf => ?_)
  refine gg_aload_n C dX1_init_41 rfl ?_
  refine gg_iconst C dX1_init_42 (v := (0 : Int32)) (by decide) ?_
  refine gg_put C dX1_init_43 pk_X1_36 (gNar_int _) hf (fun g10 hf => ?_)
  refine gg_aload_n C dX1_init_46 rfl ?_
  refine gg_iconst C dX1_init_47 (v := (0 : Int32)) (by decide) ?_
  refine gg_put C dX1_init_48 pk_X1_39 (gNar_int _) hf (fun g11 hf => ?_)
  refine gg_aload_n C dX1_init_51 rfl ?_
  refine gg_iconst C dX1_init_52 (v := (0 : Int32)) (by decide) ?_
  refine gg_put C dX1_init_53 pk_X1_42 (gNar_int _) hf (fun g12 hf => ?_)
  refine gg_aload_n C dX1_init_56 rfl ?_
  refine gg_iconst C dX1_init_57 (v := (0 : Int32)) (by decide) ?_
  refine gg_put C dX1_init_58 pk_X1_45 (gNar_int _) hf (fun g13 hf => ?_)
  refine gg_aload_n C dX1_init_61 rfl ?_
  refine gg_iload_n C dX1_init_62 rfl ?_
  refine gg_putF C dX1_init_63 hm pk_X1_48 (gNar_int _) hf (fun g14 hf => ?_)
  refine gg_aload_n C dX1_init_66 rfl ?_
  refine gg_iload_n C dX1_init_67 rfl ?_
  refine gg_putF C dX1_init_68 hm pk_X1_51 (gNar_int _) hf (fun g15 hf => ?_)
  refine gg_aload_n C dX1_init_71 rfl ?_
  refine gg_aload_n C dX1_init_72 rfl ?_
  refine gg_putF C dX1_init_73 hm pk_X1_54 (gNar_obj _ _) hf (fun g16 hf => ?_)
  refine gg_aload_n C dX1_init_76 rfl ?_
  refine gg_iload C dX1_init_77 rfl ?_
  refine gg_putF C dX1_init_79 hm pk_X1_58 (gNar_int _) hf (fun g17 hf => ?_)
  refine gg_aload_n C dX1_init_82 rfl ?_
  refine gg_iload C dX1_init_83 rfl ?_
  refine gg_putF C dX1_init_85 hm pk_X1_61 (gNar_int _) hf (fun g18 hf => ?_)
  refine gg_aload_n C dX1_init_88 rfl ?_
  refine gg_aload C dX1_init_89 rfl ?_
  refine gg_putF C dX1_init_91 hm pk_X1_64 (gNar_obj _ _) hf (fun g19 hf => ?_)
  exact gg_vret C hr (by decide) (by decide) dX1_init_94 hf

def w_X1_isFix_b12 (X : Cx) (post : Int32 → GM → Prop) (px : String → GM → Prop)  (t0 : Int32) (g : GM) : Prop :=
  (narrow .boolean (.int t0) = .int t0 ∧ post t0 g)
def w_X1_isFix (X : Cx) (post : Int32 → GM → Prop) (px : String → GM → Prop) (v0 : Option Nat) (g : GM) : Prop :=
  wGetR g v0 1 5 (fun (r1 : Option Nat) => (if r1 = none then w_X1_isFix_b12 X post px (0 : Int32) g else w_X1_isFix_b12 X post px (1 : Int32) g))
abbrev rm_X1_isFix : Room := { frames := 0, cells := 0, slots := 0, locals := 0 }
set_option maxHeartbeats 4000000 in
set_option maxRecDepth 100000 in
theorem m_X1_isFix {X : Cx} {l : Launch} (hfl : l.stackTraces = false) {post : Int32 → GM → Prop} {px : String → GM → Prop} {v0 : Option Nat} {g : GM} (hf : w_X1_isFix X post px v0 g) : gMet X l yX1_isFix cX1_isFix 1 (some .boolean) rm_X1_isFix [va_rf v0] g (qI X post) px := by
  refine gg_enter (L := [some (va_rf v0)]) hfl (by decide +kernel) (by simp [lg_sl, gcat, gcI, gcL, gcF, gcD]) (by simp [gll, lv_args, gcat, gcI, gcL, gcF, gcD]) ?_
  intro p e s m args below meth c C hr ht hm
  have C : FC X p l s m args meth c cX1_isFix 1 "Releasetrain$Build" := C
  have hb_12 : ∀ (t0 : Int32) (g : GM), w_X1_isFix_b12 X post px  t0 g → GG X p l e rm_X1_isFix s m args below meth c 1 (vx_MQ below (qI X post) (gXC X px) args s rm_X1_isFix.cells rm_X1_isFix.slots (gA X)) 0 0 12 [none] [.int t0] g := by
    intro  t0 g hf
    unfold w_X1_isFix_b12 at hf
    exact gg_iret C hr (by decide) (by decide) dX1_isFix_12 hf.1 hf.2
  unfold w_X1_isFix at hf
  refine gg_aload_n C dX1_isFix_0 rfl ?_
  refine gg_getR C dX1_isFix_1 lk_X1_64 hf (fun r1 hf => ?_)
  refine gg_ifnull (tgt := 11) C dX1_isFix_4 (by decide) hf (fun hf => ?_) (fun hf => ?_)
  · refine gg_iconst C dX1_isFix_11 (v := (0 : Int32)) (by decide) ?_
    exact gg_sub (L' := [none]) (by first | exact trivial | simp [gsub]) (hb_12 _ _ hf)
  · refine gg_iconst C dX1_isFix_7 (v := (1 : Int32)) (by decide) ?_
    refine gg_goto (tgt := 12) C dX1_isFix_8 (by decide) ?_
    exact gg_sub (L' := [none]) (by first | exact trivial | simp [gsub]) (hb_12 _ _ hf)

def w_X1_isFixOf_b20 (X : Cx) (post : Int32 → GM → Prop) (px : String → GM → Prop)  (t0 : Int32) (g : GM) : Prop :=
  (narrow .boolean (.int t0) = .int t0 ∧ post t0 g)
def w_X1_isFixOf_b19 (X : Cx) (post : Int32 → GM → Prop) (px : String → GM → Prop)   (g : GM) : Prop :=
  w_X1_isFixOf_b20 X post px (0 : Int32) g
def w_X1_isFixOf (X : Cx) (post : Int32 → GM → Prop) (px : String → GM → Prop) (v0 : Option Nat) (v1 : Option Nat) (g : GM) : Prop :=
  wGetR g v0 1 5 (fun (r1 : Option Nat) => (if r1 = none then w_X1_isFixOf_b19 X post px g else wGetR g v0 1 5 (fun (r2 : Option Nat) => (if r2 = v1 then w_X1_isFixOf_b20 X post px (1 : Int32) g else w_X1_isFixOf_b19 X post px g))))
abbrev rm_X1_isFixOf : Room := { frames := 0, cells := 0, slots := 0, locals := 0 }
set_option maxHeartbeats 4000000 in
set_option maxRecDepth 100000 in
theorem m_X1_isFixOf {X : Cx} {l : Launch} (hfl : l.stackTraces = false) {post : Int32 → GM → Prop} {px : String → GM → Prop} {v0 : Option Nat} {v1 : Option Nat} {g : GM} (hf : w_X1_isFixOf X post px v0 v1 g) : gMet X l yX1_isFixOf cX1_isFixOf 2 (some .boolean) rm_X1_isFixOf [va_rf v0, va_rf v1] g (qI X post) px := by
  refine gg_enter (L := [some (va_rf v0), some (va_rf v1)]) hfl (by decide +kernel) (by simp [lg_sl, gcat, gcI, gcL, gcF, gcD]) (by simp [gll, lv_args, gcat, gcI, gcL, gcF, gcD]) ?_
  intro p e s m args below meth c C hr ht hm
  have C : FC X p l s m args meth c cX1_isFixOf 2 "Releasetrain$Build" := C
  have hb_20 : ∀ (t0 : Int32) (g : GM), w_X1_isFixOf_b20 X post px  t0 g → GG X p l e rm_X1_isFixOf s m args below meth c 2 (vx_MQ below (qI X post) (gXC X px) args s rm_X1_isFixOf.cells rm_X1_isFixOf.slots (gA X)) 0 0 20 [none, none] [.int t0] g := by
    intro  t0 g hf
    unfold w_X1_isFixOf_b20 at hf
    exact gg_iret C hr (by decide) (by decide) dX1_isFixOf_20 hf.1 hf.2
  have hb_19 : ∀  (g : GM), w_X1_isFixOf_b19 X post px   g → GG X p l e rm_X1_isFixOf s m args below meth c 2 (vx_MQ below (qI X post) (gXC X px) args s rm_X1_isFixOf.cells rm_X1_isFixOf.slots (gA X)) 0 0 19 [none, none] [] g := by
    intro   g hf
    unfold w_X1_isFixOf_b19 at hf
    refine gg_iconst C dX1_isFixOf_19 (v := (0 : Int32)) (by decide) ?_
    exact hb_20 _ _ hf
  unfold w_X1_isFixOf at hf
  refine gg_aload_n C dX1_isFixOf_0 rfl ?_
  refine gg_getR C dX1_isFixOf_1 lk_X1_64 hf (fun r1 hf => ?_)
  refine gg_ifnull (tgt := 19) C dX1_isFixOf_4 (by decide) hf (fun hf => ?_) (fun hf => ?_)
  · exact gg_sub (L' := [none, none]) (by first | exact trivial | simp [gsub]) (hb_19 _ hf)
  · refine gg_aload_n C dX1_isFixOf_7 rfl ?_
    refine gg_getR C dX1_isFixOf_8 lk_X1_64 hf (fun r2 hf => ?_)
    refine gg_aload_n C dX1_isFixOf_11 rfl ?_
    refine gg_acmp_ne (tgt := 19) C dX1_isFixOf_12 (by decide) hf (fun hf => ?_) (fun hf => ?_)
    · exact gg_sub (L' := [none, none]) (by first | exact trivial | simp [gsub]) (hb_19 _ hf)
    · refine gg_iconst C dX1_isFixOf_15 (v := (1 : Int32)) (by decide) ?_
      refine gg_goto (tgt := 20) C dX1_isFixOf_16 (by decide) ?_
      exact gg_sub (L' := [none, none]) (by first | exact trivial | simp [gsub]) (hb_20 _ _ hf)

def w_X1_isNewerThan_b20 (X : Cx) (post : Int32 → GM → Prop) (px : String → GM → Prop)  (t0 : Int32) (g : GM) : Prop :=
  (narrow .boolean (.int t0) = .int t0 ∧ post t0 g)
def w_X1_isNewerThan_b15 (X : Cx) (post : Int32 → GM → Prop) (px : String → GM → Prop)   (g : GM) : Prop :=
  w_X1_isNewerThan_b20 X post px (1 : Int32) g
def w_X1_isNewerThan (X : Cx) (post : Int32 → GM → Prop) (px : String → GM → Prop) (v0 : Option Nat) (v1 : Option Nat) (g : GM) : Prop :=
  (if v1 = none then w_X1_isNewerThan_b15 X post px g else wGetI g v0 1 1 (fun (i1 : Int32) => wGetI g v1 1 1 (fun (i2 : Int32) => (if i1 ≤ i2 then w_X1_isNewerThan_b20 X post px (0 : Int32) g else w_X1_isNewerThan_b15 X post px g))))
abbrev rm_X1_isNewerThan : Room := { frames := 0, cells := 0, slots := 0, locals := 0 }
set_option maxHeartbeats 4000000 in
set_option maxRecDepth 100000 in
theorem m_X1_isNewerThan {X : Cx} {l : Launch} (hfl : l.stackTraces = false) {post : Int32 → GM → Prop} {px : String → GM → Prop} {v0 : Option Nat} {v1 : Option Nat} {g : GM} (hf : w_X1_isNewerThan X post px v0 v1 g) : gMet X l yX1_isNewerThan cX1_isNewerThan 2 (some .boolean) rm_X1_isNewerThan [va_rf v0, va_rf v1] g (qI X post) px := by
  refine gg_enter (L := [some (va_rf v0), some (va_rf v1)]) hfl (by decide +kernel) (by simp [lg_sl, gcat, gcI, gcL, gcF, gcD]) (by simp [gll, lv_args, gcat, gcI, gcL, gcF, gcD]) ?_
  intro p e s m args below meth c C hr ht hm
  have C : FC X p l s m args meth c cX1_isNewerThan 2 "Releasetrain$Build" := C
  have hb_20 : ∀ (t0 : Int32) (g : GM), w_X1_isNewerThan_b20 X post px  t0 g → GG X p l e rm_X1_isNewerThan s m args below meth c 2 (vx_MQ below (qI X post) (gXC X px) args s rm_X1_isNewerThan.cells rm_X1_isNewerThan.slots (gA X)) 0 0 20 [none, none] [.int t0] g := by
    intro  t0 g hf
    unfold w_X1_isNewerThan_b20 at hf
    exact gg_iret C hr (by decide) (by decide) dX1_isNewerThan_20 hf.1 hf.2
  have hb_15 : ∀  (g : GM), w_X1_isNewerThan_b15 X post px   g → GG X p l e rm_X1_isNewerThan s m args below meth c 2 (vx_MQ below (qI X post) (gXC X px) args s rm_X1_isNewerThan.cells rm_X1_isNewerThan.slots (gA X)) 0 0 15 [none, none] [] g := by
    intro   g hf
    unfold w_X1_isNewerThan_b15 at hf
    refine gg_iconst C dX1_isNewerThan_15 (v := (1 : Int32)) (by decide) ?_
    refine gg_goto (tgt := 20) C dX1_isNewerThan_16 (by decide) ?_
    exact hb_20 _ _ hf
  unfold w_X1_isNewerThan at hf
  refine gg_aload_n C dX1_isNewerThan_0 rfl ?_
  refine gg_ifnull (tgt := 15) C dX1_isNewerThan_1 (by decide) hf (fun hf => ?_) (fun hf => ?_)
  · exact gg_sub (L' := [none, none]) (by first | exact trivial | simp [gsub]) (hb_15 _ hf)
  · refine gg_aload_n C dX1_isNewerThan_4 rfl ?_
    refine gg_getI C dX1_isNewerThan_5 lk_X1_51 hf (fun i1 hf => ?_)
    refine gg_aload_n C dX1_isNewerThan_8 rfl ?_
    refine gg_getI C dX1_isNewerThan_9 lk_X1_51 hf (fun i2 hf => ?_)
    refine gg_icmp_le (tgt := 19) C dX1_isNewerThan_12 (by decide) hf (fun hf => ?_) (fun hf => ?_)
    · refine gg_iconst C dX1_isNewerThan_19 (v := (0 : Int32)) (by decide) ?_
      exact gg_sub (L' := [none, none]) (by first | exact trivial | simp [gsub]) (hb_20 _ _ hf)
    · exact gg_sub (L' := [none, none]) (by first | exact trivial | simp [gsub]) (hb_15 _ hf)

def w_X1_isReviewedAheadOf_b34 (X : Cx) (post : Int32 → GM → Prop) (px : String → GM → Prop)  (t0 : Int32) (g : GM) : Prop :=
  (narrow .boolean (.int t0) = .int t0 ∧ post t0 g)
def w_X1_isReviewedAheadOf (X : Cx) (post : Int32 → GM → Prop) (px : String → GM → Prop) (v0 : Option Nat) (v1 : Option Nat) (g : GM) : Prop :=
  wIs g v0 1 (w_X1_isFix X (fun (i2 : Int32) (g1 : GM) => wIs g1 v1 1 (w_X1_isFix X (fun (i4 : Int32) (g3 : GM) => (if i2 = i4 then wGetI g3 v0 1 9 (fun (i7 : Int32) => wGetI g3 v1 1 9 (fun (i8 : Int32) => (if i8 ≤ i7 then w_X1_isReviewedAheadOf_b34 X post px (0 : Int32) g3 else w_X1_isReviewedAheadOf_b34 X post px (1 : Int32) g3))) else wIs g3 v0 1 (w_X1_isFix X (fun (i6 : Int32) (g5 : GM) => w_X1_isReviewedAheadOf_b34 X post px i6 g5) px v0 g3))) px v1 g1)) px v0 g)
abbrev rm_X1_isReviewedAheadOf : Room := { frames := 1, cells := 0, slots := 0, locals := 20 }
set_option maxHeartbeats 4000000 in
set_option maxRecDepth 100000 in
theorem m_X1_isReviewedAheadOf {X : Cx} {l : Launch} (hfl : l.stackTraces = false) {post : Int32 → GM → Prop} {px : String → GM → Prop} {v0 : Option Nat} {v1 : Option Nat} {g : GM} (hf : w_X1_isReviewedAheadOf X post px v0 v1 g) : gMet X l yX1_isReviewedAheadOf cX1_isReviewedAheadOf 2 (some .boolean) rm_X1_isReviewedAheadOf [va_rf v0, va_rf v1] g (qI X post) px := by
  refine gg_enter (L := [some (va_rf v0), some (va_rf v1)]) hfl (by decide +kernel) (by simp [lg_sl, gcat, gcI, gcL, gcF, gcD]) (by simp [gll, lv_args, gcat, gcI, gcL, gcF, gcD]) ?_
  intro p e s m args below meth c C hr ht hm
  have C : FC X p l s m args meth c cX1_isReviewedAheadOf 2 "Releasetrain$Build" := C
  have hb_34 : ∀ (t0 : Int32) (g : GM), w_X1_isReviewedAheadOf_b34 X post px  t0 g → GG X p l e rm_X1_isReviewedAheadOf s m args below meth c 2 (vx_MQ below (qI X post) (gXC X px) args s rm_X1_isReviewedAheadOf.cells rm_X1_isReviewedAheadOf.slots (gA X)) 0 0 34 [none, none] [.int t0] g := by
    intro  t0 g hf
    unfold w_X1_isReviewedAheadOf_b34 at hf
    exact gg_iret C hr (by decide) (by decide) dX1_isReviewedAheadOf_34 hf.1 hf.2
  unfold w_X1_isReviewedAheadOf at hf
  refine gg_aload_n C dX1_isReviewedAheadOf_0 rfl ?_
  refine gr_I (k' := 0) (n' := 0) (gk_V (ci := 1) (As := []) (rest := []) C dX1_isReviewedAheadOf_1 rfl rfl tw_1032 tw_986 tw_987 tw_59 tw_988 gd_X1_isFix rfl ⟨by decide, by decide⟩ (by simp [gcat, gcI, gcL, gcF, gcD]) ⟨by decide, by decide⟩ hf (fun hf => m_X1_isFix hfl hf)) rfl rfl (fun E g9 h9 => gx_out C (fun x hx => (ht x hx).elim) (by decide) (by decide) h9) (fun i2 g1 hf => ?_)
  refine gg_aload_n C dX1_isReviewedAheadOf_4 rfl ?_
  refine gr_I (k' := 0) (n' := 0) (gk_V (ci := 1) (As := []) (rest := [.int i2]) C dX1_isReviewedAheadOf_5 rfl rfl tw_1032 tw_986 tw_987 tw_59 tw_988 gd_X1_isFix rfl ⟨by decide, by decide⟩ (by simp [gcat, gcI, gcL, gcF, gcD]) ⟨by decide, by decide⟩ hf (fun hf => m_X1_isFix hfl hf)) rfl rfl (fun E g9 h9 => gx_out C (fun x hx => (ht x hx).elim) (by decide) (by decide) h9) (fun i4 g3 hf => ?_)
  refine gg_icmp_ne (tgt := 30) C dX1_isReviewedAheadOf_8 (by decide) hf (fun hf => ?_) (fun hf => ?_)
  · refine gg_aload_n C dX1_isReviewedAheadOf_30 rfl ?_
    refine gr_I (k' := 0) (n' := 0) (gk_V (ci := 1) (As := []) (rest := []) C dX1_isReviewedAheadOf_31 rfl rfl tw_1032 tw_986 tw_987 tw_59 tw_988 gd_X1_isFix rfl ⟨by decide, by decide⟩ (by simp [gcat, gcI, gcL, gcF, gcD]) ⟨by decide, by decide⟩ hf (fun hf => m_X1_isFix hfl hf)) rfl rfl (fun E g9 h9 => gx_out C (fun x hx => (ht x hx).elim) (by decide) (by decide) h9) (fun i6 g5 hf => ?_)
    exact gg_sub (L' := [none, none]) (by first | exact trivial | simp [gsub]) (hb_34 _ _ hf)
  · refine gg_aload_n C dX1_isReviewedAheadOf_11 rfl ?_
    refine gg_getI C dX1_isReviewedAheadOf_12 lk_X1_26 hf (fun i7 hf => ?_)
    refine gg_aload_n C dX1_isReviewedAheadOf_15 rfl ?_
    refine gg_getI C dX1_isReviewedAheadOf_16 lk_X1_26 hf (fun i8 hf => ?_)
    refine gg_icmp_ge (tgt := 26) C dX1_isReviewedAheadOf_19 (by decide) hf (fun hf => ?_) (fun hf => ?_)
    · refine gg_iconst C dX1_isReviewedAheadOf_26 (v := (0 : Int32)) (by decide) ?_
      refine gg_goto (tgt := 34) C dX1_isReviewedAheadOf_27 (by decide) ?_
      exact gg_sub (L' := [none, none]) (by first | exact trivial | simp [gsub]) (hb_34 _ _ hf)
    · refine gg_iconst C dX1_isReviewedAheadOf_22 (v := (1 : Int32)) (by decide) ?_
      refine gg_goto (tgt := 34) C dX1_isReviewedAheadOf_23 (by decide) ?_
      exact gg_sub (L' := [none, none]) (by first | exact trivial | simp [gsub]) (hb_34 _ _ hf)

def w_X1_isGivenAheadOf_b34 (X : Cx) (post : Int32 → GM → Prop) (px : String → GM → Prop)  (t0 : Int32) (g : GM) : Prop :=
  (narrow .boolean (.int t0) = .int t0 ∧ post t0 g)
def w_X1_isGivenAheadOf (X : Cx) (post : Int32 → GM → Prop) (px : String → GM → Prop) (v0 : Option Nat) (v1 : Option Nat) (g : GM) : Prop :=
  wIs g v0 1 (w_X1_isFix X (fun (i2 : Int32) (g1 : GM) => wIs g1 v1 1 (w_X1_isFix X (fun (i4 : Int32) (g3 : GM) => (if i2 = i4 then wGetI g3 v0 1 1 (fun (i7 : Int32) => wGetI g3 v1 1 1 (fun (i8 : Int32) => (if i7 ≤ i8 then w_X1_isGivenAheadOf_b34 X post px (0 : Int32) g3 else w_X1_isGivenAheadOf_b34 X post px (1 : Int32) g3))) else wIs g3 v0 1 (w_X1_isFix X (fun (i6 : Int32) (g5 : GM) => w_X1_isGivenAheadOf_b34 X post px i6 g5) px v0 g3))) px v1 g1)) px v0 g)
abbrev rm_X1_isGivenAheadOf : Room := { frames := 1, cells := 0, slots := 0, locals := 20 }
set_option maxHeartbeats 4000000 in
set_option maxRecDepth 100000 in
theorem m_X1_isGivenAheadOf {X : Cx} {l : Launch} (hfl : l.stackTraces = false) {post : Int32 → GM → Prop} {px : String → GM → Prop} {v0 : Option Nat} {v1 : Option Nat} {g : GM} (hf : w_X1_isGivenAheadOf X post px v0 v1 g) : gMet X l yX1_isGivenAheadOf cX1_isGivenAheadOf 2 (some .boolean) rm_X1_isGivenAheadOf [va_rf v0, va_rf v1] g (qI X post) px := by
  refine gg_enter (L := [some (va_rf v0), some (va_rf v1)]) hfl (by decide +kernel) (by simp [lg_sl, gcat, gcI, gcL, gcF, gcD]) (by simp [gll, lv_args, gcat, gcI, gcL, gcF, gcD]) ?_
  intro p e s m args below meth c C hr ht hm
  have C : FC X p l s m args meth c cX1_isGivenAheadOf 2 "Releasetrain$Build" := C
  have hb_34 : ∀ (t0 : Int32) (g : GM), w_X1_isGivenAheadOf_b34 X post px  t0 g → GG X p l e rm_X1_isGivenAheadOf s m args below meth c 2 (vx_MQ below (qI X post) (gXC X px) args s rm_X1_isGivenAheadOf.cells rm_X1_isGivenAheadOf.slots (gA X)) 0 0 34 [none, none] [.int t0] g := by
    intro  t0 g hf
    unfold w_X1_isGivenAheadOf_b34 at hf
    exact gg_iret C hr (by decide) (by decide) dX1_isGivenAheadOf_34 hf.1 hf.2
  unfold w_X1_isGivenAheadOf at hf
  refine gg_aload_n C dX1_isGivenAheadOf_0 rfl ?_
  refine gr_I (k' := 0) (n' := 0) (gk_V (ci := 1) (As := []) (rest := []) C dX1_isGivenAheadOf_1 rfl rfl tw_1032 tw_986 tw_987 tw_59 tw_988 gd_X1_isFix rfl ⟨by decide, by decide⟩ (by simp [gcat, gcI, gcL, gcF, gcD]) ⟨by decide, by decide⟩ hf (fun hf => m_X1_isFix hfl hf)) rfl rfl (fun E g9 h9 => gx_out C (fun x hx => (ht x hx).elim) (by decide) (by decide) h9) (fun i2 g1 hf => ?_)
  refine gg_aload_n C dX1_isGivenAheadOf_4 rfl ?_
  refine gr_I (k' := 0) (n' := 0) (gk_V (ci := 1) (As := []) (rest := [.int i2]) C dX1_isGivenAheadOf_5 rfl rfl tw_1032 tw_986 tw_987 tw_59 tw_988 gd_X1_isFix rfl ⟨by decide, by decide⟩ (by simp [gcat, gcI, gcL, gcF, gcD]) ⟨by decide, by decide⟩ hf (fun hf => m_X1_isFix hfl hf)) rfl rfl (fun E g9 h9 => gx_out C (fun x hx => (ht x hx).elim) (by decide) (by decide) h9) (fun i4 g3 hf => ?_)
  refine gg_icmp_ne (tgt := 30) C dX1_isGivenAheadOf_8 (by decide) hf (fun hf => ?_) (fun hf => ?_)
  · refine gg_aload_n C dX1_isGivenAheadOf_30 rfl ?_
    refine gr_I (k' := 0) (n' := 0) (gk_V (ci := 1) (As := []) (rest := []) C dX1_isGivenAheadOf_31 rfl rfl tw_1032 tw_986 tw_987 tw_59 tw_988 gd_X1_isFix rfl ⟨by decide, by decide⟩ (by simp [gcat, gcI, gcL, gcF, gcD]) ⟨by decide, by decide⟩ hf (fun hf => m_X1_isFix hfl hf)) rfl rfl (fun E g9 h9 => gx_out C (fun x hx => (ht x hx).elim) (by decide) (by decide) h9) (fun i6 g5 hf => ?_)
    exact gg_sub (L' := [none, none]) (by first | exact trivial | simp [gsub]) (hb_34 _ _ hf)
  · refine gg_aload_n C dX1_isGivenAheadOf_11 rfl ?_
    refine gg_getI C dX1_isGivenAheadOf_12 lk_X1_51 hf (fun i7 hf => ?_)
    refine gg_aload_n C dX1_isGivenAheadOf_15 rfl ?_
    refine gg_getI C dX1_isGivenAheadOf_16 lk_X1_51 hf (fun i8 hf => ?_)
    refine gg_icmp_le (tgt := 26) C dX1_isGivenAheadOf_19 (by decide) hf (fun hf => ?_) (fun hf => ?_)
    · refine gg_iconst C dX1_isGivenAheadOf_26 (v := (0 : Int32)) (by decide) ?_
      refine gg_goto (tgt := 34) C dX1_isGivenAheadOf_27 (by decide) ?_
      exact gg_sub (L' := [none, none]) (by first | exact trivial | simp [gsub]) (hb_34 _ _ hf)
    · refine gg_iconst C dX1_isGivenAheadOf_22 (v := (1 : Int32)) (by decide) ?_
      refine gg_goto (tgt := 34) C dX1_isGivenAheadOf_23 (by decide) ?_
      exact gg_sub (L' := [none, none]) (by first | exact trivial | simp [gsub]) (hb_34 _ _ hf)

def w_X1_crashesPerInstall_b22 (X : Cx) (post : UInt32 → GM → Prop) (px : String → GM → Prop)  (t0 : UInt32) (g : GM) : Prop :=
  post t0 g
def w_X1_crashesPerInstall (X : Cx) (post : UInt32 → GM → Prop) (px : String → GM → Prop) (v0 : Option Nat) (g : GM) : Prop :=
  wGetI g v0 1 12 (fun (i1 : Int32) => (if i1 = 0 then w_X1_crashesPerInstall_b22 X post px FP.fconst0 g else wGetI g v0 1 13 (fun (i2 : Int32) => wGetI g v0 1 12 (fun (i3 : Int32) => vf_n32 (FP.fdiv (FP.i2f i2) (FP.i2f i3)) ∧ w_X1_crashesPerInstall_b22 X post px (FP.fdiv (FP.i2f i2) (FP.i2f i3)) g))))
abbrev rm_X1_crashesPerInstall : Room := { frames := 0, cells := 0, slots := 0, locals := 0 }
set_option maxHeartbeats 4000000 in
set_option maxRecDepth 100000 in
theorem m_X1_crashesPerInstall {X : Cx} {l : Launch} (hfl : l.stackTraces = false) {post : UInt32 → GM → Prop} {px : String → GM → Prop} {v0 : Option Nat} {g : GM} (hf : w_X1_crashesPerInstall X post px v0 g) : gMet X l yX1_crashesPerInstall cX1_crashesPerInstall 1 (some .float) rm_X1_crashesPerInstall [va_rf v0] g (qF X post) px := by
  refine gg_enter (L := [some (va_rf v0)]) hfl (by decide +kernel) (by simp [lg_sl, gcat, gcI, gcL, gcF, gcD]) (by simp [gll, lv_args, gcat, gcI, gcL, gcF, gcD]) ?_
  intro p e s m args below meth c C hr ht hm
  have C : FC X p l s m args meth c cX1_crashesPerInstall 1 "Releasetrain$Build" := C
  have hb_22 : ∀ (t0 : UInt32) (g : GM), w_X1_crashesPerInstall_b22 X post px  t0 g → GG X p l e rm_X1_crashesPerInstall s m args below meth c 1 (vx_MQ below (qF X post) (gXC X px) args s rm_X1_crashesPerInstall.cells rm_X1_crashesPerInstall.slots (gA X)) 0 0 22 [none] [.float t0] g := by
    intro  t0 g hf
    unfold w_X1_crashesPerInstall_b22 at hf
    exact gg_fret C hr (by decide) (by decide) dX1_crashesPerInstall_22 hf
  unfold w_X1_crashesPerInstall at hf
  refine gg_aload_n C dX1_crashesPerInstall_0 rfl ?_
  refine gg_getI C dX1_crashesPerInstall_1 lk_X1_36 hf (fun i1 hf => ?_)
  refine gg_if_ne (tgt := 11) C dX1_crashesPerInstall_4 (by decide) hf (fun hf => ?_) (fun hf => ?_)
  · refine gg_aload_n C dX1_crashesPerInstall_11 rfl ?_
    refine gg_getI C dX1_crashesPerInstall_12 lk_X1_39 hf (fun i2 hf => ?_)
    refine gg_i2f C dX1_crashesPerInstall_15 ?_
    refine gg_aload_n C dX1_crashesPerInstall_16 rfl ?_
    refine gg_getI C dX1_crashesPerInstall_17 lk_X1_36 hf (fun i3 hf => ?_)
    refine gg_i2f C dX1_crashesPerInstall_20 ?_
    refine gg_fdiv C dX1_crashesPerInstall_21 hf.1 ?_
    replace hf := hf.2
    exact gg_sub (L' := [none]) (by first | exact trivial | simp [gsub]) (hb_22 _ _ hf)
  · refine gg_fconst0 C dX1_crashesPerInstall_7 ?_
    refine gg_goto (tgt := 22) C dX1_crashesPerInstall_8 (by decide) ?_
    exact gg_sub (L' := [none]) (by first | exact trivial | simp [gsub]) (hb_22 _ _ hf)

def w_X1_meanStars_b22 (X : Cx) (post : UInt64 → GM → Prop) (px : String → GM → Prop)  (t0 : UInt64) (g : GM) : Prop :=
  post t0 g
def w_X1_meanStars (X : Cx) (post : UInt64 → GM → Prop) (px : String → GM → Prop) (v0 : Option Nat) (g : GM) : Prop :=
  wGetI g v0 1 14 (fun (i1 : Int32) => (if i1 = 0 then w_X1_meanStars_b22 X post px FP.dconst0 g else wGetI g v0 1 15 (fun (i2 : Int32) => wGetI g v0 1 14 (fun (i3 : Int32) => vf_n64 (FP.ddiv (FP.i2d i2) (FP.i2d i3)) ∧ w_X1_meanStars_b22 X post px (FP.ddiv (FP.i2d i2) (FP.i2d i3)) g))))
abbrev rm_X1_meanStars : Room := { frames := 0, cells := 0, slots := 0, locals := 0 }
set_option maxHeartbeats 4000000 in
set_option maxRecDepth 100000 in
theorem m_X1_meanStars {X : Cx} {l : Launch} (hfl : l.stackTraces = false) {post : UInt64 → GM → Prop} {px : String → GM → Prop} {v0 : Option Nat} {g : GM} (hf : w_X1_meanStars X post px v0 g) : gMet X l yX1_meanStars cX1_meanStars 1 (some .double) rm_X1_meanStars [va_rf v0] g (qD X post) px := by
  refine gg_enter (L := [some (va_rf v0)]) hfl (by decide +kernel) (by simp [lg_sl, gcat, gcI, gcL, gcF, gcD]) (by simp [gll, lv_args, gcat, gcI, gcL, gcF, gcD]) ?_
  intro p e s m args below meth c C hr ht hm
  have C : FC X p l s m args meth c cX1_meanStars 1 "Releasetrain$Build" := C
  have hb_22 : ∀ (t0 : UInt64) (g : GM), w_X1_meanStars_b22 X post px  t0 g → GG X p l e rm_X1_meanStars s m args below meth c 1 (vx_MQ below (qD X post) (gXC X px) args s rm_X1_meanStars.cells rm_X1_meanStars.slots (gA X)) 0 0 22 [none] [.double t0] g := by
    intro  t0 g hf
    unfold w_X1_meanStars_b22 at hf
    exact gg_dret C hr (by decide) (by decide) dX1_meanStars_22 hf
  unfold w_X1_meanStars at hf
  refine gg_aload_n C dX1_meanStars_0 rfl ?_
  refine gg_getI C dX1_meanStars_1 lk_X1_42 hf (fun i1 hf => ?_)
  refine gg_if_ne (tgt := 11) C dX1_meanStars_4 (by decide) hf (fun hf => ?_) (fun hf => ?_)
  · refine gg_aload_n C dX1_meanStars_11 rfl ?_
    refine gg_getI C dX1_meanStars_12 lk_X1_45 hf (fun i2 hf => ?_)
    refine gg_i2d C dX1_meanStars_15 ?_
    refine gg_aload_n C dX1_meanStars_16 rfl ?_
    refine gg_getI C dX1_meanStars_17 lk_X1_42 hf (fun i3 hf => ?_)
    refine gg_i2d C dX1_meanStars_20 ?_
    refine gg_ddiv C dX1_meanStars_21 hf.1 ?_
    replace hf := hf.2
    exact gg_sub (L' := [none]) (by first | exact trivial | simp [gsub]) (hb_22 _ _ hf)
  · refine gg_dconst0 C dX1_meanStars_7 ?_
    refine gg_goto (tgt := 22) C dX1_meanStars_8 (by decide) ?_
    exact gg_sub (L' := [none]) (by first | exact trivial | simp [gsub]) (hb_22 _ _ hf)

def w_X2_init (X : Cx) (post : GM → Prop) (px : String → GM → Prop) (v0 : Option Nat) (v1 : Int32) (v2 : Int32) (v3 : Int32) (g : GM) : Prop :=
  (∃ a : Nat, v0 = some a ∧ wPut g v0 2 3 (va_rf none) (fun g1 => wPut g1 v0 2 4 (.int (0 : Int32)) (fun g2 => wPut g2 v0 2 5 (.int (0 : Int32)) (fun g3 => wPut g3 v0 2 0 (.int v1) (fun g4 => wPut g4 v0 2 1 (.int v2) (fun g5 => wPut g5 v0 2 2 (.int v3) (fun g6 => post g6)))))))
abbrev rm_X2_init : Room := { frames := 1, cells := 0, slots := 0, locals := 12 }
set_option maxHeartbeats 4000000 in
set_option maxRecDepth 100000 in
theorem m_X2_init {X : Cx} {l : Launch} (hfl : l.stackTraces = false) {post : GM → Prop} {px : String → GM → Prop} {v0 : Option Nat} {v1 : Int32} {v2 : Int32} {v3 : Int32} {g : GM} (hf : w_X2_init X post px v0 v1 v2 v3 g) : gMet X l yX2_init cX2_init 4 none rm_X2_init [va_rf v0, .int v1, .int v2, .int v3] g (qV X post) px := by
  refine gg_enter (L := [some (va_rf v0), some (.int v1), some (.int v2), some (.int v3)]) hfl (by decide +kernel) (by simp [lg_sl, gcat, gcI, gcL, gcF, gcD]) (by simp [gll, lv_args, gcat, gcI, gcL, gcF, gcD]) ?_
  intro p e s m args below meth c C hr ht hm
  have C : FC X p l s m args meth c cX2_init 4 "Releasetrain$Device" := C
  unfold w_X2_init at hf
  refine gg_aload_n C dX2_init_0 rfl ?_
  refine gg_objInit C dX2_init_1 tw_531 tw_67 tw_68 (by decide) (by simp [gcat, gcI, gcL, gcF, gcD]) hf (fun hf => ?_)
  refine gg_aload_n C dX2_init_4 rfl ?_
  refine gg_null C dX2_init_5 ?_
  refine gg_put C dX2_init_6 pk_X2_7 (gNar_obj _ _) hf (fun g1 hf => ?_)
  refine gg_aload_n C dX2_init_9 rfl ?_
  refine gg_iconst C dX2_init_10 (v := (0 : Int32)) (by decide) ?_
  refine gg_put C dX2_init_11 pk_X2_13 (gNar_int _) hf (fun g2 hf => ?_)
  refine gg_aload_n C dX2_init_14 rfl ?_
  refine gg_iconst C dX2_init_15 (v := (0 : Int32)) (by decide) ?_
  refine gg_put C dX2_init_16 pk_X2_17 (gNar_int _) hf (fun g3 hf => ?_)
  refine gg_aload_n C dX2_init_19 rfl ?_
  refine gg_iload_n C dX2_init_20 rfl ?_
  refine gg_putF C dX2_init_21 hm pk_X2_20 (gNar_int _) hf (fun g4 hf => ?_)
  refine gg_aload_n C dX2_init_24 rfl ?_
  refine gg_iload_n C dX2_init_25 rfl ?_
  refine gg_putF C dX2_init_26 hm pk_X2_23 (gNar_int _) hf (fun g5 hf => ?_)
  refine gg_aload_n C dX2_init_29 rfl ?_
  refine gg_iload_n C dX2_init_30 rfl ?_
  refine gg_putF C dX2_init_31 hm pk_X2_26 (gNar_int _) hf (fun g6 hf => ?_)
  exact gg_vret C hr (by decide) (by decide) dX2_init_34 hf

def w_X2_usableItems_b26 (X : Cx) (post : Int32 → GM → Prop) (px : String → GM → Prop)  (t0 : Int32) (g : GM) : Prop :=
  post t0 g
def w_X2_usableItems (X : Cx) (post : Int32 → GM → Prop) (px : String → GM → Prop) (v0 : Option Nat) (g : GM) : Prop :=
  wGetR g v0 2 3 (fun (r1 : Option Nat) => (if r1 = none then w_X2_usableItems_b26 X post px (0 : Int32) g else wGetI g v0 2 5 (fun (i2 : Int32) => wGetR g v0 2 3 (fun (r3 : Option Nat) => wGetR g r3 1 2 (fun (r4 : Option Nat) => wGetI g r4 5 2 (fun (i5 : Int32) => w_X2_usableItems_b26 X post px (i2 &&& i5) g))))))
abbrev rm_X2_usableItems : Room := { frames := 0, cells := 0, slots := 0, locals := 0 }
set_option maxHeartbeats 4000000 in
set_option maxRecDepth 100000 in
theorem m_X2_usableItems {X : Cx} {l : Launch} (hfl : l.stackTraces = false) {post : Int32 → GM → Prop} {px : String → GM → Prop} {v0 : Option Nat} {g : GM} (hf : w_X2_usableItems X post px v0 g) : gMet X l yX2_usableItems cX2_usableItems 1 (some .int) rm_X2_usableItems [va_rf v0] g (qI X post) px := by
  refine gg_enter (L := [some (va_rf v0)]) hfl (by decide +kernel) (by simp [lg_sl, gcat, gcI, gcL, gcF, gcD]) (by simp [gll, lv_args, gcat, gcI, gcL, gcF, gcD]) ?_
  intro p e s m args below meth c C hr ht hm
  have C : FC X p l s m args meth c cX2_usableItems 1 "Releasetrain$Device" := C
  have hb_26 : ∀ (t0 : Int32) (g : GM), w_X2_usableItems_b26 X post px  t0 g → GG X p l e rm_X2_usableItems s m args below meth c 1 (vx_MQ below (qI X post) (gXC X px) args s rm_X2_usableItems.cells rm_X2_usableItems.slots (gA X)) 0 0 26 [none] [.int t0] g := by
    intro  t0 g hf
    unfold w_X2_usableItems_b26 at hf
    exact gg_iret C hr (by decide) (by decide) dX2_usableItems_26 rfl hf
  unfold w_X2_usableItems at hf
  refine gg_aload_n C dX2_usableItems_0 rfl ?_
  refine gg_getR C dX2_usableItems_1 lk_X2_7 hf (fun r1 hf => ?_)
  refine gg_ifnonnull (tgt := 11) C dX2_usableItems_4 (by decide) hf (fun hf => ?_) (fun hf => ?_)
  · refine gg_aload_n C dX2_usableItems_11 rfl ?_
    refine gg_getI C dX2_usableItems_12 lk_X2_17 hf (fun i2 hf => ?_)
    refine gg_aload_n C dX2_usableItems_15 rfl ?_
    refine gg_getR C dX2_usableItems_16 lk_X2_7 hf (fun r3 hf => ?_)
    refine gg_getR C dX2_usableItems_19 lk_X2_29 hf (fun r4 hf => ?_)
    refine gg_getI C dX2_usableItems_22 lk_X2_35 hf (fun i5 hf => ?_)
    refine gg_iand C dX2_usableItems_25 ?_
    exact gg_sub (L' := [none]) (by first | exact trivial | simp [gsub]) (hb_26 _ _ hf)
  · refine gg_iconst C dX2_usableItems_7 (v := (0 : Int32)) (by decide) ?_
    refine gg_goto (tgt := 26) C dX2_usableItems_8 (by decide) ?_
    exact gg_sub (L' := [none]) (by first | exact trivial | simp [gsub]) (hb_26 _ _ hf)

def w_X3_init (X : Cx) (post : GM → Prop) (px : String → GM → Prop) (v0 : Option Nat) (v1 : Int32) (v2 : Int32) (g : GM) : Prop :=
  (∃ a : Nat, v0 = some a ∧ wNew X g (.inr (0, [.null, .int 0])) (fun q1 g2 => w_X0_init X (fun (g3 : GM) => wPut g3 v0 3 2 (va_rf (some q1)) (fun g4 => wPut g4 v0 3 0 (.int v1) (fun g5 => wPut g5 v0 3 1 (.int v2) (fun g6 => post g6)))) px (some q1) g2))
abbrev rm_X3_init : Room := { frames := 2, cells := 2, slots := 103, locals := 32 }
set_option maxHeartbeats 4000000 in
set_option maxRecDepth 100000 in
theorem m_X3_init {X : Cx} {l : Launch} (hfl : l.stackTraces = false) {post : GM → Prop} {px : String → GM → Prop} {v0 : Option Nat} {v1 : Int32} {v2 : Int32} {g : GM} (hf : w_X3_init X post px v0 v1 v2 g) : gMet X l yX3_init cX3_init 3 none rm_X3_init [va_rf v0, .int v1, .int v2] g (qV X post) px := by
  refine gg_enter (L := [some (va_rf v0), some (.int v1), some (.int v2)]) hfl (by decide +kernel) (by simp [lg_sl, gcat, gcI, gcL, gcF, gcD]) (by simp [gll, lv_args, gcat, gcI, gcL, gcF, gcD]) ?_
  intro p e s m args below meth c C hr ht hm
  have C : FC X p l s m args meth c cX3_init 3 "Releasetrain$DeviceKind" := C
  unfold w_X3_init at hf
  refine gg_aload_n C dX3_init_0 rfl ?_
  refine gg_objInit C dX3_init_1 tw_566 tw_67 tw_68 (by decide) (by simp [gcat, gcI, gcL, gcF, gcD]) hf (fun hf => ?_)
  refine gg_aload_n C dX3_init_4 rfl ?_
  refine gg_new (k' := 1) (n' := 2) C dX3_init_5 nk_X3_7 (by decide) (by decide) rfl rfl hf (fun q1 g2 hf => ?_)
  refine gg_dup C dX3_init_8 (gcat _) ?_
  refine gr_V (k' := 2) (n' := 103) (gk_IN (host := "Releasetrain") (As := []) (rest := [va_rf (some q1), va_rf v0]) C dX3_init_9 rfl (by decide +kernel) tw_351 tw_58 tw_352 gd_X0_init rfl ⟨by decide, by decide⟩ (by simp [gcat, gcI, gcL, gcF, gcD]) ⟨by decide, by decide⟩ (m_X0_init hfl hf)) rfl rfl (fun E g9 h9 => gx_out C (fun x hx => (ht x hx).elim) (by decide) (by decide) h9) (fun g3 hf => ?_)
  refine gg_putF C dX3_init_12 hm pk_X3_10 (gNar_obj _ _) hf (fun g4 hf => ?_)
  refine gg_aload_n C dX3_init_15 rfl ?_
  refine gg_iload_n C dX3_init_16 rfl ?_
  refine gg_putF C dX3_init_17 hm pk_X3_16 (gNar_int _) hf (fun g5 hf => ?_)
  refine gg_aload_n C dX3_init_20 rfl ?_
  refine gg_iload_n C dX3_init_21 rfl ?_
  refine gg_putF C dX3_init_22 hm pk_X3_20 (gNar_int _) hf (fun g6 hf => ?_)
  exact gg_vret C hr (by decide) (by decide) dX3_init_25 hf

def w_X6_init (X : Cx) (post : GM → Prop) (px : String → GM → Prop) (v0 : Option Nat) (g : GM) : Prop :=
  (∃ a : Nat, v0 = some a ∧ (¬ (6 : Int32) < 0 ∧ ((6 : Int32)).toNatClampNeg ≤ 6 ∧ wNew X g (.inl (1, ((6 : Int32)).toNatClampNeg, .inl (fun _ => 0))) (fun q1 g2 => wPut g2 v0 6 0 (va_rf (some q1)) (fun g3 => wPut g3 v0 6 1 (.int (0 : Int32)) (fun g4 => post g4)))))
abbrev rm_X6_init : Room := { frames := 1, cells := 1, slots := 6, locals := 12 }
set_option maxHeartbeats 4000000 in
set_option maxRecDepth 100000 in
theorem m_X6_init {X : Cx} {l : Launch} (hfl : l.stackTraces = false) {post : GM → Prop} {px : String → GM → Prop} {v0 : Option Nat} {g : GM} (hf : w_X6_init X post px v0 g) : gMet X l yX6_init cX6_init 1 none rm_X6_init [va_rf v0] g (qV X post) px := by
  refine gg_enter (L := [some (va_rf v0)]) hfl (by decide +kernel) (by simp [lg_sl, gcat, gcI, gcL, gcF, gcD]) (by simp [gll, lv_args, gcat, gcI, gcL, gcF, gcD]) ?_
  intro p e s m args below meth c C hr ht hm
  have C : FC X p l s m args meth c cX6_init 1 "Releasetrain$Stack" := C
  unfold w_X6_init at hf
  refine gg_aload_n C dX6_init_0 rfl ?_
  refine gg_objInit C dX6_init_1 tw_100 tw_67 tw_68 (by decide) (by simp [gcat, gcI, gcL, gcF, gcD]) hf (fun hf => ?_)
  refine gg_aload_n C dX6_init_4 rfl ?_
  refine gg_bipush C dX6_init_5 (v := (6 : Int32)) (by decide) ?_
  refine gg_newarr' (k' := 1) (n' := 6) (kd := 1) (cap := 6) (x := fun N => (N, .inl (fun _ => 0))) C dX6_init_7 tw_110 rfl rfl (fun _ _ => rfl) (by decide) (by decide) (by decide) rfl rfl hf (fun q1 g2 hf => ?_)
  refine gg_putF C dX6_init_9 hm pk_X6_9 (gNar_arr _ _) hf (fun g3 hf => ?_)
  refine gg_aload_n C dX6_init_12 rfl ?_
  refine gg_iconst C dX6_init_13 (v := (0 : Int32)) (by decide) ?_
  refine gg_put C dX6_init_14 pk_X6_15 (gNar_int _) hf (fun g4 hf => ?_)
  exact gg_vret C hr (by decide) (by decide) dX6_init_17 hf

def w_X6_clear (X : Cx) (post : GM → Prop) (px : String → GM → Prop) (v0 : Option Nat) (g : GM) : Prop :=
  wPut g v0 6 1 (.int (0 : Int32)) (fun g1 => post g1)
abbrev rm_X6_clear : Room := { frames := 0, cells := 0, slots := 0, locals := 0 }
set_option maxHeartbeats 4000000 in
set_option maxRecDepth 100000 in
theorem m_X6_clear {X : Cx} {l : Launch} (hfl : l.stackTraces = false) {post : GM → Prop} {px : String → GM → Prop} {v0 : Option Nat} {g : GM} (hf : w_X6_clear X post px v0 g) : gMet X l yX6_clear cX6_clear 1 none rm_X6_clear [va_rf v0] g (qV X post) px := by
  refine gg_enter (L := [some (va_rf v0)]) hfl (by decide +kernel) (by simp [lg_sl, gcat, gcI, gcL, gcF, gcD]) (by simp [gll, lv_args, gcat, gcI, gcL, gcF, gcD]) ?_
  intro p e s m args below meth c C hr ht hm
  have C : FC X p l s m args meth c cX6_clear 1 "Releasetrain$Stack" := C
  unfold w_X6_clear at hf
  refine gg_aload_n C dX6_clear_0 rfl ?_
  refine gg_iconst C dX6_clear_1 (v := (0 : Int32)) (by decide) ?_
  refine gg_put C dX6_clear_2 pk_X6_15 (gNar_int _) hf (fun g1 hf => ?_)
  exact gg_vret C hr (by decide) (by decide) dX6_clear_5 hf

def w_X6_append_b32 (X : Cx) (post : GM → Prop) (px : String → GM → Prop)   (g : GM) : Prop :=
  post g
def w_X6_append (X : Cx) (post : GM → Prop) (px : String → GM → Prop) (v0 : Option Nat) (v1 : Int32) (g : GM) : Prop :=
  wGetI g v0 6 1 (fun (i1 : Int32) => wGetR g v0 6 0 (fun (r2 : Option Nat) => wLen X g r2 (fun (i3 : Int32) => (if i3 ≤ i1 then w_X6_append_b32 X post px g else wGetR g v0 6 0 (fun (r4 : Option Nat) => wGetI g v0 6 1 (fun (i5 : Int32) => wAst g r4 i5 1 (vp_nar .char v1) (fun g6 => wGetI g6 v0 6 1 (fun (i7 : Int32) => wPut g6 v0 6 1 (.int (i7 + (1 : Int32))) (fun g8 => w_X6_append_b32 X post px g8)))))))))
abbrev rm_X6_append : Room := { frames := 0, cells := 0, slots := 0, locals := 0 }
set_option maxHeartbeats 4000000 in
set_option maxRecDepth 100000 in
theorem m_X6_append {X : Cx} {l : Launch} (hfl : l.stackTraces = false) {post : GM → Prop} {px : String → GM → Prop} {v0 : Option Nat} {v1 : Int32} {g : GM} (hf : w_X6_append X post px v0 v1 g) : gMet X l yX6_append cX6_append 2 none rm_X6_append [va_rf v0, .int v1] g (qV X post) px := by
  refine gg_enter (L := [some (va_rf v0), some (.int v1)]) hfl (by decide +kernel) (by simp [lg_sl, gcat, gcI, gcL, gcF, gcD]) (by simp [gll, lv_args, gcat, gcI, gcL, gcF, gcD]) ?_
  intro p e s m args below meth c C hr ht hm
  have C : FC X p l s m args meth c cX6_append 2 "Releasetrain$Stack" := C
  have hb_32 : ∀  (g : GM), w_X6_append_b32 X post px   g → GG X p l e rm_X6_append s m args below meth c 2 (vx_MQ below (qV X post) (gXC X px) args s rm_X6_append.cells rm_X6_append.slots (gA X)) 0 0 32 [none, none] [] g := by
    intro   g hf
    unfold w_X6_append_b32 at hf
    exact gg_vret C hr (by decide) (by decide) dX6_append_32 hf
  unfold w_X6_append at hf
  refine gg_aload_n C dX6_append_0 rfl ?_
  refine gg_getI C dX6_append_1 lk_X6_15 hf (fun i1 hf => ?_)
  refine gg_aload_n C dX6_append_4 rfl ?_
  refine gg_getR C dX6_append_5 lk_X6_9 hf (fun r2 hf => ?_)
  refine gg_alen C dX6_append_8 hf (fun i3 hf => ?_)
  refine gg_icmp_ge (tgt := 32) C dX6_append_9 (by decide) hf (fun hf => ?_) (fun hf => ?_)
  · exact gg_sub (L' := [none, none]) (by first | exact trivial | simp [gsub]) (hb_32 _ hf)
  · refine gg_aload_n C dX6_append_12 rfl ?_
    refine gg_getR C dX6_append_13 lk_X6_9 hf (fun r4 hf => ?_)
    refine gg_aload_n C dX6_append_16 rfl ?_
    refine gg_getI C dX6_append_17 lk_X6_15 hf (fun i5 hf => ?_)
    refine gg_iload_n C dX6_append_20 rfl ?_
    refine gg_cast C dX6_append_21 hf (fun g6 hf => ?_)
    refine gg_aload_n C dX6_append_22 rfl ?_
    refine gg_dup C dX6_append_23 (gcat _) ?_
    refine gg_getI C dX6_append_24 lk_X6_15 hf (fun i7 hf => ?_)
    refine gg_iconst C dX6_append_27 (v := (1 : Int32)) (by decide) ?_
    refine gg_iadd C dX6_append_28 ?_
    refine gg_put C dX6_append_29 pk_X6_15 (gNar_int _) hf (fun g8 hf => ?_)
    exact gg_sub (L' := [none, none]) (by first | exact trivial | simp [gsub]) (hb_32 _ hf)

def w_X6_copyFrom_l6 (X : Cx) (post : GM → Prop) (px : String → GM → Prop)  : Nat → Option Nat → Option Nat → Int32 → GM → Prop
  | 0, _, _, _, _ => False
  | f + 1, l0, l1, l2, g => wGetI g l1 6 1 (fun (i2 : Int32) => (if i2 ≤ l2 then post g else wGetR g l1 6 0 (fun (r3 : Option Nat) => wAld g r3 l2 1 (fun (i4 : Int32) => wIs g l0 6 (w_X6_append X (fun (g5 : GM) => w_X6_copyFrom_l6 X post px f l0 l1 (l2 + 1) g5) px l0 i4 g)))))
def w_X6_copyFrom (X : Cx) (post : GM → Prop) (px : String → GM → Prop) (v0 : Option Nat) (v1 : Option Nat) (g : GM) : Prop :=
  wIs g v0 6 (w_X6_clear X (fun (g1 : GM) => w_X6_copyFrom_l6 X post px 3000 v0 v1 (0 : Int32) g1) px v0 g)
abbrev rm_X6_copyFrom : Room := { frames := 1, cells := 0, slots := 0, locals := 21 }
set_option maxHeartbeats 4000000 in
set_option maxRecDepth 100000 in
theorem m_X6_copyFrom {X : Cx} {l : Launch} (hfl : l.stackTraces = false) {post : GM → Prop} {px : String → GM → Prop} {v0 : Option Nat} {v1 : Option Nat} {g : GM} (hf : w_X6_copyFrom X post px v0 v1 g) : gMet X l yX6_copyFrom cX6_copyFrom 3 none rm_X6_copyFrom [va_rf v0, va_rf v1] g (qV X post) px := by
  refine gg_enter (L := [some (va_rf v0), some (va_rf v1), none]) hfl (by decide +kernel) (by simp [lg_sl, gcat, gcI, gcL, gcF, gcD]) (by simp [gll, lv_args, gcat, gcI, gcL, gcF, gcD]) ?_
  intro p e s m args below meth c C hr ht hm
  have C : FC X p l s m args meth c cX6_copyFrom 3 "Releasetrain$Stack" := C
  have hb_6 : ∀ (f : Nat) (l0 : Option Nat) (l1 : Option Nat) (l2 : Int32) (g : GM), w_X6_copyFrom_l6 X post px  f l0 l1 l2 g → GG X p l e rm_X6_copyFrom s m args below meth c 3 (vx_MQ below (qV X post) (gXC X px) args s rm_X6_copyFrom.cells rm_X6_copyFrom.slots (gA X)) 0 0 6 [some (va_rf l0), some (va_rf l1), some (.int l2)] [] g := by
    intro  f
    induction f with
    | zero => intro l0 l1 l2 g hf; exact (show False from hf).elim
    | succ f ih =>
      intro l0 l1 l2 g hf
      rw [w_X6_copyFrom_l6] at hf
      refine gg_iload_n C dX6_copyFrom_6 rfl ?_
      refine gg_aload_n C dX6_copyFrom_7 rfl ?_
      refine gg_getI C dX6_copyFrom_8 lk_X6_15 hf (fun i2 hf => ?_)
      refine gg_icmp_ge (tgt := 30) C dX6_copyFrom_11 (by decide) hf (fun hf => ?_) (fun hf => ?_)
      · exact gg_vret C hr (by decide) (by decide) dX6_copyFrom_30 hf
      · refine gg_aload_n C dX6_copyFrom_14 rfl ?_
        refine gg_aload_n C dX6_copyFrom_15 rfl ?_
        refine gg_getR C dX6_copyFrom_16 lk_X6_9 hf (fun r3 hf => ?_)
        refine gg_iload_n C dX6_copyFrom_19 rfl ?_
        refine gg_cald C dX6_copyFrom_20 hf (fun i4 hf => ?_)
        refine gr_V (k' := 0) (n' := 0) (gk_V (ci := 6) (As := [.int i4]) (rest := []) C dX6_copyFrom_21 rfl rfl tw_1058 tw_1059 tw_1060 tw_29 tw_1061 gd_X6_append rfl ⟨by decide, by decide⟩ (by simp [gcat, gcI, gcL, gcF, gcD]) ⟨by decide, by decide⟩ hf (fun hf => m_X6_append hfl hf)) rfl rfl (fun E g9 h9 => gx_out C (fun x hx => (ht x hx).elim) (by decide) (by decide) h9) (fun g5 hf => ?_)
        refine gg_iinc (L' := [some (va_rf l0), some (va_rf l1), some (.int (l2 + 1))]) C dX6_copyFrom_24 rfl (v := (l2 + 1)) rfl (Or.inr (Or.inr ⟨_, rfl, gcat _⟩)) (by decide) rfl ?_
        refine gg_goto (tgt := 6) C dX6_copyFrom_27 (by decide) ?_
        exact ih _ _ _ _ hf
  unfold w_X6_copyFrom at hf
  refine gg_aload_n C dX6_copyFrom_0 rfl ?_
  refine gr_V (k' := 0) (n' := 0) (gk_V (ci := 6) (As := []) (rest := []) C dX6_copyFrom_1 rfl rfl tw_1054 tw_1055 tw_1056 tw_29 tw_1057 gd_X6_clear rfl ⟨by decide, by decide⟩ (by simp [gcat, gcI, gcL, gcF, gcD]) ⟨by decide, by decide⟩ hf (fun hf => m_X6_clear hfl hf)) rfl rfl (fun E g9 h9 => gx_out C (fun x hx => (ht x hx).elim) (by decide) (by decide) h9) (fun g1 hf => ?_)
  refine gg_iconst C dX6_copyFrom_4 (v := (0 : Int32)) (by decide) ?_
  refine gg_istore_n (L' := [some (va_rf v0), some (va_rf v1), some (.int (0 : Int32))]) C dX6_copyFrom_5 (Or.inr (Or.inr ⟨_, rfl, gcat _⟩)) (by decide) rfl ?_
  exact hb_6 _ _ _ _ _ hf

def w_X4_init (X : Cx) (post : GM → Prop) (px : String → GM → Prop) (v0 : Option Nat) (v1 : Int32) (v2 : Option Nat) (g : GM) : Prop :=
  (∃ a : Nat, v0 = some a ∧ wNew X g (.inr (6, [.null, .int 0])) (fun q1 g2 => w_X6_init X (fun (g3 : GM) => wPut g3 v0 4 1 (va_rf (some q1)) (fun g4 => wPut g4 v0 4 2 (.int (0 : Int32)) (fun g5 => wPut g5 v0 4 3 (.int (0 : Int32)) (fun g6 => wPut g6 v0 4 0 (.int v1) (fun g7 => wGetR g7 v0 4 1 (fun (r8 : Option Nat) => wIs g7 r8 6 (w_X6_copyFrom X (fun (g9 : GM) => post g9) px r8 v2 g7))))))) px (some q1) g2))
abbrev rm_X4_init : Room := { frames := 2, cells := 2, slots := 8, locals := 43 }
set_option maxHeartbeats 4000000 in
set_option maxRecDepth 100000 in
theorem m_X4_init {X : Cx} {l : Launch} (hfl : l.stackTraces = false) {post : GM → Prop} {px : String → GM → Prop} {v0 : Option Nat} {v1 : Int32} {v2 : Option Nat} {g : GM} (hf : w_X4_init X post px v0 v1 v2 g) : gMet X l yX4_init cX4_init 3 none rm_X4_init [va_rf v0, .int v1, va_rf v2] g (qV X post) px := by
  refine gg_enter (L := [some (va_rf v0), some (.int v1), some (va_rf v2)]) hfl (by decide +kernel) (by simp [lg_sl, gcat, gcI, gcL, gcF, gcD]) (by simp [gll, lv_args, gcat, gcI, gcL, gcF, gcD]) ?_
  intro p e s m args below meth c C hr ht hm
  have C : FC X p l s m args meth c cX4_init 3 "Releasetrain$Group" := C
  unfold w_X4_init at hf
  refine gg_aload_n C dX4_init_0 rfl ?_
  refine gg_objInit C dX4_init_1 tw_1084 tw_67 tw_68 (by decide) (by simp [gcat, gcI, gcL, gcF, gcD]) hf (fun hf => ?_)
  refine gg_aload_n C dX4_init_4 rfl ?_
  refine gg_new (k' := 1) (n' := 2) C dX4_init_5 nk_X4_7 (by decide) (by decide) rfl rfl hf (fun q1 g2 hf => ?_)
  refine gg_dup C dX4_init_8 (gcat _) ?_
  refine gr_V (k' := 2) (n' := 8) (gk_IN (host := "Releasetrain") (As := []) (rest := [va_rf (some q1), va_rf v0]) C dX4_init_9 rfl (by decide +kernel) tw_98 tw_29 tw_99 gd_X6_init rfl ⟨by decide, by decide⟩ (by simp [gcat, gcI, gcL, gcF, gcD]) ⟨by decide, by decide⟩ (m_X6_init hfl hf)) rfl rfl (fun E g9 h9 => gx_out C (fun x hx => (ht x hx).elim) (by decide) (by decide) h9) (fun g3 hf => ?_)
  refine gg_putF C dX4_init_12 hm pk_X4_10 (gNar_obj _ _) hf (fun g4 hf => ?_)
  refine gg_aload_n C dX4_init_15 rfl ?_
  refine gg_iconst C dX4_init_16 (v := (0 : Int32)) (by decide) ?_
  refine gg_put C dX4_init_17 pk_X4_16 (gNar_int _) hf (fun g5 hf => ?_)
  refine gg_aload_n C dX4_init_20 rfl ?_
  refine gg_iconst C dX4_init_21 (v := (0 : Int32)) (by decide) ?_
  refine gg_put C dX4_init_22 pk_X4_20 (gNar_int _) hf (fun g6 hf => ?_)
  refine gg_aload_n C dX4_init_25 rfl ?_
  refine gg_iload_n C dX4_init_26 rfl ?_
  refine gg_putF C dX4_init_27 hm pk_X4_23 (gNar_int _) hf (fun g7 hf => ?_)
  refine gg_aload_n C dX4_init_30 rfl ?_
  refine gg_getR C dX4_init_31 lk_X4_10 hf (fun r8 hf => ?_)
  refine gg_aload_n C dX4_init_34 rfl ?_
  refine gr_V (k' := 2) (n' := 8) (gk_V (ci := 6) (As := [va_rf v2]) (rest := []) C dX4_init_35 rfl rfl tw_1087 tw_1051 tw_1052 tw_29 tw_1053 gd_X6_copyFrom rfl ⟨by decide, by decide⟩ (by simp [gcat, gcI, gcL, gcF, gcD]) ⟨by decide, by decide⟩ hf (fun hf => m_X6_copyFrom hfl hf)) rfl rfl (fun E g9 h9 => gx_out C (fun x hx => (ht x hx).elim) (by decide) (by decide) h9) (fun g9 hf => ?_)
  exact gg_vret C hr (by decide) (by decide) dX4_init_38 hf

def w_X5_init (X : Cx) (post : GM → Prop) (px : String → GM → Prop) (v0 : Option Nat) (v1 : Int32) (v2 : Int32) (v3 : Int32) (g : GM) : Prop :=
  (∃ a : Nat, v0 = some a ∧ wPut g v0 5 0 (.int v1) (fun g1 => wPut g1 v0 5 1 (.int v2) (fun g2 => wPut g2 v0 5 2 (.int v3) (fun g3 => post g3))))
abbrev rm_X5_init : Room := { frames := 1, cells := 0, slots := 0, locals := 12 }
set_option maxHeartbeats 4000000 in
set_option maxRecDepth 100000 in
theorem m_X5_init {X : Cx} {l : Launch} (hfl : l.stackTraces = false) {post : GM → Prop} {px : String → GM → Prop} {v0 : Option Nat} {v1 : Int32} {v2 : Int32} {v3 : Int32} {g : GM} (hf : w_X5_init X post px v0 v1 v2 v3 g) : gMet X l yX5_init cX5_init 4 none rm_X5_init [va_rf v0, .int v1, .int v2, .int v3] g (qV X post) px := by
  refine gg_enter (L := [some (va_rf v0), some (.int v1), some (.int v2), some (.int v3)]) hfl (by decide +kernel) (by simp [lg_sl, gcat, gcI, gcL, gcF, gcD]) (by simp [gll, lv_args, gcat, gcI, gcL, gcF, gcD]) ?_
  intro p e s m args below meth c C hr ht hm
  have C : FC X p l s m args meth c cX5_init 4 "Releasetrain$Offer" := C
  unfold w_X5_init at hf
  refine gg_aload_n C dX5_init_0 rfl ?_
  refine gg_objInit C dX5_init_1 tw_504 tw_67 tw_68 (by decide) (by simp [gcat, gcI, gcL, gcF, gcD]) hf (fun hf => ?_)
  refine gg_aload_n C dX5_init_4 rfl ?_
  refine gg_iload_n C dX5_init_5 rfl ?_
  refine gg_putF C dX5_init_6 hm pk_X5_7 (gNar_int _) hf (fun g1 hf => ?_)
  refine gg_aload_n C dX5_init_9 rfl ?_
  refine gg_iload_n C dX5_init_10 rfl ?_
  refine gg_putF C dX5_init_11 hm pk_X5_13 (gNar_int _) hf (fun g2 hf => ?_)
  refine gg_aload_n C dX5_init_14 rfl ?_
  refine gg_iload_n C dX5_init_15 rfl ?_
  refine gg_putF C dX5_init_16 hm pk_X5_16 (gNar_int _) hf (fun g3 hf => ?_)
  exact gg_vret C hr (by decide) (by decide) dX5_init_19 hf

def w_X7_isIn_b14 (X : Cx) (post : Int32 → GM → Prop) (px : String → GM → Prop)  (t0 : Int32) (g : GM) : Prop :=
  (narrow .boolean (.int t0) = .int t0 ∧ post t0 g)
def w_X7_isIn (X : Cx) (post : Int32 → GM → Prop) (px : String → GM → Prop) (v0 : Int32) (v1 : Int32) (g : GM) : Prop :=
  (if ((v0 >>> (v1 &&& 31)) &&& (1 : Int32)) = (1 : Int32) then w_X7_isIn_b14 X post px (1 : Int32) g else w_X7_isIn_b14 X post px (0 : Int32) g)
abbrev rm_X7_isIn : Room := { frames := 0, cells := 0, slots := 0, locals := 0 }
set_option maxHeartbeats 4000000 in
set_option maxRecDepth 100000 in
theorem m_X7_isIn {X : Cx} {l : Launch} (hfl : l.stackTraces = false) {post : Int32 → GM → Prop} {px : String → GM → Prop} {v0 : Int32} {v1 : Int32} {g : GM} (hf : w_X7_isIn X post px v0 v1 g) : gMet X l yX7_isIn cX7_isIn 2 (some .boolean) rm_X7_isIn [.int v0, .int v1] g (qI X post) px := by
  refine gg_enter (L := [some (.int v0), some (.int v1)]) hfl (by decide +kernel) (by simp [lg_sl, gcat, gcI, gcL, gcF, gcD]) (by simp [gll, lv_args, gcat, gcI, gcL, gcF, gcD]) ?_
  intro p e s m args below meth c C hr ht hm
  have C : FC X p l s m args meth c cX7_isIn 2 "Releasetrain" := C
  have hb_14 : ∀ (t0 : Int32) (g : GM), w_X7_isIn_b14 X post px  t0 g → GG X p l e rm_X7_isIn s m args below meth c 2 (vx_MQ below (qI X post) (gXC X px) args s rm_X7_isIn.cells rm_X7_isIn.slots (gA X)) 0 0 14 [none, none] [.int t0] g := by
    intro  t0 g hf
    unfold w_X7_isIn_b14 at hf
    exact gg_iret C hr (by decide) (by decide) dX7_isIn_14 hf.1 hf.2
  unfold w_X7_isIn at hf
  refine gg_iload_n C dX7_isIn_0 rfl ?_
  refine gg_iload_n C dX7_isIn_1 rfl ?_
  refine gg_ishr C dX7_isIn_2 ?_
  refine gg_iconst C dX7_isIn_3 (v := (1 : Int32)) (by decide) ?_
  refine gg_iand C dX7_isIn_4 ?_
  refine gg_iconst C dX7_isIn_5 (v := (1 : Int32)) (by decide) ?_
  refine gg_icmp_ne (tgt := 13) C dX7_isIn_6 (by decide) hf (fun hf => ?_) (fun hf => ?_)
  · refine gg_iconst C dX7_isIn_13 (v := (0 : Int32)) (by decide) ?_
    exact gg_sub (L' := [none, none]) (by first | exact trivial | simp [gsub]) (hb_14 _ _ hf)
  · refine gg_iconst C dX7_isIn_9 (v := (1 : Int32)) (by decide) ?_
    refine gg_goto (tgt := 14) C dX7_isIn_10 (by decide) ?_
    exact gg_sub (L' := [none, none]) (by first | exact trivial | simp [gsub]) (hb_14 _ _ hf)

def w_X5_isFor_b27 (X : Cx) (post : Int32 → GM → Prop) (px : String → GM → Prop)  (t0 : Int32) (g : GM) : Prop :=
  (narrow .boolean (.int t0) = .int t0 ∧ post t0 g)
def w_X5_isFor_b26 (X : Cx) (post : Int32 → GM → Prop) (px : String → GM → Prop)   (g : GM) : Prop :=
  w_X5_isFor_b27 X post px (0 : Int32) g
def w_X5_isFor (X : Cx) (post : Int32 → GM → Prop) (px : String → GM → Prop) (v0 : Option Nat) (v1 : Int32) (v2 : Int32) (g : GM) : Prop :=
  wGetI g v0 5 0 (fun (i1 : Int32) => w_X7_isIn X (fun (i3 : Int32) (g2 : GM) => (if i3 = 0 then w_X5_isFor_b26 X post px g2 else wGetI g2 v0 5 1 (fun (i4 : Int32) => w_X7_isIn X (fun (i6 : Int32) (g5 : GM) => (if i6 = 0 then w_X5_isFor_b26 X post px g5 else w_X5_isFor_b27 X post px (1 : Int32) g5)) px i4 v2 g2))) px i1 v1 g)
abbrev rm_X5_isFor : Room := { frames := 1, cells := 0, slots := 0, locals := 21 }
set_option maxHeartbeats 4000000 in
set_option maxRecDepth 100000 in
theorem m_X5_isFor {X : Cx} {l : Launch} (hfl : l.stackTraces = false) {post : Int32 → GM → Prop} {px : String → GM → Prop} {v0 : Option Nat} {v1 : Int32} {v2 : Int32} {g : GM} (hf : w_X5_isFor X post px v0 v1 v2 g) : gMet X l yX5_isFor cX5_isFor 3 (some .boolean) rm_X5_isFor [va_rf v0, .int v1, .int v2] g (qI X post) px := by
  refine gg_enter (L := [some (va_rf v0), some (.int v1), some (.int v2)]) hfl (by decide +kernel) (by simp [lg_sl, gcat, gcI, gcL, gcF, gcD]) (by simp [gll, lv_args, gcat, gcI, gcL, gcF, gcD]) ?_
  intro p e s m args below meth c C hr ht hm
  have C : FC X p l s m args meth c cX5_isFor 3 "Releasetrain$Offer" := C
  have hb_27 : ∀ (t0 : Int32) (g : GM), w_X5_isFor_b27 X post px  t0 g → GG X p l e rm_X5_isFor s m args below meth c 3 (vx_MQ below (qI X post) (gXC X px) args s rm_X5_isFor.cells rm_X5_isFor.slots (gA X)) 0 0 27 [none, none, none] [.int t0] g := by
    intro  t0 g hf
    unfold w_X5_isFor_b27 at hf
    exact gg_iret C hr (by decide) (by decide) dX5_isFor_27 hf.1 hf.2
  have hb_26 : ∀  (g : GM), w_X5_isFor_b26 X post px   g → GG X p l e rm_X5_isFor s m args below meth c 3 (vx_MQ below (qI X post) (gXC X px) args s rm_X5_isFor.cells rm_X5_isFor.slots (gA X)) 0 0 26 [none, none, none] [] g := by
    intro   g hf
    unfold w_X5_isFor_b26 at hf
    refine gg_iconst C dX5_isFor_26 (v := (0 : Int32)) (by decide) ?_
    exact hb_27 _ _ hf
  unfold w_X5_isFor at hf
  refine gg_aload_n C dX5_isFor_0 rfl ?_
  refine gg_getI C dX5_isFor_1 lk_X5_7 hf (fun i1 hf => ?_)
  refine gg_iload_n C dX5_isFor_4 rfl ?_
  refine gr_I (k' := 0) (n' := 0) (gk_SN (host := "Releasetrain") (As := [.int i1, .int v1]) (rest := []) C dX5_isFor_5 (by decide +kernel) tw_670 tw_25 tw_671 gd_X7_isIn rfl ⟨by decide, by decide⟩ (by simp [gcat, gcI, gcL, gcF, gcD]) ⟨by decide, by decide⟩ (m_X7_isIn hfl hf)) rfl rfl (fun E g9 h9 => gx_out C (fun x hx => (ht x hx).elim) (by decide) (by decide) h9) (fun i3 g2 hf => ?_)
  refine gg_if_eq (tgt := 26) C dX5_isFor_8 (by decide) hf (fun hf => ?_) (fun hf => ?_)
  · exact gg_sub (L' := [none, none, none]) (by first | exact trivial | simp [gsub]) (hb_26 _ hf)
  · refine gg_aload_n C dX5_isFor_11 rfl ?_
    refine gg_getI C dX5_isFor_12 lk_X5_13 hf (fun i4 hf => ?_)
    refine gg_iload_n C dX5_isFor_15 rfl ?_
    refine gr_I (k' := 0) (n' := 0) (gk_SN (host := "Releasetrain") (As := [.int i4, .int v2]) (rest := []) C dX5_isFor_16 (by decide +kernel) tw_670 tw_25 tw_671 gd_X7_isIn rfl ⟨by decide, by decide⟩ (by simp [gcat, gcI, gcL, gcF, gcD]) ⟨by decide, by decide⟩ (m_X7_isIn hfl hf)) rfl rfl (fun E g9 h9 => gx_out C (fun x hx => (ht x hx).elim) (by decide) (by decide) h9) (fun i6 g5 hf => ?_)
    refine gg_if_eq (tgt := 26) C dX5_isFor_19 (by decide) hf (fun hf => ?_) (fun hf => ?_)
    · exact gg_sub (L' := [none, none, none]) (by first | exact trivial | simp [gsub]) (hb_26 _ hf)
    · refine gg_iconst C dX5_isFor_22 (v := (1 : Int32)) (by decide) ?_
      refine gg_goto (tgt := 27) C dX5_isFor_23 (by decide) ?_
      exact gg_sub (L' := [none, none, none]) (by first | exact trivial | simp [gsub]) (hb_27 _ _ hf)

def w_X6_likenessTo_b62 (X : Cx) (post : UInt32 → GM → Prop) (px : String → GM → Prop)  (l2 : Int32) (l4 : Int32) (g : GM) : Prop :=
  vf_n32 (FP.fdiv (FP.i2f l4) (FP.i2f l2)) ∧ post (FP.fdiv (FP.i2f l4) (FP.i2f l2)) g
def w_X6_likenessTo_l33 (X : Cx) (post : UInt32 → GM → Prop) (px : String → GM → Prop)  : Nat → Option Nat → Option Nat → Int32 → Int32 → Int32 → GM → Prop
  | 0, _, _, _, _, _, _ => False
  | f + 1, l0, l1, l2, l3, l4, g => (if l3 ≤ l4 then w_X6_likenessTo_b62 X post px l2 l4 g else wGetR g l0 6 0 (fun (r5 : Option Nat) => wAld g r5 l4 1 (fun (i6 : Int32) => wGetR g l1 6 0 (fun (r7 : Option Nat) => wAld g r7 l4 1 (fun (i8 : Int32) => (if i6 = i8 then w_X6_likenessTo_l33 X post px f l0 l1 l2 l3 (l4 + 1) g else w_X6_likenessTo_b62 X post px l2 l4 g))))))
def w_X6_likenessTo (X : Cx) (post : UInt32 → GM → Prop) (px : String → GM → Prop) (v0 : Option Nat) (v1 : Option Nat) (g : GM) : Prop :=
  wGetI g v0 6 1 (fun (i1 : Int32) => wGetI g v1 6 1 (fun (i2 : Int32) => (if (if i1 < i2 then i2 else i1) = 0 then post FP.fconst0 g else wGetI g v0 6 1 (fun (i3 : Int32) => wGetI g v1 6 1 (fun (i4 : Int32) => w_X6_likenessTo_l33 X post px 3000 v0 v1 (if i1 < i2 then i2 else i1) (if i4 < i3 then i4 else i3) (0 : Int32) g)))))
abbrev rm_X6_likenessTo : Room := { frames := 1, cells := 0, slots := 0, locals := 16 }
set_option maxHeartbeats 4000000 in
set_option maxRecDepth 100000 in
theorem m_X6_likenessTo {X : Cx} {l : Launch} (hfl : l.stackTraces = false) {post : UInt32 → GM → Prop} {px : String → GM → Prop} {v0 : Option Nat} {v1 : Option Nat} {g : GM} (hf : w_X6_likenessTo X post px v0 v1 g) : gMet X l yX6_likenessTo cX6_likenessTo 5 (some .float) rm_X6_likenessTo [va_rf v0, va_rf v1] g (qF X post) px := by
  refine gg_enter (L := [some (va_rf v0), some (va_rf v1), none, none, none]) hfl (by decide +kernel) (by simp [lg_sl, gcat, gcI, gcL, gcF, gcD]) (by simp [gll, lv_args, gcat, gcI, gcL, gcF, gcD]) ?_
  intro p e s m args below meth c C hr ht hm
  have C : FC X p l s m args meth c cX6_likenessTo 5 "Releasetrain$Stack" := C
  have hb_62 : ∀ (l2 : Int32) (l4 : Int32) (g : GM), w_X6_likenessTo_b62 X post px  l2 l4 g → GG X p l e rm_X6_likenessTo s m args below meth c 5 (vx_MQ below (qF X post) (gXC X px) args s rm_X6_likenessTo.cells rm_X6_likenessTo.slots (gA X)) 0 0 62 [none, none, some (.int l2), none, some (.int l4)] [] g := by
    intro  l2 l4 g hf
    unfold w_X6_likenessTo_b62 at hf
    refine gg_iload C dX6_likenessTo_62 rfl ?_
    refine gg_i2f C dX6_likenessTo_64 ?_
    refine gg_iload_n C dX6_likenessTo_65 rfl ?_
    refine gg_i2f C dX6_likenessTo_66 ?_
    refine gg_fdiv C dX6_likenessTo_67 hf.1 ?_
    replace hf := hf.2
    exact gg_fret C hr (by decide) (by decide) dX6_likenessTo_68 hf
  have hb_33 : ∀ (f : Nat) (l0 : Option Nat) (l1 : Option Nat) (l2 : Int32) (l3 : Int32) (l4 : Int32) (g : GM), w_X6_likenessTo_l33 X post px  f l0 l1 l2 l3 l4 g → GG X p l e rm_X6_likenessTo s m args below meth c 5 (vx_MQ below (qF X post) (gXC X px) args s rm_X6_likenessTo.cells rm_X6_likenessTo.slots (gA X)) 0 0 33 [some (va_rf l0), some (va_rf l1), some (.int l2), some (.int l3), some (.int l4)] [] g := by
    intro  f
    induction f with
    | zero => intro l0 l1 l2 l3 l4 g hf; exact (show False from hf).elim
    | succ f ih =>
      intro l0 l1 l2 l3 l4 g hf
      rw [w_X6_likenessTo_l33] at hf
      refine gg_iload C dX6_likenessTo_33 rfl ?_
      refine gg_iload_n C dX6_likenessTo_35 rfl ?_
      refine gg_icmp_ge (tgt := 62) C dX6_likenessTo_36 (by decide) hf (fun hf => ?_) (fun hf => ?_)
      · exact gg_sub (L' := [none, none, some (.int l2), none, some (.int l4)]) (by first | exact ⟨rfl, ⟨rfl, trivial⟩⟩ | simp [gsub]) (hb_62 _ _ _ hf)
      · refine gg_aload_n C dX6_likenessTo_39 rfl ?_
        refine gg_getR C dX6_likenessTo_40 lk_X6_9 hf (fun r5 hf => ?_)
        refine gg_iload C dX6_likenessTo_43 rfl ?_
        refine gg_cald C dX6_likenessTo_45 hf (fun i6 hf => ?_)
        refine gg_aload_n C dX6_likenessTo_46 rfl ?_
        refine gg_getR C dX6_likenessTo_47 lk_X6_9 hf (fun r7 hf => ?_)
        refine gg_iload C dX6_likenessTo_50 rfl ?_
        refine gg_cald C dX6_likenessTo_52 hf (fun i8 hf => ?_)
        refine gg_icmp_ne (tgt := 62) C dX6_likenessTo_53 (by decide) hf (fun hf => ?_) (fun hf => ?_)
        · exact gg_sub (L' := [none, none, some (.int l2), none, some (.int l4)]) (by first | exact ⟨rfl, ⟨rfl, trivial⟩⟩ | simp [gsub]) (hb_62 _ _ _ hf)
        · refine gg_iinc (L' := [some (va_rf l0), some (va_rf l1), some (.int l2), some (.int l3), some (.int (l4 + 1))]) C dX6_likenessTo_56 rfl (v := (l4 + 1)) rfl (Or.inr (Or.inr ⟨_, rfl, rfl⟩)) (by decide) rfl ?_
          refine gg_goto (tgt := 33) C dX6_likenessTo_59 (by decide) ?_
          exact ih _ _ _ _ _ _ hf
  unfold w_X6_likenessTo at hf
  refine gg_aload_n C dX6_likenessTo_0 rfl ?_
  refine gg_getI C dX6_likenessTo_1 lk_X6_15 hf (fun i1 hf => ?_)
  refine gg_aload_n C dX6_likenessTo_4 rfl ?_
  refine gg_getI C dX6_likenessTo_5 lk_X6_15 hf (fun i2 hf => ?_)
  refine gg_mmax C dX6_likenessTo_8 tw_1077 tw_449 tw_44 tw_max (by decide) (by simp [gcat, gcI, gcL, gcF, gcD]) (by decide) (by decide) ?_
  refine gg_istore_n (L' := [some (va_rf v0), some (va_rf v1), some (.int (if i1 < i2 then i2 else i1)), none, none]) C dX6_likenessTo_11 (Or.inr (Or.inr ⟨_, rfl, gcat _⟩)) (by decide) rfl ?_
  refine gg_iload_n C dX6_likenessTo_12 rfl ?_
  refine gg_if_ne (tgt := 18) C dX6_likenessTo_13 (by decide) hf (fun hf => ?_) (fun hf => ?_)
  · refine gg_aload_n C dX6_likenessTo_18 rfl ?_
    refine gg_getI C dX6_likenessTo_19 lk_X6_15 hf (fun i3 hf => ?_)
    refine gg_aload_n C dX6_likenessTo_22 rfl ?_
    refine gg_getI C dX6_likenessTo_23 lk_X6_15 hf (fun i4 hf => ?_)
    refine gg_mmin C dX6_likenessTo_26 tw_1078 tw_488 tw_44 tw_min (by decide) (by simp [gcat, gcI, gcL, gcF, gcD]) (by decide) (by decide) ?_
    refine gg_istore_n (L' := [some (va_rf v0), some (va_rf v1), some (.int (if i1 < i2 then i2 else i1)), some (.int (if i4 < i3 then i4 else i3)), none]) C dX6_likenessTo_29 (Or.inr (Or.inr ⟨_, rfl, rfl⟩)) (by decide) rfl ?_
    refine gg_iconst C dX6_likenessTo_30 (v := (0 : Int32)) (by decide) ?_
    refine gg_istore (L' := [some (va_rf v0), some (va_rf v1), some (.int (if i1 < i2 then i2 else i1)), some (.int (if i4 < i3 then i4 else i3)), some (.int (0 : Int32))]) C dX6_likenessTo_31 (Or.inr (Or.inr ⟨_, rfl, rfl⟩)) (by decide) rfl ?_
    exact hb_33 _ _ _ _ _ _ _ hf
  · refine gg_fconst0 C dX6_likenessTo_16 ?_
    exact gg_fret C hr (by decide) (by decide) dX6_likenessTo_17 hf

def w_Jxa1e45_init_da8c8 (X : Cx) (post : GM → Prop) (px : String → GM → Prop) (v0 : Option Nat) (g : GM) : Prop :=
  (∃ a : Nat, v0 = some a ∧ post g)
abbrev rm_Jxa1e45_init_da8c8 : Room := { frames := 1, cells := 0, slots := 0, locals := 12 }
set_option maxHeartbeats 4000000 in
set_option maxRecDepth 100000 in
theorem m_Jxa1e45_init_da8c8 {X : Cx} {l : Launch} (hfl : l.stackTraces = false) {post : GM → Prop} {px : String → GM → Prop} {v0 : Option Nat} {g : GM} (hf : w_Jxa1e45_init_da8c8 X post px v0 g) : gMet X l yJxa1e45_init_da8c8 cJxa1e45_init_da8c8 1 none rm_Jxa1e45_init_da8c8 [va_rf v0] g (qV X post) px := by
  refine gg_enter (L := [some (va_rf v0)]) hfl (by decide +kernel) (by simp [lg_sl, gcat, gcI, gcL, gcF, gcD]) (by simp [gll, lv_args, gcat, gcI, gcL, gcF, gcD]) ?_
  intro p e s m args below meth c C hr ht hm
  have C : FC X p l s m args meth c cJxa1e45_init_da8c8 1 "java/util/AbstractCollection" := C
  unfold w_Jxa1e45_init_da8c8 at hf
  refine gg_aload_n C dJxa1e45_init_da8c8_0 rfl ?_
  refine gg_objInit C dJxa1e45_init_da8c8_1 tw_80 tw_67 tw_68 (by decide) (by simp [gcat, gcI, gcL, gcF, gcD]) hf (fun hf => ?_)
  exact gg_vret C hr (by decide) (by decide) dJxa1e45_init_da8c8_4 hf

def w_Jxc12de_init_da8c8 (X : Cx) (post : GM → Prop) (px : String → GM → Prop) (v0 : Option Nat) (g : GM) : Prop :=
  (∃ a : Nat, v0 = some a ∧ w_Jxa1e45_init_da8c8 X (fun (g1 : GM) => wPut g1 v0 10 0 (.int (0 : Int32)) (fun g2 => post g2)) px v0 g)
abbrev rm_Jxc12de_init_da8c8 : Room := { frames := 2, cells := 0, slots := 0, locals := 32 }
set_option maxHeartbeats 4000000 in
set_option maxRecDepth 100000 in
theorem m_Jxc12de_init_da8c8 {X : Cx} {l : Launch} (hfl : l.stackTraces = false) {post : GM → Prop} {px : String → GM → Prop} {v0 : Option Nat} {g : GM} (hf : w_Jxc12de_init_da8c8 X post px v0 g) : gMet X l yJxc12de_init_da8c8 cJxc12de_init_da8c8 1 none rm_Jxc12de_init_da8c8 [va_rf v0] g (qV X post) px := by
  refine gg_enter (L := [some (va_rf v0)]) hfl (by decide +kernel) (by simp [lg_sl, gcat, gcI, gcL, gcF, gcD]) (by simp [gll, lv_args, gcat, gcI, gcL, gcF, gcD]) ?_
  intro p e s m args below meth c C hr ht hm
  have C : FC X p l s m args meth c cJxc12de_init_da8c8 1 "java/util/AbstractList" := C
  unfold w_Jxc12de_init_da8c8 at hf
  refine gg_aload_n C dJxc12de_init_da8c8_0 rfl ?_
  obtain ⟨a9, e9, hf⟩ := hf
  subst e9
  refine gr_V (k' := 0) (n' := 0) (gk_I (As := []) (rest := []) C dJxc12de_init_da8c8_1 rfl tw_77 tw_78 tw_26 tw_79 gd_Jxa1e45_init_da8c8 rfl ⟨by decide, by decide⟩ (by simp [gcat, gcI, gcL, gcF, gcD]) ⟨by decide, by decide⟩ (m_Jxa1e45_init_da8c8 hfl hf)) rfl rfl (fun E g9 h9 => gx_out C (fun x hx => (ht x hx).elim) (by decide) (by decide) h9) (fun g1 hf => ?_)
  refine gg_aload_n C dJxc12de_init_da8c8_4 rfl ?_
  refine gg_iconst C dJxc12de_init_da8c8_5 (v := (0 : Int32)) (by decide) ?_
  refine gg_put C dJxc12de_init_da8c8_6 pk_java_util_AbstractList_7 (gNar_int _) hf (fun g2 hf => ?_)
  exact gg_vret C hr (by decide) (by decide) dJxc12de_init_da8c8_9 hf

def w_Jx4a65c_init_da8c8 (X : Cx) (post : GM → Prop) (px : String → GM → Prop) (v0 : Option Nat) (g : GM) : Prop :=
  (∃ a : Nat, v0 = some a ∧ w_Jxc12de_init_da8c8 X (fun (g1 : GM) => wPut g1 v0 10 1 (va_rf (some (X.2.2.2 200))) (fun g2 => post g2)) px v0 g)
abbrev rm_Jx4a65c_init_da8c8 : Room := { frames := 3, cells := 0, slots := 0, locals := 52 }
set_option maxHeartbeats 4000000 in
set_option maxRecDepth 100000 in
theorem m_Jx4a65c_init_da8c8 {X : Cx} {l : Launch} (hfl : l.stackTraces = false) {post : GM → Prop} {px : String → GM → Prop} {v0 : Option Nat} {g : GM} (hf : w_Jx4a65c_init_da8c8 X post px v0 g) : gMet X l yJx4a65c_init_da8c8 cJx4a65c_init_da8c8 1 none rm_Jx4a65c_init_da8c8 [va_rf v0] g (qV X post) px := by
  refine gg_enter (L := [some (va_rf v0)]) hfl (by decide +kernel) (by simp [lg_sl, gcat, gcI, gcL, gcF, gcD]) (by simp [gll, lv_args, gcat, gcI, gcL, gcF, gcD]) ?_
  intro p e s m args below meth c C hr ht hm
  have C : FC X p l s m args meth c cJx4a65c_init_da8c8 1 "java/util/ArrayList" := C
  unfold w_Jx4a65c_init_da8c8 at hf
  refine gg_aload_n C dJx4a65c_init_da8c8_0 rfl ?_
  obtain ⟨a9, e9, hf⟩ := hf
  subst e9
  refine gr_V (k' := 0) (n' := 0) (gk_I (As := []) (rest := []) C dJx4a65c_init_da8c8_1 rfl tw_74 tw_75 tw_27 tw_76 gd_Jxc12de_init_da8c8 rfl ⟨by decide, by decide⟩ (by simp [gcat, gcI, gcL, gcF, gcD]) ⟨by decide, by decide⟩ (m_Jxc12de_init_da8c8 hfl hf)) rfl rfl (fun E g9 h9 => gx_out C (fun x hx => (ht x hx).elim) (by decide) (by decide) h9) (fun g1 hf => ?_)
  refine gg_aload_n C dJx4a65c_init_da8c8_4 rfl ?_
  refine gg_s_empty C dJx4a65c_init_da8c8_5 tw_81 ?_
  refine gg_put C dJx4a65c_init_da8c8_8 pk_Jx4a65c_9 (gNar_arr _ _) hf (fun g2 hf => ?_)
  exact gg_vret C hr (by decide) (by decide) dJx4a65c_init_da8c8_11 hf

def w_J5_init_d00df (X : Cx) (post : GM → Prop) (px : String → GM → Prop) (v0 : Option Nat) (v1 : Int32) (g : GM) : Prop :=
  (∃ a : Nat, v0 = some a ∧ (if (1 : Int32) = 0 then False else (¬ v1 < 0 ∧ (v1).toNatClampNeg ≤ 128 ∧ wNew X g (.inl (2, (v1).toNatClampNeg, .inl (fun _ => 0))) (fun q1 g2 => wPut g2 v0 9 0 (va_rf (some q1)) (fun g3 => wPut g3 v0 9 1 (.int (0 : Int32)) (fun g4 => post g4))))))
abbrev rm_J5_init_d00df : Room := { frames := 1, cells := 1, slots := 128, locals := 12 }
set_option maxHeartbeats 4000000 in
set_option maxRecDepth 100000 in
theorem m_J5_init_d00df {X : Cx} {l : Launch} (hfl : l.stackTraces = false) {post : GM → Prop} {px : String → GM → Prop} {v0 : Option Nat} {v1 : Int32} {g : GM} (hf : w_J5_init_d00df X post px v0 v1 g) : gMet X l yJ5_init_d00df cJ5_init_d00df 2 none rm_J5_init_d00df [va_rf v0, .int v1] g (qV X post) px := by
  refine gg_enter (L := [some (va_rf v0), some (.int v1)]) hfl (by decide +kernel) (by simp [lg_sl, gcat, gcI, gcL, gcF, gcD]) (by simp [gll, lv_args, gcat, gcI, gcL, gcF, gcD]) ?_
  intro p e s m args below meth c C hr ht hm
  have C : FC X p l s m args meth c cJ5_init_d00df 2 "java/lang/AbstractStringBuilder" := C
  unfold w_J5_init_d00df at hf
  refine gg_aload_n C dJ5_init_d00df_0 rfl ?_
  refine gg_objInit C dJ5_init_d00df_1 tw_119 tw_67 tw_68 (by decide) (by simp [gcat, gcI, gcL, gcF, gcD]) hf (fun hf => ?_)
  refine gg_s_compact C dJ5_init_d00df_4 tw_120 ?_
  refine gg_if_eq (tgt := 25) C dJ5_init_d00df_7 (by decide) hf (fun hf => ?_) (fun hf => ?_)
  · refine gg_aload_n C dJ5_init_d00df_25 rfl ?_
    refine gg_iload_n C dJ5_init_d00df_26 rfl ?_
    exact hf.elim
  · refine gg_aload_n C dJ5_init_d00df_10 rfl ?_
    refine gg_iload_n C dJ5_init_d00df_11 rfl ?_
    refine gg_newarr' (k' := 1) (n' := 128) (kd := 2) (cap := 128) (x := fun N => (N, .inl (fun _ => 0))) C dJ5_init_d00df_12 tw_143 rfl rfl (fun _ _ => rfl) (by decide) (by decide) (by decide) rfl rfl hf (fun q1 g2 hf => ?_)
    refine gg_put C dJ5_init_d00df_14 pk_java_lang_AbstractStringBuilder_15 (gNar_arr _ _) hf (fun g3 hf => ?_)
    refine gg_aload_n C dJ5_init_d00df_17 rfl ?_
    refine gg_iconst C dJ5_init_d00df_18 (v := (0 : Int32)) (by decide) ?_
    refine gg_put C dJ5_init_d00df_19 pk_java_lang_AbstractStringBuilder_22 ⟨rfl, rfl⟩ hf (fun g4 hf => ?_)
    refine gg_goto (tgt := 38) C dJ5_init_d00df_22 (by decide) ?_
    exact gg_vret C hr (by decide) (by decide) dJ5_init_d00df_38 hf

def w_J4_init_da8c8 (X : Cx) (post : GM → Prop) (px : String → GM → Prop) (v0 : Option Nat) (g : GM) : Prop :=
  (∃ a : Nat, v0 = some a ∧ w_J5_init_d00df X (fun (g1 : GM) => post g1) px v0 (16 : Int32) g)
abbrev rm_J4_init_da8c8 : Room := { frames := 2, cells := 1, slots := 128, locals := 33 }
set_option maxHeartbeats 4000000 in
set_option maxRecDepth 100000 in
theorem m_J4_init_da8c8 {X : Cx} {l : Launch} (hfl : l.stackTraces = false) {post : GM → Prop} {px : String → GM → Prop} {v0 : Option Nat} {g : GM} (hf : w_J4_init_da8c8 X post px v0 g) : gMet X l yJ4_init_da8c8 cJ4_init_da8c8 1 none rm_J4_init_da8c8 [va_rf v0] g (qV X post) px := by
  refine gg_enter (L := [some (va_rf v0)]) hfl (by decide +kernel) (by simp [lg_sl, gcat, gcI, gcL, gcF, gcD]) (by simp [gll, lv_args, gcat, gcI, gcL, gcF, gcD]) ?_
  intro p e s m args below meth c C hr ht hm
  have C : FC X p l s m args meth c cJ4_init_da8c8 1 "java/lang/StringBuilder" := C
  unfold w_J4_init_da8c8 at hf
  refine gg_aload_n C dJ4_init_da8c8_0 rfl ?_
  refine gg_bipush C dJ4_init_da8c8_1 (v := (16 : Int32)) (by decide) ?_
  obtain ⟨a9, e9, hf⟩ := hf
  subst e9
  refine gr_V (k' := 1) (n' := 128) (gk_I (As := [.int (16 : Int32)]) (rest := []) C dJ4_init_da8c8_3 rfl tw_116 tw_117 tw_30 tw_118 gd_J5_init_d00df rfl ⟨by decide, by decide⟩ (by simp [gcat, gcI, gcL, gcF, gcD]) ⟨by decide, by decide⟩ (m_J5_init_d00df hfl hf)) rfl rfl (fun E g9 h9 => gx_out C (fun x hx => (ht x hx).elim) (by decide) (by decide) h9) (fun g1 hf => ?_)
  exact gg_vret C hr (by decide) (by decide) dJ4_init_da8c8_6 hf

def w_X7_init (X : Cx) (post : GM → Prop) (px : String → GM → Prop) (v0 : Option Nat) (g : GM) : Prop :=
  (∃ a : Nat, v0 = some a ∧ wNew X g (.inr (10, [.int 0, .null, .int 0])) (fun q1 g2 => w_Jx4a65c_init_da8c8 X (fun (g3 : GM) => wPut g3 v0 7 0 (va_rf (some q1)) (fun g4 => wNew X g4 (.inr (10, [.int 0, .null, .int 0])) (fun q5 g6 => w_Jx4a65c_init_da8c8 X (fun (g7 : GM) => wPut g7 v0 7 1 (va_rf (some q5)) (fun g8 => wNew X g8 (.inr (10, [.int 0, .null, .int 0])) (fun q9 g10 => w_Jx4a65c_init_da8c8 X (fun (g11 : GM) => wPut g11 v0 7 2 (va_rf (some q9)) (fun g12 => wNew X g12 (.inr (10, [.int 0, .null, .int 0])) (fun q13 g14 => w_Jx4a65c_init_da8c8 X (fun (g15 : GM) => wPut g15 v0 7 3 (va_rf (some q13)) (fun g16 => wNew X g16 (.inr (6, [.null, .int 0])) (fun q17 g18 => w_X6_init X (fun (g19 : GM) => wPut g19 v0 7 4 (va_rf (some q17)) (fun g20 => wNew X g20 (.inr (6, [.null, .int 0])) (fun q21 g22 => w_X6_init X (fun (g23 : GM) => wPut g23 v0 7 5 (va_rf (some q21)) (fun g24 => wNew X g24 (.inr (9, [.null, .int 0, .int 0, .int 0])) (fun q25 g26 => w_J4_init_da8c8 X (fun (g27 : GM) => wPut g27 v0 7 6 (va_rf (some q25)) (fun g28 => wPut g28 v0 7 7 (.int (200 : Int32)) (fun g29 => wPut g29 v0 7 8 (.int (0 : Int32)) (fun g30 => wPut g30 v0 7 9 (.int (0 : Int32)) (fun g31 => wPut g31 v0 7 10 (.float (1056964608 : UInt32)) (fun g32 => wPut g32 v0 7 11 (.float (1056964608 : UInt32)) (fun g33 => wPut g33 v0 7 12 (.int (0 : Int32)) (fun g34 => post g34)))))))) px (some q25) g26))) px (some q21) g22))) px (some q17) g18))) px (some q13) g14))) px (some q9) g10))) px (some q5) g6))) px (some q1) g2))
abbrev rm_X7_init : Room := { frames := 4, cells := 10, slots := 160, locals := 72 }
set_option maxHeartbeats 4000000 in
set_option maxRecDepth 100000 in
theorem m_X7_init {X : Cx} {l : Launch} (hfl : l.stackTraces = false) {post : GM → Prop} {px : String → GM → Prop} {v0 : Option Nat} {g : GM} (hf : w_X7_init X post px v0 g) : gMet X l yX7_init cX7_init 1 none rm_X7_init [va_rf v0] g (qV X post) px := by
  refine gg_enter (L := [some (va_rf v0)]) hfl (by decide +kernel) (by simp [lg_sl, gcat, gcI, gcL, gcF, gcD]) (by simp [gll, lv_args, gcat, gcI, gcL, gcF, gcD]) ?_
  intro p e s m args below meth c C hr ht hm
  have C : FC X p l s m args meth c cX7_init 1 "Releasetrain" := C
  unfold w_X7_init at hf
  refine gg_aload_n C dX7_init_0 rfl ?_
  refine gg_objInit C dX7_init_1 tw_66 tw_67 tw_68 (by decide) (by simp [gcat, gcI, gcL, gcF, gcD]) hf (fun hf => ?_)
  refine gg_aload_n C dX7_init_4 rfl ?_
  refine gg_new (k' := 1) (n' := 3) C dX7_init_5 nk_X7_7 (by decide) (by decide) rfl rfl hf (fun q1 g2 hf => ?_)
  refine gg_dup C dX7_init_8 (gcat _) ?_
  refine gr_V (k' := 1) (n' := 3) (gk_I (As := []) (rest := [va_rf (some q1), va_rf v0]) C dX7_init_9 rfl tw_71 tw_72 tw_28 tw_73 gd_Jx4a65c_init_da8c8 rfl ⟨by decide, by decide⟩ (by simp [gcat, gcI, gcL, gcF, gcD]) ⟨by decide, by decide⟩ (m_Jx4a65c_init_da8c8 hfl hf)) rfl rfl (fun E g9 h9 => gx_out C (fun x hx => (ht x hx).elim) (by decide) (by decide) h9) (fun g3 hf => ?_)
  refine gg_putF C dX7_init_12 hm pk_X7_10 (gNar_obj _ _) hf (fun g4 hf => ?_)
  refine gg_aload_n C dX7_init_15 rfl ?_
  refine gg_new (k' := 2) (n' := 6) C dX7_init_16 nk_X7_7 (by decide) (by decide) rfl rfl hf (fun q5 g6 hf => ?_)
  refine gg_dup C dX7_init_19 (gcat _) ?_
  refine gr_V (k' := 2) (n' := 6) (gk_I (As := []) (rest := [va_rf (some q5), va_rf v0]) C dX7_init_20 rfl tw_71 tw_72 tw_28 tw_73 gd_Jx4a65c_init_da8c8 rfl ⟨by decide, by decide⟩ (by simp [gcat, gcI, gcL, gcF, gcD]) ⟨by decide, by decide⟩ (m_Jx4a65c_init_da8c8 hfl hf)) rfl rfl (fun E g9 h9 => gx_out C (fun x hx => (ht x hx).elim) (by decide) (by decide) h9) (fun g7 hf => ?_)
  refine gg_putF C dX7_init_23 hm pk_X7_16 (gNar_obj _ _) hf (fun g8 hf => ?_)
  refine gg_aload_n C dX7_init_26 rfl ?_
  refine gg_new (k' := 3) (n' := 9) C dX7_init_27 nk_X7_7 (by decide) (by decide) rfl rfl hf (fun q9 g10 hf => ?_)
  refine gg_dup C dX7_init_30 (gcat _) ?_
  refine gr_V (k' := 3) (n' := 9) (gk_I (As := []) (rest := [va_rf (some q9), va_rf v0]) C dX7_init_31 rfl tw_71 tw_72 tw_28 tw_73 gd_Jx4a65c_init_da8c8 rfl ⟨by decide, by decide⟩ (by simp [gcat, gcI, gcL, gcF, gcD]) ⟨by decide, by decide⟩ (m_Jx4a65c_init_da8c8 hfl hf)) rfl rfl (fun E g9 h9 => gx_out C (fun x hx => (ht x hx).elim) (by decide) (by decide) h9) (fun g11 hf => ?_)
  refine gg_putF C dX7_init_34 hm pk_X7_19 (gNar_obj _ _) hf (fun g12 hf => ?_)
  refine gg_aload_n C dX7_init_37 rfl ?_
  refine gg_new (k' := 4) (n' := 12) C dX7_init_38 nk_X7_7 (by decide) (by decide) rfl rfl hf (fun q13 g14 hf => ?_)
  refine gg_dup C dX7_init_41 (gcat _) ?_
  refine gr_V (k' := 4) (n' := 12) (gk_I (As := []) (rest := [va_rf (some q13), va_rf v0]) C dX7_init_42 rfl tw_71 tw_72 tw_28 tw_73 gd_Jx4a65c_init_da8c8 rfl ⟨by decide, by decide⟩ (by simp [gcat, gcI, gcL, gcF, gcD]) ⟨by decide, by decide⟩ (m_Jx4a65c_init_da8c8 hfl hf)) rfl rfl (fun E g9 h9 => gx_out C (fun x hx => (ht x hx).elim) (by decide) (by decide) h9) (fun g15 hf => ?_)
  refine gg_putF C dX7_init_45 hm pk_X7_22 (gNar_obj _ _) hf (fun g16 hf => ?_)
  refine gg_aload_n C dX7_init_48 rfl ?_
  refine gg_new (k' := 5) (n' := 14) C dX7_init_49 nk_X7_25 (by decide) (by decide) rfl rfl hf (fun q17 g18 hf => ?_)
  refine gg_dup C dX7_init_52 (gcat _) ?_
  refine gr_V (k' := 6) (n' := 20) (gk_IN (host := "Releasetrain") (As := []) (rest := [va_rf (some q17), va_rf v0]) C dX7_init_53 rfl (by decide +kernel) tw_98 tw_29 tw_99 gd_X6_init rfl ⟨by decide, by decide⟩ (by simp [gcat, gcI, gcL, gcF, gcD]) ⟨by decide, by decide⟩ (m_X6_init hfl hf)) rfl rfl (fun E g9 h9 => gx_out C (fun x hx => (ht x hx).elim) (by decide) (by decide) h9) (fun g19 hf => ?_)
  refine gg_putF C dX7_init_56 hm pk_X7_28 (gNar_obj _ _) hf (fun g20 hf => ?_)
  refine gg_aload_n C dX7_init_59 rfl ?_
  refine gg_new (k' := 7) (n' := 22) C dX7_init_60 nk_X7_25 (by decide) (by decide) rfl rfl hf (fun q21 g22 hf => ?_)
  refine gg_dup C dX7_init_63 (gcat _) ?_
  refine gr_V (k' := 8) (n' := 28) (gk_IN (host := "Releasetrain") (As := []) (rest := [va_rf (some q21), va_rf v0]) C dX7_init_64 rfl (by decide +kernel) tw_98 tw_29 tw_99 gd_X6_init rfl ⟨by decide, by decide⟩ (by simp [gcat, gcI, gcL, gcF, gcD]) ⟨by decide, by decide⟩ (m_X6_init hfl hf)) rfl rfl (fun E g9 h9 => gx_out C (fun x hx => (ht x hx).elim) (by decide) (by decide) h9) (fun g23 hf => ?_)
  refine gg_putF C dX7_init_67 hm pk_X7_32 (gNar_obj _ _) hf (fun g24 hf => ?_)
  refine gg_aload_n C dX7_init_70 rfl ?_
  refine gg_new (k' := 9) (n' := 32) C dX7_init_71 nk_X7_35 (by decide) (by decide) rfl rfl hf (fun q25 g26 hf => ?_)
  refine gg_dup C dX7_init_74 (gcat _) ?_
  refine gr_V (k' := 10) (n' := 160) (gk_I (As := []) (rest := [va_rf (some q25), va_rf v0]) C dX7_init_75 rfl tw_113 tw_114 tw_31 tw_115 gd_J4_init_da8c8 rfl ⟨by decide, by decide⟩ (by simp [gcat, gcI, gcL, gcF, gcD]) ⟨by decide, by decide⟩ (m_J4_init_da8c8 hfl hf)) rfl rfl (fun E g9 h9 => gx_out C (fun x hx => (ht x hx).elim) (by decide) (by decide) h9) (fun g27 hf => ?_)
  refine gg_putF C dX7_init_78 hm pk_X7_38 (gNar_obj _ _) hf (fun g28 hf => ?_)
  refine gg_aload_n C dX7_init_81 rfl ?_
  refine gg_sipush C dX7_init_82 (v := (200 : Int32)) (by decide) ?_
  refine gg_put C dX7_init_85 pk_X7_42 (gNar_int _) hf (fun g29 hf => ?_)
  refine gg_aload_n C dX7_init_88 rfl ?_
  refine gg_iconst C dX7_init_89 (v := (0 : Int32)) (by decide) ?_
  refine gg_put C dX7_init_90 pk_X7_46 (gNar_int _) hf (fun g30 hf => ?_)
  refine gg_aload_n C dX7_init_93 rfl ?_
  refine gg_iconst C dX7_init_94 (v := (0 : Int32)) (by decide) ?_
  refine gg_put C dX7_init_95 pk_X7_49 (gNar_int _) hf (fun g31 hf => ?_)
  refine gg_aload_n C dX7_init_98 rfl ?_
  refine gg_ldcf C dX7_init_99 (v := (1056964608 : UInt32)) tw_144 ?_
  refine gg_put C dX7_init_101 pk_X7_53 (gNar_float _) hf (fun g32 hf => ?_)
  refine gg_aload_n C dX7_init_104 rfl ?_
  refine gg_ldcf C dX7_init_105 (v := (1056964608 : UInt32)) tw_144 ?_
  refine gg_put C dX7_init_107 pk_X7_57 (gNar_float _) hf (fun g33 hf => ?_)
  refine gg_aload_n C dX7_init_110 rfl ?_
  refine gg_iconst C dX7_init_111 (v := (0 : Int32)) (by decide) ?_
  refine gg_put C dX7_init_112 pk_X7_60 (gNar_int _) hf (fun g34 hf => ?_)
  exact gg_vret C hr (by decide) (by decide) dX7_init_115 hf
