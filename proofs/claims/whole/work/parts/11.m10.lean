def w_X8_buy_b66 (X : Cx) (post : Int32 → GM → Prop) (px : String → GM → Prop)  (l0 : Option Nat) (l1 : Int32) (l2 : Int32) (t0 : Int32) (t1 : Option Nat) (g : GM) : Prop :=
  wPut g t1 8 36 (.int t0) (fun g7 => wGetI g7 l0 8 36 (fun (i8 : Int32) => (if i8 ≤ 0 then wGetR g7 l0 8 4 (fun (r9 : Option Nat) => wAld g7 r9 l1 0 (fun (i10 : Int32) => wAst g7 r9 l1 0 (i10 ||| ((1 : Int32) <<< (l2 &&& 31))) (fun g11 => wGetR g11 l0 8 4 (fun (r12 : Option Nat) => wAld g11 r12 l1 0 (fun (i13 : Int32) => w_J6_bitCount_0f7a4 X (fun (i15 : Int32) (g14 : GM) => post i15 g14) px i13 g11))))) else post (0 : Int32) g7)))
def w_X8_buy_b48 (X : Cx) (post : Int32 → GM → Prop) (px : String → GM → Prop)  (l0 : Option Nat) (l1 : Int32) (l2 : Int32) (t0 : Option Nat) (g : GM) : Prop :=
  w_X8_buy_b66 X post px l0 l1 l2 (3 : Int32) t0 g
def w_X8_buy (X : Cx) (post : Int32 → GM → Prop) (px : String → GM → Prop) (v0 : Option Nat) (v1 : Int32) (v2 : Int32) (g : GM) : Prop :=
  wIs g v0 8 (w_X8_noDevice X (fun (i2 : Int32) (g1 : GM) => (if i2 = 0 then w_X8_in X (fun (i4 : Int32) (g3 : GM) => (if i4 = 0 then w_X8_buy_b66 X post px v0 v1 v2 (2 : Int32) v0 g3 else wGetR g3 v0 8 3 (fun (r5 : Option Nat) => wAld g3 r5 v1 0 (fun (i6 : Int32) => (if i6 = (-1 : Int32) then w_X8_buy_b48 X post px v0 v1 v2 v0 g3 else wGetR g3 v0 8 4 (fun (r16 : Option Nat) => wAld g3 r16 v1 0 (fun (i17 : Int32) => w_X8_has X (fun (i19 : Int32) (g18 : GM) => (if i19 = 0 then wIs g18 v0 8 (w_X8_sells X (fun (i21 : Int32) (g20 : GM) => (if i21 = 0 then w_X8_buy_b66 X post px v0 v1 v2 (4 : Int32) v0 g20 else w_X8_buy_b66 X post px v0 v1 v2 (0 : Int32) v0 g20)) px v0 v1 v2 g18) else w_X8_buy_b48 X post px v0 v1 v2 v0 g18)) px i17 v2 g3))))))) px v2 (0 : Int32) (7 : Int32) g1 else post (0 : Int32) g1)) px v0 v1 g)
abbrev rm_X8_buy : Room := { frames := 3, cells := 0, slots := 0, locals := 64 }
set_option maxHeartbeats 4000000 in
set_option maxRecDepth 100000 in
theorem m_X8_buy {X : Cx} {l : Launch} (hfl : l.stackTraces = false) {post : Int32 → GM → Prop} {px : String → GM → Prop} {v0 : Option Nat} {v1 : Int32} {v2 : Int32} {g : GM} (hf : w_X8_buy X post px v0 v1 v2 g) : gMet X l yX8_buy cX8_buy 3 (some .int) rm_X8_buy [va_rf v0, .int v1, .int v2] g (qI X post) px := by
  refine gg_enter (L := [some (va_rf v0), some (.int v1), some (.int v2)]) hfl (by decide +kernel) (by simp [lg_sl, gcat, gcI, gcL, gcF, gcD]) (by simp [gll, lv_args, gcat, gcI, gcL, gcF, gcD]) ?_
  intro p e s m args below meth c C hr ht hm
  have C : FC X p l s m args meth c cX8_buy 3 "ReleasetrainModel" := C
  have hb_66 : ∀ (l0 : Option Nat) (l1 : Int32) (l2 : Int32) (t0 : Int32) (t1 : Option Nat) (g : GM), w_X8_buy_b66 X post px  l0 l1 l2 t0 t1 g → GG X p l e rm_X8_buy s m args below meth c 3 (vx_MQ below (qI X post) (gXC X px) args s rm_X8_buy.cells rm_X8_buy.slots (gA X)) 0 0 66 [some (va_rf l0), some (.int l1), some (.int l2)] [.int t0, va_rf t1] g := by
    intro  l0 l1 l2 t0 t1 g hf
    unfold w_X8_buy_b66 at hf
    refine gg_put C dX8_buy_66 pk_X8_110 (gNar_int _) hf (fun g7 hf => ?_)
    refine gg_aload_n C dX8_buy_69 rfl ?_
    refine gg_getI C dX8_buy_70 lk_X8_110 hf (fun i8 hf => ?_)
    refine gg_if_le (tgt := 78) C dX8_buy_73 (by decide) hf (fun hf => ?_) (fun hf => ?_)
    · refine gg_aload_n C dX8_buy_78 rfl ?_
      refine gg_getR C dX8_buy_79 lk_X8_22 hf (fun r9 hf => ?_)
      refine gg_iload_n C dX8_buy_82 rfl ?_
      refine gg_dup2 C dX8_buy_83 (rfl) (gcat _) ?_
      refine gg_iald C dX8_buy_84 hf (fun i10 hf => ?_)
      refine gg_iconst C dX8_buy_85 (v := (1 : Int32)) (by decide) ?_
      refine gg_iload_n C dX8_buy_86 rfl ?_
      refine gg_ishl C dX8_buy_87 ?_
      refine gg_ior C dX8_buy_88 ?_
      refine gg_iast C dX8_buy_89 hf (fun g11 hf => ?_)
      refine gg_aload_n C dX8_buy_90 rfl ?_
      refine gg_getR C dX8_buy_91 lk_X8_22 hf (fun r12 hf => ?_)
      refine gg_iload_n C dX8_buy_94 rfl ?_
      refine gg_iald C dX8_buy_95 hf (fun i13 hf => ?_)
      refine gr_I (k' := 0) (n' := 0) (gk_S (As := [.int i13]) (rest := []) C dX8_buy_96 tw_1843 tw_1107 tw_82 tw_1108 gd_J6_bitCount_0f7a4 rfl ⟨by decide, by decide⟩ (by simp [gcat, gcI, gcL, gcF, gcD]) ⟨by decide, by decide⟩ (m_J6_bitCount_0f7a4 hfl hf)) rfl rfl (fun E g9 h9 => gx_out C (fun x hx => (ht x hx).elim) (by decide) (by decide) h9) (fun i15 g14 hf => ?_)
      exact gg_iret C hr (by decide) (by decide) dX8_buy_99 rfl hf
    · refine gg_iconst C dX8_buy_76 (v := (0 : Int32)) (by decide) ?_
      exact gg_iret C hr (by decide) (by decide) dX8_buy_77 rfl hf
  have hb_48 : ∀ (l0 : Option Nat) (l1 : Int32) (l2 : Int32) (t0 : Option Nat) (g : GM), w_X8_buy_b48 X post px  l0 l1 l2 t0 g → GG X p l e rm_X8_buy s m args below meth c 3 (vx_MQ below (qI X post) (gXC X px) args s rm_X8_buy.cells rm_X8_buy.slots (gA X)) 0 0 48 [some (va_rf l0), some (.int l1), some (.int l2)] [va_rf t0] g := by
    intro  l0 l1 l2 t0 g hf
    unfold w_X8_buy_b48 at hf
    refine gg_iconst C dX8_buy_48 (v := (3 : Int32)) (by decide) ?_
    refine gg_goto (tgt := 66) C dX8_buy_49 (by decide) ?_
    exact hb_66 _ _ _ _ _ _ hf
  unfold w_X8_buy at hf
  refine gg_aload_n C dX8_buy_0 rfl ?_
  refine gg_iload_n C dX8_buy_1 rfl ?_
  refine gr_I (k' := 0) (n' := 0) (gk_V (ci := 8) (As := [.int v1]) (rest := []) C dX8_buy_2 rfl rfl tw_1721 tw_1723 tw_39 tw_56 tw_1724 gd_X8_noDevice rfl ⟨by decide, by decide⟩ (by simp [gcat, gcI, gcL, gcF, gcD]) ⟨by decide, by decide⟩ hf (fun hf => m_X8_noDevice hfl hf)) rfl rfl (fun E g9 h9 => gx_out C (fun x hx => (ht x hx).elim) (by decide) (by decide) h9) (fun i2 g1 hf => ?_)
  refine gg_if_eq (tgt := 10) C dX8_buy_5 (by decide) hf (fun hf => ?_) (fun hf => ?_)
  · refine gg_aload_n C dX8_buy_10 rfl ?_
    refine gg_iload_n C dX8_buy_11 rfl ?_
    refine gg_iconst C dX8_buy_12 (v := (0 : Int32)) (by decide) ?_
    refine gg_bipush C dX8_buy_13 (v := (7 : Int32)) (by decide) ?_
    refine gr_I (k' := 0) (n' := 0) (gk_S (As := [.int v2, .int (0 : Int32), .int (7 : Int32)]) (rest := [va_rf v0]) C dX8_buy_15 tw_1580 tw_1581 tw_56 tw_1582 gd_X8_in rfl ⟨by decide, by decide⟩ (by simp [gcat, gcI, gcL, gcF, gcD]) ⟨by decide, by decide⟩ (m_X8_in hfl hf)) rfl rfl (fun E g9 h9 => gx_out C (fun x hx => (ht x hx).elim) (by decide) (by decide) h9) (fun i4 g3 hf => ?_)
    refine gg_if_ne (tgt := 25) C dX8_buy_18 (by decide) hf (fun hf => ?_) (fun hf => ?_)
    · refine gg_aload_n C dX8_buy_25 rfl ?_
      refine gg_getR C dX8_buy_26 lk_X8_19 hf (fun r5 hf => ?_)
      refine gg_iload_n C dX8_buy_29 rfl ?_
      refine gg_iald C dX8_buy_30 hf (fun i6 hf => ?_)
      refine gg_iconst C dX8_buy_31 (v := (-1 : Int32)) (by decide) ?_
      refine gg_icmp_eq (tgt := 48) C dX8_buy_32 (by decide) hf (fun hf => ?_) (fun hf => ?_)
      · exact hb_48 _ _ _ _ _ hf
      · refine gg_aload_n C dX8_buy_35 rfl ?_
        refine gg_getR C dX8_buy_36 lk_X8_22 hf (fun r16 hf => ?_)
        refine gg_iload_n C dX8_buy_39 rfl ?_
        refine gg_iald C dX8_buy_40 hf (fun i17 hf => ?_)
        refine gg_iload_n C dX8_buy_41 rfl ?_
        refine gr_I (k' := 0) (n' := 0) (gk_S (As := [.int i17, .int v2]) (rest := [va_rf v0]) C dX8_buy_42 tw_1705 tw_1706 tw_56 tw_1707 gd_X8_has rfl ⟨by decide, by decide⟩ (by simp [gcat, gcI, gcL, gcF, gcD]) ⟨by decide, by decide⟩ (m_X8_has hfl hf)) rfl rfl (fun E g9 h9 => gx_out C (fun x hx => (ht x hx).elim) (by decide) (by decide) h9) (fun i19 g18 hf => ?_)
        refine gg_if_eq (tgt := 52) C dX8_buy_45 (by decide) hf (fun hf => ?_) (fun hf => ?_)
        · refine gg_aload_n C dX8_buy_52 rfl ?_
          refine gg_iload_n C dX8_buy_53 rfl ?_
          refine gg_iload_n C dX8_buy_54 rfl ?_
          refine gr_I (k' := 0) (n' := 0) (gk_V (ci := 8) (As := [.int v1, .int v2]) (rest := [va_rf v0]) C dX8_buy_55 rfl rfl tw_1839 tw_1841 tw_43 tw_56 tw_1842 gd_X8_sells rfl ⟨by decide, by decide⟩ (by simp [gcat, gcI, gcL, gcF, gcD]) ⟨by decide, by decide⟩ hf (fun hf => m_X8_sells hfl hf)) rfl rfl (fun E g9 h9 => gx_out C (fun x hx => (ht x hx).elim) (by decide) (by decide) h9) (fun i21 g20 hf => ?_)
          refine gg_if_ne (tgt := 65) C dX8_buy_58 (by decide) hf (fun hf => ?_) (fun hf => ?_)
          · refine gg_iconst C dX8_buy_65 (v := (0 : Int32)) (by decide) ?_
            exact hb_66 _ _ _ _ _ _ hf
          · refine gg_iconst C dX8_buy_61 (v := (4 : Int32)) (by decide) ?_
            refine gg_goto (tgt := 66) C dX8_buy_62 (by decide) ?_
            exact hb_66 _ _ _ _ _ _ hf
        · exact hb_48 _ _ _ _ _ hf
    · refine gg_iconst C dX8_buy_21 (v := (2 : Int32)) (by decide) ?_
      refine gg_goto (tgt := 66) C dX8_buy_22 (by decide) ?_
      exact hb_66 _ _ _ _ _ _ hf
  · refine gg_iconst C dX8_buy_8 (v := (0 : Int32)) (by decide) ?_
    exact gg_iret C hr (by decide) (by decide) dX8_buy_9 rfl hf

def w_X8_noItem_b43 (X : Cx) (post : Int32 → GM → Prop) (px : String → GM → Prop)  (t0 : Int32) (g : GM) : Prop :=
  (narrow .boolean (.int t0) = .int t0 ∧ post t0 g)
def w_X8_noItem_b28 (X : Cx) (post : Int32 → GM → Prop) (px : String → GM → Prop)  (l0 : Option Nat) (t0 : Int32) (t1 : Option Nat) (g : GM) : Prop :=
  wPut g t1 8 36 (.int t0) (fun g5 => wGetI g5 l0 8 36 (fun (i6 : Int32) => (if i6 ≤ 0 then w_X8_noItem_b43 X post px (0 : Int32) g5 else w_X8_noItem_b43 X post px (1 : Int32) g5)))
def w_X8_noItem (X : Cx) (post : Int32 → GM → Prop) (px : String → GM → Prop) (v0 : Option Nat) (v1 : Int32) (v2 : Int32) (g : GM) : Prop :=
  wIs g v0 8 (w_X8_isDevice X (fun (i2 : Int32) (g1 : GM) => (if i2 = 0 then w_X8_noItem_b28 X post px v0 (1 : Int32) v0 g1 else w_X8_in X (fun (i4 : Int32) (g3 : GM) => (if i4 = 0 then w_X8_noItem_b28 X post px v0 (2 : Int32) v0 g3 else w_X8_noItem_b28 X post px v0 (0 : Int32) v0 g3)) px v2 (0 : Int32) (7 : Int32) g1)) px v0 v1 g)
abbrev rm_X8_noItem : Room := { frames := 2, cells := 0, slots := 0, locals := 43 }
set_option maxHeartbeats 4000000 in
set_option maxRecDepth 100000 in
theorem m_X8_noItem {X : Cx} {l : Launch} (hfl : l.stackTraces = false) {post : Int32 → GM → Prop} {px : String → GM → Prop} {v0 : Option Nat} {v1 : Int32} {v2 : Int32} {g : GM} (hf : w_X8_noItem X post px v0 v1 v2 g) : gMet X l yX8_noItem cX8_noItem 3 (some .boolean) rm_X8_noItem [va_rf v0, .int v1, .int v2] g (qI X post) px := by
  refine gg_enter (L := [some (va_rf v0), some (.int v1), some (.int v2)]) hfl (by decide +kernel) (by simp [lg_sl, gcat, gcI, gcL, gcF, gcD]) (by simp [gll, lv_args, gcat, gcI, gcL, gcF, gcD]) ?_
  intro p e s m args below meth c C hr ht hm
  have C : FC X p l s m args meth c cX8_noItem 3 "ReleasetrainModel" := C
  have hb_43 : ∀ (t0 : Int32) (g : GM), w_X8_noItem_b43 X post px  t0 g → GG X p l e rm_X8_noItem s m args below meth c 3 (vx_MQ below (qI X post) (gXC X px) args s rm_X8_noItem.cells rm_X8_noItem.slots (gA X)) 0 0 43 [none, none, none] [.int t0] g := by
    intro  t0 g hf
    unfold w_X8_noItem_b43 at hf
    exact gg_iret C hr (by decide) (by decide) dX8_noItem_43 hf.1 hf.2
  have hb_28 : ∀ (l0 : Option Nat) (t0 : Int32) (t1 : Option Nat) (g : GM), w_X8_noItem_b28 X post px  l0 t0 t1 g → GG X p l e rm_X8_noItem s m args below meth c 3 (vx_MQ below (qI X post) (gXC X px) args s rm_X8_noItem.cells rm_X8_noItem.slots (gA X)) 0 0 28 [some (va_rf l0), none, none] [.int t0, va_rf t1] g := by
    intro  l0 t0 t1 g hf
    unfold w_X8_noItem_b28 at hf
    refine gg_put C dX8_noItem_28 pk_X8_110 (gNar_int _) hf (fun g5 hf => ?_)
    refine gg_aload_n C dX8_noItem_31 rfl ?_
    refine gg_getI C dX8_noItem_32 lk_X8_110 hf (fun i6 hf => ?_)
    refine gg_if_le (tgt := 42) C dX8_noItem_35 (by decide) hf (fun hf => ?_) (fun hf => ?_)
    · refine gg_iconst C dX8_noItem_42 (v := (0 : Int32)) (by decide) ?_
      exact gg_sub (L' := [none, none, none]) (by first | exact trivial | simp [gsub]) (hb_43 _ _ hf)
    · refine gg_iconst C dX8_noItem_38 (v := (1 : Int32)) (by decide) ?_
      refine gg_goto (tgt := 43) C dX8_noItem_39 (by decide) ?_
      exact gg_sub (L' := [none, none, none]) (by first | exact trivial | simp [gsub]) (hb_43 _ _ hf)
  unfold w_X8_noItem at hf
  refine gg_aload_n C dX8_noItem_0 rfl ?_
  refine gg_aload_n C dX8_noItem_1 rfl ?_
  refine gg_iload_n C dX8_noItem_2 rfl ?_
  refine gr_I (k' := 0) (n' := 0) (gk_V (ci := 8) (As := [.int v1]) (rest := [va_rf v0]) C dX8_noItem_3 rfl rfl tw_1697 tw_1699 tw_37 tw_56 tw_1700 gd_X8_isDevice rfl ⟨by decide, by decide⟩ (by simp [gcat, gcI, gcL, gcF, gcD]) ⟨by decide, by decide⟩ hf (fun hf => m_X8_isDevice hfl hf)) rfl rfl (fun E g9 h9 => gx_out C (fun x hx => (ht x hx).elim) (by decide) (by decide) h9) (fun i2 g1 hf => ?_)
  refine gg_if_ne (tgt := 13) C dX8_noItem_6 (by decide) hf (fun hf => ?_) (fun hf => ?_)
  · refine gg_iload_n C dX8_noItem_13 rfl ?_
    refine gg_iconst C dX8_noItem_14 (v := (0 : Int32)) (by decide) ?_
    refine gg_bipush C dX8_noItem_15 (v := (7 : Int32)) (by decide) ?_
    refine gr_I (k' := 0) (n' := 0) (gk_S (As := [.int v2, .int (0 : Int32), .int (7 : Int32)]) (rest := [va_rf v0]) C dX8_noItem_17 tw_1580 tw_1581 tw_56 tw_1582 gd_X8_in rfl ⟨by decide, by decide⟩ (by simp [gcat, gcI, gcL, gcF, gcD]) ⟨by decide, by decide⟩ (m_X8_in hfl hf)) rfl rfl (fun E g9 h9 => gx_out C (fun x hx => (ht x hx).elim) (by decide) (by decide) h9) (fun i4 g3 hf => ?_)
    refine gg_if_ne (tgt := 27) C dX8_noItem_20 (by decide) hf (fun hf => ?_) (fun hf => ?_)
    · refine gg_iconst C dX8_noItem_27 (v := (0 : Int32)) (by decide) ?_
      exact gg_sub (L' := [some (va_rf v0), none, none]) (by first | exact ⟨rfl, trivial⟩ | simp [gsub]) (hb_28 _ _ _ _ hf)
    · refine gg_iconst C dX8_noItem_23 (v := (2 : Int32)) (by decide) ?_
      refine gg_goto (tgt := 28) C dX8_noItem_24 (by decide) ?_
      exact gg_sub (L' := [some (va_rf v0), none, none]) (by first | exact ⟨rfl, trivial⟩ | simp [gsub]) (hb_28 _ _ _ _ hf)
  · refine gg_iconst C dX8_noItem_9 (v := (1 : Int32)) (by decide) ?_
    refine gg_goto (tgt := 28) C dX8_noItem_10 (by decide) ?_
    exact gg_sub (L' := [some (va_rf v0), none, none]) (by first | exact ⟨rfl, trivial⟩ | simp [gsub]) (hb_28 _ _ _ _ hf)

def w_X8_owns_b27 (X : Cx) (post : Int32 → GM → Prop) (px : String → GM → Prop)  (t0 : Int32) (g : GM) : Prop :=
  (narrow .boolean (.int t0) = .int t0 ∧ post t0 g)
def w_X8_owns_b26 (X : Cx) (post : Int32 → GM → Prop) (px : String → GM → Prop)   (g : GM) : Prop :=
  w_X8_owns_b27 X post px (0 : Int32) g
def w_X8_owns (X : Cx) (post : Int32 → GM → Prop) (px : String → GM → Prop) (v0 : Option Nat) (v1 : Int32) (v2 : Int32) (g : GM) : Prop :=
  wIs g v0 8 (w_X8_noItem X (fun (i2 : Int32) (g1 : GM) => (if i2 = 0 then wGetR g1 v0 8 4 (fun (r3 : Option Nat) => wAld g1 r3 v1 0 (fun (i4 : Int32) => w_X8_has X (fun (i6 : Int32) (g5 : GM) => (if i6 = 0 then w_X8_owns_b26 X post px g5 else w_X8_owns_b27 X post px (1 : Int32) g5)) px i4 v2 g1)) else w_X8_owns_b26 X post px g1)) px v0 v1 v2 g)
abbrev rm_X8_owns : Room := { frames := 3, cells := 0, slots := 0, locals := 65 }
set_option maxHeartbeats 4000000 in
set_option maxRecDepth 100000 in
theorem m_X8_owns {X : Cx} {l : Launch} (hfl : l.stackTraces = false) {post : Int32 → GM → Prop} {px : String → GM → Prop} {v0 : Option Nat} {v1 : Int32} {v2 : Int32} {g : GM} (hf : w_X8_owns X post px v0 v1 v2 g) : gMet X l yX8_owns cX8_owns 3 (some .boolean) rm_X8_owns [va_rf v0, .int v1, .int v2] g (qI X post) px := by
  refine gg_enter (L := [some (va_rf v0), some (.int v1), some (.int v2)]) hfl (by decide +kernel) (by simp [lg_sl, gcat, gcI, gcL, gcF, gcD]) (by simp [gll, lv_args, gcat, gcI, gcL, gcF, gcD]) ?_
  intro p e s m args below meth c C hr ht hm
  have C : FC X p l s m args meth c cX8_owns 3 "ReleasetrainModel" := C
  have hb_27 : ∀ (t0 : Int32) (g : GM), w_X8_owns_b27 X post px  t0 g → GG X p l e rm_X8_owns s m args below meth c 3 (vx_MQ below (qI X post) (gXC X px) args s rm_X8_owns.cells rm_X8_owns.slots (gA X)) 0 0 27 [none, none, none] [.int t0] g := by
    intro  t0 g hf
    unfold w_X8_owns_b27 at hf
    exact gg_iret C hr (by decide) (by decide) dX8_owns_27 hf.1 hf.2
  have hb_26 : ∀  (g : GM), w_X8_owns_b26 X post px   g → GG X p l e rm_X8_owns s m args below meth c 3 (vx_MQ below (qI X post) (gXC X px) args s rm_X8_owns.cells rm_X8_owns.slots (gA X)) 0 0 26 [none, none, none] [] g := by
    intro   g hf
    unfold w_X8_owns_b26 at hf
    refine gg_iconst C dX8_owns_26 (v := (0 : Int32)) (by decide) ?_
    exact hb_27 _ _ hf
  unfold w_X8_owns at hf
  refine gg_aload_n C dX8_owns_0 rfl ?_
  refine gg_iload_n C dX8_owns_1 rfl ?_
  refine gg_iload_n C dX8_owns_2 rfl ?_
  refine gr_I (k' := 0) (n' := 0) (gk_V (ci := 8) (As := [.int v1, .int v2]) (rest := []) C dX8_owns_3 rfl rfl tw_1848 tw_1850 tw_44 tw_56 tw_1851 gd_X8_noItem rfl ⟨by decide, by decide⟩ (by simp [gcat, gcI, gcL, gcF, gcD]) ⟨by decide, by decide⟩ hf (fun hf => m_X8_noItem hfl hf)) rfl rfl (fun E g9 h9 => gx_out C (fun x hx => (ht x hx).elim) (by decide) (by decide) h9) (fun i2 g1 hf => ?_)
  refine gg_if_ne (tgt := 26) C dX8_owns_6 (by decide) hf (fun hf => ?_) (fun hf => ?_)
  · exact gg_sub (L' := [none, none, none]) (by first | exact trivial | simp [gsub]) (hb_26 _ hf)
  · refine gg_aload_n C dX8_owns_9 rfl ?_
    refine gg_getR C dX8_owns_10 lk_X8_22 hf (fun r3 hf => ?_)
    refine gg_iload_n C dX8_owns_13 rfl ?_
    refine gg_iald C dX8_owns_14 hf (fun i4 hf => ?_)
    refine gg_iload_n C dX8_owns_15 rfl ?_
    refine gr_I (k' := 0) (n' := 0) (gk_S (As := [.int i4, .int v2]) (rest := []) C dX8_owns_16 tw_1705 tw_1706 tw_56 tw_1707 gd_X8_has rfl ⟨by decide, by decide⟩ (by simp [gcat, gcI, gcL, gcF, gcD]) ⟨by decide, by decide⟩ (m_X8_has hfl hf)) rfl rfl (fun E g9 h9 => gx_out C (fun x hx => (ht x hx).elim) (by decide) (by decide) h9) (fun i6 g5 hf => ?_)
    refine gg_if_eq (tgt := 26) C dX8_owns_19 (by decide) hf (fun hf => ?_) (fun hf => ?_)
    · exact gg_sub (L' := [none, none, none]) (by first | exact trivial | simp [gsub]) (hb_26 _ hf)
    · refine gg_iconst C dX8_owns_22 (v := (1 : Int32)) (by decide) ?_
      refine gg_goto (tgt := 27) C dX8_owns_23 (by decide) ?_
      exact gg_sub (L' := [none, none, none]) (by first | exact trivial | simp [gsub]) (hb_27 _ _ hf)

def w_X8_canUse_b36 (X : Cx) (post : Int32 → GM → Prop) (px : String → GM → Prop)  (t0 : Int32) (g : GM) : Prop :=
  (narrow .boolean (.int t0) = .int t0 ∧ post t0 g)
def w_X8_canUse_b35 (X : Cx) (post : Int32 → GM → Prop) (px : String → GM → Prop)   (g : GM) : Prop :=
  w_X8_canUse_b36 X post px (0 : Int32) g
def w_X8_canUse (X : Cx) (post : Int32 → GM → Prop) (px : String → GM → Prop) (v0 : Option Nat) (v1 : Int32) (v2 : Int32) (g : GM) : Prop :=
  wIs g v0 8 (w_X8_noItem X (fun (i2 : Int32) (g1 : GM) => (if i2 = 0 then wGetR g1 v0 8 4 (fun (r3 : Option Nat) => wAld g1 r3 v1 0 (fun (i4 : Int32) => w_X8_has X (fun (i6 : Int32) (g5 : GM) => (if i6 = 0 then w_X8_canUse_b35 X post px g5 else wIs g5 v0 8 (w_X8_sells X (fun (i8 : Int32) (g7 : GM) => (if i8 = 0 then w_X8_canUse_b35 X post px g7 else w_X8_canUse_b36 X post px (1 : Int32) g7)) px v0 v1 v2 g5))) px i4 v2 g1)) else w_X8_canUse_b35 X post px g1)) px v0 v1 v2 g)
abbrev rm_X8_canUse : Room := { frames := 3, cells := 0, slots := 0, locals := 65 }
set_option maxHeartbeats 4000000 in
set_option maxRecDepth 100000 in
theorem m_X8_canUse {X : Cx} {l : Launch} (hfl : l.stackTraces = false) {post : Int32 → GM → Prop} {px : String → GM → Prop} {v0 : Option Nat} {v1 : Int32} {v2 : Int32} {g : GM} (hf : w_X8_canUse X post px v0 v1 v2 g) : gMet X l yX8_canUse cX8_canUse 3 (some .boolean) rm_X8_canUse [va_rf v0, .int v1, .int v2] g (qI X post) px := by
  refine gg_enter (L := [some (va_rf v0), some (.int v1), some (.int v2)]) hfl (by decide +kernel) (by simp [lg_sl, gcat, gcI, gcL, gcF, gcD]) (by simp [gll, lv_args, gcat, gcI, gcL, gcF, gcD]) ?_
  intro p e s m args below meth c C hr ht hm
  have C : FC X p l s m args meth c cX8_canUse 3 "ReleasetrainModel" := C
  have hb_36 : ∀ (t0 : Int32) (g : GM), w_X8_canUse_b36 X post px  t0 g → GG X p l e rm_X8_canUse s m args below meth c 3 (vx_MQ below (qI X post) (gXC X px) args s rm_X8_canUse.cells rm_X8_canUse.slots (gA X)) 0 0 36 [none, none, none] [.int t0] g := by
    intro  t0 g hf
    unfold w_X8_canUse_b36 at hf
    exact gg_iret C hr (by decide) (by decide) dX8_canUse_36 hf.1 hf.2
  have hb_35 : ∀  (g : GM), w_X8_canUse_b35 X post px   g → GG X p l e rm_X8_canUse s m args below meth c 3 (vx_MQ below (qI X post) (gXC X px) args s rm_X8_canUse.cells rm_X8_canUse.slots (gA X)) 0 0 35 [none, none, none] [] g := by
    intro   g hf
    unfold w_X8_canUse_b35 at hf
    refine gg_iconst C dX8_canUse_35 (v := (0 : Int32)) (by decide) ?_
    exact hb_36 _ _ hf
  unfold w_X8_canUse at hf
  refine gg_aload_n C dX8_canUse_0 rfl ?_
  refine gg_iload_n C dX8_canUse_1 rfl ?_
  refine gg_iload_n C dX8_canUse_2 rfl ?_
  refine gr_I (k' := 0) (n' := 0) (gk_V (ci := 8) (As := [.int v1, .int v2]) (rest := []) C dX8_canUse_3 rfl rfl tw_1848 tw_1850 tw_44 tw_56 tw_1851 gd_X8_noItem rfl ⟨by decide, by decide⟩ (by simp [gcat, gcI, gcL, gcF, gcD]) ⟨by decide, by decide⟩ hf (fun hf => m_X8_noItem hfl hf)) rfl rfl (fun E g9 h9 => gx_out C (fun x hx => (ht x hx).elim) (by decide) (by decide) h9) (fun i2 g1 hf => ?_)
  refine gg_if_ne (tgt := 35) C dX8_canUse_6 (by decide) hf (fun hf => ?_) (fun hf => ?_)
  · exact gg_sub (L' := [none, none, none]) (by first | exact trivial | simp [gsub]) (hb_35 _ hf)
  · refine gg_aload_n C dX8_canUse_9 rfl ?_
    refine gg_getR C dX8_canUse_10 lk_X8_22 hf (fun r3 hf => ?_)
    refine gg_iload_n C dX8_canUse_13 rfl ?_
    refine gg_iald C dX8_canUse_14 hf (fun i4 hf => ?_)
    refine gg_iload_n C dX8_canUse_15 rfl ?_
    refine gr_I (k' := 0) (n' := 0) (gk_S (As := [.int i4, .int v2]) (rest := []) C dX8_canUse_16 tw_1705 tw_1706 tw_56 tw_1707 gd_X8_has rfl ⟨by decide, by decide⟩ (by simp [gcat, gcI, gcL, gcF, gcD]) ⟨by decide, by decide⟩ (m_X8_has hfl hf)) rfl rfl (fun E g9 h9 => gx_out C (fun x hx => (ht x hx).elim) (by decide) (by decide) h9) (fun i6 g5 hf => ?_)
    refine gg_if_eq (tgt := 35) C dX8_canUse_19 (by decide) hf (fun hf => ?_) (fun hf => ?_)
    · exact gg_sub (L' := [none, none, none]) (by first | exact trivial | simp [gsub]) (hb_35 _ hf)
    · refine gg_aload_n C dX8_canUse_22 rfl ?_
      refine gg_iload_n C dX8_canUse_23 rfl ?_
      refine gg_iload_n C dX8_canUse_24 rfl ?_
      refine gr_I (k' := 0) (n' := 0) (gk_V (ci := 8) (As := [.int v1, .int v2]) (rest := []) C dX8_canUse_25 rfl rfl tw_1839 tw_1841 tw_43 tw_56 tw_1842 gd_X8_sells rfl ⟨by decide, by decide⟩ (by simp [gcat, gcI, gcL, gcF, gcD]) ⟨by decide, by decide⟩ hf (fun hf => m_X8_sells hfl hf)) rfl rfl (fun E g9 h9 => gx_out C (fun x hx => (ht x hx).elim) (by decide) (by decide) h9) (fun i8 g7 hf => ?_)
      refine gg_if_eq (tgt := 35) C dX8_canUse_28 (by decide) hf (fun hf => ?_) (fun hf => ?_)
      · exact gg_sub (L' := [none, none, none]) (by first | exact trivial | simp [gsub]) (hb_35 _ hf)
      · refine gg_iconst C dX8_canUse_31 (v := (1 : Int32)) (by decide) ?_
        refine gg_goto (tgt := 36) C dX8_canUse_32 (by decide) ?_
        exact gg_sub (L' := [none, none, none]) (by first | exact trivial | simp [gsub]) (hb_36 _ _ hf)

def w_X8_day (X : Cx) (post : Int32 → GM → Prop) (px : String → GM → Prop) (v0 : Option Nat) (g : GM) : Prop :=
  wPut g v0 8 36 (.int (0 : Int32)) (fun g1 => wGetI g1 v0 8 35 (fun (i2 : Int32) => post i2 g1))
abbrev rm_X8_day : Room := { frames := 0, cells := 0, slots := 0, locals := 0 }
set_option maxHeartbeats 4000000 in
set_option maxRecDepth 100000 in
theorem m_X8_day {X : Cx} {l : Launch} (hfl : l.stackTraces = false) {post : Int32 → GM → Prop} {px : String → GM → Prop} {v0 : Option Nat} {g : GM} (hf : w_X8_day X post px v0 g) : gMet X l yX8_day cX8_day 1 (some .int) rm_X8_day [va_rf v0] g (qI X post) px := by
  refine gg_enter (L := [some (va_rf v0)]) hfl (by decide +kernel) (by simp [lg_sl, gcat, gcI, gcL, gcF, gcD]) (by simp [gll, lv_args, gcat, gcI, gcL, gcF, gcD]) ?_
  intro p e s m args below meth c C hr ht hm
  have C : FC X p l s m args meth c cX8_day 1 "ReleasetrainModel" := C
  unfold w_X8_day at hf
  refine gg_aload_n C dX8_day_0 rfl ?_
  refine gg_iconst C dX8_day_1 (v := (0 : Int32)) (by decide) ?_
  refine gg_put C dX8_day_2 pk_X8_110 (gNar_int _) hf (fun g1 hf => ?_)
  refine gg_aload_n C dX8_day_5 rfl ?_
  refine gg_getI C dX8_day_6 lk_X8_176 hf (fun i2 hf => ?_)
  exact gg_iret C hr (by decide) (by decide) dX8_day_9 rfl hf

def w_X8_status_b91 (X : Cx) (post : Option Nat → GM → Prop) (px : String → GM → Prop)  (t0 : Option Nat) (g : GM) : Prop :=
  post t0 g
def w_X8_status_b45 (X : Cx) (post : Option Nat → GM → Prop) (px : String → GM → Prop)  (t0 : Option Nat) (g : GM) : Prop :=
  post t0 g
def w_X8_status (X : Cx) (post : Option Nat → GM → Prop) (px : String → GM → Prop) (v0 : Option Nat) (v1 : Int32) (g : GM) : Prop :=
  wGetR g v0 8 14 (fun (r1 : Option Nat) => wAld g r1 v1 1 (fun (i2 : Int32) => (if i2 = (97 : Int32) then wIs g v0 8 (w_X8_hold X (fun (i4 : Int32) (g3 : GM) => (if i4 = (45 : Int32) then w_X8_status_b91 X post px (some (X.2.2.2 5)) g3 else (if i4 = (118 : Int32) then w_X8_status_b91 X post px (some (X.2.2.2 6)) g3 else (if i4 = (99 : Int32) then w_X8_status_b91 X post px (some (X.2.2.2 7)) g3 else w_X8_status_b91 X post px (some (X.2.2.2 8)) g3)))) px v0 v1 g) else wGetR g v0 8 14 (fun (r5 : Option Nat) => wAld g r5 v1 1 (fun (i6 : Int32) => (if i6 = (100 : Int32) then w_X8_status_b45 X post px (some (X.2.2.2 2)) g else wGetR g v0 8 14 (fun (r7 : Option Nat) => wAld g r7 v1 1 (fun (i8 : Int32) => (if i8 = (119 : Int32) then w_X8_status_b45 X post px (some (X.2.2.2 3)) g else w_X8_status_b45 X post px (some (X.2.2.2 4)) g)))))))))
abbrev rm_X8_status : Room := { frames := 3, cells := 0, slots := 0, locals := 67 }
set_option maxHeartbeats 4000000 in
set_option maxRecDepth 100000 in
theorem m_X8_status {X : Cx} {l : Launch} (hfl : l.stackTraces = false) {post : Option Nat → GM → Prop} {px : String → GM → Prop} {v0 : Option Nat} {v1 : Int32} {g : GM} (hf : w_X8_status X post px v0 v1 g) : gMet X l yX8_status cX8_status 3 (some (.object "java/lang/String")) rm_X8_status [va_rf v0, .int v1] g (qR X post) px := by
  refine gg_enter (L := [some (va_rf v0), some (.int v1), none]) hfl (by decide +kernel) (by simp [lg_sl, gcat, gcI, gcL, gcF, gcD]) (by simp [gll, lv_args, gcat, gcI, gcL, gcF, gcD]) ?_
  intro p e s m args below meth c C hr ht hm
  have C : FC X p l s m args meth c cX8_status 3 "ReleasetrainModel" := C
  have hb_91 : ∀ (t0 : Option Nat) (g : GM), w_X8_status_b91 X post px  t0 g → GG X p l e rm_X8_status s m args below meth c 3 (vx_MQ below (qR X post) (gXC X px) args s rm_X8_status.cells rm_X8_status.slots (gA X)) 0 0 91 [none, none, none] [va_rf t0] g := by
    intro  t0 g hf
    unfold w_X8_status_b91 at hf
    exact gg_aret C hr (Or.inl ⟨_, rfl⟩) (by decide) (by decide) dX8_status_91 hf
  have hb_45 : ∀ (t0 : Option Nat) (g : GM), w_X8_status_b45 X post px  t0 g → GG X p l e rm_X8_status s m args below meth c 3 (vx_MQ below (qR X post) (gXC X px) args s rm_X8_status.cells rm_X8_status.slots (gA X)) 0 0 45 [none, none, none] [va_rf t0] g := by
    intro  t0 g hf
    unfold w_X8_status_b45 at hf
    exact gg_aret C hr (Or.inl ⟨_, rfl⟩) (by decide) (by decide) dX8_status_45 hf
  unfold w_X8_status at hf
  refine gg_aload_n C dX8_status_0 rfl ?_
  refine gg_getR C dX8_status_1 lk_X8_51 hf (fun r1 hf => ?_)
  refine gg_iload_n C dX8_status_4 rfl ?_
  refine gg_cald C dX8_status_5 hf (fun i2 hf => ?_)
  refine gg_bipush C dX8_status_6 (v := (97 : Int32)) (by decide) ?_
  refine gg_icmp_eq (tgt := 46) C dX8_status_8 (by decide) hf (fun hf => ?_) (fun hf => ?_)
  · refine gg_aload_n C dX8_status_46 rfl ?_
    refine gg_iload_n C dX8_status_47 rfl ?_
    refine gr_I (k' := 0) (n' := 0) (gk_V (ci := 8) (As := [.int v1]) (rest := []) C dX8_status_48 rfl rfl tw_1667 tw_1669 tw_33 tw_56 tw_1670 gd_X8_hold rfl ⟨by decide, by decide⟩ (by simp [gcat, gcI, gcL, gcF, gcD]) ⟨by decide, by decide⟩ hf (fun hf => m_X8_hold hfl hf)) rfl rfl (fun E g9 h9 => gx_out C (fun x hx => (ht x hx).elim) (by decide) (by decide) h9) (fun i4 g3 hf => ?_)
    refine gg_istore_n (L' := [some (va_rf v0), some (.int v1), some (.int i4)]) C dX8_status_51 (Or.inr (Or.inr ⟨_, rfl, rfl⟩)) (by decide) rfl ?_
    refine gg_iload_n C dX8_status_52 rfl ?_
    refine gg_bipush C dX8_status_53 (v := (45 : Int32)) (by decide) ?_
    refine gg_icmp_ne (tgt := 64) C dX8_status_55 (by decide) hf (fun hf => ?_) (fun hf => ?_)
    · refine gg_iload_n C dX8_status_64 rfl ?_
      refine gg_bipush C dX8_status_65 (v := (118 : Int32)) (by decide) ?_
      refine gg_icmp_ne (tgt := 76) C dX8_status_67 (by decide) hf (fun hf => ?_) (fun hf => ?_)
      · refine gg_iload_n C dX8_status_76 rfl ?_
        refine gg_bipush C dX8_status_77 (v := (99 : Int32)) (by decide) ?_
        refine gg_icmp_ne (tgt := 88) C dX8_status_79 (by decide) hf (fun hf => ?_) (fun hf => ?_)
        · refine gg_ldcSW C dX8_status_88 (j := 8) (tx := "held by ratings") (by decide +kernel) ?_
          exact gg_sub (L' := [none, none, none]) (by first | exact trivial | simp [gsub]) (hb_91 _ _ hf)
        · refine gg_ldcSW C dX8_status_82 (j := 7) (tx := "held by crashes") (by decide +kernel) ?_
          refine gg_goto (tgt := 91) C dX8_status_85 (by decide) ?_
          exact gg_sub (L' := [none, none, none]) (by first | exact trivial | simp [gsub]) (hb_91 _ _ hf)
      · refine gg_ldcSW C dX8_status_70 (j := 6) (tx := "held by review") (by decide +kernel) ?_
        refine gg_goto (tgt := 91) C dX8_status_73 (by decide) ?_
        exact gg_sub (L' := [none, none, none]) (by first | exact trivial | simp [gsub]) (hb_91 _ _ hf)
    · refine gg_ldcSW C dX8_status_58 (j := 5) (tx := "approved") (by decide +kernel) ?_
      refine gg_goto (tgt := 91) C dX8_status_61 (by decide) ?_
      exact gg_sub (L' := [none, none, none]) (by first | exact trivial | simp [gsub]) (hb_91 _ _ hf)
  · refine gg_aload_n C dX8_status_11 rfl ?_
    refine gg_getR C dX8_status_12 lk_X8_51 hf (fun r5 hf => ?_)
    refine gg_iload_n C dX8_status_15 rfl ?_
    refine gg_cald C dX8_status_16 hf (fun i6 hf => ?_)
    refine gg_bipush C dX8_status_17 (v := (100 : Int32)) (by decide) ?_
    refine gg_icmp_ne (tgt := 27) C dX8_status_19 (by decide) hf (fun hf => ?_) (fun hf => ?_)
    · refine gg_aload_n C dX8_status_27 rfl ?_
      refine gg_getR C dX8_status_28 lk_X8_51 hf (fun r7 hf => ?_)
      refine gg_iload_n C dX8_status_31 rfl ?_
      refine gg_cald C dX8_status_32 hf (fun i8 hf => ?_)
      refine gg_bipush C dX8_status_33 (v := (119 : Int32)) (by decide) ?_
      refine gg_icmp_ne (tgt := 43) C dX8_status_35 (by decide) hf (fun hf => ?_) (fun hf => ?_)
      · refine gg_ldcS C dX8_status_43 (j := 4) (tx := "refused") (by decide +kernel) ?_
        exact gg_sub (L' := [none, none, none]) (by first | exact trivial | simp [gsub]) (hb_45 _ _ hf)
      · refine gg_ldcS C dX8_status_38 (j := 3) (tx := "waiting") (by decide +kernel) ?_
        refine gg_goto (tgt := 45) C dX8_status_40 (by decide) ?_
        exact gg_sub (L' := [none, none, none]) (by first | exact trivial | simp [gsub]) (hb_45 _ _ hf)
    · refine gg_ldcS C dX8_status_22 (j := 2) (tx := "draft") (by decide +kernel) ?_
      refine gg_goto (tgt := 45) C dX8_status_24 (by decide) ?_
      exact gg_sub (L' := [none, none, none]) (by first | exact trivial | simp [gsub]) (hb_45 _ _ hf)

def w_X8_writeBuild_b58 (X : Cx) (post : Int32 → GM → Prop) (px : String → GM → Prop)  (l0 : Option Nat) (l1 : Int32) (t0 : Option Nat) (t1 : Option Nat) (g : GM) : Prop :=
  wIs g t1 9 (w_J4_append_15ec4 X (fun (r17 : Option Nat) (g16 : GM) => wIs g16 l0 8 (w_X8_status X (fun (r19 : Option Nat) (g18 : GM) => wIs g18 r17 9 (w_J4_append_15ec4 X (fun (r21 : Option Nat) (g20 : GM) => wGetR g20 l0 8 34 (fun (r22 : Option Nat) => wIs g20 r22 9 (w_J4_length_8abf5 X (fun (i24 : Int32) (g23 : GM) => post i24 g23) px r22 g20))) px r17 r19 g18)) px l0 l1 g16)) px t1 t0 g)
def w_X8_writeBuild (X : Cx) (post : Int32 → GM → Prop) (px : String → GM → Prop) (v0 : Option Nat) (v1 : Int32) (g : GM) : Prop :=
  wIs g v0 8 (w_X8_noBuild X (fun (i2 : Int32) (g1 : GM) => (if i2 = 0 then wNew X g1 (.inr (9, [.null, .int 0, .int 0, .int 0])) (fun q3 g4 => w_J4_init_da8c8 X (fun (g5 : GM) => wPut g5 v0 8 34 (va_rf (some q3)) (fun g6 => wGetR g6 v0 8 34 (fun (r7 : Option Nat) => wIs g6 r7 9 (w_J4_append_cf468 X (fun (r9 : Option Nat) (g8 : GM) => wGetR g8 v0 8 7 (fun (r10 : Option Nat) => wAld g8 r10 v1 0 (fun (i11 : Int32) => wIs g8 r9 9 (w_J4_append_bf812 X (fun (r13 : Option Nat) (g12 : GM) => wGetR g12 v0 8 13 (fun (r14 : Option Nat) => wAld g12 r14 v1 0 (fun (i15 : Int32) => (if i15 = (-1 : Int32) then w_X8_writeBuild_b58 X post px v0 v1 (some (X.2.2.2 1)) r13 g12 else w_X8_writeBuild_b58 X post px v0 v1 (some (X.2.2.2 0)) r13 g12)))) px r9 i11 g8)))) px r7 (118 : Int32) g6)))) px (some q3) g4) else post (0 : Int32) g1)) px v0 v1 g)
abbrev rm_X8_writeBuild : Room := { frames := 6, cells := 6, slots := 644, locals := 168 }
set_option maxHeartbeats 4000000 in
set_option maxRecDepth 100000 in
theorem m_X8_writeBuild {X : Cx} {l : Launch} (hfl : l.stackTraces = false) {post : Int32 → GM → Prop} {px : String → GM → Prop} {v0 : Option Nat} {v1 : Int32} {g : GM} (hf : w_X8_writeBuild X post px v0 v1 g) : gMet X l yX8_writeBuild cX8_writeBuild 2 (some .int) rm_X8_writeBuild [va_rf v0, .int v1] g (qI X post) px := by
  refine gg_enter (L := [some (va_rf v0), some (.int v1)]) hfl (by decide +kernel) (by simp [lg_sl, gcat, gcI, gcL, gcF, gcD]) (by simp [gll, lv_args, gcat, gcI, gcL, gcF, gcD]) ?_
  intro p e s m args below meth c C hr ht hm
  have C : FC X p l s m args meth c cX8_writeBuild 2 "ReleasetrainModel" := C
  have hb_58 : ∀ (l0 : Option Nat) (l1 : Int32) (t0 : Option Nat) (t1 : Option Nat) (g : GM), w_X8_writeBuild_b58 X post px  l0 l1 t0 t1 g → GG X p l e rm_X8_writeBuild s m args below meth c 2 (vx_MQ below (qI X post) (gXC X px) args s rm_X8_writeBuild.cells rm_X8_writeBuild.slots (gA X)) 4 388 58 [some (va_rf l0), some (.int l1)] [va_rf t0, va_rf t1] g := by
    intro  l0 l1 t0 t1 g hf
    unfold w_X8_writeBuild_b58 at hf
    refine gr_R (k' := 5) (n' := 516) (gk_V (ci := 9) (As := [va_rf t0]) (rest := []) C dX8_writeBuild_58 rfl rfl tw_1868 tw_1153 tw_1154 tw_53 tw_1155 gd_J4_append_15ec4 rfl ⟨by decide, by decide⟩ (by simp [gcat, gcI, gcL, gcF, gcD]) ⟨by decide, by decide⟩ hf (fun hf => m_J4_append_15ec4 hfl hf)) rfl rfl (fun E g9 h9 => gx_out C (fun x hx => (ht x hx).elim) (by decide) (by decide) h9) (fun r17 g16 hf => ?_)
    refine gg_aload_n C dX8_writeBuild_61 rfl ?_
    refine gg_iload_n C dX8_writeBuild_62 rfl ?_
    refine gr_R (k' := 5) (n' := 516) (gk_V (ci := 8) (As := [.int l1]) (rest := [va_rf r17]) C dX8_writeBuild_63 rfl rfl tw_1869 tw_1871 tw_45 tw_56 tw_1872 gd_X8_status rfl ⟨by decide, by decide⟩ (by simp [gcat, gcI, gcL, gcF, gcD]) ⟨by decide, by decide⟩ hf (fun hf => m_X8_status hfl hf)) rfl rfl (fun E g9 h9 => gx_out C (fun x hx => (ht x hx).elim) (by decide) (by decide) h9) (fun r19 g18 hf => ?_)
    refine gr_R (k' := 6) (n' := 644) (gk_V (ci := 9) (As := [va_rf r19]) (rest := []) C dX8_writeBuild_66 rfl rfl tw_1868 tw_1153 tw_1154 tw_53 tw_1155 gd_J4_append_15ec4 rfl ⟨by decide, by decide⟩ (by simp [gcat, gcI, gcL, gcF, gcD]) ⟨by decide, by decide⟩ hf (fun hf => m_J4_append_15ec4 hfl hf)) rfl rfl (fun E g9 h9 => gx_out C (fun x hx => (ht x hx).elim) (by decide) (by decide) h9) (fun r21 g20 hf => ?_)
    refine gg_pop C dX8_writeBuild_69 (gcat _) ?_
    refine gg_aload_n C dX8_writeBuild_70 rfl ?_
    refine gg_getR C dX8_writeBuild_71 lk_X8_106 hf (fun r22 hf => ?_)
    refine gr_I (k' := 6) (n' := 644) (gk_V (ci := 9) (As := []) (rest := []) C dX8_writeBuild_74 rfl rfl tw_1880 tw_1303 tw_1903 tw_53 tw_1304 gd_J4_length_8abf5 rfl ⟨by decide, by decide⟩ (by simp [gcat, gcI, gcL, gcF, gcD]) ⟨by decide, by decide⟩ hf (fun hf => m_J4_length_8abf5 hfl hf)) rfl rfl (fun E g9 h9 => gx_out C (fun x hx => (ht x hx).elim) (by decide) (by decide) h9) (fun i24 g23 hf => ?_)
    exact gg_iret C hr (by decide) (by decide) dX8_writeBuild_77 rfl hf
  unfold w_X8_writeBuild at hf
  refine gg_aload_n C dX8_writeBuild_0 rfl ?_
  refine gg_iload_n C dX8_writeBuild_1 rfl ?_
  refine gr_I (k' := 0) (n' := 0) (gk_V (ci := 8) (As := [.int v1]) (rest := []) C dX8_writeBuild_2 rfl rfl tw_1599 tw_1601 tw_26 tw_56 tw_1602 gd_X8_noBuild rfl ⟨by decide, by decide⟩ (by simp [gcat, gcI, gcL, gcF, gcD]) ⟨by decide, by decide⟩ hf (fun hf => m_X8_noBuild hfl hf)) rfl rfl (fun E g9 h9 => gx_out C (fun x hx => (ht x hx).elim) (by decide) (by decide) h9) (fun i2 g1 hf => ?_)
  refine gg_if_eq (tgt := 10) C dX8_writeBuild_5 (by decide) hf (fun hf => ?_) (fun hf => ?_)
  · refine gg_aload_n C dX8_writeBuild_10 rfl ?_
    refine gg_new C dX8_writeBuild_11 nk_X8_103 (by decide) (by decide) rfl rfl hf (fun q3 g4 hf => ?_)
    refine gg_dup C dX8_writeBuild_14 (gcat _) ?_
    refine gr_V (k' := 2) (n' := 132) (gk_I (As := []) (rest := [va_rf (some q3), va_rf v0]) C dX8_writeBuild_15 rfl tw_1458 tw_138 tw_53 tw_139 gd_J4_init_da8c8 rfl ⟨by decide, by decide⟩ (by simp [gcat, gcI, gcL, gcF, gcD]) ⟨by decide, by decide⟩ (m_J4_init_da8c8 hfl hf)) rfl rfl (fun E g9 h9 => gx_out C (fun x hx => (ht x hx).elim) (by decide) (by decide) h9) (fun g5 hf => ?_)
    refine gg_put C dX8_writeBuild_18 pk_X8_106 (gNar_obj _ _) hf (fun g6 hf => ?_)
    refine gg_aload_n C dX8_writeBuild_21 rfl ?_
    refine gg_getR C dX8_writeBuild_22 lk_X8_106 hf (fun r7 hf => ?_)
    refine gg_bipush C dX8_writeBuild_25 (v := (118 : Int32)) (by decide) ?_
    refine gr_R (k' := 3) (n' := 260) (gk_V (ci := 9) (As := [.int (118 : Int32)]) (rest := []) C dX8_writeBuild_27 rfl rfl tw_1864 tw_1380 tw_1381 tw_53 tw_1382 gd_J4_append_cf468 rfl ⟨by decide, by decide⟩ (by simp [gcat, gcI, gcL, gcF, gcD]) ⟨by decide, by decide⟩ hf (fun hf => m_J4_append_cf468 hfl hf)) rfl rfl (fun E g9 h9 => gx_out C (fun x hx => (ht x hx).elim) (by decide) (by decide) h9) (fun r9 g8 hf => ?_)
    refine gg_aload_n C dX8_writeBuild_30 rfl ?_
    refine gg_getR C dX8_writeBuild_31 lk_X8_30 hf (fun r10 hf => ?_)
    refine gg_iload_n C dX8_writeBuild_34 rfl ?_
    refine gg_iald C dX8_writeBuild_35 hf (fun i11 hf => ?_)
    refine gr_R (k' := 4) (n' := 388) (gk_V (ci := 9) (As := [.int i11]) (rest := []) C dX8_writeBuild_36 rfl rfl tw_1865 tw_1258 tw_1259 tw_53 tw_1260 gd_J4_append_bf812 rfl ⟨by decide, by decide⟩ (by simp [gcat, gcI, gcL, gcF, gcD]) ⟨by decide, by decide⟩ hf (fun hf => m_J4_append_bf812 hfl hf)) rfl rfl (fun E g9 h9 => gx_out C (fun x hx => (ht x hx).elim) (by decide) (by decide) h9) (fun r13 g12 hf => ?_)
    refine gg_aload_n C dX8_writeBuild_39 rfl ?_
    refine gg_getR C dX8_writeBuild_40 lk_X8_48 hf (fun r14 hf => ?_)
    refine gg_iload_n C dX8_writeBuild_43 rfl ?_
    refine gg_iald C dX8_writeBuild_44 hf (fun i15 hf => ?_)
    refine gg_iconst C dX8_writeBuild_45 (v := (-1 : Int32)) (by decide) ?_
    refine gg_icmp_ne (tgt := 55) C dX8_writeBuild_46 (by decide) hf (fun hf => ?_) (fun hf => ?_)
    · refine gg_ldcSW C dX8_writeBuild_55 (j := 0) (tx := " fix ") (by decide +kernel) ?_
      exact hb_58 _ _ _ _ _ hf
    · refine gg_ldcSW C dX8_writeBuild_49 (j := 1) (tx := " app ") (by decide +kernel) ?_
      refine gg_goto (tgt := 58) C dX8_writeBuild_52 (by decide) ?_
      exact hb_58 _ _ _ _ _ hf
  · refine gg_iconst C dX8_writeBuild_8 (v := (0 : Int32)) (by decide) ?_
    exact gg_iret C hr (by decide) (by decide) dX8_writeBuild_9 rfl hf

def w_X8_lineAt_b46 (X : Cx) (post : Int32 → GM → Prop) (px : String → GM → Prop)  (t0 : Int32) (g : GM) : Prop :=
  (narrow .char (.int t0) = .int t0 ∧ post t0 g)
def w_X8_lineAt_b23 (X : Cx) (post : Int32 → GM → Prop) (px : String → GM → Prop)  (l0 : Option Nat) (l1 : Int32) (t0 : Int32) (t1 : Option Nat) (g : GM) : Prop :=
  wPut g t1 8 36 (.int t0) (fun g6 => wGetI g6 l0 8 36 (fun (i7 : Int32) => (if i7 ≤ 0 then wGetR g6 l0 8 34 (fun (r8 : Option Nat) => wIs g6 r8 9 (w_J4_charAt_5068e X (fun (i10 : Int32) (g9 : GM) => w_X8_lineAt_b46 X post px i10 g9) px r8 l1 g6)) else w_X8_lineAt_b46 X post px (32 : Int32) g6)))
def w_X8_lineAt (X : Cx) (post : Int32 → GM → Prop) (px : String → GM → Prop) (v0 : Option Nat) (v1 : Int32) (g : GM) : Prop :=
  wGetR g v0 8 34 (fun (r1 : Option Nat) => wIs g r1 9 (w_J4_length_8abf5 X (fun (i3 : Int32) (g2 : GM) => w_X8_in X (fun (i5 : Int32) (g4 : GM) => (if i5 = 0 then w_X8_lineAt_b23 X post px v0 v1 (1 : Int32) v0 g4 else w_X8_lineAt_b23 X post px v0 v1 (0 : Int32) v0 g4)) px v1 (0 : Int32) (i3 - (1 : Int32)) g2) px r1 g))
abbrev rm_X8_lineAt : Room := { frames := 4, cells := 0, slots := 0, locals := 88 }
set_option maxHeartbeats 4000000 in
set_option maxRecDepth 100000 in
theorem m_X8_lineAt {X : Cx} {l : Launch} (hfl : l.stackTraces = false) {post : Int32 → GM → Prop} {px : String → GM → Prop} {v0 : Option Nat} {v1 : Int32} {g : GM} (hf : w_X8_lineAt X post px v0 v1 g) : gMet X l yX8_lineAt cX8_lineAt 2 (some .char) rm_X8_lineAt [va_rf v0, .int v1] g (qI X post) px := by
  refine gg_enter (L := [some (va_rf v0), some (.int v1)]) hfl (by decide +kernel) (by simp [lg_sl, gcat, gcI, gcL, gcF, gcD]) (by simp [gll, lv_args, gcat, gcI, gcL, gcF, gcD]) ?_
  intro p e s m args below meth c C hr ht hm
  have C : FC X p l s m args meth c cX8_lineAt 2 "ReleasetrainModel" := C
  have hb_46 : ∀ (t0 : Int32) (g : GM), w_X8_lineAt_b46 X post px  t0 g → GG X p l e rm_X8_lineAt s m args below meth c 2 (vx_MQ below (qI X post) (gXC X px) args s rm_X8_lineAt.cells rm_X8_lineAt.slots (gA X)) 0 0 46 [none, none] [.int t0] g := by
    intro  t0 g hf
    unfold w_X8_lineAt_b46 at hf
    exact gg_iret C hr (by decide) (by decide) dX8_lineAt_46 hf.1 hf.2
  have hb_23 : ∀ (l0 : Option Nat) (l1 : Int32) (t0 : Int32) (t1 : Option Nat) (g : GM), w_X8_lineAt_b23 X post px  l0 l1 t0 t1 g → GG X p l e rm_X8_lineAt s m args below meth c 2 (vx_MQ below (qI X post) (gXC X px) args s rm_X8_lineAt.cells rm_X8_lineAt.slots (gA X)) 0 0 23 [some (va_rf l0), some (.int l1)] [.int t0, va_rf t1] g := by
    intro  l0 l1 t0 t1 g hf
    unfold w_X8_lineAt_b23 at hf
    refine gg_put C dX8_lineAt_23 pk_X8_110 (gNar_int _) hf (fun g6 hf => ?_)
    refine gg_aload_n C dX8_lineAt_26 rfl ?_
    refine gg_getI C dX8_lineAt_27 lk_X8_110 hf (fun i7 hf => ?_)
    refine gg_if_le (tgt := 38) C dX8_lineAt_30 (by decide) hf (fun hf => ?_) (fun hf => ?_)
    · refine gg_aload_n C dX8_lineAt_38 rfl ?_
      refine gg_getR C dX8_lineAt_39 lk_X8_106 hf (fun r8 hf => ?_)
      refine gg_iload_n C dX8_lineAt_42 rfl ?_
      refine gr_I (k' := 0) (n' := 0) (gk_V (ci := 9) (As := [.int l1]) (rest := []) C dX8_lineAt_43 rfl rfl tw_1885 tw_1429 tw_1430 tw_53 tw_1431 gd_J4_charAt_5068e rfl ⟨by decide, by decide⟩ (by simp [gcat, gcI, gcL, gcF, gcD]) ⟨by decide, by decide⟩ hf (fun hf => m_J4_charAt_5068e hfl hf)) rfl rfl (fun E g9 h9 => gx_out C (fun x hx => (ht x hx).elim) (by decide) (by decide) h9) (fun i10 g9 hf => ?_)
      exact gg_sub (L' := [none, none]) (by first | exact trivial | simp [gsub]) (hb_46 _ _ hf)
    · refine gg_bipush C dX8_lineAt_33 (v := (32 : Int32)) (by decide) ?_
      refine gg_goto (tgt := 46) C dX8_lineAt_35 (by decide) ?_
      exact gg_sub (L' := [none, none]) (by first | exact trivial | simp [gsub]) (hb_46 _ _ hf)
  unfold w_X8_lineAt at hf
  refine gg_aload_n C dX8_lineAt_0 rfl ?_
  refine gg_iload_n C dX8_lineAt_1 rfl ?_
  refine gg_iconst C dX8_lineAt_2 (v := (0 : Int32)) (by decide) ?_
  refine gg_aload_n C dX8_lineAt_3 rfl ?_
  refine gg_getR C dX8_lineAt_4 lk_X8_106 hf (fun r1 hf => ?_)
  refine gr_I (k' := 0) (n' := 0) (gk_V (ci := 9) (As := []) (rest := [.int (0 : Int32), .int v1, va_rf v0]) C dX8_lineAt_7 rfl rfl tw_1880 tw_1303 tw_1903 tw_53 tw_1304 gd_J4_length_8abf5 rfl ⟨by decide, by decide⟩ (by simp [gcat, gcI, gcL, gcF, gcD]) ⟨by decide, by decide⟩ hf (fun hf => m_J4_length_8abf5 hfl hf)) rfl rfl (fun E g9 h9 => gx_out C (fun x hx => (ht x hx).elim) (by decide) (by decide) h9) (fun i3 g2 hf => ?_)
  refine gg_iconst C dX8_lineAt_10 (v := (1 : Int32)) (by decide) ?_
  refine gg_isub C dX8_lineAt_11 ?_
  refine gr_I (k' := 0) (n' := 0) (gk_S (As := [.int v1, .int (0 : Int32), .int (i3 - (1 : Int32))]) (rest := [va_rf v0]) C dX8_lineAt_12 tw_1580 tw_1581 tw_56 tw_1582 gd_X8_in rfl ⟨by decide, by decide⟩ (by simp [gcat, gcI, gcL, gcF, gcD]) ⟨by decide, by decide⟩ (m_X8_in hfl hf)) rfl rfl (fun E g9 h9 => gx_out C (fun x hx => (ht x hx).elim) (by decide) (by decide) h9) (fun i5 g4 hf => ?_)
  refine gg_if_eq (tgt := 22) C dX8_lineAt_15 (by decide) hf (fun hf => ?_) (fun hf => ?_)
  · refine gg_iconst C dX8_lineAt_22 (v := (1 : Int32)) (by decide) ?_
    exact hb_23 _ _ _ _ _ hf
  · refine gg_iconst C dX8_lineAt_18 (v := (0 : Int32)) (by decide) ?_
    refine gg_goto (tgt := 23) C dX8_lineAt_19 (by decide) ?_
    exact hb_23 _ _ _ _ _ hf

def w_X8_usedShare_b119 (X : Cx) (post : UInt32 → GM → Prop) (px : String → GM → Prop)  (t0 : UInt32) (g : GM) : Prop :=
  post t0 g
def w_X8_usedShare_b100 (X : Cx) (post : UInt32 → GM → Prop) (px : String → GM → Prop)  (l0 : Option Nat) (l1 : Int32) (l2 : Int32) (t0 : Int32) (t1 : Option Nat) (g : GM) : Prop :=
  wPut g t1 8 36 (.int t0) (fun g2 => wGetI g2 l0 8 36 (fun (i3 : Int32) => (if i3 ≤ 0 then vf_n32 (FP.fdiv (FP.i2f l2) (FP.i2f l1)) ∧ w_X8_usedShare_b119 X post px (FP.fdiv (FP.i2f l2) (FP.i2f l1)) g2 else w_X8_usedShare_b119 X post px FP.fconst0 g2)))
def w_X8_usedShare_b76 (X : Cx) (post : UInt32 → GM → Prop) (px : String → GM → Prop) (k6 : Option Nat → Int32 → Int32 → Int32 → GM → Prop) (k17 : Option Nat → Int32 → Int32 → Int32 → Int32 → GM → Prop) (l0 : Option Nat) (l1 : Int32) (l3 : Int32) (l4 : Int32) (t0 : Int32) (t1 : Int32) (g : GM) : Prop :=
  k17 l0 l1 (t1 + t0) l3 (l4 + 1) g
def w_X8_usedShare_b75 (X : Cx) (post : UInt32 → GM → Prop) (px : String → GM → Prop) (k6 : Option Nat → Int32 → Int32 → Int32 → GM → Prop) (k17 : Option Nat → Int32 → Int32 → Int32 → Int32 → GM → Prop) (l0 : Option Nat) (l1 : Int32) (l3 : Int32) (l4 : Int32) (t0 : Int32) (g : GM) : Prop :=
  w_X8_usedShare_b76 X post px k6 k17 l0 l1 l3 l4 (0 : Int32) t0 g
def w_X8_usedShare_b44 (X : Cx) (post : UInt32 → GM → Prop) (px : String → GM → Prop) (k6 : Option Nat → Int32 → Int32 → Int32 → GM → Prop) (k17 : Option Nat → Int32 → Int32 → Int32 → Int32 → GM → Prop) (l0 : Option Nat) (l2 : Int32) (l3 : Int32) (l4 : Int32) (t0 : Int32) (t1 : Int32) (g : GM) : Prop :=
  wGetR g l0 8 4 (fun (r8 : Option Nat) => wAld g r8 l3 0 (fun (i9 : Int32) => w_X8_has X (fun (i11 : Int32) (g10 : GM) => (if i11 = 0 then w_X8_usedShare_b75 X post px k6 k17 l0 (t1 + t0) l3 l4 l2 g10 else wIs g10 l0 8 (w_X8_sells X (fun (i13 : Int32) (g12 : GM) => (if i13 = 0 then w_X8_usedShare_b75 X post px k6 k17 l0 (t1 + t0) l3 l4 l2 g12 else w_X8_usedShare_b76 X post px k6 k17 l0 (t1 + t0) l3 l4 (1 : Int32) l2 g12)) px l0 l3 l4 g10))) px i9 l4 g))
def w_X8_usedShare_l17 (X : Cx) (post : UInt32 → GM → Prop) (px : String → GM → Prop) (k6 : Option Nat → Int32 → Int32 → Int32 → GM → Prop) : Nat → Option Nat → Int32 → Int32 → Int32 → Int32 → GM → Prop
  | 0, _, _, _, _, _, _ => False
  | f + 1, l0, l1, l2, l3, l4, g => (if (8 : Int32) ≤ l4 then k6 l0 l1 l2 (l3 + 1) g else wGetR g l0 8 4 (fun (r4 : Option Nat) => wAld g r4 l3 0 (fun (i5 : Int32) => w_X8_has X (fun (i7 : Int32) (g6 : GM) => (if i7 = 0 then w_X8_usedShare_b44 X post px k6 (w_X8_usedShare_l17 X post px k6 f) l0 l2 l3 l4 (0 : Int32) l1 g6 else w_X8_usedShare_b44 X post px k6 (w_X8_usedShare_l17 X post px k6 f) l0 l2 l3 l4 (1 : Int32) l1 g6)) px i5 l4 g)))
def w_X8_usedShare_l6 (X : Cx) (post : UInt32 → GM → Prop) (px : String → GM → Prop)  : Nat → Option Nat → Int32 → Int32 → Int32 → GM → Prop
  | 0, _, _, _, _, _ => False
  | f + 1, l0, l1, l2, l3, g => wGetI g l0 8 6 (fun (i1 : Int32) => (if i1 ≤ l3 then (if l1 = 0 then w_X8_usedShare_b100 X post px l0 l1 l2 (1 : Int32) l0 g else w_X8_usedShare_b100 X post px l0 l1 l2 (0 : Int32) l0 g) else w_X8_usedShare_l17 X post px (w_X8_usedShare_l6 X post px f) 3000 l0 l1 l2 l3 (0 : Int32) g))
def w_X8_usedShare (X : Cx) (post : UInt32 → GM → Prop) (px : String → GM → Prop) (v0 : Option Nat) (g : GM) : Prop :=
  w_X8_usedShare_l6 X post px 3000 v0 (0 : Int32) (0 : Int32) (0 : Int32) g
abbrev rm_X8_usedShare : Room := { frames := 2, cells := 0, slots := 0, locals := 43 }
set_option maxHeartbeats 4000000 in
set_option maxRecDepth 100000 in
theorem m_X8_usedShare {X : Cx} {l : Launch} (hfl : l.stackTraces = false) {post : UInt32 → GM → Prop} {px : String → GM → Prop} {v0 : Option Nat} {g : GM} (hf : w_X8_usedShare X post px v0 g) : gMet X l yX8_usedShare cX8_usedShare 5 (some .float) rm_X8_usedShare [va_rf v0] g (qF X post) px := by
  refine gg_enter (L := [some (va_rf v0), none, none, none, none]) hfl (by decide +kernel) (by simp [lg_sl, gcat, gcI, gcL, gcF, gcD]) (by simp [gll, lv_args, gcat, gcI, gcL, gcF, gcD]) ?_
  intro p e s m args below meth c C hr ht hm
  have C : FC X p l s m args meth c cX8_usedShare 5 "ReleasetrainModel" := C
  have hb_119 : ∀ (t0 : UInt32) (g : GM), w_X8_usedShare_b119 X post px  t0 g → GG X p l e rm_X8_usedShare s m args below meth c 5 (vx_MQ below (qF X post) (gXC X px) args s rm_X8_usedShare.cells rm_X8_usedShare.slots (gA X)) 0 0 119 [none, none, none, none, none] [.float t0] g := by
    intro  t0 g hf
    unfold w_X8_usedShare_b119 at hf
    exact gg_fret C hr (by decide) (by decide) dX8_usedShare_119 hf
  have hb_100 : ∀ (l0 : Option Nat) (l1 : Int32) (l2 : Int32) (t0 : Int32) (t1 : Option Nat) (g : GM), w_X8_usedShare_b100 X post px  l0 l1 l2 t0 t1 g → GG X p l e rm_X8_usedShare s m args below meth c 5 (vx_MQ below (qF X post) (gXC X px) args s rm_X8_usedShare.cells rm_X8_usedShare.slots (gA X)) 0 0 100 [some (va_rf l0), some (.int l1), some (.int l2), none, none] [.int t0, va_rf t1] g := by
    intro  l0 l1 l2 t0 t1 g hf
    unfold w_X8_usedShare_b100 at hf
    refine gg_put C dX8_usedShare_100 pk_X8_110 (gNar_int _) hf (fun g2 hf => ?_)
    refine gg_aload_n C dX8_usedShare_103 rfl ?_
    refine gg_getI C dX8_usedShare_104 lk_X8_110 hf (fun i3 hf => ?_)
    refine gg_if_le (tgt := 114) C dX8_usedShare_107 (by decide) hf (fun hf => ?_) (fun hf => ?_)
    · refine gg_iload_n C dX8_usedShare_114 rfl ?_
      refine gg_i2f C dX8_usedShare_115 ?_
      refine gg_iload_n C dX8_usedShare_116 rfl ?_
      refine gg_i2f C dX8_usedShare_117 ?_
      refine gg_fdiv C dX8_usedShare_118 hf.1 ?_
      replace hf := hf.2
      exact gg_sub (L' := [none, none, none, none, none]) (by first | exact trivial | simp [gsub]) (hb_119 _ _ hf)
    · refine gg_fconst0 C dX8_usedShare_110 ?_
      refine gg_goto (tgt := 119) C dX8_usedShare_111 (by decide) ?_
      exact gg_sub (L' := [none, none, none, none, none]) (by first | exact trivial | simp [gsub]) (hb_119 _ _ hf)
  have hb_76 : ∀ (k6 : Option Nat → Int32 → Int32 → Int32 → GM → Prop), (∀ (l0 : Option Nat) (l1 : Int32) (l2 : Int32) (l3 : Int32) (g : GM), k6 l0 l1 l2 l3 g → GG X p l e rm_X8_usedShare s m args below meth c 5 (vx_MQ below (qF X post) (gXC X px) args s rm_X8_usedShare.cells rm_X8_usedShare.slots (gA X)) 0 0 6 [some (va_rf l0), some (.int l1), some (.int l2), some (.int l3), none] [] g) → ∀ (k17 : Option Nat → Int32 → Int32 → Int32 → Int32 → GM → Prop), (∀ (l0 : Option Nat) (l1 : Int32) (l2 : Int32) (l3 : Int32) (l4 : Int32) (g : GM), k17 l0 l1 l2 l3 l4 g → GG X p l e rm_X8_usedShare s m args below meth c 5 (vx_MQ below (qF X post) (gXC X px) args s rm_X8_usedShare.cells rm_X8_usedShare.slots (gA X)) 0 0 17 [some (va_rf l0), some (.int l1), some (.int l2), some (.int l3), some (.int l4)] [] g) → ∀ (l0 : Option Nat) (l1 : Int32) (l3 : Int32) (l4 : Int32) (t0 : Int32) (t1 : Int32) (g : GM), w_X8_usedShare_b76 X post px k6 k17 l0 l1 l3 l4 t0 t1 g → GG X p l e rm_X8_usedShare s m args below meth c 5 (vx_MQ below (qF X post) (gXC X px) args s rm_X8_usedShare.cells rm_X8_usedShare.slots (gA X)) 0 0 76 [some (va_rf l0), some (.int l1), none, some (.int l3), some (.int l4)] [.int t0, .int t1] g := by
    intro k6 hk6 k17 hk17 l0 l1 l3 l4 t0 t1 g hf
    unfold w_X8_usedShare_b76 at hf
    refine gg_iadd C dX8_usedShare_76 ?_
    refine gg_istore_n (L' := [some (va_rf l0), some (.int l1), some (.int (t1 + t0)), some (.int l3), some (.int l4)]) C dX8_usedShare_77 (Or.inr (Or.inr ⟨_, rfl, rfl⟩)) (by decide) rfl ?_
    refine gg_iinc (L' := [some (va_rf l0), some (.int l1), some (.int (t1 + t0)), some (.int l3), some (.int (l4 + 1))]) C dX8_usedShare_78 rfl (v := (l4 + 1)) rfl (Or.inr (Or.inr ⟨_, rfl, rfl⟩)) (by decide) rfl ?_
    refine gg_goto (tgt := 17) C dX8_usedShare_81 (by decide) ?_
    exact hk17 _ _ _ _ _ _ hf
  have hb_75 : ∀ (k6 : Option Nat → Int32 → Int32 → Int32 → GM → Prop), (∀ (l0 : Option Nat) (l1 : Int32) (l2 : Int32) (l3 : Int32) (g : GM), k6 l0 l1 l2 l3 g → GG X p l e rm_X8_usedShare s m args below meth c 5 (vx_MQ below (qF X post) (gXC X px) args s rm_X8_usedShare.cells rm_X8_usedShare.slots (gA X)) 0 0 6 [some (va_rf l0), some (.int l1), some (.int l2), some (.int l3), none] [] g) → ∀ (k17 : Option Nat → Int32 → Int32 → Int32 → Int32 → GM → Prop), (∀ (l0 : Option Nat) (l1 : Int32) (l2 : Int32) (l3 : Int32) (l4 : Int32) (g : GM), k17 l0 l1 l2 l3 l4 g → GG X p l e rm_X8_usedShare s m args below meth c 5 (vx_MQ below (qF X post) (gXC X px) args s rm_X8_usedShare.cells rm_X8_usedShare.slots (gA X)) 0 0 17 [some (va_rf l0), some (.int l1), some (.int l2), some (.int l3), some (.int l4)] [] g) → ∀ (l0 : Option Nat) (l1 : Int32) (l3 : Int32) (l4 : Int32) (t0 : Int32) (g : GM), w_X8_usedShare_b75 X post px k6 k17 l0 l1 l3 l4 t0 g → GG X p l e rm_X8_usedShare s m args below meth c 5 (vx_MQ below (qF X post) (gXC X px) args s rm_X8_usedShare.cells rm_X8_usedShare.slots (gA X)) 0 0 75 [some (va_rf l0), some (.int l1), none, some (.int l3), some (.int l4)] [.int t0] g := by
    intro k6 hk6 k17 hk17 l0 l1 l3 l4 t0 g hf
    unfold w_X8_usedShare_b75 at hf
    refine gg_iconst C dX8_usedShare_75 (v := (0 : Int32)) (by decide) ?_
    exact hb_76 _ hk6 _ hk17 _ _ _ _ _ _ _ hf
  have hb_44 : ∀ (k6 : Option Nat → Int32 → Int32 → Int32 → GM → Prop), (∀ (l0 : Option Nat) (l1 : Int32) (l2 : Int32) (l3 : Int32) (g : GM), k6 l0 l1 l2 l3 g → GG X p l e rm_X8_usedShare s m args below meth c 5 (vx_MQ below (qF X post) (gXC X px) args s rm_X8_usedShare.cells rm_X8_usedShare.slots (gA X)) 0 0 6 [some (va_rf l0), some (.int l1), some (.int l2), some (.int l3), none] [] g) → ∀ (k17 : Option Nat → Int32 → Int32 → Int32 → Int32 → GM → Prop), (∀ (l0 : Option Nat) (l1 : Int32) (l2 : Int32) (l3 : Int32) (l4 : Int32) (g : GM), k17 l0 l1 l2 l3 l4 g → GG X p l e rm_X8_usedShare s m args below meth c 5 (vx_MQ below (qF X post) (gXC X px) args s rm_X8_usedShare.cells rm_X8_usedShare.slots (gA X)) 0 0 17 [some (va_rf l0), some (.int l1), some (.int l2), some (.int l3), some (.int l4)] [] g) → ∀ (l0 : Option Nat) (l2 : Int32) (l3 : Int32) (l4 : Int32) (t0 : Int32) (t1 : Int32) (g : GM), w_X8_usedShare_b44 X post px k6 k17 l0 l2 l3 l4 t0 t1 g → GG X p l e rm_X8_usedShare s m args below meth c 5 (vx_MQ below (qF X post) (gXC X px) args s rm_X8_usedShare.cells rm_X8_usedShare.slots (gA X)) 0 0 44 [some (va_rf l0), none, some (.int l2), some (.int l3), some (.int l4)] [.int t0, .int t1] g := by
    intro k6 hk6 k17 hk17 l0 l2 l3 l4 t0 t1 g hf
    unfold w_X8_usedShare_b44 at hf
    refine gg_iadd C dX8_usedShare_44 ?_
    refine gg_istore_n (L' := [some (va_rf l0), some (.int (t1 + t0)), some (.int l2), some (.int l3), some (.int l4)]) C dX8_usedShare_45 (Or.inr (Or.inr ⟨_, rfl, gcat _⟩)) (by decide) rfl ?_
    refine gg_iload_n C dX8_usedShare_46 rfl ?_
    refine gg_aload_n C dX8_usedShare_47 rfl ?_
    refine gg_getR C dX8_usedShare_48 lk_X8_22 hf (fun r8 hf => ?_)
    refine gg_iload_n C dX8_usedShare_51 rfl ?_
    refine gg_iald C dX8_usedShare_52 hf (fun i9 hf => ?_)
    refine gg_iload C dX8_usedShare_53 rfl ?_
    refine gr_I (k' := 0) (n' := 0) (gk_S (As := [.int i9, .int l4]) (rest := [.int l2]) C dX8_usedShare_55 tw_1705 tw_1706 tw_56 tw_1707 gd_X8_has rfl ⟨by decide, by decide⟩ (by simp [gcat, gcI, gcL, gcF, gcD]) ⟨by decide, by decide⟩ (m_X8_has hfl hf)) rfl rfl (fun E g9 h9 => gx_out C (fun x hx => (ht x hx).elim) (by decide) (by decide) h9) (fun i11 g10 hf => ?_)
    refine gg_if_eq (tgt := 75) C dX8_usedShare_58 (by decide) hf (fun hf => ?_) (fun hf => ?_)
    · exact gg_sub (L' := [some (va_rf l0), some (.int (t1 + t0)), none, some (.int l3), some (.int l4)]) (by first | exact ⟨rfl, ⟨rfl, ⟨rfl, ⟨rfl, trivial⟩⟩⟩⟩ | simp [gsub]) (hb_75 _ hk6 _ hk17 _ _ _ _ _ _ hf)
    · refine gg_aload_n C dX8_usedShare_61 rfl ?_
      refine gg_iload_n C dX8_usedShare_62 rfl ?_
      refine gg_iload C dX8_usedShare_63 rfl ?_
      refine gr_I (k' := 0) (n' := 0) (gk_V (ci := 8) (As := [.int l3, .int l4]) (rest := [.int l2]) C dX8_usedShare_65 rfl rfl tw_1839 tw_1841 tw_43 tw_56 tw_1842 gd_X8_sells rfl ⟨by decide, by decide⟩ (by simp [gcat, gcI, gcL, gcF, gcD]) ⟨by decide, by decide⟩ hf (fun hf => m_X8_sells hfl hf)) rfl rfl (fun E g9 h9 => gx_out C (fun x hx => (ht x hx).elim) (by decide) (by decide) h9) (fun i13 g12 hf => ?_)
      refine gg_if_eq (tgt := 75) C dX8_usedShare_68 (by decide) hf (fun hf => ?_) (fun hf => ?_)
      · exact gg_sub (L' := [some (va_rf l0), some (.int (t1 + t0)), none, some (.int l3), some (.int l4)]) (by first | exact ⟨rfl, ⟨rfl, ⟨rfl, ⟨rfl, trivial⟩⟩⟩⟩ | simp [gsub]) (hb_75 _ hk6 _ hk17 _ _ _ _ _ _ hf)
      · refine gg_iconst C dX8_usedShare_71 (v := (1 : Int32)) (by decide) ?_
        refine gg_goto (tgt := 76) C dX8_usedShare_72 (by decide) ?_
        exact gg_sub (L' := [some (va_rf l0), some (.int (t1 + t0)), none, some (.int l3), some (.int l4)]) (by first | exact ⟨rfl, ⟨rfl, ⟨rfl, ⟨rfl, trivial⟩⟩⟩⟩ | simp [gsub]) (hb_76 _ hk6 _ hk17 _ _ _ _ _ _ _ hf)
  have hb_17 : ∀ (k6 : Option Nat → Int32 → Int32 → Int32 → GM → Prop), (∀ (l0 : Option Nat) (l1 : Int32) (l2 : Int32) (l3 : Int32) (g : GM), k6 l0 l1 l2 l3 g → GG X p l e rm_X8_usedShare s m args below meth c 5 (vx_MQ below (qF X post) (gXC X px) args s rm_X8_usedShare.cells rm_X8_usedShare.slots (gA X)) 0 0 6 [some (va_rf l0), some (.int l1), some (.int l2), some (.int l3), none] [] g) → ∀ (f : Nat) (l0 : Option Nat) (l1 : Int32) (l2 : Int32) (l3 : Int32) (l4 : Int32) (g : GM), w_X8_usedShare_l17 X post px k6 f l0 l1 l2 l3 l4 g → GG X p l e rm_X8_usedShare s m args below meth c 5 (vx_MQ below (qF X post) (gXC X px) args s rm_X8_usedShare.cells rm_X8_usedShare.slots (gA X)) 0 0 17 [some (va_rf l0), some (.int l1), some (.int l2), some (.int l3), some (.int l4)] [] g := by
    intro k6 hk6 f
    induction f with
    | zero => intro l0 l1 l2 l3 l4 g hf; exact (show False from hf).elim
    | succ f ih =>
      intro l0 l1 l2 l3 l4 g hf
      rw [w_X8_usedShare_l17] at hf
      refine gg_iload C dX8_usedShare_17 rfl ?_
      refine gg_bipush C dX8_usedShare_19 (v := (8 : Int32)) (by decide) ?_
      refine gg_icmp_ge (tgt := 84) C dX8_usedShare_21 (by decide) hf (fun hf => ?_) (fun hf => ?_)
      · refine gg_iinc (L' := [some (va_rf l0), some (.int l1), some (.int l2), some (.int (l3 + 1)), some (.int l4)]) C dX8_usedShare_84 rfl (v := (l3 + 1)) rfl (Or.inr (Or.inr ⟨_, rfl, rfl⟩)) (by decide) rfl ?_
        refine gg_goto (tgt := 6) C dX8_usedShare_87 (by decide) ?_
        exact gg_sub (L' := [some (va_rf l0), some (.int l1), some (.int l2), some (.int (l3 + 1)), none]) (by first | exact ⟨rfl, ⟨rfl, ⟨rfl, ⟨rfl, trivial⟩⟩⟩⟩ | simp [gsub]) (hk6 _ _ _ _ _ hf)
      · refine gg_iload_n C dX8_usedShare_24 rfl ?_
        refine gg_aload_n C dX8_usedShare_25 rfl ?_
        refine gg_getR C dX8_usedShare_26 lk_X8_22 hf (fun r4 hf => ?_)
        refine gg_iload_n C dX8_usedShare_29 rfl ?_
        refine gg_iald C dX8_usedShare_30 hf (fun i5 hf => ?_)
        refine gg_iload C dX8_usedShare_31 rfl ?_
        refine gr_I (k' := 0) (n' := 0) (gk_S (As := [.int i5, .int l4]) (rest := [.int l1]) C dX8_usedShare_33 tw_1705 tw_1706 tw_56 tw_1707 gd_X8_has rfl ⟨by decide, by decide⟩ (by simp [gcat, gcI, gcL, gcF, gcD]) ⟨by decide, by decide⟩ (m_X8_has hfl hf)) rfl rfl (fun E g9 h9 => gx_out C (fun x hx => (ht x hx).elim) (by decide) (by decide) h9) (fun i7 g6 hf => ?_)
        refine gg_if_eq (tgt := 43) C dX8_usedShare_36 (by decide) hf (fun hf => ?_) (fun hf => ?_)
        · refine gg_iconst C dX8_usedShare_43 (v := (0 : Int32)) (by decide) ?_
          exact gg_sub (L' := [some (va_rf l0), none, some (.int l2), some (.int l3), some (.int l4)]) (by first | exact ⟨rfl, ⟨rfl, ⟨rfl, ⟨rfl, trivial⟩⟩⟩⟩ | simp [gsub]) (hb_44 _ hk6 _ ih _ _ _ _ _ _ _ hf)
        · refine gg_iconst C dX8_usedShare_39 (v := (1 : Int32)) (by decide) ?_
          refine gg_goto (tgt := 44) C dX8_usedShare_40 (by decide) ?_
          exact gg_sub (L' := [some (va_rf l0), none, some (.int l2), some (.int l3), some (.int l4)]) (by first | exact ⟨rfl, ⟨rfl, ⟨rfl, ⟨rfl, trivial⟩⟩⟩⟩ | simp [gsub]) (hb_44 _ hk6 _ ih _ _ _ _ _ _ _ hf)
  have hb_6 : ∀ (f : Nat) (l0 : Option Nat) (l1 : Int32) (l2 : Int32) (l3 : Int32) (g : GM), w_X8_usedShare_l6 X post px  f l0 l1 l2 l3 g → GG X p l e rm_X8_usedShare s m args below meth c 5 (vx_MQ below (qF X post) (gXC X px) args s rm_X8_usedShare.cells rm_X8_usedShare.slots (gA X)) 0 0 6 [some (va_rf l0), some (.int l1), some (.int l2), some (.int l3), none] [] g := by
    intro  f
    induction f with
    | zero => intro l0 l1 l2 l3 g hf; exact (show False from hf).elim
    | succ f ih =>
      intro l0 l1 l2 l3 g hf
      rw [w_X8_usedShare_l6] at hf
      refine gg_iload_n C dX8_usedShare_6 rfl ?_
      refine gg_aload_n C dX8_usedShare_7 rfl ?_
      refine gg_getI C dX8_usedShare_8 lk_X8_113 hf (fun i1 hf => ?_)
      refine gg_icmp_ge (tgt := 90) C dX8_usedShare_11 (by decide) hf (fun hf => ?_) (fun hf => ?_)
      · refine gg_aload_n C dX8_usedShare_90 rfl ?_
        refine gg_iload_n C dX8_usedShare_91 rfl ?_
        refine gg_if_ne (tgt := 99) C dX8_usedShare_92 (by decide) hf (fun hf => ?_) (fun hf => ?_)
        · refine gg_iconst C dX8_usedShare_99 (v := (0 : Int32)) (by decide) ?_
          exact gg_sub (L' := [some (va_rf l0), some (.int l1), some (.int l2), none, none]) (by first | exact ⟨rfl, ⟨rfl, ⟨rfl, trivial⟩⟩⟩ | simp [gsub]) (hb_100 _ _ _ _ _ _ hf)
        · refine gg_iconst C dX8_usedShare_95 (v := (1 : Int32)) (by decide) ?_
          refine gg_goto (tgt := 100) C dX8_usedShare_96 (by decide) ?_
          exact gg_sub (L' := [some (va_rf l0), some (.int l1), some (.int l2), none, none]) (by first | exact ⟨rfl, ⟨rfl, ⟨rfl, trivial⟩⟩⟩ | simp [gsub]) (hb_100 _ _ _ _ _ _ hf)
      · refine gg_iconst C dX8_usedShare_14 (v := (0 : Int32)) (by decide) ?_
        refine gg_istore (L' := [some (va_rf l0), some (.int l1), some (.int l2), some (.int l3), some (.int (0 : Int32))]) C dX8_usedShare_15 (Or.inr (Or.inr ⟨_, rfl, rfl⟩)) (by decide) rfl ?_
        exact hb_17 _ ih _ _ _ _ _ _ _ hf
  unfold w_X8_usedShare at hf
  refine gg_iconst C dX8_usedShare_0 (v := (0 : Int32)) (by decide) ?_
  refine gg_istore_n (L' := [some (va_rf v0), some (.int (0 : Int32)), none, none, none]) C dX8_usedShare_1 (Or.inr (Or.inr ⟨_, rfl, gcat _⟩)) (by decide) rfl ?_
  refine gg_iconst C dX8_usedShare_2 (v := (0 : Int32)) (by decide) ?_
  refine gg_istore_n (L' := [some (va_rf v0), some (.int (0 : Int32)), some (.int (0 : Int32)), none, none]) C dX8_usedShare_3 (Or.inr (Or.inr ⟨_, rfl, rfl⟩)) (by decide) rfl ?_
  refine gg_iconst C dX8_usedShare_4 (v := (0 : Int32)) (by decide) ?_
  refine gg_istore_n (L' := [some (va_rf v0), some (.int (0 : Int32)), some (.int (0 : Int32)), some (.int (0 : Int32)), none]) C dX8_usedShare_5 (Or.inr (Or.inr ⟨_, rfl, rfl⟩)) (by decide) rfl ?_
  exact hb_6 _ _ _ _ _ _ hf

def w_L_addDevice (X : Cx) (post : Int32 → GM → Prop) (px : String → GM → Prop) (v0 : Option Nat) (v1 : Int32) (v2 : Int32) (v3 : Int32) (v4 : Option Nat) (g : GM) : Prop :=
  wIs g v0 7 (w_X7_addDevice X (fun (i2 : Int32) (g1 : GM) => wAstJ g1 v4 (0 : Int32) ((i2).toInt64) (fun g3 => post (0 : Int32) g3)) (fun E g9 => if E = "java/lang/IllegalArgumentException" then post (1 : Int32) g9 else (if E = "java/lang/IllegalStateException" then post (2 : Int32) g9 else (False))) v0 v1 v2 v3 g)
abbrev rm_L_addDevice : Room := { frames := 9, cells := 6, slots := 240, locals := 258 }
set_option maxHeartbeats 4000000 in
set_option maxRecDepth 100000 in
theorem m_L_addDevice {X : Cx} {l : Launch} (hfl : l.stackTraces = false) {post : Int32 → GM → Prop} {px : String → GM → Prop} {v0 : Option Nat} {v1 : Int32} {v2 : Int32} {v3 : Int32} {v4 : Option Nat} {g : GM} (hf : w_L_addDevice X post px v0 v1 v2 v3 v4 g) : vx_Met l yL_addDevice (.codeWith yL_addDevice cL_addDevice 6 (some .int) [(0, 12, 15, 13), (0, 12, 19, 15)] :: TBL) rm_L_addDevice (gPc X [va_rf v0, .int v1, .int v2, .int v3, va_rf v4] g) (qI X post) (gXC X px) rm_L_addDevice.cells rm_L_addDevice.slots (gA X) := by
  refine gg_enterW (hh := [(0, 12, 15, 13), (0, 12, 19, 15)]) (L := [some (va_rf v0), some (.int v1), some (.int v2), some (.int v3), some (va_rf v4), none]) hfl (by decide +kernel) (by simp [lg_sl, gcat, gcI, gcL, gcF, gcD]) (by simp [gll, lv_args, gcat, gcI, gcL, gcF, gcD]) ?_
  intro p e s m args below meth c C hr ht
  have C : FC X p l s m args meth c cL_addDevice 6 "ReleasetrainLaw" := C
  unfold w_L_addDevice at hf
  refine gg_aload C dL_addDevice_0 rfl ?_
  refine gg_iconst C dL_addDevice_2 (v := (0 : Int32)) (by decide) ?_
  refine gg_aload_n C dL_addDevice_3 rfl ?_
  refine gg_iload_n C dL_addDevice_4 rfl ?_
  refine gg_iload_n C dL_addDevice_5 rfl ?_
  refine gg_iload_n C dL_addDevice_6 rfl ?_
  refine gr_I (k' := 6) (n' := 240) (gk_V (ci := 7) (As := [.int v1, .int v2, .int v3]) (rest := [.int (0 : Int32), va_rf v4]) C dL_addDevice_7 rfl rfl tw_226 tw_227 tw_228 tw_47 tw_229 gd_X7_addDevice rfl ⟨by decide, by decide⟩ (by simp [gcat, gcI, gcL, gcF, gcD]) ⟨by decide, by decide⟩ hf (fun hf => m_X7_addDevice hfl hf)) rfl rfl (fun E g9 h9 => by
    by_cases e9 : E = "java/lang/IllegalArgumentException"
    · subst e9
      rw [if_pos rfl] at h9
      exact gx_catch (name := "java/lang/IllegalArgumentException") (pre := []) (x := ⟨0, 12, 15, 13⟩) (suf := [⟨0, 12, 19, 15⟩]) C ht (fun z hz => nomatch hz) (by decide) (by decide) tw_224 (by decide +kernel) (fun q9 => gg_astore (L' := [some (va_rf v0), some (.int v1), some (.int v2), some (.int v3), some (va_rf v4), some (va_rf (some q9))]) C dL_addDevice_15 (Or.inr (Or.inr ⟨_, rfl, gcat _⟩)) (by decide) rfl (gg_iconst (v := (1 : Int32)) C dL_addDevice_17 (by decide) (gg_iret C hr (by decide) (by decide) dL_addDevice_18 rfl h9)))
    rw [if_neg e9] at h9
    by_cases e9 : E = "java/lang/IllegalStateException"
    · subst e9
      rw [if_pos rfl] at h9
      exact gx_catch (name := "java/lang/IllegalStateException") (pre := [⟨0, 12, 15, 13⟩]) (x := ⟨0, 12, 19, 15⟩) (suf := []) C ht (by intro z hz; simp only [List.mem_cons, List.not_mem_nil, or_false] at hz; rcases hz with rfl <;> first | exact Or.inr ⟨by decide, "java/lang/IllegalArgumentException", tw_224, by decide +kernel⟩) (by decide) (by decide) tw_225 (by decide +kernel) (fun q9 => gg_astore (L' := [some (va_rf v0), some (.int v1), some (.int v2), some (.int v3), some (va_rf v4), some (va_rf (some q9))]) C dL_addDevice_19 (Or.inr (Or.inr ⟨_, rfl, gcat _⟩)) (by decide) rfl (gg_iconst (v := (2 : Int32)) C dL_addDevice_21 (by decide) (gg_iret C hr (by decide) (by decide) dL_addDevice_22 rfl h9)))
    rw [if_neg e9] at h9
    exact h9.elim) (fun i2 g1 hf => ?_)
  refine gg_i2l C dL_addDevice_10 ?_
  refine gg_last C dL_addDevice_11 hf (fun g3 hf => ?_)
  refine gg_goto (tgt := 23) C dL_addDevice_12 (by decide) ?_
  refine gg_iconst C dL_addDevice_23 (v := (0 : Int32)) (by decide) ?_
  exact gg_iret C hr (by decide) (by decide) dL_addDevice_24 rfl hf

def w_L_addBuild (X : Cx) (post : Int32 → GM → Prop) (px : String → GM → Prop) (v0 : Option Nat) (v1 : Int32) (v2 : Int32) (v3 : Int32) (v4 : Int32) (v5 : Int32) (v6 : Int32) (v7 : Option Nat) (g : GM) : Prop :=
  wIs g v0 7 (w_X7_addBuild X (fun (i2 : Int32) (g1 : GM) => wAstJ g1 v7 (0 : Int32) ((i2).toInt64) (fun g3 => post (0 : Int32) g3)) (fun E g9 => if E = "java/lang/IllegalArgumentException" then post (1 : Int32) g9 else (if E = "java/lang/IllegalStateException" then post (2 : Int32) g9 else (False))) v0 v1 v2 v3 v4 v5 v6 g)
abbrev rm_L_addBuild : Room := { frames := 9, cells := 5, slots := 186, locals := 263 }
set_option maxHeartbeats 4000000 in
set_option maxRecDepth 100000 in
theorem m_L_addBuild {X : Cx} {l : Launch} (hfl : l.stackTraces = false) {post : Int32 → GM → Prop} {px : String → GM → Prop} {v0 : Option Nat} {v1 : Int32} {v2 : Int32} {v3 : Int32} {v4 : Int32} {v5 : Int32} {v6 : Int32} {v7 : Option Nat} {g : GM} (hf : w_L_addBuild X post px v0 v1 v2 v3 v4 v5 v6 v7 g) : vx_Met l yL_addBuild (.codeWith yL_addBuild cL_addBuild 9 (some .int) [(0, 18, 21, 13), (0, 18, 25, 15)] :: TBL) rm_L_addBuild (gPc X [va_rf v0, .int v1, .int v2, .int v3, .int v4, .int v5, .int v6, va_rf v7] g) (qI X post) (gXC X px) rm_L_addBuild.cells rm_L_addBuild.slots (gA X) := by
  refine gg_enterW (hh := [(0, 18, 21, 13), (0, 18, 25, 15)]) (L := [some (va_rf v0), some (.int v1), some (.int v2), some (.int v3), some (.int v4), some (.int v5), some (.int v6), some (va_rf v7), none]) hfl (by decide +kernel) (by simp [lg_sl, gcat, gcI, gcL, gcF, gcD]) (by simp [gll, lv_args, gcat, gcI, gcL, gcF, gcD]) ?_
  intro p e s m args below meth c C hr ht
  have C : FC X p l s m args meth c cL_addBuild 9 "ReleasetrainLaw" := C
  unfold w_L_addBuild at hf
  refine gg_aload C dL_addBuild_0 rfl ?_
  refine gg_iconst C dL_addBuild_2 (v := (0 : Int32)) (by decide) ?_
  refine gg_aload_n C dL_addBuild_3 rfl ?_
  refine gg_iload_n C dL_addBuild_4 rfl ?_
  refine gg_iload_n C dL_addBuild_5 rfl ?_
  refine gg_iload_n C dL_addBuild_6 rfl ?_
  refine gg_iload C dL_addBuild_7 rfl ?_
  refine gg_iload C dL_addBuild_9 rfl ?_
  refine gg_iload C dL_addBuild_11 rfl ?_
  refine gr_I (k' := 5) (n' := 186) (gk_V (ci := 7) (As := [.int v1, .int v2, .int v3, .int v4, .int v5, .int v6]) (rest := [.int (0 : Int32), va_rf v7]) C dL_addBuild_13 rfl rfl tw_478 tw_479 tw_480 tw_47 tw_481 gd_X7_addBuild rfl ⟨by decide, by decide⟩ (by simp [gcat, gcI, gcL, gcF, gcD]) ⟨by decide, by decide⟩ hf (fun hf => m_X7_addBuild hfl hf)) rfl rfl (fun E g9 h9 => by
    by_cases e9 : E = "java/lang/IllegalArgumentException"
    · subst e9
      rw [if_pos rfl] at h9
      exact gx_catch (name := "java/lang/IllegalArgumentException") (pre := []) (x := ⟨0, 18, 21, 13⟩) (suf := [⟨0, 18, 25, 15⟩]) C ht (fun z hz => nomatch hz) (by decide) (by decide) tw_224 (by decide +kernel) (fun q9 => gg_astore (L' := [some (va_rf v0), some (.int v1), some (.int v2), some (.int v3), some (.int v4), some (.int v5), some (.int v6), some (va_rf v7), some (va_rf (some q9))]) C dL_addBuild_21 (Or.inr (Or.inr ⟨_, rfl, gcat _⟩)) (by decide) rfl (gg_iconst (v := (1 : Int32)) C dL_addBuild_23 (by decide) (gg_iret C hr (by decide) (by decide) dL_addBuild_24 rfl h9)))
    rw [if_neg e9] at h9
    by_cases e9 : E = "java/lang/IllegalStateException"
    · subst e9
      rw [if_pos rfl] at h9
      exact gx_catch (name := "java/lang/IllegalStateException") (pre := [⟨0, 18, 21, 13⟩]) (x := ⟨0, 18, 25, 15⟩) (suf := []) C ht (by intro z hz; simp only [List.mem_cons, List.not_mem_nil, or_false] at hz; rcases hz with rfl <;> first | exact Or.inr ⟨by decide, "java/lang/IllegalArgumentException", tw_224, by decide +kernel⟩) (by decide) (by decide) tw_225 (by decide +kernel) (fun q9 => gg_astore (L' := [some (va_rf v0), some (.int v1), some (.int v2), some (.int v3), some (.int v4), some (.int v5), some (.int v6), some (va_rf v7), some (va_rf (some q9))]) C dL_addBuild_25 (Or.inr (Or.inr ⟨_, rfl, gcat _⟩)) (by decide) rfl (gg_iconst (v := (2 : Int32)) C dL_addBuild_27 (by decide) (gg_iret C hr (by decide) (by decide) dL_addBuild_28 rfl h9)))
    rw [if_neg e9] at h9
    exact h9.elim) (fun i2 g1 hf => ?_)
  refine gg_i2l C dL_addBuild_16 ?_
  refine gg_last C dL_addBuild_17 hf (fun g3 hf => ?_)
  refine gg_goto (tgt := 29) C dL_addBuild_18 (by decide) ?_
  refine gg_iconst C dL_addBuild_29 (v := (0 : Int32)) (by decide) ?_
  exact gg_iret C hr (by decide) (by decide) dL_addBuild_30 rfl hf

def w_L_addFix (X : Cx) (post : Int32 → GM → Prop) (px : String → GM → Prop) (v0 : Option Nat) (v1 : Int32) (v2 : Int32) (v3 : Int32) (v4 : Int32) (v5 : Option Nat) (g : GM) : Prop :=
  wIs g v0 7 (w_X7_addFix X (fun (i2 : Int32) (g1 : GM) => wAstJ g1 v5 (0 : Int32) ((i2).toInt64) (fun g3 => post (0 : Int32) g3)) (fun E g9 => if E = "java/util/NoSuchElementException" then post (1 : Int32) g9 else (if E = "java/lang/IllegalArgumentException" then post (2 : Int32) g9 else (if E = "java/lang/IllegalStateException" then post (3 : Int32) g9 else (False)))) v0 v1 v2 v3 v4 g)
abbrev rm_L_addFix : Room := { frames := 9, cells := 5, slots := 189, locals := 262 }
set_option maxHeartbeats 4000000 in
set_option maxRecDepth 100000 in
theorem m_L_addFix {X : Cx} {l : Launch} (hfl : l.stackTraces = false) {post : Int32 → GM → Prop} {px : String → GM → Prop} {v0 : Option Nat} {v1 : Int32} {v2 : Int32} {v3 : Int32} {v4 : Int32} {v5 : Option Nat} {g : GM} (hf : w_L_addFix X post px v0 v1 v2 v3 v4 v5 g) : vx_Met l yL_addFix (.codeWith yL_addFix cL_addFix 7 (some .int) [(0, 14, 17, 25), (0, 14, 21, 13), (0, 14, 25, 15)] :: TBL) rm_L_addFix (gPc X [va_rf v0, .int v1, .int v2, .int v3, .int v4, va_rf v5] g) (qI X post) (gXC X px) rm_L_addFix.cells rm_L_addFix.slots (gA X) := by
  refine gg_enterW (hh := [(0, 14, 17, 25), (0, 14, 21, 13), (0, 14, 25, 15)]) (L := [some (va_rf v0), some (.int v1), some (.int v2), some (.int v3), some (.int v4), some (va_rf v5), none]) hfl (by decide +kernel) (by simp [lg_sl, gcat, gcI, gcL, gcF, gcD]) (by simp [gll, lv_args, gcat, gcI, gcL, gcF, gcD]) ?_
  intro p e s m args below meth c C hr ht
  have C : FC X p l s m args meth c cL_addFix 7 "ReleasetrainLaw" := C
  unfold w_L_addFix at hf
  refine gg_aload C dL_addFix_0 rfl ?_
  refine gg_iconst C dL_addFix_2 (v := (0 : Int32)) (by decide) ?_
  refine gg_aload_n C dL_addFix_3 rfl ?_
  refine gg_iload_n C dL_addFix_4 rfl ?_
  refine gg_iload_n C dL_addFix_5 rfl ?_
  refine gg_iload_n C dL_addFix_6 rfl ?_
  refine gg_iload C dL_addFix_7 rfl ?_
  refine gr_I (k' := 5) (n' := 189) (gk_V (ci := 7) (As := [.int v1, .int v2, .int v3, .int v4]) (rest := [.int (0 : Int32), va_rf v5]) C dL_addFix_9 rfl rfl tw_587 tw_588 tw_589 tw_47 tw_590 gd_X7_addFix rfl ⟨by decide, by decide⟩ (by simp [gcat, gcI, gcL, gcF, gcD]) ⟨by decide, by decide⟩ hf (fun hf => m_X7_addFix hfl hf)) rfl rfl (fun E g9 h9 => by
    by_cases e9 : E = "java/util/NoSuchElementException"
    · subst e9
      rw [if_pos rfl] at h9
      exact gx_catch (name := "java/util/NoSuchElementException") (pre := []) (x := ⟨0, 14, 17, 25⟩) (suf := [⟨0, 14, 21, 13⟩, ⟨0, 14, 25, 15⟩]) C ht (fun z hz => nomatch hz) (by decide) (by decide) tw_586 (by decide +kernel) (fun q9 => gg_astore (L' := [some (va_rf v0), some (.int v1), some (.int v2), some (.int v3), some (.int v4), some (va_rf v5), some (va_rf (some q9))]) C dL_addFix_17 (Or.inr (Or.inr ⟨_, rfl, gcat _⟩)) (by decide) rfl (gg_iconst (v := (1 : Int32)) C dL_addFix_19 (by decide) (gg_iret C hr (by decide) (by decide) dL_addFix_20 rfl h9)))
    rw [if_neg e9] at h9
    by_cases e9 : E = "java/lang/IllegalArgumentException"
    · subst e9
      rw [if_pos rfl] at h9
      exact gx_catch (name := "java/lang/IllegalArgumentException") (pre := [⟨0, 14, 17, 25⟩]) (x := ⟨0, 14, 21, 13⟩) (suf := [⟨0, 14, 25, 15⟩]) C ht (by intro z hz; simp only [List.mem_cons, List.not_mem_nil, or_false] at hz; rcases hz with rfl <;> first | exact Or.inr ⟨by decide, "java/util/NoSuchElementException", tw_586, by decide +kernel⟩) (by decide) (by decide) tw_224 (by decide +kernel) (fun q9 => gg_astore (L' := [some (va_rf v0), some (.int v1), some (.int v2), some (.int v3), some (.int v4), some (va_rf v5), some (va_rf (some q9))]) C dL_addFix_21 (Or.inr (Or.inr ⟨_, rfl, gcat _⟩)) (by decide) rfl (gg_iconst (v := (2 : Int32)) C dL_addFix_23 (by decide) (gg_iret C hr (by decide) (by decide) dL_addFix_24 rfl h9)))
    rw [if_neg e9] at h9
    by_cases e9 : E = "java/lang/IllegalStateException"
    · subst e9
      rw [if_pos rfl] at h9
      exact gx_catch (name := "java/lang/IllegalStateException") (pre := [⟨0, 14, 17, 25⟩, ⟨0, 14, 21, 13⟩]) (x := ⟨0, 14, 25, 15⟩) (suf := []) C ht (by intro z hz; simp only [List.mem_cons, List.not_mem_nil, or_false] at hz; rcases hz with rfl | rfl <;> first | exact Or.inr ⟨by decide, "java/util/NoSuchElementException", tw_586, by decide +kernel⟩ | exact Or.inr ⟨by decide, "java/lang/IllegalArgumentException", tw_224, by decide +kernel⟩) (by decide) (by decide) tw_225 (by decide +kernel) (fun q9 => gg_astore (L' := [some (va_rf v0), some (.int v1), some (.int v2), some (.int v3), some (.int v4), some (va_rf v5), some (va_rf (some q9))]) C dL_addFix_25 (Or.inr (Or.inr ⟨_, rfl, gcat _⟩)) (by decide) rfl (gg_iconst (v := (3 : Int32)) C dL_addFix_27 (by decide) (gg_iret C hr (by decide) (by decide) dL_addFix_28 rfl h9)))
    rw [if_neg e9] at h9
    exact h9.elim) (fun i2 g1 hf => ?_)
  refine gg_i2l C dL_addFix_12 ?_
  refine gg_last C dL_addFix_13 hf (fun g3 hf => ?_)
  refine gg_goto (tgt := 29) C dL_addFix_14 (by decide) ?_
  refine gg_iconst C dL_addFix_29 (v := (0 : Int32)) (by decide) ?_
  exact gg_iret C hr (by decide) (by decide) dL_addFix_30 rfl hf

def w_L_submit (X : Cx) (post : Int32 → GM → Prop) (px : String → GM → Prop) (v0 : Option Nat) (v1 : Int32) (v2 : Option Nat) (g : GM) : Prop :=
  wIs g v0 7 (w_X7_submit X (fun (i2 : Int32) (g1 : GM) => wAstJ g1 v2 (0 : Int32) ((i2).toInt64) (fun g3 => post (0 : Int32) g3)) (fun E g9 => if E = "java/util/NoSuchElementException" then post (1 : Int32) g9 else (if E = "java/lang/IllegalStateException" then post (2 : Int32) g9 else (False))) v0 v1 g)
abbrev rm_L_submit : Room := { frames := 8, cells := 2, slots := 12, locals := 125 }
set_option maxHeartbeats 4000000 in
set_option maxRecDepth 100000 in
theorem m_L_submit {X : Cx} {l : Launch} (hfl : l.stackTraces = false) {post : Int32 → GM → Prop} {px : String → GM → Prop} {v0 : Option Nat} {v1 : Int32} {v2 : Option Nat} {g : GM} (hf : w_L_submit X post px v0 v1 v2 g) : vx_Met l yL_submit (.codeWith yL_submit cL_submit 4 (some .int) [(0, 9, 12, 25), (0, 9, 15, 15)] :: TBL) rm_L_submit (gPc X [va_rf v0, .int v1, va_rf v2] g) (qI X post) (gXC X px) rm_L_submit.cells rm_L_submit.slots (gA X) := by
  refine gg_enterW (hh := [(0, 9, 12, 25), (0, 9, 15, 15)]) (L := [some (va_rf v0), some (.int v1), some (va_rf v2), none]) hfl (by decide +kernel) (by simp [lg_sl, gcat, gcI, gcL, gcF, gcD]) (by simp [gll, lv_args, gcat, gcI, gcL, gcF, gcD]) ?_
  intro p e s m args below meth c C hr ht
  have C : FC X p l s m args meth c cL_submit 4 "ReleasetrainLaw" := C
  unfold w_L_submit at hf
  refine gg_aload_n C dL_submit_0 rfl ?_
  refine gg_iconst C dL_submit_1 (v := (0 : Int32)) (by decide) ?_
  refine gg_aload_n C dL_submit_2 rfl ?_
  refine gg_iload_n C dL_submit_3 rfl ?_
  refine gr_I (k' := 2) (n' := 12) (gk_V (ci := 7) (As := [.int v1]) (rest := [.int (0 : Int32), va_rf v2]) C dL_submit_4 rfl rfl tw_614 tw_615 tw_616 tw_47 tw_617 gd_X7_submit rfl ⟨by decide, by decide⟩ (by simp [gcat, gcI, gcL, gcF, gcD]) ⟨by decide, by decide⟩ hf (fun hf => m_X7_submit hfl hf)) rfl rfl (fun E g9 h9 => by
    by_cases e9 : E = "java/util/NoSuchElementException"
    · subst e9
      rw [if_pos rfl] at h9
      exact gx_catch (name := "java/util/NoSuchElementException") (pre := []) (x := ⟨0, 9, 12, 25⟩) (suf := [⟨0, 9, 15, 15⟩]) C ht (fun z hz => nomatch hz) (by decide) (by decide) tw_586 (by decide +kernel) (fun q9 => gg_astore_n (L' := [some (va_rf v0), some (.int v1), some (va_rf v2), some (va_rf (some q9))]) C dL_submit_12 (Or.inr (Or.inr ⟨_, rfl, gcat _⟩)) (by decide) rfl (gg_iconst (v := (1 : Int32)) C dL_submit_13 (by decide) (gg_iret C hr (by decide) (by decide) dL_submit_14 rfl h9)))
    rw [if_neg e9] at h9
    by_cases e9 : E = "java/lang/IllegalStateException"
    · subst e9
      rw [if_pos rfl] at h9
      exact gx_catch (name := "java/lang/IllegalStateException") (pre := [⟨0, 9, 12, 25⟩]) (x := ⟨0, 9, 15, 15⟩) (suf := []) C ht (by intro z hz; simp only [List.mem_cons, List.not_mem_nil, or_false] at hz; rcases hz with rfl <;> first | exact Or.inr ⟨by decide, "java/util/NoSuchElementException", tw_586, by decide +kernel⟩) (by decide) (by decide) tw_225 (by decide +kernel) (fun q9 => gg_astore_n (L' := [some (va_rf v0), some (.int v1), some (va_rf v2), some (va_rf (some q9))]) C dL_submit_15 (Or.inr (Or.inr ⟨_, rfl, gcat _⟩)) (by decide) rfl (gg_iconst (v := (2 : Int32)) C dL_submit_16 (by decide) (gg_iret C hr (by decide) (by decide) dL_submit_17 rfl h9)))
    rw [if_neg e9] at h9
    exact h9.elim) (fun i2 g1 hf => ?_)
  refine gg_i2l C dL_submit_7 ?_
  refine gg_last C dL_submit_8 hf (fun g3 hf => ?_)
  refine gg_goto (tgt := 18) C dL_submit_9 (by decide) ?_
  refine gg_iconst C dL_submit_18 (v := (0 : Int32)) (by decide) ?_
  exact gg_iret C hr (by decide) (by decide) dL_submit_19 rfl hf

def w_L_nextInReview (X : Cx) (post : Int32 → GM → Prop) (px : String → GM → Prop) (v0 : Option Nat) (v1 : Option Nat) (g : GM) : Prop :=
  wIs g v0 7 (w_X7_nextInReview X (fun (i2 : Int32) (g1 : GM) => wAstJ g1 v1 (0 : Int32) ((i2).toInt64) (fun g3 => post (0 : Int32) g3)) (fun E g9 => if E = "java/lang/IllegalStateException" then post (1 : Int32) g9 else (False)) v0 g)
abbrev rm_L_nextInReview : Room := { frames := 8, cells := 1, slots := 6, locals := 125 }
set_option maxHeartbeats 4000000 in
set_option maxRecDepth 100000 in
theorem m_L_nextInReview {X : Cx} {l : Launch} (hfl : l.stackTraces = false) {post : Int32 → GM → Prop} {px : String → GM → Prop} {v0 : Option Nat} {v1 : Option Nat} {g : GM} (hf : w_L_nextInReview X post px v0 v1 g) : vx_Met l yL_nextInReview (.codeWith yL_nextInReview cL_nextInReview 3 (some .int) [(0, 8, 11, 15)] :: TBL) rm_L_nextInReview (gPc X [va_rf v0, va_rf v1] g) (qI X post) (gXC X px) rm_L_nextInReview.cells rm_L_nextInReview.slots (gA X) := by
  refine gg_enterW (hh := [(0, 8, 11, 15)]) (L := [some (va_rf v0), some (va_rf v1), none]) hfl (by decide +kernel) (by simp [lg_sl, gcat, gcI, gcL, gcF, gcD]) (by simp [gll, lv_args, gcat, gcI, gcL, gcF, gcD]) ?_
  intro p e s m args below meth c C hr ht
  have C : FC X p l s m args meth c cL_nextInReview 3 "ReleasetrainLaw" := C
  unfold w_L_nextInReview at hf
  refine gg_aload_n C dL_nextInReview_0 rfl ?_
  refine gg_iconst C dL_nextInReview_1 (v := (0 : Int32)) (by decide) ?_
  refine gg_aload_n C dL_nextInReview_2 rfl ?_
  refine gr_I (k' := 1) (n' := 6) (gk_V (ci := 7) (As := []) (rest := [.int (0 : Int32), va_rf v1]) C dL_nextInReview_3 rfl rfl tw_630 tw_631 tw_632 tw_47 tw_633 gd_X7_nextInReview rfl ⟨by decide, by decide⟩ (by simp [gcat, gcI, gcL, gcF, gcD]) ⟨by decide, by decide⟩ hf (fun hf => m_X7_nextInReview hfl hf)) rfl rfl (fun E g9 h9 => by
    by_cases e9 : E = "java/lang/IllegalStateException"
    · subst e9
      rw [if_pos rfl] at h9
      exact gx_catch (name := "java/lang/IllegalStateException") (pre := []) (x := ⟨0, 8, 11, 15⟩) (suf := []) C ht (fun z hz => nomatch hz) (by decide) (by decide) tw_225 (by decide +kernel) (fun q9 => gg_astore_n (L' := [some (va_rf v0), some (va_rf v1), some (va_rf (some q9))]) C dL_nextInReview_11 (Or.inr (Or.inr ⟨_, rfl, gcat _⟩)) (by decide) rfl (gg_iconst (v := (1 : Int32)) C dL_nextInReview_12 (by decide) (gg_iret C hr (by decide) (by decide) dL_nextInReview_13 rfl h9)))
    rw [if_neg e9] at h9
    exact h9.elim) (fun i2 g1 hf => ?_)
  refine gg_i2l C dL_nextInReview_6 ?_
  refine gg_last C dL_nextInReview_7 hf (fun g3 hf => ?_)
  refine gg_goto (tgt := 14) C dL_nextInReview_8 (by decide) ?_
  refine gg_iconst C dL_nextInReview_14 (v := (0 : Int32)) (by decide) ?_
  exact gg_iret C hr (by decide) (by decide) dL_nextInReview_15 rfl hf

def w_L_review (X : Cx) (post : Int32 → GM → Prop) (px : String → GM → Prop) (v0 : Option Nat) (v1 : Option Nat) (g : GM) : Prop :=
  wIs g v0 7 (w_X7_review X (fun (i2 : Int32) (g1 : GM) => wAstJ g1 v1 (0 : Int32) ((i2).toInt64) (fun g3 => post (0 : Int32) g3)) (fun E g9 => if E = "java/lang/IllegalStateException" then post (1 : Int32) g9 else (False)) v0 g)
abbrev rm_L_review : Room := { frames := 8, cells := 1, slots := 6, locals := 127 }
set_option maxHeartbeats 4000000 in
set_option maxRecDepth 100000 in
theorem m_L_review {X : Cx} {l : Launch} (hfl : l.stackTraces = false) {post : Int32 → GM → Prop} {px : String → GM → Prop} {v0 : Option Nat} {v1 : Option Nat} {g : GM} (hf : w_L_review X post px v0 v1 g) : vx_Met l yL_review (.codeWith yL_review cL_review 3 (some .int) [(0, 8, 11, 15)] :: TBL) rm_L_review (gPc X [va_rf v0, va_rf v1] g) (qI X post) (gXC X px) rm_L_review.cells rm_L_review.slots (gA X) := by
  refine gg_enterW (hh := [(0, 8, 11, 15)]) (L := [some (va_rf v0), some (va_rf v1), none]) hfl (by decide +kernel) (by simp [lg_sl, gcat, gcI, gcL, gcF, gcD]) (by simp [gll, lv_args, gcat, gcI, gcL, gcF, gcD]) ?_
  intro p e s m args below meth c C hr ht
  have C : FC X p l s m args meth c cL_review 3 "ReleasetrainLaw" := C
  unfold w_L_review at hf
  refine gg_aload_n C dL_review_0 rfl ?_
  refine gg_iconst C dL_review_1 (v := (0 : Int32)) (by decide) ?_
  refine gg_aload_n C dL_review_2 rfl ?_
  refine gr_I (k' := 1) (n' := 6) (gk_V (ci := 7) (As := []) (rest := [.int (0 : Int32), va_rf v1]) C dL_review_3 rfl rfl tw_650 tw_651 tw_652 tw_47 tw_653 gd_X7_review rfl ⟨by decide, by decide⟩ (by simp [gcat, gcI, gcL, gcF, gcD]) ⟨by decide, by decide⟩ hf (fun hf => m_X7_review hfl hf)) rfl rfl (fun E g9 h9 => by
    by_cases e9 : E = "java/lang/IllegalStateException"
    · subst e9
      rw [if_pos rfl] at h9
      exact gx_catch (name := "java/lang/IllegalStateException") (pre := []) (x := ⟨0, 8, 11, 15⟩) (suf := []) C ht (fun z hz => nomatch hz) (by decide) (by decide) tw_225 (by decide +kernel) (fun q9 => gg_astore_n (L' := [some (va_rf v0), some (va_rf v1), some (va_rf (some q9))]) C dL_review_11 (Or.inr (Or.inr ⟨_, rfl, gcat _⟩)) (by decide) rfl (gg_iconst (v := (1 : Int32)) C dL_review_12 (by decide) (gg_iret C hr (by decide) (by decide) dL_review_13 rfl h9)))
    rw [if_neg e9] at h9
    exact h9.elim) (fun i2 g1 hf => ?_)
  refine gg_i2l C dL_review_6 ?_
  refine gg_last C dL_review_7 hf (fun g3 hf => ?_)
  refine gg_goto (tgt := 14) C dL_review_8 (by decide) ?_
  refine gg_iconst C dL_review_14 (v := (0 : Int32)) (by decide) ?_
  exact gg_iret C hr (by decide) (by decide) dL_review_15 rfl hf

def w_L_appeal (X : Cx) (post : Int32 → GM → Prop) (px : String → GM → Prop) (v0 : Option Nat) (v1 : Int32) (v2 : Option Nat) (g : GM) : Prop :=
  wIs g v0 7 (w_X7_appeal X (fun (i2 : Int32) (g1 : GM) => wAstJ g1 v2 (0 : Int32) ((i2).toInt64) (fun g3 => post (0 : Int32) g3)) (fun E g9 => if E = "java/util/NoSuchElementException" then post (1 : Int32) g9 else (if E = "java/lang/IllegalStateException" then post (2 : Int32) g9 else (False))) v0 v1 g)
abbrev rm_L_appeal : Room := { frames := 8, cells := 2, slots := 12, locals := 125 }
set_option maxHeartbeats 4000000 in
set_option maxRecDepth 100000 in
theorem m_L_appeal {X : Cx} {l : Launch} (hfl : l.stackTraces = false) {post : Int32 → GM → Prop} {px : String → GM → Prop} {v0 : Option Nat} {v1 : Int32} {v2 : Option Nat} {g : GM} (hf : w_L_appeal X post px v0 v1 v2 g) : vx_Met l yL_appeal (.codeWith yL_appeal cL_appeal 4 (some .int) [(0, 9, 12, 25), (0, 9, 15, 15)] :: TBL) rm_L_appeal (gPc X [va_rf v0, .int v1, va_rf v2] g) (qI X post) (gXC X px) rm_L_appeal.cells rm_L_appeal.slots (gA X) := by
  refine gg_enterW (hh := [(0, 9, 12, 25), (0, 9, 15, 15)]) (L := [some (va_rf v0), some (.int v1), some (va_rf v2), none]) hfl (by decide +kernel) (by simp [lg_sl, gcat, gcI, gcL, gcF, gcD]) (by simp [gll, lv_args, gcat, gcI, gcL, gcF, gcD]) ?_
  intro p e s m args below meth c C hr ht
  have C : FC X p l s m args meth c cL_appeal 4 "ReleasetrainLaw" := C
  unfold w_L_appeal at hf
  refine gg_aload_n C dL_appeal_0 rfl ?_
  refine gg_iconst C dL_appeal_1 (v := (0 : Int32)) (by decide) ?_
  refine gg_aload_n C dL_appeal_2 rfl ?_
  refine gg_iload_n C dL_appeal_3 rfl ?_
  refine gr_I (k' := 2) (n' := 12) (gk_V (ci := 7) (As := [.int v1]) (rest := [.int (0 : Int32), va_rf v2]) C dL_appeal_4 rfl rfl tw_661 tw_662 tw_663 tw_47 tw_664 gd_X7_appeal rfl ⟨by decide, by decide⟩ (by simp [gcat, gcI, gcL, gcF, gcD]) ⟨by decide, by decide⟩ hf (fun hf => m_X7_appeal hfl hf)) rfl rfl (fun E g9 h9 => by
    by_cases e9 : E = "java/util/NoSuchElementException"
    · subst e9
      rw [if_pos rfl] at h9
      exact gx_catch (name := "java/util/NoSuchElementException") (pre := []) (x := ⟨0, 9, 12, 25⟩) (suf := [⟨0, 9, 15, 15⟩]) C ht (fun z hz => nomatch hz) (by decide) (by decide) tw_586 (by decide +kernel) (fun q9 => gg_astore_n (L' := [some (va_rf v0), some (.int v1), some (va_rf v2), some (va_rf (some q9))]) C dL_appeal_12 (Or.inr (Or.inr ⟨_, rfl, gcat _⟩)) (by decide) rfl (gg_iconst (v := (1 : Int32)) C dL_appeal_13 (by decide) (gg_iret C hr (by decide) (by decide) dL_appeal_14 rfl h9)))
    rw [if_neg e9] at h9
    by_cases e9 : E = "java/lang/IllegalStateException"
    · subst e9
      rw [if_pos rfl] at h9
      exact gx_catch (name := "java/lang/IllegalStateException") (pre := [⟨0, 9, 12, 25⟩]) (x := ⟨0, 9, 15, 15⟩) (suf := []) C ht (by intro z hz; simp only [List.mem_cons, List.not_mem_nil, or_false] at hz; rcases hz with rfl <;> first | exact Or.inr ⟨by decide, "java/util/NoSuchElementException", tw_586, by decide +kernel⟩) (by decide) (by decide) tw_225 (by decide +kernel) (fun q9 => gg_astore_n (L' := [some (va_rf v0), some (.int v1), some (va_rf v2), some (va_rf (some q9))]) C dL_appeal_15 (Or.inr (Or.inr ⟨_, rfl, gcat _⟩)) (by decide) rfl (gg_iconst (v := (2 : Int32)) C dL_appeal_16 (by decide) (gg_iret C hr (by decide) (by decide) dL_appeal_17 rfl h9)))
    rw [if_neg e9] at h9
    exact h9.elim) (fun i2 g1 hf => ?_)
  refine gg_i2l C dL_appeal_7 ?_
  refine gg_last C dL_appeal_8 hf (fun g3 hf => ?_)
  refine gg_goto (tgt := 18) C dL_appeal_9 (by decide) ?_
  refine gg_iconst C dL_appeal_18 (v := (0 : Int32)) (by decide) ?_
  exact gg_iret C hr (by decide) (by decide) dL_appeal_19 rfl hf

def w_L_setSize (X : Cx) (post : Int32 → GM → Prop) (px : String → GM → Prop) (v0 : Option Nat) (v1 : Int32) (v2 : Option Nat) (g : GM) : Prop :=
  wIs g v0 7 (w_X7_setSize X (fun (i2 : Int32) (g1 : GM) => wAstJ g1 v2 (0 : Int32) ((i2).toInt64) (fun g3 => post (0 : Int32) g3)) (fun E g9 => if E = "java/lang/IllegalArgumentException" then post (1 : Int32) g9 else (False)) v0 v1 g)
abbrev rm_L_setSize : Room := { frames := 7, cells := 1, slots := 6, locals := 104 }
set_option maxHeartbeats 4000000 in
set_option maxRecDepth 100000 in
theorem m_L_setSize {X : Cx} {l : Launch} (hfl : l.stackTraces = false) {post : Int32 → GM → Prop} {px : String → GM → Prop} {v0 : Option Nat} {v1 : Int32} {v2 : Option Nat} {g : GM} (hf : w_L_setSize X post px v0 v1 v2 g) : vx_Met l yL_setSize (.codeWith yL_setSize cL_setSize 4 (some .int) [(0, 9, 12, 13)] :: TBL) rm_L_setSize (gPc X [va_rf v0, .int v1, va_rf v2] g) (qI X post) (gXC X px) rm_L_setSize.cells rm_L_setSize.slots (gA X) := by
  refine gg_enterW (hh := [(0, 9, 12, 13)]) (L := [some (va_rf v0), some (.int v1), some (va_rf v2), none]) hfl (by decide +kernel) (by simp [lg_sl, gcat, gcI, gcL, gcF, gcD]) (by simp [gll, lv_args, gcat, gcI, gcL, gcF, gcD]) ?_
  intro p e s m args below meth c C hr ht
  have C : FC X p l s m args meth c cL_setSize 4 "ReleasetrainLaw" := C
  unfold w_L_setSize at hf
  refine gg_aload_n C dL_setSize_0 rfl ?_
  refine gg_iconst C dL_setSize_1 (v := (0 : Int32)) (by decide) ?_
  refine gg_aload_n C dL_setSize_2 rfl ?_
  refine gg_iload_n C dL_setSize_3 rfl ?_
  refine gr_I (k' := 1) (n' := 6) (gk_V (ci := 7) (As := [.int v1]) (rest := [.int (0 : Int32), va_rf v2]) C dL_setSize_4 rfl rfl tw_669 tw_670 tw_671 tw_47 tw_672 gd_X7_setSize rfl ⟨by decide, by decide⟩ (by simp [gcat, gcI, gcL, gcF, gcD]) ⟨by decide, by decide⟩ hf (fun hf => m_X7_setSize hfl hf)) rfl rfl (fun E g9 h9 => by
    by_cases e9 : E = "java/lang/IllegalArgumentException"
    · subst e9
      rw [if_pos rfl] at h9
      exact gx_catch (name := "java/lang/IllegalArgumentException") (pre := []) (x := ⟨0, 9, 12, 13⟩) (suf := []) C ht (fun z hz => nomatch hz) (by decide) (by decide) tw_224 (by decide +kernel) (fun q9 => gg_astore_n (L' := [some (va_rf v0), some (.int v1), some (va_rf v2), some (va_rf (some q9))]) C dL_setSize_12 (Or.inr (Or.inr ⟨_, rfl, gcat _⟩)) (by decide) rfl (gg_iconst (v := (1 : Int32)) C dL_setSize_13 (by decide) (gg_iret C hr (by decide) (by decide) dL_setSize_14 rfl h9)))
    rw [if_neg e9] at h9
    exact h9.elim) (fun i2 g1 hf => ?_)
  refine gg_i2l C dL_setSize_7 ?_
  refine gg_last C dL_setSize_8 hf (fun g3 hf => ?_)
  refine gg_goto (tgt := 15) C dL_setSize_9 (by decide) ?_
  refine gg_iconst C dL_setSize_15 (v := (0 : Int32)) (by decide) ?_
  exact gg_iret C hr (by decide) (by decide) dL_setSize_16 rfl hf

def w_L_setBarred (X : Cx) (post : Int32 → GM → Prop) (px : String → GM → Prop) (v0 : Option Nat) (v1 : Int32) (v2 : Option Nat) (g : GM) : Prop :=
  wIs g v0 7 (w_X7_setBarred X (fun (i2 : Int32) (g1 : GM) => wAstJ g1 v2 (0 : Int32) ((i2).toInt64) (fun g3 => post (0 : Int32) g3)) (fun E g9 => if E = "java/lang/IllegalArgumentException" then post (1 : Int32) g9 else (False)) v0 v1 g)
abbrev rm_L_setBarred : Room := { frames := 7, cells := 1, slots := 6, locals := 104 }
set_option maxHeartbeats 4000000 in
set_option maxRecDepth 100000 in
theorem m_L_setBarred {X : Cx} {l : Launch} (hfl : l.stackTraces = false) {post : Int32 → GM → Prop} {px : String → GM → Prop} {v0 : Option Nat} {v1 : Int32} {v2 : Option Nat} {g : GM} (hf : w_L_setBarred X post px v0 v1 v2 g) : vx_Met l yL_setBarred (.codeWith yL_setBarred cL_setBarred 4 (some .int) [(0, 9, 12, 13)] :: TBL) rm_L_setBarred (gPc X [va_rf v0, .int v1, va_rf v2] g) (qI X post) (gXC X px) rm_L_setBarred.cells rm_L_setBarred.slots (gA X) := by
  refine gg_enterW (hh := [(0, 9, 12, 13)]) (L := [some (va_rf v0), some (.int v1), some (va_rf v2), none]) hfl (by decide +kernel) (by simp [lg_sl, gcat, gcI, gcL, gcF, gcD]) (by simp [gll, lv_args, gcat, gcI, gcL, gcF, gcD]) ?_
  intro p e s m args below meth c C hr ht
  have C : FC X p l s m args meth c cL_setBarred 4 "ReleasetrainLaw" := C
  unfold w_L_setBarred at hf
  refine gg_aload_n C dL_setBarred_0 rfl ?_
  refine gg_iconst C dL_setBarred_1 (v := (0 : Int32)) (by decide) ?_
  refine gg_aload_n C dL_setBarred_2 rfl ?_
  refine gg_iload_n C dL_setBarred_3 rfl ?_
  refine gr_I (k' := 1) (n' := 6) (gk_V (ci := 7) (As := [.int v1]) (rest := [.int (0 : Int32), va_rf v2]) C dL_setBarred_4 rfl rfl tw_677 tw_678 tw_679 tw_47 tw_680 gd_X7_setBarred rfl ⟨by decide, by decide⟩ (by simp [gcat, gcI, gcL, gcF, gcD]) ⟨by decide, by decide⟩ hf (fun hf => m_X7_setBarred hfl hf)) rfl rfl (fun E g9 h9 => by
    by_cases e9 : E = "java/lang/IllegalArgumentException"
    · subst e9
      rw [if_pos rfl] at h9
      exact gx_catch (name := "java/lang/IllegalArgumentException") (pre := []) (x := ⟨0, 9, 12, 13⟩) (suf := []) C ht (fun z hz => nomatch hz) (by decide) (by decide) tw_224 (by decide +kernel) (fun q9 => gg_astore_n (L' := [some (va_rf v0), some (.int v1), some (va_rf v2), some (va_rf (some q9))]) C dL_setBarred_12 (Or.inr (Or.inr ⟨_, rfl, gcat _⟩)) (by decide) rfl (gg_iconst (v := (1 : Int32)) C dL_setBarred_13 (by decide) (gg_iret C hr (by decide) (by decide) dL_setBarred_14 rfl h9)))
    rw [if_neg e9] at h9
    exact h9.elim) (fun i2 g1 hf => ?_)
  refine gg_i2l C dL_setBarred_7 ?_
  refine gg_last C dL_setBarred_8 hf (fun g3 hf => ?_)
  refine gg_goto (tgt := 15) C dL_setBarred_9 (by decide) ?_
  refine gg_iconst C dL_setBarred_15 (v := (0 : Int32)) (by decide) ?_
  exact gg_iret C hr (by decide) (by decide) dL_setBarred_16 rfl hf

def w_L_stateOf (X : Cx) (post : Int32 → GM → Prop) (px : String → GM → Prop) (v0 : Option Nat) (v1 : Int32) (v2 : Option Nat) (g : GM) : Prop :=
  wIs g v0 7 (w_X7_stateOf X (fun (i2 : Int32) (g1 : GM) => wAstJ g1 v2 (0 : Int32) ((i2).toInt64) (fun g3 => post (0 : Int32) g3)) (fun E g9 => if E = "java/util/NoSuchElementException" then post (1 : Int32) g9 else (False)) v0 v1 g)
abbrev rm_L_stateOf : Room := { frames := 8, cells := 1, slots := 6, locals := 124 }
set_option maxHeartbeats 4000000 in
set_option maxRecDepth 100000 in
theorem m_L_stateOf {X : Cx} {l : Launch} (hfl : l.stackTraces = false) {post : Int32 → GM → Prop} {px : String → GM → Prop} {v0 : Option Nat} {v1 : Int32} {v2 : Option Nat} {g : GM} (hf : w_L_stateOf X post px v0 v1 v2 g) : vx_Met l yL_stateOf (.codeWith yL_stateOf cL_stateOf 4 (some .int) [(0, 9, 12, 25)] :: TBL) rm_L_stateOf (gPc X [va_rf v0, .int v1, va_rf v2] g) (qI X post) (gXC X px) rm_L_stateOf.cells rm_L_stateOf.slots (gA X) := by
  refine gg_enterW (hh := [(0, 9, 12, 25)]) (L := [some (va_rf v0), some (.int v1), some (va_rf v2), none]) hfl (by decide +kernel) (by simp [lg_sl, gcat, gcI, gcL, gcF, gcD]) (by simp [gll, lv_args, gcat, gcI, gcL, gcF, gcD]) ?_
  intro p e s m args below meth c C hr ht
  have C : FC X p l s m args meth c cL_stateOf 4 "ReleasetrainLaw" := C
  unfold w_L_stateOf at hf
  refine gg_aload_n C dL_stateOf_0 rfl ?_
  refine gg_iconst C dL_stateOf_1 (v := (0 : Int32)) (by decide) ?_
  refine gg_aload_n C dL_stateOf_2 rfl ?_
  refine gg_iload_n C dL_stateOf_3 rfl ?_
  refine gr_I (k' := 1) (n' := 6) (gk_V (ci := 7) (As := [.int v1]) (rest := [.int (0 : Int32), va_rf v2]) C dL_stateOf_4 rfl rfl tw_685 tw_686 tw_687 tw_47 tw_688 gd_X7_stateOf rfl ⟨by decide, by decide⟩ (by simp [gcat, gcI, gcL, gcF, gcD]) ⟨by decide, by decide⟩ hf (fun hf => m_X7_stateOf hfl hf)) rfl rfl (fun E g9 h9 => by
    by_cases e9 : E = "java/util/NoSuchElementException"
    · subst e9
      rw [if_pos rfl] at h9
      exact gx_catch (name := "java/util/NoSuchElementException") (pre := []) (x := ⟨0, 9, 12, 25⟩) (suf := []) C ht (fun z hz => nomatch hz) (by decide) (by decide) tw_586 (by decide +kernel) (fun q9 => gg_astore_n (L' := [some (va_rf v0), some (.int v1), some (va_rf v2), some (va_rf (some q9))]) C dL_stateOf_12 (Or.inr (Or.inr ⟨_, rfl, gcat _⟩)) (by decide) rfl (gg_iconst (v := (1 : Int32)) C dL_stateOf_13 (by decide) (gg_iret C hr (by decide) (by decide) dL_stateOf_14 rfl h9)))
    rw [if_neg e9] at h9
    exact h9.elim) (fun i2 g1 hf => ?_)
  refine gg_i2l C dL_stateOf_7 ?_
  refine gg_last C dL_stateOf_8 hf (fun g3 hf => ?_)
  refine gg_goto (tgt := 15) C dL_stateOf_9 (by decide) ?_
  refine gg_iconst C dL_stateOf_15 (v := (0 : Int32)) (by decide) ?_
  exact gg_iret C hr (by decide) (by decide) dL_stateOf_16 rfl hf
