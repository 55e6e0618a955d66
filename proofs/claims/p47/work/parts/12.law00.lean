def w_L_isSound_b604 (X : Cx) (post : Int32 → GM → Prop) (px : String → GM → Prop)  (t0 : Int32) (g : GM) : Prop :=
  (narrow .boolean (.int t0) = .int t0 ∧ post t0 g)
def w_L_isSound_b603 (X : Cx) (post : Int32 → GM → Prop) (px : String → GM → Prop)   (g : GM) : Prop :=
  w_L_isSound_b604 X post px (0 : Int32) g
def w_L_isSound_b590 (X : Cx) (post : Int32 → GM → Prop) (px : String → GM → Prop)  (l0 : Option Nat) (g : GM) : Prop :=
  w_L_used X (fun (x14 : UInt32) (g13 : GM) => (if 0 < (Op.cmpValue (FP.fcmp x14 FP.fconst1) .g) then w_L_isSound_b603 X post px g13 else w_L_isSound_b604 X post px (1 : Int32) g13)) (fun _ _ => False) l0 g
def w_L_isSound_b540 (X : Cx) (post : Int32 → GM → Prop) (px : String → GM → Prop)   (g : GM) : Prop :=
  post (0 : Int32) g
def w_L_isSound_l449 (X : Cx) (post : Int32 → GM → Prop) (px : String → GM → Prop)  : Nat → Option Nat → Int32 → Int32 → Int32 → Int32 → Int32 → GM → Prop
  | 0, _, _, _, _, _, _, _ => False
  | f + 1, l0, l1, l3, l4, l5, l6, g => wIs g l0 7 (w_X7_groups X (fun (i6 : Int32) (g5 : GM) => (if i6 ≤ l6 then (if l3 = l4 then wIs g5 l0 7 (w_X7_groups X (fun (i8 : Int32) (g7 : GM) => (if i8 = 0 then w_L_asked X (fun (i16 : Int32) (g15 : GM) => (if i16 = (-1003 : Int32) then w_L_isSound_b590 X post px l0 g15 else w_L_isSound_b603 X post px g15)) (fun _ _ => False) l0 (2 : Int32) g7 else w_L_asked X (fun (i10 : Int32) (g9 : GM) => w_L_group X (fun (i12 : Int32) (g11 : GM) => (if i12 = l5 then w_L_isSound_b590 X post px l0 g11 else w_L_isSound_b603 X post px g11)) (fun _ _ => False) l0 i10 (-1 : Int32) g9) (fun _ _ => False) l0 (2 : Int32) g7)) (fun _ _ => False) l0 g5) else w_L_isSound_b603 X post px g5) else w_L_group X (fun (i18 : Int32) (g17 : GM) => w_L_group X (fun (i20 : Int32) (g19 : GM) => (if i20 < (1 : Int32) then w_L_isSound_b540 X post px g19 else w_L_group X (fun (i22 : Int32) (g21 : GM) => (if i22 < (1 : Int32) then w_L_isSound_b540 X post px g21 else w_L_group X (fun (i24 : Int32) (g23 : GM) => (if ((1 : Int32) <<< (l1 &&& 31)) ≤ i24 then w_L_isSound_b540 X post px g23 else w_L_like X (fun (x26 : UInt32) (g25 : GM) => (if (Op.cmpValue (FP.fcmp x26 FP.fconst1) .l) = 0 then w_L_like X (fun (x28 : UInt32) (g27 : GM) => w_L_like X (fun (x30 : UInt32) (g29 : GM) => (if (Op.cmpValue (FP.fcmp x28 x30) .l) = 0 then w_L_isSound_l449 X post px f l0 l1 l3 l4 (if l5 < i18 then i18 else l5) (l6 + 1) g29 else w_L_isSound_b540 X post px g29)) (fun _ _ => False) l0 (0 : Int32) l6 g27) (fun _ _ => False) l0 l6 (0 : Int32) g25 else w_L_isSound_b540 X post px g25)) (fun _ _ => False) l0 l6 l6 g23)) (fun _ _ => False) l0 l6 (-2 : Int32) g21)) (fun _ _ => False) l0 l6 (-2 : Int32) g19)) (fun _ _ => False) l0 l6 (-1 : Int32) g17) (fun _ _ => False) l0 l6 (-1 : Int32) g5)) (fun _ _ => False) l0 g)
def w_L_isSound_l399 (X : Cx) (post : Int32 → GM → Prop) (px : String → GM → Prop) (k329 : Option Nat → Int32 → Int32 → Int32 → Int32 → Int32 → GM → Prop) : Nat → Option Nat → Int32 → Int32 → Int32 → Int32 → Int32 → Int32 → GM → Prop
  | 0, _, _, _, _, _, _, _, _ => False
  | f + 1, l0, l1, l2, l3, l4, l5, l8, g => (if (8 : Int32) ≤ l8 then k329 l0 l1 l2 l3 l4 (l5 + 1) g else w_L_both X (fun (i36 : Int32) (g35 : GM) => w_L_both X (fun (i38 : Int32) (g37 : GM) => (if i36 ≤ i38 then w_L_isSound_l399 X post px k329 f l0 l1 l2 l3 l4 l5 (l8 + 1) g37 else post (0 : Int32) g37)) (fun _ _ => False) l0 (111 : Int32) l5 l8 g35) (fun _ _ => False) l0 (117 : Int32) l5 l8 g)
def w_L_isSound_b396 (X : Cx) (post : Int32 → GM → Prop) (px : String → GM → Prop) (k329 : Option Nat → Int32 → Int32 → Int32 → Int32 → Int32 → GM → Prop) (l0 : Option Nat) (l1 : Int32) (l2 : Int32) (l3 : Int32) (l4 : Int32) (l5 : Int32) (g : GM) : Prop :=
  w_L_isSound_l399 X post px k329 9 l0 l1 l2 l3 l4 l5 (0 : Int32) g
def w_L_isSound_b394 (X : Cx) (post : Int32 → GM → Prop) (px : String → GM → Prop)   (g : GM) : Prop :=
  post (0 : Int32) g
def w_L_isSound_b365 (X : Cx) (post : Int32 → GM → Prop) (px : String → GM → Prop) (k329 : Option Nat → Int32 → Int32 → Int32 → Int32 → Int32 → GM → Prop) (l0 : Option Nat) (l1 : Int32) (l2 : Int32) (l3 : Int32) (l5 : Int32) (l6 : Int32) (l7 : Int32) (t0 : Int32) (t1 : Int32) (g : GM) : Prop :=
  (if l6 < 0 then w_L_isSound_b396 X post px k329 l0 l1 l2 l3 (t1 + t0) l5 g else w_L_both X (fun (i40 : Int32) (g39 : GM) => (if i40 = (1 : Int32) then (if l6 = l7 then w_L_isSound_b394 X post px g39 else w_L_isSound_b396 X post px k329 l0 l1 l2 l3 (t1 + t0) l5 g39) else w_L_isSound_b394 X post px g39)) (fun _ _ => False) l0 (99 : Int32) l5 l6 g)
def w_L_isSound_l329 (X : Cx) (post : Int32 → GM → Prop) (px : String → GM → Prop)  : Nat → Option Nat → Int32 → Int32 → Int32 → Int32 → Int32 → GM → Prop
  | 0, _, _, _, _, _, _, _ => False
  | f + 1, l0, l1, l2, l3, l4, l5, g => (if l2 ≤ l5 then w_L_isSound_l449 X post px 31 l0 l1 l3 l4 (0 : Int32) (0 : Int32) g else w_L_device X (fun (i32 : Int32) (g31 : GM) => w_L_device X (fun (i34 : Int32) (g33 : GM) => (if i34 < 0 then w_L_isSound_b365 X post px (w_L_isSound_l329 X post px f) l0 l1 l2 l3 l5 i32 i34 (0 : Int32) l4 g33 else w_L_isSound_b365 X post px (w_L_isSound_l329 X post px f) l0 l1 l2 l3 l5 i32 i34 (1 : Int32) l4 g33)) (fun _ _ => False) l0 l5 (2 : Int32) g31) (fun _ _ => False) l0 l5 (0 : Int32) g)
def w_L_isSound_b233 (X : Cx) (post : Int32 → GM → Prop) (px : String → GM → Prop)   (g : GM) : Prop :=
  post (0 : Int32) g
def w_L_isSound_b315 (X : Cx) (post : Int32 → GM → Prop) (px : String → GM → Prop)   (g : GM) : Prop :=
  post (0 : Int32) g
def w_L_isSound_b300 (X : Cx) (post : Int32 → GM → Prop) (px : String → GM → Prop) (k15 : Option Nat → Int32 → Int32 → Int32 → Int32 → GM → Prop) (l0 : Option Nat) (l1 : Int32) (l2 : Int32) (l3 : Int32) (l4 : Int32) (t0 : Int32) (t1 : Int32) (g : GM) : Prop :=
  (if t1 = t0 then w_L_group X (fun (i66 : Int32) (g65 : GM) => (if i66 = (118 : Int32) then k15 l0 l1 l2 l3 (l4 + 1) g65 else w_L_isSound_b315 X post px g65)) (fun _ _ => False) l0 (-9 : Int32) (0 : Int32) g else w_L_isSound_b315 X post px g)
def w_L_isSound_b282 (X : Cx) (post : Int32 → GM → Prop) (px : String → GM → Prop) (k15 : Option Nat → Int32 → Int32 → Int32 → Int32 → GM → Prop) (l0 : Option Nat) (l1 : Int32) (l2 : Int32) (l3 : Int32) (l4 : Int32) (t0 : Int32) (g : GM) : Prop :=
  w_L_ratingBits X (fun (y64 : Int64) (g63 : GM) => (if (lg_cmp y64 (-1006 : Int64)) = 0 then w_L_isSound_b300 X post px k15 l0 l1 l2 l3 l4 (1 : Int32) t0 g63 else w_L_isSound_b300 X post px k15 l0 l1 l2 l3 l4 (0 : Int32) t0 g63)) (fun _ _ => False) l0 l4 g
def w_L_isSound_b268 (X : Cx) (post : Int32 → GM → Prop) (px : String → GM → Prop) (k15 : Option Nat → Int32 → Int32 → Int32 → Int32 → GM → Prop) (l0 : Option Nat) (l1 : Int32) (l2 : Int32) (l3 : Int32) (l4 : Int32) (l8 : UInt64) (g : GM) : Prop :=
  (if (Op.cmpValue (FP.dcmp l8 (13835058055282163712 : UInt64)) .l) = 0 then w_L_isSound_b282 X post px k15 l0 l1 l2 l3 l4 (1 : Int32) g else w_L_isSound_b282 X post px k15 l0 l1 l2 l3 l4 (0 : Int32) g)
def w_L_isSound_b187 (X : Cx) (post : Int32 → GM → Prop) (px : String → GM → Prop) (k15 : Option Nat → Int32 → Int32 → Int32 → Int32 → GM → Prop) (l0 : Option Nat) (l1 : Int32) (l2 : Int32) (l3 : Int32) (l4 : Int32) (l7 : Int32) (g : GM) : Prop :=
  w_L_ofq X (fun (i54 : Int32) (g53 : GM) => w_L_ofq X (fun (i56 : Int32) (g55 : GM) => (if i56 < i54 then w_L_isSound_b233 X post px g55 else w_L_both X (fun (i58 : Int32) (g57 : GM) => (if i58 < l7 then w_L_isSound_b233 X post px g57 else w_L_of X (fun (i60 : Int32) (g59 : GM) => (if (10 : Int32) ≤ i60 then w_L_rating X (fun (z62 : UInt64) (g61 : GM) => (if 0 < (Op.cmpValue (FP.dcmp z62 (4617315517961601024 : UInt64)) .l) then w_L_isSound_b315 X post px g61 else (if 0 ≤ (Op.cmpValue (FP.dcmp z62 FP.dconst1) .g) then w_L_isSound_b268 X post px k15 l0 l1 l2 l3 l4 z62 g61 else (if (Op.cmpValue (FP.dcmp z62 (13835058055282163712 : UInt64)) .l) = 0 then w_L_isSound_b268 X post px k15 l0 l1 l2 l3 l4 z62 g61 else w_L_isSound_b315 X post px g61)))) (fun _ _ => False) l0 l4 g59 else w_L_isSound_b233 X post px g59)) (fun _ _ => False) l0 l4 (9 : Int32) g57)) (fun _ _ => False) l0 (112 : Int32) l4 (1 : Int32) g55)) (fun _ _ => False) l0 l4 (8 : Int32) g53) (fun _ _ => False) l0 l4 (7 : Int32) g
def w_L_isSound_b163 (X : Cx) (post : Int32 → GM → Prop) (px : String → GM → Prop) (k15 : Option Nat → Int32 → Int32 → Int32 → Int32 → GM → Prop) (l0 : Option Nat) (l1 : Int32) (l2 : Int32) (l3 : Int32) (l4 : Int32) (l7 : Int32) (g : GM) : Prop :=
  (if (100 : Int32) < l7 then w_L_isSound_b233 X post px g else (if l7 ≤ 0 then w_L_isSound_b187 X post px k15 l0 l1 l2 l3 l4 l7 g else w_L_ofq X (fun (i68 : Int32) (g67 : GM) => (if i68 = (97 : Int32) then w_L_isSound_b187 X post px k15 l0 l1 l2 l3 l4 l7 g67 else w_L_isSound_b233 X post px g67)) (fun _ _ => False) l0 l4 (2 : Int32) g))
def w_L_isSound_b153 (X : Cx) (post : Int32 → GM → Prop) (px : String → GM → Prop) (k15 : Option Nat → Int32 → Int32 → Int32 → Int32 → GM → Prop) (l0 : Option Nat) (l1 : Int32) (l2 : Int32) (l3 : Int32) (l4 : Int32) (l5 : Int32) (l7 : Int32) (g : GM) : Prop :=
  (if l7 = 0 then (if 0 < l5 then w_L_isSound_b233 X post px g else w_L_isSound_b163 X post px k15 l0 l1 l2 l3 l4 l7 g) else w_L_isSound_b163 X post px k15 l0 l1 l2 l3 l4 l7 g)
def w_L_isSound_b138 (X : Cx) (post : Int32 → GM → Prop) (px : String → GM → Prop) (k15 : Option Nat → Int32 → Int32 → Int32 → Int32 → GM → Prop) (l0 : Option Nat) (l1 : Int32) (l2 : Int32) (l3 : Int32) (l4 : Int32) (l5 : Int32) (l6 : Int32) (l7 : Int32) (t0 : Int32) (t1 : Int32) (g : GM) : Prop :=
  (if t1 = t0 then (if l6 = (45 : Int32) then w_L_isSound_b153 X post px k15 l0 l1 l2 l3 l4 l5 l7 g else (if 0 < l5 then w_L_isSound_b233 X post px g else w_L_isSound_b153 X post px k15 l0 l1 l2 l3 l4 l5 l7 g)) else w_L_isSound_b233 X post px g)
def w_L_isSound_b121 (X : Cx) (post : Int32 → GM → Prop) (px : String → GM → Prop) (k15 : Option Nat → Int32 → Int32 → Int32 → Int32 → GM → Prop) (l0 : Option Nat) (l1 : Int32) (l2 : Int32) (l3 : Int32) (l4 : Int32) (l5 : Int32) (l6 : Int32) (l7 : Int32) (t0 : Int32) (g : GM) : Prop :=
  w_L_ofq X (fun (i52 : Int32) (g51 : GM) => (if i52 = (97 : Int32) then w_L_isSound_b138 X post px k15 l0 l1 l2 l3 l4 l5 l6 l7 (0 : Int32) t0 g51 else w_L_isSound_b138 X post px k15 l0 l1 l2 l3 l4 l5 l6 l7 (1 : Int32) t0 g51)) (fun _ _ => False) l0 l4 (2 : Int32) g
def w_L_isSound_l27 (X : Cx) (post : Int32 → GM → Prop) (px : String → GM → Prop) (k15 : Option Nat → Int32 → Int32 → Int32 → Int32 → GM → Prop) : Nat → Option Nat → Int32 → Int32 → Int32 → Int32 → Int32 → Int32 → GM → Prop
  | 0, _, _, _, _, _, _, _, _ => False
  | f + 1, l0, l1, l2, l3, l4, l5, l6, g => (if l2 ≤ l6 then w_L_ofq X (fun (i42 : Int32) (g41 : GM) => w_L_ofq X (fun (i44 : Int32) (g43 : GM) => w_L_ofq X (fun (i46 : Int32) (g45 : GM) => w_L_ofq X (fun (i48 : Int32) (g47 : GM) => (if i48 = l5 then w_L_ofq X (fun (i50 : Int32) (g49 : GM) => (if i50 = l5 then (if i42 = (-1003 : Int32) then w_L_isSound_b121 X post px k15 l0 l1 l2 (l3 + i46) l4 l5 i42 i44 (1 : Int32) g49 else w_L_isSound_b121 X post px k15 l0 l1 l2 (l3 + i46) l4 l5 i42 i44 (0 : Int32) g49) else w_L_isSound_b233 X post px g49)) (fun _ _ => False) l0 l4 (6 : Int32) g47 else w_L_isSound_b233 X post px g47)) (fun _ _ => False) l0 l4 (5 : Int32) g45) (fun _ _ => False) l0 l4 (7 : Int32) g43) (fun _ _ => False) l0 l4 (3 : Int32) g41) (fun _ _ => False) l0 l4 (4 : Int32) g else w_L_both X (fun (i70 : Int32) (g69 : GM) => w_L_isSound_l27 X post px k15 f l0 l1 l2 l3 l4 (l5 + i70) (l6 + 1) g69) (fun _ _ => False) l0 (99 : Int32) l6 l4 g)
def w_L_isSound_l15 (X : Cx) (post : Int32 → GM → Prop) (px : String → GM → Prop)  : Nat → Option Nat → Int32 → Int32 → Int32 → Int32 → GM → Prop
  | 0, _, _, _, _, _, _ => False
  | f + 1, l0, l1, l2, l3, l4, g => (if l1 ≤ l4 then w_L_isSound_l329 X post px 13 l0 l1 l2 l3 (0 : Int32) (0 : Int32) g else w_L_isSound_l27 X post px (w_L_isSound_l15 X post px f) 13 l0 l1 l2 l3 l4 (0 : Int32) (0 : Int32) g)
def w_L_isSound (X : Cx) (post : Int32 → GM → Prop) (px : String → GM → Prop) (v0 : Option Nat) (g : GM) : Prop :=
  w_L_builds X (fun (i2 : Int32) (g1 : GM) => w_L_devices X (fun (i4 : Int32) (g3 : GM) => w_L_isSound_l15 X post px 11 v0 i2 i4 (0 : Int32) (0 : Int32) g3) (fun _ _ => False) v0 g1) (fun _ _ => False) v0 g
abbrev rm_L_isSound : Room := { frames := 10, cells := 2602, slots := 23674, locals := 279 }
set_option maxHeartbeats 16000000 in
set_option maxRecDepth 100000 in
theorem m_L_isSound {X : Cx} {l : Launch} (hfl : l.stackTraces = false) {post : Int32 → GM → Prop} {px : String → GM → Prop} {v0 : Option Nat} {g : GM} (hf : w_L_isSound X post px v0 g) : gMet X l yL_isSound cL_isSound 10 (some .boolean) rm_L_isSound [va_rf v0] g (qI X post) px := by
  refine gg_enter (L := [some (va_rf v0), none, none, none, none, none, none, none, none, none]) hfl (by decide +kernel) (by simp [lg_sl, gcat, gcI, gcL, gcF, gcD]) (by simp [gll, lv_args, gcat, gcI, gcL, gcF, gcD]) ?_
  intro p e s m args below meth c C hr ht hm
  have C : FC X p l s m args meth c cL_isSound 10 "ReleasetrainLaw" := C
  have hb_604 : ∀ (z zn : Nat) (hz : z + (0) ≤ 2602) (hzn : zn + (0) ≤ 23674) (t0 : Int32) (g : GM), w_L_isSound_b604 X post px  t0 g → GG X p l e rm_L_isSound s m args below meth c 10 (vx_MQ below (qI X post) (gXC X px) args s rm_L_isSound.cells rm_L_isSound.slots (gA X)) z zn 604 [none, none, none, none, none, none, none, none, none, none] [.int t0] g := by
    intro  z zn hz hzn t0 g hf
    unfold w_L_isSound_b604 at hf
    exact gg_iret C hr (by show z ≤ 2602; first | exact ar_l0 (z := z) hz rfl | omega) (by show zn ≤ 23674; first | exact ar_l0 (z := zn) hzn rfl | omega) dL_isSound_604 hf.1 hf.2
  have hb_603 : ∀ (z zn : Nat) (hz : z + (0) ≤ 2602) (hzn : zn + (0) ≤ 23674)  (g : GM), w_L_isSound_b603 X post px   g → GG X p l e rm_L_isSound s m args below meth c 10 (vx_MQ below (qI X post) (gXC X px) args s rm_L_isSound.cells rm_L_isSound.slots (gA X)) z zn 603 [none, none, none, none, none, none, none, none, none, none] [] g := by
    intro  z zn hz hzn  g hf
    unfold w_L_isSound_b603 at hf
    refine gg_iconst C dL_isSound_603 (v := (0 : Int32)) (by decide) ?_
    exact hb_604 z zn (by first | exact ar_l (z := z) hz rfl | omega) (by first | exact ar_l (z := zn) hzn rfl | omega) _ _ hf
  have hb_590 : ∀ (z zn : Nat) (hz : z + (1) ≤ 2602) (hzn : zn + (6) ≤ 23674) (l0 : Option Nat) (g : GM), w_L_isSound_b590 X post px  l0 g → GG X p l e rm_L_isSound s m args below meth c 10 (vx_MQ below (qI X post) (gXC X px) args s rm_L_isSound.cells rm_L_isSound.slots (gA X)) z zn 590 [some (va_rf l0), none, none, none, none, none, none, none, none, none] [] g := by
    intro  z zn hz hzn l0 g hf
    unfold w_L_isSound_b590 at hf
    refine gg_aload_n C dL_isSound_590 rfl ?_
    refine gr_F (k' := (z + 1)) (n' := (zn + 6)) (gk_SW (As := [va_rf l0]) (rest := []) C dL_isSound_591 tw_1362 tw_1363 tw_24 tw_1364 gd_L_used rfl ⟨by decide, by decide⟩ (by simp [gcat, gcI, gcL, gcF, gcD]) ⟨(by show z + 1 ≤ 2602; first | exact ar_l (z := z) hz rfl | omega), (by show zn + 6 ≤ 23674; first | exact ar_l (z := zn) hzn rfl | omega)⟩ (m_L_used hfl hf)) rfl rfl (fun E g9 h9 => h9.elim) (fun x14 g13 hf => ?_)
    refine gg_fconst1 C dL_isSound_594 ?_
    refine gg_fcmp C dL_isSound_595 ?_
    refine gg_if_gt (tgt := 603) C dL_isSound_596 (by decide) hf (fun hf => ?_) (fun hf => ?_)
    · exact gg_sub (L' := [none, none, none, none, none, none, none, none, none, none]) (by first | exact trivial | simp [gsub]) (hb_603 (z + 1) (zn + 6) (by first | exact ar_l2 (z := z) hz rfl | omega) (by first | exact ar_l2 (z := zn) hzn rfl | omega) _ hf)
    · refine gg_iconst C dL_isSound_599 (v := (1 : Int32)) (by decide) ?_
      refine gg_goto (tgt := 604) C dL_isSound_600 (by decide) ?_
      exact gg_sub (L' := [none, none, none, none, none, none, none, none, none, none]) (by first | exact trivial | simp [gsub]) (hb_604 (z + 1) (zn + 6) (by first | exact ar_l2 (z := z) hz rfl | omega) (by first | exact ar_l2 (z := zn) hzn rfl | omega) _ _ hf)
  have hb_540 : ∀ (z zn : Nat) (hz : z + (0) ≤ 2602) (hzn : zn + (0) ≤ 23674)  (g : GM), w_L_isSound_b540 X post px   g → GG X p l e rm_L_isSound s m args below meth c 10 (vx_MQ below (qI X post) (gXC X px) args s rm_L_isSound.cells rm_L_isSound.slots (gA X)) z zn 540 [none, none, none, none, none, none, none, none, none, none] [] g := by
    intro  z zn hz hzn  g hf
    unfold w_L_isSound_b540 at hf
    refine gg_iconst C dL_isSound_540 (v := (0 : Int32)) (by decide) ?_
    exact gg_iret C hr (by show z ≤ 2602; first | exact ar_l0 (z := z) hz rfl | omega) (by show zn ≤ 23674; first | exact ar_l0 (z := zn) hzn rfl | omega) dL_isSound_541 rfl hf
  have hb_449 : ∀ (f z zn : Nat) (hz : z + (f * 14 + 4) ≤ 2602) (hzn : zn + (f * 84 + 24) ≤ 23674) (l0 : Option Nat) (l1 : Int32) (l3 : Int32) (l4 : Int32) (l5 : Int32) (l6 : Int32) (g : GM), w_L_isSound_l449 X post px  f l0 l1 l3 l4 l5 l6 g → GG X p l e rm_L_isSound s m args below meth c 10 (vx_MQ below (qI X post) (gXC X px) args s rm_L_isSound.cells rm_L_isSound.slots (gA X)) z zn 449 [some (va_rf l0), some (.int l1), none, some (.int l3), some (.int l4), some (.int l5), some (.int l6), none, none, none] [] g := by
    intro  f
    induction f with
    | zero => intro z zn hz hzn l0 l1 l3 l4 l5 l6 g hf; exact (show False from hf).elim
    | succ f ih =>
      intro z zn hz hzn l0 l1 l3 l4 l5 l6 g hf
      rw [w_L_isSound_l449] at hf
      refine gg_iload C dL_isSound_449 rfl ?_
      refine gg_aload_n C dL_isSound_451 rfl ?_
      refine gr_I (k' := z) (n' := zn) (gk_V (ci := 7) (As := []) (rest := [.int l6]) C dL_isSound_452 rfl rfl tw_185 tw_186 tw_187 tw_25 tw_188 gd_X7_groups rfl ⟨by decide, by decide⟩ (by simp [gcat, gcI, gcL, gcF, gcD]) ⟨(by show z + 0 ≤ 2602; first | exact ar_f (z := z) hz rfl | omega), (by show zn + 0 ≤ 23674; first | exact ar_f (z := zn) hzn rfl | omega)⟩ hf (fun hf => m_X7_groups hfl hf)) rfl rfl (fun E g9 h9 => h9.elim) (fun i6 g5 hf => ?_)
      refine gg_icmp_ge (tgt := 548) C dL_isSound_455 (by decide) hf (fun hf => ?_) (fun hf => ?_)
      · refine gg_iload_n C dL_isSound_548 rfl ?_
        refine gg_iload C dL_isSound_549 rfl ?_
        refine gg_icmp_ne (tgt := 603) C dL_isSound_551 (by decide) hf (fun hf => ?_) (fun hf => ?_)
        · exact gg_sub (L' := [none, none, none, none, none, none, none, none, none, none]) (by first | exact trivial | simp [gsub]) (hb_603 z zn (by first | exact ar_f (z := z) hz rfl | omega) (by first | exact ar_f (z := zn) hzn rfl | omega) _ hf)
        · refine gg_aload_n C dL_isSound_554 rfl ?_
          refine gr_I (k' := z) (n' := zn) (gk_V (ci := 7) (As := []) (rest := []) C dL_isSound_555 rfl rfl tw_185 tw_186 tw_187 tw_25 tw_188 gd_X7_groups rfl ⟨by decide, by decide⟩ (by simp [gcat, gcI, gcL, gcF, gcD]) ⟨(by show z + 0 ≤ 2602; first | exact ar_f (z := z) hz rfl | omega), (by show zn + 0 ≤ 23674; first | exact ar_f (z := zn) hzn rfl | omega)⟩ hf (fun hf => m_X7_groups hfl hf)) rfl rfl (fun E g9 h9 => h9.elim) (fun i8 g7 hf => ?_)
          refine gg_if_ne (tgt := 575) C dL_isSound_558 (by decide) hf (fun hf => ?_) (fun hf => ?_)
          · refine gg_aload_n C dL_isSound_575 rfl ?_
            refine gg_aload_n C dL_isSound_576 rfl ?_
            refine gg_iconst C dL_isSound_577 (v := (2 : Int32)) (by decide) ?_
            refine gr_I (k' := (z + 1)) (n' := (zn + 6)) (gk_SW (As := [va_rf l0, .int (2 : Int32)]) (rest := [va_rf l0]) C dL_isSound_578 tw_1199 tw_1200 tw_24 tw_1201 gd_L_asked rfl ⟨by decide, by decide⟩ (by simp [gcat, gcI, gcL, gcF, gcD]) ⟨(by show z + 1 ≤ 2602; first | exact ar_f (z := z) hz rfl | omega), (by show zn + 6 ≤ 23674; first | exact ar_f (z := zn) hzn rfl | omega)⟩ (m_L_asked hfl hf)) rfl rfl (fun E g9 h9 => h9.elim) (fun i10 g9 hf => ?_)
            refine gg_iconst C dL_isSound_581 (v := (-1 : Int32)) (by decide) ?_
            refine gr_I (k' := (z + 3)) (n' := (zn + 18)) (gk_SW (As := [va_rf l0, .int i10, .int (-1 : Int32)]) (rest := []) C dL_isSound_582 tw_1228 tw_1229 tw_24 tw_1230 gd_L_group rfl ⟨by decide, by decide⟩ (by simp [gcat, gcI, gcL, gcF, gcD]) ⟨(by show (z + 1) + 2 ≤ 2602; first | exact ar_f2 (z := z) hz rfl | omega), (by show (zn + 6) + 12 ≤ 23674; first | exact ar_f2 (z := zn) hzn rfl | omega)⟩ (m_L_group hfl hf)) (Nat.add_assoc z 1 2) (Nat.add_assoc zn 6 12) (fun E g9 h9 => h9.elim) (fun i12 g11 hf => ?_)
            refine gg_iload C dL_isSound_585 rfl ?_
            refine gg_icmp_ne (tgt := 603) C dL_isSound_587 (by decide) hf (fun hf => ?_) (fun hf => ?_)
            · exact gg_sub (L' := [none, none, none, none, none, none, none, none, none, none]) (by first | exact trivial | simp [gsub]) (hb_603 (z + 3) (zn + 18) (by first | exact ar_f2 (z := z) hz rfl | omega) (by first | exact ar_f2 (z := zn) hzn rfl | omega) _ hf)
            · exact gg_sub (L' := [some (va_rf l0), none, none, none, none, none, none, none, none, none]) (by first | exact ⟨rfl, trivial⟩ | simp [gsub]) (hb_590 (z + 3) (zn + 18) (by first | exact ar_f2 (z := z) hz rfl | omega) (by first | exact ar_f2 (z := zn) hzn rfl | omega) _ _ hf)
          · refine gg_aload_n C dL_isSound_561 rfl ?_
            refine gg_iconst C dL_isSound_562 (v := (2 : Int32)) (by decide) ?_
            refine gr_I (k' := (z + 1)) (n' := (zn + 6)) (gk_SW (As := [va_rf l0, .int (2 : Int32)]) (rest := []) C dL_isSound_563 tw_1199 tw_1200 tw_24 tw_1201 gd_L_asked rfl ⟨by decide, by decide⟩ (by simp [gcat, gcI, gcL, gcF, gcD]) ⟨(by show z + 1 ≤ 2602; first | exact ar_f (z := z) hz rfl | omega), (by show zn + 6 ≤ 23674; first | exact ar_f (z := zn) hzn rfl | omega)⟩ (m_L_asked hfl hf)) rfl rfl (fun E g9 h9 => h9.elim) (fun i16 g15 hf => ?_)
            refine gg_sipush C dL_isSound_566 (v := (-1003 : Int32)) (by decide) ?_
            refine gg_icmp_ne (tgt := 603) C dL_isSound_569 (by decide) hf (fun hf => ?_) (fun hf => ?_)
            · exact gg_sub (L' := [none, none, none, none, none, none, none, none, none, none]) (by first | exact trivial | simp [gsub]) (hb_603 (z + 1) (zn + 6) (by first | exact ar_f2 (z := z) hz rfl | omega) (by first | exact ar_f2 (z := zn) hzn rfl | omega) _ hf)
            · refine gg_goto (tgt := 590) C dL_isSound_572 (by decide) ?_
              exact gg_sub (L' := [some (va_rf l0), none, none, none, none, none, none, none, none, none]) (by first | exact ⟨rfl, trivial⟩ | simp [gsub]) (hb_590 (z + 1) (zn + 6) (by first | exact ar_f2 (z := z) hz rfl | omega) (by first | exact ar_f2 (z := zn) hzn rfl | omega) _ _ hf)
      · refine gg_iload C dL_isSound_458 rfl ?_
        refine gg_aload_n C dL_isSound_460 rfl ?_
        refine gg_iload C dL_isSound_461 rfl ?_
        refine gg_iconst C dL_isSound_463 (v := (-1 : Int32)) (by decide) ?_
        refine gr_I (k' := (z + 2)) (n' := (zn + 12)) (gk_SW (As := [va_rf l0, .int l6, .int (-1 : Int32)]) (rest := [.int l5]) C dL_isSound_464 tw_1228 tw_1229 tw_24 tw_1230 gd_L_group rfl ⟨by decide, by decide⟩ (by simp [gcat, gcI, gcL, gcF, gcD]) ⟨(by show z + 2 ≤ 2602; first | exact ar_f (z := z) hz rfl | omega), (by show zn + 12 ≤ 23674; first | exact ar_f (z := zn) hzn rfl | omega)⟩ (m_L_group hfl hf)) rfl rfl (fun E g9 h9 => h9.elim) (fun i18 g17 hf => ?_)
        refine gg_mmax C dL_isSound_467 tw_1361 tw_449 tw_44 tw_max (by decide) (by first | (simp [gcat, gcI, gcL, gcF, gcD]; done) | (simp [gcat, gcI, gcL, gcF, gcD]; decide)) (by show (z + 2) ≤ 2602; first | exact ar_f (z := z) hz rfl | omega) (by show (zn + 12) ≤ 23674; first | exact ar_f (z := zn) hzn rfl | omega) ?_
        refine gg_istore (L' := [some (va_rf l0), some (.int l1), none, some (.int l3), some (.int l4), some (.int (if l5 < i18 then i18 else l5)), some (.int l6), none, none, none]) C dL_isSound_470 (Or.inr (Or.inr ⟨_, rfl, rfl⟩)) (by decide) rfl ?_
        refine gg_aload_n C dL_isSound_472 rfl ?_
        refine gg_iload C dL_isSound_473 rfl ?_
        refine gg_iconst C dL_isSound_475 (v := (-1 : Int32)) (by decide) ?_
        refine gr_I (k' := (z + 4)) (n' := (zn + 24)) (gk_SW (As := [va_rf l0, .int l6, .int (-1 : Int32)]) (rest := []) C dL_isSound_476 tw_1228 tw_1229 tw_24 tw_1230 gd_L_group rfl ⟨by decide, by decide⟩ (by simp [gcat, gcI, gcL, gcF, gcD]) ⟨(by show (z + 2) + 2 ≤ 2602; first | exact ar_f2 (z := z) hz rfl | omega), (by show (zn + 12) + 12 ≤ 23674; first | exact ar_f2 (z := zn) hzn rfl | omega)⟩ (m_L_group hfl hf)) (Nat.add_assoc z 2 2) (Nat.add_assoc zn 12 12) (fun E g9 h9 => h9.elim) (fun i20 g19 hf => ?_)
        refine gg_iconst C dL_isSound_479 (v := (1 : Int32)) (by decide) ?_
        refine gg_icmp_lt (tgt := 540) C dL_isSound_480 (by decide) hf (fun hf => ?_) (fun hf => ?_)
        · exact gg_sub (L' := [none, none, none, none, none, none, none, none, none, none]) (by first | exact trivial | simp [gsub]) (hb_540 (z + 4) (zn + 24) (by first | exact ar_f2 (z := z) hz rfl | omega) (by first | exact ar_f2 (z := zn) hzn rfl | omega) _ hf)
        · refine gg_aload_n C dL_isSound_483 rfl ?_
          refine gg_iload C dL_isSound_484 rfl ?_
          refine gg_bipush C dL_isSound_486 (v := (-2 : Int32)) (by decide) ?_
          refine gr_I (k' := (z + 6)) (n' := (zn + 36)) (gk_SW (As := [va_rf l0, .int l6, .int (-2 : Int32)]) (rest := []) C dL_isSound_488 tw_1228 tw_1229 tw_24 tw_1230 gd_L_group rfl ⟨by decide, by decide⟩ (by simp [gcat, gcI, gcL, gcF, gcD]) ⟨(by show (z + 4) + 2 ≤ 2602; first | exact ar_f2 (z := z) hz rfl | omega), (by show (zn + 24) + 12 ≤ 23674; first | exact ar_f2 (z := zn) hzn rfl | omega)⟩ (m_L_group hfl hf)) (Nat.add_assoc z 4 2) (Nat.add_assoc zn 24 12) (fun E g9 h9 => h9.elim) (fun i22 g21 hf => ?_)
          refine gg_iconst C dL_isSound_491 (v := (1 : Int32)) (by decide) ?_
          refine gg_icmp_lt (tgt := 540) C dL_isSound_492 (by decide) hf (fun hf => ?_) (fun hf => ?_)
          · exact gg_sub (L' := [none, none, none, none, none, none, none, none, none, none]) (by first | exact trivial | simp [gsub]) (hb_540 (z + 6) (zn + 36) (by first | exact ar_f2 (z := z) hz rfl | omega) (by first | exact ar_f2 (z := zn) hzn rfl | omega) _ hf)
          · refine gg_aload_n C dL_isSound_495 rfl ?_
            refine gg_iload C dL_isSound_496 rfl ?_
            refine gg_bipush C dL_isSound_498 (v := (-2 : Int32)) (by decide) ?_
            refine gr_I (k' := (z + 8)) (n' := (zn + 48)) (gk_SW (As := [va_rf l0, .int l6, .int (-2 : Int32)]) (rest := []) C dL_isSound_500 tw_1228 tw_1229 tw_24 tw_1230 gd_L_group rfl ⟨by decide, by decide⟩ (by simp [gcat, gcI, gcL, gcF, gcD]) ⟨(by show (z + 6) + 2 ≤ 2602; first | exact ar_f2 (z := z) hz rfl | omega), (by show (zn + 36) + 12 ≤ 23674; first | exact ar_f2 (z := zn) hzn rfl | omega)⟩ (m_L_group hfl hf)) (Nat.add_assoc z 6 2) (Nat.add_assoc zn 36 12) (fun E g9 h9 => h9.elim) (fun i24 g23 hf => ?_)
            refine gg_iconst C dL_isSound_503 (v := (1 : Int32)) (by decide) ?_
            refine gg_iload_n C dL_isSound_504 rfl ?_
            refine gg_ishl C dL_isSound_505 ?_
            refine gg_icmp_ge (tgt := 540) C dL_isSound_506 (by decide) hf (fun hf => ?_) (fun hf => ?_)
            · exact gg_sub (L' := [none, none, none, none, none, none, none, none, none, none]) (by first | exact trivial | simp [gsub]) (hb_540 (z + 8) (zn + 48) (by first | exact ar_f2 (z := z) hz rfl | omega) (by first | exact ar_f2 (z := zn) hzn rfl | omega) _ hf)
            · refine gg_aload_n C dL_isSound_509 rfl ?_
              refine gg_iload C dL_isSound_510 rfl ?_
              refine gg_iload C dL_isSound_512 rfl ?_
              refine gr_F (k' := (z + 10)) (n' := (zn + 60)) (gk_SW (As := [va_rf l0, .int l6, .int l6]) (rest := []) C dL_isSound_514 tw_1279 tw_1280 tw_24 tw_1281 gd_L_like rfl ⟨by decide, by decide⟩ (by simp [gcat, gcI, gcL, gcF, gcD]) ⟨(by show (z + 8) + 2 ≤ 2602; first | exact ar_f2 (z := z) hz rfl | omega), (by show (zn + 48) + 12 ≤ 23674; first | exact ar_f2 (z := zn) hzn rfl | omega)⟩ (m_L_like hfl hf)) (Nat.add_assoc z 8 2) (Nat.add_assoc zn 48 12) (fun E g9 h9 => h9.elim) (fun x26 g25 hf => ?_)
              refine gg_fconst1 C dL_isSound_517 ?_
              refine gg_fcmp C dL_isSound_518 ?_
              refine gg_if_ne (tgt := 540) C dL_isSound_519 (by decide) hf (fun hf => ?_) (fun hf => ?_)
              · exact gg_sub (L' := [none, none, none, none, none, none, none, none, none, none]) (by first | exact trivial | simp [gsub]) (hb_540 (z + 10) (zn + 60) (by first | exact ar_f2 (z := z) hz rfl | omega) (by first | exact ar_f2 (z := zn) hzn rfl | omega) _ hf)
              · refine gg_aload_n C dL_isSound_522 rfl ?_
                refine gg_iload C dL_isSound_523 rfl ?_
                refine gg_iconst C dL_isSound_525 (v := (0 : Int32)) (by decide) ?_
                refine gr_F (k' := (z + 12)) (n' := (zn + 72)) (gk_SW (As := [va_rf l0, .int l6, .int (0 : Int32)]) (rest := []) C dL_isSound_526 tw_1279 tw_1280 tw_24 tw_1281 gd_L_like rfl ⟨by decide, by decide⟩ (by simp [gcat, gcI, gcL, gcF, gcD]) ⟨(by show (z + 10) + 2 ≤ 2602; first | exact ar_f2 (z := z) hz rfl | omega), (by show (zn + 60) + 12 ≤ 23674; first | exact ar_f2 (z := zn) hzn rfl | omega)⟩ (m_L_like hfl hf)) (Nat.add_assoc z 10 2) (Nat.add_assoc zn 60 12) (fun E g9 h9 => h9.elim) (fun x28 g27 hf => ?_)
                refine gg_aload_n C dL_isSound_529 rfl ?_
                refine gg_iconst C dL_isSound_530 (v := (0 : Int32)) (by decide) ?_
                refine gg_iload C dL_isSound_531 rfl ?_
                refine gr_F (k' := (z + 14)) (n' := (zn + 84)) (gk_SW (As := [va_rf l0, .int (0 : Int32), .int l6]) (rest := [.float x28]) C dL_isSound_533 tw_1279 tw_1280 tw_24 tw_1281 gd_L_like rfl ⟨by decide, by decide⟩ (by simp [gcat, gcI, gcL, gcF, gcD]) ⟨(by show (z + 12) + 2 ≤ 2602; first | exact ar_f2 (z := z) hz rfl | omega), (by show (zn + 72) + 12 ≤ 23674; first | exact ar_f2 (z := zn) hzn rfl | omega)⟩ (m_L_like hfl hf)) (Nat.add_assoc z 12 2) (Nat.add_assoc zn 72 12) (fun E g9 h9 => h9.elim) (fun x30 g29 hf => ?_)
                refine gg_fcmp C dL_isSound_536 ?_
                refine gg_if_eq (tgt := 542) C dL_isSound_537 (by decide) hf (fun hf => ?_) (fun hf => ?_)
                · refine gg_iinc (L' := [some (va_rf l0), some (.int l1), none, some (.int l3), some (.int l4), some (.int (if l5 < i18 then i18 else l5)), some (.int (l6 + 1)), none, none, none]) C dL_isSound_542 rfl (v := (l6 + 1)) rfl (Or.inr (Or.inr ⟨_, rfl, rfl⟩)) (by decide) rfl ?_
                  refine gg_goto (tgt := 449) C dL_isSound_545 (by decide) ?_
                  exact ih (z + 14) (zn + 84) (by first | exact ar_f3 (z := z) hz rfl | omega) (by first | exact ar_f3 (z := zn) hzn rfl | omega) _ _ _ _ _ _ _ hf
                · exact gg_sub (L' := [none, none, none, none, none, none, none, none, none, none]) (by first | exact trivial | simp [gsub]) (hb_540 (z + 14) (zn + 84) (by first | exact ar_f2 (z := z) hz rfl | omega) (by first | exact ar_f2 (z := zn) hzn rfl | omega) _ hf)
  have hb_399 : ∀ (E329 En329 : Nat), 438 ≤ E329 → 2628 ≤ En329 → ∀ (k329 : Option Nat → Int32 → Int32 → Int32 → Int32 → Int32 → GM → Prop), (∀ (z zn : Nat), z + E329 ≤ 2602 → zn + En329 ≤ 23674 → ∀ (l0 : Option Nat) (l1 : Int32) (l2 : Int32) (l3 : Int32) (l4 : Int32) (l5 : Int32) (g : GM), k329 l0 l1 l2 l3 l4 l5 g → GG X p l e rm_L_isSound s m args below meth c 10 (vx_MQ below (qI X post) (gXC X px) args s rm_L_isSound.cells rm_L_isSound.slots (gA X)) z zn 329 [some (va_rf l0), some (.int l1), some (.int l2), some (.int l3), some (.int l4), some (.int l5), none, none, none, none] [] g) → ∀ (f z zn : Nat) (hz : z + (f * 8 + 0 + E329) ≤ 2602) (hzn : zn + (f * 48 + 0 + En329) ≤ 23674) (l0 : Option Nat) (l1 : Int32) (l2 : Int32) (l3 : Int32) (l4 : Int32) (l5 : Int32) (l8 : Int32) (g : GM), w_L_isSound_l399 X post px k329 f l0 l1 l2 l3 l4 l5 l8 g → GG X p l e rm_L_isSound s m args below meth c 10 (vx_MQ below (qI X post) (gXC X px) args s rm_L_isSound.cells rm_L_isSound.slots (gA X)) z zn 399 [some (va_rf l0), some (.int l1), some (.int l2), some (.int l3), some (.int l4), some (.int l5), none, none, some (.int l8), none] [] g := by
    intro E329 En329 hE329 hEn329 k329 hk329 f
    induction f with
    | zero => intro z zn hz hzn l0 l1 l2 l3 l4 l5 l8 g hf; exact (show False from hf).elim
    | succ f ih =>
      intro z zn hz hzn l0 l1 l2 l3 l4 l5 l8 g hf
      rw [w_L_isSound_l399] at hf
      refine gg_iload C dL_isSound_399 rfl ?_
      refine gg_bipush C dL_isSound_401 (v := (8 : Int32)) (by decide) ?_
      refine gg_icmp_ge (tgt := 437) C dL_isSound_403 (by decide) hf (fun hf => ?_) (fun hf => ?_)
      · refine gg_iinc (L' := [some (va_rf l0), some (.int l1), some (.int l2), some (.int l3), some (.int l4), some (.int (l5 + 1)), none, none, some (.int l8), none]) C dL_isSound_437 rfl (v := (l5 + 1)) rfl (Or.inr (Or.inr ⟨_, rfl, rfl⟩)) (by decide) rfl ?_
        refine gg_goto (tgt := 329) C dL_isSound_440 (by decide) ?_
        exact gg_sub (L' := [some (va_rf l0), some (.int l1), some (.int l2), some (.int l3), some (.int l4), some (.int (l5 + 1)), none, none, none, none]) (by first | exact ⟨rfl, ⟨rfl, ⟨rfl, ⟨rfl, ⟨rfl, ⟨rfl, trivial⟩⟩⟩⟩⟩⟩ | simp [gsub]) (hk329 z zn (by first | exact ar_g8 (z := z) hz rfl | omega) (by first | exact ar_g8 (z := zn) hzn rfl | omega) _ _ _ _ _ _ _ hf)
      · refine gg_aload_n C dL_isSound_406 rfl ?_
        refine gg_bipush C dL_isSound_407 (v := (117 : Int32)) (by decide) ?_
        refine gg_iload C dL_isSound_409 rfl ?_
        refine gg_iload C dL_isSound_411 rfl ?_
        refine gr_I (k' := (z + 4)) (n' := (zn + 24)) (gk_SW (As := [va_rf l0, .int (117 : Int32), .int l5, .int l8]) (rest := []) C dL_isSound_413 tw_1105 tw_1106 tw_24 tw_1107 gd_L_both rfl ⟨by decide, by decide⟩ (by simp [gcat, gcI, gcL, gcF, gcD]) ⟨(by show z + 4 ≤ 2602; first | exact ar_g (z := z) hz rfl | omega), (by show zn + 24 ≤ 23674; first | exact ar_g (z := zn) hzn rfl | omega)⟩ (m_L_both hfl hf)) rfl rfl (fun E g9 h9 => h9.elim) (fun i36 g35 hf => ?_)
        refine gg_aload_n C dL_isSound_416 rfl ?_
        refine gg_bipush C dL_isSound_417 (v := (111 : Int32)) (by decide) ?_
        refine gg_iload C dL_isSound_419 rfl ?_
        refine gg_iload C dL_isSound_421 rfl ?_
        refine gr_I (k' := (z + 8)) (n' := (zn + 48)) (gk_SW (As := [va_rf l0, .int (111 : Int32), .int l5, .int l8]) (rest := [.int i36]) C dL_isSound_423 tw_1105 tw_1106 tw_24 tw_1107 gd_L_both rfl ⟨by decide, by decide⟩ (by simp [gcat, gcI, gcL, gcF, gcD]) ⟨(by show (z + 4) + 4 ≤ 2602; first | exact ar_g2 (z := z) hz rfl | omega), (by show (zn + 24) + 24 ≤ 23674; first | exact ar_g2 (z := zn) hzn rfl | omega)⟩ (m_L_both hfl hf)) (Nat.add_assoc z 4 4) (Nat.add_assoc zn 24 24) (fun E g9 h9 => h9.elim) (fun i38 g37 hf => ?_)
        refine gg_icmp_le (tgt := 431) C dL_isSound_426 (by decide) hf (fun hf => ?_) (fun hf => ?_)
        · refine gg_iinc (L' := [some (va_rf l0), some (.int l1), some (.int l2), some (.int l3), some (.int l4), some (.int l5), none, none, some (.int (l8 + 1)), none]) C dL_isSound_431 rfl (v := (l8 + 1)) rfl (Or.inr (Or.inl rfl)) (by decide) rfl ?_
          refine gg_goto (tgt := 399) C dL_isSound_434 (by decide) ?_
          exact ih (z + 8) (zn + 48) (by first | exact ar_g3 (z := z) hz rfl | omega) (by first | exact ar_g3 (z := zn) hzn rfl | omega) _ _ _ _ _ _ _ _ hf
        · refine gg_iconst C dL_isSound_429 (v := (0 : Int32)) (by decide) ?_
          exact gg_iret C hr (by show (z + 8) ≤ 2602; first | exact ar_g (z := z) hz rfl | omega) (by show (zn + 48) ≤ 23674; first | exact ar_g (z := zn) hzn rfl | omega) dL_isSound_430 rfl hf
  have hb_396 : ∀ (E329 En329 : Nat), 438 ≤ E329 → 2628 ≤ En329 → ∀ (k329 : Option Nat → Int32 → Int32 → Int32 → Int32 → Int32 → GM → Prop), (∀ (z zn : Nat), z + E329 ≤ 2602 → zn + En329 ≤ 23674 → ∀ (l0 : Option Nat) (l1 : Int32) (l2 : Int32) (l3 : Int32) (l4 : Int32) (l5 : Int32) (g : GM), k329 l0 l1 l2 l3 l4 l5 g → GG X p l e rm_L_isSound s m args below meth c 10 (vx_MQ below (qI X post) (gXC X px) args s rm_L_isSound.cells rm_L_isSound.slots (gA X)) z zn 329 [some (va_rf l0), some (.int l1), some (.int l2), some (.int l3), some (.int l4), some (.int l5), none, none, none, none] [] g) → ∀ (z zn : Nat) (hz : z + (72 + E329) ≤ 2602) (hzn : zn + (432 + En329) ≤ 23674) (l0 : Option Nat) (l1 : Int32) (l2 : Int32) (l3 : Int32) (l4 : Int32) (l5 : Int32) (g : GM), w_L_isSound_b396 X post px k329 l0 l1 l2 l3 l4 l5 g → GG X p l e rm_L_isSound s m args below meth c 10 (vx_MQ below (qI X post) (gXC X px) args s rm_L_isSound.cells rm_L_isSound.slots (gA X)) z zn 396 [some (va_rf l0), some (.int l1), some (.int l2), some (.int l3), some (.int l4), some (.int l5), none, none, none, none] [] g := by
    intro E329 En329 hE329 hEn329 k329 hk329 z zn hz hzn l0 l1 l2 l3 l4 l5 g hf
    unfold w_L_isSound_b396 at hf
    refine gg_iconst C dL_isSound_396 (v := (0 : Int32)) (by decide) ?_
    refine gg_istore (L' := [some (va_rf l0), some (.int l1), some (.int l2), some (.int l3), some (.int l4), some (.int l5), none, none, some (.int (0 : Int32)), none]) C dL_isSound_397 (Or.inr (Or.inl rfl)) (by decide) rfl ?_
    exact hb_399 E329 En329 (by first | exact hE329 | omega) (by first | exact hEn329 | omega) _ hk329 9 z zn (by first | exact ar_e4 (z := z) hz rfl | omega) (by first | exact ar_e4 (z := zn) hzn rfl | omega) _ _ _ _ _ _ _ _ hf
  have hb_394 : ∀ (z zn : Nat) (hz : z + (0) ≤ 2602) (hzn : zn + (0) ≤ 23674)  (g : GM), w_L_isSound_b394 X post px   g → GG X p l e rm_L_isSound s m args below meth c 10 (vx_MQ below (qI X post) (gXC X px) args s rm_L_isSound.cells rm_L_isSound.slots (gA X)) z zn 394 [none, none, none, none, none, none, none, none, none, none] [] g := by
    intro  z zn hz hzn  g hf
    unfold w_L_isSound_b394 at hf
    refine gg_iconst C dL_isSound_394 (v := (0 : Int32)) (by decide) ?_
    exact gg_iret C hr (by show z ≤ 2602; first | exact ar_l0 (z := z) hz rfl | omega) (by show zn ≤ 23674; first | exact ar_l0 (z := zn) hzn rfl | omega) dL_isSound_395 rfl hf
  have hb_365 : ∀ (E329 En329 : Nat), 438 ≤ E329 → 2628 ≤ En329 → ∀ (k329 : Option Nat → Int32 → Int32 → Int32 → Int32 → Int32 → GM → Prop), (∀ (z zn : Nat), z + E329 ≤ 2602 → zn + En329 ≤ 23674 → ∀ (l0 : Option Nat) (l1 : Int32) (l2 : Int32) (l3 : Int32) (l4 : Int32) (l5 : Int32) (g : GM), k329 l0 l1 l2 l3 l4 l5 g → GG X p l e rm_L_isSound s m args below meth c 10 (vx_MQ below (qI X post) (gXC X px) args s rm_L_isSound.cells rm_L_isSound.slots (gA X)) z zn 329 [some (va_rf l0), some (.int l1), some (.int l2), some (.int l3), some (.int l4), some (.int l5), none, none, none, none] [] g) → ∀ (z zn : Nat) (hz : z + (76 + E329) ≤ 2602) (hzn : zn + (456 + En329) ≤ 23674) (l0 : Option Nat) (l1 : Int32) (l2 : Int32) (l3 : Int32) (l5 : Int32) (l6 : Int32) (l7 : Int32) (t0 : Int32) (t1 : Int32) (g : GM), w_L_isSound_b365 X post px k329 l0 l1 l2 l3 l5 l6 l7 t0 t1 g → GG X p l e rm_L_isSound s m args below meth c 10 (vx_MQ below (qI X post) (gXC X px) args s rm_L_isSound.cells rm_L_isSound.slots (gA X)) z zn 365 [some (va_rf l0), some (.int l1), some (.int l2), some (.int l3), none, some (.int l5), some (.int l6), some (.int l7), none, none] [.int t0, .int t1] g := by
    intro E329 En329 hE329 hEn329 k329 hk329 z zn hz hzn l0 l1 l2 l3 l5 l6 l7 t0 t1 g hf
    unfold w_L_isSound_b365 at hf
    refine gg_iadd C dL_isSound_365 ?_
    refine gg_istore (L' := [some (va_rf l0), some (.int l1), some (.int l2), some (.int l3), some (.int (t1 + t0)), some (.int l5), some (.int l6), some (.int l7), none, none]) C dL_isSound_366 (Or.inr (Or.inr ⟨_, rfl, rfl⟩)) (by decide) rfl ?_
    refine gg_iload C dL_isSound_368 rfl ?_
    refine gg_if_lt (tgt := 396) C dL_isSound_370 (by decide) hf (fun hf => ?_) (fun hf => ?_)
    · exact gg_sub (L' := [some (va_rf l0), some (.int l1), some (.int l2), some (.int l3), some (.int (t1 + t0)), some (.int l5), none, none, none, none]) (by first | exact ⟨rfl, ⟨rfl, ⟨rfl, ⟨rfl, ⟨rfl, ⟨rfl, trivial⟩⟩⟩⟩⟩⟩ | simp [gsub]) (hb_396 E329 En329 (by first | exact hE329 | omega) (by first | exact hEn329 | omega) _ hk329 z zn (by first | exact ar_e4 (z := z) hz rfl | omega) (by first | exact ar_e4 (z := zn) hzn rfl | omega) _ _ _ _ _ _ _ hf)
    · refine gg_aload_n C dL_isSound_373 rfl ?_
      refine gg_bipush C dL_isSound_374 (v := (99 : Int32)) (by decide) ?_
      refine gg_iload C dL_isSound_376 rfl ?_
      refine gg_iload C dL_isSound_378 rfl ?_
      refine gr_I (k' := (z + 4)) (n' := (zn + 24)) (gk_SW (As := [va_rf l0, .int (99 : Int32), .int l5, .int l6]) (rest := []) C dL_isSound_380 tw_1105 tw_1106 tw_24 tw_1107 gd_L_both rfl ⟨by decide, by decide⟩ (by simp [gcat, gcI, gcL, gcF, gcD]) ⟨(by show z + 4 ≤ 2602; first | exact ar_e (z := z) hz rfl | omega), (by show zn + 24 ≤ 23674; first | exact ar_e (z := zn) hzn rfl | omega)⟩ (m_L_both hfl hf)) rfl rfl (fun E g9 h9 => h9.elim) (fun i40 g39 hf => ?_)
      refine gg_iconst C dL_isSound_383 (v := (1 : Int32)) (by decide) ?_
      refine gg_icmp_ne (tgt := 394) C dL_isSound_384 (by decide) hf (fun hf => ?_) (fun hf => ?_)
      · exact gg_sub (L' := [none, none, none, none, none, none, none, none, none, none]) (by first | exact trivial | simp [gsub]) (hb_394 (z + 4) (zn + 24) (by first | exact ar_e2 (z := z) hz rfl | omega) (by first | exact ar_e2 (z := zn) hzn rfl | omega) _ hf)
      · refine gg_iload C dL_isSound_387 rfl ?_
        refine gg_iload C dL_isSound_389 rfl ?_
        refine gg_icmp_ne (tgt := 396) C dL_isSound_391 (by decide) hf (fun hf => ?_) (fun hf => ?_)
        · exact gg_sub (L' := [some (va_rf l0), some (.int l1), some (.int l2), some (.int l3), some (.int (t1 + t0)), some (.int l5), none, none, none, none]) (by first | exact ⟨rfl, ⟨rfl, ⟨rfl, ⟨rfl, ⟨rfl, ⟨rfl, trivial⟩⟩⟩⟩⟩⟩ | simp [gsub]) (hb_396 E329 En329 (by first | exact hE329 | omega) (by first | exact hEn329 | omega) _ hk329 (z + 4) (zn + 24) (by first | exact ar_e3 (z := z) hz rfl | omega) (by first | exact ar_e3 (z := zn) hzn rfl | omega) _ _ _ _ _ _ _ hf)
        · exact gg_sub (L' := [none, none, none, none, none, none, none, none, none, none]) (by first | exact trivial | simp [gsub]) (hb_394 (z + 4) (zn + 24) (by first | exact ar_e2 (z := z) hz rfl | omega) (by first | exact ar_e2 (z := zn) hzn rfl | omega) _ hf)
  have hb_329 : ∀ (f z zn : Nat) (hz : z + (f * 88 + 438) ≤ 2602) (hzn : zn + (f * 632 + 2628) ≤ 23674) (l0 : Option Nat) (l1 : Int32) (l2 : Int32) (l3 : Int32) (l4 : Int32) (l5 : Int32) (g : GM), w_L_isSound_l329 X post px  f l0 l1 l2 l3 l4 l5 g → GG X p l e rm_L_isSound s m args below meth c 10 (vx_MQ below (qI X post) (gXC X px) args s rm_L_isSound.cells rm_L_isSound.slots (gA X)) z zn 329 [some (va_rf l0), some (.int l1), some (.int l2), some (.int l3), some (.int l4), some (.int l5), none, none, none, none] [] g := by
    intro  f
    induction f with
    | zero => intro z zn hz hzn l0 l1 l2 l3 l4 l5 g hf; exact (show False from hf).elim
    | succ f ih =>
      intro z zn hz hzn l0 l1 l2 l3 l4 l5 g hf
      rw [w_L_isSound_l329] at hf
      refine gg_iload C dL_isSound_329 rfl ?_
      refine gg_iload_n C dL_isSound_331 rfl ?_
      refine gg_icmp_ge (tgt := 443) C dL_isSound_332 (by decide) hf (fun hf => ?_) (fun hf => ?_)
      · refine gg_iconst C dL_isSound_443 (v := (0 : Int32)) (by decide) ?_
        refine gg_istore (L' := [some (va_rf l0), some (.int l1), some (.int l2), some (.int l3), some (.int l4), some (.int (0 : Int32)), none, none, none, none]) C dL_isSound_444 (Or.inr (Or.inr ⟨_, rfl, rfl⟩)) (by decide) rfl ?_
        refine gg_iconst C dL_isSound_446 (v := (0 : Int32)) (by decide) ?_
        refine gg_istore (L' := [some (va_rf l0), some (.int l1), some (.int l2), some (.int l3), some (.int l4), some (.int (0 : Int32)), some (.int (0 : Int32)), none, none, none]) C dL_isSound_447 (Or.inr (Or.inr ⟨_, rfl, rfl⟩)) (by decide) rfl ?_
        exact gg_sub (L' := [some (va_rf l0), some (.int l1), none, some (.int l3), some (.int l4), some (.int (0 : Int32)), some (.int (0 : Int32)), none, none, none]) (by first | exact ⟨rfl, ⟨rfl, ⟨rfl, ⟨rfl, ⟨rfl, ⟨rfl, trivial⟩⟩⟩⟩⟩⟩ | simp [gsub]) (hb_449 31 z zn (by first | exact ar_f (z := z) hz rfl | omega) (by first | exact ar_f (z := zn) hzn rfl | omega) _ _ _ _ _ _ _ hf)
      · refine gg_aload_n C dL_isSound_335 rfl ?_
        refine gg_iload C dL_isSound_336 rfl ?_
        refine gg_iconst C dL_isSound_338 (v := (0 : Int32)) (by decide) ?_
        refine gr_I (k' := (z + 6)) (n' := (zn + 88)) (gk_SW (As := [va_rf l0, .int l5, .int (0 : Int32)]) (rest := []) C dL_isSound_339 tw_1008 tw_1009 tw_24 tw_1010 gd_L_device rfl ⟨by decide, by decide⟩ (by simp [gcat, gcI, gcL, gcF, gcD]) ⟨(by show z + 6 ≤ 2602; first | exact ar_f (z := z) hz rfl | omega), (by show zn + 88 ≤ 23674; first | exact ar_f (z := zn) hzn rfl | omega)⟩ (m_L_device hfl hf)) rfl rfl (fun E g9 h9 => h9.elim) (fun i32 g31 hf => ?_)
        refine gg_istore (L' := [some (va_rf l0), some (.int l1), some (.int l2), some (.int l3), some (.int l4), some (.int l5), some (.int i32), none, none, none]) C dL_isSound_342 (Or.inr (Or.inr ⟨_, rfl, rfl⟩)) (by decide) rfl ?_
        refine gg_aload_n C dL_isSound_344 rfl ?_
        refine gg_iload C dL_isSound_345 rfl ?_
        refine gg_iconst C dL_isSound_347 (v := (2 : Int32)) (by decide) ?_
        refine gr_I (k' := (z + 12)) (n' := (zn + 176)) (gk_SW (As := [va_rf l0, .int l5, .int (2 : Int32)]) (rest := []) C dL_isSound_348 tw_1008 tw_1009 tw_24 tw_1010 gd_L_device rfl ⟨by decide, by decide⟩ (by simp [gcat, gcI, gcL, gcF, gcD]) ⟨(by show (z + 6) + 6 ≤ 2602; first | exact ar_f2 (z := z) hz rfl | omega), (by show (zn + 88) + 88 ≤ 23674; first | exact ar_f2 (z := zn) hzn rfl | omega)⟩ (m_L_device hfl hf)) (Nat.add_assoc z 6 6) (Nat.add_assoc zn 88 88) (fun E g9 h9 => h9.elim) (fun i34 g33 hf => ?_)
        refine gg_istore (L' := [some (va_rf l0), some (.int l1), some (.int l2), some (.int l3), some (.int l4), some (.int l5), some (.int i32), some (.int i34), none, none]) C dL_isSound_351 (Or.inr (Or.inr ⟨_, rfl, rfl⟩)) (by decide) rfl ?_
        refine gg_iload C dL_isSound_353 rfl ?_
        refine gg_iload C dL_isSound_355 rfl ?_
        refine gg_if_lt (tgt := 364) C dL_isSound_357 (by decide) hf (fun hf => ?_) (fun hf => ?_)
        · refine gg_iconst C dL_isSound_364 (v := (0 : Int32)) (by decide) ?_
          exact gg_sub (L' := [some (va_rf l0), some (.int l1), some (.int l2), some (.int l3), none, some (.int l5), some (.int i32), some (.int i34), none, none]) (by first | exact ⟨rfl, ⟨rfl, ⟨rfl, ⟨rfl, ⟨rfl, ⟨rfl, ⟨rfl, trivial⟩⟩⟩⟩⟩⟩⟩ | simp [gsub]) (hb_365 (f * 88 + 438) (f * 632 + 2628) (by first | exact Nat.le_add_left _ _ | omega) (by first | exact Nat.le_add_left _ _ | omega) _ (ih) (z + 12) (zn + 176) (by first | exact ar_f4 (z := z) hz rfl | omega) (by first | exact ar_f4 (z := zn) hzn rfl | omega) _ _ _ _ _ _ _ _ _ _ hf)
        · refine gg_iconst C dL_isSound_360 (v := (1 : Int32)) (by decide) ?_
          refine gg_goto (tgt := 365) C dL_isSound_361 (by decide) ?_
          exact gg_sub (L' := [some (va_rf l0), some (.int l1), some (.int l2), some (.int l3), none, some (.int l5), some (.int i32), some (.int i34), none, none]) (by first | exact ⟨rfl, ⟨rfl, ⟨rfl, ⟨rfl, ⟨rfl, ⟨rfl, ⟨rfl, trivial⟩⟩⟩⟩⟩⟩⟩ | simp [gsub]) (hb_365 (f * 88 + 438) (f * 632 + 2628) (by first | exact Nat.le_add_left _ _ | omega) (by first | exact Nat.le_add_left _ _ | omega) _ (ih) (z + 12) (zn + 176) (by first | exact ar_f4 (z := z) hz rfl | omega) (by first | exact ar_f4 (z := zn) hzn rfl | omega) _ _ _ _ _ _ _ _ _ _ hf)
  have hb_233 : ∀ (z zn : Nat) (hz : z + (0) ≤ 2602) (hzn : zn + (0) ≤ 23674)  (g : GM), w_L_isSound_b233 X post px   g → GG X p l e rm_L_isSound s m args below meth c 10 (vx_MQ below (qI X post) (gXC X px) args s rm_L_isSound.cells rm_L_isSound.slots (gA X)) z zn 233 [none, none, none, none, none, none, none, none, none, none] [] g := by
    intro  z zn hz hzn  g hf
    unfold w_L_isSound_b233 at hf
    refine gg_iconst C dL_isSound_233 (v := (0 : Int32)) (by decide) ?_
    exact gg_iret C hr (by show z ≤ 2602; first | exact ar_l0 (z := z) hz rfl | omega) (by show zn ≤ 23674; first | exact ar_l0 (z := zn) hzn rfl | omega) dL_isSound_234 rfl hf
  have hb_315 : ∀ (z zn : Nat) (hz : z + (0) ≤ 2602) (hzn : zn + (0) ≤ 23674)  (g : GM), w_L_isSound_b315 X post px   g → GG X p l e rm_L_isSound s m args below meth c 10 (vx_MQ below (qI X post) (gXC X px) args s rm_L_isSound.cells rm_L_isSound.slots (gA X)) z zn 315 [none, none, none, none, none, none, none, none, none, none] [] g := by
    intro  z zn hz hzn  g hf
    unfold w_L_isSound_b315 at hf
    refine gg_iconst C dL_isSound_315 (v := (0 : Int32)) (by decide) ?_
    exact gg_iret C hr (by show z ≤ 2602; first | exact ar_l0 (z := z) hz rfl | omega) (by show zn ≤ 23674; first | exact ar_l0 (z := zn) hzn rfl | omega) dL_isSound_316 rfl hf
  have hb_300 : ∀ (E15 En15 : Nat), 1582 ≤ E15 → 10844 ≤ En15 → ∀ (k15 : Option Nat → Int32 → Int32 → Int32 → Int32 → GM → Prop), (∀ (z zn : Nat), z + E15 ≤ 2602 → zn + En15 ≤ 23674 → ∀ (l0 : Option Nat) (l1 : Int32) (l2 : Int32) (l3 : Int32) (l4 : Int32) (g : GM), k15 l0 l1 l2 l3 l4 g → GG X p l e rm_L_isSound s m args below meth c 10 (vx_MQ below (qI X post) (gXC X px) args s rm_L_isSound.cells rm_L_isSound.slots (gA X)) z zn 15 [some (va_rf l0), some (.int l1), some (.int l2), some (.int l3), some (.int l4), none, none, none, none, none] [] g) → ∀ (z zn : Nat) (hz : z + (2 + E15) ≤ 2602) (hzn : zn + (12 + En15) ≤ 23674) (l0 : Option Nat) (l1 : Int32) (l2 : Int32) (l3 : Int32) (l4 : Int32) (t0 : Int32) (t1 : Int32) (g : GM), w_L_isSound_b300 X post px k15 l0 l1 l2 l3 l4 t0 t1 g → GG X p l e rm_L_isSound s m args below meth c 10 (vx_MQ below (qI X post) (gXC X px) args s rm_L_isSound.cells rm_L_isSound.slots (gA X)) z zn 300 [some (va_rf l0), some (.int l1), some (.int l2), some (.int l3), some (.int l4), none, none, none, none, none] [.int t0, .int t1] g := by
    intro E15 En15 hE15 hEn15 k15 hk15 z zn hz hzn l0 l1 l2 l3 l4 t0 t1 g hf
    unfold w_L_isSound_b300 at hf
    refine gg_icmp_ne (tgt := 315) C dL_isSound_300 (by decide) hf (fun hf => ?_) (fun hf => ?_)
    · exact gg_sub (L' := [none, none, none, none, none, none, none, none, none, none]) (by first | exact trivial | simp [gsub]) (hb_315 z zn (by first | exact ar_e (z := z) hz rfl | omega) (by first | exact ar_e (z := zn) hzn rfl | omega) _ hf)
    · refine gg_aload_n C dL_isSound_303 rfl ?_
      refine gg_bipush C dL_isSound_304 (v := (-9 : Int32)) (by decide) ?_
      refine gg_iconst C dL_isSound_306 (v := (0 : Int32)) (by decide) ?_
      refine gr_I (k' := (z + 2)) (n' := (zn + 12)) (gk_SW (As := [va_rf l0, .int (-9 : Int32), .int (0 : Int32)]) (rest := []) C dL_isSound_307 tw_1228 tw_1229 tw_24 tw_1230 gd_L_group rfl ⟨by decide, by decide⟩ (by simp [gcat, gcI, gcL, gcF, gcD]) ⟨(by show z + 2 ≤ 2602; first | exact ar_e (z := z) hz rfl | omega), (by show zn + 12 ≤ 23674; first | exact ar_e (z := zn) hzn rfl | omega)⟩ (m_L_group hfl hf)) rfl rfl (fun E g9 h9 => h9.elim) (fun i66 g65 hf => ?_)
      refine gg_bipush C dL_isSound_310 (v := (118 : Int32)) (by decide) ?_
      refine gg_icmp_eq (tgt := 317) C dL_isSound_312 (by decide) hf (fun hf => ?_) (fun hf => ?_)
      · refine gg_iinc (L' := [some (va_rf l0), some (.int l1), some (.int l2), some (.int l3), some (.int (l4 + 1)), none, none, none, none, none]) C dL_isSound_317 rfl (v := (l4 + 1)) rfl (Or.inr (Or.inr ⟨_, rfl, rfl⟩)) (by decide) rfl ?_
        refine gg_goto (tgt := 15) C dL_isSound_320 (by decide) ?_
        exact hk15 (z + 2) (zn + 12) (by first | exact ar_e5 (z := z) hz rfl | omega) (by first | exact ar_e5 (z := zn) hzn rfl | omega) _ _ _ _ _ _ hf
      · exact gg_sub (L' := [none, none, none, none, none, none, none, none, none, none]) (by first | exact trivial | simp [gsub]) (hb_315 (z + 2) (zn + 12) (by first | exact ar_e2 (z := z) hz rfl | omega) (by first | exact ar_e2 (z := zn) hzn rfl | omega) _ hf)
  have hb_282 : ∀ (E15 En15 : Nat), 1582 ≤ E15 → 10844 ≤ En15 → ∀ (k15 : Option Nat → Int32 → Int32 → Int32 → Int32 → GM → Prop), (∀ (z zn : Nat), z + E15 ≤ 2602 → zn + En15 ≤ 23674 → ∀ (l0 : Option Nat) (l1 : Int32) (l2 : Int32) (l3 : Int32) (l4 : Int32) (g : GM), k15 l0 l1 l2 l3 l4 g → GG X p l e rm_L_isSound s m args below meth c 10 (vx_MQ below (qI X post) (gXC X px) args s rm_L_isSound.cells rm_L_isSound.slots (gA X)) z zn 15 [some (va_rf l0), some (.int l1), some (.int l2), some (.int l3), some (.int l4), none, none, none, none, none] [] g) → ∀ (z zn : Nat) (hz : z + (4 + E15) ≤ 2602) (hzn : zn + (24 + En15) ≤ 23674) (l0 : Option Nat) (l1 : Int32) (l2 : Int32) (l3 : Int32) (l4 : Int32) (t0 : Int32) (g : GM), w_L_isSound_b282 X post px k15 l0 l1 l2 l3 l4 t0 g → GG X p l e rm_L_isSound s m args below meth c 10 (vx_MQ below (qI X post) (gXC X px) args s rm_L_isSound.cells rm_L_isSound.slots (gA X)) z zn 282 [some (va_rf l0), some (.int l1), some (.int l2), some (.int l3), some (.int l4), none, none, none, none, none] [.int t0] g := by
    intro E15 En15 hE15 hEn15 k15 hk15 z zn hz hzn l0 l1 l2 l3 l4 t0 g hf
    unfold w_L_isSound_b282 at hf
    refine gg_aload_n C dL_isSound_282 rfl ?_
    refine gg_iload C dL_isSound_283 rfl ?_
    refine gr_L (k' := (z + 2)) (n' := (zn + 12)) (gk_SW (As := [va_rf l0, .int l4]) (rest := [.int t0]) C dL_isSound_285 tw_1321 tw_1322 tw_24 tw_1323 gd_L_ratingBits rfl ⟨by decide, by decide⟩ (by simp [gcat, gcI, gcL, gcF, gcD]) ⟨(by show z + 2 ≤ 2602; first | exact ar_e (z := z) hz rfl | omega), (by show zn + 12 ≤ 23674; first | exact ar_e (z := zn) hzn rfl | omega)⟩ (m_L_ratingBits hfl hf)) rfl rfl (fun E g9 h9 => h9.elim) (fun y64 g63 hf => ?_)
    refine gg_ldc2 C dL_isSound_288 (v := (-1006 : Int64)) tw_1329 ?_
    refine gg_lcmp C dL_isSound_291 ?_
    refine gg_if_ne (tgt := 299) C dL_isSound_292 (by decide) hf (fun hf => ?_) (fun hf => ?_)
    · refine gg_iconst C dL_isSound_299 (v := (0 : Int32)) (by decide) ?_
      exact hb_300 E15 En15 (by first | exact hE15 | omega) (by first | exact hEn15 | omega) _ hk15 (z + 2) (zn + 12) (by first | exact ar_e3 (z := z) hz rfl | omega) (by first | exact ar_e3 (z := zn) hzn rfl | omega) _ _ _ _ _ _ _ _ hf
    · refine gg_iconst C dL_isSound_295 (v := (1 : Int32)) (by decide) ?_
      refine gg_goto (tgt := 300) C dL_isSound_296 (by decide) ?_
      exact hb_300 E15 En15 (by first | exact hE15 | omega) (by first | exact hEn15 | omega) _ hk15 (z + 2) (zn + 12) (by first | exact ar_e3 (z := z) hz rfl | omega) (by first | exact ar_e3 (z := zn) hzn rfl | omega) _ _ _ _ _ _ _ _ hf
  have hb_268 : ∀ (E15 En15 : Nat), 1582 ≤ E15 → 10844 ≤ En15 → ∀ (k15 : Option Nat → Int32 → Int32 → Int32 → Int32 → GM → Prop), (∀ (z zn : Nat), z + E15 ≤ 2602 → zn + En15 ≤ 23674 → ∀ (l0 : Option Nat) (l1 : Int32) (l2 : Int32) (l3 : Int32) (l4 : Int32) (g : GM), k15 l0 l1 l2 l3 l4 g → GG X p l e rm_L_isSound s m args below meth c 10 (vx_MQ below (qI X post) (gXC X px) args s rm_L_isSound.cells rm_L_isSound.slots (gA X)) z zn 15 [some (va_rf l0), some (.int l1), some (.int l2), some (.int l3), some (.int l4), none, none, none, none, none] [] g) → ∀ (z zn : Nat) (hz : z + (4 + E15) ≤ 2602) (hzn : zn + (24 + En15) ≤ 23674) (l0 : Option Nat) (l1 : Int32) (l2 : Int32) (l3 : Int32) (l4 : Int32) (l8 : UInt64) (g : GM), w_L_isSound_b268 X post px k15 l0 l1 l2 l3 l4 l8 g → GG X p l e rm_L_isSound s m args below meth c 10 (vx_MQ below (qI X post) (gXC X px) args s rm_L_isSound.cells rm_L_isSound.slots (gA X)) z zn 268 [some (va_rf l0), some (.int l1), some (.int l2), some (.int l3), some (.int l4), none, none, none, some (.double l8), none] [] g := by
    intro E15 En15 hE15 hEn15 k15 hk15 z zn hz hzn l0 l1 l2 l3 l4 l8 g hf
    unfold w_L_isSound_b268 at hf
    refine gg_dload C dL_isSound_268 rfl ?_
    refine gg_ldc2d C dL_isSound_270 (v := (13835058055282163712 : UInt64)) tw_1320 ?_
    refine gg_dcmp C dL_isSound_273 ?_
    refine gg_if_ne (tgt := 281) C dL_isSound_274 (by decide) hf (fun hf => ?_) (fun hf => ?_)
    · refine gg_iconst C dL_isSound_281 (v := (0 : Int32)) (by decide) ?_
      exact gg_sub (L' := [some (va_rf l0), some (.int l1), some (.int l2), some (.int l3), some (.int l4), none, none, none, none, none]) (by first | exact ⟨rfl, ⟨rfl, ⟨rfl, ⟨rfl, ⟨rfl, trivial⟩⟩⟩⟩⟩ | simp [gsub]) (hb_282 E15 En15 (by first | exact hE15 | omega) (by first | exact hEn15 | omega) _ hk15 z zn (by first | exact ar_e4 (z := z) hz rfl | omega) (by first | exact ar_e4 (z := zn) hzn rfl | omega) _ _ _ _ _ _ _ hf)
    · refine gg_iconst C dL_isSound_277 (v := (1 : Int32)) (by decide) ?_
      refine gg_goto (tgt := 282) C dL_isSound_278 (by decide) ?_
      exact gg_sub (L' := [some (va_rf l0), some (.int l1), some (.int l2), some (.int l3), some (.int l4), none, none, none, none, none]) (by first | exact ⟨rfl, ⟨rfl, ⟨rfl, ⟨rfl, ⟨rfl, trivial⟩⟩⟩⟩⟩ | simp [gsub]) (hb_282 E15 En15 (by first | exact hE15 | omega) (by first | exact hEn15 | omega) _ hk15 z zn (by first | exact ar_e4 (z := z) hz rfl | omega) (by first | exact ar_e4 (z := zn) hzn rfl | omega) _ _ _ _ _ _ _ hf)
  have hb_187 : ∀ (E15 En15 : Nat), 1582 ≤ E15 → 10844 ≤ En15 → ∀ (k15 : Option Nat → Int32 → Int32 → Int32 → Int32 → GM → Prop), (∀ (z zn : Nat), z + E15 ≤ 2602 → zn + En15 ≤ 23674 → ∀ (l0 : Option Nat) (l1 : Int32) (l2 : Int32) (l3 : Int32) (l4 : Int32) (g : GM), k15 l0 l1 l2 l3 l4 g → GG X p l e rm_L_isSound s m args below meth c 10 (vx_MQ below (qI X post) (gXC X px) args s rm_L_isSound.cells rm_L_isSound.slots (gA X)) z zn 15 [some (va_rf l0), some (.int l1), some (.int l2), some (.int l3), some (.int l4), none, none, none, none, none] [] g) → ∀ (z zn : Nat) (hz : z + (20 + E15) ≤ 2602) (hzn : zn + (730 + En15) ≤ 23674) (l0 : Option Nat) (l1 : Int32) (l2 : Int32) (l3 : Int32) (l4 : Int32) (l7 : Int32) (g : GM), w_L_isSound_b187 X post px k15 l0 l1 l2 l3 l4 l7 g → GG X p l e rm_L_isSound s m args below meth c 10 (vx_MQ below (qI X post) (gXC X px) args s rm_L_isSound.cells rm_L_isSound.slots (gA X)) z zn 187 [some (va_rf l0), some (.int l1), some (.int l2), some (.int l3), some (.int l4), none, none, some (.int l7), none, none] [] g := by
    intro E15 En15 hE15 hEn15 k15 hk15 z zn hz hzn l0 l1 l2 l3 l4 l7 g hf
    unfold w_L_isSound_b187 at hf
    refine gg_aload_n C dL_isSound_187 rfl ?_
    refine gg_iload C dL_isSound_188 rfl ?_
    refine gg_bipush C dL_isSound_190 (v := (7 : Int32)) (by decide) ?_
    refine gr_I (k' := (z + 2)) (n' := (zn + 12)) (gk_SW (As := [va_rf l0, .int l4, .int (7 : Int32)]) (rest := []) C dL_isSound_192 tw_607 tw_608 tw_24 tw_609 gd_L_of rfl ⟨by decide, by decide⟩ (by simp [gcat, gcI, gcL, gcF, gcD]) ⟨(by show z + 2 ≤ 2602; first | exact ar_e (z := z) hz rfl | omega), (by show zn + 12 ≤ 23674; first | exact ar_e (z := zn) hzn rfl | omega)⟩ (m_L_ofq hfl hf)) rfl rfl (fun E g9 h9 => h9.elim) (fun i54 g53 hf => ?_)
    refine gg_aload_n C dL_isSound_195 rfl ?_
    refine gg_iload C dL_isSound_196 rfl ?_
    refine gg_bipush C dL_isSound_198 (v := (8 : Int32)) (by decide) ?_
    refine gr_I (k' := (z + 4)) (n' := (zn + 24)) (gk_SW (As := [va_rf l0, .int l4, .int (8 : Int32)]) (rest := [.int i54]) C dL_isSound_200 tw_607 tw_608 tw_24 tw_609 gd_L_of rfl ⟨by decide, by decide⟩ (by simp [gcat, gcI, gcL, gcF, gcD]) ⟨(by show (z + 2) + 2 ≤ 2602; first | exact ar_e2 (z := z) hz rfl | omega), (by show (zn + 12) + 12 ≤ 23674; first | exact ar_e2 (z := zn) hzn rfl | omega)⟩ (m_L_ofq hfl hf)) (Nat.add_assoc z 2 2) (Nat.add_assoc zn 12 12) (fun E g9 h9 => h9.elim) (fun i56 g55 hf => ?_)
    refine gg_icmp_gt (tgt := 233) C dL_isSound_203 (by decide) hf (fun hf => ?_) (fun hf => ?_)
    · exact gg_sub (L' := [none, none, none, none, none, none, none, none, none, none]) (by first | exact trivial | simp [gsub]) (hb_233 (z + 4) (zn + 24) (by first | exact ar_e2 (z := z) hz rfl | omega) (by first | exact ar_e2 (z := zn) hzn rfl | omega) _ hf)
    · refine gg_aload_n C dL_isSound_206 rfl ?_
      refine gg_bipush C dL_isSound_207 (v := (112 : Int32)) (by decide) ?_
      refine gg_iload C dL_isSound_209 rfl ?_
      refine gg_iconst C dL_isSound_211 (v := (1 : Int32)) (by decide) ?_
      refine gr_I (k' := (z + 8)) (n' := (zn + 48)) (gk_SW (As := [va_rf l0, .int (112 : Int32), .int l4, .int (1 : Int32)]) (rest := []) C dL_isSound_212 tw_1105 tw_1106 tw_24 tw_1107 gd_L_both rfl ⟨by decide, by decide⟩ (by simp [gcat, gcI, gcL, gcF, gcD]) ⟨(by show (z + 4) + 4 ≤ 2602; first | exact ar_e2 (z := z) hz rfl | omega), (by show (zn + 24) + 24 ≤ 23674; first | exact ar_e2 (z := zn) hzn rfl | omega)⟩ (m_L_both hfl hf)) (Nat.add_assoc z 4 4) (Nat.add_assoc zn 24 24) (fun E g9 h9 => h9.elim) (fun i58 g57 hf => ?_)
      refine gg_iload C dL_isSound_215 rfl ?_
      refine gg_icmp_lt (tgt := 233) C dL_isSound_217 (by decide) hf (fun hf => ?_) (fun hf => ?_)
      · exact gg_sub (L' := [none, none, none, none, none, none, none, none, none, none]) (by first | exact trivial | simp [gsub]) (hb_233 (z + 8) (zn + 48) (by first | exact ar_e2 (z := z) hz rfl | omega) (by first | exact ar_e2 (z := zn) hzn rfl | omega) _ hf)
      · refine gg_aload_n C dL_isSound_220 rfl ?_
        refine gg_iload C dL_isSound_221 rfl ?_
        refine gg_bipush C dL_isSound_223 (v := (9 : Int32)) (by decide) ?_
        refine gr_I (k' := (z + 14)) (n' := (zn + 694)) (gk_SW (As := [va_rf l0, .int l4, .int (9 : Int32)]) (rest := []) C dL_isSound_225 tw_607 tw_608 tw_24 tw_609 gd_L_of rfl ⟨by decide, by decide⟩ (by simp [gcat, gcI, gcL, gcF, gcD]) ⟨(by show (z + 8) + 6 ≤ 2602; first | exact ar_e2 (z := z) hz rfl | omega), (by show (zn + 48) + 646 ≤ 23674; first | exact ar_e2 (z := zn) hzn rfl | omega)⟩ (m_L_of hfl hf)) (Nat.add_assoc z 8 6) (Nat.add_assoc zn 48 646) (fun E g9 h9 => h9.elim) (fun i60 g59 hf => ?_)
        refine gg_bipush C dL_isSound_228 (v := (10 : Int32)) (by decide) ?_
        refine gg_icmp_ge (tgt := 235) C dL_isSound_230 (by decide) hf (fun hf => ?_) (fun hf => ?_)
        · refine gg_aload_n C dL_isSound_235 rfl ?_
          refine gg_iload C dL_isSound_236 rfl ?_
          refine gr_D (k' := (z + 16)) (n' := (zn + 706)) (gk_SW (As := [va_rf l0, .int l4]) (rest := []) C dL_isSound_238 tw_1291 tw_1292 tw_24 tw_1293 gd_L_rating rfl ⟨by decide, by decide⟩ (by simp [gcat, gcI, gcL, gcF, gcD]) ⟨(by show (z + 14) + 2 ≤ 2602; first | exact ar_e2 (z := z) hz rfl | omega), (by show (zn + 694) + 12 ≤ 23674; first | exact ar_e2 (z := zn) hzn rfl | omega)⟩ (m_L_rating hfl hf)) (Nat.add_assoc z 14 2) (Nat.add_assoc zn 694 12) (fun E g9 h9 => h9.elim) (fun z62 g61 hf => ?_)
          refine gg_dstore (L' := [some (va_rf l0), some (.int l1), some (.int l2), some (.int l3), some (.int l4), none, none, some (.int l7), some (.double z62), none]) C dL_isSound_241 (Or.inr (Or.inr ⟨_, rfl, rfl⟩)) (by decide) rfl ?_
          refine gg_dload C dL_isSound_243 rfl ?_
          refine gg_ldc2d C dL_isSound_245 (v := (4617315517961601024 : UInt64)) tw_1360 ?_
          refine gg_dcmp C dL_isSound_248 ?_
          refine gg_if_gt (tgt := 315) C dL_isSound_249 (by decide) hf (fun hf => ?_) (fun hf => ?_)
          · exact gg_sub (L' := [none, none, none, none, none, none, none, none, none, none]) (by first | exact trivial | simp [gsub]) (hb_315 (z + 16) (zn + 706) (by first | exact ar_e2 (z := z) hz rfl | omega) (by first | exact ar_e2 (z := zn) hzn rfl | omega) _ hf)
          · refine gg_dload C dL_isSound_252 rfl ?_
            refine gg_dconst1 C dL_isSound_254 ?_
            refine gg_dcmp C dL_isSound_255 ?_
            refine gg_if_ge (tgt := 268) C dL_isSound_256 (by decide) hf (fun hf => ?_) (fun hf => ?_)
            · exact gg_sub (L' := [some (va_rf l0), some (.int l1), some (.int l2), some (.int l3), some (.int l4), none, none, none, some (.double z62), none]) (by first | exact ⟨rfl, ⟨rfl, ⟨rfl, ⟨rfl, ⟨rfl, ⟨rfl, trivial⟩⟩⟩⟩⟩⟩ | simp [gsub]) (hb_268 E15 En15 (by first | exact hE15 | omega) (by first | exact hEn15 | omega) _ hk15 (z + 16) (zn + 706) (by first | exact ar_e3 (z := z) hz rfl | omega) (by first | exact ar_e3 (z := zn) hzn rfl | omega) _ _ _ _ _ _ _ hf)
            · refine gg_dload C dL_isSound_259 rfl ?_
              refine gg_ldc2d C dL_isSound_261 (v := (13835058055282163712 : UInt64)) tw_1320 ?_
              refine gg_dcmp C dL_isSound_264 ?_
              refine gg_if_ne (tgt := 315) C dL_isSound_265 (by decide) hf (fun hf => ?_) (fun hf => ?_)
              · exact gg_sub (L' := [none, none, none, none, none, none, none, none, none, none]) (by first | exact trivial | simp [gsub]) (hb_315 (z + 16) (zn + 706) (by first | exact ar_e2 (z := z) hz rfl | omega) (by first | exact ar_e2 (z := zn) hzn rfl | omega) _ hf)
              · exact gg_sub (L' := [some (va_rf l0), some (.int l1), some (.int l2), some (.int l3), some (.int l4), none, none, none, some (.double z62), none]) (by first | exact ⟨rfl, ⟨rfl, ⟨rfl, ⟨rfl, ⟨rfl, ⟨rfl, trivial⟩⟩⟩⟩⟩⟩ | simp [gsub]) (hb_268 E15 En15 (by first | exact hE15 | omega) (by first | exact hEn15 | omega) _ hk15 (z + 16) (zn + 706) (by first | exact ar_e3 (z := z) hz rfl | omega) (by first | exact ar_e3 (z := zn) hzn rfl | omega) _ _ _ _ _ _ _ hf)
        · exact gg_sub (L' := [none, none, none, none, none, none, none, none, none, none]) (by first | exact trivial | simp [gsub]) (hb_233 (z + 14) (zn + 694) (by first | exact ar_e2 (z := z) hz rfl | omega) (by first | exact ar_e2 (z := zn) hzn rfl | omega) _ hf)
  have hb_163 : ∀ (E15 En15 : Nat), 1582 ≤ E15 → 10844 ≤ En15 → ∀ (k15 : Option Nat → Int32 → Int32 → Int32 → Int32 → GM → Prop), (∀ (z zn : Nat), z + E15 ≤ 2602 → zn + En15 ≤ 23674 → ∀ (l0 : Option Nat) (l1 : Int32) (l2 : Int32) (l3 : Int32) (l4 : Int32) (g : GM), k15 l0 l1 l2 l3 l4 g → GG X p l e rm_L_isSound s m args below meth c 10 (vx_MQ below (qI X post) (gXC X px) args s rm_L_isSound.cells rm_L_isSound.slots (gA X)) z zn 15 [some (va_rf l0), some (.int l1), some (.int l2), some (.int l3), some (.int l4), none, none, none, none, none] [] g) → ∀ (z zn : Nat) (hz : z + (22 + E15) ≤ 2602) (hzn : zn + (742 + En15) ≤ 23674) (l0 : Option Nat) (l1 : Int32) (l2 : Int32) (l3 : Int32) (l4 : Int32) (l7 : Int32) (g : GM), w_L_isSound_b163 X post px k15 l0 l1 l2 l3 l4 l7 g → GG X p l e rm_L_isSound s m args below meth c 10 (vx_MQ below (qI X post) (gXC X px) args s rm_L_isSound.cells rm_L_isSound.slots (gA X)) z zn 163 [some (va_rf l0), some (.int l1), some (.int l2), some (.int l3), some (.int l4), none, none, some (.int l7), none, none] [] g := by
    intro E15 En15 hE15 hEn15 k15 hk15 z zn hz hzn l0 l1 l2 l3 l4 l7 g hf
    unfold w_L_isSound_b163 at hf
    refine gg_iload C dL_isSound_163 rfl ?_
    refine gg_bipush C dL_isSound_165 (v := (100 : Int32)) (by decide) ?_
    refine gg_icmp_gt (tgt := 233) C dL_isSound_167 (by decide) hf (fun hf => ?_) (fun hf => ?_)
    · exact gg_sub (L' := [none, none, none, none, none, none, none, none, none, none]) (by first | exact trivial | simp [gsub]) (hb_233 z zn (by first | exact ar_e (z := z) hz rfl | omega) (by first | exact ar_e (z := zn) hzn rfl | omega) _ hf)
    · refine gg_iload C dL_isSound_170 rfl ?_
      refine gg_if_le (tgt := 187) C dL_isSound_172 (by decide) hf (fun hf => ?_) (fun hf => ?_)
      · exact hb_187 E15 En15 (by first | exact hE15 | omega) (by first | exact hEn15 | omega) _ hk15 z zn (by first | exact ar_e4 (z := z) hz rfl | omega) (by first | exact ar_e4 (z := zn) hzn rfl | omega) _ _ _ _ _ _ _ hf
      · refine gg_aload_n C dL_isSound_175 rfl ?_
        refine gg_iload C dL_isSound_176 rfl ?_
        refine gg_iconst C dL_isSound_178 (v := (2 : Int32)) (by decide) ?_
        refine gr_I (k' := (z + 2)) (n' := (zn + 12)) (gk_SW (As := [va_rf l0, .int l4, .int (2 : Int32)]) (rest := []) C dL_isSound_179 tw_607 tw_608 tw_24 tw_609 gd_L_of rfl ⟨by decide, by decide⟩ (by simp [gcat, gcI, gcL, gcF, gcD]) ⟨(by show z + 2 ≤ 2602; first | exact ar_e (z := z) hz rfl | omega), (by show zn + 12 ≤ 23674; first | exact ar_e (z := zn) hzn rfl | omega)⟩ (m_L_ofq hfl hf)) rfl rfl (fun E g9 h9 => h9.elim) (fun i68 g67 hf => ?_)
        refine gg_bipush C dL_isSound_182 (v := (97 : Int32)) (by decide) ?_
        refine gg_icmp_ne (tgt := 233) C dL_isSound_184 (by decide) hf (fun hf => ?_) (fun hf => ?_)
        · exact gg_sub (L' := [none, none, none, none, none, none, none, none, none, none]) (by first | exact trivial | simp [gsub]) (hb_233 (z + 2) (zn + 12) (by first | exact ar_e2 (z := z) hz rfl | omega) (by first | exact ar_e2 (z := zn) hzn rfl | omega) _ hf)
        · exact hb_187 E15 En15 (by first | exact hE15 | omega) (by first | exact hEn15 | omega) _ hk15 (z + 2) (zn + 12) (by first | exact ar_e3 (z := z) hz rfl | omega) (by first | exact ar_e3 (z := zn) hzn rfl | omega) _ _ _ _ _ _ _ hf
  have hb_153 : ∀ (E15 En15 : Nat), 1582 ≤ E15 → 10844 ≤ En15 → ∀ (k15 : Option Nat → Int32 → Int32 → Int32 → Int32 → GM → Prop), (∀ (z zn : Nat), z + E15 ≤ 2602 → zn + En15 ≤ 23674 → ∀ (l0 : Option Nat) (l1 : Int32) (l2 : Int32) (l3 : Int32) (l4 : Int32) (g : GM), k15 l0 l1 l2 l3 l4 g → GG X p l e rm_L_isSound s m args below meth c 10 (vx_MQ below (qI X post) (gXC X px) args s rm_L_isSound.cells rm_L_isSound.slots (gA X)) z zn 15 [some (va_rf l0), some (.int l1), some (.int l2), some (.int l3), some (.int l4), none, none, none, none, none] [] g) → ∀ (z zn : Nat) (hz : z + (22 + E15) ≤ 2602) (hzn : zn + (742 + En15) ≤ 23674) (l0 : Option Nat) (l1 : Int32) (l2 : Int32) (l3 : Int32) (l4 : Int32) (l5 : Int32) (l7 : Int32) (g : GM), w_L_isSound_b153 X post px k15 l0 l1 l2 l3 l4 l5 l7 g → GG X p l e rm_L_isSound s m args below meth c 10 (vx_MQ below (qI X post) (gXC X px) args s rm_L_isSound.cells rm_L_isSound.slots (gA X)) z zn 153 [some (va_rf l0), some (.int l1), some (.int l2), some (.int l3), some (.int l4), some (.int l5), none, some (.int l7), none, none] [] g := by
    intro E15 En15 hE15 hEn15 k15 hk15 z zn hz hzn l0 l1 l2 l3 l4 l5 l7 g hf
    unfold w_L_isSound_b153 at hf
    refine gg_iload C dL_isSound_153 rfl ?_
    refine gg_if_ne (tgt := 163) C dL_isSound_155 (by decide) hf (fun hf => ?_) (fun hf => ?_)
    · exact gg_sub (L' := [some (va_rf l0), some (.int l1), some (.int l2), some (.int l3), some (.int l4), none, none, some (.int l7), none, none]) (by first | exact ⟨rfl, ⟨rfl, ⟨rfl, ⟨rfl, ⟨rfl, ⟨rfl, trivial⟩⟩⟩⟩⟩⟩ | simp [gsub]) (hb_163 E15 En15 (by first | exact hE15 | omega) (by first | exact hEn15 | omega) _ hk15 z zn (by first | exact ar_e4 (z := z) hz rfl | omega) (by first | exact ar_e4 (z := zn) hzn rfl | omega) _ _ _ _ _ _ _ hf)
    · refine gg_iload C dL_isSound_158 rfl ?_
      refine gg_if_gt (tgt := 233) C dL_isSound_160 (by decide) hf (fun hf => ?_) (fun hf => ?_)
      · exact gg_sub (L' := [none, none, none, none, none, none, none, none, none, none]) (by first | exact trivial | simp [gsub]) (hb_233 z zn (by first | exact ar_e (z := z) hz rfl | omega) (by first | exact ar_e (z := zn) hzn rfl | omega) _ hf)
      · exact gg_sub (L' := [some (va_rf l0), some (.int l1), some (.int l2), some (.int l3), some (.int l4), none, none, some (.int l7), none, none]) (by first | exact ⟨rfl, ⟨rfl, ⟨rfl, ⟨rfl, ⟨rfl, ⟨rfl, trivial⟩⟩⟩⟩⟩⟩ | simp [gsub]) (hb_163 E15 En15 (by first | exact hE15 | omega) (by first | exact hEn15 | omega) _ hk15 z zn (by first | exact ar_e4 (z := z) hz rfl | omega) (by first | exact ar_e4 (z := zn) hzn rfl | omega) _ _ _ _ _ _ _ hf)
  have hb_138 : ∀ (E15 En15 : Nat), 1582 ≤ E15 → 10844 ≤ En15 → ∀ (k15 : Option Nat → Int32 → Int32 → Int32 → Int32 → GM → Prop), (∀ (z zn : Nat), z + E15 ≤ 2602 → zn + En15 ≤ 23674 → ∀ (l0 : Option Nat) (l1 : Int32) (l2 : Int32) (l3 : Int32) (l4 : Int32) (g : GM), k15 l0 l1 l2 l3 l4 g → GG X p l e rm_L_isSound s m args below meth c 10 (vx_MQ below (qI X post) (gXC X px) args s rm_L_isSound.cells rm_L_isSound.slots (gA X)) z zn 15 [some (va_rf l0), some (.int l1), some (.int l2), some (.int l3), some (.int l4), none, none, none, none, none] [] g) → ∀ (z zn : Nat) (hz : z + (22 + E15) ≤ 2602) (hzn : zn + (742 + En15) ≤ 23674) (l0 : Option Nat) (l1 : Int32) (l2 : Int32) (l3 : Int32) (l4 : Int32) (l5 : Int32) (l6 : Int32) (l7 : Int32) (t0 : Int32) (t1 : Int32) (g : GM), w_L_isSound_b138 X post px k15 l0 l1 l2 l3 l4 l5 l6 l7 t0 t1 g → GG X p l e rm_L_isSound s m args below meth c 10 (vx_MQ below (qI X post) (gXC X px) args s rm_L_isSound.cells rm_L_isSound.slots (gA X)) z zn 138 [some (va_rf l0), some (.int l1), some (.int l2), some (.int l3), some (.int l4), some (.int l5), some (.int l6), some (.int l7), none, none] [.int t0, .int t1] g := by
    intro E15 En15 hE15 hEn15 k15 hk15 z zn hz hzn l0 l1 l2 l3 l4 l5 l6 l7 t0 t1 g hf
    unfold w_L_isSound_b138 at hf
    refine gg_icmp_ne (tgt := 233) C dL_isSound_138 (by decide) hf (fun hf => ?_) (fun hf => ?_)
    · exact gg_sub (L' := [none, none, none, none, none, none, none, none, none, none]) (by first | exact trivial | simp [gsub]) (hb_233 z zn (by first | exact ar_e (z := z) hz rfl | omega) (by first | exact ar_e (z := zn) hzn rfl | omega) _ hf)
    · refine gg_iload C dL_isSound_141 rfl ?_
      refine gg_bipush C dL_isSound_143 (v := (45 : Int32)) (by decide) ?_
      refine gg_icmp_eq (tgt := 153) C dL_isSound_145 (by decide) hf (fun hf => ?_) (fun hf => ?_)
      · exact gg_sub (L' := [some (va_rf l0), some (.int l1), some (.int l2), some (.int l3), some (.int l4), some (.int l5), none, some (.int l7), none, none]) (by first | exact ⟨rfl, ⟨rfl, ⟨rfl, ⟨rfl, ⟨rfl, ⟨rfl, ⟨rfl, trivial⟩⟩⟩⟩⟩⟩⟩ | simp [gsub]) (hb_153 E15 En15 (by first | exact hE15 | omega) (by first | exact hEn15 | omega) _ hk15 z zn (by first | exact ar_e4 (z := z) hz rfl | omega) (by first | exact ar_e4 (z := zn) hzn rfl | omega) _ _ _ _ _ _ _ _ hf)
      · refine gg_iload C dL_isSound_148 rfl ?_
        refine gg_if_gt (tgt := 233) C dL_isSound_150 (by decide) hf (fun hf => ?_) (fun hf => ?_)
        · exact gg_sub (L' := [none, none, none, none, none, none, none, none, none, none]) (by first | exact trivial | simp [gsub]) (hb_233 z zn (by first | exact ar_e (z := z) hz rfl | omega) (by first | exact ar_e (z := zn) hzn rfl | omega) _ hf)
        · exact gg_sub (L' := [some (va_rf l0), some (.int l1), some (.int l2), some (.int l3), some (.int l4), some (.int l5), none, some (.int l7), none, none]) (by first | exact ⟨rfl, ⟨rfl, ⟨rfl, ⟨rfl, ⟨rfl, ⟨rfl, ⟨rfl, trivial⟩⟩⟩⟩⟩⟩⟩ | simp [gsub]) (hb_153 E15 En15 (by first | exact hE15 | omega) (by first | exact hEn15 | omega) _ hk15 z zn (by first | exact ar_e4 (z := z) hz rfl | omega) (by first | exact ar_e4 (z := zn) hzn rfl | omega) _ _ _ _ _ _ _ _ hf)
  have hb_121 : ∀ (E15 En15 : Nat), 1582 ≤ E15 → 10844 ≤ En15 → ∀ (k15 : Option Nat → Int32 → Int32 → Int32 → Int32 → GM → Prop), (∀ (z zn : Nat), z + E15 ≤ 2602 → zn + En15 ≤ 23674 → ∀ (l0 : Option Nat) (l1 : Int32) (l2 : Int32) (l3 : Int32) (l4 : Int32) (g : GM), k15 l0 l1 l2 l3 l4 g → GG X p l e rm_L_isSound s m args below meth c 10 (vx_MQ below (qI X post) (gXC X px) args s rm_L_isSound.cells rm_L_isSound.slots (gA X)) z zn 15 [some (va_rf l0), some (.int l1), some (.int l2), some (.int l3), some (.int l4), none, none, none, none, none] [] g) → ∀ (z zn : Nat) (hz : z + (24 + E15) ≤ 2602) (hzn : zn + (754 + En15) ≤ 23674) (l0 : Option Nat) (l1 : Int32) (l2 : Int32) (l3 : Int32) (l4 : Int32) (l5 : Int32) (l6 : Int32) (l7 : Int32) (t0 : Int32) (g : GM), w_L_isSound_b121 X post px k15 l0 l1 l2 l3 l4 l5 l6 l7 t0 g → GG X p l e rm_L_isSound s m args below meth c 10 (vx_MQ below (qI X post) (gXC X px) args s rm_L_isSound.cells rm_L_isSound.slots (gA X)) z zn 121 [some (va_rf l0), some (.int l1), some (.int l2), some (.int l3), some (.int l4), some (.int l5), some (.int l6), some (.int l7), none, none] [.int t0] g := by
    intro E15 En15 hE15 hEn15 k15 hk15 z zn hz hzn l0 l1 l2 l3 l4 l5 l6 l7 t0 g hf
    unfold w_L_isSound_b121 at hf
    refine gg_aload_n C dL_isSound_121 rfl ?_
    refine gg_iload C dL_isSound_122 rfl ?_
    refine gg_iconst C dL_isSound_124 (v := (2 : Int32)) (by decide) ?_
    refine gr_I (k' := (z + 2)) (n' := (zn + 12)) (gk_SW (As := [va_rf l0, .int l4, .int (2 : Int32)]) (rest := [.int t0]) C dL_isSound_125 tw_607 tw_608 tw_24 tw_609 gd_L_of rfl ⟨by decide, by decide⟩ (by simp [gcat, gcI, gcL, gcF, gcD]) ⟨(by show z + 2 ≤ 2602; first | exact ar_e (z := z) hz rfl | omega), (by show zn + 12 ≤ 23674; first | exact ar_e (z := zn) hzn rfl | omega)⟩ (m_L_ofq hfl hf)) rfl rfl (fun E g9 h9 => h9.elim) (fun i52 g51 hf => ?_)
    refine gg_bipush C dL_isSound_128 (v := (97 : Int32)) (by decide) ?_
    refine gg_icmp_eq (tgt := 137) C dL_isSound_130 (by decide) hf (fun hf => ?_) (fun hf => ?_)
    · refine gg_iconst C dL_isSound_137 (v := (0 : Int32)) (by decide) ?_
      exact hb_138 E15 En15 (by first | exact hE15 | omega) (by first | exact hEn15 | omega) _ hk15 (z + 2) (zn + 12) (by first | exact ar_e3 (z := z) hz rfl | omega) (by first | exact ar_e3 (z := zn) hzn rfl | omega) _ _ _ _ _ _ _ _ _ _ _ hf
    · refine gg_iconst C dL_isSound_133 (v := (1 : Int32)) (by decide) ?_
      refine gg_goto (tgt := 138) C dL_isSound_134 (by decide) ?_
      exact hb_138 E15 En15 (by first | exact hE15 | omega) (by first | exact hEn15 | omega) _ hk15 (z + 2) (zn + 12) (by first | exact ar_e3 (z := z) hz rfl | omega) (by first | exact ar_e3 (z := zn) hzn rfl | omega) _ _ _ _ _ _ _ _ _ _ _ hf
  have hb_27 : ∀ (E15 En15 : Nat), 1582 ≤ E15 → 10844 ≤ En15 → ∀ (k15 : Option Nat → Int32 → Int32 → Int32 → Int32 → GM → Prop), (∀ (z zn : Nat), z + E15 ≤ 2602 → zn + En15 ≤ 23674 → ∀ (l0 : Option Nat) (l1 : Int32) (l2 : Int32) (l3 : Int32) (l4 : Int32) (g : GM), k15 l0 l1 l2 l3 l4 g → GG X p l e rm_L_isSound s m args below meth c 10 (vx_MQ below (qI X post) (gXC X px) args s rm_L_isSound.cells rm_L_isSound.slots (gA X)) z zn 15 [some (va_rf l0), some (.int l1), some (.int l2), some (.int l3), some (.int l4), none, none, none, none, none] [] g) → ∀ (f z zn : Nat) (hz : z + (f * 4 + 34 + E15) ≤ 2602) (hzn : zn + (f * 24 + 814 + En15) ≤ 23674) (l0 : Option Nat) (l1 : Int32) (l2 : Int32) (l3 : Int32) (l4 : Int32) (l5 : Int32) (l6 : Int32) (g : GM), w_L_isSound_l27 X post px k15 f l0 l1 l2 l3 l4 l5 l6 g → GG X p l e rm_L_isSound s m args below meth c 10 (vx_MQ below (qI X post) (gXC X px) args s rm_L_isSound.cells rm_L_isSound.slots (gA X)) z zn 27 [some (va_rf l0), some (.int l1), some (.int l2), some (.int l3), some (.int l4), some (.int l5), some (.int l6), none, none, none] [] g := by
    intro E15 En15 hE15 hEn15 k15 hk15 f
    induction f with
    | zero => intro z zn hz hzn l0 l1 l2 l3 l4 l5 l6 g hf; exact (show False from hf).elim
    | succ f ih =>
      intro z zn hz hzn l0 l1 l2 l3 l4 l5 l6 g hf
      rw [w_L_isSound_l27] at hf
      refine gg_iload C dL_isSound_27 rfl ?_
      refine gg_iload_n C dL_isSound_29 rfl ?_
      refine gg_icmp_ge (tgt := 54) C dL_isSound_30 (by decide) hf (fun hf => ?_) (fun hf => ?_)
      · refine gg_aload_n C dL_isSound_54 rfl ?_
        refine gg_iload C dL_isSound_55 rfl ?_
        refine gg_iconst C dL_isSound_57 (v := (4 : Int32)) (by decide) ?_
        refine gr_I (k' := (z + 2)) (n' := (zn + 12)) (gk_SW (As := [va_rf l0, .int l4, .int (4 : Int32)]) (rest := []) C dL_isSound_58 tw_607 tw_608 tw_24 tw_609 gd_L_of rfl ⟨by decide, by decide⟩ (by simp [gcat, gcI, gcL, gcF, gcD]) ⟨(by show z + 2 ≤ 2602; first | exact ar_g (z := z) hz rfl | omega), (by show zn + 12 ≤ 23674; first | exact ar_g (z := zn) hzn rfl | omega)⟩ (m_L_ofq hfl hf)) rfl rfl (fun E g9 h9 => h9.elim) (fun i42 g41 hf => ?_)
        refine gg_istore (L' := [some (va_rf l0), some (.int l1), some (.int l2), some (.int l3), some (.int l4), some (.int l5), some (.int i42), none, none, none]) C dL_isSound_61 (Or.inr (Or.inr ⟨_, rfl, rfl⟩)) (by decide) rfl ?_
        refine gg_aload_n C dL_isSound_63 rfl ?_
        refine gg_iload C dL_isSound_64 rfl ?_
        refine gg_iconst C dL_isSound_66 (v := (3 : Int32)) (by decide) ?_
        refine gr_I (k' := (z + 4)) (n' := (zn + 24)) (gk_SW (As := [va_rf l0, .int l4, .int (3 : Int32)]) (rest := []) C dL_isSound_67 tw_607 tw_608 tw_24 tw_609 gd_L_of rfl ⟨by decide, by decide⟩ (by simp [gcat, gcI, gcL, gcF, gcD]) ⟨(by show (z + 2) + 2 ≤ 2602; first | exact ar_g2 (z := z) hz rfl | omega), (by show (zn + 12) + 12 ≤ 23674; first | exact ar_g2 (z := zn) hzn rfl | omega)⟩ (m_L_ofq hfl hf)) (Nat.add_assoc z 2 2) (Nat.add_assoc zn 12 12) (fun E g9 h9 => h9.elim) (fun i44 g43 hf => ?_)
        refine gg_istore (L' := [some (va_rf l0), some (.int l1), some (.int l2), some (.int l3), some (.int l4), some (.int l5), some (.int i42), some (.int i44), none, none]) C dL_isSound_70 (Or.inr (Or.inr ⟨_, rfl, rfl⟩)) (by decide) rfl ?_
        refine gg_iload_n C dL_isSound_72 rfl ?_
        refine gg_aload_n C dL_isSound_73 rfl ?_
        refine gg_iload C dL_isSound_74 rfl ?_
        refine gg_bipush C dL_isSound_76 (v := (7 : Int32)) (by decide) ?_
        refine gr_I (k' := (z + 6)) (n' := (zn + 36)) (gk_SW (As := [va_rf l0, .int l4, .int (7 : Int32)]) (rest := [.int l3]) C dL_isSound_78 tw_607 tw_608 tw_24 tw_609 gd_L_of rfl ⟨by decide, by decide⟩ (by simp [gcat, gcI, gcL, gcF, gcD]) ⟨(by show (z + 4) + 2 ≤ 2602; first | exact ar_g2 (z := z) hz rfl | omega), (by show (zn + 24) + 12 ≤ 23674; first | exact ar_g2 (z := zn) hzn rfl | omega)⟩ (m_L_ofq hfl hf)) (Nat.add_assoc z 4 2) (Nat.add_assoc zn 24 12) (fun E g9 h9 => h9.elim) (fun i46 g45 hf => ?_)
        refine gg_iadd C dL_isSound_81 ?_
        refine gg_istore_n (L' := [some (va_rf l0), some (.int l1), some (.int l2), some (.int (l3 + i46)), some (.int l4), some (.int l5), some (.int i42), some (.int i44), none, none]) C dL_isSound_82 (Or.inr (Or.inr ⟨_, rfl, rfl⟩)) (by decide) rfl ?_
        refine gg_aload_n C dL_isSound_83 rfl ?_
        refine gg_iload C dL_isSound_84 rfl ?_
        refine gg_iconst C dL_isSound_86 (v := (5 : Int32)) (by decide) ?_
        refine gr_I (k' := (z + 8)) (n' := (zn + 48)) (gk_SW (As := [va_rf l0, .int l4, .int (5 : Int32)]) (rest := []) C dL_isSound_87 tw_607 tw_608 tw_24 tw_609 gd_L_of rfl ⟨by decide, by decide⟩ (by simp [gcat, gcI, gcL, gcF, gcD]) ⟨(by show (z + 6) + 2 ≤ 2602; first | exact ar_g2 (z := z) hz rfl | omega), (by show (zn + 36) + 12 ≤ 23674; first | exact ar_g2 (z := zn) hzn rfl | omega)⟩ (m_L_ofq hfl hf)) (Nat.add_assoc z 6 2) (Nat.add_assoc zn 36 12) (fun E g9 h9 => h9.elim) (fun i48 g47 hf => ?_)
        refine gg_iload C dL_isSound_90 rfl ?_
        refine gg_icmp_ne (tgt := 233) C dL_isSound_92 (by decide) hf (fun hf => ?_) (fun hf => ?_)
        · exact gg_sub (L' := [none, none, none, none, none, none, none, none, none, none]) (by first | exact trivial | simp [gsub]) (hb_233 (z + 8) (zn + 48) (by first | exact ar_g2 (z := z) hz rfl | omega) (by first | exact ar_g2 (z := zn) hzn rfl | omega) _ hf)
        · refine gg_aload_n C dL_isSound_95 rfl ?_
          refine gg_iload C dL_isSound_96 rfl ?_
          refine gg_bipush C dL_isSound_98 (v := (6 : Int32)) (by decide) ?_
          refine gr_I (k' := (z + 10)) (n' := (zn + 60)) (gk_SW (As := [va_rf l0, .int l4, .int (6 : Int32)]) (rest := []) C dL_isSound_100 tw_607 tw_608 tw_24 tw_609 gd_L_of rfl ⟨by decide, by decide⟩ (by simp [gcat, gcI, gcL, gcF, gcD]) ⟨(by show (z + 8) + 2 ≤ 2602; first | exact ar_g2 (z := z) hz rfl | omega), (by show (zn + 48) + 12 ≤ 23674; first | exact ar_g2 (z := zn) hzn rfl | omega)⟩ (m_L_ofq hfl hf)) (Nat.add_assoc z 8 2) (Nat.add_assoc zn 48 12) (fun E g9 h9 => h9.elim) (fun i50 g49 hf => ?_)
          refine gg_iload C dL_isSound_103 rfl ?_
          refine gg_icmp_ne (tgt := 233) C dL_isSound_105 (by decide) hf (fun hf => ?_) (fun hf => ?_)
          · exact gg_sub (L' := [none, none, none, none, none, none, none, none, none, none]) (by first | exact trivial | simp [gsub]) (hb_233 (z + 10) (zn + 60) (by first | exact ar_g2 (z := z) hz rfl | omega) (by first | exact ar_g2 (z := zn) hzn rfl | omega) _ hf)
          · refine gg_iload C dL_isSound_108 rfl ?_
            refine gg_sipush C dL_isSound_110 (v := (-1003 : Int32)) (by decide) ?_
            refine gg_icmp_ne (tgt := 120) C dL_isSound_113 (by decide) hf (fun hf => ?_) (fun hf => ?_)
            · refine gg_iconst C dL_isSound_120 (v := (0 : Int32)) (by decide) ?_
              exact hb_121 E15 En15 (by first | exact hE15 | omega) (by first | exact hEn15 | omega) _ hk15 (z + 10) (zn + 60) (by first | exact ar_g4 (z := z) hz rfl | omega) (by first | exact ar_g4 (z := zn) hzn rfl | omega) _ _ _ _ _ _ _ _ _ _ hf
            · refine gg_iconst C dL_isSound_116 (v := (1 : Int32)) (by decide) ?_
              refine gg_goto (tgt := 121) C dL_isSound_117 (by decide) ?_
              exact hb_121 E15 En15 (by first | exact hE15 | omega) (by first | exact hEn15 | omega) _ hk15 (z + 10) (zn + 60) (by first | exact ar_g4 (z := z) hz rfl | omega) (by first | exact ar_g4 (z := zn) hzn rfl | omega) _ _ _ _ _ _ _ _ _ _ hf
      · refine gg_iload C dL_isSound_33 rfl ?_
        refine gg_aload_n C dL_isSound_35 rfl ?_
        refine gg_bipush C dL_isSound_36 (v := (99 : Int32)) (by decide) ?_
        refine gg_iload C dL_isSound_38 rfl ?_
        refine gg_iload C dL_isSound_40 rfl ?_
        refine gr_I (k' := (z + 4)) (n' := (zn + 24)) (gk_SW (As := [va_rf l0, .int (99 : Int32), .int l6, .int l4]) (rest := [.int l5]) C dL_isSound_42 tw_1105 tw_1106 tw_24 tw_1107 gd_L_both rfl ⟨by decide, by decide⟩ (by simp [gcat, gcI, gcL, gcF, gcD]) ⟨(by show z + 4 ≤ 2602; first | exact ar_g (z := z) hz rfl | omega), (by show zn + 24 ≤ 23674; first | exact ar_g (z := zn) hzn rfl | omega)⟩ (m_L_both hfl hf)) rfl rfl (fun E g9 h9 => h9.elim) (fun i70 g69 hf => ?_)
        refine gg_iadd C dL_isSound_45 ?_
        refine gg_istore (L' := [some (va_rf l0), some (.int l1), some (.int l2), some (.int l3), some (.int l4), some (.int (l5 + i70)), some (.int l6), none, none, none]) C dL_isSound_46 (Or.inr (Or.inr ⟨_, rfl, rfl⟩)) (by decide) rfl ?_
        refine gg_iinc (L' := [some (va_rf l0), some (.int l1), some (.int l2), some (.int l3), some (.int l4), some (.int (l5 + i70)), some (.int (l6 + 1)), none, none, none]) C dL_isSound_48 rfl (v := (l6 + 1)) rfl (Or.inr (Or.inr ⟨_, rfl, rfl⟩)) (by decide) rfl ?_
        refine gg_goto (tgt := 27) C dL_isSound_51 (by decide) ?_
        exact ih (z + 4) (zn + 24) (by first | exact ar_g3 (z := z) hz rfl | omega) (by first | exact ar_g3 (z := zn) hzn rfl | omega) _ _ _ _ _ _ _ _ hf
  have hb_15 : ∀ (f z zn : Nat) (hz : z + (f * 86 + 1582) ≤ 2602) (hzn : zn + (f * 1126 + 10844) ≤ 23674) (l0 : Option Nat) (l1 : Int32) (l2 : Int32) (l3 : Int32) (l4 : Int32) (g : GM), w_L_isSound_l15 X post px  f l0 l1 l2 l3 l4 g → GG X p l e rm_L_isSound s m args below meth c 10 (vx_MQ below (qI X post) (gXC X px) args s rm_L_isSound.cells rm_L_isSound.slots (gA X)) z zn 15 [some (va_rf l0), some (.int l1), some (.int l2), some (.int l3), some (.int l4), none, none, none, none, none] [] g := by
    intro  f
    induction f with
    | zero => intro z zn hz hzn l0 l1 l2 l3 l4 g hf; exact (show False from hf).elim
    | succ f ih =>
      intro z zn hz hzn l0 l1 l2 l3 l4 g hf
      rw [w_L_isSound_l15] at hf
      refine gg_iload C dL_isSound_15 rfl ?_
      refine gg_iload_n C dL_isSound_17 rfl ?_
      refine gg_icmp_ge (tgt := 323) C dL_isSound_18 (by decide) hf (fun hf => ?_) (fun hf => ?_)
      · refine gg_iconst C dL_isSound_323 (v := (0 : Int32)) (by decide) ?_
        refine gg_istore (L' := [some (va_rf l0), some (.int l1), some (.int l2), some (.int l3), some (.int (0 : Int32)), none, none, none, none, none]) C dL_isSound_324 (Or.inr (Or.inr ⟨_, rfl, rfl⟩)) (by decide) rfl ?_
        refine gg_iconst C dL_isSound_326 (v := (0 : Int32)) (by decide) ?_
        refine gg_istore (L' := [some (va_rf l0), some (.int l1), some (.int l2), some (.int l3), some (.int (0 : Int32)), some (.int (0 : Int32)), none, none, none, none]) C dL_isSound_327 (Or.inr (Or.inr ⟨_, rfl, rfl⟩)) (by decide) rfl ?_
        exact hb_329 13 z zn (by first | exact ar_f (z := z) hz rfl | omega) (by first | exact ar_f (z := zn) hzn rfl | omega) _ _ _ _ _ _ _ hf
      · refine gg_iconst C dL_isSound_21 (v := (0 : Int32)) (by decide) ?_
        refine gg_istore (L' := [some (va_rf l0), some (.int l1), some (.int l2), some (.int l3), some (.int l4), some (.int (0 : Int32)), none, none, none, none]) C dL_isSound_22 (Or.inr (Or.inr ⟨_, rfl, rfl⟩)) (by decide) rfl ?_
        refine gg_iconst C dL_isSound_24 (v := (0 : Int32)) (by decide) ?_
        refine gg_istore (L' := [some (va_rf l0), some (.int l1), some (.int l2), some (.int l3), some (.int l4), some (.int (0 : Int32)), some (.int (0 : Int32)), none, none, none]) C dL_isSound_25 (Or.inr (Or.inr ⟨_, rfl, rfl⟩)) (by decide) rfl ?_
        exact hb_27 (f * 86 + 1582) (f * 1126 + 10844) (by first | exact Nat.le_add_left _ _ | omega) (by first | exact Nat.le_add_left _ _ | omega) _ (ih) 13 z zn (by first | exact ar_f6 (z := z) hz rfl | omega) (by first | exact ar_f6 (z := zn) hzn rfl | omega) _ _ _ _ _ _ _ _ hf
  unfold w_L_isSound at hf
  refine gg_aload_n C dL_isSound_0 rfl ?_
  refine gr_I (k' := (0 + 22)) (n' := (0 + 132)) (gk_S (As := [va_rf v0]) (rest := []) C dL_isSound_1 tw_1330 tw_1331 tw_24 tw_1332 gd_L_builds rfl ⟨by decide, by decide⟩ (by simp [gcat, gcI, gcL, gcF, gcD]) ⟨(by show 0 + 22 ≤ 2602; omega), (by show 0 + 132 ≤ 23674; omega)⟩ (m_L_builds hfl hf)) rfl rfl (fun E g9 h9 => h9.elim) (fun i2 g1 hf => ?_)
  refine gg_istore_n (L' := [some (va_rf v0), some (.int i2), none, none, none, none, none, none, none, none]) C dL_isSound_4 (Or.inr (Or.inr ⟨_, rfl, gcat _⟩)) (by decide) rfl ?_
  refine gg_aload_n C dL_isSound_5 rfl ?_
  refine gr_I (k' := (0 + 74)) (n' := (0 + 444)) (gk_S (As := [va_rf v0]) (rest := []) C dL_isSound_6 tw_1333 tw_1334 tw_24 tw_1335 gd_L_devices rfl ⟨by decide, by decide⟩ (by simp [gcat, gcI, gcL, gcF, gcD]) ⟨(by show (0 + 22) + 52 ≤ 2602; omega), (by show (0 + 132) + 312 ≤ 23674; omega)⟩ (m_L_devices hfl hf)) (Nat.add_assoc 0 22 52) (Nat.add_assoc 0 132 312) (fun E g9 h9 => h9.elim) (fun i4 g3 hf => ?_)
  refine gg_istore_n (L' := [some (va_rf v0), some (.int i2), some (.int i4), none, none, none, none, none, none, none]) C dL_isSound_9 (Or.inr (Or.inr ⟨_, rfl, rfl⟩)) (by decide) rfl ?_
  refine gg_iconst C dL_isSound_10 (v := (0 : Int32)) (by decide) ?_
  refine gg_istore_n (L' := [some (va_rf v0), some (.int i2), some (.int i4), some (.int (0 : Int32)), none, none, none, none, none, none]) C dL_isSound_11 (Or.inr (Or.inr ⟨_, rfl, rfl⟩)) (by decide) rfl ?_
  refine gg_iconst C dL_isSound_12 (v := (0 : Int32)) (by decide) ?_
  refine gg_istore (L' := [some (va_rf v0), some (.int i2), some (.int i4), some (.int (0 : Int32)), some (.int (0 : Int32)), none, none, none, none, none]) C dL_isSound_13 (Or.inr (Or.inr ⟨_, rfl, rfl⟩)) (by decide) rfl ?_
  exact hb_15 11 (0 + 74) (0 + 444) (by omega) (by omega) _ _ _ _ _ _ hf
