def w_L_law_b1506 (X : Cx) (xs : Nat → Int32) (Ls b : Nat) (kI : GM → Prop) (v1 v2 v3 v4 : Option Nat) (v5 : Int32)  (g : GM) : Prop :=
  kI g
def w_law_19 (X : Cx) (xs : Nat → Int32) (Ls b : Nat) (kI : GM → Prop) (v1 v2 v3 v4 : Option Nat) (v5 : Int32) (g : GM) : Prop :=
  (vp_in (v5 + (1 : Int32)) Ls ∧ w_L_update X (fun (i2 : Int32) (g1 : GM) => (vp_in (v5 + (1 : Int32)) Ls ∧ wIs g1 v2 8 (w_X8_update X (fun (i4 : Int32) (g3 : GM) => wIs g3 v2 8 (w_X8_thrown X (fun (i6 : Int32) (g5 : GM) => (if i6 = i2 then (if i2 = 0 then wAldJ g5 v3 (0 : Int32) (fun (y7 : Int64) => (if (lg_cmp y7 ((i4).toInt64)) = 0 then w_L_law_b1506 X xs Ls b kI v1 v2 v3 v4 v5 g5 else False)) else w_L_law_b1506 X xs Ls b kI v1 v2 v3 v4 v5 g5) else False)) (fun _ _ => False) v2 g3)) (fun _ _ => False) v2 (xs ((v5 + (1 : Int32))).toNatClampNeg) g1))) (fun _ _ => False) v1 (xs ((v5 + (1 : Int32))).toNatClampNeg) v3 g)
set_option maxHeartbeats 4000000 in
set_option maxRecDepth 100000 in
theorem lc_19 {X : Cx} {p : Program} {l : Launch} {e : Env} {s : State} {m : MethodId} {args : Array Value} {below : List Frame} {meth : Method} {c : Code} {Q : State → Prop} {b Ls : Nat} {xs : Nat → Int32} (hfl : l.stackTraces = false) (C : FC X p l s m args meth c code 9 "ReleasetrainLaw") (hX : va_X b Ls xs s s.heap) (hbl : b < s.heap.size) (hbA : ¬ gA X b) {k n : Nat} (hk : k + 60 ≤ 603072) (hn : n + 4000 ≤ 7186538) {v1 v2 v3 v4 : Option Nat} {v5 : Int32} {kI : GM → Prop} (hkI : ∀ g, kI g → GG X p l e room_1 s m args below meth c 9 Q (k + 60) (n + 4000) 2917 [some (va_rf (some b)), some (va_rf v1), some (va_rf v2), some (va_rf v3), some (va_rf v4), some (.int v5), none, none, none] [] g) {g : GM} (hf : w_law_19 X xs Ls b kI v1 v2 v3 v4 v5 g) : GG X p l e room_1 s m args below meth c 9 Q k n 1453 [some (va_rf (some b)), some (va_rf v1), some (va_rf v2), some (va_rf v3), some (va_rf v4), some (.int v5), none, none, none] [] g := by
  have hb_1506 : ∀  (g : GM), w_L_law_b1506 X xs Ls b kI v1 v2 v3 v4 v5  g → GG X p l e room_1 s m args below meth c 9 Q (k + 2) (n + 12) 1506 [some (va_rf (some b)), some (va_rf v1), some (va_rf v2), some (va_rf v3), some (va_rf v4), some (.int v5), none, none, none] [] g := by
    intro  g hf
    unfold w_L_law_b1506 at hf
    refine gg_goto (tgt := 2917) C dL_law_1506 (by decide) ?_
    exact gg_widen (k' := k + 60) (n' := n + 4000) (by omega) (by omega) (hkI _ hf)
  unfold w_law_19 at hf
  refine gg_aload_n C dL_law_1453 rfl ?_
  refine gg_aload_n C dL_law_1454 rfl ?_
  refine gg_iload C dL_law_1455 rfl ?_
  refine gg_iconst C dL_law_1457 (v := (1 : Int32)) (by decide) ?_
  refine gg_iadd C dL_law_1458 ?_
  refine gg_sld C hX hbl hbA dL_law_1459 hf.1 ?_
  replace hf := hf.2
  refine gg_aload_n C dL_law_1460 rfl ?_
  refine gr_I (k' := k + 2) (n' := n + 12) (gk_SW (As := [va_rf v1, .int (xs ((v5 + (1 : Int32))).toNatClampNeg), va_rf v3]) (rest := []) C dL_law_1461 tw_831 tw_832 tw_46 tw_833 gd_L_update rfl ⟨by decide, by decide⟩ (by simp [gcat, gcI, gcL, gcF, gcD]) ⟨(by show k + 2 ≤ 603072; omega), (by show n + 12 ≤ 7186538; omega)⟩ (m_L_update hfl hf)) rfl rfl (fun E g9 h9 => h9.elim) (fun i2 g1 hf => ?_)
  refine gg_istore (L' := [some (va_rf (some b)), some (va_rf v1), some (va_rf v2), some (va_rf v3), some (va_rf v4), some (.int v5), some (.int i2), none, none]) C dL_law_1464 (Or.inr (Or.inr ⟨_, rfl, rfl⟩)) (by decide) rfl ?_
  refine gg_aload_n C dL_law_1466 rfl ?_
  refine gg_aload_n C dL_law_1467 rfl ?_
  refine gg_iload C dL_law_1468 rfl ?_
  refine gg_iconst C dL_law_1470 (v := (1 : Int32)) (by decide) ?_
  refine gg_iadd C dL_law_1471 ?_
  refine gg_sld C hX hbl hbA dL_law_1472 hf.1 ?_
  replace hf := hf.2
  refine gr_I (k' := k + 2) (n' := n + 12) (gk_V (ci := 8) (As := [.int (xs ((v5 + (1 : Int32))).toNatClampNeg)]) (rest := []) C dL_law_1473 rfl rfl tw_1729 tw_1730 tw_1731 tw_56 tw_1732 gd_X8_update rfl ⟨by decide, by decide⟩ (by simp [gcat, gcI, gcL, gcF, gcD]) ⟨(by show k + 2 + 0 ≤ 603072; omega), (by show n + 12 + 0 ≤ 7186538; omega)⟩ hf (fun hf => m_X8_update hfl hf)) rfl rfl (fun E g9 h9 => h9.elim) (fun i4 g3 hf => ?_)
  refine gg_istore (L' := [some (va_rf (some b)), some (va_rf v1), some (va_rf v2), some (va_rf v3), some (va_rf v4), some (.int v5), some (.int i2), some (.int i4), none]) C dL_law_1476 (Or.inr (Or.inr ⟨_, rfl, rfl⟩)) (by decide) rfl ?_
  refine gg_aload_n C dL_law_1478 rfl ?_
  refine gr_I (k' := k + 2) (n' := n + 12) (gk_V (ci := 8) (As := []) (rest := []) C dL_law_1479 rfl rfl tw_1572 tw_1573 tw_1574 tw_56 tw_1575 gd_X8_thrown rfl ⟨by decide, by decide⟩ (by simp [gcat, gcI, gcL, gcF, gcD]) ⟨(by show k + 2 + 0 ≤ 603072; omega), (by show n + 12 + 0 ≤ 7186538; omega)⟩ hf (fun hf => m_X8_thrown hfl hf)) rfl rfl (fun E g9 h9 => h9.elim) (fun i6 g5 hf => ?_)
  refine gg_iload C dL_law_1482 rfl ?_
  refine gg_icmp_eq (tgt := 1489) C dL_law_1484 (by decide) hf (fun hf => ?_) (fun hf => ?_)
  · refine gg_iload C dL_law_1489 rfl ?_
    refine gg_if_ne (tgt := 1506) C dL_law_1491 (by decide) hf (fun hf => ?_) (fun hf => ?_)
    · exact gg_sub (L' := [some (va_rf (some b)), some (va_rf v1), some (va_rf v2), some (va_rf v3), some (va_rf v4), some (.int v5), none, none, none]) (by first | exact ⟨rfl, ⟨rfl, ⟨rfl, ⟨rfl, ⟨rfl, ⟨rfl, trivial⟩⟩⟩⟩⟩⟩ | simp [gsub]) (hb_1506 _ hf)
    · refine gg_aload_n C dL_law_1494 rfl ?_
      refine gg_iconst C dL_law_1495 (v := (0 : Int32)) (by decide) ?_
      refine gg_lald C dL_law_1496 hf (fun y7 hf => ?_)
      refine gg_iload C dL_law_1497 rfl ?_
      refine gg_i2l C dL_law_1499 ?_
      refine gg_lcmp C dL_law_1500 ?_
      refine gg_if_eq (tgt := 1506) C dL_law_1501 (by decide) hf (fun hf => ?_) (fun hf => ?_)
      · exact gg_sub (L' := [some (va_rf (some b)), some (va_rf v1), some (va_rf v2), some (va_rf v3), some (va_rf v4), some (.int v5), none, none, none]) (by first | exact ⟨rfl, ⟨rfl, ⟨rfl, ⟨rfl, ⟨rfl, ⟨rfl, trivial⟩⟩⟩⟩⟩⟩ | simp [gsub]) (hb_1506 _ hf)
      · refine gg_iconst C dL_law_1504 (v := (0 : Int32)) (by decide) ?_
        exact hf.elim
  · refine gg_iconst C dL_law_1487 (v := (0 : Int32)) (by decide) ?_
    exact hf.elim

def w_L_law_b1562 (X : Cx) (xs : Nat → Int32) (Ls b : Nat) (kI : GM → Prop) (v1 v2 v3 v4 : Option Nat) (v5 : Int32)  (g : GM) : Prop :=
  kI g
def w_law_20 (X : Cx) (xs : Nat → Int32) (Ls b : Nat) (kI : GM → Prop) (v1 v2 v3 v4 : Option Nat) (v5 : Int32) (g : GM) : Prop :=
  (vp_in (v5 + (1 : Int32)) Ls ∧ w_L_buildOf X (fun (i2 : Int32) (g1 : GM) => (vp_in (v5 + (1 : Int32)) Ls ∧ wIs g1 v2 8 (w_X8_buildOf X (fun (i4 : Int32) (g3 : GM) => wIs g3 v2 8 (w_X8_thrown X (fun (i6 : Int32) (g5 : GM) => (if i6 = i2 then (if i2 = 0 then wAldJ g5 v3 (0 : Int32) (fun (y7 : Int64) => (if (lg_cmp y7 ((i4).toInt64)) = 0 then w_L_law_b1562 X xs Ls b kI v1 v2 v3 v4 v5 g5 else False)) else w_L_law_b1562 X xs Ls b kI v1 v2 v3 v4 v5 g5) else False)) (fun _ _ => False) v2 g3)) (fun _ _ => False) v2 (xs ((v5 + (1 : Int32))).toNatClampNeg) g1))) (fun _ _ => False) v1 (xs ((v5 + (1 : Int32))).toNatClampNeg) v3 g)
set_option maxHeartbeats 4000000 in
set_option maxRecDepth 100000 in
theorem lc_20 {X : Cx} {p : Program} {l : Launch} {e : Env} {s : State} {m : MethodId} {args : Array Value} {below : List Frame} {meth : Method} {c : Code} {Q : State → Prop} {b Ls : Nat} {xs : Nat → Int32} (hfl : l.stackTraces = false) (C : FC X p l s m args meth c code 9 "ReleasetrainLaw") (hX : va_X b Ls xs s s.heap) (hbl : b < s.heap.size) (hbA : ¬ gA X b) {k n : Nat} (hk : k + 60 ≤ 603072) (hn : n + 4000 ≤ 7186538) {v1 v2 v3 v4 : Option Nat} {v5 : Int32} {kI : GM → Prop} (hkI : ∀ g, kI g → GG X p l e room_1 s m args below meth c 9 Q (k + 60) (n + 4000) 2917 [some (va_rf (some b)), some (va_rf v1), some (va_rf v2), some (va_rf v3), some (va_rf v4), some (.int v5), none, none, none] [] g) {g : GM} (hf : w_law_20 X xs Ls b kI v1 v2 v3 v4 v5 g) : GG X p l e room_1 s m args below meth c 9 Q k n 1509 [some (va_rf (some b)), some (va_rf v1), some (va_rf v2), some (va_rf v3), some (va_rf v4), some (.int v5), none, none, none] [] g := by
  have hb_1562 : ∀  (g : GM), w_L_law_b1562 X xs Ls b kI v1 v2 v3 v4 v5  g → GG X p l e room_1 s m args below meth c 9 Q (k + 2) (n + 12) 1562 [some (va_rf (some b)), some (va_rf v1), some (va_rf v2), some (va_rf v3), some (va_rf v4), some (.int v5), none, none, none] [] g := by
    intro  g hf
    unfold w_L_law_b1562 at hf
    refine gg_goto (tgt := 2917) C dL_law_1562 (by decide) ?_
    exact gg_widen (k' := k + 60) (n' := n + 4000) (by omega) (by omega) (hkI _ hf)
  unfold w_law_20 at hf
  refine gg_aload_n C dL_law_1509 rfl ?_
  refine gg_aload_n C dL_law_1510 rfl ?_
  refine gg_iload C dL_law_1511 rfl ?_
  refine gg_iconst C dL_law_1513 (v := (1 : Int32)) (by decide) ?_
  refine gg_iadd C dL_law_1514 ?_
  refine gg_sld C hX hbl hbA dL_law_1515 hf.1 ?_
  replace hf := hf.2
  refine gg_aload_n C dL_law_1516 rfl ?_
  refine gr_I (k' := k + 2) (n' := n + 12) (gk_SW (As := [va_rf v1, .int (xs ((v5 + (1 : Int32))).toNatClampNeg), va_rf v3]) (rest := []) C dL_law_1517 tw_838 tw_839 tw_46 tw_840 gd_L_buildOf rfl ⟨by decide, by decide⟩ (by simp [gcat, gcI, gcL, gcF, gcD]) ⟨(by show k + 2 ≤ 603072; omega), (by show n + 12 ≤ 7186538; omega)⟩ (m_L_buildOf hfl hf)) rfl rfl (fun E g9 h9 => h9.elim) (fun i2 g1 hf => ?_)
  refine gg_istore (L' := [some (va_rf (some b)), some (va_rf v1), some (va_rf v2), some (va_rf v3), some (va_rf v4), some (.int v5), some (.int i2), none, none]) C dL_law_1520 (Or.inr (Or.inr ⟨_, rfl, rfl⟩)) (by decide) rfl ?_
  refine gg_aload_n C dL_law_1522 rfl ?_
  refine gg_aload_n C dL_law_1523 rfl ?_
  refine gg_iload C dL_law_1524 rfl ?_
  refine gg_iconst C dL_law_1526 (v := (1 : Int32)) (by decide) ?_
  refine gg_iadd C dL_law_1527 ?_
  refine gg_sld C hX hbl hbA dL_law_1528 hf.1 ?_
  replace hf := hf.2
  refine gr_I (k' := k + 2) (n' := n + 12) (gk_V (ci := 8) (As := [.int (xs ((v5 + (1 : Int32))).toNatClampNeg)]) (rest := []) C dL_law_1529 rfl rfl tw_1733 tw_1734 tw_1735 tw_56 tw_1736 gd_X8_buildOf rfl ⟨by decide, by decide⟩ (by simp [gcat, gcI, gcL, gcF, gcD]) ⟨(by show k + 2 + 0 ≤ 603072; omega), (by show n + 12 + 0 ≤ 7186538; omega)⟩ hf (fun hf => m_X8_buildOf hfl hf)) rfl rfl (fun E g9 h9 => h9.elim) (fun i4 g3 hf => ?_)
  refine gg_istore (L' := [some (va_rf (some b)), some (va_rf v1), some (va_rf v2), some (va_rf v3), some (va_rf v4), some (.int v5), some (.int i2), some (.int i4), none]) C dL_law_1532 (Or.inr (Or.inr ⟨_, rfl, rfl⟩)) (by decide) rfl ?_
  refine gg_aload_n C dL_law_1534 rfl ?_
  refine gr_I (k' := k + 2) (n' := n + 12) (gk_V (ci := 8) (As := []) (rest := []) C dL_law_1535 rfl rfl tw_1572 tw_1573 tw_1574 tw_56 tw_1575 gd_X8_thrown rfl ⟨by decide, by decide⟩ (by simp [gcat, gcI, gcL, gcF, gcD]) ⟨(by show k + 2 + 0 ≤ 603072; omega), (by show n + 12 + 0 ≤ 7186538; omega)⟩ hf (fun hf => m_X8_thrown hfl hf)) rfl rfl (fun E g9 h9 => h9.elim) (fun i6 g5 hf => ?_)
  refine gg_iload C dL_law_1538 rfl ?_
  refine gg_icmp_eq (tgt := 1545) C dL_law_1540 (by decide) hf (fun hf => ?_) (fun hf => ?_)
  · refine gg_iload C dL_law_1545 rfl ?_
    refine gg_if_ne (tgt := 1562) C dL_law_1547 (by decide) hf (fun hf => ?_) (fun hf => ?_)
    · exact gg_sub (L' := [some (va_rf (some b)), some (va_rf v1), some (va_rf v2), some (va_rf v3), some (va_rf v4), some (.int v5), none, none, none]) (by first | exact ⟨rfl, ⟨rfl, ⟨rfl, ⟨rfl, ⟨rfl, ⟨rfl, trivial⟩⟩⟩⟩⟩⟩ | simp [gsub]) (hb_1562 _ hf)
    · refine gg_aload_n C dL_law_1550 rfl ?_
      refine gg_iconst C dL_law_1551 (v := (0 : Int32)) (by decide) ?_
      refine gg_lald C dL_law_1552 hf (fun y7 hf => ?_)
      refine gg_iload C dL_law_1553 rfl ?_
      refine gg_i2l C dL_law_1555 ?_
      refine gg_lcmp C dL_law_1556 ?_
      refine gg_if_eq (tgt := 1562) C dL_law_1557 (by decide) hf (fun hf => ?_) (fun hf => ?_)
      · exact gg_sub (L' := [some (va_rf (some b)), some (va_rf v1), some (va_rf v2), some (va_rf v3), some (va_rf v4), some (.int v5), none, none, none]) (by first | exact ⟨rfl, ⟨rfl, ⟨rfl, ⟨rfl, ⟨rfl, ⟨rfl, trivial⟩⟩⟩⟩⟩⟩ | simp [gsub]) (hb_1562 _ hf)
      · refine gg_iconst C dL_law_1560 (v := (0 : Int32)) (by decide) ?_
        exact hf.elim
  · refine gg_iconst C dL_law_1543 (v := (0 : Int32)) (by decide) ?_
    exact hf.elim

def w_L_law_b1618 (X : Cx) (xs : Nat → Int32) (Ls b : Nat) (kI : GM → Prop) (v1 v2 v3 v4 : Option Nat) (v5 : Int32)  (g : GM) : Prop :=
  kI g
def w_law_21 (X : Cx) (xs : Nat → Int32) (Ls b : Nat) (kI : GM → Prop) (v1 v2 v3 v4 : Option Nat) (v5 : Int32) (g : GM) : Prop :=
  (vp_in (v5 + (1 : Int32)) Ls ∧ w_L_devicesWith X (fun (i2 : Int32) (g1 : GM) => (vp_in (v5 + (1 : Int32)) Ls ∧ wIs g1 v2 8 (w_X8_devicesWith X (fun (i4 : Int32) (g3 : GM) => wIs g3 v2 8 (w_X8_thrown X (fun (i6 : Int32) (g5 : GM) => (if i6 = i2 then (if i2 = 0 then wAldJ g5 v3 (0 : Int32) (fun (y7 : Int64) => (if (lg_cmp y7 ((i4).toInt64)) = 0 then w_L_law_b1618 X xs Ls b kI v1 v2 v3 v4 v5 g5 else False)) else w_L_law_b1618 X xs Ls b kI v1 v2 v3 v4 v5 g5) else False)) (fun _ _ => False) v2 g3)) (fun _ _ => False) v2 (xs ((v5 + (1 : Int32))).toNatClampNeg) g1))) (fun _ _ => False) v1 (xs ((v5 + (1 : Int32))).toNatClampNeg) v3 g)
set_option maxHeartbeats 4000000 in
set_option maxRecDepth 100000 in
theorem lc_21 {X : Cx} {p : Program} {l : Launch} {e : Env} {s : State} {m : MethodId} {args : Array Value} {below : List Frame} {meth : Method} {c : Code} {Q : State → Prop} {b Ls : Nat} {xs : Nat → Int32} (hfl : l.stackTraces = false) (C : FC X p l s m args meth c code 9 "ReleasetrainLaw") (hX : va_X b Ls xs s s.heap) (hbl : b < s.heap.size) (hbA : ¬ gA X b) {k n : Nat} (hk : k + 60 ≤ 603072) (hn : n + 4000 ≤ 7186538) {v1 v2 v3 v4 : Option Nat} {v5 : Int32} {kI : GM → Prop} (hkI : ∀ g, kI g → GG X p l e room_1 s m args below meth c 9 Q (k + 60) (n + 4000) 2917 [some (va_rf (some b)), some (va_rf v1), some (va_rf v2), some (va_rf v3), some (va_rf v4), some (.int v5), none, none, none] [] g) {g : GM} (hf : w_law_21 X xs Ls b kI v1 v2 v3 v4 v5 g) : GG X p l e room_1 s m args below meth c 9 Q k n 1565 [some (va_rf (some b)), some (va_rf v1), some (va_rf v2), some (va_rf v3), some (va_rf v4), some (.int v5), none, none, none] [] g := by
  have hb_1618 : ∀  (g : GM), w_L_law_b1618 X xs Ls b kI v1 v2 v3 v4 v5  g → GG X p l e room_1 s m args below meth c 9 Q (k + 1) (n + 6) 1618 [some (va_rf (some b)), some (va_rf v1), some (va_rf v2), some (va_rf v3), some (va_rf v4), some (.int v5), none, none, none] [] g := by
    intro  g hf
    unfold w_L_law_b1618 at hf
    refine gg_goto (tgt := 2917) C dL_law_1618 (by decide) ?_
    exact gg_widen (k' := k + 60) (n' := n + 4000) (by omega) (by omega) (hkI _ hf)
  unfold w_law_21 at hf
  refine gg_aload_n C dL_law_1565 rfl ?_
  refine gg_aload_n C dL_law_1566 rfl ?_
  refine gg_iload C dL_law_1567 rfl ?_
  refine gg_iconst C dL_law_1569 (v := (1 : Int32)) (by decide) ?_
  refine gg_iadd C dL_law_1570 ?_
  refine gg_sld C hX hbl hbA dL_law_1571 hf.1 ?_
  replace hf := hf.2
  refine gg_aload_n C dL_law_1572 rfl ?_
  refine gr_I (k' := k + 1) (n' := n + 6) (gk_SW (As := [va_rf v1, .int (xs ((v5 + (1 : Int32))).toNatClampNeg), va_rf v3]) (rest := []) C dL_law_1573 tw_849 tw_850 tw_46 tw_851 gd_L_devicesWith rfl ⟨by decide, by decide⟩ (by simp [gcat, gcI, gcL, gcF, gcD]) ⟨(by show k + 1 ≤ 603072; omega), (by show n + 6 ≤ 7186538; omega)⟩ (m_L_devicesWith hfl hf)) rfl rfl (fun E g9 h9 => h9.elim) (fun i2 g1 hf => ?_)
  refine gg_istore (L' := [some (va_rf (some b)), some (va_rf v1), some (va_rf v2), some (va_rf v3), some (va_rf v4), some (.int v5), some (.int i2), none, none]) C dL_law_1576 (Or.inr (Or.inr ⟨_, rfl, rfl⟩)) (by decide) rfl ?_
  refine gg_aload_n C dL_law_1578 rfl ?_
  refine gg_aload_n C dL_law_1579 rfl ?_
  refine gg_iload C dL_law_1580 rfl ?_
  refine gg_iconst C dL_law_1582 (v := (1 : Int32)) (by decide) ?_
  refine gg_iadd C dL_law_1583 ?_
  refine gg_sld C hX hbl hbA dL_law_1584 hf.1 ?_
  replace hf := hf.2
  refine gr_I (k' := k + 1) (n' := n + 6) (gk_V (ci := 8) (As := [.int (xs ((v5 + (1 : Int32))).toNatClampNeg)]) (rest := []) C dL_law_1585 rfl rfl tw_1737 tw_1738 tw_1739 tw_56 tw_1740 gd_X8_devicesWith rfl ⟨by decide, by decide⟩ (by simp [gcat, gcI, gcL, gcF, gcD]) ⟨(by show k + 1 + 0 ≤ 603072; omega), (by show n + 6 + 0 ≤ 7186538; omega)⟩ hf (fun hf => m_X8_devicesWith hfl hf)) rfl rfl (fun E g9 h9 => h9.elim) (fun i4 g3 hf => ?_)
  refine gg_istore (L' := [some (va_rf (some b)), some (va_rf v1), some (va_rf v2), some (va_rf v3), some (va_rf v4), some (.int v5), some (.int i2), some (.int i4), none]) C dL_law_1588 (Or.inr (Or.inr ⟨_, rfl, rfl⟩)) (by decide) rfl ?_
  refine gg_aload_n C dL_law_1590 rfl ?_
  refine gr_I (k' := k + 1) (n' := n + 6) (gk_V (ci := 8) (As := []) (rest := []) C dL_law_1591 rfl rfl tw_1572 tw_1573 tw_1574 tw_56 tw_1575 gd_X8_thrown rfl ⟨by decide, by decide⟩ (by simp [gcat, gcI, gcL, gcF, gcD]) ⟨(by show k + 1 + 0 ≤ 603072; omega), (by show n + 6 + 0 ≤ 7186538; omega)⟩ hf (fun hf => m_X8_thrown hfl hf)) rfl rfl (fun E g9 h9 => h9.elim) (fun i6 g5 hf => ?_)
  refine gg_iload C dL_law_1594 rfl ?_
  refine gg_icmp_eq (tgt := 1601) C dL_law_1596 (by decide) hf (fun hf => ?_) (fun hf => ?_)
  · refine gg_iload C dL_law_1601 rfl ?_
    refine gg_if_ne (tgt := 1618) C dL_law_1603 (by decide) hf (fun hf => ?_) (fun hf => ?_)
    · exact gg_sub (L' := [some (va_rf (some b)), some (va_rf v1), some (va_rf v2), some (va_rf v3), some (va_rf v4), some (.int v5), none, none, none]) (by first | exact ⟨rfl, ⟨rfl, ⟨rfl, ⟨rfl, ⟨rfl, ⟨rfl, trivial⟩⟩⟩⟩⟩⟩ | simp [gsub]) (hb_1618 _ hf)
    · refine gg_aload_n C dL_law_1606 rfl ?_
      refine gg_iconst C dL_law_1607 (v := (0 : Int32)) (by decide) ?_
      refine gg_lald C dL_law_1608 hf (fun y7 hf => ?_)
      refine gg_iload C dL_law_1609 rfl ?_
      refine gg_i2l C dL_law_1611 ?_
      refine gg_lcmp C dL_law_1612 ?_
      refine gg_if_eq (tgt := 1618) C dL_law_1613 (by decide) hf (fun hf => ?_) (fun hf => ?_)
      · exact gg_sub (L' := [some (va_rf (some b)), some (va_rf v1), some (va_rf v2), some (va_rf v3), some (va_rf v4), some (.int v5), none, none, none]) (by first | exact ⟨rfl, ⟨rfl, ⟨rfl, ⟨rfl, ⟨rfl, ⟨rfl, trivial⟩⟩⟩⟩⟩⟩ | simp [gsub]) (hb_1618 _ hf)
      · refine gg_iconst C dL_law_1616 (v := (0 : Int32)) (by decide) ?_
        exact hf.elim
  · refine gg_iconst C dL_law_1599 (v := (0 : Int32)) (by decide) ?_
    exact hf.elim

def w_L_law_b1674 (X : Cx) (xs : Nat → Int32) (Ls b : Nat) (kI : GM → Prop) (v1 v2 v3 v4 : Option Nat) (v5 : Int32)  (g : GM) : Prop :=
  kI g
def w_law_22 (X : Cx) (xs : Nat → Int32) (Ls b : Nat) (kI : GM → Prop) (v1 v2 v3 v4 : Option Nat) (v5 : Int32) (g : GM) : Prop :=
  (vp_in (v5 + (1 : Int32)) Ls ∧ w_L_installs X (fun (i2 : Int32) (g1 : GM) => (vp_in (v5 + (1 : Int32)) Ls ∧ wIs g1 v2 8 (w_X8_installs X (fun (i4 : Int32) (g3 : GM) => wIs g3 v2 8 (w_X8_thrown X (fun (i6 : Int32) (g5 : GM) => (if i6 = i2 then (if i2 = 0 then wAldJ g5 v3 (0 : Int32) (fun (y7 : Int64) => (if (lg_cmp y7 ((i4).toInt64)) = 0 then w_L_law_b1674 X xs Ls b kI v1 v2 v3 v4 v5 g5 else False)) else w_L_law_b1674 X xs Ls b kI v1 v2 v3 v4 v5 g5) else False)) (fun _ _ => False) v2 g3)) (fun _ _ => False) v2 (xs ((v5 + (1 : Int32))).toNatClampNeg) g1))) (fun _ _ => False) v1 (xs ((v5 + (1 : Int32))).toNatClampNeg) v3 g)
set_option maxHeartbeats 4000000 in
set_option maxRecDepth 100000 in
theorem lc_22 {X : Cx} {p : Program} {l : Launch} {e : Env} {s : State} {m : MethodId} {args : Array Value} {below : List Frame} {meth : Method} {c : Code} {Q : State → Prop} {b Ls : Nat} {xs : Nat → Int32} (hfl : l.stackTraces = false) (C : FC X p l s m args meth c code 9 "ReleasetrainLaw") (hX : va_X b Ls xs s s.heap) (hbl : b < s.heap.size) (hbA : ¬ gA X b) {k n : Nat} (hk : k + 60 ≤ 603072) (hn : n + 4000 ≤ 7186538) {v1 v2 v3 v4 : Option Nat} {v5 : Int32} {kI : GM → Prop} (hkI : ∀ g, kI g → GG X p l e room_1 s m args below meth c 9 Q (k + 60) (n + 4000) 2917 [some (va_rf (some b)), some (va_rf v1), some (va_rf v2), some (va_rf v3), some (va_rf v4), some (.int v5), none, none, none] [] g) {g : GM} (hf : w_law_22 X xs Ls b kI v1 v2 v3 v4 v5 g) : GG X p l e room_1 s m args below meth c 9 Q k n 1621 [some (va_rf (some b)), some (va_rf v1), some (va_rf v2), some (va_rf v3), some (va_rf v4), some (.int v5), none, none, none] [] g := by
  have hb_1674 : ∀  (g : GM), w_L_law_b1674 X xs Ls b kI v1 v2 v3 v4 v5  g → GG X p l e room_1 s m args below meth c 9 Q (k + 1) (n + 6) 1674 [some (va_rf (some b)), some (va_rf v1), some (va_rf v2), some (va_rf v3), some (va_rf v4), some (.int v5), none, none, none] [] g := by
    intro  g hf
    unfold w_L_law_b1674 at hf
    refine gg_goto (tgt := 2917) C dL_law_1674 (by decide) ?_
    exact gg_widen (k' := k + 60) (n' := n + 4000) (by omega) (by omega) (hkI _ hf)
  unfold w_law_22 at hf
  refine gg_aload_n C dL_law_1621 rfl ?_
  refine gg_aload_n C dL_law_1622 rfl ?_
  refine gg_iload C dL_law_1623 rfl ?_
  refine gg_iconst C dL_law_1625 (v := (1 : Int32)) (by decide) ?_
  refine gg_iadd C dL_law_1626 ?_
  refine gg_sld C hX hbl hbA dL_law_1627 hf.1 ?_
  replace hf := hf.2
  refine gg_aload_n C dL_law_1628 rfl ?_
  refine gr_I (k' := k + 1) (n' := n + 6) (gk_SW (As := [va_rf v1, .int (xs ((v5 + (1 : Int32))).toNatClampNeg), va_rf v3]) (rest := []) C dL_law_1629 tw_856 tw_857 tw_46 tw_858 gd_L_installs rfl ⟨by decide, by decide⟩ (by simp [gcat, gcI, gcL, gcF, gcD]) ⟨(by show k + 1 ≤ 603072; omega), (by show n + 6 ≤ 7186538; omega)⟩ (m_L_installs hfl hf)) rfl rfl (fun E g9 h9 => h9.elim) (fun i2 g1 hf => ?_)
  refine gg_istore (L' := [some (va_rf (some b)), some (va_rf v1), some (va_rf v2), some (va_rf v3), some (va_rf v4), some (.int v5), some (.int i2), none, none]) C dL_law_1632 (Or.inr (Or.inr ⟨_, rfl, rfl⟩)) (by decide) rfl ?_
  refine gg_aload_n C dL_law_1634 rfl ?_
  refine gg_aload_n C dL_law_1635 rfl ?_
  refine gg_iload C dL_law_1636 rfl ?_
  refine gg_iconst C dL_law_1638 (v := (1 : Int32)) (by decide) ?_
  refine gg_iadd C dL_law_1639 ?_
  refine gg_sld C hX hbl hbA dL_law_1640 hf.1 ?_
  replace hf := hf.2
  refine gr_I (k' := k + 1) (n' := n + 6) (gk_V (ci := 8) (As := [.int (xs ((v5 + (1 : Int32))).toNatClampNeg)]) (rest := []) C dL_law_1641 rfl rfl tw_1741 tw_1742 tw_1743 tw_56 tw_1744 gd_X8_installs rfl ⟨by decide, by decide⟩ (by simp [gcat, gcI, gcL, gcF, gcD]) ⟨(by show k + 1 + 0 ≤ 603072; omega), (by show n + 6 + 0 ≤ 7186538; omega)⟩ hf (fun hf => m_X8_installs hfl hf)) rfl rfl (fun E g9 h9 => h9.elim) (fun i4 g3 hf => ?_)
  refine gg_istore (L' := [some (va_rf (some b)), some (va_rf v1), some (va_rf v2), some (va_rf v3), some (va_rf v4), some (.int v5), some (.int i2), some (.int i4), none]) C dL_law_1644 (Or.inr (Or.inr ⟨_, rfl, rfl⟩)) (by decide) rfl ?_
  refine gg_aload_n C dL_law_1646 rfl ?_
  refine gr_I (k' := k + 1) (n' := n + 6) (gk_V (ci := 8) (As := []) (rest := []) C dL_law_1647 rfl rfl tw_1572 tw_1573 tw_1574 tw_56 tw_1575 gd_X8_thrown rfl ⟨by decide, by decide⟩ (by simp [gcat, gcI, gcL, gcF, gcD]) ⟨(by show k + 1 + 0 ≤ 603072; omega), (by show n + 6 + 0 ≤ 7186538; omega)⟩ hf (fun hf => m_X8_thrown hfl hf)) rfl rfl (fun E g9 h9 => h9.elim) (fun i6 g5 hf => ?_)
  refine gg_iload C dL_law_1650 rfl ?_
  refine gg_icmp_eq (tgt := 1657) C dL_law_1652 (by decide) hf (fun hf => ?_) (fun hf => ?_)
  · refine gg_iload C dL_law_1657 rfl ?_
    refine gg_if_ne (tgt := 1674) C dL_law_1659 (by decide) hf (fun hf => ?_) (fun hf => ?_)
    · exact gg_sub (L' := [some (va_rf (some b)), some (va_rf v1), some (va_rf v2), some (va_rf v3), some (va_rf v4), some (.int v5), none, none, none]) (by first | exact ⟨rfl, ⟨rfl, ⟨rfl, ⟨rfl, ⟨rfl, ⟨rfl, trivial⟩⟩⟩⟩⟩⟩ | simp [gsub]) (hb_1674 _ hf)
    · refine gg_aload_n C dL_law_1662 rfl ?_
      refine gg_iconst C dL_law_1663 (v := (0 : Int32)) (by decide) ?_
      refine gg_lald C dL_law_1664 hf (fun y7 hf => ?_)
      refine gg_iload C dL_law_1665 rfl ?_
      refine gg_i2l C dL_law_1667 ?_
      refine gg_lcmp C dL_law_1668 ?_
      refine gg_if_eq (tgt := 1674) C dL_law_1669 (by decide) hf (fun hf => ?_) (fun hf => ?_)
      · exact gg_sub (L' := [some (va_rf (some b)), some (va_rf v1), some (va_rf v2), some (va_rf v3), some (va_rf v4), some (.int v5), none, none, none]) (by first | exact ⟨rfl, ⟨rfl, ⟨rfl, ⟨rfl, ⟨rfl, ⟨rfl, trivial⟩⟩⟩⟩⟩⟩ | simp [gsub]) (hb_1674 _ hf)
      · refine gg_iconst C dL_law_1672 (v := (0 : Int32)) (by decide) ?_
        exact hf.elim
  · refine gg_iconst C dL_law_1655 (v := (0 : Int32)) (by decide) ?_
    exact hf.elim

def w_L_law_b1732 (X : Cx) (xs : Nat → Int32) (Ls b : Nat) (kI : GM → Prop) (v1 v2 v3 v4 : Option Nat) (v5 : Int32)  (g : GM) : Prop :=
  kI g
def w_law_23 (X : Cx) (xs : Nat → Int32) (Ls b : Nat) (kI : GM → Prop) (v1 v2 v3 v4 : Option Nat) (v5 : Int32) (g : GM) : Prop :=
  (vp_in (v5 + (1 : Int32)) Ls ∧ w_L_type X (fun (i2 : Int32) (g1 : GM) => (vp_in (v5 + (1 : Int32)) Ls ∧ wIs g1 v2 8 (w_X8_type X (fun (i4 : Int32) (g3 : GM) => wIs g3 v2 8 (w_X8_thrown X (fun (i6 : Int32) (g5 : GM) => (if i6 = i2 then (if i2 = 0 then wAldJ g5 v3 (0 : Int32) (fun (y7 : Int64) => (if (lg_cmp y7 ((i4).toInt64)) = 0 then w_L_law_b1732 X xs Ls b kI v1 v2 v3 v4 v5 g5 else False)) else w_L_law_b1732 X xs Ls b kI v1 v2 v3 v4 v5 g5) else False)) (fun _ _ => False) v2 g3)) (fun _ _ => False) v2 ((((xs ((v5 + (1 : Int32))).toNatClampNeg)).toUInt32 % 65536).toInt32) g1))) (fun _ _ => False) v1 ((((xs ((v5 + (1 : Int32))).toNatClampNeg)).toUInt32 % 65536).toInt32) v3 g)
set_option maxHeartbeats 4000000 in
set_option maxRecDepth 100000 in
theorem lc_23 {X : Cx} {p : Program} {l : Launch} {e : Env} {s : State} {m : MethodId} {args : Array Value} {below : List Frame} {meth : Method} {c : Code} {Q : State → Prop} {b Ls : Nat} {xs : Nat → Int32} (hfl : l.stackTraces = false) (C : FC X p l s m args meth c code 9 "ReleasetrainLaw") (hX : va_X b Ls xs s s.heap) (hbl : b < s.heap.size) (hbA : ¬ gA X b) {k n : Nat} (hk : k + 60 ≤ 603072) (hn : n + 4000 ≤ 7186538) {v1 v2 v3 v4 : Option Nat} {v5 : Int32} {kI : GM → Prop} (hkI : ∀ g, kI g → GG X p l e room_1 s m args below meth c 9 Q (k + 60) (n + 4000) 2917 [some (va_rf (some b)), some (va_rf v1), some (va_rf v2), some (va_rf v3), some (va_rf v4), some (.int v5), none, none, none] [] g) {g : GM} (hf : w_law_23 X xs Ls b kI v1 v2 v3 v4 v5 g) : GG X p l e room_1 s m args below meth c 9 Q k n 1677 [some (va_rf (some b)), some (va_rf v1), some (va_rf v2), some (va_rf v3), some (va_rf v4), some (.int v5), none, none, none] [] g := by
  have hb_1732 : ∀  (g : GM), w_L_law_b1732 X xs Ls b kI v1 v2 v3 v4 v5  g → GG X p l e room_1 s m args below meth c 9 Q (k + 1) (n + 6) 1732 [some (va_rf (some b)), some (va_rf v1), some (va_rf v2), some (va_rf v3), some (va_rf v4), some (.int v5), none, none, none] [] g := by
    intro  g hf
    unfold w_L_law_b1732 at hf
    refine gg_goto (tgt := 2917) C dL_law_1732 (by decide) ?_
    exact gg_widen (k' := k + 60) (n' := n + 4000) (by omega) (by omega) (hkI _ hf)
  unfold w_law_23 at hf
  refine gg_aload_n C dL_law_1677 rfl ?_
  refine gg_aload_n C dL_law_1678 rfl ?_
  refine gg_iload C dL_law_1679 rfl ?_
  refine gg_iconst C dL_law_1681 (v := (1 : Int32)) (by decide) ?_
  refine gg_iadd C dL_law_1682 ?_
  refine gg_sld C hX hbl hbA dL_law_1683 hf.1 ?_
  replace hf := hf.2
  refine gg_i2c C dL_law_1684 ?_
  refine gg_aload_n C dL_law_1685 rfl ?_
  refine gr_I (k' := k + 1) (n' := n + 6) (gk_SW (As := [va_rf v1, .int ((((xs ((v5 + (1 : Int32))).toNatClampNeg)).toUInt32 % 65536).toInt32), va_rf v3]) (rest := []) C dL_law_1686 tw_863 tw_864 tw_46 tw_865 gd_L_type rfl ⟨by decide, by decide⟩ (by simp [gcat, gcI, gcL, gcF, gcD]) ⟨(by show k + 1 ≤ 603072; omega), (by show n + 6 ≤ 7186538; omega)⟩ (m_L_type hfl hf)) rfl rfl (fun E g9 h9 => h9.elim) (fun i2 g1 hf => ?_)
  refine gg_istore (L' := [some (va_rf (some b)), some (va_rf v1), some (va_rf v2), some (va_rf v3), some (va_rf v4), some (.int v5), some (.int i2), none, none]) C dL_law_1689 (Or.inr (Or.inr ⟨_, rfl, rfl⟩)) (by decide) rfl ?_
  refine gg_aload_n C dL_law_1691 rfl ?_
  refine gg_aload_n C dL_law_1692 rfl ?_
  refine gg_iload C dL_law_1693 rfl ?_
  refine gg_iconst C dL_law_1695 (v := (1 : Int32)) (by decide) ?_
  refine gg_iadd C dL_law_1696 ?_
  refine gg_sld C hX hbl hbA dL_law_1697 hf.1 ?_
  replace hf := hf.2
  refine gg_i2c C dL_law_1698 ?_
  refine gr_I (k' := k + 1) (n' := n + 6) (gk_V (ci := 8) (As := [.int ((((xs ((v5 + (1 : Int32))).toNatClampNeg)).toUInt32 % 65536).toInt32)]) (rest := []) C dL_law_1699 rfl rfl tw_1745 tw_1746 tw_1747 tw_56 tw_1748 gd_X8_type rfl ⟨by decide, by decide⟩ (by simp [gcat, gcI, gcL, gcF, gcD]) ⟨(by show k + 1 + 0 ≤ 603072; omega), (by show n + 6 + 0 ≤ 7186538; omega)⟩ hf (fun hf => m_X8_type hfl hf)) rfl rfl (fun E g9 h9 => h9.elim) (fun i4 g3 hf => ?_)
  refine gg_istore (L' := [some (va_rf (some b)), some (va_rf v1), some (va_rf v2), some (va_rf v3), some (va_rf v4), some (.int v5), some (.int i2), some (.int i4), none]) C dL_law_1702 (Or.inr (Or.inr ⟨_, rfl, rfl⟩)) (by decide) rfl ?_
  refine gg_aload_n C dL_law_1704 rfl ?_
  refine gr_I (k' := k + 1) (n' := n + 6) (gk_V (ci := 8) (As := []) (rest := []) C dL_law_1705 rfl rfl tw_1572 tw_1573 tw_1574 tw_56 tw_1575 gd_X8_thrown rfl ⟨by decide, by decide⟩ (by simp [gcat, gcI, gcL, gcF, gcD]) ⟨(by show k + 1 + 0 ≤ 603072; omega), (by show n + 6 + 0 ≤ 7186538; omega)⟩ hf (fun hf => m_X8_thrown hfl hf)) rfl rfl (fun E g9 h9 => h9.elim) (fun i6 g5 hf => ?_)
  refine gg_iload C dL_law_1708 rfl ?_
  refine gg_icmp_eq (tgt := 1715) C dL_law_1710 (by decide) hf (fun hf => ?_) (fun hf => ?_)
  · refine gg_iload C dL_law_1715 rfl ?_
    refine gg_if_ne (tgt := 1732) C dL_law_1717 (by decide) hf (fun hf => ?_) (fun hf => ?_)
    · exact gg_sub (L' := [some (va_rf (some b)), some (va_rf v1), some (va_rf v2), some (va_rf v3), some (va_rf v4), some (.int v5), none, none, none]) (by first | exact ⟨rfl, ⟨rfl, ⟨rfl, ⟨rfl, ⟨rfl, ⟨rfl, trivial⟩⟩⟩⟩⟩⟩ | simp [gsub]) (hb_1732 _ hf)
    · refine gg_aload_n C dL_law_1720 rfl ?_
      refine gg_iconst C dL_law_1721 (v := (0 : Int32)) (by decide) ?_
      refine gg_lald C dL_law_1722 hf (fun y7 hf => ?_)
      refine gg_iload C dL_law_1723 rfl ?_
      refine gg_i2l C dL_law_1725 ?_
      refine gg_lcmp C dL_law_1726 ?_
      refine gg_if_eq (tgt := 1732) C dL_law_1727 (by decide) hf (fun hf => ?_) (fun hf => ?_)
      · exact gg_sub (L' := [some (va_rf (some b)), some (va_rf v1), some (va_rf v2), some (va_rf v3), some (va_rf v4), some (.int v5), none, none, none]) (by first | exact ⟨rfl, ⟨rfl, ⟨rfl, ⟨rfl, ⟨rfl, ⟨rfl, trivial⟩⟩⟩⟩⟩⟩ | simp [gsub]) (hb_1732 _ hf)
      · refine gg_iconst C dL_law_1730 (v := (0 : Int32)) (by decide) ?_
        exact hf.elim
  · refine gg_iconst C dL_law_1713 (v := (0 : Int32)) (by decide) ?_
    exact hf.elim

def w_L_law_b1788 (X : Cx) (xs : Nat → Int32) (Ls b : Nat) (kI : GM → Prop) (v1 v2 v3 v4 : Option Nat) (v5 : Int32)  (g : GM) : Prop :=
  kI g
def w_law_24 (X : Cx) (xs : Nat → Int32) (Ls b : Nat) (kI : GM → Prop) (v1 v2 v3 v4 : Option Nat) (v5 : Int32) (g : GM) : Prop :=
  (vp_in (v5 + (1 : Int32)) Ls ∧ w_L_crash X (fun (i2 : Int32) (g1 : GM) => (vp_in (v5 + (1 : Int32)) Ls ∧ wIs g1 v2 8 (w_X8_crash X (fun (i4 : Int32) (g3 : GM) => wIs g3 v2 8 (w_X8_thrown X (fun (i6 : Int32) (g5 : GM) => (if i6 = i2 then (if i2 = 0 then wAldJ g5 v3 (0 : Int32) (fun (y7 : Int64) => (if (lg_cmp y7 ((i4).toInt64)) = 0 then w_L_law_b1788 X xs Ls b kI v1 v2 v3 v4 v5 g5 else False)) else w_L_law_b1788 X xs Ls b kI v1 v2 v3 v4 v5 g5) else False)) (fun _ _ => False) v2 g3)) (fun _ _ => False) v2 (xs ((v5 + (1 : Int32))).toNatClampNeg) g1))) (fun _ _ => False) v1 (xs ((v5 + (1 : Int32))).toNatClampNeg) v3 g)
set_option maxHeartbeats 4000000 in
set_option maxRecDepth 100000 in
theorem lc_24 {X : Cx} {p : Program} {l : Launch} {e : Env} {s : State} {m : MethodId} {args : Array Value} {below : List Frame} {meth : Method} {c : Code} {Q : State → Prop} {b Ls : Nat} {xs : Nat → Int32} (hfl : l.stackTraces = false) (C : FC X p l s m args meth c code 9 "ReleasetrainLaw") (hX : va_X b Ls xs s s.heap) (hbl : b < s.heap.size) (hbA : ¬ gA X b) {k n : Nat} (hk : k + 60 ≤ 603072) (hn : n + 4000 ≤ 7186538) {v1 v2 v3 v4 : Option Nat} {v5 : Int32} {kI : GM → Prop} (hkI : ∀ g, kI g → GG X p l e room_1 s m args below meth c 9 Q (k + 60) (n + 4000) 2917 [some (va_rf (some b)), some (va_rf v1), some (va_rf v2), some (va_rf v3), some (va_rf v4), some (.int v5), none, none, none] [] g) {g : GM} (hf : w_law_24 X xs Ls b kI v1 v2 v3 v4 v5 g) : GG X p l e room_1 s m args below meth c 9 Q k n 1735 [some (va_rf (some b)), some (va_rf v1), some (va_rf v2), some (va_rf v3), some (va_rf v4), some (.int v5), none, none, none] [] g := by
  have hb_1788 : ∀  (g : GM), w_L_law_b1788 X xs Ls b kI v1 v2 v3 v4 v5  g → GG X p l e room_1 s m args below meth c 9 Q (k + 6) (n + 88) 1788 [some (va_rf (some b)), some (va_rf v1), some (va_rf v2), some (va_rf v3), some (va_rf v4), some (.int v5), none, none, none] [] g := by
    intro  g hf
    unfold w_L_law_b1788 at hf
    refine gg_goto (tgt := 2917) C dL_law_1788 (by decide) ?_
    exact gg_widen (k' := k + 60) (n' := n + 4000) (by omega) (by omega) (hkI _ hf)
  unfold w_law_24 at hf
  refine gg_aload_n C dL_law_1735 rfl ?_
  refine gg_aload_n C dL_law_1736 rfl ?_
  refine gg_iload C dL_law_1737 rfl ?_
  refine gg_iconst C dL_law_1739 (v := (1 : Int32)) (by decide) ?_
  refine gg_iadd C dL_law_1740 ?_
  refine gg_sld C hX hbl hbA dL_law_1741 hf.1 ?_
  replace hf := hf.2
  refine gg_aload_n C dL_law_1742 rfl ?_
  refine gr_I (k' := k + 6) (n' := n + 88) (gk_SW (As := [va_rf v1, .int (xs ((v5 + (1 : Int32))).toNatClampNeg), va_rf v3]) (rest := []) C dL_law_1743 tw_876 tw_877 tw_46 tw_878 gd_L_crash rfl ⟨by decide, by decide⟩ (by simp [gcat, gcI, gcL, gcF, gcD]) ⟨(by show k + 6 ≤ 603072; omega), (by show n + 88 ≤ 7186538; omega)⟩ (m_L_crash hfl hf)) rfl rfl (fun E g9 h9 => h9.elim) (fun i2 g1 hf => ?_)
  refine gg_istore (L' := [some (va_rf (some b)), some (va_rf v1), some (va_rf v2), some (va_rf v3), some (va_rf v4), some (.int v5), some (.int i2), none, none]) C dL_law_1746 (Or.inr (Or.inr ⟨_, rfl, rfl⟩)) (by decide) rfl ?_
  refine gg_aload_n C dL_law_1748 rfl ?_
  refine gg_aload_n C dL_law_1749 rfl ?_
  refine gg_iload C dL_law_1750 rfl ?_
  refine gg_iconst C dL_law_1752 (v := (1 : Int32)) (by decide) ?_
  refine gg_iadd C dL_law_1753 ?_
  refine gg_sld C hX hbl hbA dL_law_1754 hf.1 ?_
  replace hf := hf.2
  refine gr_I (k' := k + 6) (n' := n + 88) (gk_V (ci := 8) (As := [.int (xs ((v5 + (1 : Int32))).toNatClampNeg)]) (rest := []) C dL_law_1755 rfl rfl tw_1749 tw_1750 tw_1751 tw_56 tw_1752 gd_X8_crash rfl ⟨by decide, by decide⟩ (by simp [gcat, gcI, gcL, gcF, gcD]) ⟨(by show k + 6 + 0 ≤ 603072; omega), (by show n + 88 + 0 ≤ 7186538; omega)⟩ hf (fun hf => m_X8_crash hfl hf)) rfl rfl (fun E g9 h9 => h9.elim) (fun i4 g3 hf => ?_)
  refine gg_istore (L' := [some (va_rf (some b)), some (va_rf v1), some (va_rf v2), some (va_rf v3), some (va_rf v4), some (.int v5), some (.int i2), some (.int i4), none]) C dL_law_1758 (Or.inr (Or.inr ⟨_, rfl, rfl⟩)) (by decide) rfl ?_
  refine gg_aload_n C dL_law_1760 rfl ?_
  refine gr_I (k' := k + 6) (n' := n + 88) (gk_V (ci := 8) (As := []) (rest := []) C dL_law_1761 rfl rfl tw_1572 tw_1573 tw_1574 tw_56 tw_1575 gd_X8_thrown rfl ⟨by decide, by decide⟩ (by simp [gcat, gcI, gcL, gcF, gcD]) ⟨(by show k + 6 + 0 ≤ 603072; omega), (by show n + 88 + 0 ≤ 7186538; omega)⟩ hf (fun hf => m_X8_thrown hfl hf)) rfl rfl (fun E g9 h9 => h9.elim) (fun i6 g5 hf => ?_)
  refine gg_iload C dL_law_1764 rfl ?_
  refine gg_icmp_eq (tgt := 1771) C dL_law_1766 (by decide) hf (fun hf => ?_) (fun hf => ?_)
  · refine gg_iload C dL_law_1771 rfl ?_
    refine gg_if_ne (tgt := 1788) C dL_law_1773 (by decide) hf (fun hf => ?_) (fun hf => ?_)
    · exact gg_sub (L' := [some (va_rf (some b)), some (va_rf v1), some (va_rf v2), some (va_rf v3), some (va_rf v4), some (.int v5), none, none, none]) (by first | exact ⟨rfl, ⟨rfl, ⟨rfl, ⟨rfl, ⟨rfl, ⟨rfl, trivial⟩⟩⟩⟩⟩⟩ | simp [gsub]) (hb_1788 _ hf)
    · refine gg_aload_n C dL_law_1776 rfl ?_
      refine gg_iconst C dL_law_1777 (v := (0 : Int32)) (by decide) ?_
      refine gg_lald C dL_law_1778 hf (fun y7 hf => ?_)
      refine gg_iload C dL_law_1779 rfl ?_
      refine gg_i2l C dL_law_1781 ?_
      refine gg_lcmp C dL_law_1782 ?_
      refine gg_if_eq (tgt := 1788) C dL_law_1783 (by decide) hf (fun hf => ?_) (fun hf => ?_)
      · exact gg_sub (L' := [some (va_rf (some b)), some (va_rf v1), some (va_rf v2), some (va_rf v3), some (va_rf v4), some (.int v5), none, none, none]) (by first | exact ⟨rfl, ⟨rfl, ⟨rfl, ⟨rfl, ⟨rfl, ⟨rfl, trivial⟩⟩⟩⟩⟩⟩ | simp [gsub]) (hb_1788 _ hf)
      · refine gg_iconst C dL_law_1786 (v := (0 : Int32)) (by decide) ?_
        exact hf.elim
  · refine gg_iconst C dL_law_1769 (v := (0 : Int32)) (by decide) ?_
    exact hf.elim

def w_law_25 (X : Cx) (xs : Nat → Int32) (Ls b : Nat) (kI : GM → Prop) (v1 v2 v3 v4 : Option Nat) (v5 : Int32) (g : GM) : Prop :=
  wIs g v1 7 (w_X7_groups X (fun (i2 : Int32) (g1 : GM) => wIs g1 v2 8 (w_X8_groups X (fun (i4 : Int32) (g3 : GM) => (if i2 = i4 then kI g3 else False)) (fun _ _ => False) v2 g1)) (fun _ _ => False) v1 g)
set_option maxHeartbeats 4000000 in
set_option maxRecDepth 100000 in
theorem lc_25 {X : Cx} {p : Program} {l : Launch} {e : Env} {s : State} {m : MethodId} {args : Array Value} {below : List Frame} {meth : Method} {c : Code} {Q : State → Prop} {b Ls : Nat} {xs : Nat → Int32} (hfl : l.stackTraces = false) (C : FC X p l s m args meth c code 9 "ReleasetrainLaw") (hX : va_X b Ls xs s s.heap) (hbl : b < s.heap.size) (hbA : ¬ gA X b) {k n : Nat} (hk : k + 60 ≤ 603072) (hn : n + 4000 ≤ 7186538) {v1 v2 v3 v4 : Option Nat} {v5 : Int32} {kI : GM → Prop} (hkI : ∀ g, kI g → GG X p l e room_1 s m args below meth c 9 Q (k + 60) (n + 4000) 2917 [some (va_rf (some b)), some (va_rf v1), some (va_rf v2), some (va_rf v3), some (va_rf v4), some (.int v5), none, none, none] [] g) {g : GM} (hf : w_law_25 X xs Ls b kI v1 v2 v3 v4 v5 g) : GG X p l e room_1 s m args below meth c 9 Q k n 1791 [some (va_rf (some b)), some (va_rf v1), some (va_rf v2), some (va_rf v3), some (va_rf v4), some (.int v5), none, none, none] [] g := by
  unfold w_law_25 at hf
  refine gg_aload_n C dL_law_1791 rfl ?_
  refine gr_I (k' := k) (n' := n) (gk_V (ci := 7) (As := []) (rest := []) C dL_law_1792 rfl rfl tw_213 tw_214 tw_215 tw_47 tw_216 gd_X7_groups rfl ⟨by decide, by decide⟩ (by simp [gcat, gcI, gcL, gcF, gcD]) ⟨(by show k + 0 ≤ 603072; omega), (by show n + 0 ≤ 7186538; omega)⟩ hf (fun hf => m_X7_groups hfl hf)) rfl rfl (fun E g9 h9 => h9.elim) (fun i2 g1 hf => ?_)
  refine gg_aload_n C dL_law_1795 rfl ?_
  refine gr_I (k' := k) (n' := n) (gk_V (ci := 8) (As := []) (rest := [.int i2]) C dL_law_1796 rfl rfl tw_1761 tw_1762 tw_1763 tw_56 tw_1764 gd_X8_groups rfl ⟨by decide, by decide⟩ (by simp [gcat, gcI, gcL, gcF, gcD]) ⟨(by show k + 0 ≤ 603072; omega), (by show n + 0 ≤ 7186538; omega)⟩ hf (fun hf => m_X8_groups hfl hf)) rfl rfl (fun E g9 h9 => h9.elim) (fun i4 g3 hf => ?_)
  refine gg_icmp_eq (tgt := 2917) C dL_law_1799 (by decide) hf (fun hf => ?_) (fun hf => ?_)
  · exact gg_widen (k' := k + 60) (n' := n + 4000) (by omega) (by omega) (hkI _ hf)
  · refine gg_iconst C dL_law_1802 (v := (0 : Int32)) (by decide) ?_
    exact hf.elim

def w_L_law_b1857 (X : Cx) (xs : Nat → Int32) (Ls b : Nat) (kI : GM → Prop) (v1 v2 v3 v4 : Option Nat) (v5 : Int32)  (g : GM) : Prop :=
  kI g
def w_law_26 (X : Cx) (xs : Nat → Int32) (Ls b : Nat) (kI : GM → Prop) (v1 v2 v3 v4 : Option Nat) (v5 : Int32) (g : GM) : Prop :=
  (vp_in (v5 + (1 : Int32)) Ls ∧ w_L_crashesIn X (fun (i2 : Int32) (g1 : GM) => (vp_in (v5 + (1 : Int32)) Ls ∧ wIs g1 v2 8 (w_X8_crashesIn X (fun (i4 : Int32) (g3 : GM) => wIs g3 v2 8 (w_X8_thrown X (fun (i6 : Int32) (g5 : GM) => (if i6 = i2 then (if i2 = 0 then wAldJ g5 v3 (0 : Int32) (fun (y7 : Int64) => (if (lg_cmp y7 ((i4).toInt64)) = 0 then w_L_law_b1857 X xs Ls b kI v1 v2 v3 v4 v5 g5 else False)) else w_L_law_b1857 X xs Ls b kI v1 v2 v3 v4 v5 g5) else False)) (fun _ _ => False) v2 g3)) (fun _ _ => False) v2 (xs ((v5 + (1 : Int32))).toNatClampNeg) g1))) (fun _ _ => False) v1 (xs ((v5 + (1 : Int32))).toNatClampNeg) v3 g)
set_option maxHeartbeats 4000000 in
set_option maxRecDepth 100000 in
theorem lc_26 {X : Cx} {p : Program} {l : Launch} {e : Env} {s : State} {m : MethodId} {args : Array Value} {below : List Frame} {meth : Method} {c : Code} {Q : State → Prop} {b Ls : Nat} {xs : Nat → Int32} (hfl : l.stackTraces = false) (C : FC X p l s m args meth c code 9 "ReleasetrainLaw") (hX : va_X b Ls xs s s.heap) (hbl : b < s.heap.size) (hbA : ¬ gA X b) {k n : Nat} (hk : k + 60 ≤ 603072) (hn : n + 4000 ≤ 7186538) {v1 v2 v3 v4 : Option Nat} {v5 : Int32} {kI : GM → Prop} (hkI : ∀ g, kI g → GG X p l e room_1 s m args below meth c 9 Q (k + 60) (n + 4000) 2917 [some (va_rf (some b)), some (va_rf v1), some (va_rf v2), some (va_rf v3), some (va_rf v4), some (.int v5), none, none, none] [] g) {g : GM} (hf : w_law_26 X xs Ls b kI v1 v2 v3 v4 v5 g) : GG X p l e room_1 s m args below meth c 9 Q k n 1804 [some (va_rf (some b)), some (va_rf v1), some (va_rf v2), some (va_rf v3), some (va_rf v4), some (.int v5), none, none, none] [] g := by
  have hb_1857 : ∀  (g : GM), w_L_law_b1857 X xs Ls b kI v1 v2 v3 v4 v5  g → GG X p l e room_1 s m args below meth c 9 Q (k + 1) (n + 6) 1857 [some (va_rf (some b)), some (va_rf v1), some (va_rf v2), some (va_rf v3), some (va_rf v4), some (.int v5), none, none, none] [] g := by
    intro  g hf
    unfold w_L_law_b1857 at hf
    refine gg_goto (tgt := 2917) C dL_law_1857 (by decide) ?_
    exact gg_widen (k' := k + 60) (n' := n + 4000) (by omega) (by omega) (hkI _ hf)
  unfold w_law_26 at hf
  refine gg_aload_n C dL_law_1804 rfl ?_
  refine gg_aload_n C dL_law_1805 rfl ?_
  refine gg_iload C dL_law_1806 rfl ?_
  refine gg_iconst C dL_law_1808 (v := (1 : Int32)) (by decide) ?_
  refine gg_iadd C dL_law_1809 ?_
  refine gg_sld C hX hbl hbA dL_law_1810 hf.1 ?_
  replace hf := hf.2
  refine gg_aload_n C dL_law_1811 rfl ?_
  refine gr_I (k' := k + 1) (n' := n + 6) (gk_SW (As := [va_rf v1, .int (xs ((v5 + (1 : Int32))).toNatClampNeg), va_rf v3]) (rest := []) C dL_law_1812 tw_935 tw_936 tw_46 tw_937 gd_L_crashesIn rfl ⟨by decide, by decide⟩ (by simp [gcat, gcI, gcL, gcF, gcD]) ⟨(by show k + 1 ≤ 603072; omega), (by show n + 6 ≤ 7186538; omega)⟩ (m_L_crashesIn hfl hf)) rfl rfl (fun E g9 h9 => h9.elim) (fun i2 g1 hf => ?_)
  refine gg_istore (L' := [some (va_rf (some b)), some (va_rf v1), some (va_rf v2), some (va_rf v3), some (va_rf v4), some (.int v5), some (.int i2), none, none]) C dL_law_1815 (Or.inr (Or.inr ⟨_, rfl, rfl⟩)) (by decide) rfl ?_
  refine gg_aload_n C dL_law_1817 rfl ?_
  refine gg_aload_n C dL_law_1818 rfl ?_
  refine gg_iload C dL_law_1819 rfl ?_
  refine gg_iconst C dL_law_1821 (v := (1 : Int32)) (by decide) ?_
  refine gg_iadd C dL_law_1822 ?_
  refine gg_sld C hX hbl hbA dL_law_1823 hf.1 ?_
  replace hf := hf.2
  refine gr_I (k' := k + 1) (n' := n + 6) (gk_V (ci := 8) (As := [.int (xs ((v5 + (1 : Int32))).toNatClampNeg)]) (rest := []) C dL_law_1824 rfl rfl tw_1765 tw_1766 tw_1767 tw_56 tw_1768 gd_X8_crashesIn rfl ⟨by decide, by decide⟩ (by simp [gcat, gcI, gcL, gcF, gcD]) ⟨(by show k + 1 + 0 ≤ 603072; omega), (by show n + 6 + 0 ≤ 7186538; omega)⟩ hf (fun hf => m_X8_crashesIn hfl hf)) rfl rfl (fun E g9 h9 => h9.elim) (fun i4 g3 hf => ?_)
  refine gg_istore (L' := [some (va_rf (some b)), some (va_rf v1), some (va_rf v2), some (va_rf v3), some (va_rf v4), some (.int v5), some (.int i2), some (.int i4), none]) C dL_law_1827 (Or.inr (Or.inr ⟨_, rfl, rfl⟩)) (by decide) rfl ?_
  refine gg_aload_n C dL_law_1829 rfl ?_
  refine gr_I (k' := k + 1) (n' := n + 6) (gk_V (ci := 8) (As := []) (rest := []) C dL_law_1830 rfl rfl tw_1572 tw_1573 tw_1574 tw_56 tw_1575 gd_X8_thrown rfl ⟨by decide, by decide⟩ (by simp [gcat, gcI, gcL, gcF, gcD]) ⟨(by show k + 1 + 0 ≤ 603072; omega), (by show n + 6 + 0 ≤ 7186538; omega)⟩ hf (fun hf => m_X8_thrown hfl hf)) rfl rfl (fun E g9 h9 => h9.elim) (fun i6 g5 hf => ?_)
  refine gg_iload C dL_law_1833 rfl ?_
  refine gg_icmp_eq (tgt := 1840) C dL_law_1835 (by decide) hf (fun hf => ?_) (fun hf => ?_)
  · refine gg_iload C dL_law_1840 rfl ?_
    refine gg_if_ne (tgt := 1857) C dL_law_1842 (by decide) hf (fun hf => ?_) (fun hf => ?_)
    · exact gg_sub (L' := [some (va_rf (some b)), some (va_rf v1), some (va_rf v2), some (va_rf v3), some (va_rf v4), some (.int v5), none, none, none]) (by first | exact ⟨rfl, ⟨rfl, ⟨rfl, ⟨rfl, ⟨rfl, ⟨rfl, trivial⟩⟩⟩⟩⟩⟩ | simp [gsub]) (hb_1857 _ hf)
    · refine gg_aload_n C dL_law_1845 rfl ?_
      refine gg_iconst C dL_law_1846 (v := (0 : Int32)) (by decide) ?_
      refine gg_lald C dL_law_1847 hf (fun y7 hf => ?_)
      refine gg_iload C dL_law_1848 rfl ?_
      refine gg_i2l C dL_law_1850 ?_
      refine gg_lcmp C dL_law_1851 ?_
      refine gg_if_eq (tgt := 1857) C dL_law_1852 (by decide) hf (fun hf => ?_) (fun hf => ?_)
      · exact gg_sub (L' := [some (va_rf (some b)), some (va_rf v1), some (va_rf v2), some (va_rf v3), some (va_rf v4), some (.int v5), none, none, none]) (by first | exact ⟨rfl, ⟨rfl, ⟨rfl, ⟨rfl, ⟨rfl, ⟨rfl, trivial⟩⟩⟩⟩⟩⟩ | simp [gsub]) (hb_1857 _ hf)
      · refine gg_iconst C dL_law_1855 (v := (0 : Int32)) (by decide) ?_
        exact hf.elim
  · refine gg_iconst C dL_law_1838 (v := (0 : Int32)) (by decide) ?_
    exact hf.elim

def w_L_law_b1925 (X : Cx) (xs : Nat → Int32) (Ls b : Nat) (kI : GM → Prop) (v1 v2 v3 v4 : Option Nat) (v5 : Int32)  (g : GM) : Prop :=
  kI g
def w_law_27 (X : Cx) (xs : Nat → Int32) (Ls b : Nat) (kI : GM → Prop) (v1 v2 v3 v4 : Option Nat) (v5 : Int32) (g : GM) : Prop :=
  (vp_in (v5 + (1 : Int32)) Ls ∧ (vp_in (v5 + (2 : Int32)) Ls ∧ w_L_stackAt X (fun (i2 : Int32) (g1 : GM) => (vp_in (v5 + (1 : Int32)) Ls ∧ (vp_in (v5 + (2 : Int32)) Ls ∧ wIs g1 v2 8 (w_X8_stackAt X (fun (i4 : Int32) (g3 : GM) => wIs g3 v2 8 (w_X8_thrown X (fun (i6 : Int32) (g5 : GM) => (if i6 = i2 then (if i2 = 0 then wAldJ g5 v3 (0 : Int32) (fun (y7 : Int64) => (if (lg_cmp y7 ((i4).toInt64)) = 0 then w_L_law_b1925 X xs Ls b kI v1 v2 v3 v4 v5 g5 else False)) else w_L_law_b1925 X xs Ls b kI v1 v2 v3 v4 v5 g5) else False)) (fun _ _ => False) v2 g3)) (fun _ _ => False) v2 (xs ((v5 + (1 : Int32))).toNatClampNeg) (xs ((v5 + (2 : Int32))).toNatClampNeg) g1)))) (fun _ _ => False) v1 (xs ((v5 + (1 : Int32))).toNatClampNeg) (xs ((v5 + (2 : Int32))).toNatClampNeg) v3 g))
set_option maxHeartbeats 4000000 in
set_option maxRecDepth 100000 in
theorem lc_27 {X : Cx} {p : Program} {l : Launch} {e : Env} {s : State} {m : MethodId} {args : Array Value} {below : List Frame} {meth : Method} {c : Code} {Q : State → Prop} {b Ls : Nat} {xs : Nat → Int32} (hfl : l.stackTraces = false) (C : FC X p l s m args meth c code 9 "ReleasetrainLaw") (hX : va_X b Ls xs s s.heap) (hbl : b < s.heap.size) (hbA : ¬ gA X b) {k n : Nat} (hk : k + 60 ≤ 603072) (hn : n + 4000 ≤ 7186538) {v1 v2 v3 v4 : Option Nat} {v5 : Int32} {kI : GM → Prop} (hkI : ∀ g, kI g → GG X p l e room_1 s m args below meth c 9 Q (k + 60) (n + 4000) 2917 [some (va_rf (some b)), some (va_rf v1), some (va_rf v2), some (va_rf v3), some (va_rf v4), some (.int v5), none, none, none] [] g) {g : GM} (hf : w_law_27 X xs Ls b kI v1 v2 v3 v4 v5 g) : GG X p l e room_1 s m args below meth c 9 Q k n 1860 [some (va_rf (some b)), some (va_rf v1), some (va_rf v2), some (va_rf v3), some (va_rf v4), some (.int v5), none, none, none] [] g := by
  have hb_1925 : ∀  (g : GM), w_L_law_b1925 X xs Ls b kI v1 v2 v3 v4 v5  g → GG X p l e room_1 s m args below meth c 9 Q (k + 2) (n + 12) 1925 [some (va_rf (some b)), some (va_rf v1), some (va_rf v2), some (va_rf v3), some (va_rf v4), some (.int v5), none, none, none] [] g := by
    intro  g hf
    unfold w_L_law_b1925 at hf
    refine gg_goto (tgt := 2917) C dL_law_1925 (by decide) ?_
    exact gg_widen (k' := k + 60) (n' := n + 4000) (by omega) (by omega) (hkI _ hf)
  unfold w_law_27 at hf
  refine gg_aload_n C dL_law_1860 rfl ?_
  refine gg_aload_n C dL_law_1861 rfl ?_
  refine gg_iload C dL_law_1862 rfl ?_
  refine gg_iconst C dL_law_1864 (v := (1 : Int32)) (by decide) ?_
  refine gg_iadd C dL_law_1865 ?_
  refine gg_sld C hX hbl hbA dL_law_1866 hf.1 ?_
  replace hf := hf.2
  refine gg_aload_n C dL_law_1867 rfl ?_
  refine gg_iload C dL_law_1868 rfl ?_
  refine gg_iconst C dL_law_1870 (v := (2 : Int32)) (by decide) ?_
  refine gg_iadd C dL_law_1871 ?_
  refine gg_sld C hX hbl hbA dL_law_1872 hf.1 ?_
  replace hf := hf.2
  refine gg_aload_n C dL_law_1873 rfl ?_
  refine gr_I (k' := k + 2) (n' := n + 12) (gk_SW (As := [va_rf v1, .int (xs ((v5 + (1 : Int32))).toNatClampNeg), .int (xs ((v5 + (2 : Int32))).toNatClampNeg), va_rf v3]) (rest := []) C dL_law_1874 tw_947 tw_948 tw_46 tw_949 gd_L_stackAt rfl ⟨by decide, by decide⟩ (by simp [gcat, gcI, gcL, gcF, gcD]) ⟨(by show k + 2 ≤ 603072; omega), (by show n + 12 ≤ 7186538; omega)⟩ (m_L_stackAt hfl hf)) rfl rfl (fun E g9 h9 => h9.elim) (fun i2 g1 hf => ?_)
  refine gg_istore (L' := [some (va_rf (some b)), some (va_rf v1), some (va_rf v2), some (va_rf v3), some (va_rf v4), some (.int v5), some (.int i2), none, none]) C dL_law_1877 (Or.inr (Or.inr ⟨_, rfl, rfl⟩)) (by decide) rfl ?_
  refine gg_aload_n C dL_law_1879 rfl ?_
  refine gg_aload_n C dL_law_1880 rfl ?_
  refine gg_iload C dL_law_1881 rfl ?_
  refine gg_iconst C dL_law_1883 (v := (1 : Int32)) (by decide) ?_
  refine gg_iadd C dL_law_1884 ?_
  refine gg_sld C hX hbl hbA dL_law_1885 hf.1 ?_
  replace hf := hf.2
  refine gg_aload_n C dL_law_1886 rfl ?_
  refine gg_iload C dL_law_1887 rfl ?_
  refine gg_iconst C dL_law_1889 (v := (2 : Int32)) (by decide) ?_
  refine gg_iadd C dL_law_1890 ?_
  refine gg_sld C hX hbl hbA dL_law_1891 hf.1 ?_
  replace hf := hf.2
  refine gr_I (k' := k + 2) (n' := n + 12) (gk_V (ci := 8) (As := [.int (xs ((v5 + (1 : Int32))).toNatClampNeg), .int (xs ((v5 + (2 : Int32))).toNatClampNeg)]) (rest := []) C dL_law_1892 rfl rfl tw_1773 tw_1774 tw_1775 tw_56 tw_1776 gd_X8_stackAt rfl ⟨by decide, by decide⟩ (by simp [gcat, gcI, gcL, gcF, gcD]) ⟨(by show k + 2 + 0 ≤ 603072; omega), (by show n + 12 + 0 ≤ 7186538; omega)⟩ hf (fun hf => m_X8_stackAt hfl hf)) rfl rfl (fun E g9 h9 => h9.elim) (fun i4 g3 hf => ?_)
  refine gg_istore (L' := [some (va_rf (some b)), some (va_rf v1), some (va_rf v2), some (va_rf v3), some (va_rf v4), some (.int v5), some (.int i2), some (.int i4), none]) C dL_law_1895 (Or.inr (Or.inr ⟨_, rfl, rfl⟩)) (by decide) rfl ?_
  refine gg_aload_n C dL_law_1897 rfl ?_
  refine gr_I (k' := k + 2) (n' := n + 12) (gk_V (ci := 8) (As := []) (rest := []) C dL_law_1898 rfl rfl tw_1572 tw_1573 tw_1574 tw_56 tw_1575 gd_X8_thrown rfl ⟨by decide, by decide⟩ (by simp [gcat, gcI, gcL, gcF, gcD]) ⟨(by show k + 2 + 0 ≤ 603072; omega), (by show n + 12 + 0 ≤ 7186538; omega)⟩ hf (fun hf => m_X8_thrown hfl hf)) rfl rfl (fun E g9 h9 => h9.elim) (fun i6 g5 hf => ?_)
  refine gg_iload C dL_law_1901 rfl ?_
  refine gg_icmp_eq (tgt := 1908) C dL_law_1903 (by decide) hf (fun hf => ?_) (fun hf => ?_)
  · refine gg_iload C dL_law_1908 rfl ?_
    refine gg_if_ne (tgt := 1925) C dL_law_1910 (by decide) hf (fun hf => ?_) (fun hf => ?_)
    · exact gg_sub (L' := [some (va_rf (some b)), some (va_rf v1), some (va_rf v2), some (va_rf v3), some (va_rf v4), some (.int v5), none, none, none]) (by first | exact ⟨rfl, ⟨rfl, ⟨rfl, ⟨rfl, ⟨rfl, ⟨rfl, trivial⟩⟩⟩⟩⟩⟩ | simp [gsub]) (hb_1925 _ hf)
    · refine gg_aload_n C dL_law_1913 rfl ?_
      refine gg_iconst C dL_law_1914 (v := (0 : Int32)) (by decide) ?_
      refine gg_lald C dL_law_1915 hf (fun y7 hf => ?_)
      refine gg_iload C dL_law_1916 rfl ?_
      refine gg_i2l C dL_law_1918 ?_
      refine gg_lcmp C dL_law_1919 ?_
      refine gg_if_eq (tgt := 1925) C dL_law_1920 (by decide) hf (fun hf => ?_) (fun hf => ?_)
      · exact gg_sub (L' := [some (va_rf (some b)), some (va_rf v1), some (va_rf v2), some (va_rf v3), some (va_rf v4), some (.int v5), none, none, none]) (by first | exact ⟨rfl, ⟨rfl, ⟨rfl, ⟨rfl, ⟨rfl, ⟨rfl, trivial⟩⟩⟩⟩⟩⟩ | simp [gsub]) (hb_1925 _ hf)
      · refine gg_iconst C dL_law_1923 (v := (0 : Int32)) (by decide) ?_
        exact hf.elim
  · refine gg_iconst C dL_law_1906 (v := (0 : Int32)) (by decide) ?_
    exact hf.elim

def w_L_law_b2015 (X : Cx) (xs : Nat → Int32) (Ls b : Nat) (kI : GM → Prop) (v1 v2 v3 v4 : Option Nat) (v5 : Int32)  (g : GM) : Prop :=
  kI g
def w_L_law_b2013 (X : Cx) (xs : Nat → Int32) (Ls b : Nat) (kI : GM → Prop) (v1 v2 v3 v4 : Option Nat) (v5 : Int32)  (g : GM) : Prop :=
  False
def w_law_28 (X : Cx) (xs : Nat → Int32) (Ls b : Nat) (kI : GM → Prop) (v1 v2 v3 v4 : Option Nat) (v5 : Int32) (g : GM) : Prop :=
  (vp_in (v5 + (1 : Int32)) Ls ∧ (vp_in (v5 + (2 : Int32)) Ls ∧ w_L_likeness X (fun (i2 : Int32) (g1 : GM) => (vp_in (v5 + (1 : Int32)) Ls ∧ (vp_in (v5 + (2 : Int32)) Ls ∧ wIs g1 v2 8 (w_X8_likeness X (fun (x4 : UInt32) (g3 : GM) => wIs g3 v2 8 (w_X8_thrown X (fun (i6 : Int32) (g5 : GM) => (if i6 = i2 then (if i2 = 0 then wAldD g5 v4 (0 : Int32) (fun (z7 : UInt64) => vf_n64 (FP.f2d x4) ∧ (if (Op.cmpValue (FP.dcmp z7 (FP.f2d x4)) .l) = 0 then w_L_law_b2015 X xs Ls b kI v1 v2 v3 v4 v5 g5 else wAldD g5 v4 (0 : Int32) (fun (z8 : UInt64) => wAldD g5 v4 (0 : Int32) (fun (z9 : UInt64) => (if (Op.cmpValue (FP.dcmp z8 z9) .l) = 0 then w_L_law_b2013 X xs Ls b kI v1 v2 v3 v4 v5 g5 else (if (Op.cmpValue (FP.fcmp x4 x4) .l) = 0 then w_L_law_b2013 X xs Ls b kI v1 v2 v3 v4 v5 g5 else w_L_law_b2015 X xs Ls b kI v1 v2 v3 v4 v5 g5)))))) else w_L_law_b2015 X xs Ls b kI v1 v2 v3 v4 v5 g5) else False)) (fun _ _ => False) v2 g3)) (fun _ _ => False) v2 (xs ((v5 + (1 : Int32))).toNatClampNeg) (xs ((v5 + (2 : Int32))).toNatClampNeg) g1)))) (fun _ _ => False) v1 (xs ((v5 + (1 : Int32))).toNatClampNeg) (xs ((v5 + (2 : Int32))).toNatClampNeg) v4 g))
set_option maxHeartbeats 4000000 in
set_option maxRecDepth 100000 in
theorem lc_28 {X : Cx} {p : Program} {l : Launch} {e : Env} {s : State} {m : MethodId} {args : Array Value} {below : List Frame} {meth : Method} {c : Code} {Q : State → Prop} {b Ls : Nat} {xs : Nat → Int32} (hfl : l.stackTraces = false) (C : FC X p l s m args meth c code 9 "ReleasetrainLaw") (hX : va_X b Ls xs s s.heap) (hbl : b < s.heap.size) (hbA : ¬ gA X b) {k n : Nat} (hk : k + 60 ≤ 603072) (hn : n + 4000 ≤ 7186538) {v1 v2 v3 v4 : Option Nat} {v5 : Int32} {kI : GM → Prop} (hkI : ∀ g, kI g → GG X p l e room_1 s m args below meth c 9 Q (k + 60) (n + 4000) 2917 [some (va_rf (some b)), some (va_rf v1), some (va_rf v2), some (va_rf v3), some (va_rf v4), some (.int v5), none, none, none] [] g) {g : GM} (hf : w_law_28 X xs Ls b kI v1 v2 v3 v4 v5 g) : GG X p l e room_1 s m args below meth c 9 Q k n 1928 [some (va_rf (some b)), some (va_rf v1), some (va_rf v2), some (va_rf v3), some (va_rf v4), some (.int v5), none, none, none] [] g := by
  have hb_2015 : ∀  (g : GM), w_L_law_b2015 X xs Ls b kI v1 v2 v3 v4 v5  g → GG X p l e room_1 s m args below meth c 9 Q (k + 2) (n + 12) 2015 [some (va_rf (some b)), some (va_rf v1), some (va_rf v2), some (va_rf v3), some (va_rf v4), some (.int v5), none, none, none] [] g := by
    intro  g hf
    unfold w_L_law_b2015 at hf
    refine gg_goto (tgt := 2917) C dL_law_2015 (by decide) ?_
    exact gg_widen (k' := k + 60) (n' := n + 4000) (by omega) (by omega) (hkI _ hf)
  have hb_2013 : ∀  (g : GM), w_L_law_b2013 X xs Ls b kI v1 v2 v3 v4 v5  g → GG X p l e room_1 s m args below meth c 9 Q (k + 2) (n + 12) 2013 [some (va_rf (some b)), some (va_rf v1), some (va_rf v2), some (va_rf v3), some (va_rf v4), some (.int v5), none, none, none] [] g := by
    intro  g hf
    unfold w_L_law_b2013 at hf
    refine gg_iconst C dL_law_2013 (v := (0 : Int32)) (by decide) ?_
    exact hf.elim
  unfold w_law_28 at hf
  refine gg_aload_n C dL_law_1928 rfl ?_
  refine gg_aload_n C dL_law_1929 rfl ?_
  refine gg_iload C dL_law_1930 rfl ?_
  refine gg_iconst C dL_law_1932 (v := (1 : Int32)) (by decide) ?_
  refine gg_iadd C dL_law_1933 ?_
  refine gg_sld C hX hbl hbA dL_law_1934 hf.1 ?_
  replace hf := hf.2
  refine gg_aload_n C dL_law_1935 rfl ?_
  refine gg_iload C dL_law_1936 rfl ?_
  refine gg_iconst C dL_law_1938 (v := (2 : Int32)) (by decide) ?_
  refine gg_iadd C dL_law_1939 ?_
  refine gg_sld C hX hbl hbA dL_law_1940 hf.1 ?_
  replace hf := hf.2
  refine gg_aload C dL_law_1941 rfl ?_
  refine gr_I (k' := k + 2) (n' := n + 12) (gk_SW (As := [va_rf v1, .int (xs ((v5 + (1 : Int32))).toNatClampNeg), .int (xs ((v5 + (2 : Int32))).toNatClampNeg), va_rf v4]) (rest := []) C dL_law_1943 tw_991 tw_992 tw_46 tw_993 gd_L_likeness rfl ⟨by decide, by decide⟩ (by simp [gcat, gcI, gcL, gcF, gcD]) ⟨(by show k + 2 ≤ 603072; omega), (by show n + 12 ≤ 7186538; omega)⟩ (m_L_likeness hfl hf)) rfl rfl (fun E g9 h9 => h9.elim) (fun i2 g1 hf => ?_)
  refine gg_istore (L' := [some (va_rf (some b)), some (va_rf v1), some (va_rf v2), some (va_rf v3), some (va_rf v4), some (.int v5), some (.int i2), none, none]) C dL_law_1946 (Or.inr (Or.inr ⟨_, rfl, rfl⟩)) (by decide) rfl ?_
  refine gg_aload_n C dL_law_1948 rfl ?_
  refine gg_aload_n C dL_law_1949 rfl ?_
  refine gg_iload C dL_law_1950 rfl ?_
  refine gg_iconst C dL_law_1952 (v := (1 : Int32)) (by decide) ?_
  refine gg_iadd C dL_law_1953 ?_
  refine gg_sld C hX hbl hbA dL_law_1954 hf.1 ?_
  replace hf := hf.2
  refine gg_aload_n C dL_law_1955 rfl ?_
  refine gg_iload C dL_law_1956 rfl ?_
  refine gg_iconst C dL_law_1958 (v := (2 : Int32)) (by decide) ?_
  refine gg_iadd C dL_law_1959 ?_
  refine gg_sld C hX hbl hbA dL_law_1960 hf.1 ?_
  replace hf := hf.2
  refine gr_F (k' := k + 2) (n' := n + 12) (gk_V (ci := 8) (As := [.int (xs ((v5 + (1 : Int32))).toNatClampNeg), .int (xs ((v5 + (2 : Int32))).toNatClampNeg)]) (rest := []) C dL_law_1961 rfl rfl tw_1777 tw_1778 tw_1779 tw_56 tw_1780 gd_X8_likeness rfl ⟨by decide, by decide⟩ (by simp [gcat, gcI, gcL, gcF, gcD]) ⟨(by show k + 2 + 0 ≤ 603072; omega), (by show n + 12 + 0 ≤ 7186538; omega)⟩ hf (fun hf => m_X8_likeness hfl hf)) rfl rfl (fun E g9 h9 => h9.elim) (fun x4 g3 hf => ?_)
  refine gg_fstore (L' := [some (va_rf (some b)), some (va_rf v1), some (va_rf v2), some (va_rf v3), some (va_rf v4), some (.int v5), some (.int i2), some (.float x4), none]) C dL_law_1964 (Or.inr (Or.inr ⟨_, rfl, rfl⟩)) (by decide) rfl ?_
  refine gg_aload_n C dL_law_1966 rfl ?_
  refine gr_I (k' := k + 2) (n' := n + 12) (gk_V (ci := 8) (As := []) (rest := []) C dL_law_1967 rfl rfl tw_1572 tw_1573 tw_1574 tw_56 tw_1575 gd_X8_thrown rfl ⟨by decide, by decide⟩ (by simp [gcat, gcI, gcL, gcF, gcD]) ⟨(by show k + 2 + 0 ≤ 603072; omega), (by show n + 12 + 0 ≤ 7186538; omega)⟩ hf (fun hf => m_X8_thrown hfl hf)) rfl rfl (fun E g9 h9 => h9.elim) (fun i6 g5 hf => ?_)
  refine gg_iload C dL_law_1970 rfl ?_
  refine gg_icmp_eq (tgt := 1977) C dL_law_1972 (by decide) hf (fun hf => ?_) (fun hf => ?_)
  · refine gg_iload C dL_law_1977 rfl ?_
    refine gg_if_ne (tgt := 2015) C dL_law_1979 (by decide) hf (fun hf => ?_) (fun hf => ?_)
    · exact gg_sub (L' := [some (va_rf (some b)), some (va_rf v1), some (va_rf v2), some (va_rf v3), some (va_rf v4), some (.int v5), none, none, none]) (by first | exact ⟨rfl, ⟨rfl, ⟨rfl, ⟨rfl, ⟨rfl, ⟨rfl, trivial⟩⟩⟩⟩⟩⟩ | simp [gsub]) (hb_2015 _ hf)
    · refine gg_aload C dL_law_1982 rfl ?_
      refine gg_iconst C dL_law_1984 (v := (0 : Int32)) (by decide) ?_
      refine gg_dald C dL_law_1985 hf (fun z7 hf => ?_)
      refine gg_fload C dL_law_1986 rfl ?_
      refine gg_f2d C dL_law_1988 hf.1 ?_
      replace hf := hf.2
      refine gg_dcmp C dL_law_1989 ?_
      refine gg_if_eq (tgt := 2015) C dL_law_1990 (by decide) hf (fun hf => ?_) (fun hf => ?_)
      · exact gg_sub (L' := [some (va_rf (some b)), some (va_rf v1), some (va_rf v2), some (va_rf v3), some (va_rf v4), some (.int v5), none, none, none]) (by first | exact ⟨rfl, ⟨rfl, ⟨rfl, ⟨rfl, ⟨rfl, ⟨rfl, trivial⟩⟩⟩⟩⟩⟩ | simp [gsub]) (hb_2015 _ hf)
      · refine gg_aload C dL_law_1993 rfl ?_
        refine gg_iconst C dL_law_1995 (v := (0 : Int32)) (by decide) ?_
        refine gg_dald C dL_law_1996 hf (fun z8 hf => ?_)
        refine gg_aload C dL_law_1997 rfl ?_
        refine gg_iconst C dL_law_1999 (v := (0 : Int32)) (by decide) ?_
        refine gg_dald C dL_law_2000 hf (fun z9 hf => ?_)
        refine gg_dcmp C dL_law_2001 ?_
        refine gg_if_eq (tgt := 2013) C dL_law_2002 (by decide) hf (fun hf => ?_) (fun hf => ?_)
        · exact gg_sub (L' := [some (va_rf (some b)), some (va_rf v1), some (va_rf v2), some (va_rf v3), some (va_rf v4), some (.int v5), none, none, none]) (by first | exact ⟨rfl, ⟨rfl, ⟨rfl, ⟨rfl, ⟨rfl, ⟨rfl, trivial⟩⟩⟩⟩⟩⟩ | simp [gsub]) (hb_2013 _ hf)
        · refine gg_fload C dL_law_2005 rfl ?_
          refine gg_fload C dL_law_2007 rfl ?_
          refine gg_fcmp C dL_law_2009 ?_
          refine gg_if_ne (tgt := 2015) C dL_law_2010 (by decide) hf (fun hf => ?_) (fun hf => ?_)
          · exact gg_sub (L' := [some (va_rf (some b)), some (va_rf v1), some (va_rf v2), some (va_rf v3), some (va_rf v4), some (.int v5), none, none, none]) (by first | exact ⟨rfl, ⟨rfl, ⟨rfl, ⟨rfl, ⟨rfl, ⟨rfl, trivial⟩⟩⟩⟩⟩⟩ | simp [gsub]) (hb_2015 _ hf)
          · exact gg_sub (L' := [some (va_rf (some b)), some (va_rf v1), some (va_rf v2), some (va_rf v3), some (va_rf v4), some (.int v5), none, none, none]) (by first | exact ⟨rfl, ⟨rfl, ⟨rfl, ⟨rfl, ⟨rfl, ⟨rfl, trivial⟩⟩⟩⟩⟩⟩ | simp [gsub]) (hb_2013 _ hf)
  · refine gg_iconst C dL_law_1975 (v := (0 : Int32)) (by decide) ?_
    exact hf.elim

def w_L_law_b2071 (X : Cx) (xs : Nat → Int32) (Ls b : Nat) (kI : GM → Prop) (v1 v2 v3 v4 : Option Nat) (v5 : Int32)  (g : GM) : Prop :=
  kI g
def w_law_29 (X : Cx) (xs : Nat → Int32) (Ls b : Nat) (kI : GM → Prop) (v1 v2 v3 v4 : Option Nat) (v5 : Int32) (g : GM) : Prop :=
  (vp_in (v5 + (1 : Int32)) Ls ∧ w_L_setBound X (fun (i2 : Int32) (g1 : GM) => (vp_in (v5 + (1 : Int32)) Ls ∧ wIs g1 v2 8 (w_X8_setBound X (fun (i4 : Int32) (g3 : GM) => wIs g3 v2 8 (w_X8_thrown X (fun (i6 : Int32) (g5 : GM) => (if i6 = i2 then (if i2 = 0 then wAldJ g5 v3 (0 : Int32) (fun (y7 : Int64) => (if (lg_cmp y7 ((i4).toInt64)) = 0 then w_L_law_b2071 X xs Ls b kI v1 v2 v3 v4 v5 g5 else False)) else w_L_law_b2071 X xs Ls b kI v1 v2 v3 v4 v5 g5) else False)) (fun _ _ => False) v2 g3)) (fun _ _ => False) v2 (xs ((v5 + (1 : Int32))).toNatClampNeg) g1))) (fun _ _ => False) v1 (xs ((v5 + (1 : Int32))).toNatClampNeg) v3 g)
set_option maxHeartbeats 4000000 in
set_option maxRecDepth 100000 in
theorem lc_29 {X : Cx} {p : Program} {l : Launch} {e : Env} {s : State} {m : MethodId} {args : Array Value} {below : List Frame} {meth : Method} {c : Code} {Q : State → Prop} {b Ls : Nat} {xs : Nat → Int32} (hfl : l.stackTraces = false) (C : FC X p l s m args meth c code 9 "ReleasetrainLaw") (hX : va_X b Ls xs s s.heap) (hbl : b < s.heap.size) (hbA : ¬ gA X b) {k n : Nat} (hk : k + 60 ≤ 603072) (hn : n + 4000 ≤ 7186538) {v1 v2 v3 v4 : Option Nat} {v5 : Int32} {kI : GM → Prop} (hkI : ∀ g, kI g → GG X p l e room_1 s m args below meth c 9 Q (k + 60) (n + 4000) 2917 [some (va_rf (some b)), some (va_rf v1), some (va_rf v2), some (va_rf v3), some (va_rf v4), some (.int v5), none, none, none] [] g) {g : GM} (hf : w_law_29 X xs Ls b kI v1 v2 v3 v4 v5 g) : GG X p l e room_1 s m args below meth c 9 Q k n 2018 [some (va_rf (some b)), some (va_rf v1), some (va_rf v2), some (va_rf v3), some (va_rf v4), some (.int v5), none, none, none] [] g := by
  have hb_2071 : ∀  (g : GM), w_L_law_b2071 X xs Ls b kI v1 v2 v3 v4 v5  g → GG X p l e room_1 s m args below meth c 9 Q (k + 1) (n + 6) 2071 [some (va_rf (some b)), some (va_rf v1), some (va_rf v2), some (va_rf v3), some (va_rf v4), some (.int v5), none, none, none] [] g := by
    intro  g hf
    unfold w_L_law_b2071 at hf
    refine gg_goto (tgt := 2917) C dL_law_2071 (by decide) ?_
    exact gg_widen (k' := k + 60) (n' := n + 4000) (by omega) (by omega) (hkI _ hf)
  unfold w_law_29 at hf
  refine gg_aload_n C dL_law_2018 rfl ?_
  refine gg_aload_n C dL_law_2019 rfl ?_
  refine gg_iload C dL_law_2020 rfl ?_
  refine gg_iconst C dL_law_2022 (v := (1 : Int32)) (by decide) ?_
  refine gg_iadd C dL_law_2023 ?_
  refine gg_sld C hX hbl hbA dL_law_2024 hf.1 ?_
  replace hf := hf.2
  refine gg_aload_n C dL_law_2025 rfl ?_
  refine gr_I (k' := k + 1) (n' := n + 6) (gk_SW (As := [va_rf v1, .int (xs ((v5 + (1 : Int32))).toNatClampNeg), va_rf v3]) (rest := []) C dL_law_2026 tw_998 tw_999 tw_46 tw_1000 gd_L_setBound rfl ⟨by decide, by decide⟩ (by simp [gcat, gcI, gcL, gcF, gcD]) ⟨(by show k + 1 ≤ 603072; omega), (by show n + 6 ≤ 7186538; omega)⟩ (m_L_setBound hfl hf)) rfl rfl (fun E g9 h9 => h9.elim) (fun i2 g1 hf => ?_)
  refine gg_istore (L' := [some (va_rf (some b)), some (va_rf v1), some (va_rf v2), some (va_rf v3), some (va_rf v4), some (.int v5), some (.int i2), none, none]) C dL_law_2029 (Or.inr (Or.inr ⟨_, rfl, rfl⟩)) (by decide) rfl ?_
  refine gg_aload_n C dL_law_2031 rfl ?_
  refine gg_aload_n C dL_law_2032 rfl ?_
  refine gg_iload C dL_law_2033 rfl ?_
  refine gg_iconst C dL_law_2035 (v := (1 : Int32)) (by decide) ?_
  refine gg_iadd C dL_law_2036 ?_
  refine gg_sld C hX hbl hbA dL_law_2037 hf.1 ?_
  replace hf := hf.2
  refine gr_I (k' := k + 1) (n' := n + 6) (gk_V (ci := 8) (As := [.int (xs ((v5 + (1 : Int32))).toNatClampNeg)]) (rest := []) C dL_law_2038 rfl rfl tw_1781 tw_1782 tw_1783 tw_56 tw_1784 gd_X8_setBound rfl ⟨by decide, by decide⟩ (by simp [gcat, gcI, gcL, gcF, gcD]) ⟨(by show k + 1 + 0 ≤ 603072; omega), (by show n + 6 + 0 ≤ 7186538; omega)⟩ hf (fun hf => m_X8_setBound hfl hf)) rfl rfl (fun E g9 h9 => h9.elim) (fun i4 g3 hf => ?_)
  refine gg_istore (L' := [some (va_rf (some b)), some (va_rf v1), some (va_rf v2), some (va_rf v3), some (va_rf v4), some (.int v5), some (.int i2), some (.int i4), none]) C dL_law_2041 (Or.inr (Or.inr ⟨_, rfl, rfl⟩)) (by decide) rfl ?_
  refine gg_aload_n C dL_law_2043 rfl ?_
  refine gr_I (k' := k + 1) (n' := n + 6) (gk_V (ci := 8) (As := []) (rest := []) C dL_law_2044 rfl rfl tw_1572 tw_1573 tw_1574 tw_56 tw_1575 gd_X8_thrown rfl ⟨by decide, by decide⟩ (by simp [gcat, gcI, gcL, gcF, gcD]) ⟨(by show k + 1 + 0 ≤ 603072; omega), (by show n + 6 + 0 ≤ 7186538; omega)⟩ hf (fun hf => m_X8_thrown hfl hf)) rfl rfl (fun E g9 h9 => h9.elim) (fun i6 g5 hf => ?_)
  refine gg_iload C dL_law_2047 rfl ?_
  refine gg_icmp_eq (tgt := 2054) C dL_law_2049 (by decide) hf (fun hf => ?_) (fun hf => ?_)
  · refine gg_iload C dL_law_2054 rfl ?_
    refine gg_if_ne (tgt := 2071) C dL_law_2056 (by decide) hf (fun hf => ?_) (fun hf => ?_)
    · exact gg_sub (L' := [some (va_rf (some b)), some (va_rf v1), some (va_rf v2), some (va_rf v3), some (va_rf v4), some (.int v5), none, none, none]) (by first | exact ⟨rfl, ⟨rfl, ⟨rfl, ⟨rfl, ⟨rfl, ⟨rfl, trivial⟩⟩⟩⟩⟩⟩ | simp [gsub]) (hb_2071 _ hf)
    · refine gg_aload_n C dL_law_2059 rfl ?_
      refine gg_iconst C dL_law_2060 (v := (0 : Int32)) (by decide) ?_
      refine gg_lald C dL_law_2061 hf (fun y7 hf => ?_)
      refine gg_iload C dL_law_2062 rfl ?_
      refine gg_i2l C dL_law_2064 ?_
      refine gg_lcmp C dL_law_2065 ?_
      refine gg_if_eq (tgt := 2071) C dL_law_2066 (by decide) hf (fun hf => ?_) (fun hf => ?_)
      · exact gg_sub (L' := [some (va_rf (some b)), some (va_rf v1), some (va_rf v2), some (va_rf v3), some (va_rf v4), some (.int v5), none, none, none]) (by first | exact ⟨rfl, ⟨rfl, ⟨rfl, ⟨rfl, ⟨rfl, ⟨rfl, trivial⟩⟩⟩⟩⟩⟩ | simp [gsub]) (hb_2071 _ hf)
      · refine gg_iconst C dL_law_2069 (v := (0 : Int32)) (by decide) ?_
        exact hf.elim
  · refine gg_iconst C dL_law_2052 (v := (0 : Int32)) (by decide) ?_
    exact hf.elim
