def w_law_40 (X : Cx) (xs : Nat → Int32) (Ls b : Nat) (kI : GM → Prop) (v1 v2 v3 v4 : Option Nat) (v5 : Int32) (g : GM) : Prop :=
  wIs g v1 7 (w_X7_day X (fun (i2 : Int32) (g1 : GM) => wIs g1 v2 8 (w_X8_day X (fun (i4 : Int32) (g3 : GM) => (if i2 = i4 then kI g3 else False)) (fun _ _ => False) v2 g1)) (fun _ _ => False) v1 g)
set_option maxHeartbeats 4000000 in
set_option maxRecDepth 100000 in
theorem lc_40 {X : Cx} {p : Program} {l : Launch} {e : Env} {s : State} {m : MethodId} {args : Array Value} {below : List Frame} {meth : Method} {c : Code} {Q : State → Prop} {b Ls : Nat} {xs : Nat → Int32} (hfl : l.stackTraces = false) (C : FC X p l s m args meth c code 9 "ReleasetrainLaw") (hX : va_X b Ls xs s s.heap) (hbl : b < s.heap.size) (hbA : ¬ gA X b) {k n : Nat} (hk : k + 60 ≤ 603072) (hn : n + 4000 ≤ 7186538) {v1 v2 v3 v4 : Option Nat} {v5 : Int32} {kI : GM → Prop} (hkI : ∀ g, kI g → GG X p l e room_1 s m args below meth c 9 Q (k + 60) (n + 4000) 2917 [some (va_rf (some b)), some (va_rf v1), some (va_rf v2), some (va_rf v3), some (va_rf v4), some (.int v5), none, none, none] [] g) {g : GM} (hf : w_law_40 X xs Ls b kI v1 v2 v3 v4 v5 g) : GG X p l e room_1 s m args below meth c 9 Q k n 2726 [some (va_rf (some b)), some (va_rf v1), some (va_rf v2), some (va_rf v3), some (va_rf v4), some (.int v5), none, none, none] [] g := by
  unfold w_law_40 at hf
  refine gg_aload_n C dL_law_2726 rfl ?_
  refine gr_I (k' := k) (n' := n) (gk_V (ci := 7) (As := []) (rest := []) C dL_law_2727 rfl rfl tw_209 tw_210 tw_211 tw_47 tw_212 gd_X7_day rfl ⟨by decide, by decide⟩ (by simp [gcat, gcI, gcL, gcF, gcD]) ⟨(by show k + 0 ≤ 603072; omega), (by show n + 0 ≤ 7186538; omega)⟩ hf (fun hf => m_X7_day hfl hf)) rfl rfl (fun E g9 h9 => h9.elim) (fun i2 g1 hf => ?_)
  refine gg_aload_n C dL_law_2730 rfl ?_
  refine gr_I (k' := k) (n' := n) (gk_V (ci := 8) (As := []) (rest := [.int i2]) C dL_law_2731 rfl rfl tw_1856 tw_1857 tw_1858 tw_56 tw_1859 gd_X8_day rfl ⟨by decide, by decide⟩ (by simp [gcat, gcI, gcL, gcF, gcD]) ⟨(by show k + 0 ≤ 603072; omega), (by show n + 0 ≤ 7186538; omega)⟩ hf (fun hf => m_X8_day hfl hf)) rfl rfl (fun E g9 h9 => h9.elim) (fun i4 g3 hf => ?_)
  refine gg_icmp_eq (tgt := 2917) C dL_law_2734 (by decide) hf (fun hf => ?_) (fun hf => ?_)
  · exact gg_widen (k' := k + 60) (n' := n + 4000) (by omega) (by omega) (hkI _ hf)
  · refine gg_iconst C dL_law_2737 (v := (0 : Int32)) (by decide) ?_
    exact hf.elim

def w_L_law_b2792 (X : Cx) (xs : Nat → Int32) (Ls b : Nat) (kI : GM → Prop) (v1 v2 v3 v4 : Option Nat) (v5 : Int32)  (g : GM) : Prop :=
  kI g
def w_law_41 (X : Cx) (xs : Nat → Int32) (Ls b : Nat) (kI : GM → Prop) (v1 v2 v3 v4 : Option Nat) (v5 : Int32) (g : GM) : Prop :=
  (vp_in (v5 + (1 : Int32)) Ls ∧ w_L_writeBuild X (fun (i2 : Int32) (g1 : GM) => (vp_in (v5 + (1 : Int32)) Ls ∧ wIs g1 v2 8 (w_X8_writeBuild X (fun (i4 : Int32) (g3 : GM) => wIs g3 v2 8 (w_X8_thrown X (fun (i6 : Int32) (g5 : GM) => (if i6 = i2 then (if i2 = 0 then wAldJ g5 v3 (0 : Int32) (fun (y7 : Int64) => (if (lg_cmp y7 ((i4).toInt64)) = 0 then w_L_law_b2792 X xs Ls b kI v1 v2 v3 v4 v5 g5 else False)) else w_L_law_b2792 X xs Ls b kI v1 v2 v3 v4 v5 g5) else False)) (fun _ _ => False) v2 g3)) (fun _ _ => False) v2 (xs ((v5 + (1 : Int32))).toNatClampNeg) g1))) (fun _ _ => False) v1 (xs ((v5 + (1 : Int32))).toNatClampNeg) v3 g)
set_option maxHeartbeats 4000000 in
set_option maxRecDepth 100000 in
theorem lc_41 {X : Cx} {p : Program} {l : Launch} {e : Env} {s : State} {m : MethodId} {args : Array Value} {below : List Frame} {meth : Method} {c : Code} {Q : State → Prop} {b Ls : Nat} {xs : Nat → Int32} (hfl : l.stackTraces = false) (C : FC X p l s m args meth c code 9 "ReleasetrainLaw") (hX : va_X b Ls xs s s.heap) (hbl : b < s.heap.size) (hbA : ¬ gA X b) {k n : Nat} (hk : k + 60 ≤ 603072) (hn : n + 4000 ≤ 7186538) {v1 v2 v3 v4 : Option Nat} {v5 : Int32} {kI : GM → Prop} (hkI : ∀ g, kI g → GG X p l e room_1 s m args below meth c 9 Q (k + 60) (n + 4000) 2917 [some (va_rf (some b)), some (va_rf v1), some (va_rf v2), some (va_rf v3), some (va_rf v4), some (.int v5), none, none, none] [] g) {g : GM} (hf : w_law_41 X xs Ls b kI v1 v2 v3 v4 v5 g) : GG X p l e room_1 s m args below meth c 9 Q k n 2739 [some (va_rf (some b)), some (va_rf v1), some (va_rf v2), some (va_rf v3), some (va_rf v4), some (.int v5), none, none, none] [] g := by
  have hb_2792 : ∀  (g : GM), w_L_law_b2792 X xs Ls b kI v1 v2 v3 v4 v5  g → GG X p l e room_1 s m args below meth c 9 Q (k + 12) (n + 1290) 2792 [some (va_rf (some b)), some (va_rf v1), some (va_rf v2), some (va_rf v3), some (va_rf v4), some (.int v5), none, none, none] [] g := by
    intro  g hf
    unfold w_L_law_b2792 at hf
    refine gg_goto (tgt := 2917) C dL_law_2792 (by decide) ?_
    exact gg_widen (k' := k + 60) (n' := n + 4000) (by omega) (by omega) (hkI _ hf)
  unfold w_law_41 at hf
  refine gg_aload_n C dL_law_2739 rfl ?_
  refine gg_aload_n C dL_law_2740 rfl ?_
  refine gg_iload C dL_law_2741 rfl ?_
  refine gg_iconst C dL_law_2743 (v := (1 : Int32)) (by decide) ?_
  refine gg_iadd C dL_law_2744 ?_
  refine gg_sld C hX hbl hbA dL_law_2745 hf.1 ?_
  replace hf := hf.2
  refine gg_aload_n C dL_law_2746 rfl ?_
  refine gr_I (k' := k + 6) (n' := n + 646) (gk_SW (As := [va_rf v1, .int (xs ((v5 + (1 : Int32))).toNatClampNeg), va_rf v3]) (rest := []) C dL_law_2747 tw_1130 tw_1131 tw_46 tw_1132 gd_L_writeBuild rfl ⟨by decide, by decide⟩ (by simp [gcat, gcI, gcL, gcF, gcD]) ⟨(by show k + 6 ≤ 603072; omega), (by show n + 646 ≤ 7186538; omega)⟩ (m_L_writeBuild hfl hf)) rfl rfl (fun E g9 h9 => h9.elim) (fun i2 g1 hf => ?_)
  refine gg_istore (L' := [some (va_rf (some b)), some (va_rf v1), some (va_rf v2), some (va_rf v3), some (va_rf v4), some (.int v5), some (.int i2), none, none]) C dL_law_2750 (Or.inr (Or.inr ⟨_, rfl, rfl⟩)) (by decide) rfl ?_
  refine gg_aload_n C dL_law_2752 rfl ?_
  refine gg_aload_n C dL_law_2753 rfl ?_
  refine gg_iload C dL_law_2754 rfl ?_
  refine gg_iconst C dL_law_2756 (v := (1 : Int32)) (by decide) ?_
  refine gg_iadd C dL_law_2757 ?_
  refine gg_sld C hX hbl hbA dL_law_2758 hf.1 ?_
  replace hf := hf.2
  refine gr_I (k' := k + 12) (n' := n + 1290) (gk_V (ci := 8) (As := [.int (xs ((v5 + (1 : Int32))).toNatClampNeg)]) (rest := []) C dL_law_2759 rfl rfl tw_1860 tw_1861 tw_1862 tw_56 tw_1863 gd_X8_writeBuild rfl ⟨by decide, by decide⟩ (by simp [gcat, gcI, gcL, gcF, gcD]) ⟨(by show k + 6 + 6 ≤ 603072; omega), (by show n + 646 + 644 ≤ 7186538; omega)⟩ hf (fun hf => m_X8_writeBuild hfl hf)) rfl rfl (fun E g9 h9 => h9.elim) (fun i4 g3 hf => ?_)
  refine gg_istore (L' := [some (va_rf (some b)), some (va_rf v1), some (va_rf v2), some (va_rf v3), some (va_rf v4), some (.int v5), some (.int i2), some (.int i4), none]) C dL_law_2762 (Or.inr (Or.inr ⟨_, rfl, rfl⟩)) (by decide) rfl ?_
  refine gg_aload_n C dL_law_2764 rfl ?_
  refine gr_I (k' := k + 12) (n' := n + 1290) (gk_V (ci := 8) (As := []) (rest := []) C dL_law_2765 rfl rfl tw_1572 tw_1573 tw_1574 tw_56 tw_1575 gd_X8_thrown rfl ⟨by decide, by decide⟩ (by simp [gcat, gcI, gcL, gcF, gcD]) ⟨(by show k + 12 + 0 ≤ 603072; omega), (by show n + 1290 + 0 ≤ 7186538; omega)⟩ hf (fun hf => m_X8_thrown hfl hf)) rfl rfl (fun E g9 h9 => h9.elim) (fun i6 g5 hf => ?_)
  refine gg_iload C dL_law_2768 rfl ?_
  refine gg_icmp_eq (tgt := 2775) C dL_law_2770 (by decide) hf (fun hf => ?_) (fun hf => ?_)
  · refine gg_iload C dL_law_2775 rfl ?_
    refine gg_if_ne (tgt := 2792) C dL_law_2777 (by decide) hf (fun hf => ?_) (fun hf => ?_)
    · exact gg_sub (L' := [some (va_rf (some b)), some (va_rf v1), some (va_rf v2), some (va_rf v3), some (va_rf v4), some (.int v5), none, none, none]) (by first | exact ⟨rfl, ⟨rfl, ⟨rfl, ⟨rfl, ⟨rfl, ⟨rfl, trivial⟩⟩⟩⟩⟩⟩ | simp [gsub]) (hb_2792 _ hf)
    · refine gg_aload_n C dL_law_2780 rfl ?_
      refine gg_iconst C dL_law_2781 (v := (0 : Int32)) (by decide) ?_
      refine gg_lald C dL_law_2782 hf (fun y7 hf => ?_)
      refine gg_iload C dL_law_2783 rfl ?_
      refine gg_i2l C dL_law_2785 ?_
      refine gg_lcmp C dL_law_2786 ?_
      refine gg_if_eq (tgt := 2792) C dL_law_2787 (by decide) hf (fun hf => ?_) (fun hf => ?_)
      · exact gg_sub (L' := [some (va_rf (some b)), some (va_rf v1), some (va_rf v2), some (va_rf v3), some (va_rf v4), some (.int v5), none, none, none]) (by first | exact ⟨rfl, ⟨rfl, ⟨rfl, ⟨rfl, ⟨rfl, ⟨rfl, trivial⟩⟩⟩⟩⟩⟩ | simp [gsub]) (hb_2792 _ hf)
      · refine gg_iconst C dL_law_2790 (v := (0 : Int32)) (by decide) ?_
        exact hf.elim
  · refine gg_iconst C dL_law_2773 (v := (0 : Int32)) (by decide) ?_
    exact hf.elim

def w_L_law_b2848 (X : Cx) (xs : Nat → Int32) (Ls b : Nat) (kI : GM → Prop) (v1 v2 v3 v4 : Option Nat) (v5 : Int32)  (g : GM) : Prop :=
  kI g
def w_law_42 (X : Cx) (xs : Nat → Int32) (Ls b : Nat) (kI : GM → Prop) (v1 v2 v3 v4 : Option Nat) (v5 : Int32) (g : GM) : Prop :=
  (vp_in (v5 + (1 : Int32)) Ls ∧ w_L_lineAt X (fun (i2 : Int32) (g1 : GM) => (vp_in (v5 + (1 : Int32)) Ls ∧ wIs g1 v2 8 (w_X8_lineAt X (fun (i4 : Int32) (g3 : GM) => wIs g3 v2 8 (w_X8_thrown X (fun (i6 : Int32) (g5 : GM) => (if i6 = i2 then (if i2 = 0 then wAldJ g5 v3 (0 : Int32) (fun (y7 : Int64) => (if (lg_cmp y7 ((i4).toInt64)) = 0 then w_L_law_b2848 X xs Ls b kI v1 v2 v3 v4 v5 g5 else False)) else w_L_law_b2848 X xs Ls b kI v1 v2 v3 v4 v5 g5) else False)) (fun _ _ => False) v2 g3)) (fun _ _ => False) v2 (xs ((v5 + (1 : Int32))).toNatClampNeg) g1))) (fun _ _ => False) v1 (xs ((v5 + (1 : Int32))).toNatClampNeg) v3 g)
set_option maxHeartbeats 4000000 in
set_option maxRecDepth 100000 in
theorem lc_42 {X : Cx} {p : Program} {l : Launch} {e : Env} {s : State} {m : MethodId} {args : Array Value} {below : List Frame} {meth : Method} {c : Code} {Q : State → Prop} {b Ls : Nat} {xs : Nat → Int32} (hfl : l.stackTraces = false) (C : FC X p l s m args meth c code 9 "ReleasetrainLaw") (hX : va_X b Ls xs s s.heap) (hbl : b < s.heap.size) (hbA : ¬ gA X b) {k n : Nat} (hk : k + 60 ≤ 603072) (hn : n + 4000 ≤ 7186538) {v1 v2 v3 v4 : Option Nat} {v5 : Int32} {kI : GM → Prop} (hkI : ∀ g, kI g → GG X p l e room_1 s m args below meth c 9 Q (k + 60) (n + 4000) 2917 [some (va_rf (some b)), some (va_rf v1), some (va_rf v2), some (va_rf v3), some (va_rf v4), some (.int v5), none, none, none] [] g) {g : GM} (hf : w_law_42 X xs Ls b kI v1 v2 v3 v4 v5 g) : GG X p l e room_1 s m args below meth c 9 Q k n 2795 [some (va_rf (some b)), some (va_rf v1), some (va_rf v2), some (va_rf v3), some (va_rf v4), some (.int v5), none, none, none] [] g := by
  have hb_2848 : ∀  (g : GM), w_L_law_b2848 X xs Ls b kI v1 v2 v3 v4 v5  g → GG X p l e room_1 s m args below meth c 9 Q (k + 1) (n + 6) 2848 [some (va_rf (some b)), some (va_rf v1), some (va_rf v2), some (va_rf v3), some (va_rf v4), some (.int v5), none, none, none] [] g := by
    intro  g hf
    unfold w_L_law_b2848 at hf
    refine gg_goto (tgt := 2917) C dL_law_2848 (by decide) ?_
    exact gg_widen (k' := k + 60) (n' := n + 4000) (by omega) (by omega) (hkI _ hf)
  unfold w_law_42 at hf
  refine gg_aload_n C dL_law_2795 rfl ?_
  refine gg_aload_n C dL_law_2796 rfl ?_
  refine gg_iload C dL_law_2797 rfl ?_
  refine gg_iconst C dL_law_2799 (v := (1 : Int32)) (by decide) ?_
  refine gg_iadd C dL_law_2800 ?_
  refine gg_sld C hX hbl hbA dL_law_2801 hf.1 ?_
  replace hf := hf.2
  refine gg_aload_n C dL_law_2802 rfl ?_
  refine gr_I (k' := k + 1) (n' := n + 6) (gk_SW (As := [va_rf v1, .int (xs ((v5 + (1 : Int32))).toNatClampNeg), va_rf v3]) (rest := []) C dL_law_2803 tw_1420 tw_1421 tw_46 tw_1422 gd_L_lineAt rfl ⟨by decide, by decide⟩ (by simp [gcat, gcI, gcL, gcF, gcD]) ⟨(by show k + 1 ≤ 603072; omega), (by show n + 6 ≤ 7186538; omega)⟩ (m_L_lineAt hfl hf)) rfl rfl (fun E g9 h9 => h9.elim) (fun i2 g1 hf => ?_)
  refine gg_istore (L' := [some (va_rf (some b)), some (va_rf v1), some (va_rf v2), some (va_rf v3), some (va_rf v4), some (.int v5), some (.int i2), none, none]) C dL_law_2806 (Or.inr (Or.inr ⟨_, rfl, rfl⟩)) (by decide) rfl ?_
  refine gg_aload_n C dL_law_2808 rfl ?_
  refine gg_aload_n C dL_law_2809 rfl ?_
  refine gg_iload C dL_law_2810 rfl ?_
  refine gg_iconst C dL_law_2812 (v := (1 : Int32)) (by decide) ?_
  refine gg_iadd C dL_law_2813 ?_
  refine gg_sld C hX hbl hbA dL_law_2814 hf.1 ?_
  replace hf := hf.2
  refine gr_I (k' := k + 1) (n' := n + 6) (gk_V (ci := 8) (As := [.int (xs ((v5 + (1 : Int32))).toNatClampNeg)]) (rest := []) C dL_law_2815 rfl rfl tw_1881 tw_1882 tw_1883 tw_56 tw_1884 gd_X8_lineAt rfl ⟨by decide, by decide⟩ (by simp [gcat, gcI, gcL, gcF, gcD]) ⟨(by show k + 1 + 0 ≤ 603072; omega), (by show n + 6 + 0 ≤ 7186538; omega)⟩ hf (fun hf => m_X8_lineAt hfl hf)) rfl rfl (fun E g9 h9 => h9.elim) (fun i4 g3 hf => ?_)
  refine gg_istore (L' := [some (va_rf (some b)), some (va_rf v1), some (va_rf v2), some (va_rf v3), some (va_rf v4), some (.int v5), some (.int i2), some (.int i4), none]) C dL_law_2818 (Or.inr (Or.inr ⟨_, rfl, rfl⟩)) (by decide) rfl ?_
  refine gg_aload_n C dL_law_2820 rfl ?_
  refine gr_I (k' := k + 1) (n' := n + 6) (gk_V (ci := 8) (As := []) (rest := []) C dL_law_2821 rfl rfl tw_1572 tw_1573 tw_1574 tw_56 tw_1575 gd_X8_thrown rfl ⟨by decide, by decide⟩ (by simp [gcat, gcI, gcL, gcF, gcD]) ⟨(by show k + 1 + 0 ≤ 603072; omega), (by show n + 6 + 0 ≤ 7186538; omega)⟩ hf (fun hf => m_X8_thrown hfl hf)) rfl rfl (fun E g9 h9 => h9.elim) (fun i6 g5 hf => ?_)
  refine gg_iload C dL_law_2824 rfl ?_
  refine gg_icmp_eq (tgt := 2831) C dL_law_2826 (by decide) hf (fun hf => ?_) (fun hf => ?_)
  · refine gg_iload C dL_law_2831 rfl ?_
    refine gg_if_ne (tgt := 2848) C dL_law_2833 (by decide) hf (fun hf => ?_) (fun hf => ?_)
    · exact gg_sub (L' := [some (va_rf (some b)), some (va_rf v1), some (va_rf v2), some (va_rf v3), some (va_rf v4), some (.int v5), none, none, none]) (by first | exact ⟨rfl, ⟨rfl, ⟨rfl, ⟨rfl, ⟨rfl, ⟨rfl, trivial⟩⟩⟩⟩⟩⟩ | simp [gsub]) (hb_2848 _ hf)
    · refine gg_aload_n C dL_law_2836 rfl ?_
      refine gg_iconst C dL_law_2837 (v := (0 : Int32)) (by decide) ?_
      refine gg_lald C dL_law_2838 hf (fun y7 hf => ?_)
      refine gg_iload C dL_law_2839 rfl ?_
      refine gg_i2l C dL_law_2841 ?_
      refine gg_lcmp C dL_law_2842 ?_
      refine gg_if_eq (tgt := 2848) C dL_law_2843 (by decide) hf (fun hf => ?_) (fun hf => ?_)
      · exact gg_sub (L' := [some (va_rf (some b)), some (va_rf v1), some (va_rf v2), some (va_rf v3), some (va_rf v4), some (.int v5), none, none, none]) (by first | exact ⟨rfl, ⟨rfl, ⟨rfl, ⟨rfl, ⟨rfl, ⟨rfl, trivial⟩⟩⟩⟩⟩⟩ | simp [gsub]) (hb_2848 _ hf)
      · refine gg_iconst C dL_law_2846 (v := (0 : Int32)) (by decide) ?_
        exact hf.elim
  · refine gg_iconst C dL_law_2829 (v := (0 : Int32)) (by decide) ?_
    exact hf.elim

def w_L_law_b2914 (X : Cx) (xs : Nat → Int32) (Ls b : Nat) (kI : GM → Prop) (v1 v2 v3 v4 : Option Nat) (v5 : Int32)  (g : GM) : Prop :=
  kI g
def w_L_law_b2912 (X : Cx) (xs : Nat → Int32) (Ls b : Nat) (kI : GM → Prop) (v1 v2 v3 v4 : Option Nat) (v5 : Int32)  (g : GM) : Prop :=
  False
def w_law_43 (X : Cx) (xs : Nat → Int32) (Ls b : Nat) (kI : GM → Prop) (v1 v2 v3 v4 : Option Nat) (v5 : Int32) (g : GM) : Prop :=
  w_L_usedShare X (fun (i2 : Int32) (g1 : GM) => wIs g1 v2 8 (w_X8_usedShare X (fun (x4 : UInt32) (g3 : GM) => wIs g3 v2 8 (w_X8_thrown X (fun (i6 : Int32) (g5 : GM) => (if i6 = i2 then (if i2 = 0 then wAldD g5 v4 (0 : Int32) (fun (z7 : UInt64) => vf_n64 (FP.f2d x4) ∧ (if (Op.cmpValue (FP.dcmp z7 (FP.f2d x4)) .l) = 0 then w_L_law_b2914 X xs Ls b kI v1 v2 v3 v4 v5 g5 else wAldD g5 v4 (0 : Int32) (fun (z8 : UInt64) => wAldD g5 v4 (0 : Int32) (fun (z9 : UInt64) => (if (Op.cmpValue (FP.dcmp z8 z9) .l) = 0 then w_L_law_b2912 X xs Ls b kI v1 v2 v3 v4 v5 g5 else (if (Op.cmpValue (FP.fcmp x4 x4) .l) = 0 then w_L_law_b2912 X xs Ls b kI v1 v2 v3 v4 v5 g5 else w_L_law_b2914 X xs Ls b kI v1 v2 v3 v4 v5 g5)))))) else w_L_law_b2914 X xs Ls b kI v1 v2 v3 v4 v5 g5) else False)) (fun _ _ => False) v2 g3)) (fun _ _ => False) v2 g1)) (fun _ _ => False) v1 v4 g
set_option maxHeartbeats 4000000 in
set_option maxRecDepth 100000 in
theorem lc_43 {X : Cx} {p : Program} {l : Launch} {e : Env} {s : State} {m : MethodId} {args : Array Value} {below : List Frame} {meth : Method} {c : Code} {Q : State → Prop} {b Ls : Nat} {xs : Nat → Int32} (hfl : l.stackTraces = false) (C : FC X p l s m args meth c code 9 "ReleasetrainLaw") (hX : va_X b Ls xs s s.heap) (hbl : b < s.heap.size) (hbA : ¬ gA X b) {k n : Nat} (hk : k + 60 ≤ 603072) (hn : n + 4000 ≤ 7186538) {v1 v2 v3 v4 : Option Nat} {v5 : Int32} {kI : GM → Prop} (hkI : ∀ g, kI g → GG X p l e room_1 s m args below meth c 9 Q (k + 60) (n + 4000) 2917 [some (va_rf (some b)), some (va_rf v1), some (va_rf v2), some (va_rf v3), some (va_rf v4), some (.int v5), none, none, none] [] g) {g : GM} (hf : w_law_43 X xs Ls b kI v1 v2 v3 v4 v5 g) : GG X p l e room_1 s m args below meth c 9 Q k n 2851 [some (va_rf (some b)), some (va_rf v1), some (va_rf v2), some (va_rf v3), some (va_rf v4), some (.int v5), none, none, none] [] g := by
  have hb_2914 : ∀  (g : GM), w_L_law_b2914 X xs Ls b kI v1 v2 v3 v4 v5  g → GG X p l e room_1 s m args below meth c 9 Q (k + 1) (n + 6) 2914 [some (va_rf (some b)), some (va_rf v1), some (va_rf v2), some (va_rf v3), some (va_rf v4), some (.int v5), none, none, none] [] g := by
    intro  g hf
    unfold w_L_law_b2914 at hf
    refine gg_goto (tgt := 2917) C dL_law_2914 (by decide) ?_
    exact gg_widen (k' := k + 60) (n' := n + 4000) (by omega) (by omega) (hkI _ hf)
  have hb_2912 : ∀  (g : GM), w_L_law_b2912 X xs Ls b kI v1 v2 v3 v4 v5  g → GG X p l e room_1 s m args below meth c 9 Q (k + 1) (n + 6) 2912 [some (va_rf (some b)), some (va_rf v1), some (va_rf v2), some (va_rf v3), some (va_rf v4), some (.int v5), none, none, none] [] g := by
    intro  g hf
    unfold w_L_law_b2912 at hf
    refine gg_iconst C dL_law_2912 (v := (0 : Int32)) (by decide) ?_
    exact hf.elim
  unfold w_law_43 at hf
  refine gg_aload_n C dL_law_2851 rfl ?_
  refine gg_aload C dL_law_2852 rfl ?_
  refine gr_I (k' := k + 1) (n' := n + 6) (gk_SW (As := [va_rf v1, va_rf v4]) (rest := []) C dL_law_2854 tw_1438 tw_1439 tw_46 tw_1440 gd_L_usedShare rfl ⟨by decide, by decide⟩ (by simp [gcat, gcI, gcL, gcF, gcD]) ⟨(by show k + 1 ≤ 603072; omega), (by show n + 6 ≤ 7186538; omega)⟩ (m_L_usedShare hfl hf)) rfl rfl (fun E g9 h9 => h9.elim) (fun i2 g1 hf => ?_)
  refine gg_istore (L' := [some (va_rf (some b)), some (va_rf v1), some (va_rf v2), some (va_rf v3), some (va_rf v4), some (.int v5), some (.int i2), none, none]) C dL_law_2857 (Or.inr (Or.inr ⟨_, rfl, rfl⟩)) (by decide) rfl ?_
  refine gg_aload_n C dL_law_2859 rfl ?_
  refine gr_F (k' := k + 1) (n' := n + 6) (gk_V (ci := 8) (As := []) (rest := []) C dL_law_2860 rfl rfl tw_1886 tw_1887 tw_1888 tw_56 tw_1889 gd_X8_usedShare rfl ⟨by decide, by decide⟩ (by simp [gcat, gcI, gcL, gcF, gcD]) ⟨(by show k + 1 + 0 ≤ 603072; omega), (by show n + 6 + 0 ≤ 7186538; omega)⟩ hf (fun hf => m_X8_usedShare hfl hf)) rfl rfl (fun E g9 h9 => h9.elim) (fun x4 g3 hf => ?_)
  refine gg_fstore (L' := [some (va_rf (some b)), some (va_rf v1), some (va_rf v2), some (va_rf v3), some (va_rf v4), some (.int v5), some (.int i2), some (.float x4), none]) C dL_law_2863 (Or.inr (Or.inr ⟨_, rfl, rfl⟩)) (by decide) rfl ?_
  refine gg_aload_n C dL_law_2865 rfl ?_
  refine gr_I (k' := k + 1) (n' := n + 6) (gk_V (ci := 8) (As := []) (rest := []) C dL_law_2866 rfl rfl tw_1572 tw_1573 tw_1574 tw_56 tw_1575 gd_X8_thrown rfl ⟨by decide, by decide⟩ (by simp [gcat, gcI, gcL, gcF, gcD]) ⟨(by show k + 1 + 0 ≤ 603072; omega), (by show n + 6 + 0 ≤ 7186538; omega)⟩ hf (fun hf => m_X8_thrown hfl hf)) rfl rfl (fun E g9 h9 => h9.elim) (fun i6 g5 hf => ?_)
  refine gg_iload C dL_law_2869 rfl ?_
  refine gg_icmp_eq (tgt := 2876) C dL_law_2871 (by decide) hf (fun hf => ?_) (fun hf => ?_)
  · refine gg_iload C dL_law_2876 rfl ?_
    refine gg_if_ne (tgt := 2914) C dL_law_2878 (by decide) hf (fun hf => ?_) (fun hf => ?_)
    · exact gg_sub (L' := [some (va_rf (some b)), some (va_rf v1), some (va_rf v2), some (va_rf v3), some (va_rf v4), some (.int v5), none, none, none]) (by first | exact ⟨rfl, ⟨rfl, ⟨rfl, ⟨rfl, ⟨rfl, ⟨rfl, trivial⟩⟩⟩⟩⟩⟩ | simp [gsub]) (hb_2914 _ hf)
    · refine gg_aload C dL_law_2881 rfl ?_
      refine gg_iconst C dL_law_2883 (v := (0 : Int32)) (by decide) ?_
      refine gg_dald C dL_law_2884 hf (fun z7 hf => ?_)
      refine gg_fload C dL_law_2885 rfl ?_
      refine gg_f2d C dL_law_2887 hf.1 ?_
      replace hf := hf.2
      refine gg_dcmp C dL_law_2888 ?_
      refine gg_if_eq (tgt := 2914) C dL_law_2889 (by decide) hf (fun hf => ?_) (fun hf => ?_)
      · exact gg_sub (L' := [some (va_rf (some b)), some (va_rf v1), some (va_rf v2), some (va_rf v3), some (va_rf v4), some (.int v5), none, none, none]) (by first | exact ⟨rfl, ⟨rfl, ⟨rfl, ⟨rfl, ⟨rfl, ⟨rfl, trivial⟩⟩⟩⟩⟩⟩ | simp [gsub]) (hb_2914 _ hf)
      · refine gg_aload C dL_law_2892 rfl ?_
        refine gg_iconst C dL_law_2894 (v := (0 : Int32)) (by decide) ?_
        refine gg_dald C dL_law_2895 hf (fun z8 hf => ?_)
        refine gg_aload C dL_law_2896 rfl ?_
        refine gg_iconst C dL_law_2898 (v := (0 : Int32)) (by decide) ?_
        refine gg_dald C dL_law_2899 hf (fun z9 hf => ?_)
        refine gg_dcmp C dL_law_2900 ?_
        refine gg_if_eq (tgt := 2912) C dL_law_2901 (by decide) hf (fun hf => ?_) (fun hf => ?_)
        · exact gg_sub (L' := [some (va_rf (some b)), some (va_rf v1), some (va_rf v2), some (va_rf v3), some (va_rf v4), some (.int v5), none, none, none]) (by first | exact ⟨rfl, ⟨rfl, ⟨rfl, ⟨rfl, ⟨rfl, ⟨rfl, trivial⟩⟩⟩⟩⟩⟩ | simp [gsub]) (hb_2912 _ hf)
        · refine gg_fload C dL_law_2904 rfl ?_
          refine gg_fload C dL_law_2906 rfl ?_
          refine gg_fcmp C dL_law_2908 ?_
          refine gg_if_ne (tgt := 2914) C dL_law_2909 (by decide) hf (fun hf => ?_) (fun hf => ?_)
          · exact gg_sub (L' := [some (va_rf (some b)), some (va_rf v1), some (va_rf v2), some (va_rf v3), some (va_rf v4), some (.int v5), none, none, none]) (by first | exact ⟨rfl, ⟨rfl, ⟨rfl, ⟨rfl, ⟨rfl, ⟨rfl, trivial⟩⟩⟩⟩⟩⟩ | simp [gsub]) (hb_2914 _ hf)
          · exact gg_sub (L' := [some (va_rf (some b)), some (va_rf v1), some (va_rf v2), some (va_rf v3), some (va_rf v4), some (.int v5), none, none, none]) (by first | exact ⟨rfl, ⟨rfl, ⟨rfl, ⟨rfl, ⟨rfl, ⟨rfl, trivial⟩⟩⟩⟩⟩⟩ | simp [gsub]) (hb_2912 _ hf)
  · refine gg_iconst C dL_law_2874 (v := (0 : Int32)) (by decide) ?_
    exact hf.elim
