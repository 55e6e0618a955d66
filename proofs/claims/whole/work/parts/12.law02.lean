def w_L_law_b891 (X : Cx) (xs : Nat → Int32) (Ls b : Nat) (kI : GM → Prop) (v1 v2 v3 v4 : Option Nat) (v5 : Int32)  (g : GM) : Prop :=
  kI g
def w_law_9 (X : Cx) (xs : Nat → Int32) (Ls b : Nat) (kI : GM → Prop) (v1 v2 v3 v4 : Option Nat) (v5 : Int32) (g : GM) : Prop :=
  (vp_in (v5 + (1 : Int32)) Ls ∧ w_L_stateOf X (fun (i2 : Int32) (g1 : GM) => (vp_in (v5 + (1 : Int32)) Ls ∧ wIs g1 v2 8 (w_X8_stateOf X (fun (i4 : Int32) (g3 : GM) => wIs g3 v2 8 (w_X8_thrown X (fun (i6 : Int32) (g5 : GM) => (if i6 = i2 then (if i2 = 0 then wAldJ g5 v3 (0 : Int32) (fun (y7 : Int64) => (if (lg_cmp y7 ((i4).toInt64)) = 0 then w_L_law_b891 X xs Ls b kI v1 v2 v3 v4 v5 g5 else False)) else w_L_law_b891 X xs Ls b kI v1 v2 v3 v4 v5 g5) else False)) (fun _ _ => False) v2 g3)) (fun _ _ => False) v2 (xs ((v5 + (1 : Int32))).toNatClampNeg) g1))) (fun _ _ => False) v1 (xs ((v5 + (1 : Int32))).toNatClampNeg) v3 g)
set_option maxHeartbeats 4000000 in
set_option maxRecDepth 100000 in
theorem lc_9 {X : Cx} {p : Program} {l : Launch} {e : Env} {s : State} {m : MethodId} {args : Array Value} {below : List Frame} {meth : Method} {c : Code} {Q : State → Prop} {b Ls : Nat} {xs : Nat → Int32} (hfl : l.stackTraces = false) (C : FC X p l s m args meth c code 9 "ReleasetrainLaw") (hX : va_X b Ls xs s s.heap) (hbl : b < s.heap.size) (hbA : ¬ gA X b) {k n : Nat} (hk : k + 60 ≤ 603072) (hn : n + 4000 ≤ 7186538) {v1 v2 v3 v4 : Option Nat} {v5 : Int32} {kI : GM → Prop} (hkI : ∀ g, kI g → GG X p l e room_1 s m args below meth c 9 Q (k + 60) (n + 4000) 2917 [some (va_rf (some b)), some (va_rf v1), some (va_rf v2), some (va_rf v3), some (va_rf v4), some (.int v5), none, none, none] [] g) {g : GM} (hf : w_law_9 X xs Ls b kI v1 v2 v3 v4 v5 g) : GG X p l e room_1 s m args below meth c 9 Q k n 838 [some (va_rf (some b)), some (va_rf v1), some (va_rf v2), some (va_rf v3), some (va_rf v4), some (.int v5), none, none, none] [] g := by
  have hb_891 : ∀  (g : GM), w_L_law_b891 X xs Ls b kI v1 v2 v3 v4 v5  g → GG X p l e room_1 s m args below meth c 9 Q (k + 1) (n + 6) 891 [some (va_rf (some b)), some (va_rf v1), some (va_rf v2), some (va_rf v3), some (va_rf v4), some (.int v5), none, none, none] [] g := by
    intro  g hf
    unfold w_L_law_b891 at hf
    refine gg_goto (tgt := 2917) C dL_law_891 (by decide) ?_
    exact gg_widen (k' := k + 60) (n' := n + 4000) (by omega) (by omega) (hkI _ hf)
  unfold w_law_9 at hf
  refine gg_aload_n C dL_law_838 rfl ?_
  refine gg_aload_n C dL_law_839 rfl ?_
  refine gg_iload C dL_law_840 rfl ?_
  refine gg_iconst C dL_law_842 (v := (1 : Int32)) (by decide) ?_
  refine gg_iadd C dL_law_843 ?_
  refine gg_sld C hX hbl hbA dL_law_844 hf.1 ?_
  replace hf := hf.2
  refine gg_aload_n C dL_law_845 rfl ?_
  refine gr_I (k' := k + 1) (n' := n + 6) (gk_SW (As := [va_rf v1, .int (xs ((v5 + (1 : Int32))).toNatClampNeg), va_rf v3]) (rest := []) C dL_law_846 tw_682 tw_683 tw_46 tw_684 gd_L_stateOf rfl ⟨by decide, by decide⟩ (by simp [gcat, gcI, gcL, gcF, gcD]) ⟨(by show k + 1 ≤ 603072; omega), (by show n + 6 ≤ 7186538; omega)⟩ (m_L_stateOf hfl hf)) rfl rfl (fun E g9 h9 => h9.elim) (fun i2 g1 hf => ?_)
  refine gg_istore (L' := [some (va_rf (some b)), some (va_rf v1), some (va_rf v2), some (va_rf v3), some (va_rf v4), some (.int v5), some (.int i2), none, none]) C dL_law_849 (Or.inr (Or.inr ⟨_, rfl, rfl⟩)) (by decide) rfl ?_
  refine gg_aload_n C dL_law_851 rfl ?_
  refine gg_aload_n C dL_law_852 rfl ?_
  refine gg_iload C dL_law_853 rfl ?_
  refine gg_iconst C dL_law_855 (v := (1 : Int32)) (by decide) ?_
  refine gg_iadd C dL_law_856 ?_
  refine gg_sld C hX hbl hbA dL_law_857 hf.1 ?_
  replace hf := hf.2
  refine gr_I (k' := k + 1) (n' := n + 6) (gk_V (ci := 8) (As := [.int (xs ((v5 + (1 : Int32))).toNatClampNeg)]) (rest := []) C dL_law_858 rfl rfl tw_1643 tw_1644 tw_1645 tw_56 tw_1646 gd_X8_stateOf rfl ⟨by decide, by decide⟩ (by simp [gcat, gcI, gcL, gcF, gcD]) ⟨(by show k + 1 + 0 ≤ 603072; omega), (by show n + 6 + 0 ≤ 7186538; omega)⟩ hf (fun hf => m_X8_stateOf hfl hf)) rfl rfl (fun E g9 h9 => h9.elim) (fun i4 g3 hf => ?_)
  refine gg_istore (L' := [some (va_rf (some b)), some (va_rf v1), some (va_rf v2), some (va_rf v3), some (va_rf v4), some (.int v5), some (.int i2), some (.int i4), none]) C dL_law_861 (Or.inr (Or.inr ⟨_, rfl, rfl⟩)) (by decide) rfl ?_
  refine gg_aload_n C dL_law_863 rfl ?_
  refine gr_I (k' := k + 1) (n' := n + 6) (gk_V (ci := 8) (As := []) (rest := []) C dL_law_864 rfl rfl tw_1572 tw_1573 tw_1574 tw_56 tw_1575 gd_X8_thrown rfl ⟨by decide, by decide⟩ (by simp [gcat, gcI, gcL, gcF, gcD]) ⟨(by show k + 1 + 0 ≤ 603072; omega), (by show n + 6 + 0 ≤ 7186538; omega)⟩ hf (fun hf => m_X8_thrown hfl hf)) rfl rfl (fun E g9 h9 => h9.elim) (fun i6 g5 hf => ?_)
  refine gg_iload C dL_law_867 rfl ?_
  refine gg_icmp_eq (tgt := 874) C dL_law_869 (by decide) hf (fun hf => ?_) (fun hf => ?_)
  · refine gg_iload C dL_law_874 rfl ?_
    refine gg_if_ne (tgt := 891) C dL_law_876 (by decide) hf (fun hf => ?_) (fun hf => ?_)
    · exact gg_sub (L' := [some (va_rf (some b)), some (va_rf v1), some (va_rf v2), some (va_rf v3), some (va_rf v4), some (.int v5), none, none, none]) (by first | exact ⟨rfl, ⟨rfl, ⟨rfl, ⟨rfl, ⟨rfl, ⟨rfl, trivial⟩⟩⟩⟩⟩⟩ | simp [gsub]) (hb_891 _ hf)
    · refine gg_aload_n C dL_law_879 rfl ?_
      refine gg_iconst C dL_law_880 (v := (0 : Int32)) (by decide) ?_
      refine gg_lald C dL_law_881 hf (fun y7 hf => ?_)
      refine gg_iload C dL_law_882 rfl ?_
      refine gg_i2l C dL_law_884 ?_
      refine gg_lcmp C dL_law_885 ?_
      refine gg_if_eq (tgt := 891) C dL_law_886 (by decide) hf (fun hf => ?_) (fun hf => ?_)
      · exact gg_sub (L' := [some (va_rf (some b)), some (va_rf v1), some (va_rf v2), some (va_rf v3), some (va_rf v4), some (.int v5), none, none, none]) (by first | exact ⟨rfl, ⟨rfl, ⟨rfl, ⟨rfl, ⟨rfl, ⟨rfl, trivial⟩⟩⟩⟩⟩⟩ | simp [gsub]) (hb_891 _ hf)
      · refine gg_iconst C dL_law_889 (v := (0 : Int32)) (by decide) ?_
        exact hf.elim
  · refine gg_iconst C dL_law_872 (v := (0 : Int32)) (by decide) ?_
    exact hf.elim

def w_L_law_b971 (X : Cx) (xs : Nat → Int32) (Ls b : Nat) (kI : GM → Prop) (v1 v2 v3 v4 : Option Nat) (v5 : Int32)  (g : GM) : Prop :=
  kI g
def w_law_10 (X : Cx) (xs : Nat → Int32) (Ls b : Nat) (kI : GM → Prop) (v1 v2 v3 v4 : Option Nat) (v5 : Int32) (g : GM) : Prop :=
  (vp_in (v5 + (1 : Int32)) Ls ∧ (vp_in (v5 + (2 : Int32)) Ls ∧ (vp_in (v5 + (3 : Int32)) Ls ∧ w_L_stage X (fun (i2 : Int32) (g1 : GM) => (vp_in (v5 + (1 : Int32)) Ls ∧ (vp_in (v5 + (2 : Int32)) Ls ∧ (vp_in (v5 + (3 : Int32)) Ls ∧ wIs g1 v2 8 (w_X8_stage X (fun (i4 : Int32) (g3 : GM) => wIs g3 v2 8 (w_X8_thrown X (fun (i6 : Int32) (g5 : GM) => (if i6 = i2 then (if i2 = 0 then wAldJ g5 v3 (0 : Int32) (fun (y7 : Int64) => (if (lg_cmp y7 ((i4).toInt64)) = 0 then w_L_law_b971 X xs Ls b kI v1 v2 v3 v4 v5 g5 else False)) else w_L_law_b971 X xs Ls b kI v1 v2 v3 v4 v5 g5) else False)) (fun _ _ => False) v2 g3)) (fun _ _ => False) v2 (xs ((v5 + (1 : Int32))).toNatClampNeg) (xs ((v5 + (2 : Int32))).toNatClampNeg) (xs ((v5 + (3 : Int32))).toNatClampNeg) g1))))) (fun _ _ => False) v1 (xs ((v5 + (1 : Int32))).toNatClampNeg) (xs ((v5 + (2 : Int32))).toNatClampNeg) (xs ((v5 + (3 : Int32))).toNatClampNeg) v3 g)))
set_option maxHeartbeats 4000000 in
set_option maxRecDepth 100000 in
theorem lc_10 {X : Cx} {p : Program} {l : Launch} {e : Env} {s : State} {m : MethodId} {args : Array Value} {below : List Frame} {meth : Method} {c : Code} {Q : State → Prop} {b Ls : Nat} {xs : Nat → Int32} (hfl : l.stackTraces = false) (C : FC X p l s m args meth c code 9 "ReleasetrainLaw") (hX : va_X b Ls xs s s.heap) (hbl : b < s.heap.size) (hbA : ¬ gA X b) {k n : Nat} (hk : k + 60 ≤ 603072) (hn : n + 4000 ≤ 7186538) {v1 v2 v3 v4 : Option Nat} {v5 : Int32} {kI : GM → Prop} (hkI : ∀ g, kI g → GG X p l e room_1 s m args below meth c 9 Q (k + 60) (n + 4000) 2917 [some (va_rf (some b)), some (va_rf v1), some (va_rf v2), some (va_rf v3), some (va_rf v4), some (.int v5), none, none, none] [] g) {g : GM} (hf : w_law_10 X xs Ls b kI v1 v2 v3 v4 v5 g) : GG X p l e room_1 s m args below meth c 9 Q k n 894 [some (va_rf (some b)), some (va_rf v1), some (va_rf v2), some (va_rf v3), some (va_rf v4), some (.int v5), none, none, none] [] g := by
  have hb_971 : ∀  (g : GM), w_L_law_b971 X xs Ls b kI v1 v2 v3 v4 v5  g → GG X p l e room_1 s m args below meth c 9 Q (k + 2) (n + 12) 971 [some (va_rf (some b)), some (va_rf v1), some (va_rf v2), some (va_rf v3), some (va_rf v4), some (.int v5), none, none, none] [] g := by
    intro  g hf
    unfold w_L_law_b971 at hf
    refine gg_goto (tgt := 2917) C dL_law_971 (by decide) ?_
    exact gg_widen (k' := k + 60) (n' := n + 4000) (by omega) (by omega) (hkI _ hf)
  unfold w_law_10 at hf
  refine gg_aload_n C dL_law_894 rfl ?_
  refine gg_aload_n C dL_law_895 rfl ?_
  refine gg_iload C dL_law_896 rfl ?_
  refine gg_iconst C dL_law_898 (v := (1 : Int32)) (by decide) ?_
  refine gg_iadd C dL_law_899 ?_
  refine gg_sld C hX hbl hbA dL_law_900 hf.1 ?_
  replace hf := hf.2
  refine gg_aload_n C dL_law_901 rfl ?_
  refine gg_iload C dL_law_902 rfl ?_
  refine gg_iconst C dL_law_904 (v := (2 : Int32)) (by decide) ?_
  refine gg_iadd C dL_law_905 ?_
  refine gg_sld C hX hbl hbA dL_law_906 hf.1 ?_
  replace hf := hf.2
  refine gg_aload_n C dL_law_907 rfl ?_
  refine gg_iload C dL_law_908 rfl ?_
  refine gg_iconst C dL_law_910 (v := (3 : Int32)) (by decide) ?_
  refine gg_iadd C dL_law_911 ?_
  refine gg_sld C hX hbl hbA dL_law_912 hf.1 ?_
  replace hf := hf.2
  refine gg_aload_n C dL_law_913 rfl ?_
  refine gr_I (k' := k + 2) (n' := n + 12) (gk_SW (As := [va_rf v1, .int (xs ((v5 + (1 : Int32))).toNatClampNeg), .int (xs ((v5 + (2 : Int32))).toNatClampNeg), .int (xs ((v5 + (3 : Int32))).toNatClampNeg), va_rf v3]) (rest := []) C dL_law_914 tw_689 tw_690 tw_46 tw_691 gd_L_stage rfl ⟨by decide, by decide⟩ (by simp [gcat, gcI, gcL, gcF, gcD]) ⟨(by show k + 2 ≤ 603072; omega), (by show n + 12 ≤ 7186538; omega)⟩ (m_L_stage hfl hf)) rfl rfl (fun E g9 h9 => h9.elim) (fun i2 g1 hf => ?_)
  refine gg_istore (L' := [some (va_rf (some b)), some (va_rf v1), some (va_rf v2), some (va_rf v3), some (va_rf v4), some (.int v5), some (.int i2), none, none]) C dL_law_917 (Or.inr (Or.inr ⟨_, rfl, rfl⟩)) (by decide) rfl ?_
  refine gg_aload_n C dL_law_919 rfl ?_
  refine gg_aload_n C dL_law_920 rfl ?_
  refine gg_iload C dL_law_921 rfl ?_
  refine gg_iconst C dL_law_923 (v := (1 : Int32)) (by decide) ?_
  refine gg_iadd C dL_law_924 ?_
  refine gg_sld C hX hbl hbA dL_law_925 hf.1 ?_
  replace hf := hf.2
  refine gg_aload_n C dL_law_926 rfl ?_
  refine gg_iload C dL_law_927 rfl ?_
  refine gg_iconst C dL_law_929 (v := (2 : Int32)) (by decide) ?_
  refine gg_iadd C dL_law_930 ?_
  refine gg_sld C hX hbl hbA dL_law_931 hf.1 ?_
  replace hf := hf.2
  refine gg_aload_n C dL_law_932 rfl ?_
  refine gg_iload C dL_law_933 rfl ?_
  refine gg_iconst C dL_law_935 (v := (3 : Int32)) (by decide) ?_
  refine gg_iadd C dL_law_936 ?_
  refine gg_sld C hX hbl hbA dL_law_937 hf.1 ?_
  replace hf := hf.2
  refine gr_I (k' := k + 2) (n' := n + 12) (gk_V (ci := 8) (As := [.int (xs ((v5 + (1 : Int32))).toNatClampNeg), .int (xs ((v5 + (2 : Int32))).toNatClampNeg), .int (xs ((v5 + (3 : Int32))).toNatClampNeg)]) (rest := []) C dL_law_938 rfl rfl tw_1647 tw_1648 tw_1649 tw_56 tw_1650 gd_X8_stage rfl ⟨by decide, by decide⟩ (by simp [gcat, gcI, gcL, gcF, gcD]) ⟨(by show k + 2 + 0 ≤ 603072; omega), (by show n + 12 + 0 ≤ 7186538; omega)⟩ hf (fun hf => m_X8_stage hfl hf)) rfl rfl (fun E g9 h9 => h9.elim) (fun i4 g3 hf => ?_)
  refine gg_istore (L' := [some (va_rf (some b)), some (va_rf v1), some (va_rf v2), some (va_rf v3), some (va_rf v4), some (.int v5), some (.int i2), some (.int i4), none]) C dL_law_941 (Or.inr (Or.inr ⟨_, rfl, rfl⟩)) (by decide) rfl ?_
  refine gg_aload_n C dL_law_943 rfl ?_
  refine gr_I (k' := k + 2) (n' := n + 12) (gk_V (ci := 8) (As := []) (rest := []) C dL_law_944 rfl rfl tw_1572 tw_1573 tw_1574 tw_56 tw_1575 gd_X8_thrown rfl ⟨by decide, by decide⟩ (by simp [gcat, gcI, gcL, gcF, gcD]) ⟨(by show k + 2 + 0 ≤ 603072; omega), (by show n + 12 + 0 ≤ 7186538; omega)⟩ hf (fun hf => m_X8_thrown hfl hf)) rfl rfl (fun E g9 h9 => h9.elim) (fun i6 g5 hf => ?_)
  refine gg_iload C dL_law_947 rfl ?_
  refine gg_icmp_eq (tgt := 954) C dL_law_949 (by decide) hf (fun hf => ?_) (fun hf => ?_)
  · refine gg_iload C dL_law_954 rfl ?_
    refine gg_if_ne (tgt := 971) C dL_law_956 (by decide) hf (fun hf => ?_) (fun hf => ?_)
    · exact gg_sub (L' := [some (va_rf (some b)), some (va_rf v1), some (va_rf v2), some (va_rf v3), some (va_rf v4), some (.int v5), none, none, none]) (by first | exact ⟨rfl, ⟨rfl, ⟨rfl, ⟨rfl, ⟨rfl, ⟨rfl, trivial⟩⟩⟩⟩⟩⟩ | simp [gsub]) (hb_971 _ hf)
    · refine gg_aload_n C dL_law_959 rfl ?_
      refine gg_iconst C dL_law_960 (v := (0 : Int32)) (by decide) ?_
      refine gg_lald C dL_law_961 hf (fun y7 hf => ?_)
      refine gg_iload C dL_law_962 rfl ?_
      refine gg_i2l C dL_law_964 ?_
      refine gg_lcmp C dL_law_965 ?_
      refine gg_if_eq (tgt := 971) C dL_law_966 (by decide) hf (fun hf => ?_) (fun hf => ?_)
      · exact gg_sub (L' := [some (va_rf (some b)), some (va_rf v1), some (va_rf v2), some (va_rf v3), some (va_rf v4), some (.int v5), none, none, none]) (by first | exact ⟨rfl, ⟨rfl, ⟨rfl, ⟨rfl, ⟨rfl, ⟨rfl, trivial⟩⟩⟩⟩⟩⟩ | simp [gsub]) (hb_971 _ hf)
      · refine gg_iconst C dL_law_969 (v := (0 : Int32)) (by decide) ?_
        exact hf.elim
  · refine gg_iconst C dL_law_952 (v := (0 : Int32)) (by decide) ?_
    exact hf.elim

def w_L_law_b1027 (X : Cx) (xs : Nat → Int32) (Ls b : Nat) (kI : GM → Prop) (v1 v2 v3 v4 : Option Nat) (v5 : Int32)  (g : GM) : Prop :=
  kI g
def w_law_11 (X : Cx) (xs : Nat → Int32) (Ls b : Nat) (kI : GM → Prop) (v1 v2 v3 v4 : Option Nat) (v5 : Int32) (g : GM) : Prop :=
  (vp_in (v5 + (1 : Int32)) Ls ∧ w_L_percentageOf X (fun (i2 : Int32) (g1 : GM) => (vp_in (v5 + (1 : Int32)) Ls ∧ wIs g1 v2 8 (w_X8_percentageOf X (fun (i4 : Int32) (g3 : GM) => wIs g3 v2 8 (w_X8_thrown X (fun (i6 : Int32) (g5 : GM) => (if i6 = i2 then (if i2 = 0 then wAldJ g5 v3 (0 : Int32) (fun (y7 : Int64) => (if (lg_cmp y7 ((i4).toInt64)) = 0 then w_L_law_b1027 X xs Ls b kI v1 v2 v3 v4 v5 g5 else False)) else w_L_law_b1027 X xs Ls b kI v1 v2 v3 v4 v5 g5) else False)) (fun _ _ => False) v2 g3)) (fun _ _ => False) v2 (xs ((v5 + (1 : Int32))).toNatClampNeg) g1))) (fun _ _ => False) v1 (xs ((v5 + (1 : Int32))).toNatClampNeg) v3 g)
set_option maxHeartbeats 4000000 in
set_option maxRecDepth 100000 in
theorem lc_11 {X : Cx} {p : Program} {l : Launch} {e : Env} {s : State} {m : MethodId} {args : Array Value} {below : List Frame} {meth : Method} {c : Code} {Q : State → Prop} {b Ls : Nat} {xs : Nat → Int32} (hfl : l.stackTraces = false) (C : FC X p l s m args meth c code 9 "ReleasetrainLaw") (hX : va_X b Ls xs s s.heap) (hbl : b < s.heap.size) (hbA : ¬ gA X b) {k n : Nat} (hk : k + 60 ≤ 603072) (hn : n + 4000 ≤ 7186538) {v1 v2 v3 v4 : Option Nat} {v5 : Int32} {kI : GM → Prop} (hkI : ∀ g, kI g → GG X p l e room_1 s m args below meth c 9 Q (k + 60) (n + 4000) 2917 [some (va_rf (some b)), some (va_rf v1), some (va_rf v2), some (va_rf v3), some (va_rf v4), some (.int v5), none, none, none] [] g) {g : GM} (hf : w_law_11 X xs Ls b kI v1 v2 v3 v4 v5 g) : GG X p l e room_1 s m args below meth c 9 Q k n 974 [some (va_rf (some b)), some (va_rf v1), some (va_rf v2), some (va_rf v3), some (va_rf v4), some (.int v5), none, none, none] [] g := by
  have hb_1027 : ∀  (g : GM), w_L_law_b1027 X xs Ls b kI v1 v2 v3 v4 v5  g → GG X p l e room_1 s m args below meth c 9 Q (k + 1) (n + 6) 1027 [some (va_rf (some b)), some (va_rf v1), some (va_rf v2), some (va_rf v3), some (va_rf v4), some (.int v5), none, none, none] [] g := by
    intro  g hf
    unfold w_L_law_b1027 at hf
    refine gg_goto (tgt := 2917) C dL_law_1027 (by decide) ?_
    exact gg_widen (k' := k + 60) (n' := n + 4000) (by omega) (by omega) (hkI _ hf)
  unfold w_law_11 at hf
  refine gg_aload_n C dL_law_974 rfl ?_
  refine gg_aload_n C dL_law_975 rfl ?_
  refine gg_iload C dL_law_976 rfl ?_
  refine gg_iconst C dL_law_978 (v := (1 : Int32)) (by decide) ?_
  refine gg_iadd C dL_law_979 ?_
  refine gg_sld C hX hbl hbA dL_law_980 hf.1 ?_
  replace hf := hf.2
  refine gg_aload_n C dL_law_981 rfl ?_
  refine gr_I (k' := k + 1) (n' := n + 6) (gk_SW (As := [va_rf v1, .int (xs ((v5 + (1 : Int32))).toNatClampNeg), va_rf v3]) (rest := []) C dL_law_982 tw_714 tw_715 tw_46 tw_716 gd_L_percentageOf rfl ⟨by decide, by decide⟩ (by simp [gcat, gcI, gcL, gcF, gcD]) ⟨(by show k + 1 ≤ 603072; omega), (by show n + 6 ≤ 7186538; omega)⟩ (m_L_percentageOf hfl hf)) rfl rfl (fun E g9 h9 => h9.elim) (fun i2 g1 hf => ?_)
  refine gg_istore (L' := [some (va_rf (some b)), some (va_rf v1), some (va_rf v2), some (va_rf v3), some (va_rf v4), some (.int v5), some (.int i2), none, none]) C dL_law_985 (Or.inr (Or.inr ⟨_, rfl, rfl⟩)) (by decide) rfl ?_
  refine gg_aload_n C dL_law_987 rfl ?_
  refine gg_aload_n C dL_law_988 rfl ?_
  refine gg_iload C dL_law_989 rfl ?_
  refine gg_iconst C dL_law_991 (v := (1 : Int32)) (by decide) ?_
  refine gg_iadd C dL_law_992 ?_
  refine gg_sld C hX hbl hbA dL_law_993 hf.1 ?_
  replace hf := hf.2
  refine gr_I (k' := k + 1) (n' := n + 6) (gk_V (ci := 8) (As := [.int (xs ((v5 + (1 : Int32))).toNatClampNeg)]) (rest := []) C dL_law_994 rfl rfl tw_1651 tw_1652 tw_1653 tw_56 tw_1654 gd_X8_percentageOf rfl ⟨by decide, by decide⟩ (by simp [gcat, gcI, gcL, gcF, gcD]) ⟨(by show k + 1 + 0 ≤ 603072; omega), (by show n + 6 + 0 ≤ 7186538; omega)⟩ hf (fun hf => m_X8_percentageOf hfl hf)) rfl rfl (fun E g9 h9 => h9.elim) (fun i4 g3 hf => ?_)
  refine gg_istore (L' := [some (va_rf (some b)), some (va_rf v1), some (va_rf v2), some (va_rf v3), some (va_rf v4), some (.int v5), some (.int i2), some (.int i4), none]) C dL_law_997 (Or.inr (Or.inr ⟨_, rfl, rfl⟩)) (by decide) rfl ?_
  refine gg_aload_n C dL_law_999 rfl ?_
  refine gr_I (k' := k + 1) (n' := n + 6) (gk_V (ci := 8) (As := []) (rest := []) C dL_law_1000 rfl rfl tw_1572 tw_1573 tw_1574 tw_56 tw_1575 gd_X8_thrown rfl ⟨by decide, by decide⟩ (by simp [gcat, gcI, gcL, gcF, gcD]) ⟨(by show k + 1 + 0 ≤ 603072; omega), (by show n + 6 + 0 ≤ 7186538; omega)⟩ hf (fun hf => m_X8_thrown hfl hf)) rfl rfl (fun E g9 h9 => h9.elim) (fun i6 g5 hf => ?_)
  refine gg_iload C dL_law_1003 rfl ?_
  refine gg_icmp_eq (tgt := 1010) C dL_law_1005 (by decide) hf (fun hf => ?_) (fun hf => ?_)
  · refine gg_iload C dL_law_1010 rfl ?_
    refine gg_if_ne (tgt := 1027) C dL_law_1012 (by decide) hf (fun hf => ?_) (fun hf => ?_)
    · exact gg_sub (L' := [some (va_rf (some b)), some (va_rf v1), some (va_rf v2), some (va_rf v3), some (va_rf v4), some (.int v5), none, none, none]) (by first | exact ⟨rfl, ⟨rfl, ⟨rfl, ⟨rfl, ⟨rfl, ⟨rfl, trivial⟩⟩⟩⟩⟩⟩ | simp [gsub]) (hb_1027 _ hf)
    · refine gg_aload_n C dL_law_1015 rfl ?_
      refine gg_iconst C dL_law_1016 (v := (0 : Int32)) (by decide) ?_
      refine gg_lald C dL_law_1017 hf (fun y7 hf => ?_)
      refine gg_iload C dL_law_1018 rfl ?_
      refine gg_i2l C dL_law_1020 ?_
      refine gg_lcmp C dL_law_1021 ?_
      refine gg_if_eq (tgt := 1027) C dL_law_1022 (by decide) hf (fun hf => ?_) (fun hf => ?_)
      · exact gg_sub (L' := [some (va_rf (some b)), some (va_rf v1), some (va_rf v2), some (va_rf v3), some (va_rf v4), some (.int v5), none, none, none]) (by first | exact ⟨rfl, ⟨rfl, ⟨rfl, ⟨rfl, ⟨rfl, ⟨rfl, trivial⟩⟩⟩⟩⟩⟩ | simp [gsub]) (hb_1027 _ hf)
      · refine gg_iconst C dL_law_1025 (v := (0 : Int32)) (by decide) ?_
        exact hf.elim
  · refine gg_iconst C dL_law_1008 (v := (0 : Int32)) (by decide) ?_
    exact hf.elim

def w_L_law_b1095 (X : Cx) (xs : Nat → Int32) (Ls b : Nat) (kI : GM → Prop) (v1 v2 v3 v4 : Option Nat) (v5 : Int32)  (g : GM) : Prop :=
  kI g
def w_law_12 (X : Cx) (xs : Nat → Int32) (Ls b : Nat) (kI : GM → Prop) (v1 v2 v3 v4 : Option Nat) (v5 : Int32) (g : GM) : Prop :=
  (vp_in (v5 + (1 : Int32)) Ls ∧ (vp_in (v5 + (2 : Int32)) Ls ∧ w_L_percentageAfter X (fun (i2 : Int32) (g1 : GM) => (vp_in (v5 + (1 : Int32)) Ls ∧ (vp_in (v5 + (2 : Int32)) Ls ∧ wIs g1 v2 8 (w_X8_percentageAfter X (fun (i4 : Int32) (g3 : GM) => wIs g3 v2 8 (w_X8_thrown X (fun (i6 : Int32) (g5 : GM) => (if i6 = i2 then (if i2 = 0 then wAldJ g5 v3 (0 : Int32) (fun (y7 : Int64) => (if (lg_cmp y7 ((i4).toInt64)) = 0 then w_L_law_b1095 X xs Ls b kI v1 v2 v3 v4 v5 g5 else False)) else w_L_law_b1095 X xs Ls b kI v1 v2 v3 v4 v5 g5) else False)) (fun _ _ => False) v2 g3)) (fun _ _ => False) v2 (xs ((v5 + (1 : Int32))).toNatClampNeg) (xs ((v5 + (2 : Int32))).toNatClampNeg) g1)))) (fun _ _ => False) v1 (xs ((v5 + (1 : Int32))).toNatClampNeg) (xs ((v5 + (2 : Int32))).toNatClampNeg) v3 g))
set_option maxHeartbeats 4000000 in
set_option maxRecDepth 100000 in
theorem lc_12 {X : Cx} {p : Program} {l : Launch} {e : Env} {s : State} {m : MethodId} {args : Array Value} {below : List Frame} {meth : Method} {c : Code} {Q : State → Prop} {b Ls : Nat} {xs : Nat → Int32} (hfl : l.stackTraces = false) (C : FC X p l s m args meth c code 9 "ReleasetrainLaw") (hX : va_X b Ls xs s s.heap) (hbl : b < s.heap.size) (hbA : ¬ gA X b) {k n : Nat} (hk : k + 60 ≤ 603072) (hn : n + 4000 ≤ 7186538) {v1 v2 v3 v4 : Option Nat} {v5 : Int32} {kI : GM → Prop} (hkI : ∀ g, kI g → GG X p l e room_1 s m args below meth c 9 Q (k + 60) (n + 4000) 2917 [some (va_rf (some b)), some (va_rf v1), some (va_rf v2), some (va_rf v3), some (va_rf v4), some (.int v5), none, none, none] [] g) {g : GM} (hf : w_law_12 X xs Ls b kI v1 v2 v3 v4 v5 g) : GG X p l e room_1 s m args below meth c 9 Q k n 1030 [some (va_rf (some b)), some (va_rf v1), some (va_rf v2), some (va_rf v3), some (va_rf v4), some (.int v5), none, none, none] [] g := by
  have hb_1095 : ∀  (g : GM), w_L_law_b1095 X xs Ls b kI v1 v2 v3 v4 v5  g → GG X p l e room_1 s m args below meth c 9 Q (k + 2) (n + 12) 1095 [some (va_rf (some b)), some (va_rf v1), some (va_rf v2), some (va_rf v3), some (va_rf v4), some (.int v5), none, none, none] [] g := by
    intro  g hf
    unfold w_L_law_b1095 at hf
    refine gg_goto (tgt := 2917) C dL_law_1095 (by decide) ?_
    exact gg_widen (k' := k + 60) (n' := n + 4000) (by omega) (by omega) (hkI _ hf)
  unfold w_law_12 at hf
  refine gg_aload_n C dL_law_1030 rfl ?_
  refine gg_aload_n C dL_law_1031 rfl ?_
  refine gg_iload C dL_law_1032 rfl ?_
  refine gg_iconst C dL_law_1034 (v := (1 : Int32)) (by decide) ?_
  refine gg_iadd C dL_law_1035 ?_
  refine gg_sld C hX hbl hbA dL_law_1036 hf.1 ?_
  replace hf := hf.2
  refine gg_aload_n C dL_law_1037 rfl ?_
  refine gg_iload C dL_law_1038 rfl ?_
  refine gg_iconst C dL_law_1040 (v := (2 : Int32)) (by decide) ?_
  refine gg_iadd C dL_law_1041 ?_
  refine gg_sld C hX hbl hbA dL_law_1042 hf.1 ?_
  replace hf := hf.2
  refine gg_aload_n C dL_law_1043 rfl ?_
  refine gr_I (k' := k + 2) (n' := n + 12) (gk_SW (As := [va_rf v1, .int (xs ((v5 + (1 : Int32))).toNatClampNeg), .int (xs ((v5 + (2 : Int32))).toNatClampNeg), va_rf v3]) (rest := []) C dL_law_1044 tw_721 tw_722 tw_46 tw_723 gd_L_percentageAfter rfl ⟨by decide, by decide⟩ (by simp [gcat, gcI, gcL, gcF, gcD]) ⟨(by show k + 2 ≤ 603072; omega), (by show n + 12 ≤ 7186538; omega)⟩ (m_L_percentageAfter hfl hf)) rfl rfl (fun E g9 h9 => h9.elim) (fun i2 g1 hf => ?_)
  refine gg_istore (L' := [some (va_rf (some b)), some (va_rf v1), some (va_rf v2), some (va_rf v3), some (va_rf v4), some (.int v5), some (.int i2), none, none]) C dL_law_1047 (Or.inr (Or.inr ⟨_, rfl, rfl⟩)) (by decide) rfl ?_
  refine gg_aload_n C dL_law_1049 rfl ?_
  refine gg_aload_n C dL_law_1050 rfl ?_
  refine gg_iload C dL_law_1051 rfl ?_
  refine gg_iconst C dL_law_1053 (v := (1 : Int32)) (by decide) ?_
  refine gg_iadd C dL_law_1054 ?_
  refine gg_sld C hX hbl hbA dL_law_1055 hf.1 ?_
  replace hf := hf.2
  refine gg_aload_n C dL_law_1056 rfl ?_
  refine gg_iload C dL_law_1057 rfl ?_
  refine gg_iconst C dL_law_1059 (v := (2 : Int32)) (by decide) ?_
  refine gg_iadd C dL_law_1060 ?_
  refine gg_sld C hX hbl hbA dL_law_1061 hf.1 ?_
  replace hf := hf.2
  refine gr_I (k' := k + 2) (n' := n + 12) (gk_V (ci := 8) (As := [.int (xs ((v5 + (1 : Int32))).toNatClampNeg), .int (xs ((v5 + (2 : Int32))).toNatClampNeg)]) (rest := []) C dL_law_1062 rfl rfl tw_1655 tw_1656 tw_1657 tw_56 tw_1658 gd_X8_percentageAfter rfl ⟨by decide, by decide⟩ (by simp [gcat, gcI, gcL, gcF, gcD]) ⟨(by show k + 2 + 0 ≤ 603072; omega), (by show n + 12 + 0 ≤ 7186538; omega)⟩ hf (fun hf => m_X8_percentageAfter hfl hf)) rfl rfl (fun E g9 h9 => h9.elim) (fun i4 g3 hf => ?_)
  refine gg_istore (L' := [some (va_rf (some b)), some (va_rf v1), some (va_rf v2), some (va_rf v3), some (va_rf v4), some (.int v5), some (.int i2), some (.int i4), none]) C dL_law_1065 (Or.inr (Or.inr ⟨_, rfl, rfl⟩)) (by decide) rfl ?_
  refine gg_aload_n C dL_law_1067 rfl ?_
  refine gr_I (k' := k + 2) (n' := n + 12) (gk_V (ci := 8) (As := []) (rest := []) C dL_law_1068 rfl rfl tw_1572 tw_1573 tw_1574 tw_56 tw_1575 gd_X8_thrown rfl ⟨by decide, by decide⟩ (by simp [gcat, gcI, gcL, gcF, gcD]) ⟨(by show k + 2 + 0 ≤ 603072; omega), (by show n + 12 + 0 ≤ 7186538; omega)⟩ hf (fun hf => m_X8_thrown hfl hf)) rfl rfl (fun E g9 h9 => h9.elim) (fun i6 g5 hf => ?_)
  refine gg_iload C dL_law_1071 rfl ?_
  refine gg_icmp_eq (tgt := 1078) C dL_law_1073 (by decide) hf (fun hf => ?_) (fun hf => ?_)
  · refine gg_iload C dL_law_1078 rfl ?_
    refine gg_if_ne (tgt := 1095) C dL_law_1080 (by decide) hf (fun hf => ?_) (fun hf => ?_)
    · exact gg_sub (L' := [some (va_rf (some b)), some (va_rf v1), some (va_rf v2), some (va_rf v3), some (va_rf v4), some (.int v5), none, none, none]) (by first | exact ⟨rfl, ⟨rfl, ⟨rfl, ⟨rfl, ⟨rfl, ⟨rfl, trivial⟩⟩⟩⟩⟩⟩ | simp [gsub]) (hb_1095 _ hf)
    · refine gg_aload_n C dL_law_1083 rfl ?_
      refine gg_iconst C dL_law_1084 (v := (0 : Int32)) (by decide) ?_
      refine gg_lald C dL_law_1085 hf (fun y7 hf => ?_)
      refine gg_iload C dL_law_1086 rfl ?_
      refine gg_i2l C dL_law_1088 ?_
      refine gg_lcmp C dL_law_1089 ?_
      refine gg_if_eq (tgt := 1095) C dL_law_1090 (by decide) hf (fun hf => ?_) (fun hf => ?_)
      · exact gg_sub (L' := [some (va_rf (some b)), some (va_rf v1), some (va_rf v2), some (va_rf v3), some (va_rf v4), some (.int v5), none, none, none]) (by first | exact ⟨rfl, ⟨rfl, ⟨rfl, ⟨rfl, ⟨rfl, ⟨rfl, trivial⟩⟩⟩⟩⟩⟩ | simp [gsub]) (hb_1095 _ hf)
      · refine gg_iconst C dL_law_1093 (v := (0 : Int32)) (by decide) ?_
        exact hf.elim
  · refine gg_iconst C dL_law_1076 (v := (0 : Int32)) (by decide) ?_
    exact hf.elim

def w_L_law_b1151 (X : Cx) (xs : Nat → Int32) (Ls b : Nat) (kI : GM → Prop) (v1 v2 v3 v4 : Option Nat) (v5 : Int32)  (g : GM) : Prop :=
  kI g
def w_law_13 (X : Cx) (xs : Nat → Int32) (Ls b : Nat) (kI : GM → Prop) (v1 v2 v3 v4 : Option Nat) (v5 : Int32) (g : GM) : Prop :=
  (vp_in (v5 + (1 : Int32)) Ls ∧ w_L_pass X (fun (i2 : Int32) (g1 : GM) => (vp_in (v5 + (1 : Int32)) Ls ∧ wIs g1 v2 8 (w_X8_pass X (fun (i4 : Int32) (g3 : GM) => wIs g3 v2 8 (w_X8_thrown X (fun (i6 : Int32) (g5 : GM) => (if i6 = i2 then (if i2 = 0 then wAldJ g5 v3 (0 : Int32) (fun (y7 : Int64) => (if (lg_cmp y7 ((i4).toInt64)) = 0 then w_L_law_b1151 X xs Ls b kI v1 v2 v3 v4 v5 g5 else False)) else w_L_law_b1151 X xs Ls b kI v1 v2 v3 v4 v5 g5) else False)) (fun _ _ => False) v2 g3)) (fun _ _ => False) v2 (xs ((v5 + (1 : Int32))).toNatClampNeg) g1))) (fun _ _ => False) v1 (xs ((v5 + (1 : Int32))).toNatClampNeg) v3 g)
set_option maxHeartbeats 4000000 in
set_option maxRecDepth 100000 in
theorem lc_13 {X : Cx} {p : Program} {l : Launch} {e : Env} {s : State} {m : MethodId} {args : Array Value} {below : List Frame} {meth : Method} {c : Code} {Q : State → Prop} {b Ls : Nat} {xs : Nat → Int32} (hfl : l.stackTraces = false) (C : FC X p l s m args meth c code 9 "ReleasetrainLaw") (hX : va_X b Ls xs s s.heap) (hbl : b < s.heap.size) (hbA : ¬ gA X b) {k n : Nat} (hk : k + 60 ≤ 603072) (hn : n + 4000 ≤ 7186538) {v1 v2 v3 v4 : Option Nat} {v5 : Int32} {kI : GM → Prop} (hkI : ∀ g, kI g → GG X p l e room_1 s m args below meth c 9 Q (k + 60) (n + 4000) 2917 [some (va_rf (some b)), some (va_rf v1), some (va_rf v2), some (va_rf v3), some (va_rf v4), some (.int v5), none, none, none] [] g) {g : GM} (hf : w_law_13 X xs Ls b kI v1 v2 v3 v4 v5 g) : GG X p l e room_1 s m args below meth c 9 Q k n 1098 [some (va_rf (some b)), some (va_rf v1), some (va_rf v2), some (va_rf v3), some (va_rf v4), some (.int v5), none, none, none] [] g := by
  have hb_1151 : ∀  (g : GM), w_L_law_b1151 X xs Ls b kI v1 v2 v3 v4 v5  g → GG X p l e room_1 s m args below meth c 9 Q (k + 1) (n + 6) 1151 [some (va_rf (some b)), some (va_rf v1), some (va_rf v2), some (va_rf v3), some (va_rf v4), some (.int v5), none, none, none] [] g := by
    intro  g hf
    unfold w_L_law_b1151 at hf
    refine gg_goto (tgt := 2917) C dL_law_1151 (by decide) ?_
    exact gg_widen (k' := k + 60) (n' := n + 4000) (by omega) (by omega) (hkI _ hf)
  unfold w_law_13 at hf
  refine gg_aload_n C dL_law_1098 rfl ?_
  refine gg_aload_n C dL_law_1099 rfl ?_
  refine gg_iload C dL_law_1100 rfl ?_
  refine gg_iconst C dL_law_1102 (v := (1 : Int32)) (by decide) ?_
  refine gg_iadd C dL_law_1103 ?_
  refine gg_sld C hX hbl hbA dL_law_1104 hf.1 ?_
  replace hf := hf.2
  refine gg_aload_n C dL_law_1105 rfl ?_
  refine gr_I (k' := k + 1) (n' := n + 6) (gk_SW (As := [va_rf v1, .int (xs ((v5 + (1 : Int32))).toNatClampNeg), va_rf v3]) (rest := []) C dL_law_1106 tw_750 tw_751 tw_46 tw_752 gd_L_pass rfl ⟨by decide, by decide⟩ (by simp [gcat, gcI, gcL, gcF, gcD]) ⟨(by show k + 1 ≤ 603072; omega), (by show n + 6 ≤ 7186538; omega)⟩ (m_L_pass hfl hf)) rfl rfl (fun E g9 h9 => h9.elim) (fun i2 g1 hf => ?_)
  refine gg_istore (L' := [some (va_rf (some b)), some (va_rf v1), some (va_rf v2), some (va_rf v3), some (va_rf v4), some (.int v5), some (.int i2), none, none]) C dL_law_1109 (Or.inr (Or.inr ⟨_, rfl, rfl⟩)) (by decide) rfl ?_
  refine gg_aload_n C dL_law_1111 rfl ?_
  refine gg_aload_n C dL_law_1112 rfl ?_
  refine gg_iload C dL_law_1113 rfl ?_
  refine gg_iconst C dL_law_1115 (v := (1 : Int32)) (by decide) ?_
  refine gg_iadd C dL_law_1116 ?_
  refine gg_sld C hX hbl hbA dL_law_1117 hf.1 ?_
  replace hf := hf.2
  refine gr_I (k' := k + 1) (n' := n + 6) (gk_V (ci := 8) (As := [.int (xs ((v5 + (1 : Int32))).toNatClampNeg)]) (rest := []) C dL_law_1118 rfl rfl tw_1685 tw_1686 tw_1687 tw_56 tw_1688 gd_X8_pass rfl ⟨by decide, by decide⟩ (by simp [gcat, gcI, gcL, gcF, gcD]) ⟨(by show k + 1 + 0 ≤ 603072; omega), (by show n + 6 + 0 ≤ 7186538; omega)⟩ hf (fun hf => m_X8_pass hfl hf)) rfl rfl (fun E g9 h9 => h9.elim) (fun i4 g3 hf => ?_)
  refine gg_istore (L' := [some (va_rf (some b)), some (va_rf v1), some (va_rf v2), some (va_rf v3), some (va_rf v4), some (.int v5), some (.int i2), some (.int i4), none]) C dL_law_1121 (Or.inr (Or.inr ⟨_, rfl, rfl⟩)) (by decide) rfl ?_
  refine gg_aload_n C dL_law_1123 rfl ?_
  refine gr_I (k' := k + 1) (n' := n + 6) (gk_V (ci := 8) (As := []) (rest := []) C dL_law_1124 rfl rfl tw_1572 tw_1573 tw_1574 tw_56 tw_1575 gd_X8_thrown rfl ⟨by decide, by decide⟩ (by simp [gcat, gcI, gcL, gcF, gcD]) ⟨(by show k + 1 + 0 ≤ 603072; omega), (by show n + 6 + 0 ≤ 7186538; omega)⟩ hf (fun hf => m_X8_thrown hfl hf)) rfl rfl (fun E g9 h9 => h9.elim) (fun i6 g5 hf => ?_)
  refine gg_iload C dL_law_1127 rfl ?_
  refine gg_icmp_eq (tgt := 1134) C dL_law_1129 (by decide) hf (fun hf => ?_) (fun hf => ?_)
  · refine gg_iload C dL_law_1134 rfl ?_
    refine gg_if_ne (tgt := 1151) C dL_law_1136 (by decide) hf (fun hf => ?_) (fun hf => ?_)
    · exact gg_sub (L' := [some (va_rf (some b)), some (va_rf v1), some (va_rf v2), some (va_rf v3), some (va_rf v4), some (.int v5), none, none, none]) (by first | exact ⟨rfl, ⟨rfl, ⟨rfl, ⟨rfl, ⟨rfl, ⟨rfl, trivial⟩⟩⟩⟩⟩⟩ | simp [gsub]) (hb_1151 _ hf)
    · refine gg_aload_n C dL_law_1139 rfl ?_
      refine gg_iconst C dL_law_1140 (v := (0 : Int32)) (by decide) ?_
      refine gg_lald C dL_law_1141 hf (fun y7 hf => ?_)
      refine gg_iload C dL_law_1142 rfl ?_
      refine gg_i2l C dL_law_1144 ?_
      refine gg_lcmp C dL_law_1145 ?_
      refine gg_if_eq (tgt := 1151) C dL_law_1146 (by decide) hf (fun hf => ?_) (fun hf => ?_)
      · exact gg_sub (L' := [some (va_rf (some b)), some (va_rf v1), some (va_rf v2), some (va_rf v3), some (va_rf v4), some (.int v5), none, none, none]) (by first | exact ⟨rfl, ⟨rfl, ⟨rfl, ⟨rfl, ⟨rfl, ⟨rfl, trivial⟩⟩⟩⟩⟩⟩ | simp [gsub]) (hb_1151 _ hf)
      · refine gg_iconst C dL_law_1149 (v := (0 : Int32)) (by decide) ?_
        exact hf.elim
  · refine gg_iconst C dL_law_1132 (v := (0 : Int32)) (by decide) ?_
    exact hf.elim

def w_L_law_b1207 (X : Cx) (xs : Nat → Int32) (Ls b : Nat) (kI : GM → Prop) (v1 v2 v3 v4 : Option Nat) (v5 : Int32)  (g : GM) : Prop :=
  kI g
def w_law_14 (X : Cx) (xs : Nat → Int32) (Ls b : Nat) (kI : GM → Prop) (v1 v2 v3 v4 : Option Nat) (v5 : Int32) (g : GM) : Prop :=
  (vp_in (v5 + (1 : Int32)) Ls ∧ w_L_holdOf X (fun (i2 : Int32) (g1 : GM) => (vp_in (v5 + (1 : Int32)) Ls ∧ wIs g1 v2 8 (w_X8_holdOf X (fun (i4 : Int32) (g3 : GM) => wIs g3 v2 8 (w_X8_thrown X (fun (i6 : Int32) (g5 : GM) => (if i6 = i2 then (if i2 = 0 then wAldJ g5 v3 (0 : Int32) (fun (y7 : Int64) => (if (lg_cmp y7 ((i4).toInt64)) = 0 then w_L_law_b1207 X xs Ls b kI v1 v2 v3 v4 v5 g5 else False)) else w_L_law_b1207 X xs Ls b kI v1 v2 v3 v4 v5 g5) else False)) (fun _ _ => False) v2 g3)) (fun _ _ => False) v2 (xs ((v5 + (1 : Int32))).toNatClampNeg) g1))) (fun _ _ => False) v1 (xs ((v5 + (1 : Int32))).toNatClampNeg) v3 g)
set_option maxHeartbeats 4000000 in
set_option maxRecDepth 100000 in
theorem lc_14 {X : Cx} {p : Program} {l : Launch} {e : Env} {s : State} {m : MethodId} {args : Array Value} {below : List Frame} {meth : Method} {c : Code} {Q : State → Prop} {b Ls : Nat} {xs : Nat → Int32} (hfl : l.stackTraces = false) (C : FC X p l s m args meth c code 9 "ReleasetrainLaw") (hX : va_X b Ls xs s s.heap) (hbl : b < s.heap.size) (hbA : ¬ gA X b) {k n : Nat} (hk : k + 60 ≤ 603072) (hn : n + 4000 ≤ 7186538) {v1 v2 v3 v4 : Option Nat} {v5 : Int32} {kI : GM → Prop} (hkI : ∀ g, kI g → GG X p l e room_1 s m args below meth c 9 Q (k + 60) (n + 4000) 2917 [some (va_rf (some b)), some (va_rf v1), some (va_rf v2), some (va_rf v3), some (va_rf v4), some (.int v5), none, none, none] [] g) {g : GM} (hf : w_law_14 X xs Ls b kI v1 v2 v3 v4 v5 g) : GG X p l e room_1 s m args below meth c 9 Q k n 1154 [some (va_rf (some b)), some (va_rf v1), some (va_rf v2), some (va_rf v3), some (va_rf v4), some (.int v5), none, none, none] [] g := by
  have hb_1207 : ∀  (g : GM), w_L_law_b1207 X xs Ls b kI v1 v2 v3 v4 v5  g → GG X p l e room_1 s m args below meth c 9 Q (k + 2) (n + 12) 1207 [some (va_rf (some b)), some (va_rf v1), some (va_rf v2), some (va_rf v3), some (va_rf v4), some (.int v5), none, none, none] [] g := by
    intro  g hf
    unfold w_L_law_b1207 at hf
    refine gg_goto (tgt := 2917) C dL_law_1207 (by decide) ?_
    exact gg_widen (k' := k + 60) (n' := n + 4000) (by omega) (by omega) (hkI _ hf)
  unfold w_law_14 at hf
  refine gg_aload_n C dL_law_1154 rfl ?_
  refine gg_aload_n C dL_law_1155 rfl ?_
  refine gg_iload C dL_law_1156 rfl ?_
  refine gg_iconst C dL_law_1158 (v := (1 : Int32)) (by decide) ?_
  refine gg_iadd C dL_law_1159 ?_
  refine gg_sld C hX hbl hbA dL_law_1160 hf.1 ?_
  replace hf := hf.2
  refine gg_aload_n C dL_law_1161 rfl ?_
  refine gr_I (k' := k + 2) (n' := n + 12) (gk_SW (As := [va_rf v1, .int (xs ((v5 + (1 : Int32))).toNatClampNeg), va_rf v3]) (rest := []) C dL_law_1162 tw_758 tw_759 tw_46 tw_760 gd_L_holdOf rfl ⟨by decide, by decide⟩ (by simp [gcat, gcI, gcL, gcF, gcD]) ⟨(by show k + 2 ≤ 603072; omega), (by show n + 12 ≤ 7186538; omega)⟩ (m_L_holdOf hfl hf)) rfl rfl (fun E g9 h9 => h9.elim) (fun i2 g1 hf => ?_)
  refine gg_istore (L' := [some (va_rf (some b)), some (va_rf v1), some (va_rf v2), some (va_rf v3), some (va_rf v4), some (.int v5), some (.int i2), none, none]) C dL_law_1165 (Or.inr (Or.inr ⟨_, rfl, rfl⟩)) (by decide) rfl ?_
  refine gg_aload_n C dL_law_1167 rfl ?_
  refine gg_aload_n C dL_law_1168 rfl ?_
  refine gg_iload C dL_law_1169 rfl ?_
  refine gg_iconst C dL_law_1171 (v := (1 : Int32)) (by decide) ?_
  refine gg_iadd C dL_law_1172 ?_
  refine gg_sld C hX hbl hbA dL_law_1173 hf.1 ?_
  replace hf := hf.2
  refine gr_I (k' := k + 2) (n' := n + 12) (gk_V (ci := 8) (As := [.int (xs ((v5 + (1 : Int32))).toNatClampNeg)]) (rest := []) C dL_law_1174 rfl rfl tw_1689 tw_1690 tw_1691 tw_56 tw_1692 gd_X8_holdOf rfl ⟨by decide, by decide⟩ (by simp [gcat, gcI, gcL, gcF, gcD]) ⟨(by show k + 2 + 0 ≤ 603072; omega), (by show n + 12 + 0 ≤ 7186538; omega)⟩ hf (fun hf => m_X8_holdOf hfl hf)) rfl rfl (fun E g9 h9 => h9.elim) (fun i4 g3 hf => ?_)
  refine gg_istore (L' := [some (va_rf (some b)), some (va_rf v1), some (va_rf v2), some (va_rf v3), some (va_rf v4), some (.int v5), some (.int i2), some (.int i4), none]) C dL_law_1177 (Or.inr (Or.inr ⟨_, rfl, rfl⟩)) (by decide) rfl ?_
  refine gg_aload_n C dL_law_1179 rfl ?_
  refine gr_I (k' := k + 2) (n' := n + 12) (gk_V (ci := 8) (As := []) (rest := []) C dL_law_1180 rfl rfl tw_1572 tw_1573 tw_1574 tw_56 tw_1575 gd_X8_thrown rfl ⟨by decide, by decide⟩ (by simp [gcat, gcI, gcL, gcF, gcD]) ⟨(by show k + 2 + 0 ≤ 603072; omega), (by show n + 12 + 0 ≤ 7186538; omega)⟩ hf (fun hf => m_X8_thrown hfl hf)) rfl rfl (fun E g9 h9 => h9.elim) (fun i6 g5 hf => ?_)
  refine gg_iload C dL_law_1183 rfl ?_
  refine gg_icmp_eq (tgt := 1190) C dL_law_1185 (by decide) hf (fun hf => ?_) (fun hf => ?_)
  · refine gg_iload C dL_law_1190 rfl ?_
    refine gg_if_ne (tgt := 1207) C dL_law_1192 (by decide) hf (fun hf => ?_) (fun hf => ?_)
    · exact gg_sub (L' := [some (va_rf (some b)), some (va_rf v1), some (va_rf v2), some (va_rf v3), some (va_rf v4), some (.int v5), none, none, none]) (by first | exact ⟨rfl, ⟨rfl, ⟨rfl, ⟨rfl, ⟨rfl, ⟨rfl, trivial⟩⟩⟩⟩⟩⟩ | simp [gsub]) (hb_1207 _ hf)
    · refine gg_aload_n C dL_law_1195 rfl ?_
      refine gg_iconst C dL_law_1196 (v := (0 : Int32)) (by decide) ?_
      refine gg_lald C dL_law_1197 hf (fun y7 hf => ?_)
      refine gg_iload C dL_law_1198 rfl ?_
      refine gg_i2l C dL_law_1200 ?_
      refine gg_lcmp C dL_law_1201 ?_
      refine gg_if_eq (tgt := 1207) C dL_law_1202 (by decide) hf (fun hf => ?_) (fun hf => ?_)
      · exact gg_sub (L' := [some (va_rf (some b)), some (va_rf v1), some (va_rf v2), some (va_rf v3), some (va_rf v4), some (.int v5), none, none, none]) (by first | exact ⟨rfl, ⟨rfl, ⟨rfl, ⟨rfl, ⟨rfl, ⟨rfl, trivial⟩⟩⟩⟩⟩⟩ | simp [gsub]) (hb_1207 _ hf)
      · refine gg_iconst C dL_law_1205 (v := (0 : Int32)) (by decide) ?_
        exact hf.elim
  · refine gg_iconst C dL_law_1188 (v := (0 : Int32)) (by decide) ?_
    exact hf.elim

def w_L_law_b1282 (X : Cx) (xs : Nat → Int32) (Ls b : Nat) (kI : GM → Prop) (v1 v2 v3 v4 : Option Nat) (v5 : Int32)  (g : GM) : Prop :=
  kI g
def w_L_law_b1276 (X : Cx) (xs : Nat → Int32) (Ls b : Nat) (kI : GM → Prop) (v1 v2 v3 v4 : Option Nat) (v5 : Int32) (t0 : Int64) (t1 : Int64) (g : GM) : Prop :=
  (if (lg_cmp t1 t0) = 0 then w_L_law_b1282 X xs Ls b kI v1 v2 v3 v4 v5 g else False)
def w_law_15 (X : Cx) (xs : Nat → Int32) (Ls b : Nat) (kI : GM → Prop) (v1 v2 v3 v4 : Option Nat) (v5 : Int32) (g : GM) : Prop :=
  (vp_in (v5 + (1 : Int32)) Ls ∧ (vp_in (v5 + (2 : Int32)) Ls ∧ w_L_couldHave X (fun (i2 : Int32) (g1 : GM) => (vp_in (v5 + (1 : Int32)) Ls ∧ (vp_in (v5 + (2 : Int32)) Ls ∧ wIs g1 v2 8 (w_X8_couldHave X (fun (i4 : Int32) (g3 : GM) => wIs g3 v2 8 (w_X8_thrown X (fun (i6 : Int32) (g5 : GM) => (if i6 = i2 then (if i2 = 0 then wAldJ g5 v3 (0 : Int32) (fun (y7 : Int64) => (if i4 = 0 then w_L_law_b1276 X xs Ls b kI v1 v2 v3 v4 v5 (0 : Int64) y7 g5 else w_L_law_b1276 X xs Ls b kI v1 v2 v3 v4 v5 (1 : Int64) y7 g5)) else w_L_law_b1282 X xs Ls b kI v1 v2 v3 v4 v5 g5) else False)) (fun _ _ => False) v2 g3)) (fun _ _ => False) v2 (xs ((v5 + (1 : Int32))).toNatClampNeg) (xs ((v5 + (2 : Int32))).toNatClampNeg) g1)))) (fun _ _ => False) v1 (xs ((v5 + (1 : Int32))).toNatClampNeg) (xs ((v5 + (2 : Int32))).toNatClampNeg) v3 g))
set_option maxHeartbeats 4000000 in
set_option maxRecDepth 100000 in
theorem lc_15 {X : Cx} {p : Program} {l : Launch} {e : Env} {s : State} {m : MethodId} {args : Array Value} {below : List Frame} {meth : Method} {c : Code} {Q : State → Prop} {b Ls : Nat} {xs : Nat → Int32} (hfl : l.stackTraces = false) (C : FC X p l s m args meth c code 9 "ReleasetrainLaw") (hX : va_X b Ls xs s s.heap) (hbl : b < s.heap.size) (hbA : ¬ gA X b) {k n : Nat} (hk : k + 60 ≤ 603072) (hn : n + 4000 ≤ 7186538) {v1 v2 v3 v4 : Option Nat} {v5 : Int32} {kI : GM → Prop} (hkI : ∀ g, kI g → GG X p l e room_1 s m args below meth c 9 Q (k + 60) (n + 4000) 2917 [some (va_rf (some b)), some (va_rf v1), some (va_rf v2), some (va_rf v3), some (va_rf v4), some (.int v5), none, none, none] [] g) {g : GM} (hf : w_law_15 X xs Ls b kI v1 v2 v3 v4 v5 g) : GG X p l e room_1 s m args below meth c 9 Q k n 1210 [some (va_rf (some b)), some (va_rf v1), some (va_rf v2), some (va_rf v3), some (va_rf v4), some (.int v5), none, none, none] [] g := by
  have hb_1282 : ∀  (g : GM), w_L_law_b1282 X xs Ls b kI v1 v2 v3 v4 v5  g → GG X p l e room_1 s m args below meth c 9 Q (k + 2) (n + 12) 1282 [some (va_rf (some b)), some (va_rf v1), some (va_rf v2), some (va_rf v3), some (va_rf v4), some (.int v5), none, none, none] [] g := by
    intro  g hf
    unfold w_L_law_b1282 at hf
    refine gg_goto (tgt := 2917) C dL_law_1282 (by decide) ?_
    exact gg_widen (k' := k + 60) (n' := n + 4000) (by omega) (by omega) (hkI _ hf)
  have hb_1276 : ∀ (t0 : Int64) (t1 : Int64) (g : GM), w_L_law_b1276 X xs Ls b kI v1 v2 v3 v4 v5 t0 t1 g → GG X p l e room_1 s m args below meth c 9 Q (k + 2) (n + 12) 1276 [some (va_rf (some b)), some (va_rf v1), some (va_rf v2), some (va_rf v3), some (va_rf v4), some (.int v5), none, none, none] [.long t0, .long t1] g := by
    intro t0 t1 g hf
    unfold w_L_law_b1276 at hf
    refine gg_lcmp C dL_law_1276 ?_
    refine gg_if_eq (tgt := 1282) C dL_law_1277 (by decide) hf (fun hf => ?_) (fun hf => ?_)
    · exact hb_1282 _ hf
    · refine gg_iconst C dL_law_1280 (v := (0 : Int32)) (by decide) ?_
      exact hf.elim
  unfold w_law_15 at hf
  refine gg_aload_n C dL_law_1210 rfl ?_
  refine gg_aload_n C dL_law_1211 rfl ?_
  refine gg_iload C dL_law_1212 rfl ?_
  refine gg_iconst C dL_law_1214 (v := (1 : Int32)) (by decide) ?_
  refine gg_iadd C dL_law_1215 ?_
  refine gg_sld C hX hbl hbA dL_law_1216 hf.1 ?_
  replace hf := hf.2
  refine gg_aload_n C dL_law_1217 rfl ?_
  refine gg_iload C dL_law_1218 rfl ?_
  refine gg_iconst C dL_law_1220 (v := (2 : Int32)) (by decide) ?_
  refine gg_iadd C dL_law_1221 ?_
  refine gg_sld C hX hbl hbA dL_law_1222 hf.1 ?_
  replace hf := hf.2
  refine gg_aload_n C dL_law_1223 rfl ?_
  refine gr_I (k' := k + 2) (n' := n + 12) (gk_SW (As := [va_rf v1, .int (xs ((v5 + (1 : Int32))).toNatClampNeg), .int (xs ((v5 + (2 : Int32))).toNatClampNeg), va_rf v3]) (rest := []) C dL_law_1224 tw_765 tw_766 tw_46 tw_767 gd_L_couldHave rfl ⟨by decide, by decide⟩ (by simp [gcat, gcI, gcL, gcF, gcD]) ⟨(by show k + 2 ≤ 603072; omega), (by show n + 12 ≤ 7186538; omega)⟩ (m_L_couldHave hfl hf)) rfl rfl (fun E g9 h9 => h9.elim) (fun i2 g1 hf => ?_)
  refine gg_istore (L' := [some (va_rf (some b)), some (va_rf v1), some (va_rf v2), some (va_rf v3), some (va_rf v4), some (.int v5), some (.int i2), none, none]) C dL_law_1227 (Or.inr (Or.inr ⟨_, rfl, rfl⟩)) (by decide) rfl ?_
  refine gg_aload_n C dL_law_1229 rfl ?_
  refine gg_aload_n C dL_law_1230 rfl ?_
  refine gg_iload C dL_law_1231 rfl ?_
  refine gg_iconst C dL_law_1233 (v := (1 : Int32)) (by decide) ?_
  refine gg_iadd C dL_law_1234 ?_
  refine gg_sld C hX hbl hbA dL_law_1235 hf.1 ?_
  replace hf := hf.2
  refine gg_aload_n C dL_law_1236 rfl ?_
  refine gg_iload C dL_law_1237 rfl ?_
  refine gg_iconst C dL_law_1239 (v := (2 : Int32)) (by decide) ?_
  refine gg_iadd C dL_law_1240 ?_
  refine gg_sld C hX hbl hbA dL_law_1241 hf.1 ?_
  replace hf := hf.2
  refine gr_I (k' := k + 2) (n' := n + 12) (gk_V (ci := 8) (As := [.int (xs ((v5 + (1 : Int32))).toNatClampNeg), .int (xs ((v5 + (2 : Int32))).toNatClampNeg)]) (rest := []) C dL_law_1242 rfl rfl tw_1693 tw_1694 tw_1695 tw_56 tw_1696 gd_X8_couldHave rfl ⟨by decide, by decide⟩ (by simp [gcat, gcI, gcL, gcF, gcD]) ⟨(by show k + 2 + 0 ≤ 603072; omega), (by show n + 12 + 0 ≤ 7186538; omega)⟩ hf (fun hf => m_X8_couldHave hfl hf)) rfl rfl (fun E g9 h9 => h9.elim) (fun i4 g3 hf => ?_)
  refine gg_istore (L' := [some (va_rf (some b)), some (va_rf v1), some (va_rf v2), some (va_rf v3), some (va_rf v4), some (.int v5), some (.int i2), some (.int i4), none]) C dL_law_1245 (Or.inr (Or.inr ⟨_, rfl, rfl⟩)) (by decide) rfl ?_
  refine gg_aload_n C dL_law_1247 rfl ?_
  refine gr_I (k' := k + 2) (n' := n + 12) (gk_V (ci := 8) (As := []) (rest := []) C dL_law_1248 rfl rfl tw_1572 tw_1573 tw_1574 tw_56 tw_1575 gd_X8_thrown rfl ⟨by decide, by decide⟩ (by simp [gcat, gcI, gcL, gcF, gcD]) ⟨(by show k + 2 + 0 ≤ 603072; omega), (by show n + 12 + 0 ≤ 7186538; omega)⟩ hf (fun hf => m_X8_thrown hfl hf)) rfl rfl (fun E g9 h9 => h9.elim) (fun i6 g5 hf => ?_)
  refine gg_iload C dL_law_1251 rfl ?_
  refine gg_icmp_eq (tgt := 1258) C dL_law_1253 (by decide) hf (fun hf => ?_) (fun hf => ?_)
  · refine gg_iload C dL_law_1258 rfl ?_
    refine gg_if_ne (tgt := 1282) C dL_law_1260 (by decide) hf (fun hf => ?_) (fun hf => ?_)
    · exact gg_sub (L' := [some (va_rf (some b)), some (va_rf v1), some (va_rf v2), some (va_rf v3), some (va_rf v4), some (.int v5), none, none, none]) (by first | exact ⟨rfl, ⟨rfl, ⟨rfl, ⟨rfl, ⟨rfl, ⟨rfl, trivial⟩⟩⟩⟩⟩⟩ | simp [gsub]) (hb_1282 _ hf)
    · refine gg_aload_n C dL_law_1263 rfl ?_
      refine gg_iconst C dL_law_1264 (v := (0 : Int32)) (by decide) ?_
      refine gg_lald C dL_law_1265 hf (fun y7 hf => ?_)
      refine gg_iload C dL_law_1266 rfl ?_
      refine gg_if_eq (tgt := 1275) C dL_law_1268 (by decide) hf (fun hf => ?_) (fun hf => ?_)
      · refine gg_lconst C dL_law_1275 (v := (0 : Int64)) (by decide) ?_
        exact gg_sub (L' := [some (va_rf (some b)), some (va_rf v1), some (va_rf v2), some (va_rf v3), some (va_rf v4), some (.int v5), none, none, none]) (by first | exact ⟨rfl, ⟨rfl, ⟨rfl, ⟨rfl, ⟨rfl, ⟨rfl, trivial⟩⟩⟩⟩⟩⟩ | simp [gsub]) (hb_1276 _ _ _ hf)
      · refine gg_lconst C dL_law_1271 (v := (1 : Int64)) (by decide) ?_
        refine gg_goto (tgt := 1276) C dL_law_1272 (by decide) ?_
        exact gg_sub (L' := [some (va_rf (some b)), some (va_rf v1), some (va_rf v2), some (va_rf v3), some (va_rf v4), some (.int v5), none, none, none]) (by first | exact ⟨rfl, ⟨rfl, ⟨rfl, ⟨rfl, ⟨rfl, ⟨rfl, trivial⟩⟩⟩⟩⟩⟩ | simp [gsub]) (hb_1276 _ _ _ hf)
  · refine gg_iconst C dL_law_1256 (v := (0 : Int32)) (by decide) ?_
    exact hf.elim

def w_L_law_b1338 (X : Cx) (xs : Nat → Int32) (Ls b : Nat) (kI : GM → Prop) (v1 v2 v3 v4 : Option Nat) (v5 : Int32)  (g : GM) : Prop :=
  kI g
def w_law_16 (X : Cx) (xs : Nat → Int32) (Ls b : Nat) (kI : GM → Prop) (v1 v2 v3 v4 : Option Nat) (v5 : Int32) (g : GM) : Prop :=
  (vp_in (v5 + (1 : Int32)) Ls ∧ w_L_reach X (fun (i2 : Int32) (g1 : GM) => (vp_in (v5 + (1 : Int32)) Ls ∧ wIs g1 v2 8 (w_X8_reach X (fun (i4 : Int32) (g3 : GM) => wIs g3 v2 8 (w_X8_thrown X (fun (i6 : Int32) (g5 : GM) => (if i6 = i2 then (if i2 = 0 then wAldJ g5 v3 (0 : Int32) (fun (y7 : Int64) => (if (lg_cmp y7 ((i4).toInt64)) = 0 then w_L_law_b1338 X xs Ls b kI v1 v2 v3 v4 v5 g5 else False)) else w_L_law_b1338 X xs Ls b kI v1 v2 v3 v4 v5 g5) else False)) (fun _ _ => False) v2 g3)) (fun _ _ => False) v2 (xs ((v5 + (1 : Int32))).toNatClampNeg) g1))) (fun _ _ => False) v1 (xs ((v5 + (1 : Int32))).toNatClampNeg) v3 g)
set_option maxHeartbeats 4000000 in
set_option maxRecDepth 100000 in
theorem lc_16 {X : Cx} {p : Program} {l : Launch} {e : Env} {s : State} {m : MethodId} {args : Array Value} {below : List Frame} {meth : Method} {c : Code} {Q : State → Prop} {b Ls : Nat} {xs : Nat → Int32} (hfl : l.stackTraces = false) (C : FC X p l s m args meth c code 9 "ReleasetrainLaw") (hX : va_X b Ls xs s s.heap) (hbl : b < s.heap.size) (hbA : ¬ gA X b) {k n : Nat} (hk : k + 60 ≤ 603072) (hn : n + 4000 ≤ 7186538) {v1 v2 v3 v4 : Option Nat} {v5 : Int32} {kI : GM → Prop} (hkI : ∀ g, kI g → GG X p l e room_1 s m args below meth c 9 Q (k + 60) (n + 4000) 2917 [some (va_rf (some b)), some (va_rf v1), some (va_rf v2), some (va_rf v3), some (va_rf v4), some (.int v5), none, none, none] [] g) {g : GM} (hf : w_law_16 X xs Ls b kI v1 v2 v3 v4 v5 g) : GG X p l e room_1 s m args below meth c 9 Q k n 1285 [some (va_rf (some b)), some (va_rf v1), some (va_rf v2), some (va_rf v3), some (va_rf v4), some (.int v5), none, none, none] [] g := by
  have hb_1338 : ∀  (g : GM), w_L_law_b1338 X xs Ls b kI v1 v2 v3 v4 v5  g → GG X p l e room_1 s m args below meth c 9 Q (k + 1) (n + 6) 1338 [some (va_rf (some b)), some (va_rf v1), some (va_rf v2), some (va_rf v3), some (va_rf v4), some (.int v5), none, none, none] [] g := by
    intro  g hf
    unfold w_L_law_b1338 at hf
    refine gg_goto (tgt := 2917) C dL_law_1338 (by decide) ?_
    exact gg_widen (k' := k + 60) (n' := n + 4000) (by omega) (by omega) (hkI _ hf)
  unfold w_law_16 at hf
  refine gg_aload_n C dL_law_1285 rfl ?_
  refine gg_aload_n C dL_law_1286 rfl ?_
  refine gg_iload C dL_law_1287 rfl ?_
  refine gg_iconst C dL_law_1289 (v := (1 : Int32)) (by decide) ?_
  refine gg_iadd C dL_law_1290 ?_
  refine gg_sld C hX hbl hbA dL_law_1291 hf.1 ?_
  replace hf := hf.2
  refine gg_aload_n C dL_law_1292 rfl ?_
  refine gr_I (k' := k + 1) (n' := n + 6) (gk_SW (As := [va_rf v1, .int (xs ((v5 + (1 : Int32))).toNatClampNeg), va_rf v3]) (rest := []) C dL_law_1293 tw_792 tw_793 tw_46 tw_794 gd_L_reach rfl ⟨by decide, by decide⟩ (by simp [gcat, gcI, gcL, gcF, gcD]) ⟨(by show k + 1 ≤ 603072; omega), (by show n + 6 ≤ 7186538; omega)⟩ (m_L_reach hfl hf)) rfl rfl (fun E g9 h9 => h9.elim) (fun i2 g1 hf => ?_)
  refine gg_istore (L' := [some (va_rf (some b)), some (va_rf v1), some (va_rf v2), some (va_rf v3), some (va_rf v4), some (.int v5), some (.int i2), none, none]) C dL_law_1296 (Or.inr (Or.inr ⟨_, rfl, rfl⟩)) (by decide) rfl ?_
  refine gg_aload_n C dL_law_1298 rfl ?_
  refine gg_aload_n C dL_law_1299 rfl ?_
  refine gg_iload C dL_law_1300 rfl ?_
  refine gg_iconst C dL_law_1302 (v := (1 : Int32)) (by decide) ?_
  refine gg_iadd C dL_law_1303 ?_
  refine gg_sld C hX hbl hbA dL_law_1304 hf.1 ?_
  replace hf := hf.2
  refine gr_I (k' := k + 1) (n' := n + 6) (gk_V (ci := 8) (As := [.int (xs ((v5 + (1 : Int32))).toNatClampNeg)]) (rest := []) C dL_law_1305 rfl rfl tw_1708 tw_1709 tw_1710 tw_56 tw_1711 gd_X8_reach rfl ⟨by decide, by decide⟩ (by simp [gcat, gcI, gcL, gcF, gcD]) ⟨(by show k + 1 + 0 ≤ 603072; omega), (by show n + 6 + 0 ≤ 7186538; omega)⟩ hf (fun hf => m_X8_reach hfl hf)) rfl rfl (fun E g9 h9 => h9.elim) (fun i4 g3 hf => ?_)
  refine gg_istore (L' := [some (va_rf (some b)), some (va_rf v1), some (va_rf v2), some (va_rf v3), some (va_rf v4), some (.int v5), some (.int i2), some (.int i4), none]) C dL_law_1308 (Or.inr (Or.inr ⟨_, rfl, rfl⟩)) (by decide) rfl ?_
  refine gg_aload_n C dL_law_1310 rfl ?_
  refine gr_I (k' := k + 1) (n' := n + 6) (gk_V (ci := 8) (As := []) (rest := []) C dL_law_1311 rfl rfl tw_1572 tw_1573 tw_1574 tw_56 tw_1575 gd_X8_thrown rfl ⟨by decide, by decide⟩ (by simp [gcat, gcI, gcL, gcF, gcD]) ⟨(by show k + 1 + 0 ≤ 603072; omega), (by show n + 6 + 0 ≤ 7186538; omega)⟩ hf (fun hf => m_X8_thrown hfl hf)) rfl rfl (fun E g9 h9 => h9.elim) (fun i6 g5 hf => ?_)
  refine gg_iload C dL_law_1314 rfl ?_
  refine gg_icmp_eq (tgt := 1321) C dL_law_1316 (by decide) hf (fun hf => ?_) (fun hf => ?_)
  · refine gg_iload C dL_law_1321 rfl ?_
    refine gg_if_ne (tgt := 1338) C dL_law_1323 (by decide) hf (fun hf => ?_) (fun hf => ?_)
    · exact gg_sub (L' := [some (va_rf (some b)), some (va_rf v1), some (va_rf v2), some (va_rf v3), some (va_rf v4), some (.int v5), none, none, none]) (by first | exact ⟨rfl, ⟨rfl, ⟨rfl, ⟨rfl, ⟨rfl, ⟨rfl, trivial⟩⟩⟩⟩⟩⟩ | simp [gsub]) (hb_1338 _ hf)
    · refine gg_aload_n C dL_law_1326 rfl ?_
      refine gg_iconst C dL_law_1327 (v := (0 : Int32)) (by decide) ?_
      refine gg_lald C dL_law_1328 hf (fun y7 hf => ?_)
      refine gg_iload C dL_law_1329 rfl ?_
      refine gg_i2l C dL_law_1331 ?_
      refine gg_lcmp C dL_law_1332 ?_
      refine gg_if_eq (tgt := 1338) C dL_law_1333 (by decide) hf (fun hf => ?_) (fun hf => ?_)
      · exact gg_sub (L' := [some (va_rf (some b)), some (va_rf v1), some (va_rf v2), some (va_rf v3), some (va_rf v4), some (.int v5), none, none, none]) (by first | exact ⟨rfl, ⟨rfl, ⟨rfl, ⟨rfl, ⟨rfl, ⟨rfl, trivial⟩⟩⟩⟩⟩⟩ | simp [gsub]) (hb_1338 _ hf)
      · refine gg_iconst C dL_law_1336 (v := (0 : Int32)) (by decide) ?_
        exact hf.elim
  · refine gg_iconst C dL_law_1319 (v := (0 : Int32)) (by decide) ?_
    exact hf.elim

def w_L_law_b1394 (X : Cx) (xs : Nat → Int32) (Ls b : Nat) (kI : GM → Prop) (v1 v2 v3 v4 : Option Nat) (v5 : Int32)  (g : GM) : Prop :=
  kI g
def w_law_17 (X : Cx) (xs : Nat → Int32) (Ls b : Nat) (kI : GM → Prop) (v1 v2 v3 v4 : Option Nat) (v5 : Int32) (g : GM) : Prop :=
  (vp_in (v5 + (1 : Int32)) Ls ∧ w_L_reachByDevices X (fun (i2 : Int32) (g1 : GM) => (vp_in (v5 + (1 : Int32)) Ls ∧ wIs g1 v2 8 (w_X8_reachByDevices X (fun (i4 : Int32) (g3 : GM) => wIs g3 v2 8 (w_X8_thrown X (fun (i6 : Int32) (g5 : GM) => (if i6 = i2 then (if i2 = 0 then wAldJ g5 v3 (0 : Int32) (fun (y7 : Int64) => (if (lg_cmp y7 ((i4).toInt64)) = 0 then w_L_law_b1394 X xs Ls b kI v1 v2 v3 v4 v5 g5 else False)) else w_L_law_b1394 X xs Ls b kI v1 v2 v3 v4 v5 g5) else False)) (fun _ _ => False) v2 g3)) (fun _ _ => False) v2 (xs ((v5 + (1 : Int32))).toNatClampNeg) g1))) (fun _ _ => False) v1 (xs ((v5 + (1 : Int32))).toNatClampNeg) v3 g)
set_option maxHeartbeats 4000000 in
set_option maxRecDepth 100000 in
theorem lc_17 {X : Cx} {p : Program} {l : Launch} {e : Env} {s : State} {m : MethodId} {args : Array Value} {below : List Frame} {meth : Method} {c : Code} {Q : State → Prop} {b Ls : Nat} {xs : Nat → Int32} (hfl : l.stackTraces = false) (C : FC X p l s m args meth c code 9 "ReleasetrainLaw") (hX : va_X b Ls xs s s.heap) (hbl : b < s.heap.size) (hbA : ¬ gA X b) {k n : Nat} (hk : k + 60 ≤ 603072) (hn : n + 4000 ≤ 7186538) {v1 v2 v3 v4 : Option Nat} {v5 : Int32} {kI : GM → Prop} (hkI : ∀ g, kI g → GG X p l e room_1 s m args below meth c 9 Q (k + 60) (n + 4000) 2917 [some (va_rf (some b)), some (va_rf v1), some (va_rf v2), some (va_rf v3), some (va_rf v4), some (.int v5), none, none, none] [] g) {g : GM} (hf : w_law_17 X xs Ls b kI v1 v2 v3 v4 v5 g) : GG X p l e room_1 s m args below meth c 9 Q k n 1341 [some (va_rf (some b)), some (va_rf v1), some (va_rf v2), some (va_rf v3), some (va_rf v4), some (.int v5), none, none, none] [] g := by
  have hb_1394 : ∀  (g : GM), w_L_law_b1394 X xs Ls b kI v1 v2 v3 v4 v5  g → GG X p l e room_1 s m args below meth c 9 Q (k + 1) (n + 6) 1394 [some (va_rf (some b)), some (va_rf v1), some (va_rf v2), some (va_rf v3), some (va_rf v4), some (.int v5), none, none, none] [] g := by
    intro  g hf
    unfold w_L_law_b1394 at hf
    refine gg_goto (tgt := 2917) C dL_law_1394 (by decide) ?_
    exact gg_widen (k' := k + 60) (n' := n + 4000) (by omega) (by omega) (hkI _ hf)
  unfold w_law_17 at hf
  refine gg_aload_n C dL_law_1341 rfl ?_
  refine gg_aload_n C dL_law_1342 rfl ?_
  refine gg_iload C dL_law_1343 rfl ?_
  refine gg_iconst C dL_law_1345 (v := (1 : Int32)) (by decide) ?_
  refine gg_iadd C dL_law_1346 ?_
  refine gg_sld C hX hbl hbA dL_law_1347 hf.1 ?_
  replace hf := hf.2
  refine gg_aload_n C dL_law_1348 rfl ?_
  refine gr_I (k' := k + 1) (n' := n + 6) (gk_SW (As := [va_rf v1, .int (xs ((v5 + (1 : Int32))).toNatClampNeg), va_rf v3]) (rest := []) C dL_law_1349 tw_804 tw_805 tw_46 tw_806 gd_L_reachByDevices rfl ⟨by decide, by decide⟩ (by simp [gcat, gcI, gcL, gcF, gcD]) ⟨(by show k + 1 ≤ 603072; omega), (by show n + 6 ≤ 7186538; omega)⟩ (m_L_reachByDevices hfl hf)) rfl rfl (fun E g9 h9 => h9.elim) (fun i2 g1 hf => ?_)
  refine gg_istore (L' := [some (va_rf (some b)), some (va_rf v1), some (va_rf v2), some (va_rf v3), some (va_rf v4), some (.int v5), some (.int i2), none, none]) C dL_law_1352 (Or.inr (Or.inr ⟨_, rfl, rfl⟩)) (by decide) rfl ?_
  refine gg_aload_n C dL_law_1354 rfl ?_
  refine gg_aload_n C dL_law_1355 rfl ?_
  refine gg_iload C dL_law_1356 rfl ?_
  refine gg_iconst C dL_law_1358 (v := (1 : Int32)) (by decide) ?_
  refine gg_iadd C dL_law_1359 ?_
  refine gg_sld C hX hbl hbA dL_law_1360 hf.1 ?_
  replace hf := hf.2
  refine gr_I (k' := k + 1) (n' := n + 6) (gk_V (ci := 8) (As := [.int (xs ((v5 + (1 : Int32))).toNatClampNeg)]) (rest := []) C dL_law_1361 rfl rfl tw_1712 tw_1713 tw_1714 tw_56 tw_1715 gd_X8_reachByDevices rfl ⟨by decide, by decide⟩ (by simp [gcat, gcI, gcL, gcF, gcD]) ⟨(by show k + 1 + 0 ≤ 603072; omega), (by show n + 6 + 0 ≤ 7186538; omega)⟩ hf (fun hf => m_X8_reachByDevices hfl hf)) rfl rfl (fun E g9 h9 => h9.elim) (fun i4 g3 hf => ?_)
  refine gg_istore (L' := [some (va_rf (some b)), some (va_rf v1), some (va_rf v2), some (va_rf v3), some (va_rf v4), some (.int v5), some (.int i2), some (.int i4), none]) C dL_law_1364 (Or.inr (Or.inr ⟨_, rfl, rfl⟩)) (by decide) rfl ?_
  refine gg_aload_n C dL_law_1366 rfl ?_
  refine gr_I (k' := k + 1) (n' := n + 6) (gk_V (ci := 8) (As := []) (rest := []) C dL_law_1367 rfl rfl tw_1572 tw_1573 tw_1574 tw_56 tw_1575 gd_X8_thrown rfl ⟨by decide, by decide⟩ (by simp [gcat, gcI, gcL, gcF, gcD]) ⟨(by show k + 1 + 0 ≤ 603072; omega), (by show n + 6 + 0 ≤ 7186538; omega)⟩ hf (fun hf => m_X8_thrown hfl hf)) rfl rfl (fun E g9 h9 => h9.elim) (fun i6 g5 hf => ?_)
  refine gg_iload C dL_law_1370 rfl ?_
  refine gg_icmp_eq (tgt := 1377) C dL_law_1372 (by decide) hf (fun hf => ?_) (fun hf => ?_)
  · refine gg_iload C dL_law_1377 rfl ?_
    refine gg_if_ne (tgt := 1394) C dL_law_1379 (by decide) hf (fun hf => ?_) (fun hf => ?_)
    · exact gg_sub (L' := [some (va_rf (some b)), some (va_rf v1), some (va_rf v2), some (va_rf v3), some (va_rf v4), some (.int v5), none, none, none]) (by first | exact ⟨rfl, ⟨rfl, ⟨rfl, ⟨rfl, ⟨rfl, ⟨rfl, trivial⟩⟩⟩⟩⟩⟩ | simp [gsub]) (hb_1394 _ hf)
    · refine gg_aload_n C dL_law_1382 rfl ?_
      refine gg_iconst C dL_law_1383 (v := (0 : Int32)) (by decide) ?_
      refine gg_lald C dL_law_1384 hf (fun y7 hf => ?_)
      refine gg_iload C dL_law_1385 rfl ?_
      refine gg_i2l C dL_law_1387 ?_
      refine gg_lcmp C dL_law_1388 ?_
      refine gg_if_eq (tgt := 1394) C dL_law_1389 (by decide) hf (fun hf => ?_) (fun hf => ?_)
      · exact gg_sub (L' := [some (va_rf (some b)), some (va_rf v1), some (va_rf v2), some (va_rf v3), some (va_rf v4), some (.int v5), none, none, none]) (by first | exact ⟨rfl, ⟨rfl, ⟨rfl, ⟨rfl, ⟨rfl, ⟨rfl, trivial⟩⟩⟩⟩⟩⟩ | simp [gsub]) (hb_1394 _ hf)
      · refine gg_iconst C dL_law_1392 (v := (0 : Int32)) (by decide) ?_
        exact hf.elim
  · refine gg_iconst C dL_law_1375 (v := (0 : Int32)) (by decide) ?_
    exact hf.elim

def w_L_law_b1450 (X : Cx) (xs : Nat → Int32) (Ls b : Nat) (kI : GM → Prop) (v1 v2 v3 v4 : Option Nat) (v5 : Int32)  (g : GM) : Prop :=
  kI g
def w_law_18 (X : Cx) (xs : Nat → Int32) (Ls b : Nat) (kI : GM → Prop) (v1 v2 v3 v4 : Option Nat) (v5 : Int32) (g : GM) : Prop :=
  (vp_in (v5 + (1 : Int32)) Ls ∧ w_L_offered X (fun (i2 : Int32) (g1 : GM) => (vp_in (v5 + (1 : Int32)) Ls ∧ wIs g1 v2 8 (w_X8_offered X (fun (i4 : Int32) (g3 : GM) => wIs g3 v2 8 (w_X8_thrown X (fun (i6 : Int32) (g5 : GM) => (if i6 = i2 then (if i2 = 0 then wAldJ g5 v3 (0 : Int32) (fun (y7 : Int64) => (if (lg_cmp y7 ((i4).toInt64)) = 0 then w_L_law_b1450 X xs Ls b kI v1 v2 v3 v4 v5 g5 else False)) else w_L_law_b1450 X xs Ls b kI v1 v2 v3 v4 v5 g5) else False)) (fun _ _ => False) v2 g3)) (fun _ _ => False) v2 (xs ((v5 + (1 : Int32))).toNatClampNeg) g1))) (fun _ _ => False) v1 (xs ((v5 + (1 : Int32))).toNatClampNeg) v3 g)
set_option maxHeartbeats 4000000 in
set_option maxRecDepth 100000 in
theorem lc_18 {X : Cx} {p : Program} {l : Launch} {e : Env} {s : State} {m : MethodId} {args : Array Value} {below : List Frame} {meth : Method} {c : Code} {Q : State → Prop} {b Ls : Nat} {xs : Nat → Int32} (hfl : l.stackTraces = false) (C : FC X p l s m args meth c code 9 "ReleasetrainLaw") (hX : va_X b Ls xs s s.heap) (hbl : b < s.heap.size) (hbA : ¬ gA X b) {k n : Nat} (hk : k + 60 ≤ 603072) (hn : n + 4000 ≤ 7186538) {v1 v2 v3 v4 : Option Nat} {v5 : Int32} {kI : GM → Prop} (hkI : ∀ g, kI g → GG X p l e room_1 s m args below meth c 9 Q (k + 60) (n + 4000) 2917 [some (va_rf (some b)), some (va_rf v1), some (va_rf v2), some (va_rf v3), some (va_rf v4), some (.int v5), none, none, none] [] g) {g : GM} (hf : w_law_18 X xs Ls b kI v1 v2 v3 v4 v5 g) : GG X p l e room_1 s m args below meth c 9 Q k n 1397 [some (va_rf (some b)), some (va_rf v1), some (va_rf v2), some (va_rf v3), some (va_rf v4), some (.int v5), none, none, none] [] g := by
  have hb_1450 : ∀  (g : GM), w_L_law_b1450 X xs Ls b kI v1 v2 v3 v4 v5  g → GG X p l e room_1 s m args below meth c 9 Q (k + 2) (n + 12) 1450 [some (va_rf (some b)), some (va_rf v1), some (va_rf v2), some (va_rf v3), some (va_rf v4), some (.int v5), none, none, none] [] g := by
    intro  g hf
    unfold w_L_law_b1450 at hf
    refine gg_goto (tgt := 2917) C dL_law_1450 (by decide) ?_
    exact gg_widen (k' := k + 60) (n' := n + 4000) (by omega) (by omega) (hkI _ hf)
  unfold w_law_18 at hf
  refine gg_aload_n C dL_law_1397 rfl ?_
  refine gg_aload_n C dL_law_1398 rfl ?_
  refine gg_iload C dL_law_1399 rfl ?_
  refine gg_iconst C dL_law_1401 (v := (1 : Int32)) (by decide) ?_
  refine gg_iadd C dL_law_1402 ?_
  refine gg_sld C hX hbl hbA dL_law_1403 hf.1 ?_
  replace hf := hf.2
  refine gg_aload_n C dL_law_1404 rfl ?_
  refine gr_I (k' := k + 2) (n' := n + 12) (gk_SW (As := [va_rf v1, .int (xs ((v5 + (1 : Int32))).toNatClampNeg), va_rf v3]) (rest := []) C dL_law_1405 tw_811 tw_812 tw_46 tw_813 gd_L_offered rfl ⟨by decide, by decide⟩ (by simp [gcat, gcI, gcL, gcF, gcD]) ⟨(by show k + 2 ≤ 603072; omega), (by show n + 12 ≤ 7186538; omega)⟩ (m_L_offered hfl hf)) rfl rfl (fun E g9 h9 => h9.elim) (fun i2 g1 hf => ?_)
  refine gg_istore (L' := [some (va_rf (some b)), some (va_rf v1), some (va_rf v2), some (va_rf v3), some (va_rf v4), some (.int v5), some (.int i2), none, none]) C dL_law_1408 (Or.inr (Or.inr ⟨_, rfl, rfl⟩)) (by decide) rfl ?_
  refine gg_aload_n C dL_law_1410 rfl ?_
  refine gg_aload_n C dL_law_1411 rfl ?_
  refine gg_iload C dL_law_1412 rfl ?_
  refine gg_iconst C dL_law_1414 (v := (1 : Int32)) (by decide) ?_
  refine gg_iadd C dL_law_1415 ?_
  refine gg_sld C hX hbl hbA dL_law_1416 hf.1 ?_
  replace hf := hf.2
  refine gr_I (k' := k + 2) (n' := n + 12) (gk_V (ci := 8) (As := [.int (xs ((v5 + (1 : Int32))).toNatClampNeg)]) (rest := []) C dL_law_1417 rfl rfl tw_1717 tw_1718 tw_1719 tw_56 tw_1720 gd_X8_offered rfl ⟨by decide, by decide⟩ (by simp [gcat, gcI, gcL, gcF, gcD]) ⟨(by show k + 2 + 0 ≤ 603072; omega), (by show n + 12 + 0 ≤ 7186538; omega)⟩ hf (fun hf => m_X8_offered hfl hf)) rfl rfl (fun E g9 h9 => h9.elim) (fun i4 g3 hf => ?_)
  refine gg_istore (L' := [some (va_rf (some b)), some (va_rf v1), some (va_rf v2), some (va_rf v3), some (va_rf v4), some (.int v5), some (.int i2), some (.int i4), none]) C dL_law_1420 (Or.inr (Or.inr ⟨_, rfl, rfl⟩)) (by decide) rfl ?_
  refine gg_aload_n C dL_law_1422 rfl ?_
  refine gr_I (k' := k + 2) (n' := n + 12) (gk_V (ci := 8) (As := []) (rest := []) C dL_law_1423 rfl rfl tw_1572 tw_1573 tw_1574 tw_56 tw_1575 gd_X8_thrown rfl ⟨by decide, by decide⟩ (by simp [gcat, gcI, gcL, gcF, gcD]) ⟨(by show k + 2 + 0 ≤ 603072; omega), (by show n + 12 + 0 ≤ 7186538; omega)⟩ hf (fun hf => m_X8_thrown hfl hf)) rfl rfl (fun E g9 h9 => h9.elim) (fun i6 g5 hf => ?_)
  refine gg_iload C dL_law_1426 rfl ?_
  refine gg_icmp_eq (tgt := 1433) C dL_law_1428 (by decide) hf (fun hf => ?_) (fun hf => ?_)
  · refine gg_iload C dL_law_1433 rfl ?_
    refine gg_if_ne (tgt := 1450) C dL_law_1435 (by decide) hf (fun hf => ?_) (fun hf => ?_)
    · exact gg_sub (L' := [some (va_rf (some b)), some (va_rf v1), some (va_rf v2), some (va_rf v3), some (va_rf v4), some (.int v5), none, none, none]) (by first | exact ⟨rfl, ⟨rfl, ⟨rfl, ⟨rfl, ⟨rfl, ⟨rfl, trivial⟩⟩⟩⟩⟩⟩ | simp [gsub]) (hb_1450 _ hf)
    · refine gg_aload_n C dL_law_1438 rfl ?_
      refine gg_iconst C dL_law_1439 (v := (0 : Int32)) (by decide) ?_
      refine gg_lald C dL_law_1440 hf (fun y7 hf => ?_)
      refine gg_iload C dL_law_1441 rfl ?_
      refine gg_i2l C dL_law_1443 ?_
      refine gg_lcmp C dL_law_1444 ?_
      refine gg_if_eq (tgt := 1450) C dL_law_1445 (by decide) hf (fun hf => ?_) (fun hf => ?_)
      · exact gg_sub (L' := [some (va_rf (some b)), some (va_rf v1), some (va_rf v2), some (va_rf v3), some (va_rf v4), some (.int v5), none, none, none]) (by first | exact ⟨rfl, ⟨rfl, ⟨rfl, ⟨rfl, ⟨rfl, ⟨rfl, trivial⟩⟩⟩⟩⟩⟩ | simp [gsub]) (hb_1450 _ hf)
      · refine gg_iconst C dL_law_1448 (v := (0 : Int32)) (by decide) ?_
        exact hf.elim
  · refine gg_iconst C dL_law_1431 (v := (0 : Int32)) (by decide) ?_
    exact hf.elim
