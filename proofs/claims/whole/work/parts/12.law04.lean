def w_L_law_b2115 (X : Cx) (xs : Nat → Int32) (Ls b : Nat) (kI : GM → Prop) (v1 v2 v3 v4 : Option Nat) (v5 : Int32)  (g : GM) : Prop :=
  kI g
def w_law_30 (X : Cx) (xs : Nat → Int32) (Ls b : Nat) (kI : GM → Prop) (v1 v2 v3 v4 : Option Nat) (v5 : Int32) (g : GM) : Prop :=
  w_L_worstGroup X (fun (i2 : Int32) (g1 : GM) => wIs g1 v2 8 (w_X8_worstGroup X (fun (i4 : Int32) (g3 : GM) => wIs g3 v2 8 (w_X8_thrown X (fun (i6 : Int32) (g5 : GM) => (if i6 = i2 then (if i2 = 0 then wAldJ g5 v3 (0 : Int32) (fun (y7 : Int64) => (if (lg_cmp y7 ((i4).toInt64)) = 0 then w_L_law_b2115 X xs Ls b kI v1 v2 v3 v4 v5 g5 else False)) else w_L_law_b2115 X xs Ls b kI v1 v2 v3 v4 v5 g5) else False)) (fun _ _ => False) v2 g3)) (fun _ _ => False) v2 g1)) (fun _ _ => False) v1 v3 g
set_option maxHeartbeats 4000000 in
set_option maxRecDepth 100000 in
theorem lc_30 {X : Cx} {p : Program} {l : Launch} {e : Env} {s : State} {m : MethodId} {args : Array Value} {below : List Frame} {meth : Method} {c : Code} {Q : State → Prop} {b Ls : Nat} {xs : Nat → Int32} (hfl : l.stackTraces = false) (C : FC X p l s m args meth c code 9 "ReleasetrainLaw") (hX : va_X b Ls xs s s.heap) (hbl : b < s.heap.size) (hbA : ¬ gA X b) {k n : Nat} (hk : k + 60 ≤ 603072) (hn : n + 4000 ≤ 7186538) {v1 v2 v3 v4 : Option Nat} {v5 : Int32} {kI : GM → Prop} (hkI : ∀ g, kI g → GG X p l e room_1 s m args below meth c 9 Q (k + 60) (n + 4000) 2917 [some (va_rf (some b)), some (va_rf v1), some (va_rf v2), some (va_rf v3), some (va_rf v4), some (.int v5), none, none, none] [] g) {g : GM} (hf : w_law_30 X xs Ls b kI v1 v2 v3 v4 v5 g) : GG X p l e room_1 s m args below meth c 9 Q k n 2074 [some (va_rf (some b)), some (va_rf v1), some (va_rf v2), some (va_rf v3), some (va_rf v4), some (.int v5), none, none, none] [] g := by
  have hb_2115 : ∀  (g : GM), w_L_law_b2115 X xs Ls b kI v1 v2 v3 v4 v5  g → GG X p l e room_1 s m args below meth c 9 Q (k + 1) (n + 6) 2115 [some (va_rf (some b)), some (va_rf v1), some (va_rf v2), some (va_rf v3), some (va_rf v4), some (.int v5), none, none, none] [] g := by
    intro  g hf
    unfold w_L_law_b2115 at hf
    refine gg_goto (tgt := 2917) C dL_law_2115 (by decide) ?_
    exact gg_widen (k' := k + 60) (n' := n + 4000) (by omega) (by omega) (hkI _ hf)
  unfold w_law_30 at hf
  refine gg_aload_n C dL_law_2074 rfl ?_
  refine gg_aload_n C dL_law_2075 rfl ?_
  refine gr_I (k' := k + 1) (n' := n + 6) (gk_SW (As := [va_rf v1, va_rf v3]) (rest := []) C dL_law_2076 tw_1016 tw_1017 tw_46 tw_1018 gd_L_worstGroup rfl ⟨by decide, by decide⟩ (by simp [gcat, gcI, gcL, gcF, gcD]) ⟨(by show k + 1 ≤ 603072; omega), (by show n + 6 ≤ 7186538; omega)⟩ (m_L_worstGroup hfl hf)) rfl rfl (fun E g9 h9 => h9.elim) (fun i2 g1 hf => ?_)
  refine gg_istore (L' := [some (va_rf (some b)), some (va_rf v1), some (va_rf v2), some (va_rf v3), some (va_rf v4), some (.int v5), some (.int i2), none, none]) C dL_law_2079 (Or.inr (Or.inr ⟨_, rfl, rfl⟩)) (by decide) rfl ?_
  refine gg_aload_n C dL_law_2081 rfl ?_
  refine gr_I (k' := k + 1) (n' := n + 6) (gk_V (ci := 8) (As := []) (rest := []) C dL_law_2082 rfl rfl tw_1796 tw_1797 tw_1798 tw_56 tw_1799 gd_X8_worstGroup rfl ⟨by decide, by decide⟩ (by simp [gcat, gcI, gcL, gcF, gcD]) ⟨(by show k + 1 + 0 ≤ 603072; omega), (by show n + 6 + 0 ≤ 7186538; omega)⟩ hf (fun hf => m_X8_worstGroup hfl hf)) rfl rfl (fun E g9 h9 => h9.elim) (fun i4 g3 hf => ?_)
  refine gg_istore (L' := [some (va_rf (some b)), some (va_rf v1), some (va_rf v2), some (va_rf v3), some (va_rf v4), some (.int v5), some (.int i2), some (.int i4), none]) C dL_law_2085 (Or.inr (Or.inr ⟨_, rfl, rfl⟩)) (by decide) rfl ?_
  refine gg_aload_n C dL_law_2087 rfl ?_
  refine gr_I (k' := k + 1) (n' := n + 6) (gk_V (ci := 8) (As := []) (rest := []) C dL_law_2088 rfl rfl tw_1572 tw_1573 tw_1574 tw_56 tw_1575 gd_X8_thrown rfl ⟨by decide, by decide⟩ (by simp [gcat, gcI, gcL, gcF, gcD]) ⟨(by show k + 1 + 0 ≤ 603072; omega), (by show n + 6 + 0 ≤ 7186538; omega)⟩ hf (fun hf => m_X8_thrown hfl hf)) rfl rfl (fun E g9 h9 => h9.elim) (fun i6 g5 hf => ?_)
  refine gg_iload C dL_law_2091 rfl ?_
  refine gg_icmp_eq (tgt := 2098) C dL_law_2093 (by decide) hf (fun hf => ?_) (fun hf => ?_)
  · refine gg_iload C dL_law_2098 rfl ?_
    refine gg_if_ne (tgt := 2115) C dL_law_2100 (by decide) hf (fun hf => ?_) (fun hf => ?_)
    · exact gg_sub (L' := [some (va_rf (some b)), some (va_rf v1), some (va_rf v2), some (va_rf v3), some (va_rf v4), some (.int v5), none, none, none]) (by first | exact ⟨rfl, ⟨rfl, ⟨rfl, ⟨rfl, ⟨rfl, ⟨rfl, trivial⟩⟩⟩⟩⟩⟩ | simp [gsub]) (hb_2115 _ hf)
    · refine gg_aload_n C dL_law_2103 rfl ?_
      refine gg_iconst C dL_law_2104 (v := (0 : Int32)) (by decide) ?_
      refine gg_lald C dL_law_2105 hf (fun y7 hf => ?_)
      refine gg_iload C dL_law_2106 rfl ?_
      refine gg_i2l C dL_law_2108 ?_
      refine gg_lcmp C dL_law_2109 ?_
      refine gg_if_eq (tgt := 2115) C dL_law_2110 (by decide) hf (fun hf => ?_) (fun hf => ?_)
      · exact gg_sub (L' := [some (va_rf (some b)), some (va_rf v1), some (va_rf v2), some (va_rf v3), some (va_rf v4), some (.int v5), none, none, none]) (by first | exact ⟨rfl, ⟨rfl, ⟨rfl, ⟨rfl, ⟨rfl, ⟨rfl, trivial⟩⟩⟩⟩⟩⟩ | simp [gsub]) (hb_2115 _ hf)
      · refine gg_iconst C dL_law_2113 (v := (0 : Int32)) (by decide) ?_
        exact hf.elim
  · refine gg_iconst C dL_law_2096 (v := (0 : Int32)) (by decide) ?_
    exact hf.elim

def w_L_law_b2171 (X : Cx) (xs : Nat → Int32) (Ls b : Nat) (kI : GM → Prop) (v1 v2 v3 v4 : Option Nat) (v5 : Int32)  (g : GM) : Prop :=
  kI g
def w_law_31 (X : Cx) (xs : Nat → Int32) (Ls b : Nat) (kI : GM → Prop) (v1 v2 v3 v4 : Option Nat) (v5 : Int32) (g : GM) : Prop :=
  (vp_in (v5 + (1 : Int32)) Ls ∧ w_L_buildsIn X (fun (i2 : Int32) (g1 : GM) => (vp_in (v5 + (1 : Int32)) Ls ∧ wIs g1 v2 8 (w_X8_buildsIn X (fun (i4 : Int32) (g3 : GM) => wIs g3 v2 8 (w_X8_thrown X (fun (i6 : Int32) (g5 : GM) => (if i6 = i2 then (if i2 = 0 then wAldJ g5 v3 (0 : Int32) (fun (y7 : Int64) => (if (lg_cmp y7 ((i4).toInt64)) = 0 then w_L_law_b2171 X xs Ls b kI v1 v2 v3 v4 v5 g5 else False)) else w_L_law_b2171 X xs Ls b kI v1 v2 v3 v4 v5 g5) else False)) (fun _ _ => False) v2 g3)) (fun _ _ => False) v2 (xs ((v5 + (1 : Int32))).toNatClampNeg) g1))) (fun _ _ => False) v1 (xs ((v5 + (1 : Int32))).toNatClampNeg) v3 g)
set_option maxHeartbeats 4000000 in
set_option maxRecDepth 100000 in
theorem lc_31 {X : Cx} {p : Program} {l : Launch} {e : Env} {s : State} {m : MethodId} {args : Array Value} {below : List Frame} {meth : Method} {c : Code} {Q : State → Prop} {b Ls : Nat} {xs : Nat → Int32} (hfl : l.stackTraces = false) (C : FC X p l s m args meth c code 9 "ReleasetrainLaw") (hX : va_X b Ls xs s s.heap) (hbl : b < s.heap.size) (hbA : ¬ gA X b) {k n : Nat} (hk : k + 60 ≤ 603072) (hn : n + 4000 ≤ 7186538) {v1 v2 v3 v4 : Option Nat} {v5 : Int32} {kI : GM → Prop} (hkI : ∀ g, kI g → GG X p l e room_1 s m args below meth c 9 Q (k + 60) (n + 4000) 2917 [some (va_rf (some b)), some (va_rf v1), some (va_rf v2), some (va_rf v3), some (va_rf v4), some (.int v5), none, none, none] [] g) {g : GM} (hf : w_law_31 X xs Ls b kI v1 v2 v3 v4 v5 g) : GG X p l e room_1 s m args below meth c 9 Q k n 2118 [some (va_rf (some b)), some (va_rf v1), some (va_rf v2), some (va_rf v3), some (va_rf v4), some (.int v5), none, none, none] [] g := by
  have hb_2171 : ∀  (g : GM), w_L_law_b2171 X xs Ls b kI v1 v2 v3 v4 v5  g → GG X p l e room_1 s m args below meth c 9 Q (k + 1) (n + 6) 2171 [some (va_rf (some b)), some (va_rf v1), some (va_rf v2), some (va_rf v3), some (va_rf v4), some (.int v5), none, none, none] [] g := by
    intro  g hf
    unfold w_L_law_b2171 at hf
    refine gg_goto (tgt := 2917) C dL_law_2171 (by decide) ?_
    exact gg_widen (k' := k + 60) (n' := n + 4000) (by omega) (by omega) (hkI _ hf)
  unfold w_law_31 at hf
  refine gg_aload_n C dL_law_2118 rfl ?_
  refine gg_aload_n C dL_law_2119 rfl ?_
  refine gg_iload C dL_law_2120 rfl ?_
  refine gg_iconst C dL_law_2122 (v := (1 : Int32)) (by decide) ?_
  refine gg_iadd C dL_law_2123 ?_
  refine gg_sld C hX hbl hbA dL_law_2124 hf.1 ?_
  replace hf := hf.2
  refine gg_aload_n C dL_law_2125 rfl ?_
  refine gr_I (k' := k + 1) (n' := n + 6) (gk_SW (As := [va_rf v1, .int (xs ((v5 + (1 : Int32))).toNatClampNeg), va_rf v3]) (rest := []) C dL_law_2126 tw_1028 tw_1029 tw_46 tw_1030 gd_L_buildsIn rfl ⟨by decide, by decide⟩ (by simp [gcat, gcI, gcL, gcF, gcD]) ⟨(by show k + 1 ≤ 603072; omega), (by show n + 6 ≤ 7186538; omega)⟩ (m_L_buildsIn hfl hf)) rfl rfl (fun E g9 h9 => h9.elim) (fun i2 g1 hf => ?_)
  refine gg_istore (L' := [some (va_rf (some b)), some (va_rf v1), some (va_rf v2), some (va_rf v3), some (va_rf v4), some (.int v5), some (.int i2), none, none]) C dL_law_2129 (Or.inr (Or.inr ⟨_, rfl, rfl⟩)) (by decide) rfl ?_
  refine gg_aload_n C dL_law_2131 rfl ?_
  refine gg_aload_n C dL_law_2132 rfl ?_
  refine gg_iload C dL_law_2133 rfl ?_
  refine gg_iconst C dL_law_2135 (v := (1 : Int32)) (by decide) ?_
  refine gg_iadd C dL_law_2136 ?_
  refine gg_sld C hX hbl hbA dL_law_2137 hf.1 ?_
  replace hf := hf.2
  refine gr_I (k' := k + 1) (n' := n + 6) (gk_V (ci := 8) (As := [.int (xs ((v5 + (1 : Int32))).toNatClampNeg)]) (rest := []) C dL_law_2138 rfl rfl tw_1800 tw_1801 tw_1802 tw_56 tw_1803 gd_X8_buildsIn rfl ⟨by decide, by decide⟩ (by simp [gcat, gcI, gcL, gcF, gcD]) ⟨(by show k + 1 + 0 ≤ 603072; omega), (by show n + 6 + 0 ≤ 7186538; omega)⟩ hf (fun hf => m_X8_buildsIn hfl hf)) rfl rfl (fun E g9 h9 => h9.elim) (fun i4 g3 hf => ?_)
  refine gg_istore (L' := [some (va_rf (some b)), some (va_rf v1), some (va_rf v2), some (va_rf v3), some (va_rf v4), some (.int v5), some (.int i2), some (.int i4), none]) C dL_law_2141 (Or.inr (Or.inr ⟨_, rfl, rfl⟩)) (by decide) rfl ?_
  refine gg_aload_n C dL_law_2143 rfl ?_
  refine gr_I (k' := k + 1) (n' := n + 6) (gk_V (ci := 8) (As := []) (rest := []) C dL_law_2144 rfl rfl tw_1572 tw_1573 tw_1574 tw_56 tw_1575 gd_X8_thrown rfl ⟨by decide, by decide⟩ (by simp [gcat, gcI, gcL, gcF, gcD]) ⟨(by show k + 1 + 0 ≤ 603072; omega), (by show n + 6 + 0 ≤ 7186538; omega)⟩ hf (fun hf => m_X8_thrown hfl hf)) rfl rfl (fun E g9 h9 => h9.elim) (fun i6 g5 hf => ?_)
  refine gg_iload C dL_law_2147 rfl ?_
  refine gg_icmp_eq (tgt := 2154) C dL_law_2149 (by decide) hf (fun hf => ?_) (fun hf => ?_)
  · refine gg_iload C dL_law_2154 rfl ?_
    refine gg_if_ne (tgt := 2171) C dL_law_2156 (by decide) hf (fun hf => ?_) (fun hf => ?_)
    · exact gg_sub (L' := [some (va_rf (some b)), some (va_rf v1), some (va_rf v2), some (va_rf v3), some (va_rf v4), some (.int v5), none, none, none]) (by first | exact ⟨rfl, ⟨rfl, ⟨rfl, ⟨rfl, ⟨rfl, ⟨rfl, trivial⟩⟩⟩⟩⟩⟩ | simp [gsub]) (hb_2171 _ hf)
    · refine gg_aload_n C dL_law_2159 rfl ?_
      refine gg_iconst C dL_law_2160 (v := (0 : Int32)) (by decide) ?_
      refine gg_lald C dL_law_2161 hf (fun y7 hf => ?_)
      refine gg_iload C dL_law_2162 rfl ?_
      refine gg_i2l C dL_law_2164 ?_
      refine gg_lcmp C dL_law_2165 ?_
      refine gg_if_eq (tgt := 2171) C dL_law_2166 (by decide) hf (fun hf => ?_) (fun hf => ?_)
      · exact gg_sub (L' := [some (va_rf (some b)), some (va_rf v1), some (va_rf v2), some (va_rf v3), some (va_rf v4), some (.int v5), none, none, none]) (by first | exact ⟨rfl, ⟨rfl, ⟨rfl, ⟨rfl, ⟨rfl, ⟨rfl, trivial⟩⟩⟩⟩⟩⟩ | simp [gsub]) (hb_2171 _ hf)
      · refine gg_iconst C dL_law_2169 (v := (0 : Int32)) (by decide) ?_
        exact hf.elim
  · refine gg_iconst C dL_law_2152 (v := (0 : Int32)) (by decide) ?_
    exact hf.elim

def w_L_law_b2227 (X : Cx) (xs : Nat → Int32) (Ls b : Nat) (kI : GM → Prop) (v1 v2 v3 v4 : Option Nat) (v5 : Int32)  (g : GM) : Prop :=
  kI g
def w_law_32 (X : Cx) (xs : Nat → Int32) (Ls b : Nat) (kI : GM → Prop) (v1 v2 v3 v4 : Option Nat) (v5 : Int32) (g : GM) : Prop :=
  (vp_in (v5 + (1 : Int32)) Ls ∧ w_L_setRate X (fun (i2 : Int32) (g1 : GM) => (vp_in (v5 + (1 : Int32)) Ls ∧ wIs g1 v2 8 (w_X8_setRate X (fun (i4 : Int32) (g3 : GM) => wIs g3 v2 8 (w_X8_thrown X (fun (i6 : Int32) (g5 : GM) => (if i6 = i2 then (if i2 = 0 then wAldJ g5 v3 (0 : Int32) (fun (y7 : Int64) => (if (lg_cmp y7 ((i4).toInt64)) = 0 then w_L_law_b2227 X xs Ls b kI v1 v2 v3 v4 v5 g5 else False)) else w_L_law_b2227 X xs Ls b kI v1 v2 v3 v4 v5 g5) else False)) (fun _ _ => False) v2 g3)) (fun _ _ => False) v2 (xs ((v5 + (1 : Int32))).toNatClampNeg) g1))) (fun _ _ => False) v1 (xs ((v5 + (1 : Int32))).toNatClampNeg) v3 g)
set_option maxHeartbeats 4000000 in
set_option maxRecDepth 100000 in
theorem lc_32 {X : Cx} {p : Program} {l : Launch} {e : Env} {s : State} {m : MethodId} {args : Array Value} {below : List Frame} {meth : Method} {c : Code} {Q : State → Prop} {b Ls : Nat} {xs : Nat → Int32} (hfl : l.stackTraces = false) (C : FC X p l s m args meth c code 9 "ReleasetrainLaw") (hX : va_X b Ls xs s s.heap) (hbl : b < s.heap.size) (hbA : ¬ gA X b) {k n : Nat} (hk : k + 60 ≤ 603072) (hn : n + 4000 ≤ 7186538) {v1 v2 v3 v4 : Option Nat} {v5 : Int32} {kI : GM → Prop} (hkI : ∀ g, kI g → GG X p l e room_1 s m args below meth c 9 Q (k + 60) (n + 4000) 2917 [some (va_rf (some b)), some (va_rf v1), some (va_rf v2), some (va_rf v3), some (va_rf v4), some (.int v5), none, none, none] [] g) {g : GM} (hf : w_law_32 X xs Ls b kI v1 v2 v3 v4 v5 g) : GG X p l e room_1 s m args below meth c 9 Q k n 2174 [some (va_rf (some b)), some (va_rf v1), some (va_rf v2), some (va_rf v3), some (va_rf v4), some (.int v5), none, none, none] [] g := by
  have hb_2227 : ∀  (g : GM), w_L_law_b2227 X xs Ls b kI v1 v2 v3 v4 v5  g → GG X p l e room_1 s m args below meth c 9 Q (k + 1) (n + 6) 2227 [some (va_rf (some b)), some (va_rf v1), some (va_rf v2), some (va_rf v3), some (va_rf v4), some (.int v5), none, none, none] [] g := by
    intro  g hf
    unfold w_L_law_b2227 at hf
    refine gg_goto (tgt := 2917) C dL_law_2227 (by decide) ?_
    exact gg_widen (k' := k + 60) (n' := n + 4000) (by omega) (by omega) (hkI _ hf)
  unfold w_law_32 at hf
  refine gg_aload_n C dL_law_2174 rfl ?_
  refine gg_aload_n C dL_law_2175 rfl ?_
  refine gg_iload C dL_law_2176 rfl ?_
  refine gg_iconst C dL_law_2178 (v := (1 : Int32)) (by decide) ?_
  refine gg_iadd C dL_law_2179 ?_
  refine gg_sld C hX hbl hbA dL_law_2180 hf.1 ?_
  replace hf := hf.2
  refine gg_aload_n C dL_law_2181 rfl ?_
  refine gr_I (k' := k + 1) (n' := n + 6) (gk_SW (As := [va_rf v1, .int (xs ((v5 + (1 : Int32))).toNatClampNeg), va_rf v3]) (rest := []) C dL_law_2182 tw_1035 tw_1036 tw_46 tw_1037 gd_L_setRate rfl ⟨by decide, by decide⟩ (by simp [gcat, gcI, gcL, gcF, gcD]) ⟨(by show k + 1 ≤ 603072; omega), (by show n + 6 ≤ 7186538; omega)⟩ (m_L_setRate hfl hf)) rfl rfl (fun E g9 h9 => h9.elim) (fun i2 g1 hf => ?_)
  refine gg_istore (L' := [some (va_rf (some b)), some (va_rf v1), some (va_rf v2), some (va_rf v3), some (va_rf v4), some (.int v5), some (.int i2), none, none]) C dL_law_2185 (Or.inr (Or.inr ⟨_, rfl, rfl⟩)) (by decide) rfl ?_
  refine gg_aload_n C dL_law_2187 rfl ?_
  refine gg_aload_n C dL_law_2188 rfl ?_
  refine gg_iload C dL_law_2189 rfl ?_
  refine gg_iconst C dL_law_2191 (v := (1 : Int32)) (by decide) ?_
  refine gg_iadd C dL_law_2192 ?_
  refine gg_sld C hX hbl hbA dL_law_2193 hf.1 ?_
  replace hf := hf.2
  refine gr_I (k' := k + 1) (n' := n + 6) (gk_V (ci := 8) (As := [.int (xs ((v5 + (1 : Int32))).toNatClampNeg)]) (rest := []) C dL_law_2194 rfl rfl tw_1804 tw_1805 tw_1806 tw_56 tw_1807 gd_X8_setRate rfl ⟨by decide, by decide⟩ (by simp [gcat, gcI, gcL, gcF, gcD]) ⟨(by show k + 1 + 0 ≤ 603072; omega), (by show n + 6 + 0 ≤ 7186538; omega)⟩ hf (fun hf => m_X8_setRate hfl hf)) rfl rfl (fun E g9 h9 => h9.elim) (fun i4 g3 hf => ?_)
  refine gg_istore (L' := [some (va_rf (some b)), some (va_rf v1), some (va_rf v2), some (va_rf v3), some (va_rf v4), some (.int v5), some (.int i2), some (.int i4), none]) C dL_law_2197 (Or.inr (Or.inr ⟨_, rfl, rfl⟩)) (by decide) rfl ?_
  refine gg_aload_n C dL_law_2199 rfl ?_
  refine gr_I (k' := k + 1) (n' := n + 6) (gk_V (ci := 8) (As := []) (rest := []) C dL_law_2200 rfl rfl tw_1572 tw_1573 tw_1574 tw_56 tw_1575 gd_X8_thrown rfl ⟨by decide, by decide⟩ (by simp [gcat, gcI, gcL, gcF, gcD]) ⟨(by show k + 1 + 0 ≤ 603072; omega), (by show n + 6 + 0 ≤ 7186538; omega)⟩ hf (fun hf => m_X8_thrown hfl hf)) rfl rfl (fun E g9 h9 => h9.elim) (fun i6 g5 hf => ?_)
  refine gg_iload C dL_law_2203 rfl ?_
  refine gg_icmp_eq (tgt := 2210) C dL_law_2205 (by decide) hf (fun hf => ?_) (fun hf => ?_)
  · refine gg_iload C dL_law_2210 rfl ?_
    refine gg_if_ne (tgt := 2227) C dL_law_2212 (by decide) hf (fun hf => ?_) (fun hf => ?_)
    · exact gg_sub (L' := [some (va_rf (some b)), some (va_rf v1), some (va_rf v2), some (va_rf v3), some (va_rf v4), some (.int v5), none, none, none]) (by first | exact ⟨rfl, ⟨rfl, ⟨rfl, ⟨rfl, ⟨rfl, ⟨rfl, trivial⟩⟩⟩⟩⟩⟩ | simp [gsub]) (hb_2227 _ hf)
    · refine gg_aload_n C dL_law_2215 rfl ?_
      refine gg_iconst C dL_law_2216 (v := (0 : Int32)) (by decide) ?_
      refine gg_lald C dL_law_2217 hf (fun y7 hf => ?_)
      refine gg_iload C dL_law_2218 rfl ?_
      refine gg_i2l C dL_law_2220 ?_
      refine gg_lcmp C dL_law_2221 ?_
      refine gg_if_eq (tgt := 2227) C dL_law_2222 (by decide) hf (fun hf => ?_) (fun hf => ?_)
      · exact gg_sub (L' := [some (va_rf (some b)), some (va_rf v1), some (va_rf v2), some (va_rf v3), some (va_rf v4), some (.int v5), none, none, none]) (by first | exact ⟨rfl, ⟨rfl, ⟨rfl, ⟨rfl, ⟨rfl, ⟨rfl, trivial⟩⟩⟩⟩⟩⟩ | simp [gsub]) (hb_2227 _ hf)
      · refine gg_iconst C dL_law_2225 (v := (0 : Int32)) (by decide) ?_
        exact hf.elim
  · refine gg_iconst C dL_law_2208 (v := (0 : Int32)) (by decide) ?_
    exact hf.elim

def w_L_law_b2305 (X : Cx) (xs : Nat → Int32) (Ls b : Nat) (kI : GM → Prop) (v1 v2 v3 v4 : Option Nat) (v5 : Int32)  (g : GM) : Prop :=
  kI g
def w_L_law_b2303 (X : Cx) (xs : Nat → Int32) (Ls b : Nat) (kI : GM → Prop) (v1 v2 v3 v4 : Option Nat) (v5 : Int32)  (g : GM) : Prop :=
  False
def w_law_33 (X : Cx) (xs : Nat → Int32) (Ls b : Nat) (kI : GM → Prop) (v1 v2 v3 v4 : Option Nat) (v5 : Int32) (g : GM) : Prop :=
  (vp_in (v5 + (1 : Int32)) Ls ∧ w_L_crashRate X (fun (i2 : Int32) (g1 : GM) => (vp_in (v5 + (1 : Int32)) Ls ∧ wIs g1 v2 8 (w_X8_crashRate X (fun (x4 : UInt32) (g3 : GM) => wIs g3 v2 8 (w_X8_thrown X (fun (i6 : Int32) (g5 : GM) => (if i6 = i2 then (if i2 = 0 then wAldD g5 v4 (0 : Int32) (fun (z7 : UInt64) => vf_n64 (FP.f2d x4) ∧ (if (Op.cmpValue (FP.dcmp z7 (FP.f2d x4)) .l) = 0 then w_L_law_b2305 X xs Ls b kI v1 v2 v3 v4 v5 g5 else wAldD g5 v4 (0 : Int32) (fun (z8 : UInt64) => wAldD g5 v4 (0 : Int32) (fun (z9 : UInt64) => (if (Op.cmpValue (FP.dcmp z8 z9) .l) = 0 then w_L_law_b2303 X xs Ls b kI v1 v2 v3 v4 v5 g5 else (if (Op.cmpValue (FP.fcmp x4 x4) .l) = 0 then w_L_law_b2303 X xs Ls b kI v1 v2 v3 v4 v5 g5 else w_L_law_b2305 X xs Ls b kI v1 v2 v3 v4 v5 g5)))))) else w_L_law_b2305 X xs Ls b kI v1 v2 v3 v4 v5 g5) else False)) (fun _ _ => False) v2 g3)) (fun _ _ => False) v2 (xs ((v5 + (1 : Int32))).toNatClampNeg) g1))) (fun _ _ => False) v1 (xs ((v5 + (1 : Int32))).toNatClampNeg) v4 g)
set_option maxHeartbeats 4000000 in
set_option maxRecDepth 100000 in
theorem lc_33 {X : Cx} {p : Program} {l : Launch} {e : Env} {s : State} {m : MethodId} {args : Array Value} {below : List Frame} {meth : Method} {c : Code} {Q : State → Prop} {b Ls : Nat} {xs : Nat → Int32} (hfl : l.stackTraces = false) (C : FC X p l s m args meth c code 9 "ReleasetrainLaw") (hX : va_X b Ls xs s s.heap) (hbl : b < s.heap.size) (hbA : ¬ gA X b) {k n : Nat} (hk : k + 60 ≤ 603072) (hn : n + 4000 ≤ 7186538) {v1 v2 v3 v4 : Option Nat} {v5 : Int32} {kI : GM → Prop} (hkI : ∀ g, kI g → GG X p l e room_1 s m args below meth c 9 Q (k + 60) (n + 4000) 2917 [some (va_rf (some b)), some (va_rf v1), some (va_rf v2), some (va_rf v3), some (va_rf v4), some (.int v5), none, none, none] [] g) {g : GM} (hf : w_law_33 X xs Ls b kI v1 v2 v3 v4 v5 g) : GG X p l e room_1 s m args below meth c 9 Q k n 2230 [some (va_rf (some b)), some (va_rf v1), some (va_rf v2), some (va_rf v3), some (va_rf v4), some (.int v5), none, none, none] [] g := by
  have hb_2305 : ∀  (g : GM), w_L_law_b2305 X xs Ls b kI v1 v2 v3 v4 v5  g → GG X p l e room_1 s m args below meth c 9 Q (k + 1) (n + 6) 2305 [some (va_rf (some b)), some (va_rf v1), some (va_rf v2), some (va_rf v3), some (va_rf v4), some (.int v5), none, none, none] [] g := by
    intro  g hf
    unfold w_L_law_b2305 at hf
    refine gg_goto (tgt := 2917) C dL_law_2305 (by decide) ?_
    exact gg_widen (k' := k + 60) (n' := n + 4000) (by omega) (by omega) (hkI _ hf)
  have hb_2303 : ∀  (g : GM), w_L_law_b2303 X xs Ls b kI v1 v2 v3 v4 v5  g → GG X p l e room_1 s m args below meth c 9 Q (k + 1) (n + 6) 2303 [some (va_rf (some b)), some (va_rf v1), some (va_rf v2), some (va_rf v3), some (va_rf v4), some (.int v5), none, none, none] [] g := by
    intro  g hf
    unfold w_L_law_b2303 at hf
    refine gg_iconst C dL_law_2303 (v := (0 : Int32)) (by decide) ?_
    exact hf.elim
  unfold w_law_33 at hf
  refine gg_aload_n C dL_law_2230 rfl ?_
  refine gg_aload_n C dL_law_2231 rfl ?_
  refine gg_iload C dL_law_2232 rfl ?_
  refine gg_iconst C dL_law_2234 (v := (1 : Int32)) (by decide) ?_
  refine gg_iadd C dL_law_2235 ?_
  refine gg_sld C hX hbl hbA dL_law_2236 hf.1 ?_
  replace hf := hf.2
  refine gg_aload C dL_law_2237 rfl ?_
  refine gr_I (k' := k + 1) (n' := n + 6) (gk_SW (As := [va_rf v1, .int (xs ((v5 + (1 : Int32))).toNatClampNeg), va_rf v4]) (rest := []) C dL_law_2239 tw_1042 tw_1043 tw_46 tw_1044 gd_L_crashRate rfl ⟨by decide, by decide⟩ (by simp [gcat, gcI, gcL, gcF, gcD]) ⟨(by show k + 1 ≤ 603072; omega), (by show n + 6 ≤ 7186538; omega)⟩ (m_L_crashRate hfl hf)) rfl rfl (fun E g9 h9 => h9.elim) (fun i2 g1 hf => ?_)
  refine gg_istore (L' := [some (va_rf (some b)), some (va_rf v1), some (va_rf v2), some (va_rf v3), some (va_rf v4), some (.int v5), some (.int i2), none, none]) C dL_law_2242 (Or.inr (Or.inr ⟨_, rfl, rfl⟩)) (by decide) rfl ?_
  refine gg_aload_n C dL_law_2244 rfl ?_
  refine gg_aload_n C dL_law_2245 rfl ?_
  refine gg_iload C dL_law_2246 rfl ?_
  refine gg_iconst C dL_law_2248 (v := (1 : Int32)) (by decide) ?_
  refine gg_iadd C dL_law_2249 ?_
  refine gg_sld C hX hbl hbA dL_law_2250 hf.1 ?_
  replace hf := hf.2
  refine gr_F (k' := k + 1) (n' := n + 6) (gk_V (ci := 8) (As := [.int (xs ((v5 + (1 : Int32))).toNatClampNeg)]) (rest := []) C dL_law_2251 rfl rfl tw_1808 tw_1809 tw_1810 tw_56 tw_1811 gd_X8_crashRate rfl ⟨by decide, by decide⟩ (by simp [gcat, gcI, gcL, gcF, gcD]) ⟨(by show k + 1 + 0 ≤ 603072; omega), (by show n + 6 + 0 ≤ 7186538; omega)⟩ hf (fun hf => m_X8_crashRate hfl hf)) rfl rfl (fun E g9 h9 => h9.elim) (fun x4 g3 hf => ?_)
  refine gg_fstore (L' := [some (va_rf (some b)), some (va_rf v1), some (va_rf v2), some (va_rf v3), some (va_rf v4), some (.int v5), some (.int i2), some (.float x4), none]) C dL_law_2254 (Or.inr (Or.inr ⟨_, rfl, rfl⟩)) (by decide) rfl ?_
  refine gg_aload_n C dL_law_2256 rfl ?_
  refine gr_I (k' := k + 1) (n' := n + 6) (gk_V (ci := 8) (As := []) (rest := []) C dL_law_2257 rfl rfl tw_1572 tw_1573 tw_1574 tw_56 tw_1575 gd_X8_thrown rfl ⟨by decide, by decide⟩ (by simp [gcat, gcI, gcL, gcF, gcD]) ⟨(by show k + 1 + 0 ≤ 603072; omega), (by show n + 6 + 0 ≤ 7186538; omega)⟩ hf (fun hf => m_X8_thrown hfl hf)) rfl rfl (fun E g9 h9 => h9.elim) (fun i6 g5 hf => ?_)
  refine gg_iload C dL_law_2260 rfl ?_
  refine gg_icmp_eq (tgt := 2267) C dL_law_2262 (by decide) hf (fun hf => ?_) (fun hf => ?_)
  · refine gg_iload C dL_law_2267 rfl ?_
    refine gg_if_ne (tgt := 2305) C dL_law_2269 (by decide) hf (fun hf => ?_) (fun hf => ?_)
    · exact gg_sub (L' := [some (va_rf (some b)), some (va_rf v1), some (va_rf v2), some (va_rf v3), some (va_rf v4), some (.int v5), none, none, none]) (by first | exact ⟨rfl, ⟨rfl, ⟨rfl, ⟨rfl, ⟨rfl, ⟨rfl, trivial⟩⟩⟩⟩⟩⟩ | simp [gsub]) (hb_2305 _ hf)
    · refine gg_aload C dL_law_2272 rfl ?_
      refine gg_iconst C dL_law_2274 (v := (0 : Int32)) (by decide) ?_
      refine gg_dald C dL_law_2275 hf (fun z7 hf => ?_)
      refine gg_fload C dL_law_2276 rfl ?_
      refine gg_f2d C dL_law_2278 hf.1 ?_
      replace hf := hf.2
      refine gg_dcmp C dL_law_2279 ?_
      refine gg_if_eq (tgt := 2305) C dL_law_2280 (by decide) hf (fun hf => ?_) (fun hf => ?_)
      · exact gg_sub (L' := [some (va_rf (some b)), some (va_rf v1), some (va_rf v2), some (va_rf v3), some (va_rf v4), some (.int v5), none, none, none]) (by first | exact ⟨rfl, ⟨rfl, ⟨rfl, ⟨rfl, ⟨rfl, ⟨rfl, trivial⟩⟩⟩⟩⟩⟩ | simp [gsub]) (hb_2305 _ hf)
      · refine gg_aload C dL_law_2283 rfl ?_
        refine gg_iconst C dL_law_2285 (v := (0 : Int32)) (by decide) ?_
        refine gg_dald C dL_law_2286 hf (fun z8 hf => ?_)
        refine gg_aload C dL_law_2287 rfl ?_
        refine gg_iconst C dL_law_2289 (v := (0 : Int32)) (by decide) ?_
        refine gg_dald C dL_law_2290 hf (fun z9 hf => ?_)
        refine gg_dcmp C dL_law_2291 ?_
        refine gg_if_eq (tgt := 2303) C dL_law_2292 (by decide) hf (fun hf => ?_) (fun hf => ?_)
        · exact gg_sub (L' := [some (va_rf (some b)), some (va_rf v1), some (va_rf v2), some (va_rf v3), some (va_rf v4), some (.int v5), none, none, none]) (by first | exact ⟨rfl, ⟨rfl, ⟨rfl, ⟨rfl, ⟨rfl, ⟨rfl, trivial⟩⟩⟩⟩⟩⟩ | simp [gsub]) (hb_2303 _ hf)
        · refine gg_fload C dL_law_2295 rfl ?_
          refine gg_fload C dL_law_2297 rfl ?_
          refine gg_fcmp C dL_law_2299 ?_
          refine gg_if_ne (tgt := 2305) C dL_law_2300 (by decide) hf (fun hf => ?_) (fun hf => ?_)
          · exact gg_sub (L' := [some (va_rf (some b)), some (va_rf v1), some (va_rf v2), some (va_rf v3), some (va_rf v4), some (.int v5), none, none, none]) (by first | exact ⟨rfl, ⟨rfl, ⟨rfl, ⟨rfl, ⟨rfl, ⟨rfl, trivial⟩⟩⟩⟩⟩⟩ | simp [gsub]) (hb_2305 _ hf)
          · exact gg_sub (L' := [some (va_rf (some b)), some (va_rf v1), some (va_rf v2), some (va_rf v3), some (va_rf v4), some (.int v5), none, none, none]) (by first | exact ⟨rfl, ⟨rfl, ⟨rfl, ⟨rfl, ⟨rfl, ⟨rfl, trivial⟩⟩⟩⟩⟩⟩ | simp [gsub]) (hb_2303 _ hf)
  · refine gg_iconst C dL_law_2265 (v := (0 : Int32)) (by decide) ?_
    exact hf.elim

def w_L_law_b2373 (X : Cx) (xs : Nat → Int32) (Ls b : Nat) (kI : GM → Prop) (v1 v2 v3 v4 : Option Nat) (v5 : Int32)  (g : GM) : Prop :=
  kI g
def w_law_34 (X : Cx) (xs : Nat → Int32) (Ls b : Nat) (kI : GM → Prop) (v1 v2 v3 v4 : Option Nat) (v5 : Int32) (g : GM) : Prop :=
  (vp_in (v5 + (1 : Int32)) Ls ∧ (vp_in (v5 + (2 : Int32)) Ls ∧ w_L_rate X (fun (i2 : Int32) (g1 : GM) => (vp_in (v5 + (1 : Int32)) Ls ∧ (vp_in (v5 + (2 : Int32)) Ls ∧ wIs g1 v2 8 (w_X8_rate X (fun (i4 : Int32) (g3 : GM) => wIs g3 v2 8 (w_X8_thrown X (fun (i6 : Int32) (g5 : GM) => (if i6 = i2 then (if i2 = 0 then wAldJ g5 v3 (0 : Int32) (fun (y7 : Int64) => (if (lg_cmp y7 ((i4).toInt64)) = 0 then w_L_law_b2373 X xs Ls b kI v1 v2 v3 v4 v5 g5 else False)) else w_L_law_b2373 X xs Ls b kI v1 v2 v3 v4 v5 g5) else False)) (fun _ _ => False) v2 g3)) (fun _ _ => False) v2 (xs ((v5 + (1 : Int32))).toNatClampNeg) (xs ((v5 + (2 : Int32))).toNatClampNeg) g1)))) (fun _ _ => False) v1 (xs ((v5 + (1 : Int32))).toNatClampNeg) (xs ((v5 + (2 : Int32))).toNatClampNeg) v3 g))
set_option maxHeartbeats 4000000 in
set_option maxRecDepth 100000 in
theorem lc_34 {X : Cx} {p : Program} {l : Launch} {e : Env} {s : State} {m : MethodId} {args : Array Value} {below : List Frame} {meth : Method} {c : Code} {Q : State → Prop} {b Ls : Nat} {xs : Nat → Int32} (hfl : l.stackTraces = false) (C : FC X p l s m args meth c code 9 "ReleasetrainLaw") (hX : va_X b Ls xs s s.heap) (hbl : b < s.heap.size) (hbA : ¬ gA X b) {k n : Nat} (hk : k + 60 ≤ 603072) (hn : n + 4000 ≤ 7186538) {v1 v2 v3 v4 : Option Nat} {v5 : Int32} {kI : GM → Prop} (hkI : ∀ g, kI g → GG X p l e room_1 s m args below meth c 9 Q (k + 60) (n + 4000) 2917 [some (va_rf (some b)), some (va_rf v1), some (va_rf v2), some (va_rf v3), some (va_rf v4), some (.int v5), none, none, none] [] g) {g : GM} (hf : w_law_34 X xs Ls b kI v1 v2 v3 v4 v5 g) : GG X p l e room_1 s m args below meth c 9 Q k n 2308 [some (va_rf (some b)), some (va_rf v1), some (va_rf v2), some (va_rf v3), some (va_rf v4), some (.int v5), none, none, none] [] g := by
  have hb_2373 : ∀  (g : GM), w_L_law_b2373 X xs Ls b kI v1 v2 v3 v4 v5  g → GG X p l e room_1 s m args below meth c 9 Q (k + 2) (n + 12) 2373 [some (va_rf (some b)), some (va_rf v1), some (va_rf v2), some (va_rf v3), some (va_rf v4), some (.int v5), none, none, none] [] g := by
    intro  g hf
    unfold w_L_law_b2373 at hf
    refine gg_goto (tgt := 2917) C dL_law_2373 (by decide) ?_
    exact gg_widen (k' := k + 60) (n' := n + 4000) (by omega) (by omega) (hkI _ hf)
  unfold w_law_34 at hf
  refine gg_aload_n C dL_law_2308 rfl ?_
  refine gg_aload_n C dL_law_2309 rfl ?_
  refine gg_iload C dL_law_2310 rfl ?_
  refine gg_iconst C dL_law_2312 (v := (1 : Int32)) (by decide) ?_
  refine gg_iadd C dL_law_2313 ?_
  refine gg_sld C hX hbl hbA dL_law_2314 hf.1 ?_
  replace hf := hf.2
  refine gg_aload_n C dL_law_2315 rfl ?_
  refine gg_iload C dL_law_2316 rfl ?_
  refine gg_iconst C dL_law_2318 (v := (2 : Int32)) (by decide) ?_
  refine gg_iadd C dL_law_2319 ?_
  refine gg_sld C hX hbl hbA dL_law_2320 hf.1 ?_
  replace hf := hf.2
  refine gg_aload_n C dL_law_2321 rfl ?_
  refine gr_I (k' := k + 2) (n' := n + 12) (gk_SW (As := [va_rf v1, .int (xs ((v5 + (1 : Int32))).toNatClampNeg), .int (xs ((v5 + (2 : Int32))).toNatClampNeg), va_rf v3]) (rest := []) C dL_law_2322 tw_1049 tw_1050 tw_46 tw_1051 gd_L_rate rfl ⟨by decide, by decide⟩ (by simp [gcat, gcI, gcL, gcF, gcD]) ⟨(by show k + 2 ≤ 603072; omega), (by show n + 12 ≤ 7186538; omega)⟩ (m_L_rate hfl hf)) rfl rfl (fun E g9 h9 => h9.elim) (fun i2 g1 hf => ?_)
  refine gg_istore (L' := [some (va_rf (some b)), some (va_rf v1), some (va_rf v2), some (va_rf v3), some (va_rf v4), some (.int v5), some (.int i2), none, none]) C dL_law_2325 (Or.inr (Or.inr ⟨_, rfl, rfl⟩)) (by decide) rfl ?_
  refine gg_aload_n C dL_law_2327 rfl ?_
  refine gg_aload_n C dL_law_2328 rfl ?_
  refine gg_iload C dL_law_2329 rfl ?_
  refine gg_iconst C dL_law_2331 (v := (1 : Int32)) (by decide) ?_
  refine gg_iadd C dL_law_2332 ?_
  refine gg_sld C hX hbl hbA dL_law_2333 hf.1 ?_
  replace hf := hf.2
  refine gg_aload_n C dL_law_2334 rfl ?_
  refine gg_iload C dL_law_2335 rfl ?_
  refine gg_iconst C dL_law_2337 (v := (2 : Int32)) (by decide) ?_
  refine gg_iadd C dL_law_2338 ?_
  refine gg_sld C hX hbl hbA dL_law_2339 hf.1 ?_
  replace hf := hf.2
  refine gr_I (k' := k + 2) (n' := n + 12) (gk_V (ci := 8) (As := [.int (xs ((v5 + (1 : Int32))).toNatClampNeg), .int (xs ((v5 + (2 : Int32))).toNatClampNeg)]) (rest := []) C dL_law_2340 rfl rfl tw_1812 tw_1813 tw_1814 tw_56 tw_1815 gd_X8_rate rfl ⟨by decide, by decide⟩ (by simp [gcat, gcI, gcL, gcF, gcD]) ⟨(by show k + 2 + 0 ≤ 603072; omega), (by show n + 12 + 0 ≤ 7186538; omega)⟩ hf (fun hf => m_X8_rate hfl hf)) rfl rfl (fun E g9 h9 => h9.elim) (fun i4 g3 hf => ?_)
  refine gg_istore (L' := [some (va_rf (some b)), some (va_rf v1), some (va_rf v2), some (va_rf v3), some (va_rf v4), some (.int v5), some (.int i2), some (.int i4), none]) C dL_law_2343 (Or.inr (Or.inr ⟨_, rfl, rfl⟩)) (by decide) rfl ?_
  refine gg_aload_n C dL_law_2345 rfl ?_
  refine gr_I (k' := k + 2) (n' := n + 12) (gk_V (ci := 8) (As := []) (rest := []) C dL_law_2346 rfl rfl tw_1572 tw_1573 tw_1574 tw_56 tw_1575 gd_X8_thrown rfl ⟨by decide, by decide⟩ (by simp [gcat, gcI, gcL, gcF, gcD]) ⟨(by show k + 2 + 0 ≤ 603072; omega), (by show n + 12 + 0 ≤ 7186538; omega)⟩ hf (fun hf => m_X8_thrown hfl hf)) rfl rfl (fun E g9 h9 => h9.elim) (fun i6 g5 hf => ?_)
  refine gg_iload C dL_law_2349 rfl ?_
  refine gg_icmp_eq (tgt := 2356) C dL_law_2351 (by decide) hf (fun hf => ?_) (fun hf => ?_)
  · refine gg_iload C dL_law_2356 rfl ?_
    refine gg_if_ne (tgt := 2373) C dL_law_2358 (by decide) hf (fun hf => ?_) (fun hf => ?_)
    · exact gg_sub (L' := [some (va_rf (some b)), some (va_rf v1), some (va_rf v2), some (va_rf v3), some (va_rf v4), some (.int v5), none, none, none]) (by first | exact ⟨rfl, ⟨rfl, ⟨rfl, ⟨rfl, ⟨rfl, ⟨rfl, trivial⟩⟩⟩⟩⟩⟩ | simp [gsub]) (hb_2373 _ hf)
    · refine gg_aload_n C dL_law_2361 rfl ?_
      refine gg_iconst C dL_law_2362 (v := (0 : Int32)) (by decide) ?_
      refine gg_lald C dL_law_2363 hf (fun y7 hf => ?_)
      refine gg_iload C dL_law_2364 rfl ?_
      refine gg_i2l C dL_law_2366 ?_
      refine gg_lcmp C dL_law_2367 ?_
      refine gg_if_eq (tgt := 2373) C dL_law_2368 (by decide) hf (fun hf => ?_) (fun hf => ?_)
      · exact gg_sub (L' := [some (va_rf (some b)), some (va_rf v1), some (va_rf v2), some (va_rf v3), some (va_rf v4), some (.int v5), none, none, none]) (by first | exact ⟨rfl, ⟨rfl, ⟨rfl, ⟨rfl, ⟨rfl, ⟨rfl, trivial⟩⟩⟩⟩⟩⟩ | simp [gsub]) (hb_2373 _ hf)
      · refine gg_iconst C dL_law_2371 (v := (0 : Int32)) (by decide) ?_
        exact hf.elim
  · refine gg_iconst C dL_law_2354 (v := (0 : Int32)) (by decide) ?_
    exact hf.elim

def w_L_law_b2450 (X : Cx) (xs : Nat → Int32) (Ls b : Nat) (kI : GM → Prop) (v1 v2 v3 v4 : Option Nat) (v5 : Int32)  (g : GM) : Prop :=
  kI g
def w_L_law_b2448 (X : Cx) (xs : Nat → Int32) (Ls b : Nat) (kI : GM → Prop) (v1 v2 v3 v4 : Option Nat) (v5 : Int32)  (g : GM) : Prop :=
  False
def w_law_35 (X : Cx) (xs : Nat → Int32) (Ls b : Nat) (kI : GM → Prop) (v1 v2 v3 v4 : Option Nat) (v5 : Int32) (g : GM) : Prop :=
  (vp_in (v5 + (1 : Int32)) Ls ∧ w_L_rating X (fun (i2 : Int32) (g1 : GM) => (vp_in (v5 + (1 : Int32)) Ls ∧ wIs g1 v2 8 (w_X8_rating X (fun (z4 : UInt64) (g3 : GM) => wIs g3 v2 8 (w_X8_thrown X (fun (i6 : Int32) (g5 : GM) => (if i6 = i2 then (if i2 = 0 then wAldD g5 v4 (0 : Int32) (fun (z7 : UInt64) => (if (Op.cmpValue (FP.dcmp z7 z4) .l) = 0 then w_L_law_b2450 X xs Ls b kI v1 v2 v3 v4 v5 g5 else wAldD g5 v4 (0 : Int32) (fun (z8 : UInt64) => wAldD g5 v4 (0 : Int32) (fun (z9 : UInt64) => (if (Op.cmpValue (FP.dcmp z8 z9) .l) = 0 then w_L_law_b2448 X xs Ls b kI v1 v2 v3 v4 v5 g5 else (if (Op.cmpValue (FP.dcmp z4 z4) .l) = 0 then w_L_law_b2448 X xs Ls b kI v1 v2 v3 v4 v5 g5 else w_L_law_b2450 X xs Ls b kI v1 v2 v3 v4 v5 g5)))))) else w_L_law_b2450 X xs Ls b kI v1 v2 v3 v4 v5 g5) else False)) (fun _ _ => False) v2 g3)) (fun _ _ => False) v2 (xs ((v5 + (1 : Int32))).toNatClampNeg) g1))) (fun _ _ => False) v1 (xs ((v5 + (1 : Int32))).toNatClampNeg) v4 g)
set_option maxHeartbeats 4000000 in
set_option maxRecDepth 100000 in
theorem lc_35 {X : Cx} {p : Program} {l : Launch} {e : Env} {s : State} {m : MethodId} {args : Array Value} {below : List Frame} {meth : Method} {c : Code} {Q : State → Prop} {b Ls : Nat} {xs : Nat → Int32} (hfl : l.stackTraces = false) (C : FC X p l s m args meth c code 9 "ReleasetrainLaw") (hX : va_X b Ls xs s s.heap) (hbl : b < s.heap.size) (hbA : ¬ gA X b) {k n : Nat} (hk : k + 60 ≤ 603072) (hn : n + 4000 ≤ 7186538) {v1 v2 v3 v4 : Option Nat} {v5 : Int32} {kI : GM → Prop} (hkI : ∀ g, kI g → GG X p l e room_1 s m args below meth c 9 Q (k + 60) (n + 4000) 2917 [some (va_rf (some b)), some (va_rf v1), some (va_rf v2), some (va_rf v3), some (va_rf v4), some (.int v5), none, none, none] [] g) {g : GM} (hf : w_law_35 X xs Ls b kI v1 v2 v3 v4 v5 g) : GG X p l e room_1 s m args below meth c 9 Q k n 2376 [some (va_rf (some b)), some (va_rf v1), some (va_rf v2), some (va_rf v3), some (va_rf v4), some (.int v5), none, none, none] [] g := by
  have hb_2450 : ∀  (g : GM), w_L_law_b2450 X xs Ls b kI v1 v2 v3 v4 v5  g → GG X p l e room_1 s m args below meth c 9 Q (k + 2) (n + 12) 2450 [some (va_rf (some b)), some (va_rf v1), some (va_rf v2), some (va_rf v3), some (va_rf v4), some (.int v5), none, none, none] [] g := by
    intro  g hf
    unfold w_L_law_b2450 at hf
    refine gg_goto (tgt := 2917) C dL_law_2450 (by decide) ?_
    exact gg_widen (k' := k + 60) (n' := n + 4000) (by omega) (by omega) (hkI _ hf)
  have hb_2448 : ∀  (g : GM), w_L_law_b2448 X xs Ls b kI v1 v2 v3 v4 v5  g → GG X p l e room_1 s m args below meth c 9 Q (k + 2) (n + 12) 2448 [some (va_rf (some b)), some (va_rf v1), some (va_rf v2), some (va_rf v3), some (va_rf v4), some (.int v5), none, none, none] [] g := by
    intro  g hf
    unfold w_L_law_b2448 at hf
    refine gg_iconst C dL_law_2448 (v := (0 : Int32)) (by decide) ?_
    exact hf.elim
  unfold w_law_35 at hf
  refine gg_aload_n C dL_law_2376 rfl ?_
  refine gg_aload_n C dL_law_2377 rfl ?_
  refine gg_iload C dL_law_2378 rfl ?_
  refine gg_iconst C dL_law_2380 (v := (1 : Int32)) (by decide) ?_
  refine gg_iadd C dL_law_2381 ?_
  refine gg_sld C hX hbl hbA dL_law_2382 hf.1 ?_
  replace hf := hf.2
  refine gg_aload C dL_law_2383 rfl ?_
  refine gr_I (k' := k + 2) (n' := n + 12) (gk_SW (As := [va_rf v1, .int (xs ((v5 + (1 : Int32))).toNatClampNeg), va_rf v4]) (rest := []) C dL_law_2385 tw_1057 tw_1058 tw_46 tw_1059 gd_L_rating rfl ⟨by decide, by decide⟩ (by simp [gcat, gcI, gcL, gcF, gcD]) ⟨(by show k + 2 ≤ 603072; omega), (by show n + 12 ≤ 7186538; omega)⟩ (m_L_rating hfl hf)) rfl rfl (fun E g9 h9 => h9.elim) (fun i2 g1 hf => ?_)
  refine gg_istore (L' := [some (va_rf (some b)), some (va_rf v1), some (va_rf v2), some (va_rf v3), some (va_rf v4), some (.int v5), some (.int i2), none, none]) C dL_law_2388 (Or.inr (Or.inr ⟨_, rfl, rfl⟩)) (by decide) rfl ?_
  refine gg_aload_n C dL_law_2390 rfl ?_
  refine gg_aload_n C dL_law_2391 rfl ?_
  refine gg_iload C dL_law_2392 rfl ?_
  refine gg_iconst C dL_law_2394 (v := (1 : Int32)) (by decide) ?_
  refine gg_iadd C dL_law_2395 ?_
  refine gg_sld C hX hbl hbA dL_law_2396 hf.1 ?_
  replace hf := hf.2
  refine gr_D (k' := k + 2) (n' := n + 12) (gk_V (ci := 8) (As := [.int (xs ((v5 + (1 : Int32))).toNatClampNeg)]) (rest := []) C dL_law_2397 rfl rfl tw_1816 tw_1817 tw_1818 tw_56 tw_1819 gd_X8_rating rfl ⟨by decide, by decide⟩ (by simp [gcat, gcI, gcL, gcF, gcD]) ⟨(by show k + 2 + 0 ≤ 603072; omega), (by show n + 12 + 0 ≤ 7186538; omega)⟩ hf (fun hf => m_X8_rating hfl hf)) rfl rfl (fun E g9 h9 => h9.elim) (fun z4 g3 hf => ?_)
  refine gg_dstore (L' := [some (va_rf (some b)), some (va_rf v1), some (va_rf v2), some (va_rf v3), some (va_rf v4), some (.int v5), some (.int i2), some (.double z4), none]) C dL_law_2400 (Or.inr (Or.inr ⟨_, rfl, rfl⟩)) (by decide) rfl ?_
  refine gg_aload_n C dL_law_2402 rfl ?_
  refine gr_I (k' := k + 2) (n' := n + 12) (gk_V (ci := 8) (As := []) (rest := []) C dL_law_2403 rfl rfl tw_1572 tw_1573 tw_1574 tw_56 tw_1575 gd_X8_thrown rfl ⟨by decide, by decide⟩ (by simp [gcat, gcI, gcL, gcF, gcD]) ⟨(by show k + 2 + 0 ≤ 603072; omega), (by show n + 12 + 0 ≤ 7186538; omega)⟩ hf (fun hf => m_X8_thrown hfl hf)) rfl rfl (fun E g9 h9 => h9.elim) (fun i6 g5 hf => ?_)
  refine gg_iload C dL_law_2406 rfl ?_
  refine gg_icmp_eq (tgt := 2413) C dL_law_2408 (by decide) hf (fun hf => ?_) (fun hf => ?_)
  · refine gg_iload C dL_law_2413 rfl ?_
    refine gg_if_ne (tgt := 2450) C dL_law_2415 (by decide) hf (fun hf => ?_) (fun hf => ?_)
    · exact gg_sub (L' := [some (va_rf (some b)), some (va_rf v1), some (va_rf v2), some (va_rf v3), some (va_rf v4), some (.int v5), none, none, none]) (by first | exact ⟨rfl, ⟨rfl, ⟨rfl, ⟨rfl, ⟨rfl, ⟨rfl, trivial⟩⟩⟩⟩⟩⟩ | simp [gsub]) (hb_2450 _ hf)
    · refine gg_aload C dL_law_2418 rfl ?_
      refine gg_iconst C dL_law_2420 (v := (0 : Int32)) (by decide) ?_
      refine gg_dald C dL_law_2421 hf (fun z7 hf => ?_)
      refine gg_dload C dL_law_2422 rfl ?_
      refine gg_dcmp C dL_law_2424 ?_
      refine gg_if_eq (tgt := 2450) C dL_law_2425 (by decide) hf (fun hf => ?_) (fun hf => ?_)
      · exact gg_sub (L' := [some (va_rf (some b)), some (va_rf v1), some (va_rf v2), some (va_rf v3), some (va_rf v4), some (.int v5), none, none, none]) (by first | exact ⟨rfl, ⟨rfl, ⟨rfl, ⟨rfl, ⟨rfl, ⟨rfl, trivial⟩⟩⟩⟩⟩⟩ | simp [gsub]) (hb_2450 _ hf)
      · refine gg_aload C dL_law_2428 rfl ?_
        refine gg_iconst C dL_law_2430 (v := (0 : Int32)) (by decide) ?_
        refine gg_dald C dL_law_2431 hf (fun z8 hf => ?_)
        refine gg_aload C dL_law_2432 rfl ?_
        refine gg_iconst C dL_law_2434 (v := (0 : Int32)) (by decide) ?_
        refine gg_dald C dL_law_2435 hf (fun z9 hf => ?_)
        refine gg_dcmp C dL_law_2436 ?_
        refine gg_if_eq (tgt := 2448) C dL_law_2437 (by decide) hf (fun hf => ?_) (fun hf => ?_)
        · exact gg_sub (L' := [some (va_rf (some b)), some (va_rf v1), some (va_rf v2), some (va_rf v3), some (va_rf v4), some (.int v5), none, none, none]) (by first | exact ⟨rfl, ⟨rfl, ⟨rfl, ⟨rfl, ⟨rfl, ⟨rfl, trivial⟩⟩⟩⟩⟩⟩ | simp [gsub]) (hb_2448 _ hf)
        · refine gg_dload C dL_law_2440 rfl ?_
          refine gg_dload C dL_law_2442 rfl ?_
          refine gg_dcmp C dL_law_2444 ?_
          refine gg_if_ne (tgt := 2450) C dL_law_2445 (by decide) hf (fun hf => ?_) (fun hf => ?_)
          · exact gg_sub (L' := [some (va_rf (some b)), some (va_rf v1), some (va_rf v2), some (va_rf v3), some (va_rf v4), some (.int v5), none, none, none]) (by first | exact ⟨rfl, ⟨rfl, ⟨rfl, ⟨rfl, ⟨rfl, ⟨rfl, trivial⟩⟩⟩⟩⟩⟩ | simp [gsub]) (hb_2450 _ hf)
          · exact gg_sub (L' := [some (va_rf (some b)), some (va_rf v1), some (va_rf v2), some (va_rf v3), some (va_rf v4), some (.int v5), none, none, none]) (by first | exact ⟨rfl, ⟨rfl, ⟨rfl, ⟨rfl, ⟨rfl, ⟨rfl, trivial⟩⟩⟩⟩⟩⟩ | simp [gsub]) (hb_2448 _ hf)
  · refine gg_iconst C dL_law_2411 (v := (0 : Int32)) (by decide) ?_
    exact hf.elim

def w_L_law_b2505 (X : Cx) (xs : Nat → Int32) (Ls b : Nat) (kI : GM → Prop) (v1 v2 v3 v4 : Option Nat) (v5 : Int32)  (g : GM) : Prop :=
  kI g
def w_law_36 (X : Cx) (xs : Nat → Int32) (Ls b : Nat) (kI : GM → Prop) (v1 v2 v3 v4 : Option Nat) (v5 : Int32) (g : GM) : Prop :=
  (vp_in (v5 + (1 : Int32)) Ls ∧ w_L_ratingBits X (fun (i2 : Int32) (g1 : GM) => (vp_in (v5 + (1 : Int32)) Ls ∧ wIs g1 v2 8 (w_X8_ratingBits X (fun (y4 : Int64) (g3 : GM) => wIs g3 v2 8 (w_X8_thrown X (fun (i6 : Int32) (g5 : GM) => (if i6 = i2 then (if i2 = 0 then wAldJ g5 v3 (0 : Int32) (fun (y7 : Int64) => (if (lg_cmp y7 y4) = 0 then w_L_law_b2505 X xs Ls b kI v1 v2 v3 v4 v5 g5 else False)) else w_L_law_b2505 X xs Ls b kI v1 v2 v3 v4 v5 g5) else False)) (fun _ _ => False) v2 g3)) (fun _ _ => False) v2 (xs ((v5 + (1 : Int32))).toNatClampNeg) g1))) (fun _ _ => False) v1 (xs ((v5 + (1 : Int32))).toNatClampNeg) v3 g)
set_option maxHeartbeats 4000000 in
set_option maxRecDepth 100000 in
theorem lc_36 {X : Cx} {p : Program} {l : Launch} {e : Env} {s : State} {m : MethodId} {args : Array Value} {below : List Frame} {meth : Method} {c : Code} {Q : State → Prop} {b Ls : Nat} {xs : Nat → Int32} (hfl : l.stackTraces = false) (C : FC X p l s m args meth c code 9 "ReleasetrainLaw") (hX : va_X b Ls xs s s.heap) (hbl : b < s.heap.size) (hbA : ¬ gA X b) {k n : Nat} (hk : k + 60 ≤ 603072) (hn : n + 4000 ≤ 7186538) {v1 v2 v3 v4 : Option Nat} {v5 : Int32} {kI : GM → Prop} (hkI : ∀ g, kI g → GG X p l e room_1 s m args below meth c 9 Q (k + 60) (n + 4000) 2917 [some (va_rf (some b)), some (va_rf v1), some (va_rf v2), some (va_rf v3), some (va_rf v4), some (.int v5), none, none, none] [] g) {g : GM} (hf : w_law_36 X xs Ls b kI v1 v2 v3 v4 v5 g) : GG X p l e room_1 s m args below meth c 9 Q k n 2453 [some (va_rf (some b)), some (va_rf v1), some (va_rf v2), some (va_rf v3), some (va_rf v4), some (.int v5), none, none, none] [] g := by
  have hb_2505 : ∀  (g : GM), w_L_law_b2505 X xs Ls b kI v1 v2 v3 v4 v5  g → GG X p l e room_1 s m args below meth c 9 Q (k + 2) (n + 12) 2505 [some (va_rf (some b)), some (va_rf v1), some (va_rf v2), some (va_rf v3), some (va_rf v4), some (.int v5), none, none, none] [] g := by
    intro  g hf
    unfold w_L_law_b2505 at hf
    refine gg_goto (tgt := 2917) C dL_law_2505 (by decide) ?_
    exact gg_widen (k' := k + 60) (n' := n + 4000) (by omega) (by omega) (hkI _ hf)
  unfold w_law_36 at hf
  refine gg_aload_n C dL_law_2453 rfl ?_
  refine gg_aload_n C dL_law_2454 rfl ?_
  refine gg_iload C dL_law_2455 rfl ?_
  refine gg_iconst C dL_law_2457 (v := (1 : Int32)) (by decide) ?_
  refine gg_iadd C dL_law_2458 ?_
  refine gg_sld C hX hbl hbA dL_law_2459 hf.1 ?_
  replace hf := hf.2
  refine gg_aload_n C dL_law_2460 rfl ?_
  refine gr_I (k' := k + 2) (n' := n + 12) (gk_SW (As := [va_rf v1, .int (xs ((v5 + (1 : Int32))).toNatClampNeg), va_rf v3]) (rest := []) C dL_law_2461 tw_1085 tw_1086 tw_46 tw_1087 gd_L_ratingBits rfl ⟨by decide, by decide⟩ (by simp [gcat, gcI, gcL, gcF, gcD]) ⟨(by show k + 2 ≤ 603072; omega), (by show n + 12 ≤ 7186538; omega)⟩ (m_L_ratingBits hfl hf)) rfl rfl (fun E g9 h9 => h9.elim) (fun i2 g1 hf => ?_)
  refine gg_istore (L' := [some (va_rf (some b)), some (va_rf v1), some (va_rf v2), some (va_rf v3), some (va_rf v4), some (.int v5), some (.int i2), none, none]) C dL_law_2464 (Or.inr (Or.inr ⟨_, rfl, rfl⟩)) (by decide) rfl ?_
  refine gg_aload_n C dL_law_2466 rfl ?_
  refine gg_aload_n C dL_law_2467 rfl ?_
  refine gg_iload C dL_law_2468 rfl ?_
  refine gg_iconst C dL_law_2470 (v := (1 : Int32)) (by decide) ?_
  refine gg_iadd C dL_law_2471 ?_
  refine gg_sld C hX hbl hbA dL_law_2472 hf.1 ?_
  replace hf := hf.2
  refine gr_L (k' := k + 2) (n' := n + 12) (gk_V (ci := 8) (As := [.int (xs ((v5 + (1 : Int32))).toNatClampNeg)]) (rest := []) C dL_law_2473 rfl rfl tw_1820 tw_1821 tw_1822 tw_56 tw_1823 gd_X8_ratingBits rfl ⟨by decide, by decide⟩ (by simp [gcat, gcI, gcL, gcF, gcD]) ⟨(by show k + 2 + 0 ≤ 603072; omega), (by show n + 12 + 0 ≤ 7186538; omega)⟩ hf (fun hf => m_X8_ratingBits hfl hf)) rfl rfl (fun E g9 h9 => h9.elim) (fun y4 g3 hf => ?_)
  refine gg_lstore (L' := [some (va_rf (some b)), some (va_rf v1), some (va_rf v2), some (va_rf v3), some (va_rf v4), some (.int v5), some (.int i2), some (.long y4), none]) C dL_law_2476 (Or.inr (Or.inr ⟨_, rfl, rfl⟩)) (by decide) rfl ?_
  refine gg_aload_n C dL_law_2478 rfl ?_
  refine gr_I (k' := k + 2) (n' := n + 12) (gk_V (ci := 8) (As := []) (rest := []) C dL_law_2479 rfl rfl tw_1572 tw_1573 tw_1574 tw_56 tw_1575 gd_X8_thrown rfl ⟨by decide, by decide⟩ (by simp [gcat, gcI, gcL, gcF, gcD]) ⟨(by show k + 2 + 0 ≤ 603072; omega), (by show n + 12 + 0 ≤ 7186538; omega)⟩ hf (fun hf => m_X8_thrown hfl hf)) rfl rfl (fun E g9 h9 => h9.elim) (fun i6 g5 hf => ?_)
  refine gg_iload C dL_law_2482 rfl ?_
  refine gg_icmp_eq (tgt := 2489) C dL_law_2484 (by decide) hf (fun hf => ?_) (fun hf => ?_)
  · refine gg_iload C dL_law_2489 rfl ?_
    refine gg_if_ne (tgt := 2505) C dL_law_2491 (by decide) hf (fun hf => ?_) (fun hf => ?_)
    · exact gg_sub (L' := [some (va_rf (some b)), some (va_rf v1), some (va_rf v2), some (va_rf v3), some (va_rf v4), some (.int v5), none, none, none]) (by first | exact ⟨rfl, ⟨rfl, ⟨rfl, ⟨rfl, ⟨rfl, ⟨rfl, trivial⟩⟩⟩⟩⟩⟩ | simp [gsub]) (hb_2505 _ hf)
    · refine gg_aload_n C dL_law_2494 rfl ?_
      refine gg_iconst C dL_law_2495 (v := (0 : Int32)) (by decide) ?_
      refine gg_lald C dL_law_2496 hf (fun y7 hf => ?_)
      refine gg_lload C dL_law_2497 rfl ?_
      refine gg_lcmp C dL_law_2499 ?_
      refine gg_if_eq (tgt := 2505) C dL_law_2500 (by decide) hf (fun hf => ?_) (fun hf => ?_)
      · exact gg_sub (L' := [some (va_rf (some b)), some (va_rf v1), some (va_rf v2), some (va_rf v3), some (va_rf v4), some (.int v5), none, none, none]) (by first | exact ⟨rfl, ⟨rfl, ⟨rfl, ⟨rfl, ⟨rfl, ⟨rfl, trivial⟩⟩⟩⟩⟩⟩ | simp [gsub]) (hb_2505 _ hf)
      · refine gg_iconst C dL_law_2503 (v := (0 : Int32)) (by decide) ?_
        exact hf.elim
  · refine gg_iconst C dL_law_2487 (v := (0 : Int32)) (by decide) ?_
    exact hf.elim

def w_L_law_b2573 (X : Cx) (xs : Nat → Int32) (Ls b : Nat) (kI : GM → Prop) (v1 v2 v3 v4 : Option Nat) (v5 : Int32)  (g : GM) : Prop :=
  kI g
def w_law_37 (X : Cx) (xs : Nat → Int32) (Ls b : Nat) (kI : GM → Prop) (v1 v2 v3 v4 : Option Nat) (v5 : Int32) (g : GM) : Prop :=
  (vp_in (v5 + (1 : Int32)) Ls ∧ (vp_in (v5 + (2 : Int32)) Ls ∧ w_L_buy X (fun (i2 : Int32) (g1 : GM) => (vp_in (v5 + (1 : Int32)) Ls ∧ (vp_in (v5 + (2 : Int32)) Ls ∧ wIs g1 v2 8 (w_X8_buy X (fun (i4 : Int32) (g3 : GM) => wIs g3 v2 8 (w_X8_thrown X (fun (i6 : Int32) (g5 : GM) => (if i6 = i2 then (if i2 = 0 then wAldJ g5 v3 (0 : Int32) (fun (y7 : Int64) => (if (lg_cmp y7 ((i4).toInt64)) = 0 then w_L_law_b2573 X xs Ls b kI v1 v2 v3 v4 v5 g5 else False)) else w_L_law_b2573 X xs Ls b kI v1 v2 v3 v4 v5 g5) else False)) (fun _ _ => False) v2 g3)) (fun _ _ => False) v2 (xs ((v5 + (1 : Int32))).toNatClampNeg) (xs ((v5 + (2 : Int32))).toNatClampNeg) g1)))) (fun _ _ => False) v1 (xs ((v5 + (1 : Int32))).toNatClampNeg) (xs ((v5 + (2 : Int32))).toNatClampNeg) v3 g))
set_option maxHeartbeats 4000000 in
set_option maxRecDepth 100000 in
theorem lc_37 {X : Cx} {p : Program} {l : Launch} {e : Env} {s : State} {m : MethodId} {args : Array Value} {below : List Frame} {meth : Method} {c : Code} {Q : State → Prop} {b Ls : Nat} {xs : Nat → Int32} (hfl : l.stackTraces = false) (C : FC X p l s m args meth c code 9 "ReleasetrainLaw") (hX : va_X b Ls xs s s.heap) (hbl : b < s.heap.size) (hbA : ¬ gA X b) {k n : Nat} (hk : k + 60 ≤ 603072) (hn : n + 4000 ≤ 7186538) {v1 v2 v3 v4 : Option Nat} {v5 : Int32} {kI : GM → Prop} (hkI : ∀ g, kI g → GG X p l e room_1 s m args below meth c 9 Q (k + 60) (n + 4000) 2917 [some (va_rf (some b)), some (va_rf v1), some (va_rf v2), some (va_rf v3), some (va_rf v4), some (.int v5), none, none, none] [] g) {g : GM} (hf : w_law_37 X xs Ls b kI v1 v2 v3 v4 v5 g) : GG X p l e room_1 s m args below meth c 9 Q k n 2508 [some (va_rf (some b)), some (va_rf v1), some (va_rf v2), some (va_rf v3), some (va_rf v4), some (.int v5), none, none, none] [] g := by
  have hb_2573 : ∀  (g : GM), w_L_law_b2573 X xs Ls b kI v1 v2 v3 v4 v5  g → GG X p l e room_1 s m args below meth c 9 Q (k + 4) (n + 24) 2573 [some (va_rf (some b)), some (va_rf v1), some (va_rf v2), some (va_rf v3), some (va_rf v4), some (.int v5), none, none, none] [] g := by
    intro  g hf
    unfold w_L_law_b2573 at hf
    refine gg_goto (tgt := 2917) C dL_law_2573 (by decide) ?_
    exact gg_widen (k' := k + 60) (n' := n + 4000) (by omega) (by omega) (hkI _ hf)
  unfold w_law_37 at hf
  refine gg_aload_n C dL_law_2508 rfl ?_
  refine gg_aload_n C dL_law_2509 rfl ?_
  refine gg_iload C dL_law_2510 rfl ?_
  refine gg_iconst C dL_law_2512 (v := (1 : Int32)) (by decide) ?_
  refine gg_iadd C dL_law_2513 ?_
  refine gg_sld C hX hbl hbA dL_law_2514 hf.1 ?_
  replace hf := hf.2
  refine gg_aload_n C dL_law_2515 rfl ?_
  refine gg_iload C dL_law_2516 rfl ?_
  refine gg_iconst C dL_law_2518 (v := (2 : Int32)) (by decide) ?_
  refine gg_iadd C dL_law_2519 ?_
  refine gg_sld C hX hbl hbA dL_law_2520 hf.1 ?_
  replace hf := hf.2
  refine gg_aload_n C dL_law_2521 rfl ?_
  refine gr_I (k' := k + 4) (n' := n + 24) (gk_SW (As := [va_rf v1, .int (xs ((v5 + (1 : Int32))).toNatClampNeg), .int (xs ((v5 + (2 : Int32))).toNatClampNeg), va_rf v3]) (rest := []) C dL_law_2522 tw_1092 tw_1093 tw_46 tw_1094 gd_L_buy rfl ⟨by decide, by decide⟩ (by simp [gcat, gcI, gcL, gcF, gcD]) ⟨(by show k + 4 ≤ 603072; omega), (by show n + 24 ≤ 7186538; omega)⟩ (m_L_buy hfl hf)) rfl rfl (fun E g9 h9 => h9.elim) (fun i2 g1 hf => ?_)
  refine gg_istore (L' := [some (va_rf (some b)), some (va_rf v1), some (va_rf v2), some (va_rf v3), some (va_rf v4), some (.int v5), some (.int i2), none, none]) C dL_law_2525 (Or.inr (Or.inr ⟨_, rfl, rfl⟩)) (by decide) rfl ?_
  refine gg_aload_n C dL_law_2527 rfl ?_
  refine gg_aload_n C dL_law_2528 rfl ?_
  refine gg_iload C dL_law_2529 rfl ?_
  refine gg_iconst C dL_law_2531 (v := (1 : Int32)) (by decide) ?_
  refine gg_iadd C dL_law_2532 ?_
  refine gg_sld C hX hbl hbA dL_law_2533 hf.1 ?_
  replace hf := hf.2
  refine gg_aload_n C dL_law_2534 rfl ?_
  refine gg_iload C dL_law_2535 rfl ?_
  refine gg_iconst C dL_law_2537 (v := (2 : Int32)) (by decide) ?_
  refine gg_iadd C dL_law_2538 ?_
  refine gg_sld C hX hbl hbA dL_law_2539 hf.1 ?_
  replace hf := hf.2
  refine gr_I (k' := k + 4) (n' := n + 24) (gk_V (ci := 8) (As := [.int (xs ((v5 + (1 : Int32))).toNatClampNeg), .int (xs ((v5 + (2 : Int32))).toNatClampNeg)]) (rest := []) C dL_law_2540 rfl rfl tw_1835 tw_1836 tw_1837 tw_56 tw_1838 gd_X8_buy rfl ⟨by decide, by decide⟩ (by simp [gcat, gcI, gcL, gcF, gcD]) ⟨(by show k + 4 + 0 ≤ 603072; omega), (by show n + 24 + 0 ≤ 7186538; omega)⟩ hf (fun hf => m_X8_buy hfl hf)) rfl rfl (fun E g9 h9 => h9.elim) (fun i4 g3 hf => ?_)
  refine gg_istore (L' := [some (va_rf (some b)), some (va_rf v1), some (va_rf v2), some (va_rf v3), some (va_rf v4), some (.int v5), some (.int i2), some (.int i4), none]) C dL_law_2543 (Or.inr (Or.inr ⟨_, rfl, rfl⟩)) (by decide) rfl ?_
  refine gg_aload_n C dL_law_2545 rfl ?_
  refine gr_I (k' := k + 4) (n' := n + 24) (gk_V (ci := 8) (As := []) (rest := []) C dL_law_2546 rfl rfl tw_1572 tw_1573 tw_1574 tw_56 tw_1575 gd_X8_thrown rfl ⟨by decide, by decide⟩ (by simp [gcat, gcI, gcL, gcF, gcD]) ⟨(by show k + 4 + 0 ≤ 603072; omega), (by show n + 24 + 0 ≤ 7186538; omega)⟩ hf (fun hf => m_X8_thrown hfl hf)) rfl rfl (fun E g9 h9 => h9.elim) (fun i6 g5 hf => ?_)
  refine gg_iload C dL_law_2549 rfl ?_
  refine gg_icmp_eq (tgt := 2556) C dL_law_2551 (by decide) hf (fun hf => ?_) (fun hf => ?_)
  · refine gg_iload C dL_law_2556 rfl ?_
    refine gg_if_ne (tgt := 2573) C dL_law_2558 (by decide) hf (fun hf => ?_) (fun hf => ?_)
    · exact gg_sub (L' := [some (va_rf (some b)), some (va_rf v1), some (va_rf v2), some (va_rf v3), some (va_rf v4), some (.int v5), none, none, none]) (by first | exact ⟨rfl, ⟨rfl, ⟨rfl, ⟨rfl, ⟨rfl, ⟨rfl, trivial⟩⟩⟩⟩⟩⟩ | simp [gsub]) (hb_2573 _ hf)
    · refine gg_aload_n C dL_law_2561 rfl ?_
      refine gg_iconst C dL_law_2562 (v := (0 : Int32)) (by decide) ?_
      refine gg_lald C dL_law_2563 hf (fun y7 hf => ?_)
      refine gg_iload C dL_law_2564 rfl ?_
      refine gg_i2l C dL_law_2566 ?_
      refine gg_lcmp C dL_law_2567 ?_
      refine gg_if_eq (tgt := 2573) C dL_law_2568 (by decide) hf (fun hf => ?_) (fun hf => ?_)
      · exact gg_sub (L' := [some (va_rf (some b)), some (va_rf v1), some (va_rf v2), some (va_rf v3), some (va_rf v4), some (.int v5), none, none, none]) (by first | exact ⟨rfl, ⟨rfl, ⟨rfl, ⟨rfl, ⟨rfl, ⟨rfl, trivial⟩⟩⟩⟩⟩⟩ | simp [gsub]) (hb_2573 _ hf)
      · refine gg_iconst C dL_law_2571 (v := (0 : Int32)) (by decide) ?_
        exact hf.elim
  · refine gg_iconst C dL_law_2554 (v := (0 : Int32)) (by decide) ?_
    exact hf.elim

def w_L_law_b2648 (X : Cx) (xs : Nat → Int32) (Ls b : Nat) (kI : GM → Prop) (v1 v2 v3 v4 : Option Nat) (v5 : Int32)  (g : GM) : Prop :=
  kI g
def w_L_law_b2642 (X : Cx) (xs : Nat → Int32) (Ls b : Nat) (kI : GM → Prop) (v1 v2 v3 v4 : Option Nat) (v5 : Int32) (t0 : Int64) (t1 : Int64) (g : GM) : Prop :=
  (if (lg_cmp t1 t0) = 0 then w_L_law_b2648 X xs Ls b kI v1 v2 v3 v4 v5 g else False)
def w_law_38 (X : Cx) (xs : Nat → Int32) (Ls b : Nat) (kI : GM → Prop) (v1 v2 v3 v4 : Option Nat) (v5 : Int32) (g : GM) : Prop :=
  (vp_in (v5 + (1 : Int32)) Ls ∧ (vp_in (v5 + (2 : Int32)) Ls ∧ w_L_owns X (fun (i2 : Int32) (g1 : GM) => (vp_in (v5 + (1 : Int32)) Ls ∧ (vp_in (v5 + (2 : Int32)) Ls ∧ wIs g1 v2 8 (w_X8_owns X (fun (i4 : Int32) (g3 : GM) => wIs g3 v2 8 (w_X8_thrown X (fun (i6 : Int32) (g5 : GM) => (if i6 = i2 then (if i2 = 0 then wAldJ g5 v3 (0 : Int32) (fun (y7 : Int64) => (if i4 = 0 then w_L_law_b2642 X xs Ls b kI v1 v2 v3 v4 v5 (0 : Int64) y7 g5 else w_L_law_b2642 X xs Ls b kI v1 v2 v3 v4 v5 (1 : Int64) y7 g5)) else w_L_law_b2648 X xs Ls b kI v1 v2 v3 v4 v5 g5) else False)) (fun _ _ => False) v2 g3)) (fun _ _ => False) v2 (xs ((v5 + (1 : Int32))).toNatClampNeg) (xs ((v5 + (2 : Int32))).toNatClampNeg) g1)))) (fun _ _ => False) v1 (xs ((v5 + (1 : Int32))).toNatClampNeg) (xs ((v5 + (2 : Int32))).toNatClampNeg) v3 g))
set_option maxHeartbeats 4000000 in
set_option maxRecDepth 100000 in
theorem lc_38 {X : Cx} {p : Program} {l : Launch} {e : Env} {s : State} {m : MethodId} {args : Array Value} {below : List Frame} {meth : Method} {c : Code} {Q : State → Prop} {b Ls : Nat} {xs : Nat → Int32} (hfl : l.stackTraces = false) (C : FC X p l s m args meth c code 9 "ReleasetrainLaw") (hX : va_X b Ls xs s s.heap) (hbl : b < s.heap.size) (hbA : ¬ gA X b) {k n : Nat} (hk : k + 60 ≤ 603072) (hn : n + 4000 ≤ 7186538) {v1 v2 v3 v4 : Option Nat} {v5 : Int32} {kI : GM → Prop} (hkI : ∀ g, kI g → GG X p l e room_1 s m args below meth c 9 Q (k + 60) (n + 4000) 2917 [some (va_rf (some b)), some (va_rf v1), some (va_rf v2), some (va_rf v3), some (va_rf v4), some (.int v5), none, none, none] [] g) {g : GM} (hf : w_law_38 X xs Ls b kI v1 v2 v3 v4 v5 g) : GG X p l e room_1 s m args below meth c 9 Q k n 2576 [some (va_rf (some b)), some (va_rf v1), some (va_rf v2), some (va_rf v3), some (va_rf v4), some (.int v5), none, none, none] [] g := by
  have hb_2648 : ∀  (g : GM), w_L_law_b2648 X xs Ls b kI v1 v2 v3 v4 v5  g → GG X p l e room_1 s m args below meth c 9 Q (k + 2) (n + 12) 2648 [some (va_rf (some b)), some (va_rf v1), some (va_rf v2), some (va_rf v3), some (va_rf v4), some (.int v5), none, none, none] [] g := by
    intro  g hf
    unfold w_L_law_b2648 at hf
    refine gg_goto (tgt := 2917) C dL_law_2648 (by decide) ?_
    exact gg_widen (k' := k + 60) (n' := n + 4000) (by omega) (by omega) (hkI _ hf)
  have hb_2642 : ∀ (t0 : Int64) (t1 : Int64) (g : GM), w_L_law_b2642 X xs Ls b kI v1 v2 v3 v4 v5 t0 t1 g → GG X p l e room_1 s m args below meth c 9 Q (k + 2) (n + 12) 2642 [some (va_rf (some b)), some (va_rf v1), some (va_rf v2), some (va_rf v3), some (va_rf v4), some (.int v5), none, none, none] [.long t0, .long t1] g := by
    intro t0 t1 g hf
    unfold w_L_law_b2642 at hf
    refine gg_lcmp C dL_law_2642 ?_
    refine gg_if_eq (tgt := 2648) C dL_law_2643 (by decide) hf (fun hf => ?_) (fun hf => ?_)
    · exact hb_2648 _ hf
    · refine gg_iconst C dL_law_2646 (v := (0 : Int32)) (by decide) ?_
      exact hf.elim
  unfold w_law_38 at hf
  refine gg_aload_n C dL_law_2576 rfl ?_
  refine gg_aload_n C dL_law_2577 rfl ?_
  refine gg_iload C dL_law_2578 rfl ?_
  refine gg_iconst C dL_law_2580 (v := (1 : Int32)) (by decide) ?_
  refine gg_iadd C dL_law_2581 ?_
  refine gg_sld C hX hbl hbA dL_law_2582 hf.1 ?_
  replace hf := hf.2
  refine gg_aload_n C dL_law_2583 rfl ?_
  refine gg_iload C dL_law_2584 rfl ?_
  refine gg_iconst C dL_law_2586 (v := (2 : Int32)) (by decide) ?_
  refine gg_iadd C dL_law_2587 ?_
  refine gg_sld C hX hbl hbA dL_law_2588 hf.1 ?_
  replace hf := hf.2
  refine gg_aload_n C dL_law_2589 rfl ?_
  refine gr_I (k' := k + 2) (n' := n + 12) (gk_SW (As := [va_rf v1, .int (xs ((v5 + (1 : Int32))).toNatClampNeg), .int (xs ((v5 + (2 : Int32))).toNatClampNeg), va_rf v3]) (rest := []) C dL_law_2590 tw_1112 tw_1113 tw_46 tw_1114 gd_L_owns rfl ⟨by decide, by decide⟩ (by simp [gcat, gcI, gcL, gcF, gcD]) ⟨(by show k + 2 ≤ 603072; omega), (by show n + 12 ≤ 7186538; omega)⟩ (m_L_owns hfl hf)) rfl rfl (fun E g9 h9 => h9.elim) (fun i2 g1 hf => ?_)
  refine gg_istore (L' := [some (va_rf (some b)), some (va_rf v1), some (va_rf v2), some (va_rf v3), some (va_rf v4), some (.int v5), some (.int i2), none, none]) C dL_law_2593 (Or.inr (Or.inr ⟨_, rfl, rfl⟩)) (by decide) rfl ?_
  refine gg_aload_n C dL_law_2595 rfl ?_
  refine gg_aload_n C dL_law_2596 rfl ?_
  refine gg_iload C dL_law_2597 rfl ?_
  refine gg_iconst C dL_law_2599 (v := (1 : Int32)) (by decide) ?_
  refine gg_iadd C dL_law_2600 ?_
  refine gg_sld C hX hbl hbA dL_law_2601 hf.1 ?_
  replace hf := hf.2
  refine gg_aload_n C dL_law_2602 rfl ?_
  refine gg_iload C dL_law_2603 rfl ?_
  refine gg_iconst C dL_law_2605 (v := (2 : Int32)) (by decide) ?_
  refine gg_iadd C dL_law_2606 ?_
  refine gg_sld C hX hbl hbA dL_law_2607 hf.1 ?_
  replace hf := hf.2
  refine gr_I (k' := k + 2) (n' := n + 12) (gk_V (ci := 8) (As := [.int (xs ((v5 + (1 : Int32))).toNatClampNeg), .int (xs ((v5 + (2 : Int32))).toNatClampNeg)]) (rest := []) C dL_law_2608 rfl rfl tw_1844 tw_1845 tw_1846 tw_56 tw_1847 gd_X8_owns rfl ⟨by decide, by decide⟩ (by simp [gcat, gcI, gcL, gcF, gcD]) ⟨(by show k + 2 + 0 ≤ 603072; omega), (by show n + 12 + 0 ≤ 7186538; omega)⟩ hf (fun hf => m_X8_owns hfl hf)) rfl rfl (fun E g9 h9 => h9.elim) (fun i4 g3 hf => ?_)
  refine gg_istore (L' := [some (va_rf (some b)), some (va_rf v1), some (va_rf v2), some (va_rf v3), some (va_rf v4), some (.int v5), some (.int i2), some (.int i4), none]) C dL_law_2611 (Or.inr (Or.inr ⟨_, rfl, rfl⟩)) (by decide) rfl ?_
  refine gg_aload_n C dL_law_2613 rfl ?_
  refine gr_I (k' := k + 2) (n' := n + 12) (gk_V (ci := 8) (As := []) (rest := []) C dL_law_2614 rfl rfl tw_1572 tw_1573 tw_1574 tw_56 tw_1575 gd_X8_thrown rfl ⟨by decide, by decide⟩ (by simp [gcat, gcI, gcL, gcF, gcD]) ⟨(by show k + 2 + 0 ≤ 603072; omega), (by show n + 12 + 0 ≤ 7186538; omega)⟩ hf (fun hf => m_X8_thrown hfl hf)) rfl rfl (fun E g9 h9 => h9.elim) (fun i6 g5 hf => ?_)
  refine gg_iload C dL_law_2617 rfl ?_
  refine gg_icmp_eq (tgt := 2624) C dL_law_2619 (by decide) hf (fun hf => ?_) (fun hf => ?_)
  · refine gg_iload C dL_law_2624 rfl ?_
    refine gg_if_ne (tgt := 2648) C dL_law_2626 (by decide) hf (fun hf => ?_) (fun hf => ?_)
    · exact gg_sub (L' := [some (va_rf (some b)), some (va_rf v1), some (va_rf v2), some (va_rf v3), some (va_rf v4), some (.int v5), none, none, none]) (by first | exact ⟨rfl, ⟨rfl, ⟨rfl, ⟨rfl, ⟨rfl, ⟨rfl, trivial⟩⟩⟩⟩⟩⟩ | simp [gsub]) (hb_2648 _ hf)
    · refine gg_aload_n C dL_law_2629 rfl ?_
      refine gg_iconst C dL_law_2630 (v := (0 : Int32)) (by decide) ?_
      refine gg_lald C dL_law_2631 hf (fun y7 hf => ?_)
      refine gg_iload C dL_law_2632 rfl ?_
      refine gg_if_eq (tgt := 2641) C dL_law_2634 (by decide) hf (fun hf => ?_) (fun hf => ?_)
      · refine gg_lconst C dL_law_2641 (v := (0 : Int64)) (by decide) ?_
        exact gg_sub (L' := [some (va_rf (some b)), some (va_rf v1), some (va_rf v2), some (va_rf v3), some (va_rf v4), some (.int v5), none, none, none]) (by first | exact ⟨rfl, ⟨rfl, ⟨rfl, ⟨rfl, ⟨rfl, ⟨rfl, trivial⟩⟩⟩⟩⟩⟩ | simp [gsub]) (hb_2642 _ _ _ hf)
      · refine gg_lconst C dL_law_2637 (v := (1 : Int64)) (by decide) ?_
        refine gg_goto (tgt := 2642) C dL_law_2638 (by decide) ?_
        exact gg_sub (L' := [some (va_rf (some b)), some (va_rf v1), some (va_rf v2), some (va_rf v3), some (va_rf v4), some (.int v5), none, none, none]) (by first | exact ⟨rfl, ⟨rfl, ⟨rfl, ⟨rfl, ⟨rfl, ⟨rfl, trivial⟩⟩⟩⟩⟩⟩ | simp [gsub]) (hb_2642 _ _ _ hf)
  · refine gg_iconst C dL_law_2622 (v := (0 : Int32)) (by decide) ?_
    exact hf.elim

def w_L_law_b2723 (X : Cx) (xs : Nat → Int32) (Ls b : Nat) (kI : GM → Prop) (v1 v2 v3 v4 : Option Nat) (v5 : Int32)  (g : GM) : Prop :=
  kI g
def w_L_law_b2717 (X : Cx) (xs : Nat → Int32) (Ls b : Nat) (kI : GM → Prop) (v1 v2 v3 v4 : Option Nat) (v5 : Int32) (t0 : Int64) (t1 : Int64) (g : GM) : Prop :=
  (if (lg_cmp t1 t0) = 0 then w_L_law_b2723 X xs Ls b kI v1 v2 v3 v4 v5 g else False)
def w_law_39 (X : Cx) (xs : Nat → Int32) (Ls b : Nat) (kI : GM → Prop) (v1 v2 v3 v4 : Option Nat) (v5 : Int32) (g : GM) : Prop :=
  (vp_in (v5 + (1 : Int32)) Ls ∧ (vp_in (v5 + (2 : Int32)) Ls ∧ w_L_canUse X (fun (i2 : Int32) (g1 : GM) => (vp_in (v5 + (1 : Int32)) Ls ∧ (vp_in (v5 + (2 : Int32)) Ls ∧ wIs g1 v2 8 (w_X8_canUse X (fun (i4 : Int32) (g3 : GM) => wIs g3 v2 8 (w_X8_thrown X (fun (i6 : Int32) (g5 : GM) => (if i6 = i2 then (if i2 = 0 then wAldJ g5 v3 (0 : Int32) (fun (y7 : Int64) => (if i4 = 0 then w_L_law_b2717 X xs Ls b kI v1 v2 v3 v4 v5 (0 : Int64) y7 g5 else w_L_law_b2717 X xs Ls b kI v1 v2 v3 v4 v5 (1 : Int64) y7 g5)) else w_L_law_b2723 X xs Ls b kI v1 v2 v3 v4 v5 g5) else False)) (fun _ _ => False) v2 g3)) (fun _ _ => False) v2 (xs ((v5 + (1 : Int32))).toNatClampNeg) (xs ((v5 + (2 : Int32))).toNatClampNeg) g1)))) (fun _ _ => False) v1 (xs ((v5 + (1 : Int32))).toNatClampNeg) (xs ((v5 + (2 : Int32))).toNatClampNeg) v3 g))
set_option maxHeartbeats 4000000 in
set_option maxRecDepth 100000 in
theorem lc_39 {X : Cx} {p : Program} {l : Launch} {e : Env} {s : State} {m : MethodId} {args : Array Value} {below : List Frame} {meth : Method} {c : Code} {Q : State → Prop} {b Ls : Nat} {xs : Nat → Int32} (hfl : l.stackTraces = false) (C : FC X p l s m args meth c code 9 "ReleasetrainLaw") (hX : va_X b Ls xs s s.heap) (hbl : b < s.heap.size) (hbA : ¬ gA X b) {k n : Nat} (hk : k + 60 ≤ 603072) (hn : n + 4000 ≤ 7186538) {v1 v2 v3 v4 : Option Nat} {v5 : Int32} {kI : GM → Prop} (hkI : ∀ g, kI g → GG X p l e room_1 s m args below meth c 9 Q (k + 60) (n + 4000) 2917 [some (va_rf (some b)), some (va_rf v1), some (va_rf v2), some (va_rf v3), some (va_rf v4), some (.int v5), none, none, none] [] g) {g : GM} (hf : w_law_39 X xs Ls b kI v1 v2 v3 v4 v5 g) : GG X p l e room_1 s m args below meth c 9 Q k n 2651 [some (va_rf (some b)), some (va_rf v1), some (va_rf v2), some (va_rf v3), some (va_rf v4), some (.int v5), none, none, none] [] g := by
  have hb_2723 : ∀  (g : GM), w_L_law_b2723 X xs Ls b kI v1 v2 v3 v4 v5  g → GG X p l e room_1 s m args below meth c 9 Q (k + 2) (n + 12) 2723 [some (va_rf (some b)), some (va_rf v1), some (va_rf v2), some (va_rf v3), some (va_rf v4), some (.int v5), none, none, none] [] g := by
    intro  g hf
    unfold w_L_law_b2723 at hf
    refine gg_goto (tgt := 2917) C dL_law_2723 (by decide) ?_
    exact gg_widen (k' := k + 60) (n' := n + 4000) (by omega) (by omega) (hkI _ hf)
  have hb_2717 : ∀ (t0 : Int64) (t1 : Int64) (g : GM), w_L_law_b2717 X xs Ls b kI v1 v2 v3 v4 v5 t0 t1 g → GG X p l e room_1 s m args below meth c 9 Q (k + 2) (n + 12) 2717 [some (va_rf (some b)), some (va_rf v1), some (va_rf v2), some (va_rf v3), some (va_rf v4), some (.int v5), none, none, none] [.long t0, .long t1] g := by
    intro t0 t1 g hf
    unfold w_L_law_b2717 at hf
    refine gg_lcmp C dL_law_2717 ?_
    refine gg_if_eq (tgt := 2723) C dL_law_2718 (by decide) hf (fun hf => ?_) (fun hf => ?_)
    · exact hb_2723 _ hf
    · refine gg_iconst C dL_law_2721 (v := (0 : Int32)) (by decide) ?_
      exact hf.elim
  unfold w_law_39 at hf
  refine gg_aload_n C dL_law_2651 rfl ?_
  refine gg_aload_n C dL_law_2652 rfl ?_
  refine gg_iload C dL_law_2653 rfl ?_
  refine gg_iconst C dL_law_2655 (v := (1 : Int32)) (by decide) ?_
  refine gg_iadd C dL_law_2656 ?_
  refine gg_sld C hX hbl hbA dL_law_2657 hf.1 ?_
  replace hf := hf.2
  refine gg_aload_n C dL_law_2658 rfl ?_
  refine gg_iload C dL_law_2659 rfl ?_
  refine gg_iconst C dL_law_2661 (v := (2 : Int32)) (by decide) ?_
  refine gg_iadd C dL_law_2662 ?_
  refine gg_sld C hX hbl hbA dL_law_2663 hf.1 ?_
  replace hf := hf.2
  refine gg_aload_n C dL_law_2664 rfl ?_
  refine gr_I (k' := k + 2) (n' := n + 12) (gk_SW (As := [va_rf v1, .int (xs ((v5 + (1 : Int32))).toNatClampNeg), .int (xs ((v5 + (2 : Int32))).toNatClampNeg), va_rf v3]) (rest := []) C dL_law_2665 tw_1119 tw_1120 tw_46 tw_1121 gd_L_canUse rfl ⟨by decide, by decide⟩ (by simp [gcat, gcI, gcL, gcF, gcD]) ⟨(by show k + 2 ≤ 603072; omega), (by show n + 12 ≤ 7186538; omega)⟩ (m_L_canUse hfl hf)) rfl rfl (fun E g9 h9 => h9.elim) (fun i2 g1 hf => ?_)
  refine gg_istore (L' := [some (va_rf (some b)), some (va_rf v1), some (va_rf v2), some (va_rf v3), some (va_rf v4), some (.int v5), some (.int i2), none, none]) C dL_law_2668 (Or.inr (Or.inr ⟨_, rfl, rfl⟩)) (by decide) rfl ?_
  refine gg_aload_n C dL_law_2670 rfl ?_
  refine gg_aload_n C dL_law_2671 rfl ?_
  refine gg_iload C dL_law_2672 rfl ?_
  refine gg_iconst C dL_law_2674 (v := (1 : Int32)) (by decide) ?_
  refine gg_iadd C dL_law_2675 ?_
  refine gg_sld C hX hbl hbA dL_law_2676 hf.1 ?_
  replace hf := hf.2
  refine gg_aload_n C dL_law_2677 rfl ?_
  refine gg_iload C dL_law_2678 rfl ?_
  refine gg_iconst C dL_law_2680 (v := (2 : Int32)) (by decide) ?_
  refine gg_iadd C dL_law_2681 ?_
  refine gg_sld C hX hbl hbA dL_law_2682 hf.1 ?_
  replace hf := hf.2
  refine gr_I (k' := k + 2) (n' := n + 12) (gk_V (ci := 8) (As := [.int (xs ((v5 + (1 : Int32))).toNatClampNeg), .int (xs ((v5 + (2 : Int32))).toNatClampNeg)]) (rest := []) C dL_law_2683 rfl rfl tw_1852 tw_1853 tw_1854 tw_56 tw_1855 gd_X8_canUse rfl ⟨by decide, by decide⟩ (by simp [gcat, gcI, gcL, gcF, gcD]) ⟨(by show k + 2 + 0 ≤ 603072; omega), (by show n + 12 + 0 ≤ 7186538; omega)⟩ hf (fun hf => m_X8_canUse hfl hf)) rfl rfl (fun E g9 h9 => h9.elim) (fun i4 g3 hf => ?_)
  refine gg_istore (L' := [some (va_rf (some b)), some (va_rf v1), some (va_rf v2), some (va_rf v3), some (va_rf v4), some (.int v5), some (.int i2), some (.int i4), none]) C dL_law_2686 (Or.inr (Or.inr ⟨_, rfl, rfl⟩)) (by decide) rfl ?_
  refine gg_aload_n C dL_law_2688 rfl ?_
  refine gr_I (k' := k + 2) (n' := n + 12) (gk_V (ci := 8) (As := []) (rest := []) C dL_law_2689 rfl rfl tw_1572 tw_1573 tw_1574 tw_56 tw_1575 gd_X8_thrown rfl ⟨by decide, by decide⟩ (by simp [gcat, gcI, gcL, gcF, gcD]) ⟨(by show k + 2 + 0 ≤ 603072; omega), (by show n + 12 + 0 ≤ 7186538; omega)⟩ hf (fun hf => m_X8_thrown hfl hf)) rfl rfl (fun E g9 h9 => h9.elim) (fun i6 g5 hf => ?_)
  refine gg_iload C dL_law_2692 rfl ?_
  refine gg_icmp_eq (tgt := 2699) C dL_law_2694 (by decide) hf (fun hf => ?_) (fun hf => ?_)
  · refine gg_iload C dL_law_2699 rfl ?_
    refine gg_if_ne (tgt := 2723) C dL_law_2701 (by decide) hf (fun hf => ?_) (fun hf => ?_)
    · exact gg_sub (L' := [some (va_rf (some b)), some (va_rf v1), some (va_rf v2), some (va_rf v3), some (va_rf v4), some (.int v5), none, none, none]) (by first | exact ⟨rfl, ⟨rfl, ⟨rfl, ⟨rfl, ⟨rfl, ⟨rfl, trivial⟩⟩⟩⟩⟩⟩ | simp [gsub]) (hb_2723 _ hf)
    · refine gg_aload_n C dL_law_2704 rfl ?_
      refine gg_iconst C dL_law_2705 (v := (0 : Int32)) (by decide) ?_
      refine gg_lald C dL_law_2706 hf (fun y7 hf => ?_)
      refine gg_iload C dL_law_2707 rfl ?_
      refine gg_if_eq (tgt := 2716) C dL_law_2709 (by decide) hf (fun hf => ?_) (fun hf => ?_)
      · refine gg_lconst C dL_law_2716 (v := (0 : Int64)) (by decide) ?_
        exact gg_sub (L' := [some (va_rf (some b)), some (va_rf v1), some (va_rf v2), some (va_rf v3), some (va_rf v4), some (.int v5), none, none, none]) (by first | exact ⟨rfl, ⟨rfl, ⟨rfl, ⟨rfl, ⟨rfl, ⟨rfl, trivial⟩⟩⟩⟩⟩⟩ | simp [gsub]) (hb_2717 _ _ _ hf)
      · refine gg_lconst C dL_law_2712 (v := (1 : Int64)) (by decide) ?_
        refine gg_goto (tgt := 2717) C dL_law_2713 (by decide) ?_
        exact gg_sub (L' := [some (va_rf (some b)), some (va_rf v1), some (va_rf v2), some (va_rf v3), some (va_rf v4), some (.int v5), none, none, none]) (by first | exact ⟨rfl, ⟨rfl, ⟨rfl, ⟨rfl, ⟨rfl, ⟨rfl, trivial⟩⟩⟩⟩⟩⟩ | simp [gsub]) (hb_2717 _ _ _ hf)
  · refine gg_iconst C dL_law_2697 (v := (0 : Int32)) (by decide) ?_
    exact hf.elim
