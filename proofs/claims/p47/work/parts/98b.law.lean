set_option maxHeartbeats 16000000 in
set_option maxRecDepth 100000 in
theorem m_L_law {X : Cx} {p : Program} {l : Launch} {e : Env} {s : State} {m : MethodId} {args : Array Value} {below : List Frame} {meth : Method} {c : Code} {Q : State → Prop} (hfl : l.stackTraces = false) (C : FC X p l s m args meth c cL_law 15 "ReleasetrainLaw") {post : Int32 → GM → Prop} {px : String → GM → Prop} (hend2146 : ∀ (z zn : Nat), z ≤ 649124 → zn ≤ 7146723 → ∀ (L : GL) (v : Int32) (g : GM), post v g → GG X p l e room_1 s m args below meth c 15 Q z zn 2146 L [.int v] g) {g : GM} (hf : w_L_law X post px g) : GG X p l e room_1 s m args below meth c 15 Q 0 0 0 [some (va_rf (some (X.2.2.2 204))), none, none, none, none, none, none, none, none, none, none, none, none, none, none] [] g := by
  have hb_1589 : ∀ (z zn : Nat) (hz : z + (0) ≤ 649124) (hzn : zn + (0) ≤ 7146723)  (g : GM), w_L_law_b1589 X post px   g → GG X p l e room_1 s m args below meth c 15 Q z zn 1589 [none, none, none, none, none, none, none, none, none, none, none, none, none, none, none] [] g := by
    intro  z zn hz hzn  g hf
    unfold w_L_law_b1589 at hf
    refine gg_iconst C dL_law_1589 (v := (0 : Int32)) (by decide) ?_
    exact hf.elim
  have hb_1982 : ∀ (z zn : Nat) (hz : z + (0) ≤ 649124) (hzn : zn + (0) ≤ 7146723)  (g : GM), w_L_law_b1982 X post px   g → GG X p l e room_1 s m args below meth c 15 Q z zn 1982 [none, none, none, none, none, none, none, none, none, none, none, none, none, none, none] [] g := by
    intro  z zn hz hzn  g hf
    unfold w_L_law_b1982 at hf
    refine gg_iconst C dL_law_1982 (v := (0 : Int32)) (by decide) ?_
    exact hf.elim
  have hb_2146 : ∀ (z zn : Nat) (hz : z + (0) ≤ 649124) (hzn : zn + (0) ≤ 7146723) (t0 : Int32) (g : GM), w_L_law_b2146 X post px  t0 g → GG X p l e room_1 s m args below meth c 15 Q z zn 2146 [none, none, none, none, none, none, none, none, none, none, none, none, none, none, none] [.int t0] g := by
    intro  z zn hz hzn t0 g hf
    unfold w_L_law_b2146 at hf
    exact hend2146 _ _ (by show z ≤ 649124; first | exact ar_l0 (z := z) hz rfl | omega) (by show zn ≤ 7146723; first | exact ar_l0 (z := zn) hzn rfl | omega) _ _ _ hf
  have hb_2145 : ∀ (z zn : Nat) (hz : z + (0) ≤ 649124) (hzn : zn + (0) ≤ 7146723)  (g : GM), w_L_law_b2145 X post px   g → GG X p l e room_1 s m args below meth c 15 Q z zn 2145 [none, none, none, none, none, none, none, none, none, none, none, none, none, none, none] [] g := by
    intro  z zn hz hzn  g hf
    unfold w_L_law_b2145 at hf
    refine gg_iconst C dL_law_2145 (v := (0 : Int32)) (by decide) ?_
    exact hb_2146 z zn (by first | exact ar_l (z := z) hz rfl | omega) (by first | exact ar_l (z := zn) hzn rfl | omega) _ _ hf
  have hb_2054 : ∀ (z zn : Nat) (hz : z + (1056) ≤ 649124) (hzn : zn + (7688) ≤ 7146723) (l1 : Option Nat) (l3 : Int64) (l5 : Int32) (l7 : Int32) (g : GM), w_L_law_b2054 X post px  l1 l3 l5 l7 g → GG X p l e room_1 s m args below meth c 15 Q z zn 2054 [none, some (va_rf l1), none, some (.long l3), none, some (.int l5), none, some (.int l7), none, none, none, none, none, none, none] [] g := by
    intro  z zn hz hzn l1 l3 l5 l7 g hf
    unfold w_L_law_b2054 at hf
    refine gg_aload_n C dL_law_2054 rfl ?_
    refine gg_iload C dL_law_2055 rfl ?_
    refine gg_iconst C dL_law_2057 (v := (0 : Int32)) (by decide) ?_
    refine gr_F (k' := (z + 2)) (n' := (zn + 12)) (gk_SW (As := [va_rf l1, .int l7, .int (0 : Int32)]) (rest := []) C dL_law_2058 tw_1279 tw_1280 tw_24 tw_1281 gd_L_like rfl ⟨by decide, by decide⟩ (by simp [gcat, gcI, gcL, gcF, gcD]) ⟨(by show z + 2 ≤ 649124; first | exact ar_l (z := z) hz rfl | omega), (by show zn + 12 ≤ 7146723; first | exact ar_l (z := zn) hzn rfl | omega)⟩ (m_L_like hfl hf)) rfl rfl (fun E g9 h9 => h9.elim) (fun x129 g128 hf => ?_)
    refine gg_ldcf C dL_law_2061 (v := (3212836864 : UInt32)) tw_1290 ?_
    refine gg_fcmp C dL_law_2063 ?_
    refine gg_if_ne (tgt := 2145) C dL_law_2064 (by decide) hf (fun hf => ?_) (fun hf => ?_)
    · exact gg_sub (L' := [none, none, none, none, none, none, none, none, none, none, none, none, none, none, none]) (by first | exact trivial | simp [gsub]) (hb_2145 (z + 2) (zn + 12) (by first | exact ar_l2 (z := z) hz rfl | omega) (by first | exact ar_l2 (z := zn) hzn rfl | omega) _ hf)
    · refine gg_aload_n C dL_law_2067 rfl ?_
      refine gg_iconst C dL_law_2068 (v := (0 : Int32)) (by decide) ?_
      refine gg_iload C dL_law_2069 rfl ?_
      refine gr_F (k' := (z + 4)) (n' := (zn + 24)) (gk_SW (As := [va_rf l1, .int (0 : Int32), .int l7]) (rest := []) C dL_law_2071 tw_1279 tw_1280 tw_24 tw_1281 gd_L_like rfl ⟨by decide, by decide⟩ (by simp [gcat, gcI, gcL, gcF, gcD]) ⟨(by show (z + 2) + 2 ≤ 649124; first | exact ar_l2 (z := z) hz rfl | omega), (by show (zn + 12) + 12 ≤ 7146723; first | exact ar_l2 (z := zn) hzn rfl | omega)⟩ (m_L_like hfl hf)) (Nat.add_assoc z 2 2) (Nat.add_assoc zn 12 12) (fun E g9 h9 => h9.elim) (fun x131 g130 hf => ?_)
      refine gg_ldcf C dL_law_2074 (v := (3212836864 : UInt32)) tw_1290 ?_
      refine gg_fcmp C dL_law_2076 ?_
      refine gg_if_ne (tgt := 2145) C dL_law_2077 (by decide) hf (fun hf => ?_) (fun hf => ?_)
      · exact gg_sub (L' := [none, none, none, none, none, none, none, none, none, none, none, none, none, none, none]) (by first | exact trivial | simp [gsub]) (hb_2145 (z + 4) (zn + 24) (by first | exact ar_l2 (z := z) hz rfl | omega) (by first | exact ar_l2 (z := zn) hzn rfl | omega) _ hf)
      · refine gg_aload_n C dL_law_2080 rfl ?_
        refine gg_iload C dL_law_2081 rfl ?_
        refine gg_bipush C dL_law_2083 (v := (-9 : Int32)) (by decide) ?_
        refine gr_F (k' := (z + 6)) (n' := (zn + 36)) (gk_SW (As := [va_rf l1, .int l5, .int (-9 : Int32)]) (rest := []) C dL_law_2085 tw_1279 tw_1280 tw_24 tw_1281 gd_L_like rfl ⟨by decide, by decide⟩ (by simp [gcat, gcI, gcL, gcF, gcD]) ⟨(by show (z + 4) + 2 ≤ 649124; first | exact ar_l2 (z := z) hz rfl | omega), (by show (zn + 24) + 12 ≤ 7146723; first | exact ar_l2 (z := zn) hzn rfl | omega)⟩ (m_L_like hfl hf)) (Nat.add_assoc z 4 2) (Nat.add_assoc zn 24 12) (fun E g9 h9 => h9.elim) (fun x133 g132 hf => ?_)
        refine gg_ldcf C dL_law_2088 (v := (3212836864 : UInt32)) tw_1290 ?_
        refine gg_fcmp C dL_law_2090 ?_
        refine gg_if_ne (tgt := 2145) C dL_law_2091 (by decide) hf (fun hf => ?_) (fun hf => ?_)
        · exact gg_sub (L' := [none, none, none, none, none, none, none, none, none, none, none, none, none, none, none]) (by first | exact trivial | simp [gsub]) (hb_2145 (z + 6) (zn + 36) (by first | exact ar_l2 (z := z) hz rfl | omega) (by first | exact ar_l2 (z := zn) hzn rfl | omega) _ hf)
        · refine gg_aload_n C dL_law_2094 rfl ?_
          refine gg_iload C dL_law_2095 rfl ?_
          refine gr_D (k' := (z + 8)) (n' := (zn + 48)) (gk_SW (As := [va_rf l1, .int l5]) (rest := []) C dL_law_2097 tw_1291 tw_1292 tw_24 tw_1293 gd_L_rating rfl ⟨by decide, by decide⟩ (by simp [gcat, gcI, gcL, gcF, gcD]) ⟨(by show (z + 6) + 2 ≤ 649124; first | exact ar_l2 (z := z) hz rfl | omega), (by show (zn + 36) + 12 ≤ 7146723; first | exact ar_l2 (z := zn) hzn rfl | omega)⟩ (m_L_rating hfl hf)) (Nat.add_assoc z 6 2) (Nat.add_assoc zn 36 12) (fun E g9 h9 => h9.elim) (fun z135 g134 hf => ?_)
          refine gg_ldc2d C dL_law_2100 (v := (13830554455654793216 : UInt64)) tw_1319 ?_
          refine gg_dcmp C dL_law_2103 ?_
          refine gg_if_ne (tgt := 2145) C dL_law_2104 (by decide) hf (fun hf => ?_) (fun hf => ?_)
          · exact gg_sub (L' := [none, none, none, none, none, none, none, none, none, none, none, none, none, none, none]) (by first | exact trivial | simp [gsub]) (hb_2145 (z + 8) (zn + 48) (by first | exact ar_l2 (z := z) hz rfl | omega) (by first | exact ar_l2 (z := zn) hzn rfl | omega) _ hf)
          · refine gg_aload_n C dL_law_2107 rfl ?_
            refine gg_iconst C dL_law_2108 (v := (-1 : Int32)) (by decide) ?_
            refine gr_L (k' := (z + 10)) (n' := (zn + 60)) (gk_SW (As := [va_rf l1, .int (-1 : Int32)]) (rest := []) C dL_law_2109 tw_1321 tw_1322 tw_24 tw_1323 gd_L_ratingBits rfl ⟨by decide, by decide⟩ (by simp [gcat, gcI, gcL, gcF, gcD]) ⟨(by show (z + 8) + 2 ≤ 649124; first | exact ar_l2 (z := z) hz rfl | omega), (by show (zn + 48) + 12 ≤ 7146723; first | exact ar_l2 (z := zn) hzn rfl | omega)⟩ (m_L_ratingBits hfl hf)) (Nat.add_assoc z 8 2) (Nat.add_assoc zn 48 12) (fun E g9 h9 => h9.elim) (fun y137 g136 hf => ?_)
            refine gg_ldc2 C dL_law_2112 (v := (-1001 : Int64)) tw_1328 ?_
            refine gg_lcmp C dL_law_2115 ?_
            refine gg_if_ne (tgt := 2145) C dL_law_2116 (by decide) hf (fun hf => ?_) (fun hf => ?_)
            · exact gg_sub (L' := [none, none, none, none, none, none, none, none, none, none, none, none, none, none, none]) (by first | exact trivial | simp [gsub]) (hb_2145 (z + 10) (zn + 60) (by first | exact ar_l2 (z := z) hz rfl | omega) (by first | exact ar_l2 (z := zn) hzn rfl | omega) _ hf)
            · refine gg_aload_n C dL_law_2119 rfl ?_
              refine gg_bipush C dL_law_2120 (v := (-9 : Int32)) (by decide) ?_
              refine gg_iconst C dL_law_2122 (v := (-1 : Int32)) (by decide) ?_
              refine gr_I (k' := (z + 12)) (n' := (zn + 72)) (gk_SW (As := [va_rf l1, .int (-9 : Int32), .int (-1 : Int32)]) (rest := []) C dL_law_2123 tw_1228 tw_1229 tw_24 tw_1230 gd_L_group rfl ⟨by decide, by decide⟩ (by simp [gcat, gcI, gcL, gcF, gcD]) ⟨(by show (z + 10) + 2 ≤ 649124; first | exact ar_l2 (z := z) hz rfl | omega), (by show (zn + 60) + 12 ≤ 7146723; first | exact ar_l2 (z := zn) hzn rfl | omega)⟩ (m_L_group hfl hf)) (Nat.add_assoc z 10 2) (Nat.add_assoc zn 60 12) (fun E g9 h9 => h9.elim) (fun i139 g138 hf => ?_)
              refine gg_sipush C dL_law_2126 (v := (-1005 : Int32)) (by decide) ?_
              refine gg_icmp_ne (tgt := 2145) C dL_law_2129 (by decide) hf (fun hf => ?_) (fun hf => ?_)
              · exact gg_sub (L' := [none, none, none, none, none, none, none, none, none, none, none, none, none, none, none]) (by first | exact trivial | simp [gsub]) (hb_2145 (z + 12) (zn + 72) (by first | exact ar_l2 (z := z) hz rfl | omega) (by first | exact ar_l2 (z := zn) hzn rfl | omega) _ hf)
              · refine gg_aload_n C dL_law_2132 rfl ?_
                refine gr_L (k' := (z + 1056)) (n' := (zn + 7688)) (gk_S (As := [va_rf l1]) (rest := []) C dL_law_2133 tw_1336 tw_1337 tw_24 tw_1338 gd_L_sum rfl ⟨by decide, by decide⟩ (by simp [gcat, gcI, gcL, gcF, gcD]) ⟨(by show (z + 12) + 1044 ≤ 649124; first | exact ar_l2 (z := z) hz rfl | omega), (by show (zn + 72) + 7616 ≤ 7146723; first | exact ar_l2 (z := zn) hzn rfl | omega)⟩ (m_L_sum hfl hf)) (Nat.add_assoc z 12 1044) (Nat.add_assoc zn 72 7616) (fun E g9 h9 => h9.elim) (fun y141 g140 hf => ?_)
                refine gg_lload_n C dL_law_2136 rfl ?_
                refine gg_lcmp C dL_law_2137 ?_
                refine gg_if_ne (tgt := 2145) C dL_law_2138 (by decide) hf (fun hf => ?_) (fun hf => ?_)
                · exact gg_sub (L' := [none, none, none, none, none, none, none, none, none, none, none, none, none, none, none]) (by first | exact trivial | simp [gsub]) (hb_2145 (z + 1056) (zn + 7688) (by first | exact ar_l2 (z := z) hz rfl | omega) (by first | exact ar_l2 (z := zn) hzn rfl | omega) _ hf)
                · refine gg_iconst C dL_law_2141 (v := (1 : Int32)) (by decide) ?_
                  refine gg_goto (tgt := 2146) C dL_law_2142 (by decide) ?_
                  exact gg_sub (L' := [none, none, none, none, none, none, none, none, none, none, none, none, none, none, none]) (by first | exact trivial | simp [gsub]) (hb_2146 (z + 1056) (zn + 7688) (by first | exact ar_l2 (z := z) hz rfl | omega) (by first | exact ar_l2 (z := zn) hzn rfl | omega) _ _ hf)
  have hb_1855 : ∀ (z zn : Nat) (hz : z + (1075) ≤ 649124) (hzn : zn + (7802) ≤ 7146723) (l1 : Option Nat) (l3 : Int64) (l5 : Int32) (l7 : Int32) (g : GM), w_L_law_b1855 X post px  l1 l3 l5 l7 g → GG X p l e room_1 s m args below meth c 15 Q z zn 1855 [none, some (va_rf l1), none, some (.long l3), none, some (.int l5), none, some (.int l7), none, none, none, none, none, none, none] [] g := by
    intro  z zn hz hzn l1 l3 l5 l7 g hf
    unfold w_L_law_b1855 at hf
    refine gg_aload_n C dL_law_1855 rfl ?_
    refine gg_bipush C dL_law_1856 (v := (115 : Int32)) (by decide) ?_
    refine gg_iconst C dL_law_1858 (v := (0 : Int32)) (by decide) ?_
    refine gr_I (k' := (z + 1)) (n' := (zn + 6)) (gk_SW (As := [va_rf l1, .int (115 : Int32), .int (0 : Int32)]) (rest := []) C dL_law_1859 tw_1156 tw_1157 tw_24 tw_1158 gd_L_sets rfl ⟨by decide, by decide⟩ (by simp [gcat, gcI, gcL, gcF, gcD]) ⟨(by show z + 1 ≤ 649124; first | exact ar_l (z := z) hz rfl | omega), (by show zn + 6 ≤ 7146723; first | exact ar_l (z := zn) hzn rfl | omega)⟩ (m_L_sets hfl hf)) rfl rfl (fun E g9 h9 => h9.elim) (fun i105 g104 hf => ?_)
    refine gg_sipush C dL_law_1862 (v := (-1002 : Int32)) (by decide) ?_
    refine gg_icmp_ne (tgt := 1982) C dL_law_1865 (by decide) hf (fun hf => ?_) (fun hf => ?_)
    · exact gg_sub (L' := [none, none, none, none, none, none, none, none, none, none, none, none, none, none, none]) (by first | exact trivial | simp [gsub]) (hb_1982 (z + 1) (zn + 6) (by first | exact ar_l2 (z := z) hz rfl | omega) (by first | exact ar_l2 (z := zn) hzn rfl | omega) _ hf)
    · refine gg_aload_n C dL_law_1868 rfl ?_
      refine gg_bipush C dL_law_1869 (v := (115 : Int32)) (by decide) ?_
      refine gg_sipush C dL_law_1871 (v := (501 : Int32)) (by decide) ?_
      refine gr_I (k' := (z + 2)) (n' := (zn + 12)) (gk_SW (As := [va_rf l1, .int (115 : Int32), .int (501 : Int32)]) (rest := []) C dL_law_1874 tw_1156 tw_1157 tw_24 tw_1158 gd_L_sets rfl ⟨by decide, by decide⟩ (by simp [gcat, gcI, gcL, gcF, gcD]) ⟨(by show (z + 1) + 1 ≤ 649124; first | exact ar_l2 (z := z) hz rfl | omega), (by show (zn + 6) + 6 ≤ 7146723; first | exact ar_l2 (z := zn) hzn rfl | omega)⟩ (m_L_sets hfl hf)) (Nat.add_assoc z 1 1) (Nat.add_assoc zn 6 6) (fun E g9 h9 => h9.elim) (fun i107 g106 hf => ?_)
      refine gg_sipush C dL_law_1877 (v := (-1002 : Int32)) (by decide) ?_
      refine gg_icmp_ne (tgt := 1982) C dL_law_1880 (by decide) hf (fun hf => ?_) (fun hf => ?_)
      · exact gg_sub (L' := [none, none, none, none, none, none, none, none, none, none, none, none, none, none, none]) (by first | exact trivial | simp [gsub]) (hb_1982 (z + 2) (zn + 12) (by first | exact ar_l2 (z := z) hz rfl | omega) (by first | exact ar_l2 (z := zn) hzn rfl | omega) _ hf)
      · refine gg_aload_n C dL_law_1883 rfl ?_
        refine gg_bipush C dL_law_1884 (v := (98 : Int32)) (by decide) ?_
        refine gg_bipush C dL_law_1886 (v := (16 : Int32)) (by decide) ?_
        refine gr_I (k' := (z + 3)) (n' := (zn + 18)) (gk_SW (As := [va_rf l1, .int (98 : Int32), .int (16 : Int32)]) (rest := []) C dL_law_1888 tw_1156 tw_1157 tw_24 tw_1158 gd_L_sets rfl ⟨by decide, by decide⟩ (by simp [gcat, gcI, gcL, gcF, gcD]) ⟨(by show (z + 2) + 1 ≤ 649124; first | exact ar_l2 (z := z) hz rfl | omega), (by show (zn + 12) + 6 ≤ 7146723; first | exact ar_l2 (z := zn) hzn rfl | omega)⟩ (m_L_sets hfl hf)) (Nat.add_assoc z 2 1) (Nat.add_assoc zn 12 6) (fun E g9 h9 => h9.elim) (fun i109 g108 hf => ?_)
        refine gg_sipush C dL_law_1891 (v := (-1002 : Int32)) (by decide) ?_
        refine gg_icmp_ne (tgt := 1982) C dL_law_1894 (by decide) hf (fun hf => ?_) (fun hf => ?_)
        · exact gg_sub (L' := [none, none, none, none, none, none, none, none, none, none, none, none, none, none, none]) (by first | exact trivial | simp [gsub]) (hb_1982 (z + 3) (zn + 18) (by first | exact ar_l2 (z := z) hz rfl | omega) (by first | exact ar_l2 (z := zn) hzn rfl | omega) _ hf)
        · refine gg_aload_n C dL_law_1897 rfl ?_
          refine gg_bipush C dL_law_1898 (v := (111 : Int32)) (by decide) ?_
          refine gg_sipush C dL_law_1900 (v := (1001 : Int32)) (by decide) ?_
          refine gr_I (k' := (z + 4)) (n' := (zn + 24)) (gk_SW (As := [va_rf l1, .int (111 : Int32), .int (1001 : Int32)]) (rest := []) C dL_law_1903 tw_1156 tw_1157 tw_24 tw_1158 gd_L_sets rfl ⟨by decide, by decide⟩ (by simp [gcat, gcI, gcL, gcF, gcD]) ⟨(by show (z + 3) + 1 ≤ 649124; first | exact ar_l2 (z := z) hz rfl | omega), (by show (zn + 18) + 6 ≤ 7146723; first | exact ar_l2 (z := zn) hzn rfl | omega)⟩ (m_L_sets hfl hf)) (Nat.add_assoc z 3 1) (Nat.add_assoc zn 18 6) (fun E g9 h9 => h9.elim) (fun i111 g110 hf => ?_)
          refine gg_sipush C dL_law_1906 (v := (-1002 : Int32)) (by decide) ?_
          refine gg_icmp_ne (tgt := 1982) C dL_law_1909 (by decide) hf (fun hf => ?_) (fun hf => ?_)
          · exact gg_sub (L' := [none, none, none, none, none, none, none, none, none, none, none, none, none, none, none]) (by first | exact trivial | simp [gsub]) (hb_1982 (z + 4) (zn + 24) (by first | exact ar_l2 (z := z) hz rfl | omega) (by first | exact ar_l2 (z := zn) hzn rfl | omega) _ hf)
          · refine gg_aload_n C dL_law_1912 rfl ?_
            refine gg_bipush C dL_law_1913 (v := (114 : Int32)) (by decide) ?_
            refine gg_sipush C dL_law_1915 (v := (10000 : Int32)) (by decide) ?_
            refine gr_I (k' := (z + 5)) (n' := (zn + 30)) (gk_SW (As := [va_rf l1, .int (114 : Int32), .int (10000 : Int32)]) (rest := []) C dL_law_1918 tw_1156 tw_1157 tw_24 tw_1158 gd_L_sets rfl ⟨by decide, by decide⟩ (by simp [gcat, gcI, gcL, gcF, gcD]) ⟨(by show (z + 4) + 1 ≤ 649124; first | exact ar_l2 (z := z) hz rfl | omega), (by show (zn + 24) + 6 ≤ 7146723; first | exact ar_l2 (z := zn) hzn rfl | omega)⟩ (m_L_sets hfl hf)) (Nat.add_assoc z 4 1) (Nat.add_assoc zn 24 6) (fun E g9 h9 => h9.elim) (fun i113 g112 hf => ?_)
            refine gg_sipush C dL_law_1921 (v := (-1002 : Int32)) (by decide) ?_
            refine gg_icmp_ne (tgt := 1982) C dL_law_1924 (by decide) hf (fun hf => ?_) (fun hf => ?_)
            · exact gg_sub (L' := [none, none, none, none, none, none, none, none, none, none, none, none, none, none, none]) (by first | exact trivial | simp [gsub]) (hb_1982 (z + 5) (zn + 30) (by first | exact ar_l2 (z := z) hz rfl | omega) (by first | exact ar_l2 (z := zn) hzn rfl | omega) _ hf)
            · refine gg_aload_n C dL_law_1927 rfl ?_
              refine gg_bipush C dL_law_1928 (v := (100 : Int32)) (by decide) ?_
              refine gg_iconst C dL_law_1930 (v := (0 : Int32)) (by decide) ?_
              refine gr_I (k' := (z + 6)) (n' := (zn + 36)) (gk_SW (As := [va_rf l1, .int (100 : Int32), .int (0 : Int32)]) (rest := []) C dL_law_1931 tw_1156 tw_1157 tw_24 tw_1158 gd_L_sets rfl ⟨by decide, by decide⟩ (by simp [gcat, gcI, gcL, gcF, gcD]) ⟨(by show (z + 5) + 1 ≤ 649124; first | exact ar_l2 (z := z) hz rfl | omega), (by show (zn + 30) + 6 ≤ 7146723; first | exact ar_l2 (z := zn) hzn rfl | omega)⟩ (m_L_sets hfl hf)) (Nat.add_assoc z 5 1) (Nat.add_assoc zn 30 6) (fun E g9 h9 => h9.elim) (fun i115 g114 hf => ?_)
              refine gg_sipush C dL_law_1934 (v := (-1002 : Int32)) (by decide) ?_
              refine gg_icmp_ne (tgt := 1982) C dL_law_1937 (by decide) hf (fun hf => ?_) (fun hf => ?_)
              · exact gg_sub (L' := [none, none, none, none, none, none, none, none, none, none, none, none, none, none, none]) (by first | exact trivial | simp [gsub]) (hb_1982 (z + 6) (zn + 36) (by first | exact ar_l2 (z := z) hz rfl | omega) (by first | exact ar_l2 (z := zn) hzn rfl | omega) _ hf)
              · refine gg_aload_n C dL_law_1940 rfl ?_
                refine gg_bipush C dL_law_1941 (v := (100 : Int32)) (by decide) ?_
                refine gg_bipush C dL_law_1943 (v := (100 : Int32)) (by decide) ?_
                refine gr_I (k' := (z + 7)) (n' := (zn + 42)) (gk_SW (As := [va_rf l1, .int (100 : Int32), .int (100 : Int32)]) (rest := []) C dL_law_1945 tw_1156 tw_1157 tw_24 tw_1158 gd_L_sets rfl ⟨by decide, by decide⟩ (by simp [gcat, gcI, gcL, gcF, gcD]) ⟨(by show (z + 6) + 1 ≤ 649124; first | exact ar_l2 (z := z) hz rfl | omega), (by show (zn + 36) + 6 ≤ 7146723; first | exact ar_l2 (z := zn) hzn rfl | omega)⟩ (m_L_sets hfl hf)) (Nat.add_assoc z 6 1) (Nat.add_assoc zn 36 6) (fun E g9 h9 => h9.elim) (fun i117 g116 hf => ?_)
                refine gg_sipush C dL_law_1948 (v := (-1002 : Int32)) (by decide) ?_
                refine gg_icmp_ne (tgt := 1982) C dL_law_1951 (by decide) hf (fun hf => ?_) (fun hf => ?_)
                · exact gg_sub (L' := [none, none, none, none, none, none, none, none, none, none, none, none, none, none, none]) (by first | exact trivial | simp [gsub]) (hb_1982 (z + 7) (zn + 42) (by first | exact ar_l2 (z := z) hz rfl | omega) (by first | exact ar_l2 (z := zn) hzn rfl | omega) _ hf)
                · refine gg_aload_n C dL_law_1954 rfl ?_
                  refine gg_bipush C dL_law_1955 (v := (116 : Int32)) (by decide) ?_
                  refine gg_bipush C dL_law_1957 (v := (123 : Int32)) (by decide) ?_
                  refine gr_I (k' := (z + 8)) (n' := (zn + 48)) (gk_SW (As := [va_rf l1, .int (116 : Int32), .int (123 : Int32)]) (rest := []) C dL_law_1959 tw_1156 tw_1157 tw_24 tw_1158 gd_L_sets rfl ⟨by decide, by decide⟩ (by simp [gcat, gcI, gcL, gcF, gcD]) ⟨(by show (z + 7) + 1 ≤ 649124; first | exact ar_l2 (z := z) hz rfl | omega), (by show (zn + 42) + 6 ≤ 7146723; first | exact ar_l2 (z := zn) hzn rfl | omega)⟩ (m_L_sets hfl hf)) (Nat.add_assoc z 7 1) (Nat.add_assoc zn 42 6) (fun E g9 h9 => h9.elim) (fun i119 g118 hf => ?_)
                  refine gg_sipush C dL_law_1962 (v := (-1002 : Int32)) (by decide) ?_
                  refine gg_icmp_ne (tgt := 1982) C dL_law_1965 (by decide) hf (fun hf => ?_) (fun hf => ?_)
                  · exact gg_sub (L' := [none, none, none, none, none, none, none, none, none, none, none, none, none, none, none]) (by first | exact trivial | simp [gsub]) (hb_1982 (z + 8) (zn + 48) (by first | exact ar_l2 (z := z) hz rfl | omega) (by first | exact ar_l2 (z := zn) hzn rfl | omega) _ hf)
                  · refine gg_aload_n C dL_law_1968 rfl ?_
                    refine gg_bipush C dL_law_1969 (v := (116 : Int32)) (by decide) ?_
                    refine gg_bipush C dL_law_1971 (v := (90 : Int32)) (by decide) ?_
                    refine gr_I (k' := (z + 9)) (n' := (zn + 54)) (gk_SW (As := [va_rf l1, .int (116 : Int32), .int (90 : Int32)]) (rest := []) C dL_law_1973 tw_1156 tw_1157 tw_24 tw_1158 gd_L_sets rfl ⟨by decide, by decide⟩ (by simp [gcat, gcI, gcL, gcF, gcD]) ⟨(by show (z + 8) + 1 ≤ 649124; first | exact ar_l2 (z := z) hz rfl | omega), (by show (zn + 48) + 6 ≤ 7146723; first | exact ar_l2 (z := zn) hzn rfl | omega)⟩ (m_L_sets hfl hf)) (Nat.add_assoc z 8 1) (Nat.add_assoc zn 48 6) (fun E g9 h9 => h9.elim) (fun i121 g120 hf => ?_)
                    refine gg_sipush C dL_law_1976 (v := (-1002 : Int32)) (by decide) ?_
                    refine gg_icmp_eq (tgt := 1984) C dL_law_1979 (by decide) hf (fun hf => ?_) (fun hf => ?_)
                    · refine gg_aload_n C dL_law_1984 rfl ?_
                      refine gg_iload C dL_law_1985 rfl ?_
                      refine gg_iconst C dL_law_1987 (v := (-1 : Int32)) (by decide) ?_
                      refine gr_I (k' := (z + 11)) (n' := (zn + 66)) (gk_SW (As := [va_rf l1, .int l7, .int (-1 : Int32)]) (rest := []) C dL_law_1988 tw_1228 tw_1229 tw_24 tw_1230 gd_L_group rfl ⟨by decide, by decide⟩ (by simp [gcat, gcI, gcL, gcF, gcD]) ⟨(by show (z + 9) + 2 ≤ 649124; first | exact ar_l2 (z := z) hz rfl | omega), (by show (zn + 54) + 12 ≤ 7146723; first | exact ar_l2 (z := zn) hzn rfl | omega)⟩ (m_L_group hfl hf)) (Nat.add_assoc z 9 2) (Nat.add_assoc zn 54 12) (fun E g9 h9 => h9.elim) (fun i123 g122 hf => ?_)
                      refine gg_sipush C dL_law_1991 (v := (-1001 : Int32)) (by decide) ?_
                      refine gg_icmp_ne (tgt := 2145) C dL_law_1994 (by decide) hf (fun hf => ?_) (fun hf => ?_)
                      · exact gg_sub (L' := [none, none, none, none, none, none, none, none, none, none, none, none, none, none, none]) (by first | exact trivial | simp [gsub]) (hb_2145 (z + 11) (zn + 66) (by first | exact ar_l2 (z := z) hz rfl | omega) (by first | exact ar_l2 (z := zn) hzn rfl | omega) _ hf)
                      · refine gg_aload_n C dL_law_1997 rfl ?_
                        refine gg_iconst C dL_law_1998 (v := (-1 : Int32)) (by decide) ?_
                        refine gg_bipush C dL_law_1999 (v := (-2 : Int32)) (by decide) ?_
                        refine gr_I (k' := (z + 13)) (n' := (zn + 78)) (gk_SW (As := [va_rf l1, .int (-1 : Int32), .int (-2 : Int32)]) (rest := []) C dL_law_2001 tw_1228 tw_1229 tw_24 tw_1230 gd_L_group rfl ⟨by decide, by decide⟩ (by simp [gcat, gcI, gcL, gcF, gcD]) ⟨(by show (z + 11) + 2 ≤ 649124; first | exact ar_l2 (z := z) hz rfl | omega), (by show (zn + 66) + 12 ≤ 7146723; first | exact ar_l2 (z := zn) hzn rfl | omega)⟩ (m_L_group hfl hf)) (Nat.add_assoc z 11 2) (Nat.add_assoc zn 66 12) (fun E g9 h9 => h9.elim) (fun i125 g124 hf => ?_)
                        refine gg_sipush C dL_law_2004 (v := (-1001 : Int32)) (by decide) ?_
                        refine gg_icmp_ne (tgt := 2145) C dL_law_2007 (by decide) hf (fun hf => ?_) (fun hf => ?_)
                        · exact gg_sub (L' := [none, none, none, none, none, none, none, none, none, none, none, none, none, none, none]) (by first | exact trivial | simp [gsub]) (hb_2145 (z + 13) (zn + 78) (by first | exact ar_l2 (z := z) hz rfl | omega) (by first | exact ar_l2 (z := zn) hzn rfl | omega) _ hf)
                        · refine gg_aload_n C dL_law_2010 rfl ?_
                          refine gg_iload C dL_law_2011 rfl ?_
                          refine gg_iconst C dL_law_2013 (v := (0 : Int32)) (by decide) ?_
                          refine gr_I (k' := (z + 15)) (n' := (zn + 90)) (gk_SW (As := [va_rf l1, .int l7, .int (0 : Int32)]) (rest := []) C dL_law_2014 tw_1228 tw_1229 tw_24 tw_1230 gd_L_group rfl ⟨by decide, by decide⟩ (by simp [gcat, gcI, gcL, gcF, gcD]) ⟨(by show (z + 13) + 2 ≤ 649124; first | exact ar_l2 (z := z) hz rfl | omega), (by show (zn + 78) + 12 ≤ 7146723; first | exact ar_l2 (z := zn) hzn rfl | omega)⟩ (m_L_group hfl hf)) (Nat.add_assoc z 13 2) (Nat.add_assoc zn 78 12) (fun E g9 h9 => h9.elim) (fun i127 g126 hf => ?_)
                          refine gg_sipush C dL_law_2017 (v := (-1001 : Int32)) (by decide) ?_
                          refine gg_icmp_ne (tgt := 2145) C dL_law_2020 (by decide) hf (fun hf => ?_) (fun hf => ?_)
                          · exact gg_sub (L' := [none, none, none, none, none, none, none, none, none, none, none, none, none, none, none]) (by first | exact trivial | simp [gsub]) (hb_2145 (z + 15) (zn + 90) (by first | exact ar_l2 (z := z) hz rfl | omega) (by first | exact ar_l2 (z := zn) hzn rfl | omega) _ hf)
                          · refine gg_iload C dL_law_2023 rfl ?_
                            refine gg_if_eq (tgt := 2054) C dL_law_2025 (by decide) hf (fun hf => ?_) (fun hf => ?_)
                            · exact hb_2054 (z + 15) (zn + 90) (by first | exact ar_l2 (z := z) hz rfl | omega) (by first | exact ar_l2 (z := zn) hzn rfl | omega) _ _ _ _ _ hf
                            · refine gg_aload_n C dL_law_2028 rfl ?_
                              refine gg_iconst C dL_law_2029 (v := (0 : Int32)) (by decide) ?_
                              refine gg_bipush C dL_law_2030 (v := (6 : Int32)) (by decide) ?_
                              refine gr_I (k' := (z + 17)) (n' := (zn + 102)) (gk_SW (As := [va_rf l1, .int (0 : Int32), .int (6 : Int32)]) (rest := []) C dL_law_2032 tw_1228 tw_1229 tw_24 tw_1230 gd_L_group rfl ⟨by decide, by decide⟩ (by simp [gcat, gcI, gcL, gcF, gcD]) ⟨(by show (z + 15) + 2 ≤ 649124; first | exact ar_l2 (z := z) hz rfl | omega), (by show (zn + 90) + 12 ≤ 7146723; first | exact ar_l2 (z := zn) hzn rfl | omega)⟩ (m_L_group hfl hf)) (Nat.add_assoc z 15 2) (Nat.add_assoc zn 90 12) (fun E g9 h9 => h9.elim) (fun i143 g142 hf => ?_)
                              refine gg_sipush C dL_law_2035 (v := (-1005 : Int32)) (by decide) ?_
                              refine gg_icmp_ne (tgt := 2145) C dL_law_2038 (by decide) hf (fun hf => ?_) (fun hf => ?_)
                              · exact gg_sub (L' := [none, none, none, none, none, none, none, none, none, none, none, none, none, none, none]) (by first | exact trivial | simp [gsub]) (hb_2145 (z + 17) (zn + 102) (by first | exact ar_l2 (z := z) hz rfl | omega) (by first | exact ar_l2 (z := zn) hzn rfl | omega) _ hf)
                              · refine gg_aload_n C dL_law_2041 rfl ?_
                                refine gg_iconst C dL_law_2042 (v := (0 : Int32)) (by decide) ?_
                                refine gg_bipush C dL_law_2043 (v := (-3 : Int32)) (by decide) ?_
                                refine gr_I (k' := (z + 19)) (n' := (zn + 114)) (gk_SW (As := [va_rf l1, .int (0 : Int32), .int (-3 : Int32)]) (rest := []) C dL_law_2045 tw_1228 tw_1229 tw_24 tw_1230 gd_L_group rfl ⟨by decide, by decide⟩ (by simp [gcat, gcI, gcL, gcF, gcD]) ⟨(by show (z + 17) + 2 ≤ 649124; first | exact ar_l2 (z := z) hz rfl | omega), (by show (zn + 102) + 12 ≤ 7146723; first | exact ar_l2 (z := zn) hzn rfl | omega)⟩ (m_L_group hfl hf)) (Nat.add_assoc z 17 2) (Nat.add_assoc zn 102 12) (fun E g9 h9 => h9.elim) (fun i145 g144 hf => ?_)
                                refine gg_sipush C dL_law_2048 (v := (-1005 : Int32)) (by decide) ?_
                                refine gg_icmp_ne (tgt := 2145) C dL_law_2051 (by decide) hf (fun hf => ?_) (fun hf => ?_)
                                · exact gg_sub (L' := [none, none, none, none, none, none, none, none, none, none, none, none, none, none, none]) (by first | exact trivial | simp [gsub]) (hb_2145 (z + 19) (zn + 114) (by first | exact ar_l2 (z := z) hz rfl | omega) (by first | exact ar_l2 (z := zn) hzn rfl | omega) _ hf)
                                · exact hb_2054 (z + 19) (zn + 114) (by first | exact ar_l2 (z := z) hz rfl | omega) (by first | exact ar_l2 (z := zn) hzn rfl | omega) _ _ _ _ _ hf
                    · exact gg_sub (L' := [none, none, none, none, none, none, none, none, none, none, none, none, none, none, none]) (by first | exact trivial | simp [gsub]) (hb_1982 (z + 9) (zn + 54) (by first | exact ar_l2 (z := z) hz rfl | omega) (by first | exact ar_l2 (z := zn) hzn rfl | omega) _ hf)
  have hb_1820 : ∀ (z zn : Nat) (hz : z + (1083) ≤ 649124) (hzn : zn + (7850) ≤ 7146723) (l1 : Option Nat) (l3 : Int64) (l5 : Int32) (l7 : Int32) (g : GM), w_L_law_b1820 X post px  l1 l3 l5 l7 g → GG X p l e room_1 s m args below meth c 15 Q z zn 1820 [none, some (va_rf l1), none, some (.long l3), none, some (.int l5), none, some (.int l7), none, none, none, none, none, none, none] [] g := by
    intro  z zn hz hzn l1 l3 l5 l7 g hf
    unfold w_L_law_b1820 at hf
    refine gg_aload_n C dL_law_1820 rfl ?_
    refine gg_bipush C dL_law_1821 (v := (112 : Int32)) (by decide) ?_
    refine gg_iload C dL_law_1823 rfl ?_
    refine gg_iconst C dL_law_1825 (v := (0 : Int32)) (by decide) ?_
    refine gr_I (k' := (z + 4)) (n' := (zn + 24)) (gk_SW (As := [va_rf l1, .int (112 : Int32), .int l5, .int (0 : Int32)]) (rest := []) C dL_law_1826 tw_1105 tw_1106 tw_24 tw_1107 gd_L_both rfl ⟨by decide, by decide⟩ (by simp [gcat, gcI, gcL, gcF, gcD]) ⟨(by show z + 4 ≤ 649124; first | exact ar_l (z := z) hz rfl | omega), (by show zn + 24 ≤ 7146723; first | exact ar_l (z := zn) hzn rfl | omega)⟩ (m_L_both hfl hf)) rfl rfl (fun E g9 h9 => h9.elim) (fun i103 g102 hf => ?_)
    refine gg_sipush C dL_law_1829 (v := (-1001 : Int32)) (by decide) ?_
    refine gg_icmp_ne (tgt := 1982) C dL_law_1832 (by decide) hf (fun hf => ?_) (fun hf => ?_)
    · exact gg_sub (L' := [none, none, none, none, none, none, none, none, none, none, none, none, none, none, none]) (by first | exact trivial | simp [gsub]) (hb_1982 (z + 4) (zn + 24) (by first | exact ar_l2 (z := z) hz rfl | omega) (by first | exact ar_l2 (z := zn) hzn rfl | omega) _ hf)
    · refine gg_iload C dL_law_1835 rfl ?_
      refine gg_if_le (tgt := 1855) C dL_law_1837 (by decide) hf (fun hf => ?_) (fun hf => ?_)
      · exact hb_1855 (z + 4) (zn + 24) (by first | exact ar_l2 (z := z) hz rfl | omega) (by first | exact ar_l2 (z := zn) hzn rfl | omega) _ _ _ _ _ hf
      · refine gg_aload_n C dL_law_1840 rfl ?_
        refine gg_bipush C dL_law_1841 (v := (112 : Int32)) (by decide) ?_
        refine gg_iconst C dL_law_1843 (v := (0 : Int32)) (by decide) ?_
        refine gg_bipush C dL_law_1844 (v := (100 : Int32)) (by decide) ?_
        refine gr_I (k' := (z + 8)) (n' := (zn + 48)) (gk_SW (As := [va_rf l1, .int (112 : Int32), .int (0 : Int32), .int (100 : Int32)]) (rest := []) C dL_law_1846 tw_1105 tw_1106 tw_24 tw_1107 gd_L_both rfl ⟨by decide, by decide⟩ (by simp [gcat, gcI, gcL, gcF, gcD]) ⟨(by show (z + 4) + 4 ≤ 649124; first | exact ar_l2 (z := z) hz rfl | omega), (by show (zn + 24) + 24 ≤ 7146723; first | exact ar_l2 (z := zn) hzn rfl | omega)⟩ (m_L_both hfl hf)) (Nat.add_assoc z 4 4) (Nat.add_assoc zn 24 24) (fun E g9 h9 => h9.elim) (fun i147 g146 hf => ?_)
        refine gg_sipush C dL_law_1849 (v := (-1002 : Int32)) (by decide) ?_
        refine gg_icmp_ne (tgt := 1982) C dL_law_1852 (by decide) hf (fun hf => ?_) (fun hf => ?_)
        · exact gg_sub (L' := [none, none, none, none, none, none, none, none, none, none, none, none, none, none, none]) (by first | exact trivial | simp [gsub]) (hb_1982 (z + 8) (zn + 48) (by first | exact ar_l2 (z := z) hz rfl | omega) (by first | exact ar_l2 (z := zn) hzn rfl | omega) _ hf)
        · exact hb_1855 (z + 8) (zn + 48) (by first | exact ar_l2 (z := z) hz rfl | omega) (by first | exact ar_l2 (z := zn) hzn rfl | omega) _ _ _ _ _ hf
  have hb_1800 : ∀ (z zn : Nat) (hz : z + (1087) ≤ 649124) (hzn : zn + (7874) ≤ 7146723) (l1 : Option Nat) (l3 : Int64) (l5 : Int32) (l6 : Int32) (l7 : Int32) (g : GM), w_L_law_b1800 X post px  l1 l3 l5 l6 l7 g → GG X p l e room_1 s m args below meth c 15 Q z zn 1800 [none, some (va_rf l1), none, some (.long l3), none, some (.int l5), some (.int l6), some (.int l7), none, none, none, none, none, none, none] [] g := by
    intro  z zn hz hzn l1 l3 l5 l6 l7 g hf
    unfold w_L_law_b1800 at hf
    refine gg_iload C dL_law_1800 rfl ?_
    refine gg_if_le (tgt := 1820) C dL_law_1802 (by decide) hf (fun hf => ?_) (fun hf => ?_)
    · exact gg_sub (L' := [none, some (va_rf l1), none, some (.long l3), none, some (.int l5), none, some (.int l7), none, none, none, none, none, none, none]) (by first | exact ⟨rfl, ⟨rfl, ⟨rfl, ⟨rfl, trivial⟩⟩⟩⟩ | simp [gsub]) (hb_1820 z zn (by first | exact ar_l (z := z) hz rfl | omega) (by first | exact ar_l (z := zn) hzn rfl | omega) _ _ _ _ _ hf)
    · refine gg_aload_n C dL_law_1805 rfl ?_
      refine gg_bipush C dL_law_1806 (v := (117 : Int32)) (by decide) ?_
      refine gg_iconst C dL_law_1808 (v := (0 : Int32)) (by decide) ?_
      refine gg_bipush C dL_law_1809 (v := (8 : Int32)) (by decide) ?_
      refine gr_I (k' := (z + 4)) (n' := (zn + 24)) (gk_SW (As := [va_rf l1, .int (117 : Int32), .int (0 : Int32), .int (8 : Int32)]) (rest := []) C dL_law_1811 tw_1105 tw_1106 tw_24 tw_1107 gd_L_both rfl ⟨by decide, by decide⟩ (by simp [gcat, gcI, gcL, gcF, gcD]) ⟨(by show z + 4 ≤ 649124; first | exact ar_l (z := z) hz rfl | omega), (by show zn + 24 ≤ 7146723; first | exact ar_l (z := zn) hzn rfl | omega)⟩ (m_L_both hfl hf)) rfl rfl (fun E g9 h9 => h9.elim) (fun i149 g148 hf => ?_)
      refine gg_sipush C dL_law_1814 (v := (-1002 : Int32)) (by decide) ?_
      refine gg_icmp_ne (tgt := 1982) C dL_law_1817 (by decide) hf (fun hf => ?_) (fun hf => ?_)
      · exact gg_sub (L' := [none, none, none, none, none, none, none, none, none, none, none, none, none, none, none]) (by first | exact trivial | simp [gsub]) (hb_1982 (z + 4) (zn + 24) (by first | exact ar_l2 (z := z) hz rfl | omega) (by first | exact ar_l2 (z := zn) hzn rfl | omega) _ hf)
      · exact gg_sub (L' := [none, some (va_rf l1), none, some (.long l3), none, some (.int l5), none, some (.int l7), none, none, none, none, none, none, none]) (by first | exact ⟨rfl, ⟨rfl, ⟨rfl, ⟨rfl, trivial⟩⟩⟩⟩ | simp [gsub]) (hb_1820 (z + 4) (zn + 24) (by first | exact ar_l2 (z := z) hz rfl | omega) (by first | exact ar_l2 (z := zn) hzn rfl | omega) _ _ _ _ _ hf)
  have hb_1781 : ∀ (z zn : Nat) (hz : z + (1091) ≤ 649124) (hzn : zn + (7898) ≤ 7146723) (l1 : Option Nat) (l3 : Int64) (l5 : Int32) (l6 : Int32) (l7 : Int32) (g : GM), w_L_law_b1781 X post px  l1 l3 l5 l6 l7 g → GG X p l e room_1 s m args below meth c 15 Q z zn 1781 [none, some (va_rf l1), none, some (.long l3), none, some (.int l5), some (.int l6), some (.int l7), none, none, none, none, none, none, none] [] g := by
    intro  z zn hz hzn l1 l3 l5 l6 l7 g hf
    unfold w_L_law_b1781 at hf
    refine gg_iload C dL_law_1781 rfl ?_
    refine gg_if_le (tgt := 1800) C dL_law_1783 (by decide) hf (fun hf => ?_) (fun hf => ?_)
    · exact hb_1800 z zn (by first | exact ar_l (z := z) hz rfl | omega) (by first | exact ar_l (z := zn) hzn rfl | omega) _ _ _ _ _ _ hf
    · refine gg_aload_n C dL_law_1786 rfl ?_
      refine gg_bipush C dL_law_1787 (v := (111 : Int32)) (by decide) ?_
      refine gg_iconst C dL_law_1789 (v := (0 : Int32)) (by decide) ?_
      refine gg_iconst C dL_law_1790 (v := (-1 : Int32)) (by decide) ?_
      refine gr_I (k' := (z + 4)) (n' := (zn + 24)) (gk_SW (As := [va_rf l1, .int (111 : Int32), .int (0 : Int32), .int (-1 : Int32)]) (rest := []) C dL_law_1791 tw_1105 tw_1106 tw_24 tw_1107 gd_L_both rfl ⟨by decide, by decide⟩ (by simp [gcat, gcI, gcL, gcF, gcD]) ⟨(by show z + 4 ≤ 649124; first | exact ar_l (z := z) hz rfl | omega), (by show zn + 24 ≤ 7146723; first | exact ar_l (z := zn) hzn rfl | omega)⟩ (m_L_both hfl hf)) rfl rfl (fun E g9 h9 => h9.elim) (fun i151 g150 hf => ?_)
      refine gg_sipush C dL_law_1794 (v := (-1002 : Int32)) (by decide) ?_
      refine gg_icmp_ne (tgt := 1982) C dL_law_1797 (by decide) hf (fun hf => ?_) (fun hf => ?_)
      · exact gg_sub (L' := [none, none, none, none, none, none, none, none, none, none, none, none, none, none, none]) (by first | exact trivial | simp [gsub]) (hb_1982 (z + 4) (zn + 24) (by first | exact ar_l2 (z := z) hz rfl | omega) (by first | exact ar_l2 (z := zn) hzn rfl | omega) _ hf)
      · exact hb_1800 (z + 4) (zn + 24) (by first | exact ar_l2 (z := z) hz rfl | omega) (by first | exact ar_l2 (z := zn) hzn rfl | omega) _ _ _ _ _ _ hf
  have hb_1745 : ∀ (z zn : Nat) (hz : z + (1099) ≤ 649124) (hzn : zn + (7946) ≤ 7146723) (l1 : Option Nat) (l3 : Int64) (l5 : Int32) (l6 : Int32) (l7 : Int32) (g : GM), w_L_law_b1745 X post px  l1 l3 l5 l6 l7 g → GG X p l e room_1 s m args below meth c 15 Q z zn 1745 [none, some (va_rf l1), none, some (.long l3), none, some (.int l5), some (.int l6), some (.int l7), none, none, none, none, none, none, none] [] g := by
    intro  z zn hz hzn l1 l3 l5 l6 l7 g hf
    unfold w_L_law_b1745 at hf
    refine gg_aload_n C dL_law_1745 rfl ?_
    refine gg_bipush C dL_law_1746 (v := (98 : Int32)) (by decide) ?_
    refine gg_iload C dL_law_1748 rfl ?_
    refine gg_bipush C dL_law_1750 (v := (9 : Int32)) (by decide) ?_
    refine gr_I (k' := (z + 4)) (n' := (zn + 24)) (gk_SW (As := [va_rf l1, .int (98 : Int32), .int l6, .int (9 : Int32)]) (rest := []) C dL_law_1752 tw_1105 tw_1106 tw_24 tw_1107 gd_L_both rfl ⟨by decide, by decide⟩ (by simp [gcat, gcI, gcL, gcF, gcD]) ⟨(by show z + 4 ≤ 649124; first | exact ar_l (z := z) hz rfl | omega), (by show zn + 24 ≤ 7146723; first | exact ar_l (z := zn) hzn rfl | omega)⟩ (m_L_both hfl hf)) rfl rfl (fun E g9 h9 => h9.elim) (fun i101 g100 hf => ?_)
    refine gg_sipush C dL_law_1755 (v := (-1001 : Int32)) (by decide) ?_
    refine gg_icmp_ne (tgt := 1982) C dL_law_1758 (by decide) hf (fun hf => ?_) (fun hf => ?_)
    · exact gg_sub (L' := [none, none, none, none, none, none, none, none, none, none, none, none, none, none, none]) (by first | exact trivial | simp [gsub]) (hb_1982 (z + 4) (zn + 24) (by first | exact ar_l2 (z := z) hz rfl | omega) (by first | exact ar_l2 (z := zn) hzn rfl | omega) _ hf)
    · refine gg_iload C dL_law_1761 rfl ?_
      refine gg_if_le (tgt := 1781) C dL_law_1763 (by decide) hf (fun hf => ?_) (fun hf => ?_)
      · exact hb_1781 (z + 4) (zn + 24) (by first | exact ar_l2 (z := z) hz rfl | omega) (by first | exact ar_l2 (z := zn) hzn rfl | omega) _ _ _ _ _ _ hf
      · refine gg_aload_n C dL_law_1766 rfl ?_
        refine gg_bipush C dL_law_1767 (v := (98 : Int32)) (by decide) ?_
        refine gg_iconst C dL_law_1769 (v := (0 : Int32)) (by decide) ?_
        refine gg_bipush C dL_law_1770 (v := (8 : Int32)) (by decide) ?_
        refine gr_I (k' := (z + 8)) (n' := (zn + 48)) (gk_SW (As := [va_rf l1, .int (98 : Int32), .int (0 : Int32), .int (8 : Int32)]) (rest := []) C dL_law_1772 tw_1105 tw_1106 tw_24 tw_1107 gd_L_both rfl ⟨by decide, by decide⟩ (by simp [gcat, gcI, gcL, gcF, gcD]) ⟨(by show (z + 4) + 4 ≤ 649124; first | exact ar_l2 (z := z) hz rfl | omega), (by show (zn + 24) + 24 ≤ 7146723; first | exact ar_l2 (z := zn) hzn rfl | omega)⟩ (m_L_both hfl hf)) (Nat.add_assoc z 4 4) (Nat.add_assoc zn 24 24) (fun E g9 h9 => h9.elim) (fun i153 g152 hf => ?_)
        refine gg_sipush C dL_law_1775 (v := (-1002 : Int32)) (by decide) ?_
        refine gg_icmp_ne (tgt := 1982) C dL_law_1778 (by decide) hf (fun hf => ?_) (fun hf => ?_)
        · exact gg_sub (L' := [none, none, none, none, none, none, none, none, none, none, none, none, none, none, none]) (by first | exact trivial | simp [gsub]) (hb_1982 (z + 8) (zn + 48) (by first | exact ar_l2 (z := z) hz rfl | omega) (by first | exact ar_l2 (z := zn) hzn rfl | omega) _ hf)
        · exact hb_1781 (z + 8) (zn + 48) (by first | exact ar_l2 (z := z) hz rfl | omega) (by first | exact ar_l2 (z := zn) hzn rfl | omega) _ _ _ _ _ _ hf
  have hb_1672 : ∀ (z zn : Nat) (hz : z + (0) ≤ 649124) (hzn : zn + (0) ≤ 7146723)  (g : GM), w_L_law_b1672 X post px   g → GG X p l e room_1 s m args below meth c 15 Q z zn 1672 [none, none, none, none, none, none, none, none, none, none, none, none, none, none, none] [] g := by
    intro  z zn hz hzn  g hf
    unfold w_L_law_b1672 at hf
    refine gg_iconst C dL_law_1672 (v := (0 : Int32)) (by decide) ?_
    exact hf.elim
  have hb_1639 : ∀ (f z zn : Nat) (hz : z + (f * 12 + 1115) ≤ 649124) (hzn : zn + (f * 176 + 8042) ≤ 7146723) (l1 : Option Nat) (l3 : Int64) (l5 : Int32) (l6 : Int32) (l7 : Int32) (l8 : Int32) (g : GM), w_L_law_l1639 X post px  f l1 l3 l5 l6 l7 l8 g → GG X p l e room_1 s m args below meth c 15 Q z zn 1639 [none, some (va_rf l1), none, some (.long l3), none, some (.int l5), some (.int l6), some (.int l7), some (.int l8), none, none, none, none, none, none] [] g := by
    intro  f
    induction f with
    | zero => intro z zn hz hzn l1 l3 l5 l6 l7 l8 g hf; exact (show False from hf).elim
    | succ f ih =>
      intro z zn hz hzn l1 l3 l5 l6 l7 l8 g hf
      rw [w_L_law_l1639] at hf
      refine gg_iload C dL_law_1639 rfl ?_
      refine gg_iconst C dL_law_1641 (v := (4 : Int32)) (by decide) ?_
      refine gg_icmp_ge (tgt := 1680) C dL_law_1642 (by decide) hf (fun hf => ?_) (fun hf => ?_)
      · refine gg_aload_n C dL_law_1680 rfl ?_
        refine gg_bipush C dL_law_1681 (v := (99 : Int32)) (by decide) ?_
        refine gg_iload C dL_law_1683 rfl ?_
        refine gg_iconst C dL_law_1685 (v := (0 : Int32)) (by decide) ?_
        refine gr_I (k' := (z + 4)) (n' := (zn + 24)) (gk_SW (As := [va_rf l1, .int (99 : Int32), .int l6, .int (0 : Int32)]) (rest := []) C dL_law_1686 tw_1105 tw_1106 tw_24 tw_1107 gd_L_both rfl ⟨by decide, by decide⟩ (by simp [gcat, gcI, gcL, gcF, gcD]) ⟨(by show z + 4 ≤ 649124; first | exact ar_f (z := z) hz rfl | omega), (by show zn + 24 ≤ 7146723; first | exact ar_f (z := zn) hzn rfl | omega)⟩ (m_L_both hfl hf)) rfl rfl (fun E g9 h9 => h9.elim) (fun i95 g94 hf => ?_)
        refine gg_sipush C dL_law_1689 (v := (-1001 : Int32)) (by decide) ?_
        refine gg_icmp_ne (tgt := 1982) C dL_law_1692 (by decide) hf (fun hf => ?_) (fun hf => ?_)
        · exact gg_sub (L' := [none, none, none, none, none, none, none, none, none, none, none, none, none, none, none]) (by first | exact trivial | simp [gsub]) (hb_1982 (z + 4) (zn + 24) (by first | exact ar_f2 (z := z) hz rfl | omega) (by first | exact ar_f2 (z := zn) hzn rfl | omega) _ hf)
        · refine gg_aload_n C dL_law_1695 rfl ?_
          refine gg_bipush C dL_law_1696 (v := (99 : Int32)) (by decide) ?_
          refine gg_iconst C dL_law_1698 (v := (0 : Int32)) (by decide) ?_
          refine gg_iload C dL_law_1699 rfl ?_
          refine gr_I (k' := (z + 8)) (n' := (zn + 48)) (gk_SW (As := [va_rf l1, .int (99 : Int32), .int (0 : Int32), .int l5]) (rest := []) C dL_law_1701 tw_1105 tw_1106 tw_24 tw_1107 gd_L_both rfl ⟨by decide, by decide⟩ (by simp [gcat, gcI, gcL, gcF, gcD]) ⟨(by show (z + 4) + 4 ≤ 649124; first | exact ar_f2 (z := z) hz rfl | omega), (by show (zn + 24) + 24 ≤ 7146723; first | exact ar_f2 (z := zn) hzn rfl | omega)⟩ (m_L_both hfl hf)) (Nat.add_assoc z 4 4) (Nat.add_assoc zn 24 24) (fun E g9 h9 => h9.elim) (fun i97 g96 hf => ?_)
          refine gg_sipush C dL_law_1704 (v := (-1001 : Int32)) (by decide) ?_
          refine gg_icmp_ne (tgt := 1982) C dL_law_1707 (by decide) hf (fun hf => ?_) (fun hf => ?_)
          · exact gg_sub (L' := [none, none, none, none, none, none, none, none, none, none, none, none, none, none, none]) (by first | exact trivial | simp [gsub]) (hb_1982 (z + 8) (zn + 48) (by first | exact ar_f2 (z := z) hz rfl | omega) (by first | exact ar_f2 (z := zn) hzn rfl | omega) _ hf)
          · refine gg_aload_n C dL_law_1710 rfl ?_
            refine gg_bipush C dL_law_1711 (v := (114 : Int32)) (by decide) ?_
            refine gg_iload C dL_law_1713 rfl ?_
            refine gg_iconst C dL_law_1715 (v := (0 : Int32)) (by decide) ?_
            refine gr_I (k' := (z + 12)) (n' := (zn + 72)) (gk_SW (As := [va_rf l1, .int (114 : Int32), .int l6, .int (0 : Int32)]) (rest := []) C dL_law_1716 tw_1105 tw_1106 tw_24 tw_1107 gd_L_both rfl ⟨by decide, by decide⟩ (by simp [gcat, gcI, gcL, gcF, gcD]) ⟨(by show (z + 8) + 4 ≤ 649124; first | exact ar_f2 (z := z) hz rfl | omega), (by show (zn + 48) + 24 ≤ 7146723; first | exact ar_f2 (z := zn) hzn rfl | omega)⟩ (m_L_both hfl hf)) (Nat.add_assoc z 8 4) (Nat.add_assoc zn 48 24) (fun E g9 h9 => h9.elim) (fun i99 g98 hf => ?_)
            refine gg_sipush C dL_law_1719 (v := (-1001 : Int32)) (by decide) ?_
            refine gg_icmp_ne (tgt := 1982) C dL_law_1722 (by decide) hf (fun hf => ?_) (fun hf => ?_)
            · exact gg_sub (L' := [none, none, none, none, none, none, none, none, none, none, none, none, none, none, none]) (by first | exact trivial | simp [gsub]) (hb_1982 (z + 12) (zn + 72) (by first | exact ar_f2 (z := z) hz rfl | omega) (by first | exact ar_f2 (z := zn) hzn rfl | omega) _ hf)
            · refine gg_iload C dL_law_1725 rfl ?_
              refine gg_if_le (tgt := 1745) C dL_law_1727 (by decide) hf (fun hf => ?_) (fun hf => ?_)
              · exact gg_sub (L' := [none, some (va_rf l1), none, some (.long l3), none, some (.int l5), some (.int l6), some (.int l7), none, none, none, none, none, none, none]) (by first | exact ⟨rfl, ⟨rfl, ⟨rfl, ⟨rfl, ⟨rfl, trivial⟩⟩⟩⟩⟩ | simp [gsub]) (hb_1745 (z + 12) (zn + 72) (by first | exact ar_f2 (z := z) hz rfl | omega) (by first | exact ar_f2 (z := zn) hzn rfl | omega) _ _ _ _ _ _ hf)
              · refine gg_aload_n C dL_law_1730 rfl ?_
                refine gg_bipush C dL_law_1731 (v := (114 : Int32)) (by decide) ?_
                refine gg_iconst C dL_law_1733 (v := (0 : Int32)) (by decide) ?_
                refine gg_bipush C dL_law_1734 (v := (6 : Int32)) (by decide) ?_
                refine gr_I (k' := (z + 16)) (n' := (zn + 96)) (gk_SW (As := [va_rf l1, .int (114 : Int32), .int (0 : Int32), .int (6 : Int32)]) (rest := []) C dL_law_1736 tw_1105 tw_1106 tw_24 tw_1107 gd_L_both rfl ⟨by decide, by decide⟩ (by simp [gcat, gcI, gcL, gcF, gcD]) ⟨(by show (z + 12) + 4 ≤ 649124; first | exact ar_f2 (z := z) hz rfl | omega), (by show (zn + 72) + 24 ≤ 7146723; first | exact ar_f2 (z := zn) hzn rfl | omega)⟩ (m_L_both hfl hf)) (Nat.add_assoc z 12 4) (Nat.add_assoc zn 72 24) (fun E g9 h9 => h9.elim) (fun i155 g154 hf => ?_)
                refine gg_sipush C dL_law_1739 (v := (-1002 : Int32)) (by decide) ?_
                refine gg_icmp_ne (tgt := 1982) C dL_law_1742 (by decide) hf (fun hf => ?_) (fun hf => ?_)
                · exact gg_sub (L' := [none, none, none, none, none, none, none, none, none, none, none, none, none, none, none]) (by first | exact trivial | simp [gsub]) (hb_1982 (z + 16) (zn + 96) (by first | exact ar_f2 (z := z) hz rfl | omega) (by first | exact ar_f2 (z := zn) hzn rfl | omega) _ hf)
                · exact gg_sub (L' := [none, some (va_rf l1), none, some (.long l3), none, some (.int l5), some (.int l6), some (.int l7), none, none, none, none, none, none, none]) (by first | exact ⟨rfl, ⟨rfl, ⟨rfl, ⟨rfl, ⟨rfl, trivial⟩⟩⟩⟩⟩ | simp [gsub]) (hb_1745 (z + 16) (zn + 96) (by first | exact ar_f2 (z := z) hz rfl | omega) (by first | exact ar_f2 (z := zn) hzn rfl | omega) _ _ _ _ _ _ hf)
      · refine gg_aload_n C dL_law_1645 rfl ?_
        refine gg_iload C dL_law_1646 rfl ?_
        refine gg_iload C dL_law_1648 rfl ?_
        refine gr_I (k' := (z + 6)) (n' := (zn + 88)) (gk_SW (As := [va_rf l1, .int l6, .int l8]) (rest := []) C dL_law_1650 tw_1008 tw_1009 tw_24 tw_1010 gd_L_device rfl ⟨by decide, by decide⟩ (by simp [gcat, gcI, gcL, gcF, gcD]) ⟨(by show z + 6 ≤ 649124; first | exact ar_f (z := z) hz rfl | omega), (by show zn + 88 ≤ 7146723; first | exact ar_f (z := zn) hzn rfl | omega)⟩ (m_L_device hfl hf)) rfl rfl (fun E g9 h9 => h9.elim) (fun i157 g156 hf => ?_)
        refine gg_sipush C dL_law_1653 (v := (-1001 : Int32)) (by decide) ?_
        refine gg_icmp_ne (tgt := 1672) C dL_law_1656 (by decide) hf (fun hf => ?_) (fun hf => ?_)
        · exact gg_sub (L' := [none, none, none, none, none, none, none, none, none, none, none, none, none, none, none]) (by first | exact trivial | simp [gsub]) (hb_1672 (z + 6) (zn + 88) (by first | exact ar_f2 (z := z) hz rfl | omega) (by first | exact ar_f2 (z := zn) hzn rfl | omega) _ hf)
        · refine gg_aload_n C dL_law_1659 rfl ?_
          refine gg_iconst C dL_law_1660 (v := (-1 : Int32)) (by decide) ?_
          refine gg_iload C dL_law_1661 rfl ?_
          refine gr_I (k' := (z + 12)) (n' := (zn + 176)) (gk_SW (As := [va_rf l1, .int (-1 : Int32), .int l8]) (rest := []) C dL_law_1663 tw_1008 tw_1009 tw_24 tw_1010 gd_L_device rfl ⟨by decide, by decide⟩ (by simp [gcat, gcI, gcL, gcF, gcD]) ⟨(by show (z + 6) + 6 ≤ 649124; first | exact ar_f2 (z := z) hz rfl | omega), (by show (zn + 88) + 88 ≤ 7146723; first | exact ar_f2 (z := zn) hzn rfl | omega)⟩ (m_L_device hfl hf)) (Nat.add_assoc z 6 6) (Nat.add_assoc zn 88 88) (fun E g9 h9 => h9.elim) (fun i159 g158 hf => ?_)
          refine gg_sipush C dL_law_1666 (v := (-1001 : Int32)) (by decide) ?_
          refine gg_icmp_eq (tgt := 1674) C dL_law_1669 (by decide) hf (fun hf => ?_) (fun hf => ?_)
          · refine gg_iinc (L' := [none, some (va_rf l1), none, some (.long l3), none, some (.int l5), some (.int l6), some (.int l7), some (.int (l8 + 1)), none, none, none, none, none, none]) C dL_law_1674 rfl (v := (l8 + 1)) rfl (Or.inr (Or.inr ⟨_, rfl, rfl⟩)) (by decide) rfl ?_
            refine gg_goto (tgt := 1639) C dL_law_1677 (by decide) ?_
            exact ih (z + 12) (zn + 176) (by first | exact ar_f3 (z := z) hz rfl | omega) (by first | exact ar_f3 (z := zn) hzn rfl | omega) _ _ _ _ _ _ _ hf
          · exact gg_sub (L' := [none, none, none, none, none, none, none, none, none, none, none, none, none, none, none]) (by first | exact trivial | simp [gsub]) (hb_1672 (z + 12) (zn + 176) (by first | exact ar_f2 (z := z) hz rfl | omega) (by first | exact ar_f2 (z := zn) hzn rfl | omega) _ hf)
  have hb_1628 : ∀ (z zn : Nat) (hz : z + (0) ≤ 649124) (hzn : zn + (0) ≤ 7146723)  (g : GM), w_L_law_b1628 X post px   g → GG X p l e room_1 s m args below meth c 15 Q z zn 1628 [none, none, none, none, none, none, none, none, none, none, none, none, none, none, none] [] g := by
    intro  z zn hz hzn  g hf
    unfold w_L_law_b1628 at hf
    refine gg_iconst C dL_law_1628 (v := (0 : Int32)) (by decide) ?_
    exact hf.elim
  have hb_1594 : ∀ (f z zn : Nat) (hz : z + (f * 12 + 1175) ≤ 649124) (hzn : zn + (f * 1292 + 8922) ≤ 7146723) (l1 : Option Nat) (l3 : Int64) (l5 : Int32) (l6 : Int32) (l7 : Int32) (l8 : Int32) (g : GM), w_L_law_l1594 X post px  f l1 l3 l5 l6 l7 l8 g → GG X p l e room_1 s m args below meth c 15 Q z zn 1594 [none, some (va_rf l1), none, some (.long l3), none, some (.int l5), some (.int l6), some (.int l7), some (.int l8), none, none, none, none, none, none] [] g := by
    intro  f
    induction f with
    | zero => intro z zn hz hzn l1 l3 l5 l6 l7 l8 g hf; exact (show False from hf).elim
    | succ f ih =>
      intro z zn hz hzn l1 l3 l5 l6 l7 l8 g hf
      rw [w_L_law_l1594] at hf
      refine gg_iload C dL_law_1594 rfl ?_
      refine gg_bipush C dL_law_1596 (v := (10 : Int32)) (by decide) ?_
      refine gg_icmp_ge (tgt := 1636) C dL_law_1598 (by decide) hf (fun hf => ?_) (fun hf => ?_)
      · refine gg_iconst C dL_law_1636 (v := (0 : Int32)) (by decide) ?_
        refine gg_istore (L' := [none, some (va_rf l1), none, some (.long l3), none, some (.int l5), some (.int l6), some (.int l7), some (.int (0 : Int32)), none, none, none, none, none, none]) C dL_law_1637 (Or.inr (Or.inr ⟨_, rfl, rfl⟩)) (by decide) rfl ?_
        exact hb_1639 5 z zn (by first | exact ar_f (z := z) hz rfl | omega) (by first | exact ar_f (z := zn) hzn rfl | omega) _ _ _ _ _ _ _ hf
      · refine gg_aload_n C dL_law_1601 rfl ?_
        refine gg_iload C dL_law_1602 rfl ?_
        refine gg_iload C dL_law_1604 rfl ?_
        refine gr_I (k' := (z + 6)) (n' := (zn + 646)) (gk_SW (As := [va_rf l1, .int l5, .int l8]) (rest := []) C dL_law_1606 tw_607 tw_608 tw_24 tw_609 gd_L_of rfl ⟨by decide, by decide⟩ (by simp [gcat, gcI, gcL, gcF, gcD]) ⟨(by show z + 6 ≤ 649124; first | exact ar_f (z := z) hz rfl | omega), (by show zn + 646 ≤ 7146723; first | exact ar_f (z := zn) hzn rfl | omega)⟩ (m_L_of hfl hf)) rfl rfl (fun E g9 h9 => h9.elim) (fun i161 g160 hf => ?_)
        refine gg_sipush C dL_law_1609 (v := (-1001 : Int32)) (by decide) ?_
        refine gg_icmp_ne (tgt := 1628) C dL_law_1612 (by decide) hf (fun hf => ?_) (fun hf => ?_)
        · exact gg_sub (L' := [none, none, none, none, none, none, none, none, none, none, none, none, none, none, none]) (by first | exact trivial | simp [gsub]) (hb_1628 (z + 6) (zn + 646) (by first | exact ar_f2 (z := z) hz rfl | omega) (by first | exact ar_f2 (z := zn) hzn rfl | omega) _ hf)
        · refine gg_aload_n C dL_law_1615 rfl ?_
          refine gg_iconst C dL_law_1616 (v := (-1 : Int32)) (by decide) ?_
          refine gg_iload C dL_law_1617 rfl ?_
          refine gr_I (k' := (z + 12)) (n' := (zn + 1292)) (gk_SW (As := [va_rf l1, .int (-1 : Int32), .int l8]) (rest := []) C dL_law_1619 tw_607 tw_608 tw_24 tw_609 gd_L_of rfl ⟨by decide, by decide⟩ (by simp [gcat, gcI, gcL, gcF, gcD]) ⟨(by show (z + 6) + 6 ≤ 649124; first | exact ar_f2 (z := z) hz rfl | omega), (by show (zn + 646) + 646 ≤ 7146723; first | exact ar_f2 (z := zn) hzn rfl | omega)⟩ (m_L_of hfl hf)) (Nat.add_assoc z 6 6) (Nat.add_assoc zn 646 646) (fun E g9 h9 => h9.elim) (fun i163 g162 hf => ?_)
          refine gg_sipush C dL_law_1622 (v := (-1001 : Int32)) (by decide) ?_
          refine gg_icmp_eq (tgt := 1630) C dL_law_1625 (by decide) hf (fun hf => ?_) (fun hf => ?_)
          · refine gg_iinc (L' := [none, some (va_rf l1), none, some (.long l3), none, some (.int l5), some (.int l6), some (.int l7), some (.int (l8 + 1)), none, none, none, none, none, none]) C dL_law_1630 rfl (v := (l8 + 1)) rfl (Or.inr (Or.inr ⟨_, rfl, rfl⟩)) (by decide) rfl ?_
            refine gg_goto (tgt := 1594) C dL_law_1633 (by decide) ?_
            exact ih (z + 12) (zn + 1292) (by first | exact ar_f3 (z := z) hz rfl | omega) (by first | exact ar_f3 (z := zn) hzn rfl | omega) _ _ _ _ _ _ _ hf
          · exact gg_sub (L' := [none, none, none, none, none, none, none, none, none, none, none, none, none, none, none]) (by first | exact trivial | simp [gsub]) (hb_1628 (z + 12) (zn + 1292) (by first | exact ar_f2 (z := z) hz rfl | omega) (by first | exact ar_f2 (z := zn) hzn rfl | omega) _ hf)
  have hb_1591 : ∀ (z zn : Nat) (hz : z + (1307) ≤ 649124) (hzn : zn + (23134) ≤ 7146723) (l1 : Option Nat) (l3 : Int64) (l5 : Int32) (l6 : Int32) (l7 : Int32) (g : GM), w_L_law_b1591 X post px  l1 l3 l5 l6 l7 g → GG X p l e room_1 s m args below meth c 15 Q z zn 1591 [none, some (va_rf l1), none, some (.long l3), none, some (.int l5), some (.int l6), some (.int l7), none, none, none, none, none, none, none] [] g := by
    intro  z zn hz hzn l1 l3 l5 l6 l7 g hf
    unfold w_L_law_b1591 at hf
    refine gg_iconst C dL_law_1591 (v := (0 : Int32)) (by decide) ?_
    refine gg_istore (L' := [none, some (va_rf l1), none, some (.long l3), none, some (.int l5), some (.int l6), some (.int l7), some (.int (0 : Int32)), none, none, none, none, none, none]) C dL_law_1592 (Or.inr (Or.inr ⟨_, rfl, rfl⟩)) (by decide) rfl ?_
    exact hb_1594 11 z zn (by first | exact ar_l (z := z) hz rfl | omega) (by first | exact ar_l (z := zn) hzn rfl | omega) _ _ _ _ _ _ _ hf
  have hb_1568 : ∀ (z zn : Nat) (hz : z + (1313) ≤ 649124) (hzn : zn + (23374) ≤ 7146723) (l1 : Option Nat) (l3 : Int64) (l5 : Int32) (l6 : Int32) (l7 : Int32) (g : GM), w_L_law_b1568 X post px  l1 l3 l5 l6 l7 g → GG X p l e room_1 s m args below meth c 15 Q z zn 1568 [none, some (va_rf l1), none, some (.long l3), none, some (.int l5), some (.int l6), some (.int l7), none, none, none, none, none, none, none] [] g := by
    intro  z zn hz hzn l1 l3 l5 l6 l7 g hf
    unfold w_L_law_b1568 at hf
    refine gg_iload C dL_law_1568 rfl ?_
    refine gg_if_le (tgt := 1591) C dL_law_1570 (by decide) hf (fun hf => ?_) (fun hf => ?_)
    · exact hb_1591 z zn (by first | exact ar_l (z := z) hz rfl | omega) (by first | exact ar_l (z := zn) hzn rfl | omega) _ _ _ _ _ _ hf
    · refine gg_aload_n C dL_law_1573 rfl ?_
      refine gg_bipush C dL_law_1574 (v := (115 : Int32)) (by decide) ?_
      refine gg_iconst C dL_law_1576 (v := (0 : Int32)) (by decide) ?_
      refine gg_iconst C dL_law_1577 (v := (1 : Int32)) (by decide) ?_
      refine gg_bipush C dL_law_1578 (v := (101 : Int32)) (by decide) ?_
      refine gr_I (k' := (z + 6)) (n' := (zn + 240)) (gk_SW (As := [va_rf l1, .int (115 : Int32), .int (0 : Int32), .int (1 : Int32), .int (101 : Int32)]) (rest := []) C dL_law_1580 tw_517 tw_518 tw_24 tw_519 gd_L_three rfl ⟨by decide, by decide⟩ (by simp [gcat, gcI, gcL, gcF, gcD]) ⟨(by show z + 6 ≤ 649124; first | exact ar_l (z := z) hz rfl | omega), (by show zn + 240 ≤ 7146723; first | exact ar_l (z := zn) hzn rfl | omega)⟩ (m_L_three hfl hf)) rfl rfl (fun E g9 h9 => h9.elim) (fun i165 g164 hf => ?_)
      refine gg_sipush C dL_law_1583 (v := (-1002 : Int32)) (by decide) ?_
      refine gg_icmp_eq (tgt := 1591) C dL_law_1586 (by decide) hf (fun hf => ?_) (fun hf => ?_)
      · exact hb_1591 (z + 6) (zn + 240) (by first | exact ar_l2 (z := z) hz rfl | omega) (by first | exact ar_l2 (z := zn) hzn rfl | omega) _ _ _ _ _ _ hf
      · exact gg_sub (L' := [none, none, none, none, none, none, none, none, none, none, none, none, none, none, none]) (by first | exact trivial | simp [gsub]) (hb_1589 (z + 6) (zn + 240) (by first | exact ar_l2 (z := z) hz rfl | omega) (by first | exact ar_l2 (z := zn) hzn rfl | omega) _ hf)
  have hb_1547 : ∀ (z zn : Nat) (hz : z + (1319) ≤ 649124) (hzn : zn + (23614) ≤ 7146723) (l1 : Option Nat) (l3 : Int64) (l5 : Int32) (l6 : Int32) (l7 : Int32) (g : GM), w_L_law_b1547 X post px  l1 l3 l5 l6 l7 g → GG X p l e room_1 s m args below meth c 15 Q z zn 1547 [none, some (va_rf l1), none, some (.long l3), none, some (.int l5), some (.int l6), some (.int l7), none, none, none, none, none, none, none] [] g := by
    intro  z zn hz hzn l1 l3 l5 l6 l7 g hf
    unfold w_L_law_b1547 at hf
    refine gg_iload C dL_law_1547 rfl ?_
    refine gg_if_le (tgt := 1568) C dL_law_1549 (by decide) hf (fun hf => ?_) (fun hf => ?_)
    · exact hb_1568 z zn (by first | exact ar_l (z := z) hz rfl | omega) (by first | exact ar_l (z := zn) hzn rfl | omega) _ _ _ _ _ _ hf
    · refine gg_aload_n C dL_law_1552 rfl ?_
      refine gg_bipush C dL_law_1553 (v := (115 : Int32)) (by decide) ?_
      refine gg_iconst C dL_law_1555 (v := (0 : Int32)) (by decide) ?_
      refine gg_bipush C dL_law_1556 (v := (101 : Int32)) (by decide) ?_
      refine gg_iconst C dL_law_1558 (v := (0 : Int32)) (by decide) ?_
      refine gr_I (k' := (z + 6)) (n' := (zn + 240)) (gk_SW (As := [va_rf l1, .int (115 : Int32), .int (0 : Int32), .int (101 : Int32), .int (0 : Int32)]) (rest := []) C dL_law_1559 tw_517 tw_518 tw_24 tw_519 gd_L_three rfl ⟨by decide, by decide⟩ (by simp [gcat, gcI, gcL, gcF, gcD]) ⟨(by show z + 6 ≤ 649124; first | exact ar_l (z := z) hz rfl | omega), (by show zn + 240 ≤ 7146723; first | exact ar_l (z := zn) hzn rfl | omega)⟩ (m_L_three hfl hf)) rfl rfl (fun E g9 h9 => h9.elim) (fun i167 g166 hf => ?_)
      refine gg_sipush C dL_law_1562 (v := (-1002 : Int32)) (by decide) ?_
      refine gg_icmp_ne (tgt := 1589) C dL_law_1565 (by decide) hf (fun hf => ?_) (fun hf => ?_)
      · exact gg_sub (L' := [none, none, none, none, none, none, none, none, none, none, none, none, none, none, none]) (by first | exact trivial | simp [gsub]) (hb_1589 (z + 6) (zn + 240) (by first | exact ar_l2 (z := z) hz rfl | omega) (by first | exact ar_l2 (z := zn) hzn rfl | omega) _ hf)
      · exact hb_1568 (z + 6) (zn + 240) (by first | exact ar_l2 (z := z) hz rfl | omega) (by first | exact ar_l2 (z := zn) hzn rfl | omega) _ _ _ _ _ _ hf
  have hb_1511 : ∀ (z zn : Nat) (hz : z + (1331) ≤ 649124) (hzn : zn + (24094) ≤ 7146723) (l1 : Option Nat) (l3 : Int64) (l5 : Int32) (l6 : Int32) (l7 : Int32) (g : GM), w_L_law_b1511 X post px  l1 l3 l5 l6 l7 g → GG X p l e room_1 s m args below meth c 15 Q z zn 1511 [none, some (va_rf l1), none, some (.long l3), none, some (.int l5), some (.int l6), some (.int l7), none, none, none, none, none, none, none] [] g := by
    intro  z zn hz hzn l1 l3 l5 l6 l7 g hf
    unfold w_L_law_b1511 at hf
    refine gg_aload_n C dL_law_1511 rfl ?_
    refine gg_bipush C dL_law_1512 (v := (115 : Int32)) (by decide) ?_
    refine gg_iload C dL_law_1514 rfl ?_
    refine gg_iconst C dL_law_1516 (v := (0 : Int32)) (by decide) ?_
    refine gg_iconst C dL_law_1517 (v := (0 : Int32)) (by decide) ?_
    refine gr_I (k' := (z + 6)) (n' := (zn + 240)) (gk_SW (As := [va_rf l1, .int (115 : Int32), .int l5, .int (0 : Int32), .int (0 : Int32)]) (rest := []) C dL_law_1518 tw_517 tw_518 tw_24 tw_519 gd_L_three rfl ⟨by decide, by decide⟩ (by simp [gcat, gcI, gcL, gcF, gcD]) ⟨(by show z + 6 ≤ 649124; first | exact ar_l (z := z) hz rfl | omega), (by show zn + 240 ≤ 7146723; first | exact ar_l (z := zn) hzn rfl | omega)⟩ (m_L_three hfl hf)) rfl rfl (fun E g9 h9 => h9.elim) (fun i93 g92 hf => ?_)
    refine gg_sipush C dL_law_1521 (v := (-1001 : Int32)) (by decide) ?_
    refine gg_icmp_ne (tgt := 1589) C dL_law_1524 (by decide) hf (fun hf => ?_) (fun hf => ?_)
    · exact gg_sub (L' := [none, none, none, none, none, none, none, none, none, none, none, none, none, none, none]) (by first | exact trivial | simp [gsub]) (hb_1589 (z + 6) (zn + 240) (by first | exact ar_l2 (z := z) hz rfl | omega) (by first | exact ar_l2 (z := zn) hzn rfl | omega) _ hf)
    · refine gg_iload C dL_law_1527 rfl ?_
      refine gg_if_le (tgt := 1547) C dL_law_1529 (by decide) hf (fun hf => ?_) (fun hf => ?_)
      · exact hb_1547 (z + 6) (zn + 240) (by first | exact ar_l2 (z := z) hz rfl | omega) (by first | exact ar_l2 (z := zn) hzn rfl | omega) _ _ _ _ _ _ hf
      · refine gg_aload_n C dL_law_1532 rfl ?_
        refine gg_bipush C dL_law_1533 (v := (115 : Int32)) (by decide) ?_
        refine gg_iconst C dL_law_1535 (v := (0 : Int32)) (by decide) ?_
        refine gg_iconst C dL_law_1536 (v := (0 : Int32)) (by decide) ?_
        refine gg_iconst C dL_law_1537 (v := (0 : Int32)) (by decide) ?_
        refine gr_I (k' := (z + 12)) (n' := (zn + 480)) (gk_SW (As := [va_rf l1, .int (115 : Int32), .int (0 : Int32), .int (0 : Int32), .int (0 : Int32)]) (rest := []) C dL_law_1538 tw_517 tw_518 tw_24 tw_519 gd_L_three rfl ⟨by decide, by decide⟩ (by simp [gcat, gcI, gcL, gcF, gcD]) ⟨(by show (z + 6) + 6 ≤ 649124; first | exact ar_l2 (z := z) hz rfl | omega), (by show (zn + 240) + 240 ≤ 7146723; first | exact ar_l2 (z := zn) hzn rfl | omega)⟩ (m_L_three hfl hf)) (Nat.add_assoc z 6 6) (Nat.add_assoc zn 240 240) (fun E g9 h9 => h9.elim) (fun i169 g168 hf => ?_)
        refine gg_sipush C dL_law_1541 (v := (-1002 : Int32)) (by decide) ?_
        refine gg_icmp_ne (tgt := 1589) C dL_law_1544 (by decide) hf (fun hf => ?_) (fun hf => ?_)
        · exact gg_sub (L' := [none, none, none, none, none, none, none, none, none, none, none, none, none, none, none]) (by first | exact trivial | simp [gsub]) (hb_1589 (z + 12) (zn + 480) (by first | exact ar_l2 (z := z) hz rfl | omega) (by first | exact ar_l2 (z := zn) hzn rfl | omega) _ hf)
        · exact hb_1547 (z + 12) (zn + 480) (by first | exact ar_l2 (z := z) hz rfl | omega) (by first | exact ar_l2 (z := zn) hzn rfl | omega) _ _ _ _ _ _ hf
  have hb_1117 : ∀ (E21 En21 : Nat), 5117 ≤ E21 → 58104 ≤ En21 → ∀ (k21 : Option Nat → Option Nat → Int32 → Int32 → GM → Prop), (∀ (z zn : Nat), z + E21 ≤ 649124 → zn + En21 ≤ 7146723 → ∀ (l0 : Option Nat) (l1 : Option Nat) (l2 : Int32) (l3 : Int32) (g : GM), k21 l0 l1 l2 l3 g → GG X p l e room_1 s m args below meth c 15 Q z zn 21 [some (va_rf l0), some (va_rf l1), some (.int l2), some (.int l3), none, none, none, none, none, none, none, none, none, none, none] [] g) → ∀ (z zn : Nat) (hz : z + (0 + E21) ≤ 649124) (hzn : zn + (0 + En21) ≤ 7146723) (l0 : Option Nat) (l1 : Option Nat) (l2 : Int32) (l3 : Int32) (g : GM), w_L_law_b1117 X post px k21 l0 l1 l2 l3 g → GG X p l e room_1 s m args below meth c 15 Q z zn 1117 [some (va_rf l0), some (va_rf l1), some (.int l2), some (.int l3), none, none, none, none, none, none, none, none, none, none, none] [] g := by
    intro E21 En21 hE21 hEn21 k21 hk21 z zn hz hzn l0 l1 l2 l3 g hf
    unfold w_L_law_b1117 at hf
    refine gg_iinc (L' := [some (va_rf l0), some (va_rf l1), some (.int l2), some (.int (l3 + 1)), none, none, none, none, none, none, none, none, none, none, none]) C dL_law_1117 rfl (v := (l3 + 1)) rfl (Or.inr (Or.inr ⟨_, rfl, rfl⟩)) (by decide) rfl ?_
    refine gg_goto (tgt := 21) C dL_law_1120 (by decide) ?_
    exact hk21 z zn (by first | exact ar_e6 (z := z) hz rfl | omega) (by first | exact ar_e6 (z := zn) hzn rfl | omega) _ _ _ _ _ hf
  have hb_1115 : ∀ (z zn : Nat) (hz : z + (0) ≤ 649124) (hzn : zn + (0) ≤ 7146723)  (g : GM), w_L_law_b1115 X post px   g → GG X p l e room_1 s m args below meth c 15 Q z zn 1115 [none, none, none, none, none, none, none, none, none, none, none, none, none, none, none] [] g := by
    intro  z zn hz hzn  g hf
    unfold w_L_law_b1115 at hf
    refine gg_iconst C dL_law_1115 (v := (0 : Int32)) (by decide) ?_
    exact hf.elim
  have hb_1099 : ∀ (E21 En21 : Nat), 5117 ≤ E21 → 58104 ≤ En21 → ∀ (k21 : Option Nat → Option Nat → Int32 → Int32 → GM → Prop), (∀ (z zn : Nat), z + E21 ≤ 649124 → zn + En21 ≤ 7146723 → ∀ (l0 : Option Nat) (l1 : Option Nat) (l2 : Int32) (l3 : Int32) (g : GM), k21 l0 l1 l2 l3 g → GG X p l e room_1 s m args below meth c 15 Q z zn 21 [some (va_rf l0), some (va_rf l1), some (.int l2), some (.int l3), none, none, none, none, none, none, none, none, none, none, none] [] g) → ∀ (z zn : Nat) (hz : z + (2602 + E21) ≤ 649124) (hzn : zn + (23674 + En21) ≤ 7146723) (l0 : Option Nat) (l1 : Option Nat) (l2 : Int32) (l3 : Int32) (g : GM), w_L_law_b1099 X post px k21 l0 l1 l2 l3 g → GG X p l e room_1 s m args below meth c 15 Q z zn 1099 [some (va_rf l0), some (va_rf l1), some (.int l2), some (.int l3), none, none, none, none, none, none, none, none, none, none, none] [] g := by
    intro E21 En21 hE21 hEn21 k21 hk21 z zn hz hzn l0 l1 l2 l3 g hf
    unfold w_L_law_b1099 at hf
    refine gg_iload_n C dL_law_1099 rfl ?_
    refine gg_bipush C dL_law_1100 (v := (7 : Int32)) (by decide) ?_
    refine gg_irem C dL_law_1102 hf.1 ?_
    replace hf := hf.2
    refine gg_bipush C dL_law_1103 (v := (6 : Int32)) (by decide) ?_
    refine gg_icmp_ne (tgt := 1117) C dL_law_1105 (by decide) hf (fun hf => ?_) (fun hf => ?_)
    · exact hb_1117 E21 En21 (by first | exact hE21 | omega) (by first | exact hEn21 | omega) _ hk21 z zn (by first | exact ar_e4 (z := z) hz rfl | omega) (by first | exact ar_e4 (z := zn) hzn rfl | omega) _ _ _ _ _ hf
    · refine gg_aload_n C dL_law_1108 rfl ?_
      refine gr_I (k' := (z + 2602)) (n' := (zn + 23674)) (gk_S (As := [va_rf l1]) (rest := []) C dL_law_1109 tw_1357 tw_1358 tw_24 tw_1359 gd_L_isSound rfl ⟨by decide, by decide⟩ (by simp [gcat, gcI, gcL, gcF, gcD]) ⟨(by show z + 2602 ≤ 649124; first | exact ar_e (z := z) hz rfl | omega), (by show zn + 23674 ≤ 7146723; first | exact ar_e (z := zn) hzn rfl | omega)⟩ (m_L_isSound hfl hf)) rfl rfl (fun E g9 h9 => h9.elim) (fun i189 g188 hf => ?_)
      refine gg_if_ne (tgt := 1117) C dL_law_1112 (by decide) hf (fun hf => ?_) (fun hf => ?_)
      · exact hb_1117 E21 En21 (by first | exact hE21 | omega) (by first | exact hEn21 | omega) _ hk21 (z + 2602) (zn + 23674) (by first | exact ar_e3 (z := z) hz rfl | omega) (by first | exact ar_e3 (z := zn) hzn rfl | omega) _ _ _ _ _ hf
      · exact gg_sub (L' := [none, none, none, none, none, none, none, none, none, none, none, none, none, none, none]) (by first | exact trivial | simp [gsub]) (hb_1115 (z + 2602) (zn + 23674) (by first | exact ar_e2 (z := z) hz rfl | omega) (by first | exact ar_e2 (z := zn) hzn rfl | omega) _ hf)
  have hb_1076 : ∀ (E21 En21 : Nat), 5117 ≤ E21 → 58104 ≤ En21 → ∀ (k21 : Option Nat → Option Nat → Int32 → Int32 → GM → Prop), (∀ (z zn : Nat), z + E21 ≤ 649124 → zn + En21 ≤ 7146723 → ∀ (l0 : Option Nat) (l1 : Option Nat) (l2 : Int32) (l3 : Int32) (g : GM), k21 l0 l1 l2 l3 g → GG X p l e room_1 s m args below meth c 15 Q z zn 21 [some (va_rf l0), some (va_rf l1), some (.int l2), some (.int l3), none, none, none, none, none, none, none, none, none, none, none] [] g) → ∀ (z zn : Nat) (hz : z + (3646 + E21) ≤ 649124) (hzn : zn + (31290 + En21) ≤ 7146723) (l0 : Option Nat) (l1 : Option Nat) (l2 : Int32) (l3 : Int32) (l8 : Int32) (l9 : Int64) (l11 : Int32) (g : GM), w_L_law_b1076 X post px k21 l0 l1 l2 l3 l8 l9 l11 g → GG X p l e room_1 s m args below meth c 15 Q z zn 1076 [some (va_rf l0), some (va_rf l1), some (.int l2), some (.int l3), none, none, none, none, some (.int l8), some (.long l9), none, some (.int l11), none, none, none] [] g := by
    intro E21 En21 hE21 hEn21 k21 hk21 z zn hz hzn l0 l1 l2 l3 l8 l9 l11 g hf
    unfold w_L_law_b1076 at hf
    refine gg_iload C dL_law_1076 rfl ?_
    refine gg_sipush C dL_law_1078 (v := (-1000 : Int32)) (by decide) ?_
    refine gg_icmp_ge (tgt := 1099) C dL_law_1081 (by decide) hf (fun hf => ?_) (fun hf => ?_)
    · exact gg_sub (L' := [some (va_rf l0), some (va_rf l1), some (.int l2), some (.int l3), none, none, none, none, none, none, none, none, none, none, none]) (by first | exact ⟨rfl, ⟨rfl, ⟨rfl, ⟨rfl, trivial⟩⟩⟩⟩ | simp [gsub]) (hb_1099 E21 En21 (by first | exact hE21 | omega) (by first | exact hEn21 | omega) _ hk21 z zn (by first | exact ar_e4 (z := z) hz rfl | omega) (by first | exact ar_e4 (z := zn) hzn rfl | omega) _ _ _ _ _ hf)
    · refine gg_iload C dL_law_1084 rfl ?_
      refine gg_if_eq (tgt := 1099) C dL_law_1086 (by decide) hf (fun hf => ?_) (fun hf => ?_)
      · exact gg_sub (L' := [some (va_rf l0), some (va_rf l1), some (.int l2), some (.int l3), none, none, none, none, none, none, none, none, none, none, none]) (by first | exact ⟨rfl, ⟨rfl, ⟨rfl, ⟨rfl, trivial⟩⟩⟩⟩ | simp [gsub]) (hb_1099 E21 En21 (by first | exact hE21 | omega) (by first | exact hEn21 | omega) _ hk21 z zn (by first | exact ar_e4 (z := z) hz rfl | omega) (by first | exact ar_e4 (z := zn) hzn rfl | omega) _ _ _ _ _ hf)
      · refine gg_aload_n C dL_law_1089 rfl ?_
        refine gr_L (k' := (z + 1044)) (n' := (zn + 7616)) (gk_S (As := [va_rf l1]) (rest := []) C dL_law_1090 tw_1336 tw_1337 tw_24 tw_1338 gd_L_sum rfl ⟨by decide, by decide⟩ (by simp [gcat, gcI, gcL, gcF, gcD]) ⟨(by show z + 1044 ≤ 649124; first | exact ar_e (z := z) hz rfl | omega), (by show zn + 7616 ≤ 7146723; first | exact ar_e (z := zn) hzn rfl | omega)⟩ (m_L_sum hfl hf)) rfl rfl (fun E g9 h9 => h9.elim) (fun y191 g190 hf => ?_)
        refine gg_lload C dL_law_1093 rfl ?_
        refine gg_lcmp C dL_law_1095 ?_
        refine gg_if_ne (tgt := 1115) C dL_law_1096 (by decide) hf (fun hf => ?_) (fun hf => ?_)
        · exact gg_sub (L' := [none, none, none, none, none, none, none, none, none, none, none, none, none, none, none]) (by first | exact trivial | simp [gsub]) (hb_1115 (z + 1044) (zn + 7616) (by first | exact ar_e2 (z := z) hz rfl | omega) (by first | exact ar_e2 (z := zn) hzn rfl | omega) _ hf)
        · exact gg_sub (L' := [some (va_rf l0), some (va_rf l1), some (.int l2), some (.int l3), none, none, none, none, none, none, none, none, none, none, none]) (by first | exact ⟨rfl, ⟨rfl, ⟨rfl, ⟨rfl, trivial⟩⟩⟩⟩ | simp [gsub]) (hb_1099 E21 En21 (by first | exact hE21 | omega) (by first | exact hEn21 | omega) _ hk21 (z + 1044) (zn + 7616) (by first | exact ar_e3 (z := z) hz rfl | omega) (by first | exact ar_e3 (z := zn) hzn rfl | omega) _ _ _ _ _ hf)
  have hb_1074 : ∀ (z zn : Nat) (hz : z + (0) ≤ 649124) (hzn : zn + (0) ≤ 7146723)  (g : GM), w_L_law_b1074 X post px   g → GG X p l e room_1 s m args below meth c 15 Q z zn 1074 [none, none, none, none, none, none, none, none, none, none, none, none, none, none, none] [] g := by
    intro  z zn hz hzn  g hf
    unfold w_L_law_b1074 at hf
    refine gg_iconst C dL_law_1074 (v := (0 : Int32)) (by decide) ?_
    exact hf.elim
  have hb_1011 : ∀ (E21 En21 : Nat), 5117 ≤ E21 → 58104 ≤ En21 → ∀ (k21 : Option Nat → Option Nat → Int32 → Int32 → GM → Prop), (∀ (z zn : Nat), z + E21 ≤ 649124 → zn + En21 ≤ 7146723 → ∀ (l0 : Option Nat) (l1 : Option Nat) (l2 : Int32) (l3 : Int32) (g : GM), k21 l0 l1 l2 l3 g → GG X p l e room_1 s m args below meth c 15 Q z zn 21 [some (va_rf l0), some (va_rf l1), some (.int l2), some (.int l3), none, none, none, none, none, none, none, none, none, none, none] [] g) → ∀ (z zn : Nat) (hz : z + (3646 + E21) ≤ 649124) (hzn : zn + (31290 + En21) ≤ 7146723) (l0 : Option Nat) (l1 : Option Nat) (l2 : Int32) (l3 : Int32) (l8 : Int32) (l9 : Int64) (l11 : Int32) (g : GM), w_L_law_b1011 X post px k21 l0 l1 l2 l3 l8 l9 l11 g → GG X p l e room_1 s m args below meth c 15 Q z zn 1011 [some (va_rf l0), some (va_rf l1), some (.int l2), some (.int l3), none, none, none, none, some (.int l8), some (.long l9), none, some (.int l11), none, none, none] [] g := by
    intro E21 En21 hE21 hEn21 k21 hk21 z zn hz hzn l0 l1 l2 l3 l8 l9 l11 g hf
    unfold w_L_law_b1011 at hf
    refine gg_goto (tgt := 1076) C dL_law_1011 (by decide) ?_
    exact hb_1076 E21 En21 (by first | exact hE21 | omega) (by first | exact hEn21 | omega) _ hk21 z zn (by first | exact ar_e4 (z := z) hz rfl | omega) (by first | exact ar_e4 (z := zn) hzn rfl | omega) _ _ _ _ _ _ _ _ hf
  have hb_955 : ∀ (E21 En21 : Nat), 5117 ≤ E21 → 58104 ≤ En21 → ∀ (k21 : Option Nat → Option Nat → Int32 → Int32 → GM → Prop), (∀ (z zn : Nat), z + E21 ≤ 649124 → zn + En21 ≤ 7146723 → ∀ (l0 : Option Nat) (l1 : Option Nat) (l2 : Int32) (l3 : Int32) (g : GM), k21 l0 l1 l2 l3 g → GG X p l e room_1 s m args below meth c 15 Q z zn 21 [some (va_rf l0), some (va_rf l1), some (.int l2), some (.int l3), none, none, none, none, none, none, none, none, none, none, none] [] g) → ∀ (z zn : Nat) (hz : z + (3646 + E21) ≤ 649124) (hzn : zn + (31290 + En21) ≤ 7146723) (l0 : Option Nat) (l1 : Option Nat) (l2 : Int32) (l3 : Int32) (l8 : Int32) (l9 : Int64) (t0 : Int32) (g : GM), w_L_law_b955 X post px k21 l0 l1 l2 l3 l8 l9 t0 g → GG X p l e room_1 s m args below meth c 15 Q z zn 955 [some (va_rf l0), some (va_rf l1), some (.int l2), some (.int l3), none, none, none, none, some (.int l8), some (.long l9), none, none, none, none, none] [.int t0] g := by
    intro E21 En21 hE21 hEn21 k21 hk21 z zn hz hzn l0 l1 l2 l3 l8 l9 t0 g hf
    unfold w_L_law_b955 at hf
    refine gg_istore (L' := [some (va_rf l0), some (va_rf l1), some (.int l2), some (.int l3), none, none, none, none, some (.int l8), some (.long l9), none, some (.int t0), none, none, none]) C dL_law_955 (Or.inr (Or.inl rfl)) (by decide) rfl ?_
    refine gg_goto (tgt := 1076) C dL_law_957 (by decide) ?_
    exact hb_1076 E21 En21 (by first | exact hE21 | omega) (by first | exact hEn21 | omega) _ hk21 z zn (by first | exact ar_e4 (z := z) hz rfl | omega) (by first | exact ar_e4 (z := zn) hzn rfl | omega) _ _ _ _ _ _ _ _ hf
  have hb_942 : ∀ (E21 En21 : Nat), 5117 ≤ E21 → 58104 ≤ En21 → ∀ (k21 : Option Nat → Option Nat → Int32 → Int32 → GM → Prop), (∀ (z zn : Nat), z + E21 ≤ 649124 → zn + En21 ≤ 7146723 → ∀ (l0 : Option Nat) (l1 : Option Nat) (l2 : Int32) (l3 : Int32) (g : GM), k21 l0 l1 l2 l3 g → GG X p l e room_1 s m args below meth c 15 Q z zn 21 [some (va_rf l0), some (va_rf l1), some (.int l2), some (.int l3), none, none, none, none, none, none, none, none, none, none, none] [] g) → ∀ (z zn : Nat) (hz : z + (3646 + E21) ≤ 649124) (hzn : zn + (31290 + En21) ≤ 7146723) (l0 : Option Nat) (l1 : Option Nat) (l2 : Int32) (l3 : Int32) (l8 : Int32) (l9 : Int64) (t0 : Int32) (g : GM), w_L_law_b942 X post px k21 l0 l1 l2 l3 l8 l9 t0 g → GG X p l e room_1 s m args below meth c 15 Q z zn 942 [some (va_rf l0), some (va_rf l1), some (.int l2), some (.int l3), none, none, none, none, some (.int l8), some (.long l9), none, none, none, none, none] [.int t0] g := by
    intro E21 En21 hE21 hEn21 k21 hk21 z zn hz hzn l0 l1 l2 l3 l8 l9 t0 g hf
    unfold w_L_law_b942 at hf
    refine gg_istore (L' := [some (va_rf l0), some (va_rf l1), some (.int l2), some (.int l3), none, none, none, none, some (.int l8), some (.long l9), none, some (.int t0), none, none, none]) C dL_law_942 (Or.inr (Or.inl rfl)) (by decide) rfl ?_
    refine gg_iload C dL_law_944 rfl ?_
    refine gg_if_lt (tgt := 953) C dL_law_946 (by decide) hf (fun hf => ?_) (fun hf => ?_)
    · refine gg_iload C dL_law_953 rfl ?_
      exact gg_sub (L' := [some (va_rf l0), some (va_rf l1), some (.int l2), some (.int l3), none, none, none, none, some (.int l8), some (.long l9), none, none, none, none, none]) (by first | exact ⟨rfl, ⟨rfl, ⟨rfl, ⟨rfl, ⟨rfl, ⟨rfl, trivial⟩⟩⟩⟩⟩⟩ | simp [gsub]) (hb_955 E21 En21 (by first | exact hE21 | omega) (by first | exact hEn21 | omega) _ hk21 z zn (by first | exact ar_e4 (z := z) hz rfl | omega) (by first | exact ar_e4 (z := zn) hzn rfl | omega) _ _ _ _ _ _ _ _ hf)
    · refine gg_iconst C dL_law_949 (v := (0 : Int32)) (by decide) ?_
      refine gg_goto (tgt := 955) C dL_law_950 (by decide) ?_
      exact gg_sub (L' := [some (va_rf l0), some (va_rf l1), some (.int l2), some (.int l3), none, none, none, none, some (.int l8), some (.long l9), none, none, none, none, none]) (by first | exact ⟨rfl, ⟨rfl, ⟨rfl, ⟨rfl, ⟨rfl, ⟨rfl, trivial⟩⟩⟩⟩⟩⟩ | simp [gsub]) (hb_955 E21 En21 (by first | exact hE21 | omega) (by first | exact hEn21 | omega) _ hk21 z zn (by first | exact ar_e4 (z := z) hz rfl | omega) (by first | exact ar_e4 (z := zn) hzn rfl | omega) _ _ _ _ _ _ _ _ hf)
  have hb_892 : ∀ (z zn : Nat) (hz : z + (0) ≤ 649124) (hzn : zn + (0) ≤ 7146723)  (g : GM), w_L_law_b892 X post px   g → GG X p l e room_1 s m args below meth c 15 Q z zn 892 [none, none, none, none, none, none, none, none, none, none, none, none, none, none, none] [] g := by
    intro  z zn hz hzn  g hf
    unfold w_L_law_b892 at hf
    refine gg_iconst C dL_law_892 (v := (0 : Int32)) (by decide) ?_
    exact hf.elim
  have hb_882 : ∀ (E21 En21 : Nat), 5117 ≤ E21 → 58104 ≤ En21 → ∀ (k21 : Option Nat → Option Nat → Int32 → Int32 → GM → Prop), (∀ (z zn : Nat), z + E21 ≤ 649124 → zn + En21 ≤ 7146723 → ∀ (l0 : Option Nat) (l1 : Option Nat) (l2 : Int32) (l3 : Int32) (g : GM), k21 l0 l1 l2 l3 g → GG X p l e room_1 s m args below meth c 15 Q z zn 21 [some (va_rf l0), some (va_rf l1), some (.int l2), some (.int l3), none, none, none, none, none, none, none, none, none, none, none] [] g) → ∀ (z zn : Nat) (hz : z + (3652 + E21) ≤ 649124) (hzn : zn + (31378 + En21) ≤ 7146723) (l0 : Option Nat) (l1 : Option Nat) (l2 : Int32) (l3 : Int32) (l7 : Int32) (l8 : Int32) (l9 : Int64) (l11 : Int32) (g : GM), w_L_law_b882 X post px k21 l0 l1 l2 l3 l7 l8 l9 l11 g → GG X p l e room_1 s m args below meth c 15 Q z zn 882 [some (va_rf l0), some (va_rf l1), some (.int l2), some (.int l3), none, none, none, some (.int l7), some (.int l8), some (.long l9), none, some (.int l11), none, none, none] [] g := by
    intro E21 En21 hE21 hEn21 k21 hk21 z zn hz hzn l0 l1 l2 l3 l7 l8 l9 l11 g hf
    unfold w_L_law_b882 at hf
    refine gg_aload_n C dL_law_882 rfl ?_
    refine gg_iload C dL_law_883 rfl ?_
    refine gg_iconst C dL_law_885 (v := (3 : Int32)) (by decide) ?_
    refine gr_I (k' := (z + 6)) (n' := (zn + 88)) (gk_SW (As := [va_rf l1, .int l7, .int (3 : Int32)]) (rest := []) C dL_law_886 tw_1008 tw_1009 tw_24 tw_1010 gd_L_device rfl ⟨by decide, by decide⟩ (by simp [gcat, gcI, gcL, gcF, gcD]) ⟨(by show z + 6 ≤ 649124; first | exact ar_e (z := z) hz rfl | omega), (by show zn + 88 ≤ 7146723; first | exact ar_e (z := zn) hzn rfl | omega)⟩ (m_L_device hfl hf)) rfl rfl (fun E g9 h9 => h9.elim) (fun i209 g208 hf => ?_)
    refine gg_if_lt (tgt := 894) C dL_law_889 (by decide) hf (fun hf => ?_) (fun hf => ?_)
    · refine gg_goto (tgt := 1076) C dL_law_894 (by decide) ?_
      exact gg_sub (L' := [some (va_rf l0), some (va_rf l1), some (.int l2), some (.int l3), none, none, none, none, some (.int l8), some (.long l9), none, some (.int l11), none, none, none]) (by first | exact ⟨rfl, ⟨rfl, ⟨rfl, ⟨rfl, ⟨rfl, ⟨rfl, ⟨rfl, trivial⟩⟩⟩⟩⟩⟩⟩ | simp [gsub]) (hb_1076 E21 En21 (by first | exact hE21 | omega) (by first | exact hEn21 | omega) _ hk21 (z + 6) (zn + 88) (by first | exact ar_e3 (z := z) hz rfl | omega) (by first | exact ar_e3 (z := zn) hzn rfl | omega) _ _ _ _ _ _ _ _ hf)
    · exact gg_sub (L' := [none, none, none, none, none, none, none, none, none, none, none, none, none, none, none]) (by first | exact trivial | simp [gsub]) (hb_892 (z + 6) (zn + 88) (by first | exact ar_e2 (z := z) hz rfl | omega) (by first | exact ar_e2 (z := zn) hzn rfl | omega) _ hf)
  have hb_815 : ∀ (E21 En21 : Nat), 5117 ≤ E21 → 58104 ≤ En21 → ∀ (k21 : Option Nat → Option Nat → Int32 → Int32 → GM → Prop), (∀ (z zn : Nat), z + E21 ≤ 649124 → zn + En21 ≤ 7146723 → ∀ (l0 : Option Nat) (l1 : Option Nat) (l2 : Int32) (l3 : Int32) (g : GM), k21 l0 l1 l2 l3 g → GG X p l e room_1 s m args below meth c 15 Q z zn 21 [some (va_rf l0), some (va_rf l1), some (.int l2), some (.int l3), none, none, none, none, none, none, none, none, none, none, none] [] g) → ∀ (f z zn : Nat) (hz : z + (f * 1 + 3658 + E21) ≤ 649124) (hzn : zn + (f * 6 + 31466 + En21) ≤ 7146723) (l0 : Option Nat) (l1 : Option Nat) (l2 : Int32) (l3 : Int32) (l5 : Int32) (l7 : Int32) (l8 : Int32) (l9 : Int64) (l13 : Int32) (g : GM), w_L_law_l815 X post px k21 f l0 l1 l2 l3 l5 l7 l8 l9 l13 g → GG X p l e room_1 s m args below meth c 15 Q z zn 815 [some (va_rf l0), some (va_rf l1), some (.int l2), some (.int l3), none, some (.int l5), none, some (.int l7), some (.int l8), some (.long l9), none, none, none, some (.int l13), none] [] g := by
    intro E21 En21 hE21 hEn21 k21 hk21 f
    induction f with
    | zero => intro z zn hz hzn l0 l1 l2 l3 l5 l7 l8 l9 l13 g hf; exact (show False from hf).elim
    | succ f ih =>
      intro z zn hz hzn l0 l1 l2 l3 l5 l7 l8 l9 l13 g hf
      rw [w_L_law_l815] at hf
      refine gg_iload C dL_law_815 rfl ?_
      refine gg_if_lt (tgt := 846) C dL_law_817 (by decide) hf (fun hf => ?_) (fun hf => ?_)
      · refine gg_aload_n C dL_law_846 rfl ?_
        refine gr_I (k' := z) (n' := zn) (gk_V (ci := 7) (As := []) (rest := []) C dL_law_847 rfl rfl tw_185 tw_186 tw_187 tw_25 tw_188 gd_X7_groups rfl ⟨by decide, by decide⟩ (by simp [gcat, gcI, gcL, gcF, gcD]) ⟨(by show z + 0 ≤ 649124; first | exact ar_g (z := z) hz rfl | omega), (by show zn + 0 ≤ 7146723; first | exact ar_g (z := zn) hzn rfl | omega)⟩ hf (fun hf => m_X7_groups hfl hf)) rfl rfl (fun E g9 h9 => h9.elim) (fun i205 g204 hf => ?_)
        refine gg_istore (L' := [some (va_rf l0), some (va_rf l1), some (.int l2), some (.int l3), none, some (.int l5), none, some (.int l7), some (.int l8), some (.long l9), none, none, none, some (.int i205), none]) C dL_law_850 (Or.inr (Or.inl rfl)) (by decide) rfl ?_
        refine gg_aload_n C dL_law_852 rfl ?_
        refine gg_iload C dL_law_853 rfl ?_
        refine gg_iconst C dL_law_855 (v := (3 : Int32)) (by decide) ?_
        refine gr_I (k' := (z + 6)) (n' := (zn + 88)) (gk_SW (As := [va_rf l1, .int l7, .int (3 : Int32)]) (rest := []) C dL_law_856 tw_1008 tw_1009 tw_24 tw_1010 gd_L_device rfl ⟨by decide, by decide⟩ (by simp [gcat, gcI, gcL, gcF, gcD]) ⟨(by show z + 6 ≤ 649124; first | exact ar_g (z := z) hz rfl | omega), (by show zn + 88 ≤ 7146723; first | exact ar_g (z := zn) hzn rfl | omega)⟩ (m_L_device hfl hf)) rfl rfl (fun E g9 h9 => h9.elim) (fun i207 g206 hf => ?_)
        refine gg_istore (L' := [some (va_rf l0), some (va_rf l1), some (.int l2), some (.int l3), none, some (.int l5), none, some (.int l7), some (.int l8), some (.long l9), none, some (.int i207), none, some (.int i205), none]) C dL_law_859 (Or.inr (Or.inl rfl)) (by decide) rfl ?_
        refine gg_iload C dL_law_861 rfl ?_
        refine gg_if_lt (tgt := 882) C dL_law_863 (by decide) hf (fun hf => ?_) (fun hf => ?_)
        · exact gg_sub (L' := [some (va_rf l0), some (va_rf l1), some (.int l2), some (.int l3), none, none, none, some (.int l7), some (.int l8), some (.long l9), none, some (.int i207), none, none, none]) (by first | exact ⟨rfl, ⟨rfl, ⟨rfl, ⟨rfl, ⟨rfl, ⟨rfl, ⟨rfl, ⟨rfl, trivial⟩⟩⟩⟩⟩⟩⟩⟩ | simp [gsub]) (hb_882 E21 En21 (by first | exact hE21 | omega) (by first | exact hEn21 | omega) _ hk21 (z + 6) (zn + 88) (by first | exact ar_g4 (z := z) hz rfl | omega) (by first | exact ar_g4 (z := zn) hzn rfl | omega) _ _ _ _ _ _ _ _ _ hf)
        · refine gg_iload C dL_law_866 rfl ?_
          refine gg_iload C dL_law_868 rfl ?_
          refine gg_icmp_gt (tgt := 892) C dL_law_870 (by decide) hf (fun hf => ?_) (fun hf => ?_)
          · exact gg_sub (L' := [none, none, none, none, none, none, none, none, none, none, none, none, none, none, none]) (by first | exact trivial | simp [gsub]) (hb_892 (z + 6) (zn + 88) (by first | exact ar_g2 (z := z) hz rfl | omega) (by first | exact ar_g2 (z := zn) hzn rfl | omega) _ hf)
          · refine gg_aload_n C dL_law_873 rfl ?_
            refine gr_I (k' := (z + 6)) (n' := (zn + 88)) (gk_V (ci := 7) (As := []) (rest := []) C dL_law_874 rfl rfl tw_185 tw_186 tw_187 tw_25 tw_188 gd_X7_groups rfl ⟨by decide, by decide⟩ (by simp [gcat, gcI, gcL, gcF, gcD]) ⟨(by show (z + 6) + 0 ≤ 649124; first | exact ar_g2 (z := z) hz rfl | omega), (by show (zn + 88) + 0 ≤ 7146723; first | exact ar_g2 (z := zn) hzn rfl | omega)⟩ hf (fun hf => m_X7_groups hfl hf)) rfl rfl (fun E g9 h9 => h9.elim) (fun i211 g210 hf => ?_)
            refine gg_iload C dL_law_877 rfl ?_
            refine gg_icmp_lt (tgt := 892) C dL_law_879 (by decide) hf (fun hf => ?_) (fun hf => ?_)
            · exact gg_sub (L' := [none, none, none, none, none, none, none, none, none, none, none, none, none, none, none]) (by first | exact trivial | simp [gsub]) (hb_892 (z + 6) (zn + 88) (by first | exact ar_g2 (z := z) hz rfl | omega) (by first | exact ar_g2 (z := zn) hzn rfl | omega) _ hf)
            · exact gg_sub (L' := [some (va_rf l0), some (va_rf l1), some (.int l2), some (.int l3), none, none, none, some (.int l7), some (.int l8), some (.long l9), none, some (.int i207), none, none, none]) (by first | exact ⟨rfl, ⟨rfl, ⟨rfl, ⟨rfl, ⟨rfl, ⟨rfl, ⟨rfl, ⟨rfl, trivial⟩⟩⟩⟩⟩⟩⟩⟩ | simp [gsub]) (hb_882 E21 En21 (by first | exact hE21 | omega) (by first | exact hEn21 | omega) _ hk21 (z + 6) (zn + 88) (by first | exact ar_g4 (z := z) hz rfl | omega) (by first | exact ar_g4 (z := zn) hzn rfl | omega) _ _ _ _ _ _ _ _ _ hf)
      · refine gg_aload_n C dL_law_820 rfl ?_
        refine gg_bipush C dL_law_821 (v := (116 : Int32)) (by decide) ?_
        refine gg_bipush C dL_law_823 (v := (97 : Int32)) (by decide) ?_
        refine gg_iload C dL_law_825 rfl ?_
        refine gg_iconst C dL_law_827 (v := (2 : Int32)) (by decide) ?_
        refine gg_iload C dL_law_828 rfl ?_
        refine gg_imul C dL_law_830 ?_
        refine gg_ishr C dL_law_831 ?_
        refine gg_iconst C dL_law_832 (v := (1 : Int32)) (by decide) ?_
        refine gg_iand C dL_law_833 ?_
        refine gg_iadd C dL_law_834 ?_
        refine gr_I (k' := (z + 1)) (n' := (zn + 6)) (gk_SW (As := [va_rf l1, .int (116 : Int32), .int ((97 : Int32) + ((l5 >>> (((2 : Int32) * l13) &&& 31)) &&& (1 : Int32)))]) (rest := []) C dL_law_835 tw_1156 tw_1157 tw_24 tw_1158 gd_L_sets rfl ⟨by decide, by decide⟩ (by simp [gcat, gcI, gcL, gcF, gcD]) ⟨(by show z + 1 ≤ 649124; first | exact ar_g (z := z) hz rfl | omega), (by show zn + 6 ≤ 7146723; first | exact ar_g (z := zn) hzn rfl | omega)⟩ (m_L_sets hfl hf)) rfl rfl (fun E g9 h9 => h9.elim) (fun i213 g212 hf => ?_)
        refine gg_istore (L' := [some (va_rf l0), some (va_rf l1), some (.int l2), some (.int l3), none, some (.int l5), none, some (.int l7), some (.int l8), some (.long l9), none, none, none, some (.int l13), some (.int i213)]) C dL_law_838 (Or.inr (Or.inr ⟨_, rfl, rfl⟩)) (by decide) rfl ?_
        refine gg_iinc (L' := [some (va_rf l0), some (va_rf l1), some (.int l2), some (.int l3), none, some (.int l5), none, some (.int l7), some (.int l8), some (.long l9), none, none, none, some (.int (l13 + (-1 : Int32))), some (.int i213)]) C dL_law_840 rfl (v := (l13 + (-1 : Int32))) rfl (Or.inr (Or.inl rfl)) (by decide) rfl ?_
        refine gg_goto (tgt := 815) C dL_law_843 (by decide) ?_
        exact gg_sub (L' := [some (va_rf l0), some (va_rf l1), some (.int l2), some (.int l3), none, some (.int l5), none, some (.int l7), some (.int l8), some (.long l9), none, none, none, some (.int (l13 + (-1 : Int32))), none]) (by first | exact ⟨rfl, ⟨rfl, ⟨rfl, ⟨rfl, ⟨rfl, ⟨rfl, ⟨rfl, ⟨rfl, ⟨rfl, trivial⟩⟩⟩⟩⟩⟩⟩⟩⟩ | simp [gsub]) (ih (z + 1) (zn + 6) (by first | exact ar_g3 (z := z) hz rfl | omega) (by first | exact ar_g3 (z := zn) hzn rfl | omega) _ _ _ _ _ _ _ _ _ _ hf)
  have hb_796 : ∀ (z zn : Nat) (hz : z + (0) ≤ 649124) (hzn : zn + (0) ≤ 7146723)  (g : GM), w_L_law_b796 X post px   g → GG X p l e room_1 s m args below meth c 15 Q z zn 796 [none, none, none, none, none, none, none, none, none, none, none, none, none, none, none] [] g := by
    intro  z zn hz hzn  g hf
    unfold w_L_law_b796 at hf
    refine gg_iconst C dL_law_796 (v := (0 : Int32)) (by decide) ?_
    exact hf.elim
  have hb_798 : ∀ (E21 En21 : Nat), 5117 ≤ E21 → 58104 ≤ En21 → ∀ (k21 : Option Nat → Option Nat → Int32 → Int32 → GM → Prop), (∀ (z zn : Nat), z + E21 ≤ 649124 → zn + En21 ≤ 7146723 → ∀ (l0 : Option Nat) (l1 : Option Nat) (l2 : Int32) (l3 : Int32) (g : GM), k21 l0 l1 l2 l3 g → GG X p l e room_1 s m args below meth c 15 Q z zn 21 [some (va_rf l0), some (va_rf l1), some (.int l2), some (.int l3), none, none, none, none, none, none, none, none, none, none, none] [] g) → ∀ (z zn : Nat) (hz : z + (3646 + E21) ≤ 649124) (hzn : zn + (31290 + En21) ≤ 7146723) (l0 : Option Nat) (l1 : Option Nat) (l2 : Int32) (l3 : Int32) (l8 : Int32) (l9 : Int64) (l11 : Int32) (g : GM), w_L_law_b798 X post px k21 l0 l1 l2 l3 l8 l9 l11 g → GG X p l e room_1 s m args below meth c 15 Q z zn 798 [some (va_rf l0), some (va_rf l1), some (.int l2), some (.int l3), none, none, none, none, some (.int l8), some (.long l9), none, some (.int l11), none, none, none] [] g := by
    intro E21 En21 hE21 hEn21 k21 hk21 z zn hz hzn l0 l1 l2 l3 l8 l9 l11 g hf
    unfold w_L_law_b798 at hf
    refine gg_goto (tgt := 1076) C dL_law_798 (by decide) ?_
    exact hb_1076 E21 En21 (by first | exact hE21 | omega) (by first | exact hEn21 | omega) _ hk21 z zn (by first | exact ar_e4 (z := z) hz rfl | omega) (by first | exact ar_e4 (z := zn) hzn rfl | omega) _ _ _ _ _ _ _ _ hf
  have hb_746 : ∀ (E21 En21 : Nat), 5117 ≤ E21 → 58104 ≤ En21 → ∀ (k21 : Option Nat → Option Nat → Int32 → Int32 → GM → Prop), (∀ (z zn : Nat), z + E21 ≤ 649124 → zn + En21 ≤ 7146723 → ∀ (l0 : Option Nat) (l1 : Option Nat) (l2 : Int32) (l3 : Int32) (g : GM), k21 l0 l1 l2 l3 g → GG X p l e room_1 s m args below meth c 15 Q z zn 21 [some (va_rf l0), some (va_rf l1), some (.int l2), some (.int l3), none, none, none, none, none, none, none, none, none, none, none] [] g) → ∀ (z zn : Nat) (hz : z + (3660 + E21) ≤ 649124) (hzn : zn + (31478 + En21) ≤ 7146723) (l0 : Option Nat) (l1 : Option Nat) (l2 : Int32) (l3 : Int32) (l7 : Int32) (l8 : Int32) (l9 : Int64) (l13 : Int32) (t0 : Int32) (g : GM), w_L_law_b746 X post px k21 l0 l1 l2 l3 l7 l8 l9 l13 t0 g → GG X p l e room_1 s m args below meth c 15 Q z zn 746 [some (va_rf l0), some (va_rf l1), some (.int l2), some (.int l3), none, none, none, some (.int l7), some (.int l8), some (.long l9), none, none, none, some (.int l13), none] [.int t0] g := by
    intro E21 En21 hE21 hEn21 k21 hk21 z zn hz hzn l0 l1 l2 l3 l7 l8 l9 l13 t0 g hf
    unfold w_L_law_b746 at hf
    refine gg_istore (L' := [some (va_rf l0), some (va_rf l1), some (.int l2), some (.int l3), none, none, none, some (.int l7), some (.int l8), some (.long l9), none, none, none, some (.int l13), some (.int t0)]) C dL_law_746 (Or.inr (Or.inr ⟨_, rfl, rfl⟩)) (by decide) rfl ?_
    refine gg_aload_n C dL_law_748 rfl ?_
    refine gg_iload C dL_law_749 rfl ?_
    refine gg_iconst C dL_law_751 (v := (1 : Int32)) (by decide) ?_
    refine gr_I (k' := (z + 6)) (n' := (zn + 88)) (gk_SW (As := [va_rf l1, .int l7, .int (1 : Int32)]) (rest := []) C dL_law_752 tw_1008 tw_1009 tw_24 tw_1010 gd_L_device rfl ⟨by decide, by decide⟩ (by simp [gcat, gcI, gcL, gcF, gcD]) ⟨(by show z + 6 ≤ 649124; first | exact ar_e (z := z) hz rfl | omega), (by show zn + 88 ≤ 7146723; first | exact ar_e (z := zn) hzn rfl | omega)⟩ (m_L_device hfl hf)) rfl rfl (fun E g9 h9 => h9.elim) (fun i219 g218 hf => ?_)
    refine gg_istore (L' := [some (va_rf l0), some (va_rf l1), some (.int l2), some (.int l3), none, none, none, some (.int l7), some (.int l8), some (.long l9), none, some (.int i219), none, some (.int l13), some (.int t0)]) C dL_law_755 (Or.inr (Or.inl rfl)) (by decide) rfl ?_
    refine gg_iload C dL_law_757 rfl ?_
    refine gg_iload C dL_law_759 rfl ?_
    refine gg_icmp_ne (tgt := 796) C dL_law_761 (by decide) hf (fun hf => ?_) (fun hf => ?_)
    · exact gg_sub (L' := [none, none, none, none, none, none, none, none, none, none, none, none, none, none, none]) (by first | exact trivial | simp [gsub]) (hb_796 (z + 6) (zn + 88) (by first | exact ar_e2 (z := z) hz rfl | omega) (by first | exact ar_e2 (z := zn) hzn rfl | omega) _ hf)
    · refine gg_iload C dL_law_764 rfl ?_
      refine gg_if_lt (tgt := 798) C dL_law_766 (by decide) hf (fun hf => ?_) (fun hf => ?_)
      · exact gg_sub (L' := [some (va_rf l0), some (va_rf l1), some (.int l2), some (.int l3), none, none, none, none, some (.int l8), some (.long l9), none, some (.int i219), none, none, none]) (by first | exact ⟨rfl, ⟨rfl, ⟨rfl, ⟨rfl, ⟨rfl, ⟨rfl, ⟨rfl, trivial⟩⟩⟩⟩⟩⟩⟩ | simp [gsub]) (hb_798 E21 En21 (by first | exact hE21 | omega) (by first | exact hEn21 | omega) _ hk21 (z + 6) (zn + 88) (by first | exact ar_e3 (z := z) hz rfl | omega) (by first | exact ar_e3 (z := zn) hzn rfl | omega) _ _ _ _ _ _ _ _ hf)
      · refine gg_aload_n C dL_law_769 rfl ?_
        refine gg_iload C dL_law_770 rfl ?_
        refine gg_iconst C dL_law_772 (v := (2 : Int32)) (by decide) ?_
        refine gr_I (k' := (z + 12)) (n' := (zn + 176)) (gk_SW (As := [va_rf l1, .int l7, .int (2 : Int32)]) (rest := []) C dL_law_773 tw_1008 tw_1009 tw_24 tw_1010 gd_L_device rfl ⟨by decide, by decide⟩ (by simp [gcat, gcI, gcL, gcF, gcD]) ⟨(by show (z + 6) + 6 ≤ 649124; first | exact ar_e2 (z := z) hz rfl | omega), (by show (zn + 88) + 88 ≤ 7146723; first | exact ar_e2 (z := zn) hzn rfl | omega)⟩ (m_L_device hfl hf)) (Nat.add_assoc z 6 6) (Nat.add_assoc zn 88 88) (fun E g9 h9 => h9.elim) (fun i221 g220 hf => ?_)
        refine gg_iload C dL_law_776 rfl ?_
        refine gg_icmp_ne (tgt := 796) C dL_law_778 (by decide) hf (fun hf => ?_) (fun hf => ?_)
        · exact gg_sub (L' := [none, none, none, none, none, none, none, none, none, none, none, none, none, none, none]) (by first | exact trivial | simp [gsub]) (hb_796 (z + 12) (zn + 176) (by first | exact ar_e2 (z := z) hz rfl | omega) (by first | exact ar_e2 (z := zn) hzn rfl | omega) _ hf)
        · refine gg_aload_n C dL_law_781 rfl ?_
          refine gg_iload C dL_law_782 rfl ?_
          refine gg_bipush C dL_law_784 (v := (8 : Int32)) (by decide) ?_
          refine gr_I (k' := (z + 14)) (n' := (zn + 188)) (gk_SW (As := [va_rf l1, .int i219, .int (8 : Int32)]) (rest := []) C dL_law_786 tw_607 tw_608 tw_24 tw_609 gd_L_of rfl ⟨by decide, by decide⟩ (by simp [gcat, gcI, gcL, gcF, gcD]) ⟨(by show (z + 12) + 2 ≤ 649124; first | exact ar_e2 (z := z) hz rfl | omega), (by show (zn + 176) + 12 ≤ 7146723; first | exact ar_e2 (z := zn) hzn rfl | omega)⟩ (m_L_ofq hfl hf)) (Nat.add_assoc z 12 2) (Nat.add_assoc zn 176 12) (fun E g9 h9 => h9.elim) (fun i223 g222 hf => ?_)
          refine gg_iload C dL_law_789 rfl ?_
          refine gg_iconst C dL_law_791 (v := (1 : Int32)) (by decide) ?_
          refine gg_iadd C dL_law_792 ?_
          refine gg_icmp_eq (tgt := 798) C dL_law_793 (by decide) hf (fun hf => ?_) (fun hf => ?_)
          · exact gg_sub (L' := [some (va_rf l0), some (va_rf l1), some (.int l2), some (.int l3), none, none, none, none, some (.int l8), some (.long l9), none, some (.int i219), none, none, none]) (by first | exact ⟨rfl, ⟨rfl, ⟨rfl, ⟨rfl, ⟨rfl, ⟨rfl, ⟨rfl, trivial⟩⟩⟩⟩⟩⟩⟩ | simp [gsub]) (hb_798 E21 En21 (by first | exact hE21 | omega) (by first | exact hEn21 | omega) _ hk21 (z + 14) (zn + 188) (by first | exact ar_e3 (z := z) hz rfl | omega) (by first | exact ar_e3 (z := zn) hzn rfl | omega) _ _ _ _ _ _ _ _ hf)
          · exact gg_sub (L' := [none, none, none, none, none, none, none, none, none, none, none, none, none, none, none]) (by first | exact trivial | simp [gsub]) (hb_796 (z + 14) (zn + 188) (by first | exact ar_e2 (z := z) hz rfl | omega) (by first | exact ar_e2 (z := zn) hzn rfl | omega) _ hf)
  have hb_710 : ∀ (E21 En21 : Nat), 5117 ≤ E21 → 58104 ≤ En21 → ∀ (k21 : Option Nat → Option Nat → Int32 → Int32 → GM → Prop), (∀ (z zn : Nat), z + E21 ≤ 649124 → zn + En21 ≤ 7146723 → ∀ (l0 : Option Nat) (l1 : Option Nat) (l2 : Int32) (l3 : Int32) (g : GM), k21 l0 l1 l2 l3 g → GG X p l e room_1 s m args below meth c 15 Q z zn 21 [some (va_rf l0), some (va_rf l1), some (.int l2), some (.int l3), none, none, none, none, none, none, none, none, none, none, none] [] g) → ∀ (z zn : Nat) (hz : z + (3646 + E21) ≤ 649124) (hzn : zn + (31290 + En21) ≤ 7146723) (l0 : Option Nat) (l1 : Option Nat) (l2 : Int32) (l3 : Int32) (l8 : Int32) (l9 : Int64) (l11 : Int32) (g : GM), w_L_law_b710 X post px k21 l0 l1 l2 l3 l8 l9 l11 g → GG X p l e room_1 s m args below meth c 15 Q z zn 710 [some (va_rf l0), some (va_rf l1), some (.int l2), some (.int l3), none, none, none, none, some (.int l8), some (.long l9), none, some (.int l11), none, none, none] [] g := by
    intro E21 En21 hE21 hEn21 k21 hk21 z zn hz hzn l0 l1 l2 l3 l8 l9 l11 g hf
    unfold w_L_law_b710 at hf
    refine gg_goto (tgt := 1076) C dL_law_710 (by decide) ?_
    exact hb_1076 E21 En21 (by first | exact hE21 | omega) (by first | exact hEn21 | omega) _ hk21 z zn (by first | exact ar_e4 (z := z) hz rfl | omega) (by first | exact ar_e4 (z := zn) hzn rfl | omega) _ _ _ _ _ _ _ _ hf
  have hb_581 : ∀ (E21 En21 : Nat), 5117 ≤ E21 → 58104 ≤ En21 → ∀ (k21 : Option Nat → Option Nat → Int32 → Int32 → GM → Prop), (∀ (z zn : Nat), z + E21 ≤ 649124 → zn + En21 ≤ 7146723 → ∀ (l0 : Option Nat) (l1 : Option Nat) (l2 : Int32) (l3 : Int32) (g : GM), k21 l0 l1 l2 l3 g → GG X p l e room_1 s m args below meth c 15 Q z zn 21 [some (va_rf l0), some (va_rf l1), some (.int l2), some (.int l3), none, none, none, none, none, none, none, none, none, none, none] [] g) → ∀ (z zn : Nat) (hz : z + (3646 + E21) ≤ 649124) (hzn : zn + (31290 + En21) ≤ 7146723) (l0 : Option Nat) (l1 : Option Nat) (l2 : Int32) (l3 : Int32) (l8 : Int32) (l9 : Int64) (t0 : Int32) (g : GM), w_L_law_b581 X post px k21 l0 l1 l2 l3 l8 l9 t0 g → GG X p l e room_1 s m args below meth c 15 Q z zn 581 [some (va_rf l0), some (va_rf l1), some (.int l2), some (.int l3), none, none, none, none, some (.int l8), some (.long l9), none, none, none, none, none] [.int t0] g := by
    intro E21 En21 hE21 hEn21 k21 hk21 z zn hz hzn l0 l1 l2 l3 l8 l9 t0 g hf
    unfold w_L_law_b581 at hf
    refine gg_istore (L' := [some (va_rf l0), some (va_rf l1), some (.int l2), some (.int l3), none, none, none, none, some (.int l8), some (.long l9), none, some (.int t0), none, none, none]) C dL_law_581 (Or.inr (Or.inl rfl)) (by decide) rfl ?_
    refine gg_goto (tgt := 1076) C dL_law_583 (by decide) ?_
    exact hb_1076 E21 En21 (by first | exact hE21 | omega) (by first | exact hEn21 | omega) _ hk21 z zn (by first | exact ar_e4 (z := z) hz rfl | omega) (by first | exact ar_e4 (z := zn) hzn rfl | omega) _ _ _ _ _ _ _ _ hf
  have hb_495 : ∀ (z zn : Nat) (hz : z + (0) ≤ 649124) (hzn : zn + (0) ≤ 7146723)  (g : GM), w_L_law_b495 X post px   g → GG X p l e room_1 s m args below meth c 15 Q z zn 495 [none, none, none, none, none, none, none, none, none, none, none, none, none, none, none] [] g := by
    intro  z zn hz hzn  g hf
    unfold w_L_law_b495 at hf
    refine gg_iconst C dL_law_495 (v := (0 : Int32)) (by decide) ?_
    exact hf.elim
  have hb_497 : ∀ (E21 En21 : Nat), 5117 ≤ E21 → 58104 ≤ En21 → ∀ (k21 : Option Nat → Option Nat → Int32 → Int32 → GM → Prop), (∀ (z zn : Nat), z + E21 ≤ 649124 → zn + En21 ≤ 7146723 → ∀ (l0 : Option Nat) (l1 : Option Nat) (l2 : Int32) (l3 : Int32) (g : GM), k21 l0 l1 l2 l3 g → GG X p l e room_1 s m args below meth c 15 Q z zn 21 [some (va_rf l0), some (va_rf l1), some (.int l2), some (.int l3), none, none, none, none, none, none, none, none, none, none, none] [] g) → ∀ (z zn : Nat) (hz : z + (3646 + E21) ≤ 649124) (hzn : zn + (31290 + En21) ≤ 7146723) (l0 : Option Nat) (l1 : Option Nat) (l2 : Int32) (l3 : Int32) (l8 : Int32) (l9 : Int64) (l11 : Int32) (g : GM), w_L_law_b497 X post px k21 l0 l1 l2 l3 l8 l9 l11 g → GG X p l e room_1 s m args below meth c 15 Q z zn 497 [some (va_rf l0), some (va_rf l1), some (.int l2), some (.int l3), none, none, none, none, some (.int l8), some (.long l9), none, some (.int l11), none, none, none] [] g := by
    intro E21 En21 hE21 hEn21 k21 hk21 z zn hz hzn l0 l1 l2 l3 l8 l9 l11 g hf
    unfold w_L_law_b497 at hf
    refine gg_goto (tgt := 1076) C dL_law_497 (by decide) ?_
    exact hb_1076 E21 En21 (by first | exact hE21 | omega) (by first | exact hEn21 | omega) _ hk21 z zn (by first | exact ar_e4 (z := z) hz rfl | omega) (by first | exact ar_e4 (z := zn) hzn rfl | omega) _ _ _ _ _ _ _ _ hf
  have hb_492 : ∀ (E21 En21 : Nat), 5117 ≤ E21 → 58104 ≤ En21 → ∀ (k21 : Option Nat → Option Nat → Int32 → Int32 → GM → Prop), (∀ (z zn : Nat), z + E21 ≤ 649124 → zn + En21 ≤ 7146723 → ∀ (l0 : Option Nat) (l1 : Option Nat) (l2 : Int32) (l3 : Int32) (g : GM), k21 l0 l1 l2 l3 g → GG X p l e room_1 s m args below meth c 15 Q z zn 21 [some (va_rf l0), some (va_rf l1), some (.int l2), some (.int l3), none, none, none, none, none, none, none, none, none, none, none] [] g) → ∀ (z zn : Nat) (hz : z + (3646 + E21) ≤ 649124) (hzn : zn + (31290 + En21) ≤ 7146723) (l0 : Option Nat) (l1 : Option Nat) (l2 : Int32) (l3 : Int32) (l8 : Int32) (l9 : Int64) (l11 : Int32) (t0 : Int32) (t1 : Int32) (g : GM), w_L_law_b492 X post px k21 l0 l1 l2 l3 l8 l9 l11 t0 t1 g → GG X p l e room_1 s m args below meth c 15 Q z zn 492 [some (va_rf l0), some (va_rf l1), some (.int l2), some (.int l3), none, none, none, none, some (.int l8), some (.long l9), none, some (.int l11), none, none, none] [.int t0, .int t1] g := by
    intro E21 En21 hE21 hEn21 k21 hk21 z zn hz hzn l0 l1 l2 l3 l8 l9 l11 t0 t1 g hf
    unfold w_L_law_b492 at hf
    refine gg_icmp_eq (tgt := 497) C dL_law_492 (by decide) hf (fun hf => ?_) (fun hf => ?_)
    · exact hb_497 E21 En21 (by first | exact hE21 | omega) (by first | exact hEn21 | omega) _ hk21 z zn (by first | exact ar_e4 (z := z) hz rfl | omega) (by first | exact ar_e4 (z := zn) hzn rfl | omega) _ _ _ _ _ _ _ _ hf
    · exact gg_sub (L' := [none, none, none, none, none, none, none, none, none, none, none, none, none, none, none]) (by first | exact trivial | simp [gsub]) (hb_495 z zn (by first | exact ar_e (z := z) hz rfl | omega) (by first | exact ar_e (z := zn) hzn rfl | omega) _ hf)
  have hb_463 : ∀ (E21 En21 : Nat), 5117 ≤ E21 → 58104 ≤ En21 → ∀ (k21 : Option Nat → Option Nat → Int32 → Int32 → GM → Prop), (∀ (z zn : Nat), z + E21 ≤ 649124 → zn + En21 ≤ 7146723 → ∀ (l0 : Option Nat) (l1 : Option Nat) (l2 : Int32) (l3 : Int32) (g : GM), k21 l0 l1 l2 l3 g → GG X p l e room_1 s m args below meth c 15 Q z zn 21 [some (va_rf l0), some (va_rf l1), some (.int l2), some (.int l3), none, none, none, none, none, none, none, none, none, none, none] [] g) → ∀ (z zn : Nat) (hz : z + (3648 + E21) ≤ 649124) (hzn : zn + (31302 + En21) ≤ 7146723) (l0 : Option Nat) (l1 : Option Nat) (l2 : Int32) (l3 : Int32) (l8 : Int32) (l9 : Int64) (l11 : Int32) (l13 : Int32) (t0 : Int32) (t1 : Int32) (g : GM), w_L_law_b463 X post px k21 l0 l1 l2 l3 l8 l9 l11 l13 t0 t1 g → GG X p l e room_1 s m args below meth c 15 Q z zn 463 [some (va_rf l0), some (va_rf l1), some (.int l2), some (.int l3), none, none, none, none, some (.int l8), some (.long l9), none, some (.int l11), none, some (.int l13), none] [.int t0, .int t1] g := by
    intro E21 En21 hE21 hEn21 k21 hk21 z zn hz hzn l0 l1 l2 l3 l8 l9 l11 l13 t0 t1 g hf
    unfold w_L_law_b463 at hf
    refine gg_icmp_ne (tgt := 495) C dL_law_463 (by decide) hf (fun hf => ?_) (fun hf => ?_)
    · exact gg_sub (L' := [none, none, none, none, none, none, none, none, none, none, none, none, none, none, none]) (by first | exact trivial | simp [gsub]) (hb_495 z zn (by first | exact ar_e (z := z) hz rfl | omega) (by first | exact ar_e (z := zn) hzn rfl | omega) _ hf)
    · refine gg_iload C dL_law_466 rfl ?_
      refine gg_if_lt (tgt := 497) C dL_law_468 (by decide) hf (fun hf => ?_) (fun hf => ?_)
      · exact gg_sub (L' := [some (va_rf l0), some (va_rf l1), some (.int l2), some (.int l3), none, none, none, none, some (.int l8), some (.long l9), none, some (.int l11), none, none, none]) (by first | exact ⟨rfl, ⟨rfl, ⟨rfl, ⟨rfl, ⟨rfl, ⟨rfl, ⟨rfl, trivial⟩⟩⟩⟩⟩⟩⟩ | simp [gsub]) (hb_497 E21 En21 (by first | exact hE21 | omega) (by first | exact hEn21 | omega) _ hk21 z zn (by first | exact ar_e4 (z := z) hz rfl | omega) (by first | exact ar_e4 (z := zn) hzn rfl | omega) _ _ _ _ _ _ _ _ hf)
      · refine gg_aload_n C dL_law_471 rfl ?_
        refine gg_iload C dL_law_472 rfl ?_
        refine gg_iconst C dL_law_474 (v := (2 : Int32)) (by decide) ?_
        refine gr_I (k' := (z + 2)) (n' := (zn + 12)) (gk_SW (As := [va_rf l1, .int l13, .int (2 : Int32)]) (rest := []) C dL_law_475 tw_607 tw_608 tw_24 tw_609 gd_L_of rfl ⟨by decide, by decide⟩ (by simp [gcat, gcI, gcL, gcF, gcD]) ⟨(by show z + 2 ≤ 649124; first | exact ar_e (z := z) hz rfl | omega), (by show zn + 12 ≤ 7146723; first | exact ar_e (z := zn) hzn rfl | omega)⟩ (m_L_ofq hfl hf)) rfl rfl (fun E g9 h9 => h9.elim) (fun i247 g246 hf => ?_)
        refine gg_iload C dL_law_478 rfl ?_
        refine gg_bipush C dL_law_480 (v := (45 : Int32)) (by decide) ?_
        refine gg_icmp_ne (tgt := 490) C dL_law_482 (by decide) hf (fun hf => ?_) (fun hf => ?_)
        · refine gg_bipush C dL_law_490 (v := (114 : Int32)) (by decide) ?_
          exact gg_sub (L' := [some (va_rf l0), some (va_rf l1), some (.int l2), some (.int l3), none, none, none, none, some (.int l8), some (.long l9), none, some (.int l11), none, none, none]) (by first | exact ⟨rfl, ⟨rfl, ⟨rfl, ⟨rfl, ⟨rfl, ⟨rfl, ⟨rfl, trivial⟩⟩⟩⟩⟩⟩⟩ | simp [gsub]) (hb_492 E21 En21 (by first | exact hE21 | omega) (by first | exact hEn21 | omega) _ hk21 (z + 2) (zn + 12) (by first | exact ar_e3 (z := z) hz rfl | omega) (by first | exact ar_e3 (z := zn) hzn rfl | omega) _ _ _ _ _ _ _ _ _ _ hf)
        · refine gg_bipush C dL_law_485 (v := (97 : Int32)) (by decide) ?_
          refine gg_goto (tgt := 492) C dL_law_487 (by decide) ?_
          exact gg_sub (L' := [some (va_rf l0), some (va_rf l1), some (.int l2), some (.int l3), none, none, none, none, some (.int l8), some (.long l9), none, some (.int l11), none, none, none]) (by first | exact ⟨rfl, ⟨rfl, ⟨rfl, ⟨rfl, ⟨rfl, ⟨rfl, ⟨rfl, trivial⟩⟩⟩⟩⟩⟩⟩ | simp [gsub]) (hb_492 E21 En21 (by first | exact hE21 | omega) (by first | exact hEn21 | omega) _ hk21 (z + 2) (zn + 12) (by first | exact ar_e3 (z := z) hz rfl | omega) (by first | exact ar_e3 (z := zn) hzn rfl | omega) _ _ _ _ _ _ _ _ _ _ hf)
  have hb_450 : ∀ (E21 En21 : Nat), 5117 ≤ E21 → 58104 ≤ En21 → ∀ (k21 : Option Nat → Option Nat → Int32 → Int32 → GM → Prop), (∀ (z zn : Nat), z + E21 ≤ 649124 → zn + En21 ≤ 7146723 → ∀ (l0 : Option Nat) (l1 : Option Nat) (l2 : Int32) (l3 : Int32) (g : GM), k21 l0 l1 l2 l3 g → GG X p l e room_1 s m args below meth c 15 Q z zn 21 [some (va_rf l0), some (va_rf l1), some (.int l2), some (.int l3), none, none, none, none, none, none, none, none, none, none, none] [] g) → ∀ (z zn : Nat) (hz : z + (3648 + E21) ≤ 649124) (hzn : zn + (31302 + En21) ≤ 7146723) (l0 : Option Nat) (l1 : Option Nat) (l2 : Int32) (l3 : Int32) (l8 : Int32) (l9 : Int64) (l11 : Int32) (l13 : Int32) (t0 : Int32) (g : GM), w_L_law_b450 X post px k21 l0 l1 l2 l3 l8 l9 l11 l13 t0 g → GG X p l e room_1 s m args below meth c 15 Q z zn 450 [some (va_rf l0), some (va_rf l1), some (.int l2), some (.int l3), none, none, none, none, some (.int l8), some (.long l9), none, some (.int l11), none, some (.int l13), none] [.int t0] g := by
    intro E21 En21 hE21 hEn21 k21 hk21 z zn hz hzn l0 l1 l2 l3 l8 l9 l11 l13 t0 g hf
    unfold w_L_law_b450 at hf
    refine gg_iload C dL_law_450 rfl ?_
    refine gg_sipush C dL_law_452 (v := (-1003 : Int32)) (by decide) ?_
    refine gg_icmp_ne (tgt := 462) C dL_law_455 (by decide) hf (fun hf => ?_) (fun hf => ?_)
    · refine gg_iconst C dL_law_462 (v := (0 : Int32)) (by decide) ?_
      exact hb_463 E21 En21 (by first | exact hE21 | omega) (by first | exact hEn21 | omega) _ hk21 z zn (by first | exact ar_e4 (z := z) hz rfl | omega) (by first | exact ar_e4 (z := zn) hzn rfl | omega) _ _ _ _ _ _ _ _ _ _ _ hf
    · refine gg_iconst C dL_law_458 (v := (1 : Int32)) (by decide) ?_
      refine gg_goto (tgt := 463) C dL_law_459 (by decide) ?_
      exact hb_463 E21 En21 (by first | exact hE21 | omega) (by first | exact hEn21 | omega) _ hk21 z zn (by first | exact ar_e4 (z := z) hz rfl | omega) (by first | exact ar_e4 (z := zn) hzn rfl | omega) _ _ _ _ _ _ _ _ _ _ _ hf
  have hb_317 : ∀ (z zn : Nat) (hz : z + (0) ≤ 649124) (hzn : zn + (0) ≤ 7146723)  (g : GM), w_L_law_b317 X post px   g → GG X p l e room_1 s m args below meth c 15 Q z zn 317 [none, none, none, none, none, none, none, none, none, none, none, none, none, none, none] [] g := by
    intro  z zn hz hzn  g hf
    unfold w_L_law_b317 at hf
    refine gg_iconst C dL_law_317 (v := (0 : Int32)) (by decide) ?_
    exact hf.elim
  have hb_163 : ∀ (E21 En21 : Nat), 5117 ≤ E21 → 58104 ≤ En21 → ∀ (k21 : Option Nat → Option Nat → Int32 → Int32 → GM → Prop), (∀ (z zn : Nat), z + E21 ≤ 649124 → zn + En21 ≤ 7146723 → ∀ (l0 : Option Nat) (l1 : Option Nat) (l2 : Int32) (l3 : Int32) (g : GM), k21 l0 l1 l2 l3 g → GG X p l e room_1 s m args below meth c 15 Q z zn 21 [some (va_rf l0), some (va_rf l1), some (.int l2), some (.int l3), none, none, none, none, none, none, none, none, none, none, none] [] g) → ∀ (z zn : Nat) (hz : z + (3668 + E21) ≤ 649124) (hzn : zn + (31578 + En21) ≤ 7146723) (l0 : Option Nat) (l1 : Option Nat) (l2 : Int32) (l3 : Int32) (l5 : Int32) (l6 : Int32) (l7 : Int32) (l8 : Int32) (l9 : Int64) (t0 : Int32) (g : GM), w_L_law_b163 X post px k21 l0 l1 l2 l3 l5 l6 l7 l8 l9 t0 g → GG X p l e room_1 s m args below meth c 15 Q z zn 163 [some (va_rf l0), some (va_rf l1), some (.int l2), some (.int l3), none, some (.int l5), some (.int l6), some (.int l7), some (.int l8), some (.long l9), none, none, none, none, none] [.int t0] g := by
    intro E21 En21 hE21 hEn21 k21 hk21 z zn hz hzn l0 l1 l2 l3 l5 l6 l7 l8 l9 t0 g hf
    unfold w_L_law_b163 at hf
    refine gg_istore (L' := [some (va_rf l0), some (va_rf l1), some (.int l2), some (.int l3), none, some (.int l5), some (.int l6), some (.int l7), some (.int l8), some (.long l9), none, none, some (.int t0), none, none]) C dL_law_163 (Or.inr (Or.inl rfl)) (by decide) rfl ?_
    refine gg_iload C dL_law_165 rfl ?_
    refine gg_iconst C dL_law_167 (v := (3 : Int32)) (by decide) ?_
    refine gg_icmp_ge (tgt := 202) C dL_law_168 (by decide) hf (fun hf => ?_) (fun hf => ?_)
    · refine gg_iload C dL_law_202 rfl ?_
      refine gg_iconst C dL_law_204 (v := (5 : Int32)) (by decide) ?_
      refine gg_icmp_ge (tgt := 319) C dL_law_205 (by decide) hf (fun hf => ?_) (fun hf => ?_)
      · refine gg_iload C dL_law_319 rfl ?_
        refine gg_bipush C dL_law_321 (v := (7 : Int32)) (by decide) ?_
        refine gg_icmp_ge (tgt := 381) C dL_law_323 (by decide) hf (fun hf => ?_) (fun hf => ?_)
        · refine gg_iload C dL_law_381 rfl ?_
          refine gg_bipush C dL_law_383 (v := (10 : Int32)) (by decide) ?_
          refine gg_icmp_ge (tgt := 416) C dL_law_385 (by decide) hf (fun hf => ?_) (fun hf => ?_)
          · refine gg_iload C dL_law_416 rfl ?_
            refine gg_bipush C dL_law_418 (v := (13 : Int32)) (by decide) ?_
            refine gg_icmp_ge (tgt := 500) C dL_law_420 (by decide) hf (fun hf => ?_) (fun hf => ?_)
            · refine gg_iload C dL_law_500 rfl ?_
              refine gg_bipush C dL_law_502 (v := (14 : Int32)) (by decide) ?_
              refine gg_icmp_ge (tgt := 536) C dL_law_504 (by decide) hf (fun hf => ?_) (fun hf => ?_)
              · refine gg_iload C dL_law_536 rfl ?_
                refine gg_bipush C dL_law_538 (v := (16 : Int32)) (by decide) ?_
                refine gg_icmp_ge (tgt := 586) C dL_law_540 (by decide) hf (fun hf => ?_) (fun hf => ?_)
                · refine gg_iload C dL_law_586 rfl ?_
                  refine gg_bipush C dL_law_588 (v := (20 : Int32)) (by decide) ?_
                  refine gg_icmp_ge (tgt := 649) C dL_law_590 (by decide) hf (fun hf => ?_) (fun hf => ?_)
                  · refine gg_iload C dL_law_649 rfl ?_
                    refine gg_bipush C dL_law_651 (v := (22 : Int32)) (by decide) ?_
                    refine gg_icmp_ge (tgt := 713) C dL_law_653 (by decide) hf (fun hf => ?_) (fun hf => ?_)
                    · refine gg_iload C dL_law_713 rfl ?_
                      refine gg_bipush C dL_law_715 (v := (28 : Int32)) (by decide) ?_
                      refine gg_icmp_ge (tgt := 801) C dL_law_717 (by decide) hf (fun hf => ?_) (fun hf => ?_)
                      · refine gg_iload C dL_law_801 rfl ?_
                        refine gg_bipush C dL_law_803 (v := (34 : Int32)) (by decide) ?_
                        refine gg_icmp_ge (tgt := 897) C dL_law_805 (by decide) hf (fun hf => ?_) (fun hf => ?_)
                        · refine gg_iload C dL_law_897 rfl ?_
                          refine gg_bipush C dL_law_899 (v := (35 : Int32)) (by decide) ?_
                          refine gg_icmp_ge (tgt := 960) C dL_law_901 (by decide) hf (fun hf => ?_) (fun hf => ?_)
                          · refine gg_iload C dL_law_960 rfl ?_
                            refine gg_bipush C dL_law_962 (v := (38 : Int32)) (by decide) ?_
                            refine gg_icmp_ge (tgt := 1014) C dL_law_964 (by decide) hf (fun hf => ?_) (fun hf => ?_)
                            · refine gg_aload_n C dL_law_1014 rfl ?_
                              refine gg_bipush C dL_law_1015 (v := (98 : Int32)) (by decide) ?_
                              refine gg_iload C dL_law_1017 rfl ?_
                              refine gg_iload C dL_law_1019 rfl ?_
                              refine gg_iconst C dL_law_1021 (v := (5 : Int32)) (by decide) ?_
                              refine gg_idiv C dL_law_1022 hf.1 ?_
                              replace hf := hf.2
                              refine gg_bipush C dL_law_1023 (v := (8 : Int32)) (by decide) ?_
                              refine gg_irem C dL_law_1025 hf.1 ?_
                              replace hf := hf.2
                              refine gr_I (k' := (z + 4)) (n' := (zn + 24)) (gk_SW (As := [va_rf l1, .int (98 : Int32), .int l7, .int (irem (l5 / (5 : Int32)) (8 : Int32))]) (rest := []) C dL_law_1026 tw_1105 tw_1106 tw_24 tw_1107 gd_L_both rfl ⟨by decide, by decide⟩ (by simp [gcat, gcI, gcL, gcF, gcD]) ⟨(by show z + 4 ≤ 649124; first | exact ar_e (z := z) hz rfl | omega), (by show zn + 24 ≤ 7146723; first | exact ar_e (z := zn) hzn rfl | omega)⟩ (m_L_both hfl hf)) rfl rfl (fun E g9 h9 => h9.elim) (fun i187 g186 hf => ?_)
                              refine gg_istore (L' := [some (va_rf l0), some (va_rf l1), some (.int l2), some (.int l3), none, some (.int l5), some (.int l6), some (.int l7), some (.int l8), some (.long l9), none, some (.int i187), some (.int t0), none, none]) C dL_law_1029 (Or.inr (Or.inl rfl)) (by decide) rfl ?_
                              refine gg_iload C dL_law_1031 rfl ?_
                              refine gg_if_lt (tgt := 1076) C dL_law_1033 (by decide) hf (fun hf => ?_) (fun hf => ?_)
                              · exact gg_sub (L' := [some (va_rf l0), some (va_rf l1), some (.int l2), some (.int l3), none, none, none, none, some (.int l8), some (.long l9), none, some (.int i187), none, none, none]) (by first | exact ⟨rfl, ⟨rfl, ⟨rfl, ⟨rfl, ⟨rfl, ⟨rfl, ⟨rfl, trivial⟩⟩⟩⟩⟩⟩⟩ | simp [gsub]) (hb_1076 E21 En21 (by first | exact hE21 | omega) (by first | exact hEn21 | omega) _ hk21 (z + 4) (zn + 24) (by first | exact ar_e3 (z := z) hz rfl | omega) (by first | exact ar_e3 (z := zn) hzn rfl | omega) _ _ _ _ _ _ _ _ hf)
                              · refine gg_aload_n C dL_law_1036 rfl ?_
                                refine gg_bipush C dL_law_1037 (v := (111 : Int32)) (by decide) ?_
                                refine gg_iload C dL_law_1039 rfl ?_
                                refine gg_iload C dL_law_1041 rfl ?_
                                refine gg_iconst C dL_law_1043 (v := (5 : Int32)) (by decide) ?_
                                refine gg_idiv C dL_law_1044 hf.1 ?_
                                replace hf := hf.2
                                refine gg_bipush C dL_law_1045 (v := (8 : Int32)) (by decide) ?_
                                refine gg_irem C dL_law_1047 hf.1 ?_
                                replace hf := hf.2
                                refine gr_I (k' := (z + 8)) (n' := (zn + 48)) (gk_SW (As := [va_rf l1, .int (111 : Int32), .int l7, .int (irem (l5 / (5 : Int32)) (8 : Int32))]) (rest := []) C dL_law_1048 tw_1105 tw_1106 tw_24 tw_1107 gd_L_both rfl ⟨by decide, by decide⟩ (by simp [gcat, gcI, gcL, gcF, gcD]) ⟨(by show (z + 4) + 4 ≤ 649124; first | exact ar_e2 (z := z) hz rfl | omega), (by show (zn + 24) + 24 ≤ 7146723; first | exact ar_e2 (z := zn) hzn rfl | omega)⟩ (m_L_both hfl hf)) (Nat.add_assoc z 4 4) (Nat.add_assoc zn 24 24) (fun E g9 h9 => h9.elim) (fun i193 g192 hf => ?_)
                                refine gg_iconst C dL_law_1051 (v := (1 : Int32)) (by decide) ?_
                                refine gg_icmp_ne (tgt := 1074) C dL_law_1052 (by decide) hf (fun hf => ?_) (fun hf => ?_)
                                · exact gg_sub (L' := [none, none, none, none, none, none, none, none, none, none, none, none, none, none, none]) (by first | exact trivial | simp [gsub]) (hb_1074 (z + 8) (zn + 48) (by first | exact ar_e2 (z := z) hz rfl | omega) (by first | exact ar_e2 (z := zn) hzn rfl | omega) _ hf)
                                · refine gg_aload_n C dL_law_1055 rfl ?_
                                  refine gg_bipush C dL_law_1056 (v := (117 : Int32)) (by decide) ?_
                                  refine gg_iload C dL_law_1058 rfl ?_
                                  refine gg_iload C dL_law_1060 rfl ?_
                                  refine gg_iconst C dL_law_1062 (v := (5 : Int32)) (by decide) ?_
                                  refine gg_idiv C dL_law_1063 hf.1 ?_
                                  replace hf := hf.2
                                  refine gg_bipush C dL_law_1064 (v := (8 : Int32)) (by decide) ?_
                                  refine gg_irem C dL_law_1066 hf.1 ?_
                                  replace hf := hf.2
                                  refine gr_I (k' := (z + 12)) (n' := (zn + 72)) (gk_SW (As := [va_rf l1, .int (117 : Int32), .int l7, .int (irem (l5 / (5 : Int32)) (8 : Int32))]) (rest := []) C dL_law_1067 tw_1105 tw_1106 tw_24 tw_1107 gd_L_both rfl ⟨by decide, by decide⟩ (by simp [gcat, gcI, gcL, gcF, gcD]) ⟨(by show (z + 8) + 4 ≤ 649124; first | exact ar_e2 (z := z) hz rfl | omega), (by show (zn + 48) + 24 ≤ 7146723; first | exact ar_e2 (z := zn) hzn rfl | omega)⟩ (m_L_both hfl hf)) (Nat.add_assoc z 8 4) (Nat.add_assoc zn 48 24) (fun E g9 h9 => h9.elim) (fun i195 g194 hf => ?_)
                                  refine gg_iconst C dL_law_1070 (v := (1 : Int32)) (by decide) ?_
                                  refine gg_icmp_eq (tgt := 1076) C dL_law_1071 (by decide) hf (fun hf => ?_) (fun hf => ?_)
                                  · exact gg_sub (L' := [some (va_rf l0), some (va_rf l1), some (.int l2), some (.int l3), none, none, none, none, some (.int l8), some (.long l9), none, some (.int i187), none, none, none]) (by first | exact ⟨rfl, ⟨rfl, ⟨rfl, ⟨rfl, ⟨rfl, ⟨rfl, ⟨rfl, trivial⟩⟩⟩⟩⟩⟩⟩ | simp [gsub]) (hb_1076 E21 En21 (by first | exact hE21 | omega) (by first | exact hEn21 | omega) _ hk21 (z + 12) (zn + 72) (by first | exact ar_e3 (z := z) hz rfl | omega) (by first | exact ar_e3 (z := zn) hzn rfl | omega) _ _ _ _ _ _ _ _ hf)
                                  · exact gg_sub (L' := [none, none, none, none, none, none, none, none, none, none, none, none, none, none, none]) (by first | exact trivial | simp [gsub]) (hb_1074 (z + 12) (zn + 72) (by first | exact ar_e2 (z := z) hz rfl | omega) (by first | exact ar_e2 (z := zn) hzn rfl | omega) _ hf)
                            · refine gg_iconst C dL_law_967 (v := (1 : Int32)) (by decide) ?_
                              refine gg_iload C dL_law_968 rfl ?_
                              refine gg_iconst C dL_law_970 (v := (5 : Int32)) (by decide) ?_
                              refine gg_idiv C dL_law_971 hf.1 ?_
                              replace hf := hf.2
                              refine gg_iconst C dL_law_972 (v := (5 : Int32)) (by decide) ?_
                              refine gg_irem C dL_law_973 hf.1 ?_
                              replace hf := hf.2
                              refine gg_iadd C dL_law_974 ?_
                              refine gg_istore (L' := [some (va_rf l0), some (va_rf l1), some (.int l2), some (.int l3), none, some (.int l5), some (.int l6), some (.int l7), some (.int l8), some (.long l9), none, none, some (.int t0), some (.int ((1 : Int32) + (irem (l5 / (5 : Int32)) (5 : Int32)))), none]) C dL_law_975 (Or.inr (Or.inr ⟨_, rfl, rfl⟩)) (by decide) rfl ?_
                              refine gg_aload_n C dL_law_977 rfl ?_
                              refine gg_bipush C dL_law_978 (v := (114 : Int32)) (by decide) ?_
                              refine gg_iload C dL_law_980 rfl ?_
                              refine gg_iload C dL_law_982 rfl ?_
                              refine gr_I (k' := (z + 4)) (n' := (zn + 24)) (gk_SW (As := [va_rf l1, .int (114 : Int32), .int l7, .int ((1 : Int32) + (irem (l5 / (5 : Int32)) (5 : Int32)))]) (rest := []) C dL_law_984 tw_1105 tw_1106 tw_24 tw_1107 gd_L_both rfl ⟨by decide, by decide⟩ (by simp [gcat, gcI, gcL, gcF, gcD]) ⟨(by show z + 4 ≤ 649124; first | exact ar_e (z := z) hz rfl | omega), (by show zn + 24 ≤ 7146723; first | exact ar_e (z := zn) hzn rfl | omega)⟩ (m_L_both hfl hf)) rfl rfl (fun E g9 h9 => h9.elim) (fun i197 g196 hf => ?_)
                              refine gg_istore (L' := [some (va_rf l0), some (va_rf l1), some (.int l2), some (.int l3), none, some (.int l5), some (.int l6), some (.int l7), some (.int l8), some (.long l9), none, some (.int i197), some (.int t0), some (.int ((1 : Int32) + (irem (l5 / (5 : Int32)) (5 : Int32)))), none]) C dL_law_987 (Or.inr (Or.inl rfl)) (by decide) rfl ?_
                              refine gg_iload C dL_law_989 rfl ?_
                              refine gg_if_lt (tgt := 1011) C dL_law_991 (by decide) hf (fun hf => ?_) (fun hf => ?_)
                              · exact gg_sub (L' := [some (va_rf l0), some (va_rf l1), some (.int l2), some (.int l3), none, none, none, none, some (.int l8), some (.long l9), none, some (.int i197), none, none, none]) (by first | exact ⟨rfl, ⟨rfl, ⟨rfl, ⟨rfl, ⟨rfl, ⟨rfl, ⟨rfl, trivial⟩⟩⟩⟩⟩⟩⟩ | simp [gsub]) (hb_1011 E21 En21 (by first | exact hE21 | omega) (by first | exact hEn21 | omega) _ hk21 (z + 4) (zn + 24) (by first | exact ar_e3 (z := z) hz rfl | omega) (by first | exact ar_e3 (z := zn) hzn rfl | omega) _ _ _ _ _ _ _ _ hf)
                              · refine gg_aload_n C dL_law_994 rfl ?_
                                refine gg_bipush C dL_law_995 (v := (114 : Int32)) (by decide) ?_
                                refine gg_iload C dL_law_997 rfl ?_
                                refine gg_iload C dL_law_999 rfl ?_
                                refine gr_I (k' := (z + 8)) (n' := (zn + 48)) (gk_SW (As := [va_rf l1, .int (114 : Int32), .int l7, .int ((1 : Int32) + (irem (l5 / (5 : Int32)) (5 : Int32)))]) (rest := []) C dL_law_1001 tw_1105 tw_1106 tw_24 tw_1107 gd_L_both rfl ⟨by decide, by decide⟩ (by simp [gcat, gcI, gcL, gcF, gcD]) ⟨(by show (z + 4) + 4 ≤ 649124; first | exact ar_e2 (z := z) hz rfl | omega), (by show (zn + 24) + 24 ≤ 7146723; first | exact ar_e2 (z := zn) hzn rfl | omega)⟩ (m_L_both hfl hf)) (Nat.add_assoc z 4 4) (Nat.add_assoc zn 24 24) (fun E g9 h9 => h9.elim) (fun i199 g198 hf => ?_)
                                refine gg_iload C dL_law_1004 rfl ?_
                                refine gg_icmp_eq (tgt := 1011) C dL_law_1006 (by decide) hf (fun hf => ?_) (fun hf => ?_)
                                · exact gg_sub (L' := [some (va_rf l0), some (va_rf l1), some (.int l2), some (.int l3), none, none, none, none, some (.int l8), some (.long l9), none, some (.int i197), none, none, none]) (by first | exact ⟨rfl, ⟨rfl, ⟨rfl, ⟨rfl, ⟨rfl, ⟨rfl, ⟨rfl, trivial⟩⟩⟩⟩⟩⟩⟩ | simp [gsub]) (hb_1011 E21 En21 (by first | exact hE21 | omega) (by first | exact hEn21 | omega) _ hk21 (z + 8) (zn + 48) (by first | exact ar_e3 (z := z) hz rfl | omega) (by first | exact ar_e3 (z := zn) hzn rfl | omega) _ _ _ _ _ _ _ _ hf)
                                · refine gg_iconst C dL_law_1009 (v := (0 : Int32)) (by decide) ?_
                                  exact hf.elim
                          · refine gg_iload C dL_law_904 rfl ?_
                            refine gg_iconst C dL_law_906 (v := (2 : Int32)) (by decide) ?_
                            refine gg_irem C dL_law_907 hf.1 ?_
                            replace hf := hf.2
                            refine gg_if_ne (tgt := 928) C dL_law_908 (by decide) hf (fun hf => ?_) (fun hf => ?_)
                            · refine gg_aload_n C dL_law_928 rfl ?_
                              refine gg_bipush C dL_law_929 (v := (114 : Int32)) (by decide) ?_
                              refine gg_iload C dL_law_931 rfl ?_
                              refine gg_iconst C dL_law_933 (v := (2 : Int32)) (by decide) ?_
                              refine gg_idiv C dL_law_934 hf.1 ?_
                              replace hf := hf.2
                              refine gg_sipush C dL_law_935 (v := (2000 : Int32)) (by decide) ?_
                              refine gg_irem C dL_law_938 hf.1 ?_
                              replace hf := hf.2
                              refine gr_I (k' := (z + 1)) (n' := (zn + 6)) (gk_SW (As := [va_rf l1, .int (114 : Int32), .int (irem (l5 / (2 : Int32)) (2000 : Int32))]) (rest := []) C dL_law_939 tw_1156 tw_1157 tw_24 tw_1158 gd_L_sets rfl ⟨by decide, by decide⟩ (by simp [gcat, gcI, gcL, gcF, gcD]) ⟨(by show z + 1 ≤ 649124; first | exact ar_e (z := z) hz rfl | omega), (by show zn + 6 ≤ 7146723; first | exact ar_e (z := zn) hzn rfl | omega)⟩ (m_L_sets hfl hf)) rfl rfl (fun E g9 h9 => h9.elim) (fun i201 g200 hf => ?_)
                              exact gg_sub (L' := [some (va_rf l0), some (va_rf l1), some (.int l2), some (.int l3), none, none, none, none, some (.int l8), some (.long l9), none, none, none, none, none]) (by first | exact ⟨rfl, ⟨rfl, ⟨rfl, ⟨rfl, ⟨rfl, ⟨rfl, trivial⟩⟩⟩⟩⟩⟩ | simp [gsub]) (hb_942 E21 En21 (by first | exact hE21 | omega) (by first | exact hEn21 | omega) _ hk21 (z + 1) (zn + 6) (by first | exact ar_e3 (z := z) hz rfl | omega) (by first | exact ar_e3 (z := zn) hzn rfl | omega) _ _ _ _ _ _ _ _ hf)
                            · refine gg_aload_n C dL_law_911 rfl ?_
                              refine gg_bipush C dL_law_912 (v := (111 : Int32)) (by decide) ?_
                              refine gg_iload C dL_law_914 rfl ?_
                              refine gg_iconst C dL_law_916 (v := (2 : Int32)) (by decide) ?_
                              refine gg_idiv C dL_law_917 hf.1 ?_
                              replace hf := hf.2
                              refine gg_sipush C dL_law_918 (v := (1001 : Int32)) (by decide) ?_
                              refine gg_irem C dL_law_921 hf.1 ?_
                              replace hf := hf.2
                              refine gr_I (k' := (z + 1)) (n' := (zn + 6)) (gk_SW (As := [va_rf l1, .int (111 : Int32), .int (irem (l5 / (2 : Int32)) (1001 : Int32))]) (rest := []) C dL_law_922 tw_1156 tw_1157 tw_24 tw_1158 gd_L_sets rfl ⟨by decide, by decide⟩ (by simp [gcat, gcI, gcL, gcF, gcD]) ⟨(by show z + 1 ≤ 649124; first | exact ar_e (z := z) hz rfl | omega), (by show zn + 6 ≤ 7146723; first | exact ar_e (z := zn) hzn rfl | omega)⟩ (m_L_sets hfl hf)) rfl rfl (fun E g9 h9 => h9.elim) (fun i203 g202 hf => ?_)
                              refine gg_goto (tgt := 942) C dL_law_925 (by decide) ?_
                              exact gg_sub (L' := [some (va_rf l0), some (va_rf l1), some (.int l2), some (.int l3), none, none, none, none, some (.int l8), some (.long l9), none, none, none, none, none]) (by first | exact ⟨rfl, ⟨rfl, ⟨rfl, ⟨rfl, ⟨rfl, ⟨rfl, trivial⟩⟩⟩⟩⟩⟩ | simp [gsub]) (hb_942 E21 En21 (by first | exact hE21 | omega) (by first | exact hEn21 | omega) _ hk21 (z + 1) (zn + 6) (by first | exact ar_e3 (z := z) hz rfl | omega) (by first | exact ar_e3 (z := zn) hzn rfl | omega) _ _ _ _ _ _ _ _ hf)
                        · refine gg_iload C dL_law_808 rfl ?_
                          refine gg_bipush C dL_law_810 (v := (6 : Int32)) (by decide) ?_
                          refine gg_irem C dL_law_812 hf.1 ?_
                          replace hf := hf.2
                          refine gg_istore (L' := [some (va_rf l0), some (va_rf l1), some (.int l2), some (.int l3), none, some (.int l5), some (.int l6), some (.int l7), some (.int l8), some (.long l9), none, none, some (.int t0), some (.int (irem l5 (6 : Int32))), none]) C dL_law_813 (Or.inr (Or.inr ⟨_, rfl, rfl⟩)) (by decide) rfl ?_
                          exact gg_sub (L' := [some (va_rf l0), some (va_rf l1), some (.int l2), some (.int l3), none, some (.int l5), none, some (.int l7), some (.int l8), some (.long l9), none, none, none, some (.int (irem l5 (6 : Int32))), none]) (by first | exact ⟨rfl, ⟨rfl, ⟨rfl, ⟨rfl, ⟨rfl, ⟨rfl, ⟨rfl, ⟨rfl, ⟨rfl, trivial⟩⟩⟩⟩⟩⟩⟩⟩⟩ | simp [gsub]) (hb_815 E21 En21 (by first | exact hE21 | omega) (by first | exact hEn21 | omega) _ hk21 7 z zn (by first | exact ar_e4 (z := z) hz rfl | omega) (by first | exact ar_e4 (z := zn) hzn rfl | omega) _ _ _ _ _ _ _ _ _ _ hf)
                      · refine gg_aload_n C dL_law_720 rfl ?_
                        refine gg_iload C dL_law_721 rfl ?_
                        refine gg_iconst C dL_law_723 (v := (0 : Int32)) (by decide) ?_
                        refine gr_I (k' := (z + 6)) (n' := (zn + 88)) (gk_SW (As := [va_rf l1, .int l7, .int (0 : Int32)]) (rest := []) C dL_law_724 tw_1008 tw_1009 tw_24 tw_1010 gd_L_device rfl ⟨by decide, by decide⟩ (by simp [gcat, gcI, gcL, gcF, gcD]) ⟨(by show z + 6 ≤ 649124; first | exact ar_e (z := z) hz rfl | omega), (by show zn + 88 ≤ 7146723; first | exact ar_e (z := zn) hzn rfl | omega)⟩ (m_L_device hfl hf)) rfl rfl (fun E g9 h9 => h9.elim) (fun i215 g214 hf => ?_)
                        refine gg_istore (L' := [some (va_rf l0), some (va_rf l1), some (.int l2), some (.int l3), none, some (.int l5), some (.int l6), some (.int l7), some (.int l8), some (.long l9), none, none, some (.int t0), some (.int i215), none]) C dL_law_727 (Or.inr (Or.inr ⟨_, rfl, rfl⟩)) (by decide) rfl ?_
                        refine gg_iload C dL_law_729 rfl ?_
                        refine gg_if_ge (tgt := 738) C dL_law_731 (by decide) hf (fun hf => ?_) (fun hf => ?_)
                        · refine gg_aload_n C dL_law_738 rfl ?_
                          refine gg_iload C dL_law_739 rfl ?_
                          refine gg_bipush C dL_law_741 (v := (8 : Int32)) (by decide) ?_
                          refine gr_I (k' := (z + 8)) (n' := (zn + 100)) (gk_SW (As := [va_rf l1, .int i215, .int (8 : Int32)]) (rest := []) C dL_law_743 tw_607 tw_608 tw_24 tw_609 gd_L_of rfl ⟨by decide, by decide⟩ (by simp [gcat, gcI, gcL, gcF, gcD]) ⟨(by show (z + 6) + 2 ≤ 649124; first | exact ar_e2 (z := z) hz rfl | omega), (by show (zn + 88) + 12 ≤ 7146723; first | exact ar_e2 (z := zn) hzn rfl | omega)⟩ (m_L_ofq hfl hf)) (Nat.add_assoc z 6 2) (Nat.add_assoc zn 88 12) (fun E g9 h9 => h9.elim) (fun i217 g216 hf => ?_)
                          exact gg_sub (L' := [some (va_rf l0), some (va_rf l1), some (.int l2), some (.int l3), none, none, none, some (.int l7), some (.int l8), some (.long l9), none, none, none, some (.int i215), none]) (by first | exact ⟨rfl, ⟨rfl, ⟨rfl, ⟨rfl, ⟨rfl, ⟨rfl, ⟨rfl, ⟨rfl, trivial⟩⟩⟩⟩⟩⟩⟩⟩ | simp [gsub]) (hb_746 E21 En21 (by first | exact hE21 | omega) (by first | exact hEn21 | omega) _ hk21 (z + 8) (zn + 100) (by first | exact ar_e3 (z := z) hz rfl | omega) (by first | exact ar_e3 (z := zn) hzn rfl | omega) _ _ _ _ _ _ _ _ _ _ hf)
                        · refine gg_iconst C dL_law_734 (v := (0 : Int32)) (by decide) ?_
                          refine gg_goto (tgt := 746) C dL_law_735 (by decide) ?_
                          exact gg_sub (L' := [some (va_rf l0), some (va_rf l1), some (.int l2), some (.int l3), none, none, none, some (.int l7), some (.int l8), some (.long l9), none, none, none, some (.int i215), none]) (by first | exact ⟨rfl, ⟨rfl, ⟨rfl, ⟨rfl, ⟨rfl, ⟨rfl, ⟨rfl, ⟨rfl, trivial⟩⟩⟩⟩⟩⟩⟩⟩ | simp [gsub]) (hb_746 E21 En21 (by first | exact hE21 | omega) (by first | exact hEn21 | omega) _ hk21 (z + 6) (zn + 88) (by first | exact ar_e3 (z := z) hz rfl | omega) (by first | exact ar_e3 (z := zn) hzn rfl | omega) _ _ _ _ _ _ _ _ _ _ hf)
                    · refine gg_iconst C dL_law_656 (v := (1 : Int32)) (by decide) ?_
                      refine gg_iload C dL_law_657 rfl ?_
                      refine gg_iconst C dL_law_659 (v := (4 : Int32)) (by decide) ?_
                      refine gg_irem C dL_law_660 hf.1 ?_
                      replace hf := hf.2
                      refine gg_iadd C dL_law_661 ?_
                      refine gg_istore (L' := [some (va_rf l0), some (va_rf l1), some (.int l2), some (.int l3), none, some (.int l5), some (.int l6), some (.int l7), some (.int l8), some (.long l9), none, none, some (.int t0), some (.int ((1 : Int32) + (irem l5 (4 : Int32)))), none]) C dL_law_662 (Or.inr (Or.inr ⟨_, rfl, rfl⟩)) (by decide) rfl ?_
                      refine gg_aload_n C dL_law_664 rfl ?_
                      refine gg_bipush C dL_law_665 (v := (112 : Int32)) (by decide) ?_
                      refine gg_iload C dL_law_667 rfl ?_
                      refine gg_iload C dL_law_669 rfl ?_
                      refine gr_I (k' := (z + 4)) (n' := (zn + 24)) (gk_SW (As := [va_rf l1, .int (112 : Int32), .int l6, .int ((1 : Int32) + (irem l5 (4 : Int32)))]) (rest := []) C dL_law_671 tw_1105 tw_1106 tw_24 tw_1107 gd_L_both rfl ⟨by decide, by decide⟩ (by simp [gcat, gcI, gcL, gcF, gcD]) ⟨(by show z + 4 ≤ 649124; first | exact ar_e (z := z) hz rfl | omega), (by show zn + 24 ≤ 7146723; first | exact ar_e (z := zn) hzn rfl | omega)⟩ (m_L_both hfl hf)) rfl rfl (fun E g9 h9 => h9.elim) (fun i225 g224 hf => ?_)
                      refine gg_istore (L' := [some (va_rf l0), some (va_rf l1), some (.int l2), some (.int l3), none, some (.int l5), some (.int l6), some (.int l7), some (.int l8), some (.long l9), none, none, some (.int t0), some (.int ((1 : Int32) + (irem l5 (4 : Int32)))), some (.int i225)]) C dL_law_674 (Or.inr (Or.inr ⟨_, rfl, rfl⟩)) (by decide) rfl ?_
                      refine gg_aload_n C dL_law_676 rfl ?_
                      refine gg_bipush C dL_law_677 (v := (100 : Int32)) (by decide) ?_
                      refine gg_iload C dL_law_679 rfl ?_
                      refine gr_I (k' := (z + 5)) (n' := (zn + 30)) (gk_SW (As := [va_rf l1, .int (100 : Int32), .int ((1 : Int32) + (irem l5 (4 : Int32)))]) (rest := []) C dL_law_681 tw_1156 tw_1157 tw_24 tw_1158 gd_L_sets rfl ⟨by decide, by decide⟩ (by simp [gcat, gcI, gcL, gcF, gcD]) ⟨(by show (z + 4) + 1 ≤ 649124; first | exact ar_e2 (z := z) hz rfl | omega), (by show (zn + 24) + 6 ≤ 7146723; first | exact ar_e2 (z := zn) hzn rfl | omega)⟩ (m_L_sets hfl hf)) (Nat.add_assoc z 4 1) (Nat.add_assoc zn 24 6) (fun E g9 h9 => h9.elim) (fun i227 g226 hf => ?_)
                      refine gg_istore (L' := [some (va_rf l0), some (va_rf l1), some (.int l2), some (.int l3), none, some (.int l5), some (.int l6), some (.int l7), some (.int l8), some (.long l9), none, some (.int i227), some (.int t0), some (.int ((1 : Int32) + (irem l5 (4 : Int32)))), some (.int i225)]) C dL_law_684 (Or.inr (Or.inl rfl)) (by decide) rfl ?_
                      refine gg_iload C dL_law_686 rfl ?_
                      refine gg_if_lt (tgt := 710) C dL_law_688 (by decide) hf (fun hf => ?_) (fun hf => ?_)
                      · exact gg_sub (L' := [some (va_rf l0), some (va_rf l1), some (.int l2), some (.int l3), none, none, none, none, some (.int l8), some (.long l9), none, some (.int i227), none, none, none]) (by first | exact ⟨rfl, ⟨rfl, ⟨rfl, ⟨rfl, ⟨rfl, ⟨rfl, ⟨rfl, trivial⟩⟩⟩⟩⟩⟩⟩ | simp [gsub]) (hb_710 E21 En21 (by first | exact hE21 | omega) (by first | exact hEn21 | omega) _ hk21 (z + 5) (zn + 30) (by first | exact ar_e3 (z := z) hz rfl | omega) (by first | exact ar_e3 (z := zn) hzn rfl | omega) _ _ _ _ _ _ _ _ hf)
                      · refine gg_iload C dL_law_691 rfl ?_
                        refine gg_if_lt (tgt := 710) C dL_law_693 (by decide) hf (fun hf => ?_) (fun hf => ?_)
                        · exact gg_sub (L' := [some (va_rf l0), some (va_rf l1), some (.int l2), some (.int l3), none, none, none, none, some (.int l8), some (.long l9), none, some (.int i227), none, none, none]) (by first | exact ⟨rfl, ⟨rfl, ⟨rfl, ⟨rfl, ⟨rfl, ⟨rfl, ⟨rfl, trivial⟩⟩⟩⟩⟩⟩⟩ | simp [gsub]) (hb_710 E21 En21 (by first | exact hE21 | omega) (by first | exact hEn21 | omega) _ hk21 (z + 5) (zn + 30) (by first | exact ar_e3 (z := z) hz rfl | omega) (by first | exact ar_e3 (z := zn) hzn rfl | omega) _ _ _ _ _ _ _ _ hf)
                        · refine gg_aload_n C dL_law_696 rfl ?_
                          refine gg_iload C dL_law_697 rfl ?_
                          refine gg_iconst C dL_law_699 (v := (3 : Int32)) (by decide) ?_
                          refine gr_I (k' := (z + 7)) (n' := (zn + 42)) (gk_SW (As := [va_rf l1, .int l6, .int (3 : Int32)]) (rest := []) C dL_law_700 tw_607 tw_608 tw_24 tw_609 gd_L_of rfl ⟨by decide, by decide⟩ (by simp [gcat, gcI, gcL, gcF, gcD]) ⟨(by show (z + 5) + 2 ≤ 649124; first | exact ar_e2 (z := z) hz rfl | omega), (by show (zn + 30) + 12 ≤ 7146723; first | exact ar_e2 (z := zn) hzn rfl | omega)⟩ (m_L_ofq hfl hf)) (Nat.add_assoc z 5 2) (Nat.add_assoc zn 30 12) (fun E g9 h9 => h9.elim) (fun i229 g228 hf => ?_)
                          refine gg_iload C dL_law_703 rfl ?_
                          refine gg_icmp_eq (tgt := 710) C dL_law_705 (by decide) hf (fun hf => ?_) (fun hf => ?_)
                          · exact gg_sub (L' := [some (va_rf l0), some (va_rf l1), some (.int l2), some (.int l3), none, none, none, none, some (.int l8), some (.long l9), none, some (.int i227), none, none, none]) (by first | exact ⟨rfl, ⟨rfl, ⟨rfl, ⟨rfl, ⟨rfl, ⟨rfl, ⟨rfl, trivial⟩⟩⟩⟩⟩⟩⟩ | simp [gsub]) (hb_710 E21 En21 (by first | exact hE21 | omega) (by first | exact hEn21 | omega) _ hk21 (z + 7) (zn + 42) (by first | exact ar_e3 (z := z) hz rfl | omega) (by first | exact ar_e3 (z := zn) hzn rfl | omega) _ _ _ _ _ _ _ _ hf)
                          · refine gg_iconst C dL_law_708 (v := (0 : Int32)) (by decide) ?_
                            exact hf.elim
                  · refine gg_aload_n C dL_law_593 rfl ?_
                    refine gg_bipush C dL_law_594 (v := (115 : Int32)) (by decide) ?_
                    refine gg_iload C dL_law_596 rfl ?_
                    refine gg_iconst C dL_law_598 (v := (1 : Int32)) (by decide) ?_
                    refine gg_iload C dL_law_599 rfl ?_
                    refine gg_bipush C dL_law_601 (v := (7 : Int32)) (by decide) ?_
                    refine gg_idiv C dL_law_603 hf.1 ?_
                    replace hf := hf.2
                    refine gg_bipush C dL_law_604 (v := (100 : Int32)) (by decide) ?_
                    refine gg_irem C dL_law_606 hf.1 ?_
                    replace hf := hf.2
                    refine gg_iadd C dL_law_607 ?_
                    refine gg_iload C dL_law_608 rfl ?_
                    refine gg_sipush C dL_law_610 (v := (700 : Int32)) (by decide) ?_
                    refine gg_idiv C dL_law_613 hf.1 ?_
                    replace hf := hf.2
                    refine gg_bipush C dL_law_614 (v := (20 : Int32)) (by decide) ?_
                    refine gg_irem C dL_law_616 hf.1 ?_
                    replace hf := hf.2
                    refine gr_I (k' := (z + 6)) (n' := (zn + 240)) (gk_SW (As := [va_rf l1, .int (115 : Int32), .int l6, .int ((1 : Int32) + (irem (l5 / (7 : Int32)) (100 : Int32))), .int (irem (l5 / (700 : Int32)) (20 : Int32))]) (rest := []) C dL_law_617 tw_517 tw_518 tw_24 tw_519 gd_L_three rfl ⟨by decide, by decide⟩ (by simp [gcat, gcI, gcL, gcF, gcD]) ⟨(by show z + 6 ≤ 649124; first | exact ar_e (z := z) hz rfl | omega), (by show zn + 240 ≤ 7146723; first | exact ar_e (z := zn) hzn rfl | omega)⟩ (m_L_three hfl hf)) rfl rfl (fun E g9 h9 => h9.elim) (fun i231 g230 hf => ?_)
                    refine gg_istore (L' := [some (va_rf l0), some (va_rf l1), some (.int l2), some (.int l3), none, some (.int l5), some (.int l6), some (.int l7), some (.int l8), some (.long l9), none, some (.int i231), some (.int t0), none, none]) C dL_law_620 (Or.inr (Or.inl rfl)) (by decide) rfl ?_
                    refine gg_iload C dL_law_622 rfl ?_
                    refine gg_if_lt (tgt := 1076) C dL_law_624 (by decide) hf (fun hf => ?_) (fun hf => ?_)
                    · exact gg_sub (L' := [some (va_rf l0), some (va_rf l1), some (.int l2), some (.int l3), none, none, none, none, some (.int l8), some (.long l9), none, some (.int i231), none, none, none]) (by first | exact ⟨rfl, ⟨rfl, ⟨rfl, ⟨rfl, ⟨rfl, ⟨rfl, ⟨rfl, trivial⟩⟩⟩⟩⟩⟩⟩ | simp [gsub]) (hb_1076 E21 En21 (by first | exact hE21 | omega) (by first | exact hEn21 | omega) _ hk21 (z + 6) (zn + 240) (by first | exact ar_e3 (z := z) hz rfl | omega) (by first | exact ar_e3 (z := zn) hzn rfl | omega) _ _ _ _ _ _ _ _ hf)
                    · refine gg_aload_n C dL_law_627 rfl ?_
                      refine gg_iload C dL_law_628 rfl ?_
                      refine gg_iconst C dL_law_630 (v := (3 : Int32)) (by decide) ?_
                      refine gr_I (k' := (z + 8)) (n' := (zn + 252)) (gk_SW (As := [va_rf l1, .int l6, .int (3 : Int32)]) (rest := []) C dL_law_631 tw_607 tw_608 tw_24 tw_609 gd_L_of rfl ⟨by decide, by decide⟩ (by simp [gcat, gcI, gcL, gcF, gcD]) ⟨(by show (z + 6) + 2 ≤ 649124; first | exact ar_e2 (z := z) hz rfl | omega), (by show (zn + 240) + 12 ≤ 7146723; first | exact ar_e2 (z := zn) hzn rfl | omega)⟩ (m_L_ofq hfl hf)) (Nat.add_assoc z 6 2) (Nat.add_assoc zn 240 12) (fun E g9 h9 => h9.elim) (fun i233 g232 hf => ?_)
                      refine gg_iconst C dL_law_634 (v := (1 : Int32)) (by decide) ?_
                      refine gg_iload C dL_law_635 rfl ?_
                      refine gg_bipush C dL_law_637 (v := (7 : Int32)) (by decide) ?_
                      refine gg_idiv C dL_law_639 hf.1 ?_
                      replace hf := hf.2
                      refine gg_bipush C dL_law_640 (v := (100 : Int32)) (by decide) ?_
                      refine gg_irem C dL_law_642 hf.1 ?_
                      replace hf := hf.2
                      refine gg_iadd C dL_law_643 ?_
                      refine gg_icmp_eq (tgt := 1076) C dL_law_644 (by decide) hf (fun hf => ?_) (fun hf => ?_)
                      · exact gg_sub (L' := [some (va_rf l0), some (va_rf l1), some (.int l2), some (.int l3), none, none, none, none, some (.int l8), some (.long l9), none, some (.int i231), none, none, none]) (by first | exact ⟨rfl, ⟨rfl, ⟨rfl, ⟨rfl, ⟨rfl, ⟨rfl, ⟨rfl, trivial⟩⟩⟩⟩⟩⟩⟩ | simp [gsub]) (hb_1076 E21 En21 (by first | exact hE21 | omega) (by first | exact hEn21 | omega) _ hk21 (z + 8) (zn + 252) (by first | exact ar_e3 (z := z) hz rfl | omega) (by first | exact ar_e3 (z := zn) hzn rfl | omega) _ _ _ _ _ _ _ _ hf)
                      · refine gg_iconst C dL_law_647 (v := (0 : Int32)) (by decide) ?_
                        exact hf.elim
                · refine gg_iload C dL_law_543 rfl ?_
                  refine gg_iconst C dL_law_545 (v := (2 : Int32)) (by decide) ?_
                  refine gg_irem C dL_law_546 hf.1 ?_
                  replace hf := hf.2
                  refine gg_if_ne (tgt := 569) C dL_law_547 (by decide) hf (fun hf => ?_) (fun hf => ?_)
                  · refine gg_aload_n C dL_law_569 rfl ?_
                    refine gg_bipush C dL_law_570 (v := (98 : Int32)) (by decide) ?_
                    refine gg_iload C dL_law_572 rfl ?_
                    refine gg_iconst C dL_law_574 (v := (2 : Int32)) (by decide) ?_
                    refine gg_idiv C dL_law_575 hf.1 ?_
                    replace hf := hf.2
                    refine gg_iconst C dL_law_576 (v := (4 : Int32)) (by decide) ?_
                    refine gg_irem C dL_law_577 hf.1 ?_
                    replace hf := hf.2
                    refine gr_I (k' := (z + 1)) (n' := (zn + 6)) (gk_SW (As := [va_rf l1, .int (98 : Int32), .int (irem (l5 / (2 : Int32)) (4 : Int32))]) (rest := []) C dL_law_578 tw_1156 tw_1157 tw_24 tw_1158 gd_L_sets rfl ⟨by decide, by decide⟩ (by simp [gcat, gcI, gcL, gcF, gcD]) ⟨(by show z + 1 ≤ 649124; first | exact ar_e (z := z) hz rfl | omega), (by show zn + 6 ≤ 7146723; first | exact ar_e (z := zn) hzn rfl | omega)⟩ (m_L_sets hfl hf)) rfl rfl (fun E g9 h9 => h9.elim) (fun i235 g234 hf => ?_)
                    exact gg_sub (L' := [some (va_rf l0), some (va_rf l1), some (.int l2), some (.int l3), none, none, none, none, some (.int l8), some (.long l9), none, none, none, none, none]) (by first | exact ⟨rfl, ⟨rfl, ⟨rfl, ⟨rfl, ⟨rfl, ⟨rfl, trivial⟩⟩⟩⟩⟩⟩ | simp [gsub]) (hb_581 E21 En21 (by first | exact hE21 | omega) (by first | exact hEn21 | omega) _ hk21 (z + 1) (zn + 6) (by first | exact ar_e3 (z := z) hz rfl | omega) (by first | exact ar_e3 (z := zn) hzn rfl | omega) _ _ _ _ _ _ _ _ hf)
                  · refine gg_aload_n C dL_law_550 rfl ?_
                    refine gg_bipush C dL_law_551 (v := (115 : Int32)) (by decide) ?_
                    refine gg_iconst C dL_law_553 (v := (1 : Int32)) (by decide) ?_
                    refine gg_iload C dL_law_554 rfl ?_
                    refine gg_iconst C dL_law_556 (v := (2 : Int32)) (by decide) ?_
                    refine gg_idiv C dL_law_557 hf.1 ?_
                    replace hf := hf.2
                    refine gg_sipush C dL_law_558 (v := (300 : Int32)) (by decide) ?_
                    refine gg_irem C dL_law_561 hf.1 ?_
                    replace hf := hf.2
                    refine gg_iadd C dL_law_562 ?_
                    refine gr_I (k' := (z + 1)) (n' := (zn + 6)) (gk_SW (As := [va_rf l1, .int (115 : Int32), .int ((1 : Int32) + (irem (l5 / (2 : Int32)) (300 : Int32)))]) (rest := []) C dL_law_563 tw_1156 tw_1157 tw_24 tw_1158 gd_L_sets rfl ⟨by decide, by decide⟩ (by simp [gcat, gcI, gcL, gcF, gcD]) ⟨(by show z + 1 ≤ 649124; first | exact ar_e (z := z) hz rfl | omega), (by show zn + 6 ≤ 7146723; first | exact ar_e (z := zn) hzn rfl | omega)⟩ (m_L_sets hfl hf)) rfl rfl (fun E g9 h9 => h9.elim) (fun i237 g236 hf => ?_)
                    refine gg_goto (tgt := 581) C dL_law_566 (by decide) ?_
                    exact gg_sub (L' := [some (va_rf l0), some (va_rf l1), some (.int l2), some (.int l3), none, none, none, none, some (.int l8), some (.long l9), none, none, none, none, none]) (by first | exact ⟨rfl, ⟨rfl, ⟨rfl, ⟨rfl, ⟨rfl, ⟨rfl, trivial⟩⟩⟩⟩⟩⟩ | simp [gsub]) (hb_581 E21 En21 (by first | exact hE21 | omega) (by first | exact hEn21 | omega) _ hk21 (z + 1) (zn + 6) (by first | exact ar_e3 (z := z) hz rfl | omega) (by first | exact ar_e3 (z := zn) hzn rfl | omega) _ _ _ _ _ _ _ _ hf)
              · refine gg_aload_n C dL_law_507 rfl ?_
                refine gg_iload C dL_law_508 rfl ?_
                refine gg_iconst C dL_law_510 (v := (1 : Int32)) (by decide) ?_
                refine gr_I (k' := (z + 2)) (n' := (zn + 12)) (gk_SW (As := [va_rf l1, .int l6, .int (1 : Int32)]) (rest := []) C dL_law_511 tw_607 tw_608 tw_24 tw_609 gd_L_of rfl ⟨by decide, by decide⟩ (by simp [gcat, gcI, gcL, gcF, gcD]) ⟨(by show z + 2 ≤ 649124; first | exact ar_e (z := z) hz rfl | omega), (by show zn + 12 ≤ 7146723; first | exact ar_e (z := zn) hzn rfl | omega)⟩ (m_L_ofq hfl hf)) rfl rfl (fun E g9 h9 => h9.elim) (fun i239 g238 hf => ?_)
                refine gg_istore (L' := [some (va_rf l0), some (va_rf l1), some (.int l2), some (.int l3), none, some (.int l5), some (.int l6), some (.int l7), some (.int l8), some (.long l9), none, some (.int i239), some (.int t0), none, none]) C dL_law_514 (Or.inr (Or.inl rfl)) (by decide) rfl ?_
                refine gg_iload C dL_law_516 rfl ?_
                refine gg_if_lt (tgt := 1076) C dL_law_518 (by decide) hf (fun hf => ?_) (fun hf => ?_)
                · exact gg_sub (L' := [some (va_rf l0), some (va_rf l1), some (.int l2), some (.int l3), none, none, none, none, some (.int l8), some (.long l9), none, some (.int i239), none, none, none]) (by first | exact ⟨rfl, ⟨rfl, ⟨rfl, ⟨rfl, ⟨rfl, ⟨rfl, ⟨rfl, trivial⟩⟩⟩⟩⟩⟩⟩ | simp [gsub]) (hb_1076 E21 En21 (by first | exact hE21 | omega) (by first | exact hEn21 | omega) _ hk21 (z + 2) (zn + 12) (by first | exact ar_e3 (z := z) hz rfl | omega) (by first | exact ar_e3 (z := zn) hzn rfl | omega) _ _ _ _ _ _ _ _ hf)
                · refine gg_aload_n C dL_law_521 rfl ?_
                  refine gg_iload C dL_law_522 rfl ?_
                  refine gg_iconst C dL_law_524 (v := (1 : Int32)) (by decide) ?_
                  refine gr_I (k' := (z + 4)) (n' := (zn + 24)) (gk_SW (As := [va_rf l1, .int l6, .int (1 : Int32)]) (rest := []) C dL_law_525 tw_607 tw_608 tw_24 tw_609 gd_L_of rfl ⟨by decide, by decide⟩ (by simp [gcat, gcI, gcL, gcF, gcD]) ⟨(by show (z + 2) + 2 ≤ 649124; first | exact ar_e2 (z := z) hz rfl | omega), (by show (zn + 12) + 12 ≤ 7146723; first | exact ar_e2 (z := zn) hzn rfl | omega)⟩ (m_L_ofq hfl hf)) (Nat.add_assoc z 2 2) (Nat.add_assoc zn 12 12) (fun E g9 h9 => h9.elim) (fun i241 g240 hf => ?_)
                  refine gg_sipush C dL_law_528 (v := (-1003 : Int32)) (by decide) ?_
                  refine gg_icmp_eq (tgt := 1076) C dL_law_531 (by decide) hf (fun hf => ?_) (fun hf => ?_)
                  · exact gg_sub (L' := [some (va_rf l0), some (va_rf l1), some (.int l2), some (.int l3), none, none, none, none, some (.int l8), some (.long l9), none, some (.int i239), none, none, none]) (by first | exact ⟨rfl, ⟨rfl, ⟨rfl, ⟨rfl, ⟨rfl, ⟨rfl, ⟨rfl, trivial⟩⟩⟩⟩⟩⟩⟩ | simp [gsub]) (hb_1076 E21 En21 (by first | exact hE21 | omega) (by first | exact hEn21 | omega) _ hk21 (z + 4) (zn + 24) (by first | exact ar_e3 (z := z) hz rfl | omega) (by first | exact ar_e3 (z := zn) hzn rfl | omega) _ _ _ _ _ _ _ _ hf)
                  · refine gg_iconst C dL_law_534 (v := (0 : Int32)) (by decide) ?_
                    exact hf.elim
            · refine gg_aload_n C dL_law_423 rfl ?_
              refine gg_iconst C dL_law_424 (v := (0 : Int32)) (by decide) ?_
              refine gr_I (k' := (z + 1)) (n' := (zn + 6)) (gk_SW (As := [va_rf l1, .int (0 : Int32)]) (rest := []) C dL_law_425 tw_1199 tw_1200 tw_24 tw_1201 gd_L_asked rfl ⟨by decide, by decide⟩ (by simp [gcat, gcI, gcL, gcF, gcD]) ⟨(by show z + 1 ≤ 649124; first | exact ar_e (z := z) hz rfl | omega), (by show zn + 6 ≤ 7146723; first | exact ar_e (z := zn) hzn rfl | omega)⟩ (m_L_asked hfl hf)) rfl rfl (fun E g9 h9 => h9.elim) (fun i243 g242 hf => ?_)
              refine gg_istore (L' := [some (va_rf l0), some (va_rf l1), some (.int l2), some (.int l3), none, some (.int l5), some (.int l6), some (.int l7), some (.int l8), some (.long l9), none, none, some (.int t0), some (.int i243), none]) C dL_law_428 (Or.inr (Or.inr ⟨_, rfl, rfl⟩)) (by decide) rfl ?_
              refine gg_aload_n C dL_law_430 rfl ?_
              refine gg_iconst C dL_law_431 (v := (1 : Int32)) (by decide) ?_
              refine gr_I (k' := (z + 2)) (n' := (zn + 12)) (gk_SW (As := [va_rf l1, .int (1 : Int32)]) (rest := []) C dL_law_432 tw_1199 tw_1200 tw_24 tw_1201 gd_L_asked rfl ⟨by decide, by decide⟩ (by simp [gcat, gcI, gcL, gcF, gcD]) ⟨(by show (z + 1) + 1 ≤ 649124; first | exact ar_e2 (z := z) hz rfl | omega), (by show (zn + 6) + 6 ≤ 7146723; first | exact ar_e2 (z := zn) hzn rfl | omega)⟩ (m_L_asked hfl hf)) (Nat.add_assoc z 1 1) (Nat.add_assoc zn 6 6) (fun E g9 h9 => h9.elim) (fun i245 g244 hf => ?_)
              refine gg_istore (L' := [some (va_rf l0), some (va_rf l1), some (.int l2), some (.int l3), none, some (.int l5), some (.int l6), some (.int l7), some (.int l8), some (.long l9), none, some (.int i245), some (.int t0), some (.int i243), none]) C dL_law_435 (Or.inr (Or.inl rfl)) (by decide) rfl ?_
              refine gg_iload C dL_law_437 rfl ?_
              refine gg_sipush C dL_law_439 (v := (-1003 : Int32)) (by decide) ?_
              refine gg_icmp_ne (tgt := 449) C dL_law_442 (by decide) hf (fun hf => ?_) (fun hf => ?_)
              · refine gg_iconst C dL_law_449 (v := (0 : Int32)) (by decide) ?_
                exact gg_sub (L' := [some (va_rf l0), some (va_rf l1), some (.int l2), some (.int l3), none, none, none, none, some (.int l8), some (.long l9), none, some (.int i245), none, some (.int i243), none]) (by first | exact ⟨rfl, ⟨rfl, ⟨rfl, ⟨rfl, ⟨rfl, ⟨rfl, ⟨rfl, ⟨rfl, trivial⟩⟩⟩⟩⟩⟩⟩⟩ | simp [gsub]) (hb_450 E21 En21 (by first | exact hE21 | omega) (by first | exact hEn21 | omega) _ hk21 (z + 2) (zn + 12) (by first | exact ar_e3 (z := z) hz rfl | omega) (by first | exact ar_e3 (z := zn) hzn rfl | omega) _ _ _ _ _ _ _ _ _ _ hf)
              · refine gg_iconst C dL_law_445 (v := (1 : Int32)) (by decide) ?_
                refine gg_goto (tgt := 450) C dL_law_446 (by decide) ?_
                exact gg_sub (L' := [some (va_rf l0), some (va_rf l1), some (.int l2), some (.int l3), none, none, none, none, some (.int l8), some (.long l9), none, some (.int i245), none, some (.int i243), none]) (by first | exact ⟨rfl, ⟨rfl, ⟨rfl, ⟨rfl, ⟨rfl, ⟨rfl, ⟨rfl, ⟨rfl, trivial⟩⟩⟩⟩⟩⟩⟩⟩ | simp [gsub]) (hb_450 E21 En21 (by first | exact hE21 | omega) (by first | exact hEn21 | omega) _ hk21 (z + 2) (zn + 12) (by first | exact ar_e3 (z := z) hz rfl | omega) (by first | exact ar_e3 (z := zn) hzn rfl | omega) _ _ _ _ _ _ _ _ _ _ hf)
          · refine gg_aload_n C dL_law_388 rfl ?_
            refine gg_iload C dL_law_389 rfl ?_
            refine gg_iconst C dL_law_391 (v := (0 : Int32)) (by decide) ?_
            refine gr_I (k' := (z + 2)) (n' := (zn + 12)) (gk_SW (As := [va_rf l1, .int l6, .int (0 : Int32)]) (rest := []) C dL_law_392 tw_607 tw_608 tw_24 tw_609 gd_L_of rfl ⟨by decide, by decide⟩ (by simp [gcat, gcI, gcL, gcF, gcD]) ⟨(by show z + 2 ≤ 649124; first | exact ar_e (z := z) hz rfl | omega), (by show zn + 12 ≤ 7146723; first | exact ar_e (z := zn) hzn rfl | omega)⟩ (m_L_ofq hfl hf)) rfl rfl (fun E g9 h9 => h9.elim) (fun i249 g248 hf => ?_)
            refine gg_istore (L' := [some (va_rf l0), some (va_rf l1), some (.int l2), some (.int l3), none, some (.int l5), some (.int l6), some (.int l7), some (.int l8), some (.long l9), none, some (.int i249), some (.int t0), none, none]) C dL_law_395 (Or.inr (Or.inl rfl)) (by decide) rfl ?_
            refine gg_iload C dL_law_397 rfl ?_
            refine gg_if_lt (tgt := 1076) C dL_law_399 (by decide) hf (fun hf => ?_) (fun hf => ?_)
            · exact gg_sub (L' := [some (va_rf l0), some (va_rf l1), some (.int l2), some (.int l3), none, none, none, none, some (.int l8), some (.long l9), none, some (.int i249), none, none, none]) (by first | exact ⟨rfl, ⟨rfl, ⟨rfl, ⟨rfl, ⟨rfl, ⟨rfl, ⟨rfl, trivial⟩⟩⟩⟩⟩⟩⟩ | simp [gsub]) (hb_1076 E21 En21 (by first | exact hE21 | omega) (by first | exact hEn21 | omega) _ hk21 (z + 2) (zn + 12) (by first | exact ar_e3 (z := z) hz rfl | omega) (by first | exact ar_e3 (z := zn) hzn rfl | omega) _ _ _ _ _ _ _ _ hf)
            · refine gg_aload_n C dL_law_402 rfl ?_
              refine gg_iload C dL_law_403 rfl ?_
              refine gg_iconst C dL_law_405 (v := (2 : Int32)) (by decide) ?_
              refine gr_I (k' := (z + 4)) (n' := (zn + 24)) (gk_SW (As := [va_rf l1, .int l6, .int (2 : Int32)]) (rest := []) C dL_law_406 tw_607 tw_608 tw_24 tw_609 gd_L_of rfl ⟨by decide, by decide⟩ (by simp [gcat, gcI, gcL, gcF, gcD]) ⟨(by show (z + 2) + 2 ≤ 649124; first | exact ar_e2 (z := z) hz rfl | omega), (by show (zn + 12) + 12 ≤ 7146723; first | exact ar_e2 (z := zn) hzn rfl | omega)⟩ (m_L_ofq hfl hf)) (Nat.add_assoc z 2 2) (Nat.add_assoc zn 12 12) (fun E g9 h9 => h9.elim) (fun i251 g250 hf => ?_)
              refine gg_bipush C dL_law_409 (v := (119 : Int32)) (by decide) ?_
              refine gg_icmp_eq (tgt := 1076) C dL_law_411 (by decide) hf (fun hf => ?_) (fun hf => ?_)
              · exact gg_sub (L' := [some (va_rf l0), some (va_rf l1), some (.int l2), some (.int l3), none, none, none, none, some (.int l8), some (.long l9), none, some (.int i249), none, none, none]) (by first | exact ⟨rfl, ⟨rfl, ⟨rfl, ⟨rfl, ⟨rfl, ⟨rfl, ⟨rfl, trivial⟩⟩⟩⟩⟩⟩⟩ | simp [gsub]) (hb_1076 E21 En21 (by first | exact hE21 | omega) (by first | exact hEn21 | omega) _ hk21 (z + 4) (zn + 24) (by first | exact ar_e3 (z := z) hz rfl | omega) (by first | exact ar_e3 (z := zn) hzn rfl | omega) _ _ _ _ _ _ _ _ hf)
              · refine gg_iconst C dL_law_414 (v := (0 : Int32)) (by decide) ?_
                exact hf.elim
        · refine gg_aload_n C dL_law_326 rfl ?_
          refine gg_iconst C dL_law_327 (v := (4 : Int32)) (by decide) ?_
          refine gg_newarr' (k' := (z + 1)) (n' := (zn + 4)) (kd := 0) (cap := 4) (x := fun N => (N, .inl (fun _ => 0))) C dL_law_328 tw_362 rfl rfl (fun _ _ => rfl) (by decide) (by show (z + 1) ≤ 649124; first | exact ar_e (z := z) hz rfl | omega) (by show (zn + 4) ≤ 7146723; first | exact ar_e (z := zn) hzn rfl | omega) rfl rfl hf (fun q252 g253 hf => ?_)
          refine gg_dup C dL_law_330 (gcat _) ?_
          refine gg_iconst C dL_law_331 (v := (0 : Int32)) (by decide) ?_
          refine gg_iload C dL_law_332 rfl ?_
          refine gg_iast C dL_law_334 hf (fun g254 hf => ?_)
          refine gg_dup C dL_law_335 (gcat _) ?_
          refine gg_iconst C dL_law_336 (v := (1 : Int32)) (by decide) ?_
          refine gg_bipush C dL_law_337 (v := (20 : Int32)) (by decide) ?_
          refine gg_iload C dL_law_339 rfl ?_
          refine gg_bipush C dL_law_341 (v := (7 : Int32)) (by decide) ?_
          refine gg_idiv C dL_law_343 hf.1 ?_
          replace hf := hf.2
          refine gg_bipush C dL_law_344 (v := (70 : Int32)) (by decide) ?_
          refine gg_irem C dL_law_346 hf.1 ?_
          replace hf := hf.2
          refine gg_iadd C dL_law_347 ?_
          refine gg_iast C dL_law_348 hf (fun g255 hf => ?_)
          refine gg_dup C dL_law_349 (gcat _) ?_
          refine gg_iconst C dL_law_350 (v := (2 : Int32)) (by decide) ?_
          refine gg_iconst C dL_law_351 (v := (1 : Int32)) (by decide) ?_
          refine gg_iload C dL_law_352 rfl ?_
          refine gg_bipush C dL_law_354 (v := (11 : Int32)) (by decide) ?_
          refine gg_idiv C dL_law_356 hf.1 ?_
          replace hf := hf.2
          refine gg_sipush C dL_law_357 (v := (260 : Int32)) (by decide) ?_
          refine gg_irem C dL_law_360 hf.1 ?_
          replace hf := hf.2
          refine gg_iadd C dL_law_361 ?_
          refine gg_iast C dL_law_362 hf (fun g256 hf => ?_)
          refine gg_dup C dL_law_363 (gcat _) ?_
          refine gg_iconst C dL_law_364 (v := (3 : Int32)) (by decide) ?_
          refine gg_iload C dL_law_365 rfl ?_
          refine gg_bipush C dL_law_367 (v := (17 : Int32)) (by decide) ?_
          refine gg_idiv C dL_law_369 hf.1 ?_
          replace hf := hf.2
          refine gg_iconst C dL_law_370 (v := (3 : Int32)) (by decide) ?_
          refine gg_irem C dL_law_371 hf.1 ?_
          replace hf := hf.2
          refine gg_iast C dL_law_372 hf (fun g257 hf => ?_)
          refine gr_I (k' := (z + 6)) (n' := (zn + 193)) (gk_SW (As := [va_rf l1, va_rf (some q252)]) (rest := []) C dL_law_373 tw_199 tw_200 tw_24 tw_201 gd_L_build rfl ⟨by decide, by decide⟩ (by simp [gcat, gcI, gcL, gcF, gcD]) ⟨(by show (z + 1) + 5 ≤ 649124; first | exact ar_e2 (z := z) hz rfl | omega), (by show (zn + 4) + 189 ≤ 7146723; first | exact ar_e2 (z := zn) hzn rfl | omega)⟩ (m_L_build hfl hf)) (Nat.add_assoc z 1 5) (Nat.add_assoc zn 4 189) (fun E g9 h9 => h9.elim) (fun i259 g258 hf => ?_)
          refine gg_istore (L' := [some (va_rf l0), some (va_rf l1), some (.int l2), some (.int l3), none, some (.int l5), some (.int l6), some (.int l7), some (.int l8), some (.long l9), none, some (.int i259), some (.int t0), none, none]) C dL_law_376 (Or.inr (Or.inl rfl)) (by decide) rfl ?_
          refine gg_goto (tgt := 1076) C dL_law_378 (by decide) ?_
          exact gg_sub (L' := [some (va_rf l0), some (va_rf l1), some (.int l2), some (.int l3), none, none, none, none, some (.int l8), some (.long l9), none, some (.int i259), none, none, none]) (by first | exact ⟨rfl, ⟨rfl, ⟨rfl, ⟨rfl, ⟨rfl, ⟨rfl, ⟨rfl, trivial⟩⟩⟩⟩⟩⟩⟩ | simp [gsub]) (hb_1076 E21 En21 (by first | exact hE21 | omega) (by first | exact hEn21 | omega) _ hk21 (z + 6) (zn + 193) (by first | exact ar_e3 (z := z) hz rfl | omega) (by first | exact ar_e3 (z := zn) hzn rfl | omega) _ _ _ _ _ _ _ _ hf)
      · refine gg_aload_n C dL_law_208 rfl ?_
        refine gg_bipush C dL_law_209 (v := (6 : Int32)) (by decide) ?_
        refine gg_newarr' (k' := (z + 1)) (n' := (zn + 6)) (kd := 0) (cap := 6) (x := fun N => (N, .inl (fun _ => 0))) C dL_law_211 tw_362 rfl rfl (fun _ _ => rfl) (by decide) (by show (z + 1) ≤ 649124; first | exact ar_e (z := z) hz rfl | omega) (by show (zn + 6) ≤ 7146723; first | exact ar_e (z := zn) hzn rfl | omega) rfl rfl hf (fun q260 g261 hf => ?_)
        refine gg_dup C dL_law_213 (gcat _) ?_
        refine gg_iconst C dL_law_214 (v := (0 : Int32)) (by decide) ?_
        refine gg_iconst C dL_law_215 (v := (1 : Int32)) (by decide) ?_
        refine gg_iload C dL_law_216 rfl ?_
        refine gg_bipush C dL_law_218 (v := (60 : Int32)) (by decide) ?_
        refine gg_irem C dL_law_220 hf.1 ?_
        replace hf := hf.2
        refine gg_iadd C dL_law_221 ?_
        refine gg_iast C dL_law_222 hf (fun g262 hf => ?_)
        refine gg_dup C dL_law_223 (gcat _) ?_
        refine gg_iconst C dL_law_224 (v := (1 : Int32)) (by decide) ?_
        refine gg_iconst C dL_law_225 (v := (1 : Int32)) (by decide) ?_
        refine gg_iload C dL_law_226 rfl ?_
        refine gg_bipush C dL_law_228 (v := (60 : Int32)) (by decide) ?_
        refine gg_idiv C dL_law_230 hf.1 ?_
        replace hf := hf.2
        refine gg_bipush C dL_law_231 (v := (63 : Int32)) (by decide) ?_
        refine gg_irem C dL_law_233 hf.1 ?_
        replace hf := hf.2
        refine gg_iadd C dL_law_234 ?_
        refine gg_iast C dL_law_235 hf (fun g263 hf => ?_)
        refine gg_dup C dL_law_236 (gcat _) ?_
        refine gg_iconst C dL_law_237 (v := (2 : Int32)) (by decide) ?_
        refine gg_iconst C dL_law_238 (v := (1 : Int32)) (by decide) ?_
        refine gg_iload C dL_law_239 rfl ?_
        refine gg_bipush C dL_law_241 (v := (7 : Int32)) (by decide) ?_
        refine gg_idiv C dL_law_243 hf.1 ?_
        replace hf := hf.2
        refine gg_bipush C dL_law_244 (v := (7 : Int32)) (by decide) ?_
        refine gg_irem C dL_law_246 hf.1 ?_
        replace hf := hf.2
        refine gg_iadd C dL_law_247 ?_
        refine gg_iast C dL_law_248 hf (fun g264 hf => ?_)
        refine gg_dup C dL_law_249 (gcat _) ?_
        refine gg_iconst C dL_law_250 (v := (3 : Int32)) (by decide) ?_
        refine gg_iconst C dL_law_251 (v := (1 : Int32)) (by decide) ?_
        refine gg_iload C dL_law_252 rfl ?_
        refine gg_bipush C dL_law_254 (v := (11 : Int32)) (by decide) ?_
        refine gg_idiv C dL_law_256 hf.1 ?_
        replace hf := hf.2
        refine gg_sipush C dL_law_257 (v := (260 : Int32)) (by decide) ?_
        refine gg_irem C dL_law_260 hf.1 ?_
        replace hf := hf.2
        refine gg_iadd C dL_law_261 ?_
        refine gg_iast C dL_law_262 hf (fun g265 hf => ?_)
        refine gg_dup C dL_law_263 (gcat _) ?_
        refine gg_iconst C dL_law_264 (v := (4 : Int32)) (by decide) ?_
        refine gg_iload C dL_law_265 rfl ?_
        refine gg_bipush C dL_law_267 (v := (17 : Int32)) (by decide) ?_
        refine gg_idiv C dL_law_269 hf.1 ?_
        replace hf := hf.2
        refine gg_iconst C dL_law_270 (v := (3 : Int32)) (by decide) ?_
        refine gg_irem C dL_law_271 hf.1 ?_
        replace hf := hf.2
        refine gg_iast C dL_law_272 hf (fun g266 hf => ?_)
        refine gg_dup C dL_law_273 (gcat _) ?_
        refine gg_iconst C dL_law_274 (v := (5 : Int32)) (by decide) ?_
        refine gg_iload C dL_law_275 rfl ?_
        refine gg_bipush C dL_law_277 (v := (23 : Int32)) (by decide) ?_
        refine gg_idiv C dL_law_279 hf.1 ?_
        replace hf := hf.2
        refine gg_sipush C dL_law_280 (v := (256 : Int32)) (by decide) ?_
        refine gg_irem C dL_law_283 hf.1 ?_
        replace hf := hf.2
        refine gg_iast C dL_law_284 hf (fun g267 hf => ?_)
        refine gr_I (k' := (z + 6)) (n' := (zn + 195)) (gk_SW (As := [va_rf l1, va_rf (some q260)]) (rest := []) C dL_law_285 tw_199 tw_200 tw_24 tw_201 gd_L_build rfl ⟨by decide, by decide⟩ (by simp [gcat, gcI, gcL, gcF, gcD]) ⟨(by show (z + 1) + 5 ≤ 649124; first | exact ar_e2 (z := z) hz rfl | omega), (by show (zn + 6) + 189 ≤ 7146723; first | exact ar_e2 (z := zn) hzn rfl | omega)⟩ (m_L_build hfl hf)) (Nat.add_assoc z 1 5) (Nat.add_assoc zn 6 189) (fun E g9 h9 => h9.elim) (fun i269 g268 hf => ?_)
        refine gg_istore (L' := [some (va_rf l0), some (va_rf l1), some (.int l2), some (.int l3), none, some (.int l5), some (.int l6), some (.int l7), some (.int l8), some (.long l9), none, some (.int i269), some (.int t0), none, none]) C dL_law_288 (Or.inr (Or.inl rfl)) (by decide) rfl ?_
        refine gg_iload C dL_law_290 rfl ?_
        refine gg_if_lt (tgt := 1076) C dL_law_292 (by decide) hf (fun hf => ?_) (fun hf => ?_)
        · exact gg_sub (L' := [some (va_rf l0), some (va_rf l1), some (.int l2), some (.int l3), none, none, none, none, some (.int l8), some (.long l9), none, some (.int i269), none, none, none]) (by first | exact ⟨rfl, ⟨rfl, ⟨rfl, ⟨rfl, ⟨rfl, ⟨rfl, ⟨rfl, trivial⟩⟩⟩⟩⟩⟩⟩ | simp [gsub]) (hb_1076 E21 En21 (by first | exact hE21 | omega) (by first | exact hEn21 | omega) _ hk21 (z + 6) (zn + 195) (by first | exact ar_e3 (z := z) hz rfl | omega) (by first | exact ar_e3 (z := zn) hzn rfl | omega) _ _ _ _ _ _ _ _ hf)
        · refine gg_aload_n C dL_law_295 rfl ?_
          refine gg_iload C dL_law_296 rfl ?_
          refine gg_iconst C dL_law_298 (v := (2 : Int32)) (by decide) ?_
          refine gr_I (k' := (z + 8)) (n' := (zn + 207)) (gk_SW (As := [va_rf l1, .int i269, .int (2 : Int32)]) (rest := []) C dL_law_299 tw_607 tw_608 tw_24 tw_609 gd_L_of rfl ⟨by decide, by decide⟩ (by simp [gcat, gcI, gcL, gcF, gcD]) ⟨(by show (z + 6) + 2 ≤ 649124; first | exact ar_e2 (z := z) hz rfl | omega), (by show (zn + 195) + 12 ≤ 7146723; first | exact ar_e2 (z := zn) hzn rfl | omega)⟩ (m_L_ofq hfl hf)) (Nat.add_assoc z 6 2) (Nat.add_assoc zn 195 12) (fun E g9 h9 => h9.elim) (fun i271 g270 hf => ?_)
          refine gg_bipush C dL_law_302 (v := (100 : Int32)) (by decide) ?_
          refine gg_icmp_ne (tgt := 317) C dL_law_304 (by decide) hf (fun hf => ?_) (fun hf => ?_)
          · exact gg_sub (L' := [none, none, none, none, none, none, none, none, none, none, none, none, none, none, none]) (by first | exact trivial | simp [gsub]) (hb_317 (z + 8) (zn + 207) (by first | exact ar_e2 (z := z) hz rfl | omega) (by first | exact ar_e2 (z := zn) hzn rfl | omega) _ hf)
          · refine gg_aload_n C dL_law_307 rfl ?_
            refine gg_iload C dL_law_308 rfl ?_
            refine gg_iconst C dL_law_310 (v := (5 : Int32)) (by decide) ?_
            refine gr_I (k' := (z + 10)) (n' := (zn + 219)) (gk_SW (As := [va_rf l1, .int i269, .int (5 : Int32)]) (rest := []) C dL_law_311 tw_607 tw_608 tw_24 tw_609 gd_L_of rfl ⟨by decide, by decide⟩ (by simp [gcat, gcI, gcL, gcF, gcD]) ⟨(by show (z + 8) + 2 ≤ 649124; first | exact ar_e2 (z := z) hz rfl | omega), (by show (zn + 207) + 12 ≤ 7146723; first | exact ar_e2 (z := zn) hzn rfl | omega)⟩ (m_L_ofq hfl hf)) (Nat.add_assoc z 8 2) (Nat.add_assoc zn 207 12) (fun E g9 h9 => h9.elim) (fun i273 g272 hf => ?_)
            refine gg_if_eq (tgt := 1076) C dL_law_314 (by decide) hf (fun hf => ?_) (fun hf => ?_)
            · exact gg_sub (L' := [some (va_rf l0), some (va_rf l1), some (.int l2), some (.int l3), none, none, none, none, some (.int l8), some (.long l9), none, some (.int i269), none, none, none]) (by first | exact ⟨rfl, ⟨rfl, ⟨rfl, ⟨rfl, ⟨rfl, ⟨rfl, ⟨rfl, trivial⟩⟩⟩⟩⟩⟩⟩ | simp [gsub]) (hb_1076 E21 En21 (by first | exact hE21 | omega) (by first | exact hEn21 | omega) _ hk21 (z + 10) (zn + 219) (by first | exact ar_e3 (z := z) hz rfl | omega) (by first | exact ar_e3 (z := zn) hzn rfl | omega) _ _ _ _ _ _ _ _ hf)
            · exact gg_sub (L' := [none, none, none, none, none, none, none, none, none, none, none, none, none, none, none]) (by first | exact trivial | simp [gsub]) (hb_317 (z + 10) (zn + 219) (by first | exact ar_e2 (z := z) hz rfl | omega) (by first | exact ar_e2 (z := zn) hzn rfl | omega) _ hf)
    · refine gg_aload_n C dL_law_171 rfl ?_
      refine gg_bipush C dL_law_172 (v := (100 : Int32)) (by decide) ?_
      refine gg_iload C dL_law_174 rfl ?_
      refine gg_bipush C dL_law_176 (v := (6 : Int32)) (by decide) ?_
      refine gg_irem C dL_law_178 hf.1 ?_
      replace hf := hf.2
      refine gg_iload C dL_law_179 rfl ?_
      refine gg_bipush C dL_law_181 (v := (7 : Int32)) (by decide) ?_
      refine gg_idiv C dL_law_183 hf.1 ?_
      replace hf := hf.2
      refine gg_iconst C dL_law_184 (v := (3 : Int32)) (by decide) ?_
      refine gg_irem C dL_law_185 hf.1 ?_
      replace hf := hf.2
      refine gg_iload C dL_law_186 rfl ?_
      refine gg_bipush C dL_law_188 (v := (21 : Int32)) (by decide) ?_
      refine gg_idiv C dL_law_190 hf.1 ?_
      replace hf := hf.2
      refine gg_bipush C dL_law_191 (v := (100 : Int32)) (by decide) ?_
      refine gg_irem C dL_law_193 hf.1 ?_
      replace hf := hf.2
      refine gr_I (k' := (z + 6)) (n' := (zn + 240)) (gk_SW (As := [va_rf l1, .int (100 : Int32), .int (irem l5 (6 : Int32)), .int (irem (l5 / (7 : Int32)) (3 : Int32)), .int (irem (l5 / (21 : Int32)) (100 : Int32))]) (rest := []) C dL_law_194 tw_517 tw_518 tw_24 tw_519 gd_L_three rfl ⟨by decide, by decide⟩ (by simp [gcat, gcI, gcL, gcF, gcD]) ⟨(by show z + 6 ≤ 649124; first | exact ar_e (z := z) hz rfl | omega), (by show zn + 240 ≤ 7146723; first | exact ar_e (z := zn) hzn rfl | omega)⟩ (m_L_three hfl hf)) rfl rfl (fun E g9 h9 => h9.elim) (fun i275 g274 hf => ?_)
      refine gg_istore (L' := [some (va_rf l0), some (va_rf l1), some (.int l2), some (.int l3), none, some (.int l5), some (.int l6), some (.int l7), some (.int l8), some (.long l9), none, some (.int i275), some (.int t0), none, none]) C dL_law_197 (Or.inr (Or.inl rfl)) (by decide) rfl ?_
      refine gg_goto (tgt := 1076) C dL_law_199 (by decide) ?_
      exact gg_sub (L' := [some (va_rf l0), some (va_rf l1), some (.int l2), some (.int l3), none, none, none, none, some (.int l8), some (.long l9), none, some (.int i275), none, none, none]) (by first | exact ⟨rfl, ⟨rfl, ⟨rfl, ⟨rfl, ⟨rfl, ⟨rfl, ⟨rfl, trivial⟩⟩⟩⟩⟩⟩⟩ | simp [gsub]) (hb_1076 E21 En21 (by first | exact hE21 | omega) (by first | exact hEn21 | omega) _ hk21 (z + 6) (zn + 240) (by first | exact ar_e3 (z := z) hz rfl | omega) (by first | exact ar_e3 (z := zn) hzn rfl | omega) _ _ _ _ _ _ _ _ hf)
  have hb_101 : ∀ (E21 En21 : Nat), 5117 ≤ E21 → 58104 ≤ En21 → ∀ (k21 : Option Nat → Option Nat → Int32 → Int32 → GM → Prop), (∀ (z zn : Nat), z + E21 ≤ 649124 → zn + En21 ≤ 7146723 → ∀ (l0 : Option Nat) (l1 : Option Nat) (l2 : Int32) (l3 : Int32) (g : GM), k21 l0 l1 l2 l3 g → GG X p l e room_1 s m args below meth c 15 Q z zn 21 [some (va_rf l0), some (va_rf l1), some (.int l2), some (.int l3), none, none, none, none, none, none, none, none, none, none, none] [] g) → ∀ (z zn : Nat) (hz : z + (3668 + E21) ≤ 649124) (hzn : zn + (31578 + En21) ≤ 7146723) (l0 : Option Nat) (l1 : Option Nat) (l2 : Int32) (l3 : Int32) (l4 : Int32) (l5 : Int32) (l6 : Int32) (l7 : Int32) (l8 : Int32) (t0 : Int64) (g : GM), w_L_law_b101 X post px k21 l0 l1 l2 l3 l4 l5 l6 l7 l8 t0 g → GG X p l e room_1 s m args below meth c 15 Q z zn 101 [some (va_rf l0), some (va_rf l1), some (.int l2), some (.int l3), some (.int l4), some (.int l5), some (.int l6), some (.int l7), some (.int l8), none, none, none, none, none, none] [.long t0] g := by
    intro E21 En21 hE21 hEn21 k21 hk21 z zn hz hzn l0 l1 l2 l3 l4 l5 l6 l7 l8 t0 g hf
    unfold w_L_law_b101 at hf
    refine gg_lstore (L' := [some (va_rf l0), some (va_rf l1), some (.int l2), some (.int l3), some (.int l4), some (.int l5), some (.int l6), some (.int l7), some (.int l8), some (.long t0), none, none, none, none, none]) C dL_law_101 (Or.inr (Or.inr ⟨_, rfl, rfl⟩)) (by decide) rfl ?_
    refine gg_iconst C dL_law_103 (v := (0 : Int32)) (by decide) ?_
    refine gg_istore (L' := [some (va_rf l0), some (va_rf l1), some (.int l2), some (.int l3), some (.int l4), some (.int l5), some (.int l6), some (.int l7), some (.int l8), some (.long t0), none, some (.int (0 : Int32)), none, none, none]) C dL_law_104 (Or.inr (Or.inl rfl)) (by decide) rfl ?_
    refine gg_iload_n C dL_law_106 rfl ?_
    refine gg_iconst C dL_law_107 (v := (4 : Int32)) (by decide) ?_
    refine gg_icmp_ge (tgt := 115) C dL_law_108 (by decide) hf (fun hf => ?_) (fun hf => ?_)
    · refine gg_iload_n C dL_law_115 rfl ?_
      refine gg_bipush C dL_law_116 (v := (6 : Int32)) (by decide) ?_
      refine gg_icmp_ge (tgt := 125) C dL_law_118 (by decide) hf (fun hf => ?_) (fun hf => ?_)
      · refine gg_iload_n C dL_law_125 rfl ?_
        refine gg_bipush C dL_law_126 (v := (8 : Int32)) (by decide) ?_
        refine gg_icmp_ge (tgt := 136) C dL_law_128 (by decide) hf (fun hf => ?_) (fun hf => ?_)
        · refine gg_iload_n C dL_law_136 rfl ?_
          refine gg_bipush C dL_law_137 (v := (10 : Int32)) (by decide) ?_
          refine gg_icmp_ge (tgt := 147) C dL_law_139 (by decide) hf (fun hf => ?_) (fun hf => ?_)
          · refine gg_iload_n C dL_law_147 rfl ?_
            refine gg_bipush C dL_law_148 (v := (12 : Int32)) (by decide) ?_
            refine gg_icmp_ge (tgt := 158) C dL_law_150 (by decide) hf (fun hf => ?_) (fun hf => ?_)
            · refine gg_iload C dL_law_158 rfl ?_
              refine gg_bipush C dL_law_160 (v := (40 : Int32)) (by decide) ?_
              refine gg_irem C dL_law_162 hf.1 ?_
              replace hf := hf.2
              exact gg_sub (L' := [some (va_rf l0), some (va_rf l1), some (.int l2), some (.int l3), none, some (.int l5), some (.int l6), some (.int l7), some (.int l8), some (.long t0), none, none, none, none, none]) (by first | exact ⟨rfl, ⟨rfl, ⟨rfl, ⟨rfl, ⟨rfl, ⟨rfl, ⟨rfl, ⟨rfl, ⟨rfl, trivial⟩⟩⟩⟩⟩⟩⟩⟩⟩ | simp [gsub]) (hb_163 E21 En21 (by first | exact hE21 | omega) (by first | exact hEn21 | omega) _ hk21 z zn (by first | exact ar_e4 (z := z) hz rfl | omega) (by first | exact ar_e4 (z := zn) hzn rfl | omega) _ _ _ _ _ _ _ _ _ _ _ hf)
            · refine gg_bipush C dL_law_153 (v := (16 : Int32)) (by decide) ?_
              refine gg_goto (tgt := 163) C dL_law_155 (by decide) ?_
              exact gg_sub (L' := [some (va_rf l0), some (va_rf l1), some (.int l2), some (.int l3), none, some (.int l5), some (.int l6), some (.int l7), some (.int l8), some (.long t0), none, none, none, none, none]) (by first | exact ⟨rfl, ⟨rfl, ⟨rfl, ⟨rfl, ⟨rfl, ⟨rfl, ⟨rfl, ⟨rfl, ⟨rfl, trivial⟩⟩⟩⟩⟩⟩⟩⟩⟩ | simp [gsub]) (hb_163 E21 En21 (by first | exact hE21 | omega) (by first | exact hEn21 | omega) _ hk21 z zn (by first | exact ar_e4 (z := z) hz rfl | omega) (by first | exact ar_e4 (z := zn) hzn rfl | omega) _ _ _ _ _ _ _ _ _ _ _ hf)
          · refine gg_bipush C dL_law_142 (v := (10 : Int32)) (by decide) ?_
            refine gg_goto (tgt := 163) C dL_law_144 (by decide) ?_
            exact gg_sub (L' := [some (va_rf l0), some (va_rf l1), some (.int l2), some (.int l3), none, some (.int l5), some (.int l6), some (.int l7), some (.int l8), some (.long t0), none, none, none, none, none]) (by first | exact ⟨rfl, ⟨rfl, ⟨rfl, ⟨rfl, ⟨rfl, ⟨rfl, ⟨rfl, ⟨rfl, ⟨rfl, trivial⟩⟩⟩⟩⟩⟩⟩⟩⟩ | simp [gsub]) (hb_163 E21 En21 (by first | exact hE21 | omega) (by first | exact hEn21 | omega) _ hk21 z zn (by first | exact ar_e4 (z := z) hz rfl | omega) (by first | exact ar_e4 (z := zn) hzn rfl | omega) _ _ _ _ _ _ _ _ _ _ _ hf)
        · refine gg_bipush C dL_law_131 (v := (7 : Int32)) (by decide) ?_
          refine gg_goto (tgt := 163) C dL_law_133 (by decide) ?_
          exact gg_sub (L' := [some (va_rf l0), some (va_rf l1), some (.int l2), some (.int l3), none, some (.int l5), some (.int l6), some (.int l7), some (.int l8), some (.long t0), none, none, none, none, none]) (by first | exact ⟨rfl, ⟨rfl, ⟨rfl, ⟨rfl, ⟨rfl, ⟨rfl, ⟨rfl, ⟨rfl, ⟨rfl, trivial⟩⟩⟩⟩⟩⟩⟩⟩⟩ | simp [gsub]) (hb_163 E21 En21 (by first | exact hE21 | omega) (by first | exact hEn21 | omega) _ hk21 z zn (by first | exact ar_e4 (z := z) hz rfl | omega) (by first | exact ar_e4 (z := zn) hzn rfl | omega) _ _ _ _ _ _ _ _ _ _ _ hf)
      · refine gg_iconst C dL_law_121 (v := (3 : Int32)) (by decide) ?_
        refine gg_goto (tgt := 163) C dL_law_122 (by decide) ?_
        exact gg_sub (L' := [some (va_rf l0), some (va_rf l1), some (.int l2), some (.int l3), none, some (.int l5), some (.int l6), some (.int l7), some (.int l8), some (.long t0), none, none, none, none, none]) (by first | exact ⟨rfl, ⟨rfl, ⟨rfl, ⟨rfl, ⟨rfl, ⟨rfl, ⟨rfl, ⟨rfl, ⟨rfl, trivial⟩⟩⟩⟩⟩⟩⟩⟩⟩ | simp [gsub]) (hb_163 E21 En21 (by first | exact hE21 | omega) (by first | exact hEn21 | omega) _ hk21 z zn (by first | exact ar_e4 (z := z) hz rfl | omega) (by first | exact ar_e4 (z := zn) hzn rfl | omega) _ _ _ _ _ _ _ _ _ _ _ hf)
    · refine gg_iconst C dL_law_111 (v := (0 : Int32)) (by decide) ?_
      refine gg_goto (tgt := 163) C dL_law_112 (by decide) ?_
      exact gg_sub (L' := [some (va_rf l0), some (va_rf l1), some (.int l2), some (.int l3), none, some (.int l5), some (.int l6), some (.int l7), some (.int l8), some (.long t0), none, none, none, none, none]) (by first | exact ⟨rfl, ⟨rfl, ⟨rfl, ⟨rfl, ⟨rfl, ⟨rfl, ⟨rfl, ⟨rfl, ⟨rfl, trivial⟩⟩⟩⟩⟩⟩⟩⟩⟩ | simp [gsub]) (hb_163 E21 En21 (by first | exact hE21 | omega) (by first | exact hEn21 | omega) _ hk21 z zn (by first | exact ar_e4 (z := z) hz rfl | omega) (by first | exact ar_e4 (z := zn) hzn rfl | omega) _ _ _ _ _ _ _ _ _ _ _ hf)
  have hb_86 : ∀ (E21 En21 : Nat), 5117 ≤ E21 → 58104 ≤ En21 → ∀ (k21 : Option Nat → Option Nat → Int32 → Int32 → GM → Prop), (∀ (z zn : Nat), z + E21 ≤ 649124 → zn + En21 ≤ 7146723 → ∀ (l0 : Option Nat) (l1 : Option Nat) (l2 : Int32) (l3 : Int32) (g : GM), k21 l0 l1 l2 l3 g → GG X p l e room_1 s m args below meth c 15 Q z zn 21 [some (va_rf l0), some (va_rf l1), some (.int l2), some (.int l3), none, none, none, none, none, none, none, none, none, none, none] [] g) → ∀ (z zn : Nat) (hz : z + (4712 + E21) ≤ 649124) (hzn : zn + (39194 + En21) ≤ 7146723) (l0 : Option Nat) (l1 : Option Nat) (l2 : Int32) (l3 : Int32) (l4 : Int32) (l5 : Int32) (l6 : Int32) (l7 : Int32) (t0 : Int32) (g : GM), w_L_law_b86 X post px k21 l0 l1 l2 l3 l4 l5 l6 l7 t0 g → GG X p l e room_1 s m args below meth c 15 Q z zn 86 [some (va_rf l0), some (va_rf l1), some (.int l2), some (.int l3), some (.int l4), some (.int l5), some (.int l6), some (.int l7), none, none, none, none, none, none, none] [.int t0] g := by
    intro E21 En21 hE21 hEn21 k21 hk21 z zn hz hzn l0 l1 l2 l3 l4 l5 l6 l7 t0 g hf
    unfold w_L_law_b86 at hf
    refine gg_istore (L' := [some (va_rf l0), some (va_rf l1), some (.int l2), some (.int l3), some (.int l4), some (.int l5), some (.int l6), some (.int l7), some (.int t0), none, none, none, none, none, none]) C dL_law_86 (Or.inr (Or.inr ⟨_, rfl, rfl⟩)) (by decide) rfl ?_
    refine gg_iload C dL_law_88 rfl ?_
    refine gg_if_eq (tgt := 100) C dL_law_90 (by decide) hf (fun hf => ?_) (fun hf => ?_)
    · refine gg_lconst C dL_law_100 (v := (0 : Int64)) (by decide) ?_
      exact hb_101 E21 En21 (by first | exact hE21 | omega) (by first | exact hEn21 | omega) _ hk21 z zn (by first | exact ar_e4 (z := z) hz rfl | omega) (by first | exact ar_e4 (z := zn) hzn rfl | omega) _ _ _ _ _ _ _ _ _ _ _ hf
    · refine gg_aload_n C dL_law_93 rfl ?_
      refine gr_L (k' := (z + 1044)) (n' := (zn + 7616)) (gk_S (As := [va_rf l1]) (rest := []) C dL_law_94 tw_1336 tw_1337 tw_24 tw_1338 gd_L_sum rfl ⟨by decide, by decide⟩ (by simp [gcat, gcI, gcL, gcF, gcD]) ⟨(by show z + 1044 ≤ 649124; first | exact ar_e (z := z) hz rfl | omega), (by show zn + 7616 ≤ 7146723; first | exact ar_e (z := zn) hzn rfl | omega)⟩ (m_L_sum hfl hf)) rfl rfl (fun E g9 h9 => h9.elim) (fun y277 g276 hf => ?_)
      refine gg_goto (tgt := 101) C dL_law_97 (by decide) ?_
      exact hb_101 E21 En21 (by first | exact hE21 | omega) (by first | exact hEn21 | omega) _ hk21 (z + 1044) (zn + 7616) (by first | exact ar_e3 (z := z) hz rfl | omega) (by first | exact ar_e3 (z := zn) hzn rfl | omega) _ _ _ _ _ _ _ _ _ _ _ hf
  have hb_21 : ∀ (f z zn : Nat) (hz : z + (f * 4786 + 5117) ≤ 649124) (hzn : zn + (f * 39638 + 58104) ≤ 7146723) (l0 : Option Nat) (l1 : Option Nat) (l2 : Int32) (l3 : Int32) (g : GM), w_L_law_l21 X post px  f l0 l1 l2 l3 g → GG X p l e room_1 s m args below meth c 15 Q z zn 21 [some (va_rf l0), some (va_rf l1), some (.int l2), some (.int l3), none, none, none, none, none, none, none, none, none, none, none] [] g := by
    intro  f
    induction f with
    | zero => intro z zn hz hzn l0 l1 l2 l3 g hf; exact (show False from hf).elim
    | succ f ih =>
      intro z zn hz hzn l0 l1 l2 l3 g hf
      rw [w_L_law_l21] at hf
      refine gg_iload_n C dL_law_21 rfl ?_
      refine gg_iload_n C dL_law_22 rfl ?_
      refine gg_icmp_ge (tgt := 1123) C dL_law_23 (by decide) hf (fun hf => ?_) (fun hf => ?_)
      · refine gg_aload_n C dL_law_1123 rfl ?_
        refine gr_I (k' := (z + 2602)) (n' := (zn + 23674)) (gk_S (As := [va_rf l1]) (rest := []) C dL_law_1124 tw_1357 tw_1358 tw_24 tw_1359 gd_L_isSound rfl ⟨by decide, by decide⟩ (by simp [gcat, gcI, gcL, gcF, gcD]) ⟨(by show z + 2602 ≤ 649124; first | exact ar_f (z := z) hz rfl | omega), (by show zn + 23674 ≤ 7146723; first | exact ar_f (z := zn) hzn rfl | omega)⟩ (m_L_isSound hfl hf)) rfl rfl (fun E g9 h9 => h9.elim) (fun i9 g8 hf => ?_)
        refine gg_if_ne (tgt := 1132) C dL_law_1127 (by decide) hf (fun hf => ?_) (fun hf => ?_)
        · refine gg_aload_n C dL_law_1132 rfl ?_
          refine gr_L (k' := (z + 3646)) (n' := (zn + 31290)) (gk_S (As := [va_rf l1]) (rest := []) C dL_law_1133 tw_1336 tw_1337 tw_24 tw_1338 gd_L_sum rfl ⟨by decide, by decide⟩ (by simp [gcat, gcI, gcL, gcF, gcD]) ⟨(by show (z + 2602) + 1044 ≤ 649124; first | exact ar_f2 (z := z) hz rfl | omega), (by show (zn + 23674) + 7616 ≤ 7146723; first | exact ar_f2 (z := zn) hzn rfl | omega)⟩ (m_L_sum hfl hf)) (Nat.add_assoc z 2602 1044) (Nat.add_assoc zn 23674 7616) (fun E g9 h9 => h9.elim) (fun y11 g10 hf => ?_)
          refine gg_lstore_n (L' := [some (va_rf l0), some (va_rf l1), some (.int l2), some (.long y11), none, none, none, none, none, none, none, none, none, none, none]) C dL_law_1136 (Or.inr (Or.inr ⟨_, rfl, rfl⟩)) (by decide) rfl ?_
          refine gg_aload_n C dL_law_1137 rfl ?_
          refine gr_I (k' := (z + 3668)) (n' := (zn + 31422)) (gk_S (As := [va_rf l1]) (rest := []) C dL_law_1138 tw_1330 tw_1331 tw_24 tw_1332 gd_L_builds rfl ⟨by decide, by decide⟩ (by simp [gcat, gcI, gcL, gcF, gcD]) ⟨(by show (z + 3646) + 22 ≤ 649124; first | exact ar_f2 (z := z) hz rfl | omega), (by show (zn + 31290) + 132 ≤ 7146723; first | exact ar_f2 (z := zn) hzn rfl | omega)⟩ (m_L_builds hfl hf)) (Nat.add_assoc z 3646 22) (Nat.add_assoc zn 31290 132) (fun E g9 h9 => h9.elim) (fun i13 g12 hf => ?_)
          refine gg_istore (L' := [some (va_rf l0), some (va_rf l1), some (.int l2), some (.long y11), none, some (.int i13), none, none, none, none, none, none, none, none, none]) C dL_law_1141 (Or.inr (Or.inl rfl)) (by decide) rfl ?_
          refine gg_aload_n C dL_law_1143 rfl ?_
          refine gr_I (k' := (z + 3720)) (n' := (zn + 31734)) (gk_S (As := [va_rf l1]) (rest := []) C dL_law_1144 tw_1333 tw_1334 tw_24 tw_1335 gd_L_devices rfl ⟨by decide, by decide⟩ (by simp [gcat, gcI, gcL, gcF, gcD]) ⟨(by show (z + 3668) + 52 ≤ 649124; first | exact ar_f2 (z := z) hz rfl | omega), (by show (zn + 31422) + 312 ≤ 7146723; first | exact ar_f2 (z := zn) hzn rfl | omega)⟩ (m_L_devices hfl hf)) (Nat.add_assoc z 3668 52) (Nat.add_assoc zn 31422 312) (fun E g9 h9 => h9.elim) (fun i15 g14 hf => ?_)
          refine gg_istore (L' := [some (va_rf l0), some (va_rf l1), some (.int l2), some (.long y11), none, some (.int i13), some (.int i15), none, none, none, none, none, none, none, none]) C dL_law_1147 (Or.inr (Or.inr ⟨_, rfl, rfl⟩)) (by decide) rfl ?_
          refine gg_aload_n C dL_law_1149 rfl ?_
          refine gr_I (k' := (z + 3720)) (n' := (zn + 31734)) (gk_V (ci := 7) (As := []) (rest := []) C dL_law_1150 rfl rfl tw_185 tw_186 tw_187 tw_25 tw_188 gd_X7_groups rfl ⟨by decide, by decide⟩ (by simp [gcat, gcI, gcL, gcF, gcD]) ⟨(by show (z + 3720) + 0 ≤ 649124; first | exact ar_f2 (z := z) hz rfl | omega), (by show (zn + 31734) + 0 ≤ 7146723; first | exact ar_f2 (z := zn) hzn rfl | omega)⟩ hf (fun hf => m_X7_groups hfl hf)) rfl rfl (fun E g9 h9 => h9.elim) (fun i17 g16 hf => ?_)
          refine gg_istore (L' := [some (va_rf l0), some (va_rf l1), some (.int l2), some (.long y11), none, some (.int i13), some (.int i15), some (.int i17), none, none, none, none, none, none, none]) C dL_law_1153 (Or.inr (Or.inr ⟨_, rfl, rfl⟩)) (by decide) rfl ?_
          refine gg_aload_n C dL_law_1155 rfl ?_
          refine gg_bipush C dL_law_1156 (v := (100 : Int32)) (by decide) ?_
          refine gg_bipush C dL_law_1158 (v := (6 : Int32)) (by decide) ?_
          refine gg_iconst C dL_law_1160 (v := (0 : Int32)) (by decide) ?_
          refine gg_iconst C dL_law_1161 (v := (0 : Int32)) (by decide) ?_
          refine gr_I (k' := (z + 3726)) (n' := (zn + 31974)) (gk_SW (As := [va_rf l1, .int (100 : Int32), .int (6 : Int32), .int (0 : Int32), .int (0 : Int32)]) (rest := []) C dL_law_1162 tw_517 tw_518 tw_24 tw_519 gd_L_three rfl ⟨by decide, by decide⟩ (by simp [gcat, gcI, gcL, gcF, gcD]) ⟨(by show (z + 3720) + 6 ≤ 649124; first | exact ar_f2 (z := z) hz rfl | omega), (by show (zn + 31734) + 240 ≤ 7146723; first | exact ar_f2 (z := zn) hzn rfl | omega)⟩ (m_L_three hfl hf)) (Nat.add_assoc z 3720 6) (Nat.add_assoc zn 31734 240) (fun E g9 h9 => h9.elim) (fun i19 g18 hf => ?_)
          refine gg_sipush C dL_law_1165 (v := (-1002 : Int32)) (by decide) ?_
          refine gg_icmp_ne (tgt := 1589) C dL_law_1168 (by decide) hf (fun hf => ?_) (fun hf => ?_)
          · exact gg_sub (L' := [none, none, none, none, none, none, none, none, none, none, none, none, none, none, none]) (by first | exact trivial | simp [gsub]) (hb_1589 (z + 3726) (zn + 31974) (by first | exact ar_f2 (z := z) hz rfl | omega) (by first | exact ar_f2 (z := zn) hzn rfl | omega) _ hf)
          · refine gg_aload_n C dL_law_1171 rfl ?_
            refine gg_bipush C dL_law_1172 (v := (100 : Int32)) (by decide) ?_
            refine gg_iconst C dL_law_1174 (v := (0 : Int32)) (by decide) ?_
            refine gg_iconst C dL_law_1175 (v := (3 : Int32)) (by decide) ?_
            refine gg_iconst C dL_law_1176 (v := (0 : Int32)) (by decide) ?_
            refine gr_I (k' := (z + 3732)) (n' := (zn + 32214)) (gk_SW (As := [va_rf l1, .int (100 : Int32), .int (0 : Int32), .int (3 : Int32), .int (0 : Int32)]) (rest := []) C dL_law_1177 tw_517 tw_518 tw_24 tw_519 gd_L_three rfl ⟨by decide, by decide⟩ (by simp [gcat, gcI, gcL, gcF, gcD]) ⟨(by show (z + 3726) + 6 ≤ 649124; first | exact ar_f2 (z := z) hz rfl | omega), (by show (zn + 31974) + 240 ≤ 7146723; first | exact ar_f2 (z := zn) hzn rfl | omega)⟩ (m_L_three hfl hf)) (Nat.add_assoc z 3726 6) (Nat.add_assoc zn 31974 240) (fun E g9 h9 => h9.elim) (fun i21 g20 hf => ?_)
            refine gg_sipush C dL_law_1180 (v := (-1002 : Int32)) (by decide) ?_
            refine gg_icmp_ne (tgt := 1589) C dL_law_1183 (by decide) hf (fun hf => ?_) (fun hf => ?_)
            · exact gg_sub (L' := [none, none, none, none, none, none, none, none, none, none, none, none, none, none, none]) (by first | exact trivial | simp [gsub]) (hb_1589 (z + 3732) (zn + 32214) (by first | exact ar_f2 (z := z) hz rfl | omega) (by first | exact ar_f2 (z := zn) hzn rfl | omega) _ hf)
            · refine gg_aload_n C dL_law_1186 rfl ?_
              refine gg_bipush C dL_law_1187 (v := (100 : Int32)) (by decide) ?_
              refine gg_iconst C dL_law_1189 (v := (0 : Int32)) (by decide) ?_
              refine gg_iconst C dL_law_1190 (v := (0 : Int32)) (by decide) ?_
              refine gg_bipush C dL_law_1191 (v := (100 : Int32)) (by decide) ?_
              refine gr_I (k' := (z + 3738)) (n' := (zn + 32454)) (gk_SW (As := [va_rf l1, .int (100 : Int32), .int (0 : Int32), .int (0 : Int32), .int (100 : Int32)]) (rest := []) C dL_law_1193 tw_517 tw_518 tw_24 tw_519 gd_L_three rfl ⟨by decide, by decide⟩ (by simp [gcat, gcI, gcL, gcF, gcD]) ⟨(by show (z + 3732) + 6 ≤ 649124; first | exact ar_f2 (z := z) hz rfl | omega), (by show (zn + 32214) + 240 ≤ 7146723; first | exact ar_f2 (z := zn) hzn rfl | omega)⟩ (m_L_three hfl hf)) (Nat.add_assoc z 3732 6) (Nat.add_assoc zn 32214 240) (fun E g9 h9 => h9.elim) (fun i23 g22 hf => ?_)
              refine gg_sipush C dL_law_1196 (v := (-1002 : Int32)) (by decide) ?_
              refine gg_icmp_ne (tgt := 1589) C dL_law_1199 (by decide) hf (fun hf => ?_) (fun hf => ?_)
              · exact gg_sub (L' := [none, none, none, none, none, none, none, none, none, none, none, none, none, none, none]) (by first | exact trivial | simp [gsub]) (hb_1589 (z + 3738) (zn + 32454) (by first | exact ar_f2 (z := z) hz rfl | omega) (by first | exact ar_f2 (z := zn) hzn rfl | omega) _ hf)
              · refine gg_aload_n C dL_law_1202 rfl ?_
                refine gg_bipush C dL_law_1203 (v := (6 : Int32)) (by decide) ?_
                refine gg_newarr' (k' := (z + 3739)) (n' := (zn + 32460)) (kd := 0) (cap := 6) (x := fun N => (N, .inl (fun _ => 0))) C dL_law_1205 tw_362 rfl rfl (fun _ _ => rfl) (by decide) (by show (z + 3739) ≤ 649124; first | exact ar_f (z := z) hz rfl | omega) (by show (zn + 32460) ≤ 7146723; first | exact ar_f (z := zn) hzn rfl | omega) (Nat.add_assoc z 3738 1) (Nat.add_assoc zn 32454 6) hf (fun q24 g25 hf => ?_)
                refine gg_dup C dL_law_1207 (gcat _) ?_
                refine gg_iconst C dL_law_1208 (v := (0 : Int32)) (by decide) ?_
                refine gg_iconst C dL_law_1209 (v := (0 : Int32)) (by decide) ?_
                refine gg_iast C dL_law_1210 hf (fun g26 hf => ?_)
                refine gg_dup C dL_law_1211 (gcat _) ?_
                refine gg_iconst C dL_law_1212 (v := (1 : Int32)) (by decide) ?_
                refine gg_iconst C dL_law_1213 (v := (1 : Int32)) (by decide) ?_
                refine gg_iast C dL_law_1214 hf (fun g27 hf => ?_)
                refine gg_dup C dL_law_1215 (gcat _) ?_
                refine gg_iconst C dL_law_1216 (v := (2 : Int32)) (by decide) ?_
                refine gg_iconst C dL_law_1217 (v := (1 : Int32)) (by decide) ?_
                refine gg_iast C dL_law_1218 hf (fun g28 hf => ?_)
                refine gg_dup C dL_law_1219 (gcat _) ?_
                refine gg_iconst C dL_law_1220 (v := (3 : Int32)) (by decide) ?_
                refine gg_iconst C dL_law_1221 (v := (1 : Int32)) (by decide) ?_
                refine gg_iast C dL_law_1222 hf (fun g29 hf => ?_)
                refine gg_dup C dL_law_1223 (gcat _) ?_
                refine gg_iconst C dL_law_1224 (v := (4 : Int32)) (by decide) ?_
                refine gg_iconst C dL_law_1225 (v := (0 : Int32)) (by decide) ?_
                refine gg_iast C dL_law_1226 hf (fun g30 hf => ?_)
                refine gg_dup C dL_law_1227 (gcat _) ?_
                refine gg_iconst C dL_law_1228 (v := (5 : Int32)) (by decide) ?_
                refine gg_iconst C dL_law_1229 (v := (0 : Int32)) (by decide) ?_
                refine gg_iast C dL_law_1230 hf (fun g31 hf => ?_)
                refine gr_I (k' := (z + 3744)) (n' := (zn + 32649)) (gk_SW (As := [va_rf l1, va_rf (some q24)]) (rest := []) C dL_law_1231 tw_199 tw_200 tw_24 tw_201 gd_L_build rfl ⟨by decide, by decide⟩ (by simp [gcat, gcI, gcL, gcF, gcD]) ⟨(by show (z + 3739) + 5 ≤ 649124; first | exact ar_f2 (z := z) hz rfl | omega), (by show (zn + 32460) + 189 ≤ 7146723; first | exact ar_f2 (z := zn) hzn rfl | omega)⟩ (m_L_build hfl hf)) (Nat.add_assoc z 3739 5) (Nat.add_assoc zn 32460 189) (fun E g9 h9 => h9.elim) (fun i33 g32 hf => ?_)
                refine gg_sipush C dL_law_1234 (v := (-1002 : Int32)) (by decide) ?_
                refine gg_icmp_ne (tgt := 1589) C dL_law_1237 (by decide) hf (fun hf => ?_) (fun hf => ?_)
                · exact gg_sub (L' := [none, none, none, none, none, none, none, none, none, none, none, none, none, none, none]) (by first | exact trivial | simp [gsub]) (hb_1589 (z + 3744) (zn + 32649) (by first | exact ar_f2 (z := z) hz rfl | omega) (by first | exact ar_f2 (z := zn) hzn rfl | omega) _ hf)
                · refine gg_aload_n C dL_law_1240 rfl ?_
                  refine gg_bipush C dL_law_1241 (v := (6 : Int32)) (by decide) ?_
                  refine gg_newarr' (k' := (z + 3745)) (n' := (zn + 32655)) (kd := 0) (cap := 6) (x := fun N => (N, .inl (fun _ => 0))) C dL_law_1243 tw_362 rfl rfl (fun _ _ => rfl) (by decide) (by show (z + 3745) ≤ 649124; first | exact ar_f (z := z) hz rfl | omega) (by show (zn + 32655) ≤ 7146723; first | exact ar_f (z := zn) hzn rfl | omega) (Nat.add_assoc z 3744 1) (Nat.add_assoc zn 32649 6) hf (fun q34 g35 hf => ?_)
                  refine gg_dup C dL_law_1245 (gcat _) ?_
                  refine gg_iconst C dL_law_1246 (v := (0 : Int32)) (by decide) ?_
                  refine gg_sipush C dL_law_1247 (v := (999 : Int32)) (by decide) ?_
                  refine gg_iast C dL_law_1250 hf (fun g36 hf => ?_)
                  refine gg_dup C dL_law_1251 (gcat _) ?_
                  refine gg_iconst C dL_law_1252 (v := (1 : Int32)) (by decide) ?_
                  refine gg_bipush C dL_law_1253 (v := (64 : Int32)) (by decide) ?_
                  refine gg_iast C dL_law_1255 hf (fun g37 hf => ?_)
                  refine gg_dup C dL_law_1256 (gcat _) ?_
                  refine gg_iconst C dL_law_1257 (v := (2 : Int32)) (by decide) ?_
                  refine gg_iconst C dL_law_1258 (v := (1 : Int32)) (by decide) ?_
                  refine gg_iast C dL_law_1259 hf (fun g38 hf => ?_)
                  refine gg_dup C dL_law_1260 (gcat _) ?_
                  refine gg_iconst C dL_law_1261 (v := (3 : Int32)) (by decide) ?_
                  refine gg_iconst C dL_law_1262 (v := (1 : Int32)) (by decide) ?_
                  refine gg_iast C dL_law_1263 hf (fun g39 hf => ?_)
                  refine gg_dup C dL_law_1264 (gcat _) ?_
                  refine gg_iconst C dL_law_1265 (v := (4 : Int32)) (by decide) ?_
                  refine gg_iconst C dL_law_1266 (v := (0 : Int32)) (by decide) ?_
                  refine gg_iast C dL_law_1267 hf (fun g40 hf => ?_)
                  refine gg_dup C dL_law_1268 (gcat _) ?_
                  refine gg_iconst C dL_law_1269 (v := (5 : Int32)) (by decide) ?_
                  refine gg_iconst C dL_law_1270 (v := (0 : Int32)) (by decide) ?_
                  refine gg_iast C dL_law_1271 hf (fun g41 hf => ?_)
                  refine gr_I (k' := (z + 3750)) (n' := (zn + 32844)) (gk_SW (As := [va_rf l1, va_rf (some q34)]) (rest := []) C dL_law_1272 tw_199 tw_200 tw_24 tw_201 gd_L_build rfl ⟨by decide, by decide⟩ (by simp [gcat, gcI, gcL, gcF, gcD]) ⟨(by show (z + 3745) + 5 ≤ 649124; first | exact ar_f2 (z := z) hz rfl | omega), (by show (zn + 32655) + 189 ≤ 7146723; first | exact ar_f2 (z := zn) hzn rfl | omega)⟩ (m_L_build hfl hf)) (Nat.add_assoc z 3745 5) (Nat.add_assoc zn 32655 189) (fun E g9 h9 => h9.elim) (fun i43 g42 hf => ?_)
                  refine gg_sipush C dL_law_1275 (v := (-1002 : Int32)) (by decide) ?_
                  refine gg_icmp_ne (tgt := 1589) C dL_law_1278 (by decide) hf (fun hf => ?_) (fun hf => ?_)
                  · exact gg_sub (L' := [none, none, none, none, none, none, none, none, none, none, none, none, none, none, none]) (by first | exact trivial | simp [gsub]) (hb_1589 (z + 3750) (zn + 32844) (by first | exact ar_f2 (z := z) hz rfl | omega) (by first | exact ar_f2 (z := zn) hzn rfl | omega) _ hf)
                  · refine gg_aload_n C dL_law_1281 rfl ?_
                    refine gg_bipush C dL_law_1282 (v := (6 : Int32)) (by decide) ?_
                    refine gg_newarr' (k' := (z + 3751)) (n' := (zn + 32850)) (kd := 0) (cap := 6) (x := fun N => (N, .inl (fun _ => 0))) C dL_law_1284 tw_362 rfl rfl (fun _ _ => rfl) (by decide) (by show (z + 3751) ≤ 649124; first | exact ar_f (z := z) hz rfl | omega) (by show (zn + 32850) ≤ 7146723; first | exact ar_f (z := zn) hzn rfl | omega) (Nat.add_assoc z 3750 1) (Nat.add_assoc zn 32844 6) hf (fun q44 g45 hf => ?_)
                    refine gg_dup C dL_law_1286 (gcat _) ?_
                    refine gg_iconst C dL_law_1287 (v := (0 : Int32)) (by decide) ?_
                    refine gg_sipush C dL_law_1288 (v := (999 : Int32)) (by decide) ?_
                    refine gg_iast C dL_law_1291 hf (fun g46 hf => ?_)
                    refine gg_dup C dL_law_1292 (gcat _) ?_
                    refine gg_iconst C dL_law_1293 (v := (1 : Int32)) (by decide) ?_
                    refine gg_iconst C dL_law_1294 (v := (1 : Int32)) (by decide) ?_
                    refine gg_iast C dL_law_1295 hf (fun g47 hf => ?_)
                    refine gg_dup C dL_law_1296 (gcat _) ?_
                    refine gg_iconst C dL_law_1297 (v := (2 : Int32)) (by decide) ?_
                    refine gg_bipush C dL_law_1298 (v := (8 : Int32)) (by decide) ?_
                    refine gg_iast C dL_law_1300 hf (fun g48 hf => ?_)
                    refine gg_dup C dL_law_1301 (gcat _) ?_
                    refine gg_iconst C dL_law_1302 (v := (3 : Int32)) (by decide) ?_
                    refine gg_iconst C dL_law_1303 (v := (1 : Int32)) (by decide) ?_
                    refine gg_iast C dL_law_1304 hf (fun g49 hf => ?_)
                    refine gg_dup C dL_law_1305 (gcat _) ?_
                    refine gg_iconst C dL_law_1306 (v := (4 : Int32)) (by decide) ?_
                    refine gg_iconst C dL_law_1307 (v := (0 : Int32)) (by decide) ?_
                    refine gg_iast C dL_law_1308 hf (fun g50 hf => ?_)
                    refine gg_dup C dL_law_1309 (gcat _) ?_
                    refine gg_iconst C dL_law_1310 (v := (5 : Int32)) (by decide) ?_
                    refine gg_iconst C dL_law_1311 (v := (0 : Int32)) (by decide) ?_
                    refine gg_iast C dL_law_1312 hf (fun g51 hf => ?_)
                    refine gr_I (k' := (z + 3756)) (n' := (zn + 33039)) (gk_SW (As := [va_rf l1, va_rf (some q44)]) (rest := []) C dL_law_1313 tw_199 tw_200 tw_24 tw_201 gd_L_build rfl ⟨by decide, by decide⟩ (by simp [gcat, gcI, gcL, gcF, gcD]) ⟨(by show (z + 3751) + 5 ≤ 649124; first | exact ar_f2 (z := z) hz rfl | omega), (by show (zn + 32850) + 189 ≤ 7146723; first | exact ar_f2 (z := zn) hzn rfl | omega)⟩ (m_L_build hfl hf)) (Nat.add_assoc z 3751 5) (Nat.add_assoc zn 32850 189) (fun E g9 h9 => h9.elim) (fun i53 g52 hf => ?_)
                    refine gg_sipush C dL_law_1316 (v := (-1002 : Int32)) (by decide) ?_
                    refine gg_icmp_ne (tgt := 1589) C dL_law_1319 (by decide) hf (fun hf => ?_) (fun hf => ?_)
                    · exact gg_sub (L' := [none, none, none, none, none, none, none, none, none, none, none, none, none, none, none]) (by first | exact trivial | simp [gsub]) (hb_1589 (z + 3756) (zn + 33039) (by first | exact ar_f2 (z := z) hz rfl | omega) (by first | exact ar_f2 (z := zn) hzn rfl | omega) _ hf)
                    · refine gg_aload_n C dL_law_1322 rfl ?_
                      refine gg_bipush C dL_law_1323 (v := (6 : Int32)) (by decide) ?_
                      refine gg_newarr' (k' := (z + 3757)) (n' := (zn + 33045)) (kd := 0) (cap := 6) (x := fun N => (N, .inl (fun _ => 0))) C dL_law_1325 tw_362 rfl rfl (fun _ _ => rfl) (by decide) (by show (z + 3757) ≤ 649124; first | exact ar_f (z := z) hz rfl | omega) (by show (zn + 33045) ≤ 7146723; first | exact ar_f (z := zn) hzn rfl | omega) (Nat.add_assoc z 3756 1) (Nat.add_assoc zn 33039 6) hf (fun q54 g55 hf => ?_)
                      refine gg_dup C dL_law_1327 (gcat _) ?_
                      refine gg_iconst C dL_law_1328 (v := (0 : Int32)) (by decide) ?_
                      refine gg_sipush C dL_law_1329 (v := (999 : Int32)) (by decide) ?_
                      refine gg_iast C dL_law_1332 hf (fun g56 hf => ?_)
                      refine gg_dup C dL_law_1333 (gcat _) ?_
                      refine gg_iconst C dL_law_1334 (v := (1 : Int32)) (by decide) ?_
                      refine gg_iconst C dL_law_1335 (v := (1 : Int32)) (by decide) ?_
                      refine gg_iast C dL_law_1336 hf (fun g57 hf => ?_)
                      refine gg_dup C dL_law_1337 (gcat _) ?_
                      refine gg_iconst C dL_law_1338 (v := (2 : Int32)) (by decide) ?_
                      refine gg_iconst C dL_law_1339 (v := (1 : Int32)) (by decide) ?_
                      refine gg_iast C dL_law_1340 hf (fun g58 hf => ?_)
                      refine gg_dup C dL_law_1341 (gcat _) ?_
                      refine gg_iconst C dL_law_1342 (v := (3 : Int32)) (by decide) ?_
                      refine gg_sipush C dL_law_1343 (v := (501 : Int32)) (by decide) ?_
                      refine gg_iast C dL_law_1346 hf (fun g59 hf => ?_)
                      refine gg_dup C dL_law_1347 (gcat _) ?_
                      refine gg_iconst C dL_law_1348 (v := (4 : Int32)) (by decide) ?_
                      refine gg_iconst C dL_law_1349 (v := (0 : Int32)) (by decide) ?_
                      refine gg_iast C dL_law_1350 hf (fun g60 hf => ?_)
                      refine gg_dup C dL_law_1351 (gcat _) ?_
                      refine gg_iconst C dL_law_1352 (v := (5 : Int32)) (by decide) ?_
                      refine gg_iconst C dL_law_1353 (v := (0 : Int32)) (by decide) ?_
                      refine gg_iast C dL_law_1354 hf (fun g61 hf => ?_)
                      refine gr_I (k' := (z + 3762)) (n' := (zn + 33234)) (gk_SW (As := [va_rf l1, va_rf (some q54)]) (rest := []) C dL_law_1355 tw_199 tw_200 tw_24 tw_201 gd_L_build rfl ⟨by decide, by decide⟩ (by simp [gcat, gcI, gcL, gcF, gcD]) ⟨(by show (z + 3757) + 5 ≤ 649124; first | exact ar_f2 (z := z) hz rfl | omega), (by show (zn + 33045) + 189 ≤ 7146723; first | exact ar_f2 (z := zn) hzn rfl | omega)⟩ (m_L_build hfl hf)) (Nat.add_assoc z 3757 5) (Nat.add_assoc zn 33045 189) (fun E g9 h9 => h9.elim) (fun i63 g62 hf => ?_)
                      refine gg_sipush C dL_law_1358 (v := (-1002 : Int32)) (by decide) ?_
                      refine gg_icmp_ne (tgt := 1589) C dL_law_1361 (by decide) hf (fun hf => ?_) (fun hf => ?_)
                      · exact gg_sub (L' := [none, none, none, none, none, none, none, none, none, none, none, none, none, none, none]) (by first | exact trivial | simp [gsub]) (hb_1589 (z + 3762) (zn + 33234) (by first | exact ar_f2 (z := z) hz rfl | omega) (by first | exact ar_f2 (z := zn) hzn rfl | omega) _ hf)
                      · refine gg_aload_n C dL_law_1364 rfl ?_
                        refine gg_bipush C dL_law_1365 (v := (6 : Int32)) (by decide) ?_
                        refine gg_newarr' (k' := (z + 3763)) (n' := (zn + 33240)) (kd := 0) (cap := 6) (x := fun N => (N, .inl (fun _ => 0))) C dL_law_1367 tw_362 rfl rfl (fun _ _ => rfl) (by decide) (by show (z + 3763) ≤ 649124; first | exact ar_f (z := z) hz rfl | omega) (by show (zn + 33240) ≤ 7146723; first | exact ar_f (z := zn) hzn rfl | omega) (Nat.add_assoc z 3762 1) (Nat.add_assoc zn 33234 6) hf (fun q64 g65 hf => ?_)
                        refine gg_dup C dL_law_1369 (gcat _) ?_
                        refine gg_iconst C dL_law_1370 (v := (0 : Int32)) (by decide) ?_
                        refine gg_sipush C dL_law_1371 (v := (999 : Int32)) (by decide) ?_
                        refine gg_iast C dL_law_1374 hf (fun g66 hf => ?_)
                        refine gg_dup C dL_law_1375 (gcat _) ?_
                        refine gg_iconst C dL_law_1376 (v := (1 : Int32)) (by decide) ?_
                        refine gg_iconst C dL_law_1377 (v := (1 : Int32)) (by decide) ?_
                        refine gg_iast C dL_law_1378 hf (fun g67 hf => ?_)
                        refine gg_dup C dL_law_1379 (gcat _) ?_
                        refine gg_iconst C dL_law_1380 (v := (2 : Int32)) (by decide) ?_
                        refine gg_iconst C dL_law_1381 (v := (1 : Int32)) (by decide) ?_
                        refine gg_iast C dL_law_1382 hf (fun g68 hf => ?_)
                        refine gg_dup C dL_law_1383 (gcat _) ?_
                        refine gg_iconst C dL_law_1384 (v := (3 : Int32)) (by decide) ?_
                        refine gg_iconst C dL_law_1385 (v := (1 : Int32)) (by decide) ?_
                        refine gg_iast C dL_law_1386 hf (fun g69 hf => ?_)
                        refine gg_dup C dL_law_1387 (gcat _) ?_
                        refine gg_iconst C dL_law_1388 (v := (4 : Int32)) (by decide) ?_
                        refine gg_bipush C dL_law_1389 (v := (16 : Int32)) (by decide) ?_
                        refine gg_iast C dL_law_1391 hf (fun g70 hf => ?_)
                        refine gg_dup C dL_law_1392 (gcat _) ?_
                        refine gg_iconst C dL_law_1393 (v := (5 : Int32)) (by decide) ?_
                        refine gg_iconst C dL_law_1394 (v := (0 : Int32)) (by decide) ?_
                        refine gg_iast C dL_law_1395 hf (fun g71 hf => ?_)
                        refine gr_I (k' := (z + 3768)) (n' := (zn + 33429)) (gk_SW (As := [va_rf l1, va_rf (some q64)]) (rest := []) C dL_law_1396 tw_199 tw_200 tw_24 tw_201 gd_L_build rfl ⟨by decide, by decide⟩ (by simp [gcat, gcI, gcL, gcF, gcD]) ⟨(by show (z + 3763) + 5 ≤ 649124; first | exact ar_f2 (z := z) hz rfl | omega), (by show (zn + 33240) + 189 ≤ 7146723; first | exact ar_f2 (z := zn) hzn rfl | omega)⟩ (m_L_build hfl hf)) (Nat.add_assoc z 3763 5) (Nat.add_assoc zn 33240 189) (fun E g9 h9 => h9.elim) (fun i73 g72 hf => ?_)
                        refine gg_sipush C dL_law_1399 (v := (-1002 : Int32)) (by decide) ?_
                        refine gg_icmp_ne (tgt := 1589) C dL_law_1402 (by decide) hf (fun hf => ?_) (fun hf => ?_)
                        · exact gg_sub (L' := [none, none, none, none, none, none, none, none, none, none, none, none, none, none, none]) (by first | exact trivial | simp [gsub]) (hb_1589 (z + 3768) (zn + 33429) (by first | exact ar_f2 (z := z) hz rfl | omega) (by first | exact ar_f2 (z := zn) hzn rfl | omega) _ hf)
                        · refine gg_aload_n C dL_law_1405 rfl ?_
                          refine gg_bipush C dL_law_1406 (v := (6 : Int32)) (by decide) ?_
                          refine gg_newarr' (k' := (z + 3769)) (n' := (zn + 33435)) (kd := 0) (cap := 6) (x := fun N => (N, .inl (fun _ => 0))) C dL_law_1408 tw_362 rfl rfl (fun _ _ => rfl) (by decide) (by show (z + 3769) ≤ 649124; first | exact ar_f (z := z) hz rfl | omega) (by show (zn + 33435) ≤ 7146723; first | exact ar_f (z := zn) hzn rfl | omega) (Nat.add_assoc z 3768 1) (Nat.add_assoc zn 33429 6) hf (fun q74 g75 hf => ?_)
                          refine gg_dup C dL_law_1410 (gcat _) ?_
                          refine gg_iconst C dL_law_1411 (v := (0 : Int32)) (by decide) ?_
                          refine gg_sipush C dL_law_1412 (v := (999 : Int32)) (by decide) ?_
                          refine gg_iast C dL_law_1415 hf (fun g76 hf => ?_)
                          refine gg_dup C dL_law_1416 (gcat _) ?_
                          refine gg_iconst C dL_law_1417 (v := (1 : Int32)) (by decide) ?_
                          refine gg_iconst C dL_law_1418 (v := (1 : Int32)) (by decide) ?_
                          refine gg_iast C dL_law_1419 hf (fun g77 hf => ?_)
                          refine gg_dup C dL_law_1420 (gcat _) ?_
                          refine gg_iconst C dL_law_1421 (v := (2 : Int32)) (by decide) ?_
                          refine gg_iconst C dL_law_1422 (v := (1 : Int32)) (by decide) ?_
                          refine gg_iast C dL_law_1423 hf (fun g78 hf => ?_)
                          refine gg_dup C dL_law_1424 (gcat _) ?_
                          refine gg_iconst C dL_law_1425 (v := (3 : Int32)) (by decide) ?_
                          refine gg_iconst C dL_law_1426 (v := (1 : Int32)) (by decide) ?_
                          refine gg_iast C dL_law_1427 hf (fun g79 hf => ?_)
                          refine gg_dup C dL_law_1428 (gcat _) ?_
                          refine gg_iconst C dL_law_1429 (v := (4 : Int32)) (by decide) ?_
                          refine gg_iconst C dL_law_1430 (v := (0 : Int32)) (by decide) ?_
                          refine gg_iast C dL_law_1431 hf (fun g80 hf => ?_)
                          refine gg_dup C dL_law_1432 (gcat _) ?_
                          refine gg_iconst C dL_law_1433 (v := (5 : Int32)) (by decide) ?_
                          refine gg_sipush C dL_law_1434 (v := (256 : Int32)) (by decide) ?_
                          refine gg_iast C dL_law_1437 hf (fun g81 hf => ?_)
                          refine gr_I (k' := (z + 3774)) (n' := (zn + 33624)) (gk_SW (As := [va_rf l1, va_rf (some q74)]) (rest := []) C dL_law_1438 tw_199 tw_200 tw_24 tw_201 gd_L_build rfl ⟨by decide, by decide⟩ (by simp [gcat, gcI, gcL, gcF, gcD]) ⟨(by show (z + 3769) + 5 ≤ 649124; first | exact ar_f2 (z := z) hz rfl | omega), (by show (zn + 33435) + 189 ≤ 7146723; first | exact ar_f2 (z := zn) hzn rfl | omega)⟩ (m_L_build hfl hf)) (Nat.add_assoc z 3769 5) (Nat.add_assoc zn 33435 189) (fun E g9 h9 => h9.elim) (fun i83 g82 hf => ?_)
                          refine gg_sipush C dL_law_1441 (v := (-1002 : Int32)) (by decide) ?_
                          refine gg_icmp_ne (tgt := 1589) C dL_law_1444 (by decide) hf (fun hf => ?_) (fun hf => ?_)
                          · exact gg_sub (L' := [none, none, none, none, none, none, none, none, none, none, none, none, none, none, none]) (by first | exact trivial | simp [gsub]) (hb_1589 (z + 3774) (zn + 33624) (by first | exact ar_f2 (z := z) hz rfl | omega) (by first | exact ar_f2 (z := zn) hzn rfl | omega) _ hf)
                          · refine gg_aload_n C dL_law_1447 rfl ?_
                            refine gg_iconst C dL_law_1448 (v := (4 : Int32)) (by decide) ?_
                            refine gg_newarr' (k' := (z + 3775)) (n' := (zn + 33628)) (kd := 0) (cap := 4) (x := fun N => (N, .inl (fun _ => 0))) C dL_law_1449 tw_362 rfl rfl (fun _ _ => rfl) (by decide) (by show (z + 3775) ≤ 649124; first | exact ar_f (z := z) hz rfl | omega) (by show (zn + 33628) ≤ 7146723; first | exact ar_f (z := zn) hzn rfl | omega) (Nat.add_assoc z 3774 1) (Nat.add_assoc zn 33624 4) hf (fun q84 g85 hf => ?_)
                            refine gg_dup C dL_law_1451 (gcat _) ?_
                            refine gg_iconst C dL_law_1452 (v := (0 : Int32)) (by decide) ?_
                            refine gg_iload C dL_law_1453 rfl ?_
                            refine gg_iast C dL_law_1455 hf (fun g86 hf => ?_)
                            refine gg_dup C dL_law_1456 (gcat _) ?_
                            refine gg_iconst C dL_law_1457 (v := (1 : Int32)) (by decide) ?_
                            refine gg_iconst C dL_law_1458 (v := (0 : Int32)) (by decide) ?_
                            refine gg_iast C dL_law_1459 hf (fun g87 hf => ?_)
                            refine gg_dup C dL_law_1460 (gcat _) ?_
                            refine gg_iconst C dL_law_1461 (v := (2 : Int32)) (by decide) ?_
                            refine gg_iconst C dL_law_1462 (v := (0 : Int32)) (by decide) ?_
                            refine gg_iast C dL_law_1463 hf (fun g88 hf => ?_)
                            refine gg_dup C dL_law_1464 (gcat _) ?_
                            refine gg_iconst C dL_law_1465 (v := (3 : Int32)) (by decide) ?_
                            refine gg_iconst C dL_law_1466 (v := (0 : Int32)) (by decide) ?_
                            refine gg_iast C dL_law_1467 hf (fun g89 hf => ?_)
                            refine gr_I (k' := (z + 3780)) (n' := (zn + 33817)) (gk_SW (As := [va_rf l1, va_rf (some q84)]) (rest := []) C dL_law_1468 tw_199 tw_200 tw_24 tw_201 gd_L_build rfl ⟨by decide, by decide⟩ (by simp [gcat, gcI, gcL, gcF, gcD]) ⟨(by show (z + 3775) + 5 ≤ 649124; first | exact ar_f2 (z := z) hz rfl | omega), (by show (zn + 33628) + 189 ≤ 7146723; first | exact ar_f2 (z := zn) hzn rfl | omega)⟩ (m_L_build hfl hf)) (Nat.add_assoc z 3775 5) (Nat.add_assoc zn 33628 189) (fun E g9 h9 => h9.elim) (fun i91 g90 hf => ?_)
                            refine gg_sipush C dL_law_1471 (v := (-1001 : Int32)) (by decide) ?_
                            refine gg_icmp_ne (tgt := 1589) C dL_law_1474 (by decide) hf (fun hf => ?_) (fun hf => ?_)
                            · exact gg_sub (L' := [none, none, none, none, none, none, none, none, none, none, none, none, none, none, none]) (by first | exact trivial | simp [gsub]) (hb_1589 (z + 3780) (zn + 33817) (by first | exact ar_f2 (z := z) hz rfl | omega) (by first | exact ar_f2 (z := zn) hzn rfl | omega) _ hf)
                            · refine gg_iload C dL_law_1477 rfl ?_
                              refine gg_if_le (tgt := 1511) C dL_law_1479 (by decide) hf (fun hf => ?_) (fun hf => ?_)
                              · exact gg_sub (L' := [none, some (va_rf l1), none, some (.long y11), none, some (.int i13), some (.int i15), some (.int i17), none, none, none, none, none, none, none]) (by first | exact ⟨rfl, ⟨rfl, ⟨rfl, ⟨rfl, ⟨rfl, trivial⟩⟩⟩⟩⟩ | simp [gsub]) (hb_1511 (z + 3780) (zn + 33817) (by first | exact ar_f2 (z := z) hz rfl | omega) (by first | exact ar_f2 (z := zn) hzn rfl | omega) _ _ _ _ _ _ hf)
                              · refine gg_aload_n C dL_law_1482 rfl ?_
                                refine gg_iconst C dL_law_1483 (v := (4 : Int32)) (by decide) ?_
                                refine gg_newarr' (k' := (z + 3781)) (n' := (zn + 33821)) (kd := 0) (cap := 4) (x := fun N => (N, .inl (fun _ => 0))) C dL_law_1484 tw_362 rfl rfl (fun _ _ => rfl) (by decide) (by show (z + 3781) ≤ 649124; first | exact ar_f (z := z) hz rfl | omega) (by show (zn + 33821) ≤ 7146723; first | exact ar_f (z := zn) hzn rfl | omega) (Nat.add_assoc z 3780 1) (Nat.add_assoc zn 33817 4) hf (fun q170 g171 hf => ?_)
                                refine gg_dup C dL_law_1486 (gcat _) ?_
                                refine gg_iconst C dL_law_1487 (v := (0 : Int32)) (by decide) ?_
                                refine gg_iconst C dL_law_1488 (v := (0 : Int32)) (by decide) ?_
                                refine gg_iast C dL_law_1489 hf (fun g172 hf => ?_)
                                refine gg_dup C dL_law_1490 (gcat _) ?_
                                refine gg_iconst C dL_law_1491 (v := (1 : Int32)) (by decide) ?_
                                refine gg_iconst C dL_law_1492 (v := (0 : Int32)) (by decide) ?_
                                refine gg_iast C dL_law_1493 hf (fun g173 hf => ?_)
                                refine gg_dup C dL_law_1494 (gcat _) ?_
                                refine gg_iconst C dL_law_1495 (v := (2 : Int32)) (by decide) ?_
                                refine gg_iconst C dL_law_1496 (v := (1 : Int32)) (by decide) ?_
                                refine gg_iast C dL_law_1497 hf (fun g174 hf => ?_)
                                refine gg_dup C dL_law_1498 (gcat _) ?_
                                refine gg_iconst C dL_law_1499 (v := (3 : Int32)) (by decide) ?_
                                refine gg_iconst C dL_law_1500 (v := (0 : Int32)) (by decide) ?_
                                refine gg_iast C dL_law_1501 hf (fun g175 hf => ?_)
                                refine gr_I (k' := (z + 3786)) (n' := (zn + 34010)) (gk_SW (As := [va_rf l1, va_rf (some q170)]) (rest := []) C dL_law_1502 tw_199 tw_200 tw_24 tw_201 gd_L_build rfl ⟨by decide, by decide⟩ (by simp [gcat, gcI, gcL, gcF, gcD]) ⟨(by show (z + 3781) + 5 ≤ 649124; first | exact ar_f2 (z := z) hz rfl | omega), (by show (zn + 33821) + 189 ≤ 7146723; first | exact ar_f2 (z := zn) hzn rfl | omega)⟩ (m_L_build hfl hf)) (Nat.add_assoc z 3781 5) (Nat.add_assoc zn 33821 189) (fun E g9 h9 => h9.elim) (fun i177 g176 hf => ?_)
                                refine gg_sipush C dL_law_1505 (v := (-1002 : Int32)) (by decide) ?_
                                refine gg_icmp_ne (tgt := 1589) C dL_law_1508 (by decide) hf (fun hf => ?_) (fun hf => ?_)
                                · exact gg_sub (L' := [none, none, none, none, none, none, none, none, none, none, none, none, none, none, none]) (by first | exact trivial | simp [gsub]) (hb_1589 (z + 3786) (zn + 34010) (by first | exact ar_f2 (z := z) hz rfl | omega) (by first | exact ar_f2 (z := zn) hzn rfl | omega) _ hf)
                                · exact gg_sub (L' := [none, some (va_rf l1), none, some (.long y11), none, some (.int i13), some (.int i15), some (.int i17), none, none, none, none, none, none, none]) (by first | exact ⟨rfl, ⟨rfl, ⟨rfl, ⟨rfl, ⟨rfl, trivial⟩⟩⟩⟩⟩ | simp [gsub]) (hb_1511 (z + 3786) (zn + 34010) (by first | exact ar_f2 (z := z) hz rfl | omega) (by first | exact ar_f2 (z := zn) hzn rfl | omega) _ _ _ _ _ _ hf)
        · refine gg_iconst C dL_law_1130 (v := (0 : Int32)) (by decide) ?_
          exact hf.elim
      · refine gg_aload_n C dL_law_26 rfl ?_
        refine gg_iconst C dL_law_27 (v := (1 : Int32)) (by decide) ?_
        refine gg_iload_n C dL_law_28 rfl ?_
        refine gg_iadd C dL_law_29 ?_
        refine gr_I (k' := z) (n' := zn) (gk_S (As := [va_rf l0, .int ((1 : Int32) + l3)]) (rest := []) C dL_law_30 tw_193 tw_194 tw_24 tw_195 gd_L_at rfl ⟨by decide, by decide⟩ (by simp [gcat, gcI, gcL, gcF, gcD]) ⟨(by show z + 0 ≤ 649124; first | exact ar_f (z := z) hz rfl | omega), (by show zn + 0 ≤ 7146723; first | exact ar_f (z := zn) hzn rfl | omega)⟩ (m_L_at hfl hf)) rfl rfl (fun E g9 h9 => h9.elim) (fun i179 g178 hf => ?_)
        refine gg_ldc C dL_law_33 (v := (100000000 : Int32)) tw_1370 ?_
        refine gr_I (k' := z) (n' := zn) (gk_S (As := [.int i179, .int (100000000 : Int32)]) (rest := []) C dL_law_35 tw_196 tw_197 tw_24 tw_198 gd_L_some rfl ⟨by decide, by decide⟩ (by simp [gcat, gcI, gcL, gcF, gcD]) ⟨(by show z + 0 ≤ 649124; first | exact ar_f (z := z) hz rfl | omega), (by show zn + 0 ≤ 7146723; first | exact ar_f (z := zn) hzn rfl | omega)⟩ (m_L_some hfl hf)) rfl rfl (fun E g9 h9 => h9.elim) (fun i181 g180 hf => ?_)
        refine gg_istore (L' := [some (va_rf l0), some (va_rf l1), some (.int l2), some (.int l3), some (.int i181), none, none, none, none, none, none, none, none, none, none]) C dL_law_38 (Or.inr (Or.inr ⟨_, rfl, rfl⟩)) (by decide) rfl ?_
        refine gg_iload C dL_law_40 rfl ?_
        refine gg_bipush C dL_law_42 (v := (40 : Int32)) (by decide) ?_
        refine gg_idiv C dL_law_44 hf.1 ?_
        replace hf := hf.2
        refine gg_istore (L' := [some (va_rf l0), some (va_rf l1), some (.int l2), some (.int l3), some (.int i181), some (.int (i181 / (40 : Int32))), none, none, none, none, none, none, none, none, none]) C dL_law_45 (Or.inr (Or.inr ⟨_, rfl, rfl⟩)) (by decide) rfl ?_
        refine gg_iload C dL_law_47 rfl ?_
        refine gg_iconst C dL_law_49 (v := (1 : Int32)) (by decide) ?_
        refine gg_aload_n C dL_law_50 rfl ?_
        refine gr_I (k' := (z + 22)) (n' := (zn + 132)) (gk_S (As := [va_rf l1]) (rest := [.int (1 : Int32), .int (i181 / (40 : Int32))]) C dL_law_51 tw_1330 tw_1331 tw_24 tw_1332 gd_L_builds rfl ⟨by decide, by decide⟩ (by simp [gcat, gcI, gcL, gcF, gcD]) ⟨(by show z + 22 ≤ 649124; first | exact ar_f (z := z) hz rfl | omega), (by show zn + 132 ≤ 7146723; first | exact ar_f (z := zn) hzn rfl | omega)⟩ (m_L_builds hfl hf)) rfl rfl (fun E g9 h9 => h9.elim) (fun i183 g182 hf => ?_)
        refine gg_mmax C dL_law_54 tw_1361 tw_449 tw_44 tw_max (by decide) (by first | (simp [gcat, gcI, gcL, gcF, gcD]; done) | (simp [gcat, gcI, gcL, gcF, gcD]; decide)) (by show (z + 22) ≤ 649124; first | exact ar_f (z := z) hz rfl | omega) (by show (zn + 132) ≤ 7146723; first | exact ar_f (z := zn) hzn rfl | omega) ?_
        refine gg_irem C dL_law_57 hf.1 ?_
        replace hf := hf.2
        refine gg_istore (L' := [some (va_rf l0), some (va_rf l1), some (.int l2), some (.int l3), some (.int i181), some (.int (i181 / (40 : Int32))), some (.int (irem (i181 / (40 : Int32)) (if (1 : Int32) < i183 then i183 else (1 : Int32)))), none, none, none, none, none, none, none, none]) C dL_law_58 (Or.inr (Or.inr ⟨_, rfl, rfl⟩)) (by decide) rfl ?_
        refine gg_iload C dL_law_60 rfl ?_
        refine gg_iconst C dL_law_62 (v := (3 : Int32)) (by decide) ?_
        refine gg_idiv C dL_law_63 hf.1 ?_
        replace hf := hf.2
        refine gg_iconst C dL_law_64 (v := (1 : Int32)) (by decide) ?_
        refine gg_aload_n C dL_law_65 rfl ?_
        refine gr_I (k' := (z + 74)) (n' := (zn + 444)) (gk_S (As := [va_rf l1]) (rest := [.int (1 : Int32), .int ((i181 / (40 : Int32)) / (3 : Int32))]) C dL_law_66 tw_1333 tw_1334 tw_24 tw_1335 gd_L_devices rfl ⟨by decide, by decide⟩ (by simp [gcat, gcI, gcL, gcF, gcD]) ⟨(by show (z + 22) + 52 ≤ 649124; first | exact ar_f2 (z := z) hz rfl | omega), (by show (zn + 132) + 312 ≤ 7146723; first | exact ar_f2 (z := zn) hzn rfl | omega)⟩ (m_L_devices hfl hf)) (Nat.add_assoc z 22 52) (Nat.add_assoc zn 132 312) (fun E g9 h9 => h9.elim) (fun i185 g184 hf => ?_)
        refine gg_mmax C dL_law_69 tw_1361 tw_449 tw_44 tw_max (by decide) (by first | (simp [gcat, gcI, gcL, gcF, gcD]; done) | (simp [gcat, gcI, gcL, gcF, gcD]; decide)) (by show (z + 74) ≤ 649124; first | exact ar_f (z := z) hz rfl | omega) (by show (zn + 444) ≤ 7146723; first | exact ar_f (z := zn) hzn rfl | omega) ?_
        refine gg_irem C dL_law_72 hf.1 ?_
        replace hf := hf.2
        refine gg_istore (L' := [some (va_rf l0), some (va_rf l1), some (.int l2), some (.int l3), some (.int i181), some (.int (i181 / (40 : Int32))), some (.int (irem (i181 / (40 : Int32)) (if (1 : Int32) < i183 then i183 else (1 : Int32)))), some (.int (irem ((i181 / (40 : Int32)) / (3 : Int32)) (if (1 : Int32) < i185 then i185 else (1 : Int32)))), none, none, none, none, none, none, none]) C dL_law_73 (Or.inr (Or.inr ⟨_, rfl, rfl⟩)) (by decide) rfl ?_
        refine gg_iload_n C dL_law_75 rfl ?_
        refine gg_iconst C dL_law_76 (v := (2 : Int32)) (by decide) ?_
        refine gg_irem C dL_law_77 hf.1 ?_
        replace hf := hf.2
        refine gg_if_ne (tgt := 85) C dL_law_78 (by decide) hf (fun hf => ?_) (fun hf => ?_)
        · refine gg_iconst C dL_law_85 (v := (0 : Int32)) (by decide) ?_
          exact hb_86 (f * 4786 + 5117) (f * 39638 + 58104) (by first | exact Nat.le_add_left _ _ | omega) (by first | exact Nat.le_add_left _ _ | omega) _ (ih) (z + 74) (zn + 444) (by first | exact ar_f4 (z := z) hz rfl | omega) (by first | exact ar_f4 (z := zn) hzn rfl | omega) _ _ _ _ _ _ _ _ _ _ hf
        · refine gg_iconst C dL_law_81 (v := (1 : Int32)) (by decide) ?_
          refine gg_goto (tgt := 86) C dL_law_82 (by decide) ?_
          exact hb_86 (f * 4786 + 5117) (f * 39638 + 58104) (by first | exact Nat.le_add_left _ _ | omega) (by first | exact Nat.le_add_left _ _ | omega) _ (ih) (z + 74) (zn + 444) (by first | exact ar_f4 (z := z) hz rfl | omega) (by first | exact ar_f4 (z := zn) hzn rfl | omega) _ _ _ _ _ _ _ _ _ _ hf
  unfold w_L_law at hf
  refine gg_new (k' := (0 + 1)) (n' := (0 + 13)) C dL_law_0 nk_ReleasetrainLaw_8 (by show (0 + 1) ≤ 649124; omega) (by show (0 + 13) ≤ 7146723; omega) rfl rfl hf (fun q1 g2 hf => ?_)
  refine gg_dup C dL_law_3 (gcat _) ?_
  refine gr_V (k' := (0 + 11)) (n' := (0 + 173)) (gk_I (As := []) (rest := [va_rf (some q1)]) C dL_law_4 rfl tw_63 tw_64 tw_25 tw_65 gd_X7_init rfl ⟨by decide, by decide⟩ (by simp [gcat, gcI, gcL, gcF, gcD]) ⟨(by show (0 + 1) + 10 ≤ 649124; omega), (by show (0 + 13) + 160 ≤ 7146723; omega)⟩ (m_X7_init hfl hf)) (Nat.add_assoc 0 1 10) (Nat.add_assoc 0 13 160) (fun E g9 h9 => h9.elim) (fun g3 hf => ?_)
  refine gg_astore_n (L' := [some (va_rf (some (X.2.2.2 204))), some (va_rf (some q1)), none, none, none, none, none, none, none, none, none, none, none, none, none]) C dL_law_7 (Or.inr (Or.inr ⟨_, rfl, gcat _⟩)) (by decide) rfl ?_
  refine gg_aload_n C dL_law_8 rfl ?_
  refine gg_iconst C dL_law_9 (v := (0 : Int32)) (by decide) ?_
  refine gr_I (k' := (0 + 11)) (n' := (0 + 173)) (gk_S (As := [va_rf (some (X.2.2.2 204)), .int (0 : Int32)]) (rest := []) C dL_law_10 tw_193 tw_194 tw_24 tw_195 gd_L_at rfl ⟨by decide, by decide⟩ (by simp [gcat, gcI, gcL, gcF, gcD]) ⟨(by show (0 + 11) + 0 ≤ 649124; omega), (by show (0 + 173) + 0 ≤ 7146723; omega)⟩ (m_L_at hfl hf)) rfl rfl (fun E g9 h9 => h9.elim) (fun i5 g4 hf => ?_)
  refine gg_bipush C dL_law_13 (v := (58 : Int32)) (by decide) ?_
  refine gr_I (k' := (0 + 11)) (n' := (0 + 173)) (gk_S (As := [.int i5, .int (58 : Int32)]) (rest := []) C dL_law_15 tw_196 tw_197 tw_24 tw_198 gd_L_some rfl ⟨by decide, by decide⟩ (by simp [gcat, gcI, gcL, gcF, gcD]) ⟨(by show (0 + 11) + 0 ≤ 649124; omega), (by show (0 + 173) + 0 ≤ 7146723; omega)⟩ (m_L_some hfl hf)) rfl rfl (fun E g9 h9 => h9.elim) (fun i7 g6 hf => ?_)
  refine gg_istore_n (L' := [some (va_rf (some (X.2.2.2 204))), some (va_rf (some q1)), some (.int i7), none, none, none, none, none, none, none, none, none, none, none, none]) C dL_law_18 (Or.inr (Or.inr ⟨_, rfl, gcat _⟩)) (by decide) rfl ?_
  refine gg_iconst C dL_law_19 (v := (0 : Int32)) (by decide) ?_
  refine gg_istore_n (L' := [some (va_rf (some (X.2.2.2 204))), some (va_rf (some q1)), some (.int i7), some (.int (0 : Int32)), none, none, none, none, none, none, none, none, none, none, none]) C dL_law_20 (Or.inr (Or.inr ⟨_, rfl, rfl⟩)) (by decide) rfl ?_
  exact hb_21 58 (0 + 11) (0 + 173) (by omega) (by omega) _ _ _ _ _ hf
