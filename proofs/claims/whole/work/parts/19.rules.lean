/-! rules by role -/
section RR
variable {A : Ad} {σ : St} {i : Nat}
theorem eR_1_2 {K : Option Nat → Prop} (W : WF A σ) (hi : i < gL σ 1) : wGetR (hp A σ) (some (A.1 1 i)) 1 2 K = K (hr A 5 (gR σ 1 2 i)) := e_GetR 5 W hi rfl (by decide)
theorem eR_1_5 {K : Option Nat → Prop} (W : WF A σ) (hi : i < gL σ 1) : wGetR (hp A σ) (some (A.1 1 i)) 1 5 K = K (hr A 1 (gR σ 1 5 i)) := e_GetR 1 W hi rfl (by decide)
theorem eR_1_6 {K : Option Nat → Prop} (W : WF A σ) (hi : i < gL σ 1) : wGetR (hp A σ) (some (A.1 1 i)) 1 6 K = K (hr A 20 (gR σ 1 6 i)) := e_GetR 20 W hi rfl (by decide)
theorem eR_2_3 {K : Option Nat → Prop} (W : WF A σ) (hi : i < gL σ 2) : wGetR (hp A σ) (some (A.1 2 i)) 2 3 K = K (hr A 1 (gR σ 2 3 i)) := e_GetR 1 W hi rfl (by decide)
theorem eR_3_2 {K : Option Nat → Prop} (W : WF A σ) (hi : i < gL σ 3) : wGetR (hp A σ) (some (A.1 3 i)) 3 2 K = K (hr A 22 (gR σ 3 2 i)) := e_GetR 22 W hi rfl (by decide)
theorem eR_4_1 {K : Option Nat → Prop} (W : WF A σ) (hi : i < gL σ 4) : wGetR (hp A σ) (some (A.1 4 i)) 4 1 K = K (hr A 6 (gR σ 4 1 i)) := e_GetR 6 W hi rfl (by decide)
theorem eR_6_0 {K : Option Nat → Prop} (W : WF A σ) (hi : i < gL σ 6) : wGetR (hp A σ) (some (A.1 6 i)) 6 0 K = K (hr A 16 (gR σ 6 0 i)) := e_GetR 16 W hi rfl (by decide)
theorem eR_8_34 {K : Option Nat → Prop} (W : WF A σ) (hi : i < gL σ 8) : wGetR (hp A σ) (some (A.1 8 i)) 8 34 K = K (hr A 9 (gR σ 8 34 i)) := e_GetR 9 W hi rfl (by decide)
theorem eR_9_0 {K : Option Nat → Prop} (W : WF A σ) (hi : i < gL σ 9) : wGetR (hp A σ) (some (A.1 9 i)) 9 0 K = K (hr A 50 (gR σ 9 0 i)) := e_GetR 50 W hi rfl (by decide)
theorem eR_20_0 {K : Option Nat → Prop} (W : WF A σ) (hi : i < gL σ 20) : wGetR (hp A σ) (some (A.1 20 i)) 0 0 K = K (hr A 21 (gR σ 20 0 i)) := e_GetR 21 W hi rfl (by decide)
theorem eR_22_0 {K : Option Nat → Prop} (W : WF A σ) (hi : i < gL σ 22) : wGetR (hp A σ) (some (A.1 22 i)) 0 0 K = K (hr A 23 (gR σ 22 0 i)) := e_GetR 23 W hi rfl (by decide)
theorem sL_7 (P : P0 σ) : 0 < gL σ 7 := by rw [P.1.1]; decide
theorem sL_8 (P : P0 σ) : 0 < gL σ 8 := by rw [P.1.2.1]; decide
theorem sL_60 (P : P0 σ) : 0 < gL σ 60 := by rw [P.1.2.2.1]; decide
theorem sL_61 (P : P0 σ) : 0 < gL σ 61 := by rw [P.1.2.2.2.1]; decide
theorem sN_60 (P : P0 σ) : gN σ 60 0 = 1 := P.1.2.2.2.2.1
theorem sN_61 (P : P0 σ) : gN σ 61 0 = 1 := P.1.2.2.2.2.2
theorem s7_0 {K : Option Nat → Prop} (W : WF A σ) (P : P0 σ) : wGetR (hp A σ) (some (A.1 7 0)) 7 0 K = K (some (A.1 30 0)) := by rw [e_GetR 30 W (sL_7 P) rfl (by decide), P.2.1.1]; rfl
theorem s7_1 {K : Option Nat → Prop} (W : WF A σ) (P : P0 σ) : wGetR (hp A σ) (some (A.1 7 0)) 7 1 K = K (some (A.1 31 0)) := by rw [e_GetR 31 W (sL_7 P) rfl (by decide), P.2.1.2.1]; rfl
theorem s7_2 {K : Option Nat → Prop} (W : WF A σ) (P : P0 σ) : wGetR (hp A σ) (some (A.1 7 0)) 7 2 K = K (some (A.1 32 0)) := by rw [e_GetR 32 W (sL_7 P) rfl (by decide), P.2.1.2.2.1]; rfl
theorem s7_3 {K : Option Nat → Prop} (W : WF A σ) (P : P0 σ) : wGetR (hp A σ) (some (A.1 7 0)) 7 3 K = K (some (A.1 33 0)) := by rw [e_GetR 33 W (sL_7 P) rfl (by decide), P.2.1.2.2.2.1]; rfl
theorem s7_4 {K : Option Nat → Prop} (W : WF A σ) (P : P0 σ) : wGetR (hp A σ) (some (A.1 7 0)) 7 4 K = K (some (A.1 6 0)) := by rw [e_GetR 6 W (sL_7 P) rfl (by decide), P.2.1.2.2.2.2.1]; rfl
theorem s7_5 {K : Option Nat → Prop} (W : WF A σ) (P : P0 σ) : wGetR (hp A σ) (some (A.1 7 0)) 7 5 K = K (some (A.1 6 1)) := by rw [e_GetR 6 W (sL_7 P) rfl (by decide), P.2.1.2.2.2.2.2.1]; rfl
theorem s7_6 {K : Option Nat → Prop} (W : WF A σ) (P : P0 σ) : wGetR (hp A σ) (some (A.1 7 0)) 7 6 K = K (some (A.1 9 0)) := by rw [e_GetR 9 W (sL_7 P) rfl (by decide), P.2.1.2.2.2.2.2.2]; rfl
theorem sL_100 (P : P0 σ) : 0 < gL σ 100 := by rw [(P.2.2.1 0 rfl).1]; decide
theorem s8_0 {K : Option Nat → Prop} (W : WF A σ) (P : P0 σ) : wGetR (hp A σ) (some (A.1 8 0)) 8 0 K = K (some (A.1 100 0)) := by rw [e_GetR 100 W (sL_8 P) rfl (by decide), (P.2.2.1 0 rfl).2.1]; rfl
theorem sN_100 (P : P0 σ) : gN σ 100 0 = 12 := (P.2.2.1 0 rfl).2.2
theorem sL_101 (P : P0 σ) : 0 < gL σ 101 := by rw [(P.2.2.1 1 rfl).1]; decide
theorem s8_1 {K : Option Nat → Prop} (W : WF A σ) (P : P0 σ) : wGetR (hp A σ) (some (A.1 8 0)) 8 1 K = K (some (A.1 101 0)) := by rw [e_GetR 101 W (sL_8 P) rfl (by decide), (P.2.2.1 1 rfl).2.1]; rfl
theorem sN_101 (P : P0 σ) : gN σ 101 0 = 12 := (P.2.2.1 1 rfl).2.2
theorem sL_102 (P : P0 σ) : 0 < gL σ 102 := by rw [(P.2.2.1 2 rfl).1]; decide
theorem s8_2 {K : Option Nat → Prop} (W : WF A σ) (P : P0 σ) : wGetR (hp A σ) (some (A.1 8 0)) 8 2 K = K (some (A.1 102 0)) := by rw [e_GetR 102 W (sL_8 P) rfl (by decide), (P.2.2.1 2 rfl).2.1]; rfl
theorem sN_102 (P : P0 σ) : gN σ 102 0 = 12 := (P.2.2.1 2 rfl).2.2
theorem sL_103 (P : P0 σ) : 0 < gL σ 103 := by rw [(P.2.2.1 3 rfl).1]; decide
theorem s8_3 {K : Option Nat → Prop} (W : WF A σ) (P : P0 σ) : wGetR (hp A σ) (some (A.1 8 0)) 8 3 K = K (some (A.1 103 0)) := by rw [e_GetR 103 W (sL_8 P) rfl (by decide), (P.2.2.1 3 rfl).2.1]; rfl
theorem sN_103 (P : P0 σ) : gN σ 103 0 = 12 := (P.2.2.1 3 rfl).2.2
theorem sL_104 (P : P0 σ) : 0 < gL σ 104 := by rw [(P.2.2.1 4 rfl).1]; decide
theorem s8_4 {K : Option Nat → Prop} (W : WF A σ) (P : P0 σ) : wGetR (hp A σ) (some (A.1 8 0)) 8 4 K = K (some (A.1 104 0)) := by rw [e_GetR 104 W (sL_8 P) rfl (by decide), (P.2.2.1 4 rfl).2.1]; rfl
theorem sN_104 (P : P0 σ) : gN σ 104 0 = 12 := (P.2.2.1 4 rfl).2.2
theorem sL_105 (P : P0 σ) : 0 < gL σ 105 := by rw [(P.2.2.1 5 rfl).1]; decide
theorem s8_5 {K : Option Nat → Prop} (W : WF A σ) (P : P0 σ) : wGetR (hp A σ) (some (A.1 8 0)) 8 5 K = K (some (A.1 105 0)) := by rw [e_GetR 105 W (sL_8 P) rfl (by decide), (P.2.2.1 5 rfl).2.1]; rfl
theorem sN_105 (P : P0 σ) : gN σ 105 0 = 12 := (P.2.2.1 5 rfl).2.2
theorem sL_107 (P : P0 σ) : 0 < gL σ 107 := by rw [(P.2.2.1 7 rfl).1]; decide
theorem s8_7 {K : Option Nat → Prop} (W : WF A σ) (P : P0 σ) : wGetR (hp A σ) (some (A.1 8 0)) 8 7 K = K (some (A.1 107 0)) := by rw [e_GetR 107 W (sL_8 P) rfl (by decide), (P.2.2.1 7 rfl).2.1]; rfl
theorem sN_107 (P : P0 σ) : gN σ 107 0 = 10 := (P.2.2.1 7 rfl).2.2
theorem sL_108 (P : P0 σ) : 0 < gL σ 108 := by rw [(P.2.2.1 8 rfl).1]; decide
theorem s8_8 {K : Option Nat → Prop} (W : WF A σ) (P : P0 σ) : wGetR (hp A σ) (some (A.1 8 0)) 8 8 K = K (some (A.1 108 0)) := by rw [e_GetR 108 W (sL_8 P) rfl (by decide), (P.2.2.1 8 rfl).2.1]; rfl
theorem sN_108 (P : P0 σ) : gN σ 108 0 = 10 := (P.2.2.1 8 rfl).2.2
theorem sL_109 (P : P0 σ) : 0 < gL σ 109 := by rw [(P.2.2.1 9 rfl).1]; decide
theorem s8_9 {K : Option Nat → Prop} (W : WF A σ) (P : P0 σ) : wGetR (hp A σ) (some (A.1 8 0)) 8 9 K = K (some (A.1 109 0)) := by rw [e_GetR 109 W (sL_8 P) rfl (by decide), (P.2.2.1 9 rfl).2.1]; rfl
theorem sN_109 (P : P0 σ) : gN σ 109 0 = 10 := (P.2.2.1 9 rfl).2.2
theorem sL_110 (P : P0 σ) : 0 < gL σ 110 := by rw [(P.2.2.1 10 rfl).1]; decide
theorem s8_10 {K : Option Nat → Prop} (W : WF A σ) (P : P0 σ) : wGetR (hp A σ) (some (A.1 8 0)) 8 10 K = K (some (A.1 110 0)) := by rw [e_GetR 110 W (sL_8 P) rfl (by decide), (P.2.2.1 10 rfl).2.1]; rfl
theorem sN_110 (P : P0 σ) : gN σ 110 0 = 10 := (P.2.2.1 10 rfl).2.2
theorem sL_111 (P : P0 σ) : 0 < gL σ 111 := by rw [(P.2.2.1 11 rfl).1]; decide
theorem s8_11 {K : Option Nat → Prop} (W : WF A σ) (P : P0 σ) : wGetR (hp A σ) (some (A.1 8 0)) 8 11 K = K (some (A.1 111 0)) := by rw [e_GetR 111 W (sL_8 P) rfl (by decide), (P.2.2.1 11 rfl).2.1]; rfl
theorem sN_111 (P : P0 σ) : gN σ 111 0 = 10 := (P.2.2.1 11 rfl).2.2
theorem sL_112 (P : P0 σ) : 0 < gL σ 112 := by rw [(P.2.2.1 12 rfl).1]; decide
theorem s8_12 {K : Option Nat → Prop} (W : WF A σ) (P : P0 σ) : wGetR (hp A σ) (some (A.1 8 0)) 8 12 K = K (some (A.1 112 0)) := by rw [e_GetR 112 W (sL_8 P) rfl (by decide), (P.2.2.1 12 rfl).2.1]; rfl
theorem sN_112 (P : P0 σ) : gN σ 112 0 = 10 := (P.2.2.1 12 rfl).2.2
theorem sL_113 (P : P0 σ) : 0 < gL σ 113 := by rw [(P.2.2.1 13 rfl).1]; decide
theorem s8_13 {K : Option Nat → Prop} (W : WF A σ) (P : P0 σ) : wGetR (hp A σ) (some (A.1 8 0)) 8 13 K = K (some (A.1 113 0)) := by rw [e_GetR 113 W (sL_8 P) rfl (by decide), (P.2.2.1 13 rfl).2.1]; rfl
theorem sN_113 (P : P0 σ) : gN σ 113 0 = 10 := (P.2.2.1 13 rfl).2.2
theorem sL_114 (P : P0 σ) : 0 < gL σ 114 := by rw [(P.2.2.1 14 rfl).1]; decide
theorem s8_14 {K : Option Nat → Prop} (W : WF A σ) (P : P0 σ) : wGetR (hp A σ) (some (A.1 8 0)) 8 14 K = K (some (A.1 114 0)) := by rw [e_GetR 114 W (sL_8 P) rfl (by decide), (P.2.2.1 14 rfl).2.1]; rfl
theorem sN_114 (P : P0 σ) : gN σ 114 0 = 10 := (P.2.2.1 14 rfl).2.2
theorem sL_115 (P : P0 σ) : 0 < gL σ 115 := by rw [(P.2.2.1 15 rfl).1]; decide
theorem s8_15 {K : Option Nat → Prop} (W : WF A σ) (P : P0 σ) : wGetR (hp A σ) (some (A.1 8 0)) 8 15 K = K (some (A.1 115 0)) := by rw [e_GetR 115 W (sL_8 P) rfl (by decide), (P.2.2.1 15 rfl).2.1]; rfl
theorem sN_115 (P : P0 σ) : gN σ 115 0 = 10 := (P.2.2.1 15 rfl).2.2
theorem sL_116 (P : P0 σ) : 0 < gL σ 116 := by rw [(P.2.2.1 16 rfl).1]; decide
theorem s8_16 {K : Option Nat → Prop} (W : WF A σ) (P : P0 σ) : wGetR (hp A σ) (some (A.1 8 0)) 8 16 K = K (some (A.1 116 0)) := by rw [e_GetR 116 W (sL_8 P) rfl (by decide), (P.2.2.1 16 rfl).2.1]; rfl
theorem sN_116 (P : P0 σ) : gN σ 116 0 = 10 := (P.2.2.1 16 rfl).2.2
theorem sL_117 (P : P0 σ) : 0 < gL σ 117 := by rw [(P.2.2.1 17 rfl).1]; decide
theorem s8_17 {K : Option Nat → Prop} (W : WF A σ) (P : P0 σ) : wGetR (hp A σ) (some (A.1 8 0)) 8 17 K = K (some (A.1 117 0)) := by rw [e_GetR 117 W (sL_8 P) rfl (by decide), (P.2.2.1 17 rfl).2.1]; rfl
theorem sN_117 (P : P0 σ) : gN σ 117 0 = 10 := (P.2.2.1 17 rfl).2.2
theorem sL_118 (P : P0 σ) : 0 < gL σ 118 := by rw [(P.2.2.1 18 rfl).1]; decide
theorem s8_18 {K : Option Nat → Prop} (W : WF A σ) (P : P0 σ) : wGetR (hp A σ) (some (A.1 8 0)) 8 18 K = K (some (A.1 118 0)) := by rw [e_GetR 118 W (sL_8 P) rfl (by decide), (P.2.2.1 18 rfl).2.1]; rfl
theorem sN_118 (P : P0 σ) : gN σ 118 0 = 10 := (P.2.2.1 18 rfl).2.2
theorem sL_119 (P : P0 σ) : 0 < gL σ 119 := by rw [(P.2.2.1 19 rfl).1]; decide
theorem s8_19 {K : Option Nat → Prop} (W : WF A σ) (P : P0 σ) : wGetR (hp A σ) (some (A.1 8 0)) 8 19 K = K (some (A.1 119 0)) := by rw [e_GetR 119 W (sL_8 P) rfl (by decide), (P.2.2.1 19 rfl).2.1]; rfl
theorem sN_119 (P : P0 σ) : gN σ 119 0 = 10 := (P.2.2.1 19 rfl).2.2
theorem sL_120 (P : P0 σ) : 0 < gL σ 120 := by rw [(P.2.2.1 20 rfl).1]; decide
theorem s8_20 {K : Option Nat → Prop} (W : WF A σ) (P : P0 σ) : wGetR (hp A σ) (some (A.1 8 0)) 8 20 K = K (some (A.1 120 0)) := by rw [e_GetR 120 W (sL_8 P) rfl (by decide), (P.2.2.1 20 rfl).2.1]; rfl
theorem sN_120 (P : P0 σ) : gN σ 120 0 = 10 := (P.2.2.1 20 rfl).2.2
theorem sL_127 (P : P0 σ) : 0 < gL σ 127 := by rw [(P.2.2.1 27 rfl).1]; decide
theorem s8_27 {K : Option Nat → Prop} (W : WF A σ) (P : P0 σ) : wGetR (hp A σ) (some (A.1 8 0)) 8 27 K = K (some (A.1 127 0)) := by rw [e_GetR 127 W (sL_8 P) rfl (by decide), (P.2.2.1 27 rfl).2.1]; rfl
theorem sN_127 (P : P0 σ) : gN σ 127 0 = 30 := (P.2.2.1 27 rfl).2.2
theorem sL_128 (P : P0 σ) : 0 < gL σ 128 := by rw [(P.2.2.1 28 rfl).1]; decide
theorem s8_28 {K : Option Nat → Prop} (W : WF A σ) (P : P0 σ) : wGetR (hp A σ) (some (A.1 8 0)) 8 28 K = K (some (A.1 128 0)) := by rw [e_GetR 128 W (sL_8 P) rfl (by decide), (P.2.2.1 28 rfl).2.1]; rfl
theorem sN_128 (P : P0 σ) : gN σ 128 0 = 30 := (P.2.2.1 28 rfl).2.2
theorem sL_129 (P : P0 σ) : 0 < gL σ 129 := by rw [(P.2.2.1 29 rfl).1]; decide
theorem s8_29 {K : Option Nat → Prop} (W : WF A σ) (P : P0 σ) : wGetR (hp A σ) (some (A.1 8 0)) 8 29 K = K (some (A.1 129 0)) := by rw [e_GetR 129 W (sL_8 P) rfl (by decide), (P.2.2.1 29 rfl).2.1]; rfl
theorem sN_129 (P : P0 σ) : gN σ 129 0 = 30 := (P.2.2.1 29 rfl).2.2
theorem sL_130 (P : P0 σ) : 0 < gL σ 130 := by rw [(P.2.2.1 30 rfl).1]; decide
theorem s8_30 {K : Option Nat → Prop} (W : WF A σ) (P : P0 σ) : wGetR (hp A σ) (some (A.1 8 0)) 8 30 K = K (some (A.1 130 0)) := by rw [e_GetR 130 W (sL_8 P) rfl (by decide), (P.2.2.1 30 rfl).2.1]; rfl
theorem sN_130 (P : P0 σ) : gN σ 130 0 = 30 := (P.2.2.1 30 rfl).2.2
theorem sL_132 (P : P0 σ) : 0 < gL σ 132 := by rw [(P.2.2.1 32 rfl).1]; decide
theorem s8_32 {K : Option Nat → Prop} (W : WF A σ) (P : P0 σ) : wGetR (hp A σ) (some (A.1 8 0)) 8 32 K = K (some (A.1 132 0)) := by rw [e_GetR 132 W (sL_8 P) rfl (by decide), (P.2.2.1 32 rfl).2.1]; rfl
theorem sN_132 (P : P0 σ) : gN σ 132 0 = 6 := (P.2.2.1 32 rfl).2.2
theorem P0_sV {k f : Nat} {x : Int32} : P0 (sV σ k f i x) = P0 σ := Eq.trans rfl rfl
theorem P0_sJ {x : Int64} : P0 (sJ σ x) = P0 σ := Eq.trans rfl rfl
theorem P0_sD {x : UInt64} : P0 (sD σ x) = P0 σ := Eq.trans rfl rfl
theorem hcl_1 : hcl 1 1 = true := Eq.trans rfl rfl
theorem hok_1_0 : hok 1 1 0 0 = true := Eq.trans rfl rfl
theorem hok_1_1 : hok 1 1 1 0 = true := Eq.trans rfl rfl
theorem hok_1_2 : hok 1 1 2 7 = true := Eq.trans rfl rfl
theorem hok_1_3 : hok 1 1 3 0 = true := Eq.trans rfl rfl
theorem hok_1_4 : hok 1 1 4 0 = true := Eq.trans rfl rfl
theorem hok_1_5 : hok 1 1 5 3 = true := Eq.trans rfl rfl
theorem hok_1_6 : hok 1 1 6 22 = true := Eq.trans rfl rfl
theorem hok_1_7 : hok 1 1 7 0 = true := Eq.trans rfl rfl
theorem hok_1_8 : hok 1 1 8 0 = true := Eq.trans rfl rfl
theorem hok_1_9 : hok 1 1 9 0 = true := Eq.trans rfl rfl
theorem hok_1_10 : hok 1 1 10 0 = true := Eq.trans rfl rfl
theorem hok_1_11 : hok 1 1 11 0 = true := Eq.trans rfl rfl
theorem hok_1_12 : hok 1 1 12 0 = true := Eq.trans rfl rfl
theorem hok_1_13 : hok 1 1 13 0 = true := Eq.trans rfl rfl
theorem hok_1_14 : hok 1 1 14 0 = true := Eq.trans rfl rfl
theorem hok_1_15 : hok 1 1 15 0 = true := Eq.trans rfl rfl
theorem hcl_2 : hcl 2 2 = true := Eq.trans rfl rfl
theorem hok_2_0 : hok 2 2 0 0 = true := Eq.trans rfl rfl
theorem hok_2_1 : hok 2 2 1 0 = true := Eq.trans rfl rfl
theorem hok_2_2 : hok 2 2 2 0 = true := Eq.trans rfl rfl
theorem hok_2_3 : hok 2 2 3 3 = true := Eq.trans rfl rfl
theorem hok_2_4 : hok 2 2 4 0 = true := Eq.trans rfl rfl
theorem hok_2_5 : hok 2 2 5 0 = true := Eq.trans rfl rfl
theorem hcl_3 : hcl 3 3 = true := Eq.trans rfl rfl
theorem hok_3_0 : hok 3 3 0 0 = true := Eq.trans rfl rfl
theorem hok_3_1 : hok 3 3 1 0 = true := Eq.trans rfl rfl
theorem hok_3_2 : hok 3 3 2 24 = true := Eq.trans rfl rfl
theorem hcl_4 : hcl 4 4 = true := Eq.trans rfl rfl
theorem hok_4_0 : hok 4 4 0 0 = true := Eq.trans rfl rfl
theorem hok_4_1 : hok 4 4 1 8 = true := Eq.trans rfl rfl
theorem hok_4_2 : hok 4 4 2 0 = true := Eq.trans rfl rfl
theorem hok_4_3 : hok 4 4 3 0 = true := Eq.trans rfl rfl
theorem hcl_5 : hcl 5 5 = true := Eq.trans rfl rfl
theorem hok_5_0 : hok 5 5 0 0 = true := Eq.trans rfl rfl
theorem hok_5_1 : hok 5 5 1 0 = true := Eq.trans rfl rfl
theorem hok_5_2 : hok 5 5 2 0 = true := Eq.trans rfl rfl
theorem hcl_6 : hcl 6 6 = true := Eq.trans rfl rfl
theorem hok_6_0 : hok 6 6 0 18 = true := Eq.trans rfl rfl
theorem hok_6_1 : hok 6 6 1 0 = true := Eq.trans rfl rfl
theorem hcl_7 : hcl 7 7 = true := Eq.trans rfl rfl
theorem hok_7_0 : hok 7 7 0 32 = true := Eq.trans rfl rfl
theorem hok_7_1 : hok 7 7 1 33 = true := Eq.trans rfl rfl
theorem hok_7_2 : hok 7 7 2 34 = true := Eq.trans rfl rfl
theorem hok_7_3 : hok 7 7 3 35 = true := Eq.trans rfl rfl
theorem hok_7_4 : hok 7 7 4 8 = true := Eq.trans rfl rfl
theorem hok_7_5 : hok 7 7 5 8 = true := Eq.trans rfl rfl
theorem hok_7_6 : hok 7 7 6 11 = true := Eq.trans rfl rfl
theorem hok_7_7 : hok 7 7 7 0 = true := Eq.trans rfl rfl
theorem hok_7_8 : hok 7 7 8 0 = true := Eq.trans rfl rfl
theorem hok_7_9 : hok 7 7 9 0 = true := Eq.trans rfl rfl
theorem hok_7_10 : hok 7 7 10 1 = true := Eq.trans rfl rfl
theorem hok_7_11 : hok 7 7 11 1 = true := Eq.trans rfl rfl
theorem hok_7_12 : hok 7 7 12 0 = true := Eq.trans rfl rfl
theorem hcl_8 : hcl 8 8 = true := Eq.trans rfl rfl
theorem hok_8_0 : hok 8 8 0 102 = true := Eq.trans rfl rfl
theorem hok_8_1 : hok 8 8 1 103 = true := Eq.trans rfl rfl
theorem hok_8_2 : hok 8 8 2 104 = true := Eq.trans rfl rfl
theorem hok_8_3 : hok 8 8 3 105 = true := Eq.trans rfl rfl
theorem hok_8_4 : hok 8 8 4 106 = true := Eq.trans rfl rfl
theorem hok_8_5 : hok 8 8 5 107 = true := Eq.trans rfl rfl
theorem hok_8_6 : hok 8 8 6 0 = true := Eq.trans rfl rfl
theorem hok_8_7 : hok 8 8 7 109 = true := Eq.trans rfl rfl
theorem hok_8_8 : hok 8 8 8 110 = true := Eq.trans rfl rfl
theorem hok_8_9 : hok 8 8 9 111 = true := Eq.trans rfl rfl
theorem hok_8_10 : hok 8 8 10 112 = true := Eq.trans rfl rfl
theorem hok_8_11 : hok 8 8 11 113 = true := Eq.trans rfl rfl
theorem hok_8_12 : hok 8 8 12 114 = true := Eq.trans rfl rfl
theorem hok_8_13 : hok 8 8 13 115 = true := Eq.trans rfl rfl
theorem hok_8_14 : hok 8 8 14 116 = true := Eq.trans rfl rfl
theorem hok_8_15 : hok 8 8 15 117 = true := Eq.trans rfl rfl
theorem hok_8_16 : hok 8 8 16 118 = true := Eq.trans rfl rfl
theorem hok_8_17 : hok 8 8 17 119 = true := Eq.trans rfl rfl
theorem hok_8_18 : hok 8 8 18 120 = true := Eq.trans rfl rfl
theorem hok_8_19 : hok 8 8 19 121 = true := Eq.trans rfl rfl
theorem hok_8_20 : hok 8 8 20 122 = true := Eq.trans rfl rfl
theorem hok_8_21 : hok 8 8 21 0 = true := Eq.trans rfl rfl
theorem hok_8_22 : hok 8 8 22 0 = true := Eq.trans rfl rfl
theorem hok_8_23 : hok 8 8 23 0 = true := Eq.trans rfl rfl
theorem hok_8_24 : hok 8 8 24 0 = true := Eq.trans rfl rfl
theorem hok_8_25 : hok 8 8 25 1 = true := Eq.trans rfl rfl
theorem hok_8_26 : hok 8 8 26 1 = true := Eq.trans rfl rfl
theorem hok_8_27 : hok 8 8 27 129 = true := Eq.trans rfl rfl
theorem hok_8_28 : hok 8 8 28 130 = true := Eq.trans rfl rfl
theorem hok_8_29 : hok 8 8 29 131 = true := Eq.trans rfl rfl
theorem hok_8_30 : hok 8 8 30 132 = true := Eq.trans rfl rfl
theorem hok_8_31 : hok 8 8 31 0 = true := Eq.trans rfl rfl
theorem hok_8_32 : hok 8 8 32 134 = true := Eq.trans rfl rfl
theorem hok_8_33 : hok 8 8 33 0 = true := Eq.trans rfl rfl
theorem hok_8_34 : hok 8 8 34 11 = true := Eq.trans rfl rfl
theorem hok_8_35 : hok 8 8 35 0 = true := Eq.trans rfl rfl
theorem hok_8_36 : hok 8 8 36 0 = true := Eq.trans rfl rfl
theorem hcl_9 : hcl 9 9 = true := Eq.trans rfl rfl
theorem hok_9_0 : hok 9 9 0 52 = true := Eq.trans rfl rfl
theorem hok_9_1 : hok 9 9 1 0 = true := Eq.trans rfl rfl
theorem hok_9_2 : hok 9 9 2 0 = true := Eq.trans rfl rfl
theorem hok_9_3 : hok 9 9 3 0 = true := Eq.trans rfl rfl
theorem hcl_20 : hcl 20 0 = true := Eq.trans rfl rfl
theorem hok_20_0 : hok 20 0 0 23 = true := Eq.trans rfl rfl
theorem hok_20_1 : hok 20 0 1 0 = true := Eq.trans rfl rfl
theorem hcl_22 : hcl 22 0 = true := Eq.trans rfl rfl
theorem hok_22_0 : hok 22 0 0 25 = true := Eq.trans rfl rfl
theorem hok_22_1 : hok 22 0 1 0 = true := Eq.trans rfl rfl
theorem hcl_30 : hcl 30 10 = true := Eq.trans rfl rfl
theorem hok_30_0 : hok 30 10 0 0 = true := Eq.trans rfl rfl
theorem hok_30_1 : hok 30 10 1 1040 = true := Eq.trans rfl rfl
theorem hok_30_2 : hok 30 10 2 0 = true := Eq.trans rfl rfl
theorem hcl_31 : hcl 31 10 = true := Eq.trans rfl rfl
theorem hok_31_0 : hok 31 10 0 0 = true := Eq.trans rfl rfl
theorem hok_31_1 : hok 31 10 1 1041 = true := Eq.trans rfl rfl
theorem hok_31_2 : hok 31 10 2 0 = true := Eq.trans rfl rfl
theorem hcl_32 : hcl 32 10 = true := Eq.trans rfl rfl
theorem hok_32_0 : hok 32 10 0 0 = true := Eq.trans rfl rfl
theorem hok_32_1 : hok 32 10 1 1042 = true := Eq.trans rfl rfl
theorem hok_32_2 : hok 32 10 2 0 = true := Eq.trans rfl rfl
theorem hcl_33 : hcl 33 10 = true := Eq.trans rfl rfl
theorem hok_33_0 : hok 33 10 0 0 = true := Eq.trans rfl rfl
theorem hok_33_1 : hok 33 10 1 1043 = true := Eq.trans rfl rfl
theorem hok_33_2 : hok 33 10 2 0 = true := Eq.trans rfl rfl
theorem hak_16 : hak 16 1 = true := Eq.trans rfl rfl
theorem hak_21 : hak 21 0 = true := Eq.trans rfl rfl
theorem hak_23 : hak 23 0 = true := Eq.trans rfl rfl
theorem hak_40 : hak 40 4 = true := Eq.trans rfl rfl
theorem hak_41 : hak 41 4 = true := Eq.trans rfl rfl
theorem hak_42 : hak 42 4 = true := Eq.trans rfl rfl
theorem hak_43 : hak 43 4 = true := Eq.trans rfl rfl
theorem hak_50 : hak 50 2 = true := Eq.trans rfl rfl
theorem hak_60 : hak 60 7 = true := Eq.trans rfl rfl
theorem hak_61 : hak 61 8 = true := Eq.trans rfl rfl
theorem hak_205 : hak 205 0 = true := Eq.trans rfl rfl
theorem hak_227 : hak 227 1 = true := Eq.trans rfl rfl
theorem hak_100 : hak 100 0 = true := Eq.trans rfl rfl
theorem hak_101 : hak 101 0 = true := Eq.trans rfl rfl
theorem hak_102 : hak 102 0 = true := Eq.trans rfl rfl
theorem hak_103 : hak 103 0 = true := Eq.trans rfl rfl
theorem hak_104 : hak 104 0 = true := Eq.trans rfl rfl
theorem hak_105 : hak 105 5 = true := Eq.trans rfl rfl
theorem hak_107 : hak 107 0 = true := Eq.trans rfl rfl
theorem hak_108 : hak 108 0 = true := Eq.trans rfl rfl
theorem hak_109 : hak 109 0 = true := Eq.trans rfl rfl
theorem hak_110 : hak 110 0 = true := Eq.trans rfl rfl
theorem hak_111 : hak 111 0 = true := Eq.trans rfl rfl
theorem hak_112 : hak 112 0 = true := Eq.trans rfl rfl
theorem hak_113 : hak 113 0 = true := Eq.trans rfl rfl
theorem hak_114 : hak 114 1 = true := Eq.trans rfl rfl
theorem hak_115 : hak 115 0 = true := Eq.trans rfl rfl
theorem hak_116 : hak 116 3 = true := Eq.trans rfl rfl
theorem hak_117 : hak 117 0 = true := Eq.trans rfl rfl
theorem hak_118 : hak 118 0 = true := Eq.trans rfl rfl
theorem hak_119 : hak 119 0 = true := Eq.trans rfl rfl
theorem hak_120 : hak 120 0 = true := Eq.trans rfl rfl
theorem hak_127 : hak 127 6 = true := Eq.trans rfl rfl
theorem hak_128 : hak 128 0 = true := Eq.trans rfl rfl
theorem hak_129 : hak 129 0 = true := Eq.trans rfl rfl
theorem hak_130 : hak 130 0 = true := Eq.trans rfl rfl
theorem hak_132 : hak 132 1 = true := Eq.trans rfl rfl
theorem eL_16 {X : Cx} {K : Int32 → Prop} (hx : hX X A) (W : WF A σ) (hi : i < gL σ 16) : wLen X (hp A σ) (some (A.1 16 i)) K = K (nI (gN σ 16 i)) := e_Len (a := 1) hx W hi rfl (by decide)
theorem eL_21 {X : Cx} {K : Int32 → Prop} (hx : hX X A) (W : WF A σ) (hi : i < gL σ 21) : wLen X (hp A σ) (some (A.1 21 i)) K = K (nI (gN σ 21 i)) := e_Len (a := 0) hx W hi rfl (by decide)
theorem eL_23 {X : Cx} {K : Int32 → Prop} (hx : hX X A) (W : WF A σ) (hi : i < gL σ 23) : wLen X (hp A σ) (some (A.1 23 i)) K = K (nI (gN σ 23 i)) := e_Len (a := 0) hx W hi rfl (by decide)
theorem eL_50 {X : Cx} {K : Int32 → Prop} (hx : hX X A) (W : WF A σ) (hi : i < gL σ 50) : wLen X (hp A σ) (some (A.1 50 i)) K = K (nI (gN σ 50 i)) := e_Len (a := 2) hx W hi rfl (by decide)
end RR
