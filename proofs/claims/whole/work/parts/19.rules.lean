/-! rules by role -/
section RR
variable {A : Ad} {σ : St} {i : Nat}
theorem eR_1_2 {K : Option Nat → Prop} (W : WF A σ) (hi : i < gL σ 1) : wGetR (hp A σ) (some (A.1 1 i)) 1 2 K = K (hr A 5 (gR σ 1 2 i)) := e_GetR 5 W hi rfl (by decide)
theorem eR_1_5 {K : Option Nat → Prop} (W : WF A σ) (hi : i < gL σ 1) : wGetR (hp A σ) (some (A.1 1 i)) 1 5 K = K (hr A 1 (gR σ 1 5 i)) := e_GetR 1 W hi rfl (by decide)
theorem eR_1_6 {K : Option Nat → Prop} (W : WF A σ) (hi : i < gL σ 1) : wGetR (hp A σ) (some (A.1 1 i)) 1 6 K = K (hr A 20 (gR σ 1 6 i)) := e_GetR 20 W hi rfl (by decide)
theorem eR_2_3 {K : Option Nat → Prop} (W : WF A σ) (hi : i < gL σ 2) : wGetR (hp A σ) (some (A.1 2 i)) 2 3 K = K (hr A 1 (gR σ 2 3 i)) := e_GetR 1 W hi rfl (by decide)
theorem eR_3_2 {K : Option Nat → Prop} (W : WF A σ) (hi : i < gL σ 3) : wGetR (hp A σ) (some (A.1 3 i)) 3 2 K = K (hr A 22 (gR σ 3 2 i)) := e_GetR 22 W hi rfl (by decide)
theorem eR_4_1 {K : Option Nat → Prop} (W : WF A σ) (hi : i < gL σ 4) : wGetR (hp A σ) (some (A.1 4 i)) 4 1 K = K (hr A 6 (gR σ 4 1 i)) := e_GetR 6 W hi rfl (by decide)
theorem eR_6_0 {K : Option Nat → Prop} (W : WF A σ) (hi : i < gL σ 6) : wGetR (hp A σ) (some (A.1 6 i)) 6 0 K = K (hr A 16 (gR σ 6 0 i)) := e_GetR 16 W hi rfl (by decide)
theorem eR_9_0 {K : Option Nat → Prop} (W : WF A σ) (hi : i < gL σ 9) : wGetR (hp A σ) (some (A.1 9 i)) 9 0 K = K (hr A 50 (gR σ 9 0 i)) := e_GetR 50 W hi rfl (by decide)
theorem eR_20_0 {K : Option Nat → Prop} (W : WF A σ) (hi : i < gL σ 20) : wGetR (hp A σ) (some (A.1 20 i)) 0 0 K = K (hr A 21 (gR σ 20 0 i)) := e_GetR 21 W hi rfl (by decide)
theorem eR_22_0 {K : Option Nat → Prop} (W : WF A σ) (hi : i < gL σ 22) : wGetR (hp A σ) (some (A.1 22 i)) 0 0 K = K (hr A 23 (gR σ 22 0 i)) := e_GetR 23 W hi rfl (by decide)
theorem sL_7 (P : P0 σ) : 0 < gL σ 7 := by rw [P.1.1]; decide
theorem sL_8 (P : P0 σ) : 0 < gL σ 8 := by rw [P.1.2.1]; decide
theorem sL_60 (P : P0 σ) : 0 < gL σ 60 := by rw [P.1.2.2.1]; decide
theorem sL_61 (P : P0 σ) : 0 < gL σ 61 := by rw [P.1.2.2.2.1]; decide
theorem sN_60 (P : P0 σ) : gN σ 60 0 = 1 := P.1.2.2.2.2.1
theorem sN_61 (P : P0 σ) : gN σ 61 0 = 1 := P.1.2.2.2.2.2
theorem s7_0 {K : Option Nat → Prop} (W : WF A σ) (P : P0 σ) : wGetR (hp A σ) (some (A.1 7 0)) 7 0 K = K (some (A.1 30 0)) := by rw [e_GetR 30 W (sL_7 P) rfl (by decide), P.2.1.1]; rfl
theorem s7_1 {K : Option Nat → Prop} (W : WF A σ) (P : P0 σ) : wGetR (hp A σ) (some (A.1 7 0)) 7 1 K = K (some (A.1 31 0)) := by rw [e_GetR 31 W (sL_7 P) rfl (by decide), P.2.1.2.1]; rfl
theorem s7_2 {K : Option Nat → Prop} (W : WF A σ) (P : P0 σ) : wGetR (hp A σ) (some (A.1 7 0)) 7 2 K = K (some (A.1 32 0)) := by rw [e_GetR 32 W (sL_7 P) rfl (by decide), P.2.1.2.2.1]; rfl
theorem s7_3 {K : Option Nat → Prop} (W : WF A σ) (P : P0 σ) : wGetR (hp A σ) (some (A.1 7 0)) 7 3 K = K (some (A.1 33 0)) := by rw [e_GetR 33 W (sL_7 P) rfl (by decide), P.2.1.2.2.2.1]; rfl
theorem s7_4 {K : Option Nat → Prop} (W : WF A σ) (P : P0 σ) : wGetR (hp A σ) (some (A.1 7 0)) 7 4 K = K (some (A.1 6 0)) := by rw [e_GetR 6 W (sL_7 P) rfl (by decide), P.2.1.2.2.2.2.1]; rfl
theorem s7_5 {K : Option Nat → Prop} (W : WF A σ) (P : P0 σ) : wGetR (hp A σ) (some (A.1 7 0)) 7 5 K = K (some (A.1 6 1)) := by rw [e_GetR 6 W (sL_7 P) rfl (by decide), P.2.1.2.2.2.2.2.1]; rfl
theorem s7_6 {K : Option Nat → Prop} (W : WF A σ) (P : P0 σ) : wGetR (hp A σ) (some (A.1 7 0)) 7 6 K = K (some (A.1 9 0)) := by rw [e_GetR 9 W (sL_7 P) rfl (by decide), P.2.1.2.2.2.2.2.2]; rfl
theorem sL_100 (P : P0 σ) : 0 < gL σ 100 := by rw [(P.2.2.1 0 rfl).1]; decide
theorem s8_0 {K : Option Nat → Prop} (W : WF A σ) (P : P0 σ) : wGetR (hp A σ) (some (A.1 8 0)) 8 0 K = K (some (A.1 100 0)) := by rw [e_GetR 100 W (sL_8 P) rfl (by decide), (P.2.2.1 0 rfl).2.1]; rfl
theorem sN_100 (P : P0 σ) : gN σ 100 0 = 12 := (P.2.2.1 0 rfl).2.2
theorem sL_101 (P : P0 σ) : 0 < gL σ 101 := by rw [(P.2.2.1 1 rfl).1]; decide
theorem s8_1 {K : Option Nat → Prop} (W : WF A σ) (P : P0 σ) : wGetR (hp A σ) (some (A.1 8 0)) 8 1 K = K (some (A.1 101 0)) := by rw [e_GetR 101 W (sL_8 P) rfl (by decide), (P.2.2.1 1 rfl).2.1]; rfl
theorem sN_101 (P : P0 σ) : gN σ 101 0 = 12 := (P.2.2.1 1 rfl).2.2
theorem sL_102 (P : P0 σ) : 0 < gL σ 102 := by rw [(P.2.2.1 2 rfl).1]; decide
theorem s8_2 {K : Option Nat → Prop} (W : WF A σ) (P : P0 σ) : wGetR (hp A σ) (some (A.1 8 0)) 8 2 K = K (some (A.1 102 0)) := by rw [e_GetR 102 W (sL_8 P) rfl (by decide), (P.2.2.1 2 rfl).2.1]; rfl
theorem sN_102 (P : P0 σ) : gN σ 102 0 = 12 := (P.2.2.1 2 rfl).2.2
theorem sL_103 (P : P0 σ) : 0 < gL σ 103 := by rw [(P.2.2.1 3 rfl).1]; decide
theorem s8_3 {K : Option Nat → Prop} (W : WF A σ) (P : P0 σ) : wGetR (hp A σ) (some (A.1 8 0)) 8 3 K = K (some (A.1 103 0)) := by rw [e_GetR 103 W (sL_8 P) rfl (by decide), (P.2.2.1 3 rfl).2.1]; rfl
theorem sN_103 (P : P0 σ) : gN σ 103 0 = 12 := (P.2.2.1 3 rfl).2.2
theorem sL_104 (P : P0 σ) : 0 < gL σ 104 := by rw [(P.2.2.1 4 rfl).1]; decide
theorem s8_4 {K : Option Nat → Prop} (W : WF A σ) (P : P0 σ) : wGetR (hp A σ) (some (A.1 8 0)) 8 4 K = K (some (A.1 104 0)) := by rw [e_GetR 104 W (sL_8 P) rfl (by decide), (P.2.2.1 4 rfl).2.1]; rfl
theorem sN_104 (P : P0 σ) : gN σ 104 0 = 12 := (P.2.2.1 4 rfl).2.2
theorem sL_105 (P : P0 σ) : 0 < gL σ 105 := by rw [(P.2.2.1 5 rfl).1]; decide
theorem s8_5 {K : Option Nat → Prop} (W : WF A σ) (P : P0 σ) : wGetR (hp A σ) (some (A.1 8 0)) 8 5 K = K (some (A.1 105 0)) := by rw [e_GetR 105 W (sL_8 P) rfl (by decide), (P.2.2.1 5 rfl).2.1]; rfl
theorem sN_105 (P : P0 σ) : gN σ 105 0 = 12 := (P.2.2.1 5 rfl).2.2
theorem sL_107 (P : P0 σ) : 0 < gL σ 107 := by rw [(P.2.2.1 7 rfl).1]; decide
theorem s8_7 {K : Option Nat → Prop} (W : WF A σ) (P : P0 σ) : wGetR (hp A σ) (some (A.1 8 0)) 8 7 K = K (some (A.1 107 0)) := by rw [e_GetR 107 W (sL_8 P) rfl (by decide), (P.2.2.1 7 rfl).2.1]; rfl
theorem sN_107 (P : P0 σ) : gN σ 107 0 = 10 := (P.2.2.1 7 rfl).2.2
theorem sL_108 (P : P0 σ) : 0 < gL σ 108 := by rw [(P.2.2.1 8 rfl).1]; decide
theorem s8_8 {K : Option Nat → Prop} (W : WF A σ) (P : P0 σ) : wGetR (hp A σ) (some (A.1 8 0)) 8 8 K = K (some (A.1 108 0)) := by rw [e_GetR 108 W (sL_8 P) rfl (by decide), (P.2.2.1 8 rfl).2.1]; rfl
theorem sN_108 (P : P0 σ) : gN σ 108 0 = 10 := (P.2.2.1 8 rfl).2.2
theorem sL_109 (P : P0 σ) : 0 < gL σ 109 := by rw [(P.2.2.1 9 rfl).1]; decide
theorem s8_9 {K : Option Nat → Prop} (W : WF A σ) (P : P0 σ) : wGetR (hp A σ) (some (A.1 8 0)) 8 9 K = K (some (A.1 109 0)) := by rw [e_GetR 109 W (sL_8 P) rfl (by decide), (P.2.2.1 9 rfl).2.1]; rfl
theorem sN_109 (P : P0 σ) : gN σ 109 0 = 10 := (P.2.2.1 9 rfl).2.2
theorem sL_110 (P : P0 σ) : 0 < gL σ 110 := by rw [(P.2.2.1 10 rfl).1]; decide
theorem s8_10 {K : Option Nat → Prop} (W : WF A σ) (P : P0 σ) : wGetR (hp A σ) (some (A.1 8 0)) 8 10 K = K (some (A.1 110 0)) := by rw [e_GetR 110 W (sL_8 P) rfl (by decide), (P.2.2.1 10 rfl).2.1]; rfl
theorem sN_110 (P : P0 σ) : gN σ 110 0 = 10 := (P.2.2.1 10 rfl).2.2
theorem sL_111 (P : P0 σ) : 0 < gL σ 111 := by rw [(P.2.2.1 11 rfl).1]; decide
theorem s8_11 {K : Option Nat → Prop} (W : WF A σ) (P : P0 σ) : wGetR (hp A σ) (some (A.1 8 0)) 8 11 K = K (some (A.1 111 0)) := by rw [e_GetR 111 W (sL_8 P) rfl (by decide), (P.2.2.1 11 rfl).2.1]; rfl
theorem sN_111 (P : P0 σ) : gN σ 111 0 = 10 := (P.2.2.1 11 rfl).2.2
theorem sL_112 (P : P0 σ) : 0 < gL σ 112 := by rw [(P.2.2.1 12 rfl).1]; decide
theorem s8_12 {K : Option Nat → Prop} (W : WF A σ) (P : P0 σ) : wGetR (hp A σ) (some (A.1 8 0)) 8 12 K = K (some (A.1 112 0)) := by rw [e_GetR 112 W (sL_8 P) rfl (by decide), (P.2.2.1 12 rfl).2.1]; rfl
theorem sN_112 (P : P0 σ) : gN σ 112 0 = 10 := (P.2.2.1 12 rfl).2.2
theorem sL_113 (P : P0 σ) : 0 < gL σ 113 := by rw [(P.2.2.1 13 rfl).1]; decide
theorem s8_13 {K : Option Nat → Prop} (W : WF A σ) (P : P0 σ) : wGetR (hp A σ) (some (A.1 8 0)) 8 13 K = K (some (A.1 113 0)) := by rw [e_GetR 113 W (sL_8 P) rfl (by decide), (P.2.2.1 13 rfl).2.1]; rfl
theorem sN_113 (P : P0 σ) : gN σ 113 0 = 10 := (P.2.2.1 13 rfl).2.2
theorem sL_114 (P : P0 σ) : 0 < gL σ 114 := by rw [(P.2.2.1 14 rfl).1]; decide
theorem s8_14 {K : Option Nat → Prop} (W : WF A σ) (P : P0 σ) : wGetR (hp A σ) (some (A.1 8 0)) 8 14 K = K (some (A.1 114 0)) := by rw [e_GetR 114 W (sL_8 P) rfl (by decide), (P.2.2.1 14 rfl).2.1]; rfl
theorem sN_114 (P : P0 σ) : gN σ 114 0 = 10 := (P.2.2.1 14 rfl).2.2
theorem sL_115 (P : P0 σ) : 0 < gL σ 115 := by rw [(P.2.2.1 15 rfl).1]; decide
theorem s8_15 {K : Option Nat → Prop} (W : WF A σ) (P : P0 σ) : wGetR (hp A σ) (some (A.1 8 0)) 8 15 K = K (some (A.1 115 0)) := by rw [e_GetR 115 W (sL_8 P) rfl (by decide), (P.2.2.1 15 rfl).2.1]; rfl
theorem sN_115 (P : P0 σ) : gN σ 115 0 = 10 := (P.2.2.1 15 rfl).2.2
theorem sL_116 (P : P0 σ) : 0 < gL σ 116 := by rw [(P.2.2.1 16 rfl).1]; decide
theorem s8_16 {K : Option Nat → Prop} (W : WF A σ) (P : P0 σ) : wGetR (hp A σ) (some (A.1 8 0)) 8 16 K = K (some (A.1 116 0)) := by rw [e_GetR 116 W (sL_8 P) rfl (by decide), (P.2.2.1 16 rfl).2.1]; rfl
theorem sN_116 (P : P0 σ) : gN σ 116 0 = 10 := (P.2.2.1 16 rfl).2.2
theorem sL_117 (P : P0 σ) : 0 < gL σ 117 := by rw [(P.2.2.1 17 rfl).1]; decide
theorem s8_17 {K : Option Nat → Prop} (W : WF A σ) (P : P0 σ) : wGetR (hp A σ) (some (A.1 8 0)) 8 17 K = K (some (A.1 117 0)) := by rw [e_GetR 117 W (sL_8 P) rfl (by decide), (P.2.2.1 17 rfl).2.1]; rfl
theorem sN_117 (P : P0 σ) : gN σ 117 0 = 10 := (P.2.2.1 17 rfl).2.2
theorem sL_118 (P : P0 σ) : 0 < gL σ 118 := by rw [(P.2.2.1 18 rfl).1]; decide
theorem s8_18 {K : Option Nat → Prop} (W : WF A σ) (P : P0 σ) : wGetR (hp A σ) (some (A.1 8 0)) 8 18 K = K (some (A.1 118 0)) := by rw [e_GetR 118 W (sL_8 P) rfl (by decide), (P.2.2.1 18 rfl).2.1]; rfl
theorem sN_118 (P : P0 σ) : gN σ 118 0 = 10 := (P.2.2.1 18 rfl).2.2
theorem sL_119 (P : P0 σ) : 0 < gL σ 119 := by rw [(P.2.2.1 19 rfl).1]; decide
theorem s8_19 {K : Option Nat → Prop} (W : WF A σ) (P : P0 σ) : wGetR (hp A σ) (some (A.1 8 0)) 8 19 K = K (some (A.1 119 0)) := by rw [e_GetR 119 W (sL_8 P) rfl (by decide), (P.2.2.1 19 rfl).2.1]; rfl
theorem sN_119 (P : P0 σ) : gN σ 119 0 = 10 := (P.2.2.1 19 rfl).2.2
theorem sL_120 (P : P0 σ) : 0 < gL σ 120 := by rw [(P.2.2.1 20 rfl).1]; decide
theorem s8_20 {K : Option Nat → Prop} (W : WF A σ) (P : P0 σ) : wGetR (hp A σ) (some (A.1 8 0)) 8 20 K = K (some (A.1 120 0)) := by rw [e_GetR 120 W (sL_8 P) rfl (by decide), (P.2.2.1 20 rfl).2.1]; rfl
theorem sN_120 (P : P0 σ) : gN σ 120 0 = 10 := (P.2.2.1 20 rfl).2.2
theorem sL_127 (P : P0 σ) : 0 < gL σ 127 := by rw [(P.2.2.1 27 rfl).1]; decide
theorem s8_27 {K : Option Nat → Prop} (W : WF A σ) (P : P0 σ) : wGetR (hp A σ) (some (A.1 8 0)) 8 27 K = K (some (A.1 127 0)) := by rw [e_GetR 127 W (sL_8 P) rfl (by decide), (P.2.2.1 27 rfl).2.1]; rfl
theorem sN_127 (P : P0 σ) : gN σ 127 0 = 30 := (P.2.2.1 27 rfl).2.2
theorem sL_128 (P : P0 σ) : 0 < gL σ 128 := by rw [(P.2.2.1 28 rfl).1]; decide
theorem s8_28 {K : Option Nat → Prop} (W : WF A σ) (P : P0 σ) : wGetR (hp A σ) (some (A.1 8 0)) 8 28 K = K (some (A.1 128 0)) := by rw [e_GetR 128 W (sL_8 P) rfl (by decide), (P.2.2.1 28 rfl).2.1]; rfl
theorem sN_128 (P : P0 σ) : gN σ 128 0 = 30 := (P.2.2.1 28 rfl).2.2
theorem sL_129 (P : P0 σ) : 0 < gL σ 129 := by rw [(P.2.2.1 29 rfl).1]; decide
theorem s8_29 {K : Option Nat → Prop} (W : WF A σ) (P : P0 σ) : wGetR (hp A σ) (some (A.1 8 0)) 8 29 K = K (some (A.1 129 0)) := by rw [e_GetR 129 W (sL_8 P) rfl (by decide), (P.2.2.1 29 rfl).2.1]; rfl
theorem sN_129 (P : P0 σ) : gN σ 129 0 = 30 := (P.2.2.1 29 rfl).2.2
theorem sL_130 (P : P0 σ) : 0 < gL σ 130 := by rw [(P.2.2.1 30 rfl).1]; decide
theorem s8_30 {K : Option Nat → Prop} (W : WF A σ) (P : P0 σ) : wGetR (hp A σ) (some (A.1 8 0)) 8 30 K = K (some (A.1 130 0)) := by rw [e_GetR 130 W (sL_8 P) rfl (by decide), (P.2.2.1 30 rfl).2.1]; rfl
theorem sN_130 (P : P0 σ) : gN σ 130 0 = 30 := (P.2.2.1 30 rfl).2.2
theorem sL_132 (P : P0 σ) : 0 < gL σ 132 := by rw [(P.2.2.1 32 rfl).1]; decide
theorem s8_32 {K : Option Nat → Prop} (W : WF A σ) (P : P0 σ) : wGetR (hp A σ) (some (A.1 8 0)) 8 32 K = K (some (A.1 132 0)) := by rw [e_GetR 132 W (sL_8 P) rfl (by decide), (P.2.2.1 32 rfl).2.1]; rfl
theorem sN_132 (P : P0 σ) : gN σ 132 0 = 6 := (P.2.2.1 32 rfl).2.2
theorem P0_sV {k f : Nat} {x : Int32} : P0 (sV σ k f i x) = P0 σ := Eq.trans rfl rfl
theorem P0_sJ {x : Int64} : P0 (sJ σ x) = P0 σ := Eq.trans rfl rfl
theorem P0_sD {x : UInt64} : P0 (sD σ x) = P0 σ := Eq.trans rfl rfl
end RR
