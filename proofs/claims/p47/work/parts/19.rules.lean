/-! rules by role -/
section RR
variable {A : Ad} {σ : St} {i : Nat}
theorem eR_1_2 {K : Option Nat → Prop} (W : WF A σ) (hi : i < gL σ 1) : wGetR (hp A σ) (some (A.1 1 i)) 1 2 K = K (hr A 5 (gR σ 1 2 i)) := e_GetR 5 W hi rfl (by decide)
theorem eR_1_5 {K : Option Nat → Prop} (W : WF A σ) (hi : i < gL σ 1) : wGetR (hp A σ) (some (A.1 1 i)) 1 5 K = K (hr A 1 (gR σ 1 5 i)) := e_GetR 1 W hi rfl (by decide)
theorem eR_1_6 {K : Option Nat → Prop} (W : WF A σ) (hi : i < gL σ 1) : wGetR (hp A σ) (some (A.1 1 i)) 1 6 K = K (hr A 20 (gR σ 1 6 i)) := e_GetR 20 W hi rfl (by decide)
theorem eR_2_3 {K : Option Nat → Prop} (W : WF A σ) (hi : i < gL σ 2) : wGetR (hp A σ) (some (A.1 2 i)) 2 3 K = K (hr A 1 (gR σ 2 3 i)) := e_GetR 1 W hi rfl (by decide)
theorem eR_3_2 {K : Option Nat → Prop} (W : WF A σ) (hi : i < gL σ 3) : wGetR (hp A σ) (some (A.1 3 i)) 3 2 K = K (hr A 22 (gR σ 3 2 i)) := e_GetR 22 W hi rfl (by decide)
theorem eR_4_1 {K : Option Nat → Prop} (W : WF A σ) (hi : i < gL σ 4) : wGetR (hp A σ) (some (A.1 4 i)) 4 1 K = K (hr A 6 (gR σ 4 1 i)) := e_GetR 6 W hi rfl (by decide)
theorem eR_6_0 {K : Option Nat → Prop} (W : WF A σ) (hi : i < gL σ 6) : wGetR (hp A σ) (some (A.1 6 i)) 6 0 K = K (hr A 16 (gR σ 6 0 i)) := e_GetR 16 W hi rfl (by decide)
theorem eR_9_0 {K : Option Nat → Prop} (W : WF A σ) (hi : i < gL σ 9) : wGetR (hp A σ) (some (A.1 9 i)) 9 0 K = K (hr A 50 (gR σ 9 0 i)) := e_GetR 50 W hi rfl (by decide)
theorem eR_20_0 {K : Option Nat → Prop} (W : WF A σ) (hi : i < gL σ 20) : wGetR (hp A σ) (some (A.1 20 i)) 0 0 K = K (hr A 21 (gR σ 20 0 i)) := e_GetR 21 W hi rfl (by decide)
theorem eR_22_0 {K : Option Nat → Prop} (W : WF A σ) (hi : i < gL σ 22) : wGetR (hp A σ) (some (A.1 22 i)) 0 0 K = K (hr A 23 (gR σ 22 0 i)) := e_GetR 23 W hi rfl (by decide)
theorem sL_7 (P : P0 σ) : 0 < gL σ 7 := by rw [P.1.1]; decide
theorem s7_0 {K : Option Nat → Prop} (W : WF A σ) (P : P0 σ) : wGetR (hp A σ) (some (A.1 7 0)) 7 0 K = K (some (A.1 30 0)) := by rw [e_GetR 30 W (sL_7 P) rfl (by decide), P.2.1.1]; rfl
theorem s7_1 {K : Option Nat → Prop} (W : WF A σ) (P : P0 σ) : wGetR (hp A σ) (some (A.1 7 0)) 7 1 K = K (some (A.1 31 0)) := by rw [e_GetR 31 W (sL_7 P) rfl (by decide), P.2.1.2.1]; rfl
theorem s7_2 {K : Option Nat → Prop} (W : WF A σ) (P : P0 σ) : wGetR (hp A σ) (some (A.1 7 0)) 7 2 K = K (some (A.1 32 0)) := by rw [e_GetR 32 W (sL_7 P) rfl (by decide), P.2.1.2.2.1]; rfl
theorem s7_3 {K : Option Nat → Prop} (W : WF A σ) (P : P0 σ) : wGetR (hp A σ) (some (A.1 7 0)) 7 3 K = K (some (A.1 33 0)) := by rw [e_GetR 33 W (sL_7 P) rfl (by decide), P.2.1.2.2.2.1]; rfl
theorem s7_4 {K : Option Nat → Prop} (W : WF A σ) (P : P0 σ) : wGetR (hp A σ) (some (A.1 7 0)) 7 4 K = K (some (A.1 6 0)) := by rw [e_GetR 6 W (sL_7 P) rfl (by decide), P.2.1.2.2.2.2.1]; rfl
theorem s7_5 {K : Option Nat → Prop} (W : WF A σ) (P : P0 σ) : wGetR (hp A σ) (some (A.1 7 0)) 7 5 K = K (some (A.1 6 1)) := by rw [e_GetR 6 W (sL_7 P) rfl (by decide), P.2.1.2.2.2.2.2.1]; rfl
theorem s7_6 {K : Option Nat → Prop} (W : WF A σ) (P : P0 σ) : wGetR (hp A σ) (some (A.1 7 0)) 7 6 K = K (some (A.1 9 0)) := by rw [e_GetR 9 W (sL_7 P) rfl (by decide), P.2.1.2.2.2.2.2.2]; rfl
theorem P0_sV {k f : Nat} {x : Int32} : P0 (sV σ k f i x) = P0 σ := Eq.trans rfl rfl
theorem P0_sJ {x : Int64} : P0 (sJ σ x) = P0 σ := Eq.trans rfl rfl
theorem P0_sD {x : UInt64} : P0 (sD σ x) = P0 σ := Eq.trans rfl rfl
theorem hcl_1 : hcl 1 1 = true := Eq.trans rfl rfl
theorem hok_1_0 : hok 1 1 0 0 = true := Eq.trans rfl rfl
theorem hok_1_1 : hok 1 1 1 0 = true := Eq.trans rfl rfl
theorem hok_1_2 : hok 1 1 2 7 = true := Eq.trans rfl rfl
theorem hok_1_3 : hok 1 1 3 0 = true := Eq.trans rfl rfl
theorem hok_1_4 : hok 1 1 4 0 = true := Eq.trans rfl rfl
theorem hok_1_5 : hok 1 1 5 3 = true := Eq.trans rfl rfl
theorem hok_1_6 : hok 1 1 6 22 = true := Eq.trans rfl rfl
theorem hok_1_7 : hok 1 1 7 0 = true := Eq.trans rfl rfl
theorem hok_1_8 : hok 1 1 8 0 = true := Eq.trans rfl rfl
theorem hok_1_9 : hok 1 1 9 0 = true := Eq.trans rfl rfl
theorem hok_1_10 : hok 1 1 10 0 = true := Eq.trans rfl rfl
theorem hok_1_11 : hok 1 1 11 0 = true := Eq.trans rfl rfl
theorem hok_1_12 : hok 1 1 12 0 = true := Eq.trans rfl rfl
theorem hok_1_13 : hok 1 1 13 0 = true := Eq.trans rfl rfl
theorem hok_1_14 : hok 1 1 14 0 = true := Eq.trans rfl rfl
theorem hok_1_15 : hok 1 1 15 0 = true := Eq.trans rfl rfl
theorem hcl_2 : hcl 2 2 = true := Eq.trans rfl rfl
theorem hok_2_0 : hok 2 2 0 0 = true := Eq.trans rfl rfl
theorem hok_2_1 : hok 2 2 1 0 = true := Eq.trans rfl rfl
theorem hok_2_2 : hok 2 2 2 0 = true := Eq.trans rfl rfl
theorem hok_2_3 : hok 2 2 3 3 = true := Eq.trans rfl rfl
theorem hok_2_4 : hok 2 2 4 0 = true := Eq.trans rfl rfl
theorem hok_2_5 : hok 2 2 5 0 = true := Eq.trans rfl rfl
theorem hcl_3 : hcl 3 3 = true := Eq.trans rfl rfl
theorem hok_3_0 : hok 3 3 0 0 = true := Eq.trans rfl rfl
theorem hok_3_1 : hok 3 3 1 0 = true := Eq.trans rfl rfl
theorem hok_3_2 : hok 3 3 2 24 = true := Eq.trans rfl rfl
theorem hcl_4 : hcl 4 4 = true := Eq.trans rfl rfl
theorem hok_4_0 : hok 4 4 0 0 = true := Eq.trans rfl rfl
theorem hok_4_1 : hok 4 4 1 8 = true := Eq.trans rfl rfl
theorem hok_4_2 : hok 4 4 2 0 = true := Eq.trans rfl rfl
theorem hok_4_3 : hok 4 4 3 0 = true := Eq.trans rfl rfl
theorem hcl_5 : hcl 5 5 = true := Eq.trans rfl rfl
theorem hok_5_0 : hok 5 5 0 0 = true := Eq.trans rfl rfl
theorem hok_5_1 : hok 5 5 1 0 = true := Eq.trans rfl rfl
theorem hok_5_2 : hok 5 5 2 0 = true := Eq.trans rfl rfl
theorem hcl_6 : hcl 6 6 = true := Eq.trans rfl rfl
theorem hok_6_0 : hok 6 6 0 18 = true := Eq.trans rfl rfl
theorem hok_6_1 : hok 6 6 1 0 = true := Eq.trans rfl rfl
theorem hcl_7 : hcl 7 7 = true := Eq.trans rfl rfl
theorem hok_7_0 : hok 7 7 0 32 = true := Eq.trans rfl rfl
theorem hok_7_1 : hok 7 7 1 33 = true := Eq.trans rfl rfl
theorem hok_7_2 : hok 7 7 2 34 = true := Eq.trans rfl rfl
theorem hok_7_3 : hok 7 7 3 35 = true := Eq.trans rfl rfl
theorem hok_7_4 : hok 7 7 4 8 = true := Eq.trans rfl rfl
theorem hok_7_5 : hok 7 7 5 8 = true := Eq.trans rfl rfl
theorem hok_7_6 : hok 7 7 6 11 = true := Eq.trans rfl rfl
theorem hok_7_7 : hok 7 7 7 0 = true := Eq.trans rfl rfl
theorem hok_7_8 : hok 7 7 8 0 = true := Eq.trans rfl rfl
theorem hok_7_9 : hok 7 7 9 0 = true := Eq.trans rfl rfl
theorem hok_7_10 : hok 7 7 10 1 = true := Eq.trans rfl rfl
theorem hok_7_11 : hok 7 7 11 1 = true := Eq.trans rfl rfl
theorem hok_7_12 : hok 7 7 12 0 = true := Eq.trans rfl rfl
theorem hcl_9 : hcl 9 9 = true := Eq.trans rfl rfl
theorem hok_9_0 : hok 9 9 0 52 = true := Eq.trans rfl rfl
theorem hok_9_1 : hok 9 9 1 0 = true := Eq.trans rfl rfl
theorem hok_9_2 : hok 9 9 2 0 = true := Eq.trans rfl rfl
theorem hok_9_3 : hok 9 9 3 0 = true := Eq.trans rfl rfl
theorem hcl_20 : hcl 20 0 = true := Eq.trans rfl rfl
theorem hok_20_0 : hok 20 0 0 23 = true := Eq.trans rfl rfl
theorem hok_20_1 : hok 20 0 1 0 = true := Eq.trans rfl rfl
theorem hcl_22 : hcl 22 0 = true := Eq.trans rfl rfl
theorem hok_22_0 : hok 22 0 0 25 = true := Eq.trans rfl rfl
theorem hok_22_1 : hok 22 0 1 0 = true := Eq.trans rfl rfl
theorem hcl_30 : hcl 30 10 = true := Eq.trans rfl rfl
theorem hok_30_0 : hok 30 10 0 0 = true := Eq.trans rfl rfl
theorem hok_30_1 : hok 30 10 1 1040 = true := Eq.trans rfl rfl
theorem hok_30_2 : hok 30 10 2 0 = true := Eq.trans rfl rfl
theorem hcl_31 : hcl 31 10 = true := Eq.trans rfl rfl
theorem hok_31_0 : hok 31 10 0 0 = true := Eq.trans rfl rfl
theorem hok_31_1 : hok 31 10 1 1041 = true := Eq.trans rfl rfl
theorem hok_31_2 : hok 31 10 2 0 = true := Eq.trans rfl rfl
theorem hcl_32 : hcl 32 10 = true := Eq.trans rfl rfl
theorem hok_32_0 : hok 32 10 0 0 = true := Eq.trans rfl rfl
theorem hok_32_1 : hok 32 10 1 1042 = true := Eq.trans rfl rfl
theorem hok_32_2 : hok 32 10 2 0 = true := Eq.trans rfl rfl
theorem hcl_33 : hcl 33 10 = true := Eq.trans rfl rfl
theorem hok_33_0 : hok 33 10 0 0 = true := Eq.trans rfl rfl
theorem hok_33_1 : hok 33 10 1 1043 = true := Eq.trans rfl rfl
theorem hok_33_2 : hok 33 10 2 0 = true := Eq.trans rfl rfl
theorem hak_16 : hak 16 1 = true := Eq.trans rfl rfl
theorem hak_21 : hak 21 0 = true := Eq.trans rfl rfl
theorem hak_23 : hak 23 0 = true := Eq.trans rfl rfl
theorem hak_40 : hak 40 4 = true := Eq.trans rfl rfl
theorem hak_41 : hak 41 4 = true := Eq.trans rfl rfl
theorem hak_42 : hak 42 4 = true := Eq.trans rfl rfl
theorem hak_43 : hak 43 4 = true := Eq.trans rfl rfl
theorem hak_50 : hak 50 2 = true := Eq.trans rfl rfl
theorem hak_59 : hak 59 0 = true := Eq.trans rfl rfl
theorem eL_16 {X : Cx} {K : Int32 → Prop} (hx : hX X A) (W : WF A σ) (hi : i < gL σ 16) : wLen X (hp A σ) (some (A.1 16 i)) K = K (nI (gN σ 16 i)) := e_Len (a := 1) hx W hi rfl (by decide)
theorem eL_21 {X : Cx} {K : Int32 → Prop} (hx : hX X A) (W : WF A σ) (hi : i < gL σ 21) : wLen X (hp A σ) (some (A.1 21 i)) K = K (nI (gN σ 21 i)) := e_Len (a := 0) hx W hi rfl (by decide)
theorem eL_23 {X : Cx} {K : Int32 → Prop} (hx : hX X A) (W : WF A σ) (hi : i < gL σ 23) : wLen X (hp A σ) (some (A.1 23 i)) K = K (nI (gN σ 23 i)) := e_Len (a := 0) hx W hi rfl (by decide)
theorem eL_50 {X : Cx} {K : Int32 → Prop} (hx : hX X A) (W : WF A σ) (hi : i < gL σ 50) : wLen X (hp A σ) (some (A.1 50 i)) K = K (nI (gN σ 50 i)) := e_Len (a := 2) hx W hi rfl (by decide)
theorem eL_59 {X : Cx} {K : Int32 → Prop} (hx : hX X A) (W : WF A σ) (hi : i < gL σ 59) : wLen X (hp A σ) (some (A.1 59 i)) K = K (nI (gN σ 59 i)) := e_Len (a := 0) hx W hi rfl (by decide)
end RR
