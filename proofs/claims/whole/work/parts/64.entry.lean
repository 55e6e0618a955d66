/-! the law's entry: a closed state, built step by step -/
def ZV (l : List Nat) (σ : St) : Prop := ∀ k, k ∉ l → ∀ f i, gV σ k f i = 0
section ZZ
variable {l : List Nat} {σ : St} {k f i r n : Nat} {x : Int32}
theorem ZV.sV (h : ZV l σ) (hk : k ∈ l) : ZV l (sV σ k f i x) := fun k' hk' f' i' => by
  rw [gV_sV, if_neg (fun z => ne_of hk' hk z.1)]; exact h k' hk' f' i'
theorem ZV.sR (h : ZV l σ) : ZV l (sR σ k f i r) := h
theorem ZV.sW (h : ZV l σ) : ZV l (sW σ k n) := fun k' hk' f' i' => by
  rw [gV_sW]
  by_cases e : k' = k ∧ i' = gL σ k
  · rw [if_pos e]
  · rw [if_neg e]; exact h k' hk' f' i'
theorem ZV.sM {ko ki N K : Nat} (h : ZV l σ) : ZV l (sM σ ko ki N K) := fun k' hk' f' i' => by
  rw [gV_sM]
  by_cases e : k' = ko ∨ k' = ki
  · rw [if_pos e]
  · rw [if_neg e]; exact h k' hk' f' i'
end ZZ
section NN
variable {A : Ad} {σ σ' : St} {X : Cx} {k c f i n m : Nat}
theorem n_New {fs : List Value} {K : Nat → GM → Prop} (k n : Nat) (hx : hX X A) (W : WF A σ) (h : hok k c 0 (hT k 0) = true) (hfs : hz k = fs) (hn : gL σ k = n) (hs : sW σ k 0 = σ') (kk : ∀ A' : Ad, WF A' σ' → hX X A' → Nx A A' σ → K (A'.1 k n) (hp A' σ')) : wNew X (hp A σ) (.inr (c, fs)) K := by
  subst hn hs; exact e_New k hx W h hfs kk
theorem n_NewA {a : Nat} {K : Nat → GM → Prop} (k n : Nat) (hx : hX X A) (W : WF A σ) (h : hak k a = true) (h4 : a < 4) (hn : gL σ k = n) (hs : sW σ k m = σ') (kk : ∀ A' : Ad, WF A' σ' → hX X A' → Nx A A' σ → K (A'.1 k n) (hp A' σ')) : wNew X (hp A σ) (.inl (a, m, .inl (fun _ => 0))) K := by
  subst hn hs; exact e_NewA k hx W h h4 kk
theorem n_Mna {a a' N K : Nat} {kont : Nat → (Nat → Nat) → GM → Prop} (ko ki : Nat) (hx : hX X A) (W : WF A σ) (hko : hak ko a = true) (h4 : ¬ a < 4) (h7 : a < 7) (hki : hak ki a' = true) (h4' : a' < 4) (hne : ki ≠ ko) (he : hE ko = ki) (z1 : gL σ ko = 0) (z2 : gL σ ki = 0) (hs : sM σ ko ki N K = σ') (kk : ∀ A' : Ad, WF A' σ' → hX X A' → Nx A A' σ → ∀ r', kont (A'.1 ko 0) r' (hp A' σ')) : wMna X (hp A σ) a a' N K kont := by
  subst hs; exact e_Mna ko ki hx W hko h4 h7 hki h4' hne he z1 z2 kk
theorem n_NewJ {K : Nat → GM → Prop} (hx : hX X A) (W : WF A σ) (h0 : gL σ 60 = 0) (hj : gJ σ = fun _ => 0) (hs : sW σ 60 m = σ') (kk : ∀ A' : Ad, WF A' σ' → hX X A' → Nx A A' σ → K (A'.1 60 0) (hp A' σ')) : wNew X (hp A σ) (.inl (7, m, .inr (.inl (fun _ => 0)))) K := by
  subst hs; exact e_NewJ hx W h0 hj kk
theorem n_NewD {K : Nat → GM → Prop} (hx : hX X A) (W : WF A σ) (h0 : gL σ 61 = 0) (hj : gD σ = fun _ => 0) (hs : sW σ 61 m = σ') (kk : ∀ A' : Ad, WF A' σ' → hX X A' → Nx A A' σ → K (A'.1 61 0) (hp A' σ')) : wNew X (hp A σ) (.inl (8, m, .inr (.inr (.inr (.inl (fun _ => 0)))))) K := by
  subst hs; exact e_NewD hx W h0 hj kk
theorem n_PutI {K : GM → Prop} {x : Int32} (σ' : St) (hs : sV σ k f i x = σ') (W : WF A σ) (hi : i < gL σ k) (h : hok k c f 0 = true) : wPut (hp A σ) (some (A.1 k i)) c f (.int x) K = K (hp A σ') := by
  subst hs; exact e_PutI W hi h
theorem n_PutF {K : GM → Prop} {x : UInt32} (σ' : St) (hs : sV σ k f i x.toInt32 = σ') (W : WF A σ) (hi : i < gL σ k) (h : hok k c f 1 = true) : wPut (hp A σ) (some (A.1 k i)) c f (.float x) K = K (hp A σ') := by
  subst hs; exact e_PutF W hi h
theorem n_PutR {K : GM → Prop} {t j : Nat} (σ' : St) (hs : sR σ k f i (j + 1) = σ') (W : WF A σ) (hi : i < gL σ k) (h : hok k c f (t + 2) = true) (ht : t < 998) : wPut (hp A σ) (some (A.1 k i)) c f (va_rf (some (A.1 t j))) K = K (hp A σ') := by
  subst hs; exact e_PutR W hi h ht
theorem n_PutE {K : GM → Prop} (t : Nat) (hx : hX X A) (σ' : St) (hs : sR σ k f i 1 = σ') (W : WF A σ) (hi : i < gL σ k) (h : hok k c f (t + 1000) = true) : wPut (hp A σ) (some (A.1 k i)) c f (va_rf (some (X.2.2.2 200))) K = K (hp A σ') := by
  subst hs; rw [← hx.2.1]; exact e_PutE t W hi h
theorem n_WV {x : Int32} (hs : sV σ k f i x = σ') (W : WF A σ) : WF A σ' := by
  subst hs; rw [WF_sV]; exact W
theorem n_WR {r : Nat} (hs : sR σ k f i r = σ') (W : WF A σ) (h : r ≤ gL σ (hG k f) + hS k f) : WF A σ' := by
  subst hs; exact WF_sR W h
end NN
def en_0 : St := (fun _ => 0, fun _ _ _ => 0, fun _ _ _ => 0, fun _ _ => 0, fun _ => 0, fun _ => 0)
def en_1 : St := sW en_0 7 0
def en_2 : St := sW en_1 30 0
def en_3 : St := sV en_2 30 0 0 (0)
def en_4 : St := sR en_3 30 1 0 1
def en_5 : St := sR en_4 7 0 0 1
def en_6 : St := sW en_5 31 0
def en_7 : St := sV en_6 31 0 0 (0)
def en_8 : St := sR en_7 31 1 0 1
def en_9 : St := sR en_8 7 1 0 1
def en_10 : St := sW en_9 32 0
def en_11 : St := sV en_10 32 0 0 (0)
def en_12 : St := sR en_11 32 1 0 1
def en_13 : St := sR en_12 7 2 0 1
def en_14 : St := sW en_13 33 0
def en_15 : St := sV en_14 33 0 0 (0)
def en_16 : St := sR en_15 33 1 0 1
def en_17 : St := sR en_16 7 3 0 1
def en_18 : St := sW en_17 6 0
def en_19 : St := sW en_18 16 6
def en_20 : St := sR en_19 6 0 0 1
def en_21 : St := sV en_20 6 1 0 (0)
def en_22 : St := sR en_21 7 4 0 1
def en_23 : St := sW en_22 6 0
def en_24 : St := sW en_23 16 6
def en_25 : St := sR en_24 6 0 1 2
def en_26 : St := sV en_25 6 1 1 (0)
def en_27 : St := sR en_26 7 5 0 2
def en_28 : St := sW en_27 9 0
def en_29 : St := sW en_28 50 16
def en_30 : St := sR en_29 9 0 0 1
def en_31 : St := sV en_30 9 1 0 (0)
def en_32 : St := sR en_31 7 6 0 1
def en_33 : St := sV en_32 7 7 0 (200)
def en_34 : St := sV en_33 7 8 0 (0)
def en_35 : St := sV en_34 7 9 0 (0)
def en_36 : St := sV en_35 7 10 0 (1056964608 : UInt32).toInt32
def en_37 : St := sV en_36 7 11 0 (1056964608 : UInt32).toInt32
def en_38 : St := sV en_37 7 12 0 (0)
def en_39 : St := sW en_38 8 0
def en_40 : St := sW en_39 100 12
def en_41 : St := sR en_40 8 0 0 1
def en_42 : St := sW en_41 101 12
def en_43 : St := sR en_42 8 1 0 1
def en_44 : St := sW en_43 102 12
def en_45 : St := sR en_44 8 2 0 1
def en_46 : St := sW en_45 103 12
def en_47 : St := sR en_46 8 3 0 1
def en_48 : St := sW en_47 104 12
def en_49 : St := sR en_48 8 4 0 1
def en_50 : St := sM en_49 105 205 12 10
def en_51 : St := sR en_50 8 5 0 1
def en_52 : St := sW en_51 107 10
def en_53 : St := sR en_52 8 7 0 1
def en_54 : St := sW en_53 108 10
def en_55 : St := sR en_54 8 8 0 1
def en_56 : St := sW en_55 109 10
def en_57 : St := sR en_56 8 9 0 1
def en_58 : St := sW en_57 110 10
def en_59 : St := sR en_58 8 10 0 1
def en_60 : St := sW en_59 111 10
def en_61 : St := sR en_60 8 11 0 1
def en_62 : St := sW en_61 112 10
def en_63 : St := sR en_62 8 12 0 1
def en_64 : St := sW en_63 113 10
def en_65 : St := sR en_64 8 13 0 1
def en_66 : St := sW en_65 114 10
def en_67 : St := sR en_66 8 14 0 1
def en_68 : St := sW en_67 115 10
def en_69 : St := sR en_68 8 15 0 1
def en_70 : St := sW en_69 116 10
def en_71 : St := sR en_70 8 16 0 1
def en_72 : St := sW en_71 117 10
def en_73 : St := sR en_72 8 17 0 1
def en_74 : St := sW en_73 118 10
def en_75 : St := sR en_74 8 18 0 1
def en_76 : St := sW en_75 119 10
def en_77 : St := sR en_76 8 19 0 1
def en_78 : St := sW en_77 120 10
def en_79 : St := sR en_78 8 20 0 1
def en_80 : St := sV en_79 8 23 0 (200)
def en_81 : St := sV en_80 8 25 0 (1056964608 : UInt32).toInt32
def en_82 : St := sV en_81 8 26 0 (1056964608 : UInt32).toInt32
def en_83 : St := sM en_82 127 227 30 6
def en_84 : St := sR en_83 8 27 0 1
def en_85 : St := sW en_84 128 30
def en_86 : St := sR en_85 8 28 0 1
def en_87 : St := sW en_86 129 30
def en_88 : St := sR en_87 8 29 0 1
def en_89 : St := sW en_88 130 30
def en_90 : St := sR en_89 8 30 0 1
def en_91 : St := sW en_90 132 6
def en_92 : St := sR en_91 8 32 0 1
def en_93 : St := sW en_92 9 0
def en_94 : St := sW en_93 50 16
def en_95 : St := sR en_94 9 0 1 2
def en_96 : St := sV en_95 9 1 1 (0)
def en_97 : St := sR en_96 8 34 0 2
def en_98 : St := sW en_97 60 1
def en_99 : St := sW en_98 61 1
theorem en_z1 : ZV [6, 7, 8, 9, 30, 31, 32, 33] en_1 := ZV.sW (fun _ _ _ _ => rfl : ZV [6, 7, 8, 9, 30, 31, 32, 33] en_0)
theorem en_z2 : ZV [6, 7, 8, 9, 30, 31, 32, 33] en_2 := ZV.sW (en_z1)
theorem en_z3 : ZV [6, 7, 8, 9, 30, 31, 32, 33] en_3 := ZV.sV (en_z2) (by decide)
theorem en_z4 : ZV [6, 7, 8, 9, 30, 31, 32, 33] en_4 := ZV.sR (en_z3)
theorem en_z5 : ZV [6, 7, 8, 9, 30, 31, 32, 33] en_5 := ZV.sR (en_z4)
theorem en_z6 : ZV [6, 7, 8, 9, 30, 31, 32, 33] en_6 := ZV.sW (en_z5)
theorem en_z7 : ZV [6, 7, 8, 9, 30, 31, 32, 33] en_7 := ZV.sV (en_z6) (by decide)
theorem en_z8 : ZV [6, 7, 8, 9, 30, 31, 32, 33] en_8 := ZV.sR (en_z7)
theorem en_z9 : ZV [6, 7, 8, 9, 30, 31, 32, 33] en_9 := ZV.sR (en_z8)
theorem en_z10 : ZV [6, 7, 8, 9, 30, 31, 32, 33] en_10 := ZV.sW (en_z9)
theorem en_z11 : ZV [6, 7, 8, 9, 30, 31, 32, 33] en_11 := ZV.sV (en_z10) (by decide)
theorem en_z12 : ZV [6, 7, 8, 9, 30, 31, 32, 33] en_12 := ZV.sR (en_z11)
theorem en_z13 : ZV [6, 7, 8, 9, 30, 31, 32, 33] en_13 := ZV.sR (en_z12)
theorem en_z14 : ZV [6, 7, 8, 9, 30, 31, 32, 33] en_14 := ZV.sW (en_z13)
theorem en_z15 : ZV [6, 7, 8, 9, 30, 31, 32, 33] en_15 := ZV.sV (en_z14) (by decide)
theorem en_z16 : ZV [6, 7, 8, 9, 30, 31, 32, 33] en_16 := ZV.sR (en_z15)
theorem en_z17 : ZV [6, 7, 8, 9, 30, 31, 32, 33] en_17 := ZV.sR (en_z16)
theorem en_z18 : ZV [6, 7, 8, 9, 30, 31, 32, 33] en_18 := ZV.sW (en_z17)
theorem en_z19 : ZV [6, 7, 8, 9, 30, 31, 32, 33] en_19 := ZV.sW (en_z18)
theorem en_z20 : ZV [6, 7, 8, 9, 30, 31, 32, 33] en_20 := ZV.sR (en_z19)
theorem en_z21 : ZV [6, 7, 8, 9, 30, 31, 32, 33] en_21 := ZV.sV (en_z20) (by decide)
theorem en_z22 : ZV [6, 7, 8, 9, 30, 31, 32, 33] en_22 := ZV.sR (en_z21)
theorem en_z23 : ZV [6, 7, 8, 9, 30, 31, 32, 33] en_23 := ZV.sW (en_z22)
theorem en_z24 : ZV [6, 7, 8, 9, 30, 31, 32, 33] en_24 := ZV.sW (en_z23)
theorem en_z25 : ZV [6, 7, 8, 9, 30, 31, 32, 33] en_25 := ZV.sR (en_z24)
theorem en_z26 : ZV [6, 7, 8, 9, 30, 31, 32, 33] en_26 := ZV.sV (en_z25) (by decide)
theorem en_z27 : ZV [6, 7, 8, 9, 30, 31, 32, 33] en_27 := ZV.sR (en_z26)
theorem en_z28 : ZV [6, 7, 8, 9, 30, 31, 32, 33] en_28 := ZV.sW (en_z27)
theorem en_z29 : ZV [6, 7, 8, 9, 30, 31, 32, 33] en_29 := ZV.sW (en_z28)
theorem en_z30 : ZV [6, 7, 8, 9, 30, 31, 32, 33] en_30 := ZV.sR (en_z29)
theorem en_z31 : ZV [6, 7, 8, 9, 30, 31, 32, 33] en_31 := ZV.sV (en_z30) (by decide)
theorem en_z32 : ZV [6, 7, 8, 9, 30, 31, 32, 33] en_32 := ZV.sR (en_z31)
theorem en_z33 : ZV [6, 7, 8, 9, 30, 31, 32, 33] en_33 := ZV.sV (en_z32) (by decide)
theorem en_z34 : ZV [6, 7, 8, 9, 30, 31, 32, 33] en_34 := ZV.sV (en_z33) (by decide)
theorem en_z35 : ZV [6, 7, 8, 9, 30, 31, 32, 33] en_35 := ZV.sV (en_z34) (by decide)
theorem en_z36 : ZV [6, 7, 8, 9, 30, 31, 32, 33] en_36 := ZV.sV (en_z35) (by decide)
theorem en_z37 : ZV [6, 7, 8, 9, 30, 31, 32, 33] en_37 := ZV.sV (en_z36) (by decide)
theorem en_z38 : ZV [6, 7, 8, 9, 30, 31, 32, 33] en_38 := ZV.sV (en_z37) (by decide)
theorem en_z39 : ZV [6, 7, 8, 9, 30, 31, 32, 33] en_39 := ZV.sW (en_z38)
theorem en_z40 : ZV [6, 7, 8, 9, 30, 31, 32, 33] en_40 := ZV.sW (en_z39)
theorem en_z41 : ZV [6, 7, 8, 9, 30, 31, 32, 33] en_41 := ZV.sR (en_z40)
theorem en_z42 : ZV [6, 7, 8, 9, 30, 31, 32, 33] en_42 := ZV.sW (en_z41)
theorem en_z43 : ZV [6, 7, 8, 9, 30, 31, 32, 33] en_43 := ZV.sR (en_z42)
theorem en_z44 : ZV [6, 7, 8, 9, 30, 31, 32, 33] en_44 := ZV.sW (en_z43)
theorem en_z45 : ZV [6, 7, 8, 9, 30, 31, 32, 33] en_45 := ZV.sR (en_z44)
theorem en_z46 : ZV [6, 7, 8, 9, 30, 31, 32, 33] en_46 := ZV.sW (en_z45)
theorem en_z47 : ZV [6, 7, 8, 9, 30, 31, 32, 33] en_47 := ZV.sR (en_z46)
theorem en_z48 : ZV [6, 7, 8, 9, 30, 31, 32, 33] en_48 := ZV.sW (en_z47)
theorem en_z49 : ZV [6, 7, 8, 9, 30, 31, 32, 33] en_49 := ZV.sR (en_z48)
theorem en_z50 : ZV [6, 7, 8, 9, 30, 31, 32, 33] en_50 := ZV.sM (en_z49)
theorem en_z51 : ZV [6, 7, 8, 9, 30, 31, 32, 33] en_51 := ZV.sR (en_z50)
theorem en_z52 : ZV [6, 7, 8, 9, 30, 31, 32, 33] en_52 := ZV.sW (en_z51)
theorem en_z53 : ZV [6, 7, 8, 9, 30, 31, 32, 33] en_53 := ZV.sR (en_z52)
theorem en_z54 : ZV [6, 7, 8, 9, 30, 31, 32, 33] en_54 := ZV.sW (en_z53)
theorem en_z55 : ZV [6, 7, 8, 9, 30, 31, 32, 33] en_55 := ZV.sR (en_z54)
theorem en_z56 : ZV [6, 7, 8, 9, 30, 31, 32, 33] en_56 := ZV.sW (en_z55)
theorem en_z57 : ZV [6, 7, 8, 9, 30, 31, 32, 33] en_57 := ZV.sR (en_z56)
theorem en_z58 : ZV [6, 7, 8, 9, 30, 31, 32, 33] en_58 := ZV.sW (en_z57)
theorem en_z59 : ZV [6, 7, 8, 9, 30, 31, 32, 33] en_59 := ZV.sR (en_z58)
theorem en_z60 : ZV [6, 7, 8, 9, 30, 31, 32, 33] en_60 := ZV.sW (en_z59)
theorem en_z61 : ZV [6, 7, 8, 9, 30, 31, 32, 33] en_61 := ZV.sR (en_z60)
theorem en_z62 : ZV [6, 7, 8, 9, 30, 31, 32, 33] en_62 := ZV.sW (en_z61)
theorem en_z63 : ZV [6, 7, 8, 9, 30, 31, 32, 33] en_63 := ZV.sR (en_z62)
theorem en_z64 : ZV [6, 7, 8, 9, 30, 31, 32, 33] en_64 := ZV.sW (en_z63)
theorem en_z65 : ZV [6, 7, 8, 9, 30, 31, 32, 33] en_65 := ZV.sR (en_z64)
theorem en_z66 : ZV [6, 7, 8, 9, 30, 31, 32, 33] en_66 := ZV.sW (en_z65)
theorem en_z67 : ZV [6, 7, 8, 9, 30, 31, 32, 33] en_67 := ZV.sR (en_z66)
theorem en_z68 : ZV [6, 7, 8, 9, 30, 31, 32, 33] en_68 := ZV.sW (en_z67)
theorem en_z69 : ZV [6, 7, 8, 9, 30, 31, 32, 33] en_69 := ZV.sR (en_z68)
theorem en_z70 : ZV [6, 7, 8, 9, 30, 31, 32, 33] en_70 := ZV.sW (en_z69)
theorem en_z71 : ZV [6, 7, 8, 9, 30, 31, 32, 33] en_71 := ZV.sR (en_z70)
theorem en_z72 : ZV [6, 7, 8, 9, 30, 31, 32, 33] en_72 := ZV.sW (en_z71)
theorem en_z73 : ZV [6, 7, 8, 9, 30, 31, 32, 33] en_73 := ZV.sR (en_z72)
theorem en_z74 : ZV [6, 7, 8, 9, 30, 31, 32, 33] en_74 := ZV.sW (en_z73)
theorem en_z75 : ZV [6, 7, 8, 9, 30, 31, 32, 33] en_75 := ZV.sR (en_z74)
theorem en_z76 : ZV [6, 7, 8, 9, 30, 31, 32, 33] en_76 := ZV.sW (en_z75)
theorem en_z77 : ZV [6, 7, 8, 9, 30, 31, 32, 33] en_77 := ZV.sR (en_z76)
theorem en_z78 : ZV [6, 7, 8, 9, 30, 31, 32, 33] en_78 := ZV.sW (en_z77)
theorem en_z79 : ZV [6, 7, 8, 9, 30, 31, 32, 33] en_79 := ZV.sR (en_z78)
theorem en_z80 : ZV [6, 7, 8, 9, 30, 31, 32, 33] en_80 := ZV.sV (en_z79) (by decide)
theorem en_z81 : ZV [6, 7, 8, 9, 30, 31, 32, 33] en_81 := ZV.sV (en_z80) (by decide)
theorem en_z82 : ZV [6, 7, 8, 9, 30, 31, 32, 33] en_82 := ZV.sV (en_z81) (by decide)
theorem en_z83 : ZV [6, 7, 8, 9, 30, 31, 32, 33] en_83 := ZV.sM (en_z82)
theorem en_z84 : ZV [6, 7, 8, 9, 30, 31, 32, 33] en_84 := ZV.sR (en_z83)
theorem en_z85 : ZV [6, 7, 8, 9, 30, 31, 32, 33] en_85 := ZV.sW (en_z84)
theorem en_z86 : ZV [6, 7, 8, 9, 30, 31, 32, 33] en_86 := ZV.sR (en_z85)
theorem en_z87 : ZV [6, 7, 8, 9, 30, 31, 32, 33] en_87 := ZV.sW (en_z86)
theorem en_z88 : ZV [6, 7, 8, 9, 30, 31, 32, 33] en_88 := ZV.sR (en_z87)
theorem en_z89 : ZV [6, 7, 8, 9, 30, 31, 32, 33] en_89 := ZV.sW (en_z88)
theorem en_z90 : ZV [6, 7, 8, 9, 30, 31, 32, 33] en_90 := ZV.sR (en_z89)
theorem en_z91 : ZV [6, 7, 8, 9, 30, 31, 32, 33] en_91 := ZV.sW (en_z90)
theorem en_z92 : ZV [6, 7, 8, 9, 30, 31, 32, 33] en_92 := ZV.sR (en_z91)
theorem en_z93 : ZV [6, 7, 8, 9, 30, 31, 32, 33] en_93 := ZV.sW (en_z92)
theorem en_z94 : ZV [6, 7, 8, 9, 30, 31, 32, 33] en_94 := ZV.sW (en_z93)
theorem en_z95 : ZV [6, 7, 8, 9, 30, 31, 32, 33] en_95 := ZV.sR (en_z94)
theorem en_z96 : ZV [6, 7, 8, 9, 30, 31, 32, 33] en_96 := ZV.sV (en_z95) (by decide)
theorem en_z97 : ZV [6, 7, 8, 9, 30, 31, 32, 33] en_97 := ZV.sR (en_z96)
theorem en_z98 : ZV [6, 7, 8, 9, 30, 31, 32, 33] en_98 := ZV.sW (en_z97)
theorem en_z99 : ZV [6, 7, 8, 9, 30, 31, 32, 33] en_99 := ZV.sW (en_z98)
theorem ep_33 : ∀ f : Fin 33, marr f.val = true → gL en_99 (100 + f.val) = 1 ∧ gR en_99 8 f.val 0 = 1 ∧ gN en_99 (100 + f.val) 0 = mlen f.val := by decide +kernel
theorem ep_l2 : gL en_99 2 = 0 := by decide +kernel
theorem ep_l1 : gL en_99 1 = 0 := by decide +kernel
theorem ep_l4 : gL en_99 4 = 0 := by decide +kernel
theorem ep_l3 : gL en_99 3 = 0 := by decide +kernel
theorem ep_P0 : P0 en_99 := by
  refine ⟨by decide +kernel, by decide +kernel, fun f hf => ?_, by decide +kernel, by decide +kernel⟩
  have h33 : f < 33 := by
    unfold marr at hf
    simp only [Bool.or_eq_true, Bool.and_eq_true, decide_eq_true_eq] at hf
    omega
  exact ep_33 ⟨f, h33⟩ hf
theorem ep_th : gV en_99 7 10 0 = (thB 500).toInt32 := by decide +kernel
theorem ep_P1 : P1 en_99 := by
  unfold P1
  rw [ep_l2, ep_l1, ep_l4]
  exact ⟨by decide +kernel, by decide +kernel, by decide +kernel, by decide +kernel, ⟨by decide +kernel, 500, by decide, ep_th⟩, ⟨by decide +kernel, 500, by decide, by decide +kernel⟩, by decide +kernel, by decide, by decide, by decide⟩
theorem ep_P2 : P2 en_99 := by
  have z := en_z99
  unfold P2
  rw [ep_l2, ep_l1]
  refine ⟨fun d hd => absurd hd (Nat.not_lt_zero _), fun d hd => absurd hd (Nat.not_lt_zero _), ⟨fun d _ => z 104 (by decide) d 0, fun d => ⟨0, by decide, z 104 (by decide) d 0⟩⟩, fun d b _ => z 205 (by decide) b d, fun d b hd => absurd hd (Nat.not_lt_zero _), fun d b => ⟨0, by decide, z 205 (by decide) b d⟩⟩
theorem ep_P3 : P3 en_99 := by
  have z := en_z99
  unfold P3
  rw [ep_l2, ep_l1]
  refine ⟨fun d hd => absurd hd (Nat.not_lt_zero _), fun d hd => absurd hd (Nat.not_lt_zero _), fun d hd => absurd hd (Nat.not_lt_zero _), fun d hd => absurd hd (Nat.not_lt_zero _), fun d hd => absurd hd (Nat.not_lt_zero _), fun d hd => absurd hd (Nat.not_lt_zero _), ⟨fun d b hd => absurd hd (Nat.not_lt_zero _), fun d hd => absurd hd (Nat.not_lt_zero _)⟩, fun b _ => ⟨z 115 (by decide) b 0, z 116 (by decide) b 0, z 117 (by decide) b 0, z 118 (by decide) b 0, z 119 (by decide) b 0, z 120 (by decide) b 0⟩⟩
theorem ep_P4 : P4 en_99 := by
  have z := en_z99
  unfold P4
  rw [ep_l4]
  refine ⟨by decide +kernel, fun d hd => absurd hd (Nat.not_lt_zero _), fun d hd => absurd hd (Nat.not_lt_zero _), ⟨0, by decide, by decide +kernel, by decide +kernel, fun j hj => absurd hj (Nat.not_lt_zero _)⟩, fun g _ => ⟨z 129 (by decide) g 0, z 130 (by decide) g 0⟩⟩
theorem ep_P5 : P5 en_99 := by
  unfold P5
  rw [ep_l2, ep_l1, ep_l3]
  refine ⟨by decide +kernel, fun d hd => absurd hd (Nat.not_lt_zero _), fun d hd => absurd hd (Nat.not_lt_zero _), fun d b hd => absurd hd (Nat.not_lt_zero _), fun d hd => absurd hd (Nat.not_lt_zero _)⟩
theorem ep_P6 : P6 en_99 := ⟨1, 0, 1, 0, by decide, by decide +kernel, by decide +kernel, by decide +kernel, by decide +kernel, by decide +kernel, by decide, by decide +kernel, by decide +kernel, by decide +kernel, by decide +kernel, by decide +kernel, by decide +kernel, Nat.zero_le _, Nat.zero_le _, by decide +kernel, by decide +kernel, by decide +kernel, by decide, fun j hj => absurd hj (Nat.not_lt_zero _), fun j w => (congrArg (fun x => fits .byte (.int x)) (en_z99 50 (by decide) j w)).trans (by decide)⟩
theorem ep_P7 : P7 en_99 := by
  unfold P7
  rw [ep_l2, ep_l1, ep_l3, ep_l4]
  exact ⟨⟨by decide +kernel, by decide +kernel, fun i hi => absurd hi (Nat.not_lt_zero _), Or.inl (by decide +kernel)⟩, ⟨by decide +kernel, by decide +kernel, fun i hi => absurd hi (Nat.not_lt_zero _), Or.inl (by decide +kernel)⟩, ⟨by decide +kernel, by decide +kernel, fun i hi => absurd hi (Nat.not_lt_zero _), Or.inl (by decide +kernel)⟩, ⟨by decide +kernel, by decide +kernel, fun i hi => absurd hi (Nat.not_lt_zero _), Or.inl (by decide +kernel)⟩⟩
theorem ep_PI : PI en_99 := ⟨ep_P0, ep_P1, ep_P2, ep_P3, ep_P4, ep_P5, ep_P6, ep_P7⟩
set_option maxHeartbeats 8000000 in
theorem p_entry (X : Cx) (h0 : hX0 X) : w_law_entry X (LIv X) (fun _ => none) := by
  have hA : ∃ A0 : Ad, WF A0 en_0 ∧ hX X A0 ∧ (fun _ => none : GM) = hp A0 en_0 := ⟨(fun _ _ => 0, fun _ => none, fun _ => none, X.2.2.1, X.2.2.2 200), ⟨fun k i hi => absurd hi (Nat.not_lt_zero _), fun q k i (h : (none : Option (Nat × Nat)) = some (k, i)) => (by cases h), fun k f i hi => absurd hi (Nat.not_lt_zero _)⟩, ⟨rfl, rfl, h0.1, h0.2⟩, rfl⟩
  obtain ⟨A0, W0, hx0, hA0⟩ := hA
  unfold w_law_entry
  rw [hA0]
  refine n_New (σ' := en_1) 7 0 hx0 W0 rfl rfl (by decide +kernel) rfl (fun A1 W1 hx1 hN1 => ?_)
  try unfold w_X7_init
  refine ⟨_, rfl, ?_⟩
  refine n_New (σ' := en_2) 30 0 hx1 W1 rfl rfl (by decide +kernel) rfl (fun A2 W2 hx2 hN2 => ?_)
  have a2_7_0 : A1.1 7 0 = A2.1 7 0 := (hN2.1 7 0 (by decide +kernel)).symm
  rw [a2_7_0]
  try unfold w_Jx4a65c_init_da8c8
  refine ⟨_, rfl, ?_⟩
  try unfold w_Jxc12de_init_da8c8
  refine ⟨_, rfl, ?_⟩
  try unfold w_Jxa1e45_init_da8c8
  refine ⟨_, rfl, ?_⟩
  try dsimp only
  rw [n_PutI (A := A2) (k := 30) (f := 0) (i := 0) (x := 0) en_3 rfl W2 (by decide +kernel) rfl]
  have W3 : WF A2 en_3 := n_WV (k := 30) (f := 0) (i := 0) (x := 0) rfl W2
  try dsimp only
  rw [n_PutE (A := A2) (k := 30) (f := 1) (i := 0) 40 hx2 en_4 rfl W3 (by decide +kernel) rfl]
  have W4 : WF A2 en_4 := n_WR (k := 30) (f := 1) (i := 0) (r := 1) rfl W3 (by decide +kernel)
  try dsimp only
  rw [n_PutR (A := A2) (k := 7) (f := 0) (i := 0) (t := 30) (j := 0) en_5 rfl W4 (by decide +kernel) rfl (by decide)]
  have W5 : WF A2 en_5 := n_WR (k := 7) (f := 0) (i := 0) (r := 1) rfl W4 (by decide +kernel)
  refine n_New (σ' := en_6) 31 0 hx2 W5 rfl rfl (by decide +kernel) rfl (fun A3 W6 hx3 hN3 => ?_)
  have a3_7_0 : A2.1 7 0 = A3.1 7 0 := (hN3.1 7 0 (by decide +kernel)).symm
  rw [a3_7_0]
  try unfold w_Jx4a65c_init_da8c8
  refine ⟨_, rfl, ?_⟩
  try unfold w_Jxc12de_init_da8c8
  refine ⟨_, rfl, ?_⟩
  try unfold w_Jxa1e45_init_da8c8
  refine ⟨_, rfl, ?_⟩
  try dsimp only
  rw [n_PutI (A := A3) (k := 31) (f := 0) (i := 0) (x := 0) en_7 rfl W6 (by decide +kernel) rfl]
  have W7 : WF A3 en_7 := n_WV (k := 31) (f := 0) (i := 0) (x := 0) rfl W6
  try dsimp only
  rw [n_PutE (A := A3) (k := 31) (f := 1) (i := 0) 41 hx3 en_8 rfl W7 (by decide +kernel) rfl]
  have W8 : WF A3 en_8 := n_WR (k := 31) (f := 1) (i := 0) (r := 1) rfl W7 (by decide +kernel)
  try dsimp only
  rw [n_PutR (A := A3) (k := 7) (f := 1) (i := 0) (t := 31) (j := 0) en_9 rfl W8 (by decide +kernel) rfl (by decide)]
  have W9 : WF A3 en_9 := n_WR (k := 7) (f := 1) (i := 0) (r := 1) rfl W8 (by decide +kernel)
  refine n_New (σ' := en_10) 32 0 hx3 W9 rfl rfl (by decide +kernel) rfl (fun A4 W10 hx4 hN4 => ?_)
  have a4_7_0 : A3.1 7 0 = A4.1 7 0 := (hN4.1 7 0 (by decide +kernel)).symm
  rw [a4_7_0]
  try unfold w_Jx4a65c_init_da8c8
  refine ⟨_, rfl, ?_⟩
  try unfold w_Jxc12de_init_da8c8
  refine ⟨_, rfl, ?_⟩
  try unfold w_Jxa1e45_init_da8c8
  refine ⟨_, rfl, ?_⟩
  try dsimp only
  rw [n_PutI (A := A4) (k := 32) (f := 0) (i := 0) (x := 0) en_11 rfl W10 (by decide +kernel) rfl]
  have W11 : WF A4 en_11 := n_WV (k := 32) (f := 0) (i := 0) (x := 0) rfl W10
  try dsimp only
  rw [n_PutE (A := A4) (k := 32) (f := 1) (i := 0) 42 hx4 en_12 rfl W11 (by decide +kernel) rfl]
  have W12 : WF A4 en_12 := n_WR (k := 32) (f := 1) (i := 0) (r := 1) rfl W11 (by decide +kernel)
  try dsimp only
  rw [n_PutR (A := A4) (k := 7) (f := 2) (i := 0) (t := 32) (j := 0) en_13 rfl W12 (by decide +kernel) rfl (by decide)]
  have W13 : WF A4 en_13 := n_WR (k := 7) (f := 2) (i := 0) (r := 1) rfl W12 (by decide +kernel)
  refine n_New (σ' := en_14) 33 0 hx4 W13 rfl rfl (by decide +kernel) rfl (fun A5 W14 hx5 hN5 => ?_)
  have a5_7_0 : A4.1 7 0 = A5.1 7 0 := (hN5.1 7 0 (by decide +kernel)).symm
  rw [a5_7_0]
  try unfold w_Jx4a65c_init_da8c8
  refine ⟨_, rfl, ?_⟩
  try unfold w_Jxc12de_init_da8c8
  refine ⟨_, rfl, ?_⟩
  try unfold w_Jxa1e45_init_da8c8
  refine ⟨_, rfl, ?_⟩
  try dsimp only
  rw [n_PutI (A := A5) (k := 33) (f := 0) (i := 0) (x := 0) en_15 rfl W14 (by decide +kernel) rfl]
  have W15 : WF A5 en_15 := n_WV (k := 33) (f := 0) (i := 0) (x := 0) rfl W14
  try dsimp only
  rw [n_PutE (A := A5) (k := 33) (f := 1) (i := 0) 43 hx5 en_16 rfl W15 (by decide +kernel) rfl]
  have W16 : WF A5 en_16 := n_WR (k := 33) (f := 1) (i := 0) (r := 1) rfl W15 (by decide +kernel)
  try dsimp only
  rw [n_PutR (A := A5) (k := 7) (f := 3) (i := 0) (t := 33) (j := 0) en_17 rfl W16 (by decide +kernel) rfl (by decide)]
  have W17 : WF A5 en_17 := n_WR (k := 7) (f := 3) (i := 0) (r := 1) rfl W16 (by decide +kernel)
  refine n_New (σ' := en_18) 6 0 hx5 W17 rfl rfl (by decide +kernel) rfl (fun A6 W18 hx6 hN6 => ?_)
  have a6_7_0 : A5.1 7 0 = A6.1 7 0 := (hN6.1 7 0 (by decide +kernel)).symm
  rw [a6_7_0]
  try unfold w_X6_init
  refine ⟨_, rfl, by decide, by decide, ?_⟩
  try rw [show ((6 : Int32)).toNatClampNeg = 6 from rfl]
  refine n_NewA (σ' := en_19) 16 0 hx6 W18 rfl (by decide) (by decide +kernel) rfl (fun A7 W19 hx7 hN7 => ?_)
  have a7_7_0 : A6.1 7 0 = A7.1 7 0 := (hN7.1 7 0 (by decide +kernel)).symm
  have a7_6_0 : A6.1 6 0 = A7.1 6 0 := (hN7.1 6 0 (by decide +kernel)).symm
  rw [a7_7_0, a7_6_0]
  try dsimp only
  rw [n_PutR (A := A7) (k := 6) (f := 0) (i := 0) (t := 16) (j := 0) en_20 rfl W19 (by decide +kernel) rfl (by decide)]
  have W20 : WF A7 en_20 := n_WR (k := 6) (f := 0) (i := 0) (r := 1) rfl W19 (by decide +kernel)
  try dsimp only
  rw [n_PutI (A := A7) (k := 6) (f := 1) (i := 0) (x := 0) en_21 rfl W20 (by decide +kernel) rfl]
  have W21 : WF A7 en_21 := n_WV (k := 6) (f := 1) (i := 0) (x := 0) rfl W20
  try dsimp only
  rw [n_PutR (A := A7) (k := 7) (f := 4) (i := 0) (t := 6) (j := 0) en_22 rfl W21 (by decide +kernel) rfl (by decide)]
  have W22 : WF A7 en_22 := n_WR (k := 7) (f := 4) (i := 0) (r := 1) rfl W21 (by decide +kernel)
  refine n_New (σ' := en_23) 6 1 hx7 W22 rfl rfl (by decide +kernel) rfl (fun A8 W23 hx8 hN8 => ?_)
  have a8_7_0 : A7.1 7 0 = A8.1 7 0 := (hN8.1 7 0 (by decide +kernel)).symm
  rw [a8_7_0]
  try unfold w_X6_init
  refine ⟨_, rfl, by decide, by decide, ?_⟩
  try rw [show ((6 : Int32)).toNatClampNeg = 6 from rfl]
  refine n_NewA (σ' := en_24) 16 1 hx8 W23 rfl (by decide) (by decide +kernel) rfl (fun A9 W24 hx9 hN9 => ?_)
  have a9_7_0 : A8.1 7 0 = A9.1 7 0 := (hN9.1 7 0 (by decide +kernel)).symm
  have a9_6_1 : A8.1 6 1 = A9.1 6 1 := (hN9.1 6 1 (by decide +kernel)).symm
  rw [a9_7_0, a9_6_1]
  try dsimp only
  rw [n_PutR (A := A9) (k := 6) (f := 0) (i := 1) (t := 16) (j := 1) en_25 rfl W24 (by decide +kernel) rfl (by decide)]
  have W25 : WF A9 en_25 := n_WR (k := 6) (f := 0) (i := 1) (r := 2) rfl W24 (by decide +kernel)
  try dsimp only
  rw [n_PutI (A := A9) (k := 6) (f := 1) (i := 1) (x := 0) en_26 rfl W25 (by decide +kernel) rfl]
  have W26 : WF A9 en_26 := n_WV (k := 6) (f := 1) (i := 1) (x := 0) rfl W25
  try dsimp only
  rw [n_PutR (A := A9) (k := 7) (f := 5) (i := 0) (t := 6) (j := 1) en_27 rfl W26 (by decide +kernel) rfl (by decide)]
  have W27 : WF A9 en_27 := n_WR (k := 7) (f := 5) (i := 0) (r := 2) rfl W26 (by decide +kernel)
  refine n_New (σ' := en_28) 9 0 hx9 W27 rfl rfl (by decide +kernel) rfl (fun A10 W28 hx10 hN10 => ?_)
  have a10_7_0 : A9.1 7 0 = A10.1 7 0 := (hN10.1 7 0 (by decide +kernel)).symm
  rw [a10_7_0]
  try unfold w_J4_init_da8c8
  refine ⟨_, rfl, ?_⟩
  try unfold w_J5_init_d00df
  refine ⟨_, rfl, ?_⟩
  rw [if_neg (by decide)]
  refine ⟨by decide, by decide, ?_⟩
  try rw [show ((16 : Int32)).toNatClampNeg = 16 from rfl]
  refine n_NewA (σ' := en_29) 50 0 hx10 W28 rfl (by decide) (by decide +kernel) rfl (fun A11 W29 hx11 hN11 => ?_)
  have a11_7_0 : A10.1 7 0 = A11.1 7 0 := (hN11.1 7 0 (by decide +kernel)).symm
  have a11_9_0 : A10.1 9 0 = A11.1 9 0 := (hN11.1 9 0 (by decide +kernel)).symm
  rw [a11_7_0, a11_9_0]
  try dsimp only
  rw [n_PutR (A := A11) (k := 9) (f := 0) (i := 0) (t := 50) (j := 0) en_30 rfl W29 (by decide +kernel) rfl (by decide)]
  have W30 : WF A11 en_30 := n_WR (k := 9) (f := 0) (i := 0) (r := 1) rfl W29 (by decide +kernel)
  try dsimp only
  rw [n_PutI (A := A11) (k := 9) (f := 1) (i := 0) (x := 0) en_31 rfl W30 (by decide +kernel) rfl]
  have W31 : WF A11 en_31 := n_WV (k := 9) (f := 1) (i := 0) (x := 0) rfl W30
  try dsimp only
  rw [n_PutR (A := A11) (k := 7) (f := 6) (i := 0) (t := 9) (j := 0) en_32 rfl W31 (by decide +kernel) rfl (by decide)]
  have W32 : WF A11 en_32 := n_WR (k := 7) (f := 6) (i := 0) (r := 1) rfl W31 (by decide +kernel)
  try dsimp only
  rw [n_PutI (A := A11) (k := 7) (f := 7) (i := 0) (x := 200) en_33 rfl W32 (by decide +kernel) rfl]
  have W33 : WF A11 en_33 := n_WV (k := 7) (f := 7) (i := 0) (x := 200) rfl W32
  try dsimp only
  rw [n_PutI (A := A11) (k := 7) (f := 8) (i := 0) (x := 0) en_34 rfl W33 (by decide +kernel) rfl]
  have W34 : WF A11 en_34 := n_WV (k := 7) (f := 8) (i := 0) (x := 0) rfl W33
  try dsimp only
  rw [n_PutI (A := A11) (k := 7) (f := 9) (i := 0) (x := 0) en_35 rfl W34 (by decide +kernel) rfl]
  have W35 : WF A11 en_35 := n_WV (k := 7) (f := 9) (i := 0) (x := 0) rfl W34
  try dsimp only
  rw [n_PutF (A := A11) (k := 7) (f := 10) (i := 0) (x := 1056964608) en_36 rfl W35 (by decide +kernel) rfl]
  have W36 : WF A11 en_36 := n_WV (k := 7) (f := 10) (i := 0) (x := (1056964608 : UInt32).toInt32) rfl W35
  try dsimp only
  rw [n_PutF (A := A11) (k := 7) (f := 11) (i := 0) (x := 1056964608) en_37 rfl W36 (by decide +kernel) rfl]
  have W37 : WF A11 en_37 := n_WV (k := 7) (f := 11) (i := 0) (x := (1056964608 : UInt32).toInt32) rfl W36
  try dsimp only
  rw [n_PutI (A := A11) (k := 7) (f := 12) (i := 0) (x := 0) en_38 rfl W37 (by decide +kernel) rfl]
  have W38 : WF A11 en_38 := n_WV (k := 7) (f := 12) (i := 0) (x := 0) rfl W37
  refine n_New (σ' := en_39) 8 0 hx11 W38 rfl rfl (by decide +kernel) rfl (fun A12 W39 hx12 hN12 => ?_)
  have a12_7_0 : A11.1 7 0 = A12.1 7 0 := (hN12.1 7 0 (by decide +kernel)).symm
  rw [a12_7_0]
  try unfold w_X8_init
  refine ⟨_, rfl, ?_⟩
  refine ⟨by decide, by decide, ?_⟩
  try rw [show ((12 : Int32)).toNatClampNeg = 12 from rfl]
  refine n_NewA (σ' := en_40) 100 0 hx12 W39 rfl (by decide) (by decide +kernel) rfl (fun A13 W40 hx13 hN13 => ?_)
  have a13_7_0 : A12.1 7 0 = A13.1 7 0 := (hN13.1 7 0 (by decide +kernel)).symm
  have a13_8_0 : A12.1 8 0 = A13.1 8 0 := (hN13.1 8 0 (by decide +kernel)).symm
  rw [a13_7_0, a13_8_0]
  try dsimp only
  rw [n_PutR (A := A13) (k := 8) (f := 0) (i := 0) (t := 100) (j := 0) en_41 rfl W40 (by decide +kernel) rfl (by decide)]
  have W41 : WF A13 en_41 := n_WR (k := 8) (f := 0) (i := 0) (r := 1) rfl W40 (by decide +kernel)
  refine ⟨by decide, by decide, ?_⟩
  try rw [show ((12 : Int32)).toNatClampNeg = 12 from rfl]
  refine n_NewA (σ' := en_42) 101 0 hx13 W41 rfl (by decide) (by decide +kernel) rfl (fun A14 W42 hx14 hN14 => ?_)
  have a14_7_0 : A13.1 7 0 = A14.1 7 0 := (hN14.1 7 0 (by decide +kernel)).symm
  have a14_8_0 : A13.1 8 0 = A14.1 8 0 := (hN14.1 8 0 (by decide +kernel)).symm
  rw [a14_7_0, a14_8_0]
  try dsimp only
  rw [n_PutR (A := A14) (k := 8) (f := 1) (i := 0) (t := 101) (j := 0) en_43 rfl W42 (by decide +kernel) rfl (by decide)]
  have W43 : WF A14 en_43 := n_WR (k := 8) (f := 1) (i := 0) (r := 1) rfl W42 (by decide +kernel)
  refine ⟨by decide, by decide, ?_⟩
  try rw [show ((12 : Int32)).toNatClampNeg = 12 from rfl]
  refine n_NewA (σ' := en_44) 102 0 hx14 W43 rfl (by decide) (by decide +kernel) rfl (fun A15 W44 hx15 hN15 => ?_)
  have a15_7_0 : A14.1 7 0 = A15.1 7 0 := (hN15.1 7 0 (by decide +kernel)).symm
  have a15_8_0 : A14.1 8 0 = A15.1 8 0 := (hN15.1 8 0 (by decide +kernel)).symm
  rw [a15_7_0, a15_8_0]
  try dsimp only
  rw [n_PutR (A := A15) (k := 8) (f := 2) (i := 0) (t := 102) (j := 0) en_45 rfl W44 (by decide +kernel) rfl (by decide)]
  have W45 : WF A15 en_45 := n_WR (k := 8) (f := 2) (i := 0) (r := 1) rfl W44 (by decide +kernel)
  refine ⟨by decide, by decide, ?_⟩
  try rw [show ((12 : Int32)).toNatClampNeg = 12 from rfl]
  refine n_NewA (σ' := en_46) 103 0 hx15 W45 rfl (by decide) (by decide +kernel) rfl (fun A16 W46 hx16 hN16 => ?_)
  have a16_7_0 : A15.1 7 0 = A16.1 7 0 := (hN16.1 7 0 (by decide +kernel)).symm
  have a16_8_0 : A15.1 8 0 = A16.1 8 0 := (hN16.1 8 0 (by decide +kernel)).symm
  rw [a16_7_0, a16_8_0]
  try dsimp only
  rw [n_PutR (A := A16) (k := 8) (f := 3) (i := 0) (t := 103) (j := 0) en_47 rfl W46 (by decide +kernel) rfl (by decide)]
  have W47 : WF A16 en_47 := n_WR (k := 8) (f := 3) (i := 0) (r := 1) rfl W46 (by decide +kernel)
  refine ⟨by decide, by decide, ?_⟩
  try rw [show ((12 : Int32)).toNatClampNeg = 12 from rfl]
  refine n_NewA (σ' := en_48) 104 0 hx16 W47 rfl (by decide) (by decide +kernel) rfl (fun A17 W48 hx17 hN17 => ?_)
  have a17_7_0 : A16.1 7 0 = A17.1 7 0 := (hN17.1 7 0 (by decide +kernel)).symm
  have a17_8_0 : A16.1 8 0 = A17.1 8 0 := (hN17.1 8 0 (by decide +kernel)).symm
  rw [a17_7_0, a17_8_0]
  try dsimp only
  rw [n_PutR (A := A17) (k := 8) (f := 4) (i := 0) (t := 104) (j := 0) en_49 rfl W48 (by decide +kernel) rfl (by decide)]
  have W49 : WF A17 en_49 := n_WR (k := 8) (f := 4) (i := 0) (r := 1) rfl W48 (by decide +kernel)
  refine n_Mna (σ' := en_50) 105 205 hx17 W49 rfl (by decide) (by decide) rfl (by decide) (by decide) rfl (by decide +kernel) (by decide +kernel) rfl (fun A18 W50 hx18 hN18 r18 => ?_)
  have a18_7_0 : A17.1 7 0 = A18.1 7 0 := (hN18.1 7 0 (by decide +kernel)).symm
  have a18_8_0 : A17.1 8 0 = A18.1 8 0 := (hN18.1 8 0 (by decide +kernel)).symm
  rw [a18_7_0, a18_8_0]
  try dsimp only
  rw [n_PutR (A := A18) (k := 8) (f := 5) (i := 0) (t := 105) (j := 0) en_51 rfl W50 (by decide +kernel) rfl (by decide)]
  have W51 : WF A18 en_51 := n_WR (k := 8) (f := 5) (i := 0) (r := 1) rfl W50 (by decide +kernel)
  refine ⟨by decide, by decide, ?_⟩
  try rw [show ((10 : Int32)).toNatClampNeg = 10 from rfl]
  refine n_NewA (σ' := en_52) 107 0 hx18 W51 rfl (by decide) (by decide +kernel) rfl (fun A19 W52 hx19 hN19 => ?_)
  have a19_7_0 : A18.1 7 0 = A19.1 7 0 := (hN19.1 7 0 (by decide +kernel)).symm
  have a19_8_0 : A18.1 8 0 = A19.1 8 0 := (hN19.1 8 0 (by decide +kernel)).symm
  rw [a19_7_0, a19_8_0]
  try dsimp only
  rw [n_PutR (A := A19) (k := 8) (f := 7) (i := 0) (t := 107) (j := 0) en_53 rfl W52 (by decide +kernel) rfl (by decide)]
  have W53 : WF A19 en_53 := n_WR (k := 8) (f := 7) (i := 0) (r := 1) rfl W52 (by decide +kernel)
  refine ⟨by decide, by decide, ?_⟩
  try rw [show ((10 : Int32)).toNatClampNeg = 10 from rfl]
  refine n_NewA (σ' := en_54) 108 0 hx19 W53 rfl (by decide) (by decide +kernel) rfl (fun A20 W54 hx20 hN20 => ?_)
  have a20_7_0 : A19.1 7 0 = A20.1 7 0 := (hN20.1 7 0 (by decide +kernel)).symm
  have a20_8_0 : A19.1 8 0 = A20.1 8 0 := (hN20.1 8 0 (by decide +kernel)).symm
  rw [a20_7_0, a20_8_0]
  try dsimp only
  rw [n_PutR (A := A20) (k := 8) (f := 8) (i := 0) (t := 108) (j := 0) en_55 rfl W54 (by decide +kernel) rfl (by decide)]
  have W55 : WF A20 en_55 := n_WR (k := 8) (f := 8) (i := 0) (r := 1) rfl W54 (by decide +kernel)
  refine ⟨by decide, by decide, ?_⟩
  try rw [show ((10 : Int32)).toNatClampNeg = 10 from rfl]
  refine n_NewA (σ' := en_56) 109 0 hx20 W55 rfl (by decide) (by decide +kernel) rfl (fun A21 W56 hx21 hN21 => ?_)
  have a21_7_0 : A20.1 7 0 = A21.1 7 0 := (hN21.1 7 0 (by decide +kernel)).symm
  have a21_8_0 : A20.1 8 0 = A21.1 8 0 := (hN21.1 8 0 (by decide +kernel)).symm
  rw [a21_7_0, a21_8_0]
  try dsimp only
  rw [n_PutR (A := A21) (k := 8) (f := 9) (i := 0) (t := 109) (j := 0) en_57 rfl W56 (by decide +kernel) rfl (by decide)]
  have W57 : WF A21 en_57 := n_WR (k := 8) (f := 9) (i := 0) (r := 1) rfl W56 (by decide +kernel)
  refine ⟨by decide, by decide, ?_⟩
  try rw [show ((10 : Int32)).toNatClampNeg = 10 from rfl]
  refine n_NewA (σ' := en_58) 110 0 hx21 W57 rfl (by decide) (by decide +kernel) rfl (fun A22 W58 hx22 hN22 => ?_)
  have a22_7_0 : A21.1 7 0 = A22.1 7 0 := (hN22.1 7 0 (by decide +kernel)).symm
  have a22_8_0 : A21.1 8 0 = A22.1 8 0 := (hN22.1 8 0 (by decide +kernel)).symm
  rw [a22_7_0, a22_8_0]
  try dsimp only
  rw [n_PutR (A := A22) (k := 8) (f := 10) (i := 0) (t := 110) (j := 0) en_59 rfl W58 (by decide +kernel) rfl (by decide)]
  have W59 : WF A22 en_59 := n_WR (k := 8) (f := 10) (i := 0) (r := 1) rfl W58 (by decide +kernel)
  refine ⟨by decide, by decide, ?_⟩
  try rw [show ((10 : Int32)).toNatClampNeg = 10 from rfl]
  refine n_NewA (σ' := en_60) 111 0 hx22 W59 rfl (by decide) (by decide +kernel) rfl (fun A23 W60 hx23 hN23 => ?_)
  have a23_7_0 : A22.1 7 0 = A23.1 7 0 := (hN23.1 7 0 (by decide +kernel)).symm
  have a23_8_0 : A22.1 8 0 = A23.1 8 0 := (hN23.1 8 0 (by decide +kernel)).symm
  rw [a23_7_0, a23_8_0]
  try dsimp only
  rw [n_PutR (A := A23) (k := 8) (f := 11) (i := 0) (t := 111) (j := 0) en_61 rfl W60 (by decide +kernel) rfl (by decide)]
  have W61 : WF A23 en_61 := n_WR (k := 8) (f := 11) (i := 0) (r := 1) rfl W60 (by decide +kernel)
  refine ⟨by decide, by decide, ?_⟩
  try rw [show ((10 : Int32)).toNatClampNeg = 10 from rfl]
  refine n_NewA (σ' := en_62) 112 0 hx23 W61 rfl (by decide) (by decide +kernel) rfl (fun A24 W62 hx24 hN24 => ?_)
  have a24_7_0 : A23.1 7 0 = A24.1 7 0 := (hN24.1 7 0 (by decide +kernel)).symm
  have a24_8_0 : A23.1 8 0 = A24.1 8 0 := (hN24.1 8 0 (by decide +kernel)).symm
  rw [a24_7_0, a24_8_0]
  try dsimp only
  rw [n_PutR (A := A24) (k := 8) (f := 12) (i := 0) (t := 112) (j := 0) en_63 rfl W62 (by decide +kernel) rfl (by decide)]
  have W63 : WF A24 en_63 := n_WR (k := 8) (f := 12) (i := 0) (r := 1) rfl W62 (by decide +kernel)
  refine ⟨by decide, by decide, ?_⟩
  try rw [show ((10 : Int32)).toNatClampNeg = 10 from rfl]
  refine n_NewA (σ' := en_64) 113 0 hx24 W63 rfl (by decide) (by decide +kernel) rfl (fun A25 W64 hx25 hN25 => ?_)
  have a25_7_0 : A24.1 7 0 = A25.1 7 0 := (hN25.1 7 0 (by decide +kernel)).symm
  have a25_8_0 : A24.1 8 0 = A25.1 8 0 := (hN25.1 8 0 (by decide +kernel)).symm
  rw [a25_7_0, a25_8_0]
  try dsimp only
  rw [n_PutR (A := A25) (k := 8) (f := 13) (i := 0) (t := 113) (j := 0) en_65 rfl W64 (by decide +kernel) rfl (by decide)]
  have W65 : WF A25 en_65 := n_WR (k := 8) (f := 13) (i := 0) (r := 1) rfl W64 (by decide +kernel)
  refine ⟨by decide, by decide, ?_⟩
  try rw [show ((10 : Int32)).toNatClampNeg = 10 from rfl]
  refine n_NewA (σ' := en_66) 114 0 hx25 W65 rfl (by decide) (by decide +kernel) rfl (fun A26 W66 hx26 hN26 => ?_)
  have a26_7_0 : A25.1 7 0 = A26.1 7 0 := (hN26.1 7 0 (by decide +kernel)).symm
  have a26_8_0 : A25.1 8 0 = A26.1 8 0 := (hN26.1 8 0 (by decide +kernel)).symm
  rw [a26_7_0, a26_8_0]
  try dsimp only
  rw [n_PutR (A := A26) (k := 8) (f := 14) (i := 0) (t := 114) (j := 0) en_67 rfl W66 (by decide +kernel) rfl (by decide)]
  have W67 : WF A26 en_67 := n_WR (k := 8) (f := 14) (i := 0) (r := 1) rfl W66 (by decide +kernel)
  refine ⟨by decide, by decide, ?_⟩
  try rw [show ((10 : Int32)).toNatClampNeg = 10 from rfl]
  refine n_NewA (σ' := en_68) 115 0 hx26 W67 rfl (by decide) (by decide +kernel) rfl (fun A27 W68 hx27 hN27 => ?_)
  have a27_7_0 : A26.1 7 0 = A27.1 7 0 := (hN27.1 7 0 (by decide +kernel)).symm
  have a27_8_0 : A26.1 8 0 = A27.1 8 0 := (hN27.1 8 0 (by decide +kernel)).symm
  rw [a27_7_0, a27_8_0]
  try dsimp only
  rw [n_PutR (A := A27) (k := 8) (f := 15) (i := 0) (t := 115) (j := 0) en_69 rfl W68 (by decide +kernel) rfl (by decide)]
  have W69 : WF A27 en_69 := n_WR (k := 8) (f := 15) (i := 0) (r := 1) rfl W68 (by decide +kernel)
  refine ⟨by decide, by decide, ?_⟩
  try rw [show ((10 : Int32)).toNatClampNeg = 10 from rfl]
  refine n_NewA (σ' := en_70) 116 0 hx27 W69 rfl (by decide) (by decide +kernel) rfl (fun A28 W70 hx28 hN28 => ?_)
  have a28_7_0 : A27.1 7 0 = A28.1 7 0 := (hN28.1 7 0 (by decide +kernel)).symm
  have a28_8_0 : A27.1 8 0 = A28.1 8 0 := (hN28.1 8 0 (by decide +kernel)).symm
  rw [a28_7_0, a28_8_0]
  try dsimp only
  rw [n_PutR (A := A28) (k := 8) (f := 16) (i := 0) (t := 116) (j := 0) en_71 rfl W70 (by decide +kernel) rfl (by decide)]
  have W71 : WF A28 en_71 := n_WR (k := 8) (f := 16) (i := 0) (r := 1) rfl W70 (by decide +kernel)
  refine ⟨by decide, by decide, ?_⟩
  try rw [show ((10 : Int32)).toNatClampNeg = 10 from rfl]
  refine n_NewA (σ' := en_72) 117 0 hx28 W71 rfl (by decide) (by decide +kernel) rfl (fun A29 W72 hx29 hN29 => ?_)
  have a29_7_0 : A28.1 7 0 = A29.1 7 0 := (hN29.1 7 0 (by decide +kernel)).symm
  have a29_8_0 : A28.1 8 0 = A29.1 8 0 := (hN29.1 8 0 (by decide +kernel)).symm
  rw [a29_7_0, a29_8_0]
  try dsimp only
  rw [n_PutR (A := A29) (k := 8) (f := 17) (i := 0) (t := 117) (j := 0) en_73 rfl W72 (by decide +kernel) rfl (by decide)]
  have W73 : WF A29 en_73 := n_WR (k := 8) (f := 17) (i := 0) (r := 1) rfl W72 (by decide +kernel)
  refine ⟨by decide, by decide, ?_⟩
  try rw [show ((10 : Int32)).toNatClampNeg = 10 from rfl]
  refine n_NewA (σ' := en_74) 118 0 hx29 W73 rfl (by decide) (by decide +kernel) rfl (fun A30 W74 hx30 hN30 => ?_)
  have a30_7_0 : A29.1 7 0 = A30.1 7 0 := (hN30.1 7 0 (by decide +kernel)).symm
  have a30_8_0 : A29.1 8 0 = A30.1 8 0 := (hN30.1 8 0 (by decide +kernel)).symm
  rw [a30_7_0, a30_8_0]
  try dsimp only
  rw [n_PutR (A := A30) (k := 8) (f := 18) (i := 0) (t := 118) (j := 0) en_75 rfl W74 (by decide +kernel) rfl (by decide)]
  have W75 : WF A30 en_75 := n_WR (k := 8) (f := 18) (i := 0) (r := 1) rfl W74 (by decide +kernel)
  refine ⟨by decide, by decide, ?_⟩
  try rw [show ((10 : Int32)).toNatClampNeg = 10 from rfl]
  refine n_NewA (σ' := en_76) 119 0 hx30 W75 rfl (by decide) (by decide +kernel) rfl (fun A31 W76 hx31 hN31 => ?_)
  have a31_7_0 : A30.1 7 0 = A31.1 7 0 := (hN31.1 7 0 (by decide +kernel)).symm
  have a31_8_0 : A30.1 8 0 = A31.1 8 0 := (hN31.1 8 0 (by decide +kernel)).symm
  rw [a31_7_0, a31_8_0]
  try dsimp only
  rw [n_PutR (A := A31) (k := 8) (f := 19) (i := 0) (t := 119) (j := 0) en_77 rfl W76 (by decide +kernel) rfl (by decide)]
  have W77 : WF A31 en_77 := n_WR (k := 8) (f := 19) (i := 0) (r := 1) rfl W76 (by decide +kernel)
  refine ⟨by decide, by decide, ?_⟩
  try rw [show ((10 : Int32)).toNatClampNeg = 10 from rfl]
  refine n_NewA (σ' := en_78) 120 0 hx31 W77 rfl (by decide) (by decide +kernel) rfl (fun A32 W78 hx32 hN32 => ?_)
  have a32_7_0 : A31.1 7 0 = A32.1 7 0 := (hN32.1 7 0 (by decide +kernel)).symm
  have a32_8_0 : A31.1 8 0 = A32.1 8 0 := (hN32.1 8 0 (by decide +kernel)).symm
  rw [a32_7_0, a32_8_0]
  try dsimp only
  rw [n_PutR (A := A32) (k := 8) (f := 20) (i := 0) (t := 120) (j := 0) en_79 rfl W78 (by decide +kernel) rfl (by decide)]
  have W79 : WF A32 en_79 := n_WR (k := 8) (f := 20) (i := 0) (r := 1) rfl W78 (by decide +kernel)
  try dsimp only
  rw [n_PutI (A := A32) (k := 8) (f := 23) (i := 0) (x := 200) en_80 rfl W79 (by decide +kernel) rfl]
  have W80 : WF A32 en_80 := n_WV (k := 8) (f := 23) (i := 0) (x := 200) rfl W79
  try dsimp only
  rw [n_PutF (A := A32) (k := 8) (f := 25) (i := 0) (x := 1056964608) en_81 rfl W80 (by decide +kernel) rfl]
  have W81 : WF A32 en_81 := n_WV (k := 8) (f := 25) (i := 0) (x := (1056964608 : UInt32).toInt32) rfl W80
  try dsimp only
  rw [n_PutF (A := A32) (k := 8) (f := 26) (i := 0) (x := 1056964608) en_82 rfl W81 (by decide +kernel) rfl]
  have W82 : WF A32 en_82 := n_WV (k := 8) (f := 26) (i := 0) (x := (1056964608 : UInt32).toInt32) rfl W81
  refine n_Mna (σ' := en_83) 127 227 hx32 W82 rfl (by decide) (by decide) rfl (by decide) (by decide) rfl (by decide +kernel) (by decide +kernel) rfl (fun A33 W83 hx33 hN33 r33 => ?_)
  have a33_7_0 : A32.1 7 0 = A33.1 7 0 := (hN33.1 7 0 (by decide +kernel)).symm
  have a33_8_0 : A32.1 8 0 = A33.1 8 0 := (hN33.1 8 0 (by decide +kernel)).symm
  rw [a33_7_0, a33_8_0]
  try dsimp only
  rw [n_PutR (A := A33) (k := 8) (f := 27) (i := 0) (t := 127) (j := 0) en_84 rfl W83 (by decide +kernel) rfl (by decide)]
  have W84 : WF A33 en_84 := n_WR (k := 8) (f := 27) (i := 0) (r := 1) rfl W83 (by decide +kernel)
  refine ⟨by decide, by decide, ?_⟩
  try rw [show ((30 : Int32)).toNatClampNeg = 30 from rfl]
  refine n_NewA (σ' := en_85) 128 0 hx33 W84 rfl (by decide) (by decide +kernel) rfl (fun A34 W85 hx34 hN34 => ?_)
  have a34_7_0 : A33.1 7 0 = A34.1 7 0 := (hN34.1 7 0 (by decide +kernel)).symm
  have a34_8_0 : A33.1 8 0 = A34.1 8 0 := (hN34.1 8 0 (by decide +kernel)).symm
  rw [a34_7_0, a34_8_0]
  try dsimp only
  rw [n_PutR (A := A34) (k := 8) (f := 28) (i := 0) (t := 128) (j := 0) en_86 rfl W85 (by decide +kernel) rfl (by decide)]
  have W86 : WF A34 en_86 := n_WR (k := 8) (f := 28) (i := 0) (r := 1) rfl W85 (by decide +kernel)
  refine ⟨by decide, by decide, ?_⟩
  try rw [show ((30 : Int32)).toNatClampNeg = 30 from rfl]
  refine n_NewA (σ' := en_87) 129 0 hx34 W86 rfl (by decide) (by decide +kernel) rfl (fun A35 W87 hx35 hN35 => ?_)
  have a35_7_0 : A34.1 7 0 = A35.1 7 0 := (hN35.1 7 0 (by decide +kernel)).symm
  have a35_8_0 : A34.1 8 0 = A35.1 8 0 := (hN35.1 8 0 (by decide +kernel)).symm
  rw [a35_7_0, a35_8_0]
  try dsimp only
  rw [n_PutR (A := A35) (k := 8) (f := 29) (i := 0) (t := 129) (j := 0) en_88 rfl W87 (by decide +kernel) rfl (by decide)]
  have W88 : WF A35 en_88 := n_WR (k := 8) (f := 29) (i := 0) (r := 1) rfl W87 (by decide +kernel)
  refine ⟨by decide, by decide, ?_⟩
  try rw [show ((30 : Int32)).toNatClampNeg = 30 from rfl]
  refine n_NewA (σ' := en_89) 130 0 hx35 W88 rfl (by decide) (by decide +kernel) rfl (fun A36 W89 hx36 hN36 => ?_)
  have a36_7_0 : A35.1 7 0 = A36.1 7 0 := (hN36.1 7 0 (by decide +kernel)).symm
  have a36_8_0 : A35.1 8 0 = A36.1 8 0 := (hN36.1 8 0 (by decide +kernel)).symm
  rw [a36_7_0, a36_8_0]
  try dsimp only
  rw [n_PutR (A := A36) (k := 8) (f := 30) (i := 0) (t := 130) (j := 0) en_90 rfl W89 (by decide +kernel) rfl (by decide)]
  have W90 : WF A36 en_90 := n_WR (k := 8) (f := 30) (i := 0) (r := 1) rfl W89 (by decide +kernel)
  refine ⟨by decide, by decide, ?_⟩
  try rw [show ((6 : Int32)).toNatClampNeg = 6 from rfl]
  refine n_NewA (σ' := en_91) 132 0 hx36 W90 rfl (by decide) (by decide +kernel) rfl (fun A37 W91 hx37 hN37 => ?_)
  have a37_7_0 : A36.1 7 0 = A37.1 7 0 := (hN37.1 7 0 (by decide +kernel)).symm
  have a37_8_0 : A36.1 8 0 = A37.1 8 0 := (hN37.1 8 0 (by decide +kernel)).symm
  rw [a37_7_0, a37_8_0]
  try dsimp only
  rw [n_PutR (A := A37) (k := 8) (f := 32) (i := 0) (t := 132) (j := 0) en_92 rfl W91 (by decide +kernel) rfl (by decide)]
  have W92 : WF A37 en_92 := n_WR (k := 8) (f := 32) (i := 0) (r := 1) rfl W91 (by decide +kernel)
  refine n_New (σ' := en_93) 9 1 hx37 W92 rfl rfl (by decide +kernel) rfl (fun A38 W93 hx38 hN38 => ?_)
  have a38_7_0 : A37.1 7 0 = A38.1 7 0 := (hN38.1 7 0 (by decide +kernel)).symm
  have a38_8_0 : A37.1 8 0 = A38.1 8 0 := (hN38.1 8 0 (by decide +kernel)).symm
  rw [a38_7_0, a38_8_0]
  try unfold w_J4_init_da8c8
  refine ⟨_, rfl, ?_⟩
  try unfold w_J5_init_d00df
  refine ⟨_, rfl, ?_⟩
  rw [if_neg (by decide)]
  refine ⟨by decide, by decide, ?_⟩
  try rw [show ((16 : Int32)).toNatClampNeg = 16 from rfl]
  refine n_NewA (σ' := en_94) 50 1 hx38 W93 rfl (by decide) (by decide +kernel) rfl (fun A39 W94 hx39 hN39 => ?_)
  have a39_7_0 : A38.1 7 0 = A39.1 7 0 := (hN39.1 7 0 (by decide +kernel)).symm
  have a39_8_0 : A38.1 8 0 = A39.1 8 0 := (hN39.1 8 0 (by decide +kernel)).symm
  have a39_9_1 : A38.1 9 1 = A39.1 9 1 := (hN39.1 9 1 (by decide +kernel)).symm
  rw [a39_7_0, a39_8_0, a39_9_1]
  try dsimp only
  rw [n_PutR (A := A39) (k := 9) (f := 0) (i := 1) (t := 50) (j := 1) en_95 rfl W94 (by decide +kernel) rfl (by decide)]
  have W95 : WF A39 en_95 := n_WR (k := 9) (f := 0) (i := 1) (r := 2) rfl W94 (by decide +kernel)
  try dsimp only
  rw [n_PutI (A := A39) (k := 9) (f := 1) (i := 1) (x := 0) en_96 rfl W95 (by decide +kernel) rfl]
  have W96 : WF A39 en_96 := n_WV (k := 9) (f := 1) (i := 1) (x := 0) rfl W95
  try dsimp only
  rw [n_PutR (A := A39) (k := 8) (f := 34) (i := 0) (t := 9) (j := 1) en_97 rfl W96 (by decide +kernel) rfl (by decide)]
  have W97 : WF A39 en_97 := n_WR (k := 8) (f := 34) (i := 0) (r := 2) rfl W96 (by decide +kernel)
  refine ⟨by decide, by decide, ?_⟩
  try rw [show ((1 : Int32)).toNatClampNeg = 1 from rfl]
  refine n_NewJ (σ' := en_98) hx39 W97 (by decide +kernel) rfl rfl (fun A40 W98 hx40 hN40 => ?_)
  have a40_7_0 : A39.1 7 0 = A40.1 7 0 := (hN40.1 7 0 (by decide +kernel)).symm
  have a40_8_0 : A39.1 8 0 = A40.1 8 0 := (hN40.1 8 0 (by decide +kernel)).symm
  rw [a40_7_0, a40_8_0]
  refine ⟨by decide, by decide, ?_⟩
  try rw [show ((1 : Int32)).toNatClampNeg = 1 from rfl]
  refine n_NewD (σ' := en_99) hx40 W98 (by decide +kernel) rfl rfl (fun A41 W99 hx41 hN41 => ?_)
  have a41_7_0 : A40.1 7 0 = A41.1 7 0 := (hN41.1 7 0 (by decide +kernel)).symm
  have a41_8_0 : A40.1 8 0 = A41.1 8 0 := (hN41.1 8 0 (by decide +kernel)).symm
  have a41_60_0 : A40.1 60 0 = A41.1 60 0 := (hN41.1 60 0 (by decide +kernel)).symm
  rw [a41_7_0, a41_8_0, a41_60_0]
  exact ⟨A41, en_99, W99, hx41, ep_PI, rfl, rfl, rfl, rfl, rfl⟩
