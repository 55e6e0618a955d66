theorem zt3 {A : Ad} {σ : St} {K : Int32 → Prop} (W : WF A σ) (h8 : 0 < gL σ 8) : wGetI (hp A (sV σ 8 36 0 1)) (some (A.1 8 0)) 8 36 K = K 1 := by
  simp (config := { decide := true }) only [e_GetI, WF_sV, W, h8, gL_sV]
  exact True.intro
