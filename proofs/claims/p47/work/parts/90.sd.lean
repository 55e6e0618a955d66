/-! READS over a state up to its ghost columns -/
section SDR
variable {σ : St} {X : Cx} {o : Option Nat} {g : GM} {px : String → GM → Prop}

theorem sd_of2 {post : Int32 → GM → Prop} (S : SD X o σ g) (P : PI σ) (v : Int32) : w_L_ofq X post px o v 2 g = post (oi (gL σ 1) v (gV σ 1 7)) g := by
  obtain ⟨A, W, hx, rfl, rfl⟩ := S
  exact r_of2 hx W P v
theorem sd_of3 {post : Int32 → GM → Prop} (S : SD X o σ g) (P : PI σ) (v : Int32) : w_L_ofq X post px o v 3 g = post (oi (gL σ 1) v (gV σ 1 10)) g := by
  obtain ⟨A, W, hx, rfl, rfl⟩ := S
  exact r_of3 hx W P v
theorem sd_of4 {post : Int32 → GM → Prop} (S : SD X o σ g) (P : PI σ) (v : Int32) : w_L_ofq X post px o v 4 g = post (oi (gL σ 1) v (v_hold σ)) g := by
  obtain ⟨A, W, hx, rfl, rfl⟩ := S
  exact r_of4 hx W P v
theorem sd_of5 {post : Int32 → GM → Prop} (S : SD X o σ g) (P : PI σ) (v : Int32) : w_L_ofq X post px o v 5 g = post (oi (gL σ 1) v (v_reach σ)) g := by
  obtain ⟨A, W, hx, rfl, rfl⟩ := S
  exact r_of5 hx W P v
theorem sd_of6 {post : Int32 → GM → Prop} (S : SD X o σ g) (P : PI σ) (v : Int32) : w_L_ofq X post px o v 6 g = post (oi (gL σ 1) v (v_reach σ)) g := by
  obtain ⟨A, W, hx, rfl, rfl⟩ := S
  exact r_of6 hx W P v
theorem sd_of7 {post : Int32 → GM → Prop} (S : SD X o σ g) (P : PI σ) (v : Int32) : w_L_ofq X post px o v 7 g = post (oi (gL σ 1) v (gV σ 20 1)) g := by
  obtain ⟨A, W, hx, rfl, rfl⟩ := S
  exact r_of7 hx W P v
theorem sd_of8 {post : Int32 → GM → Prop} (S : SD X o σ g) (P : PI σ) (v : Int32) : w_L_ofq X post px o v 8 g = post (oi (gL σ 1) v (gV σ 1 12)) g := by
  obtain ⟨A, W, hx, rfl, rfl⟩ := S
  exact r_of8 hx W P v
theorem sd_c {post : Int32 → GM → Prop} (S : SD X o σ g) (P : PI σ) (v w : Int32) : w_L_both X post px o 99 v w g = post (oi (gL σ 2) v (fun d => oi (gL σ 1) w (fun b => cu_op σ b d))) g := by
  obtain ⟨A, W, hx, rfl, rfl⟩ := S
  exact r_c hx W P v w
theorem sd_o {post : Int32 → GM → Prop} (S : SD X o σ g) (P : PI σ) (v w : Int32) : w_L_both X post px o 111 v w g = post (oi (gL σ 2) v (v_own σ w)) g := by
  obtain ⟨A, W, hx, rfl, rfl⟩ := S
  exact r_o hx W P v w
theorem sd_u {post : Int32 → GM → Prop} (S : SD X o σ g) (P : PI σ) (v w : Int32) : w_L_both X post px o 117 v w g = post (oi (gL σ 2) v (v_use σ w)) g := by
  obtain ⟨A, W, hx, rfl, rfl⟩ := S
  exact r_u hx W P v w
theorem sd_p {post : Int32 → GM → Prop} (S : SD X o σ g) (P : PI σ) (v w : Int32) : w_L_both X post px o 112 v w g = post (oi (gL σ 1) v (v_aft σ w)) g := by
  obtain ⟨A, W, hx, rfl, rfl⟩ := S
  exact r_p hx W P v w
theorem sd_d0 {post : Int32 → GM → Prop} (S : SD X o σ g) (P : PI σ) (v : Int32) : w_L_device X post px o v 0 g = post (oi (gL σ 2) v (v_off σ)) g := by
  obtain ⟨A, W, hx, rfl, rfl⟩ := S
  exact r_d0 hx W P v
theorem sd_d2 {post : Int32 → GM → Prop} (S : SD X o σ g) (P : PI σ) (v : Int32) : w_L_device X post px o v 2 g = post (oi (gL σ 2) v (v_has σ)) g := by
  obtain ⟨A, W, hx, rfl, rfl⟩ := S
  exact r_d2 hx W P v
theorem sd_a0 {post : Int32 → GM → Prop} (S : SD X o σ g) (P : PI σ)  : w_L_asked X post px o 0 g = post (v_next σ) g := by
  obtain ⟨A, W, hx, rfl, rfl⟩ := S
  exact r_a0 hx W P
theorem sd_a2 {post : Int32 → GM → Prop} (S : SD X o σ g) (P : PI σ)  : w_L_asked X post px o 2 g = post (v_worst σ) g := by
  obtain ⟨A, W, hx, rfl, rfl⟩ := S
  exact r_a2 hx W P
theorem sd_g1 {post : Int32 → GM → Prop} (S : SD X o σ g) (P : PI σ) (v : Int32) (h9 : (v = (-9 : Int32)) = False) : w_L_group X post px o v (-1) g = post (oi (gL σ 4) v (gV σ 4 2)) g := by
  obtain ⟨A, W, hx, rfl, rfl⟩ := S
  exact r_g1 hx W P v h9
theorem sd_g2 {post : Int32 → GM → Prop} (S : SD X o σ g) (P : PI σ) (v : Int32) (h9 : (v = (-9 : Int32)) = False) : w_L_group X post px o v (-2) g = post (oi (gL σ 4) v (gV σ 4 3)) g := by
  obtain ⟨A, W, hx, rfl, rfl⟩ := S
  exact r_g2 hx W P v h9
theorem sd_bs {post : Int32 → GM → Prop} (S : SD X o σ g) (P : PI σ)  : w_L_builds X post px o g = post (nI (gL σ 1)) g := by
  obtain ⟨A, W, hx, rfl, rfl⟩ := S
  exact q_bs hx W P
theorem sd_ds {post : Int32 → GM → Prop} (S : SD X o σ g) (P : PI σ)  : w_L_devices X post px o g = post (nI (gL σ 2)) g := by
  obtain ⟨A, W, hx, rfl, rfl⟩ := S
  exact q_ds hx W P
theorem sd_sum {post : Int64 → GM → Prop} (S : SD X o σ g) (P : PI σ)  : w_L_sum X post px o g = post (SUM σ) g := by
  obtain ⟨A, W, hx, rfl, rfl⟩ := S
  exact q_sum hx W P
theorem sd_gr {post : Int32 → GM → Prop} (S : SD X o σ g) (P : PI σ)  : wIs g o 7 (w_X7_groups X post px o g) = post (nI (gL σ 4)) g := by
  obtain ⟨A, W, hx, rfl, rfl⟩ := S
  exact q_gr W P
theorem sd_cr {post : UInt32 → GM → Prop} (S : SD X o σ g) (P : PI σ) (v : Int32) : w_L_like X post px o v (-9) g = post (oF (gL σ 1) v (v_cr σ)) g := by
  obtain ⟨A, W, hx, rfl, rfl⟩ := S
  exact r_cr hx W P v
theorem sd_lk {post : UInt32 → GM → Prop} (S : SD X o σ g) (P : PI σ) (v w : Int32) (h9 : (w = (-9 : Int32)) = False) : w_L_like X post px o v w g = post (oF (gL σ 4) v (fun g => oF (gL σ 4) w (fun h => v_lk σ g h))) g := by
  obtain ⟨A, W, hx, rfl, rfl⟩ := S
  exact r_lk hx W P v w h9
theorem sd_rt {post : UInt64 → GM → Prop} (S : SD X o σ g) (P : PI σ) (v : Int32) : w_L_rating X post px o v g = post (if v < 0 ∨ nI (gL σ 1) - 1 < v then 13830554455654793216 else v_rt σ v.toNatClampNeg) g := by
  obtain ⟨A, W, hx, rfl, rfl⟩ := S
  exact r_rt hx W P v
theorem sd_rb {post : Int64 → GM → Prop} (S : SD X o σ g) (P : PI σ) (v : Int32) : w_L_ratingBits X post px o v g = post (if v < 0 ∨ nI (gL σ 1) - 1 < v then -1001 else v_rb σ v.toNatClampNeg) g := by
  obtain ⟨A, W, hx, rfl, rfl⟩ := S
  exact r_rb hx W P v
theorem sd_sound {n : Nat} {post : Int32 → GM → Prop} (S : SD X o σ g) (P : PI σ) (R : RN n σ) (hn : n ≤ 1000) (kk : ∀ (τ : St) (g' : GM), SD X o τ g' → PI τ → cv τ = cv σ → post 1 g') : w_L_isSound X post px o g := by
  obtain ⟨A, W, hx, rfl, rfl⟩ := S
  exact q_sound hx W P R hn (fun A' τ W' hx' h7 P' c' => kk τ _ ⟨A', W', hx', by rw [h7], rfl⟩ P' c')
end SDR
