/-! allocation: rows of arrays, the law's result cells -/
section MN
variable {A : Ad} {σ : St} {X : Cx}
theorem hc_gen {A' : Ad} {σ' : St} {k' i' : Nat} (W : WF A σ) (h : Nx A A' σ) (hi : i' < gL σ k') (eV : ∀ f, gV σ' k' f i' = gV σ k' f i') (eR : ∀ f, gR σ' k' f i' = gR σ k' f i') (eN : gN σ' k' i' = gN σ k' i') (eJ : gJ σ' = gJ σ) (eD : gD σ' = gD σ) : hc A' σ' k' i' = hc A σ k' i' := by
  unfold hc
  by_cases h1 : hC k' = 99
  · rw [if_pos h1, if_pos h1]
    unfold ha
    rw [eN, eJ, eD]
    simp only [eV, eR]
    have : (fun j => hr A' (hE k') (gR σ k' j i')) = (fun j => hr A (hE k') (gR σ k' j i')) := by
      funext j
      refine hr_Nx h ?_
      have := W.2.2 k' j i' hi
      unfold hG hS at this
      rwa [if_pos h1, if_pos h1] at this
    rw [this]
  · rw [if_neg h1, if_neg h1]
    unfold hf
    have : (List.range (hFn (hC k'))).map (fun f => hv A' (hT k' f) (gV σ' k' f i') (gR σ' k' f i')) = (List.range (hFn (hC k'))).map (fun f => hv A (hT k' f) (gV σ k' f i') (gR σ k' f i')) := by
      refine List.map_congr_left (fun f _ => ?_)
      rw [eV, eR]
      have hw := W.2.2 k' f i' hi
      unfold hG hS at hw
      rw [if_neg h1, if_neg h1] at hw
      unfold hv
      by_cases t0 : hT k' f = 0
      · rw [if_pos t0, if_pos t0]
      · rw [if_neg t0, if_neg t0]
        by_cases t1 : hT k' f = 1
        · rw [if_pos t1, if_pos t1]
        · rw [if_neg t1, if_neg t1]
          by_cases t2 : hT k' f < 1000
          · rw [if_pos t2, if_pos t2] at hw
            rw [if_pos t2, if_pos t2, hr_Nx h hw]
          · rw [if_neg t2, if_neg t2] at hw
            rw [if_neg t2, if_neg t2, hrz_Nx h hw]
    rw [this]
def sM (σ : St) (ko ki N K : Nat) : St := (fun k => if k = ko then 1 else if k = ki then N else gL σ k, fun k f i => if k = ko ∨ k = ki then 0 else gV σ k f i, fun k f i => if k = ko then (if f < N then f + 1 else 0) else if k = ki then 0 else gR σ k f i, fun k i => if k = ko then N else if k = ki then K else gN σ k i, gJ σ, gD σ)
theorem gL_sM {ko ki N K k : Nat} : gL (sM σ ko ki N K) k = if k = ko then 1 else if k = ki then N else gL σ k := Eq.trans rfl rfl
theorem gV_sM {ko ki N K k f i : Nat} : gV (sM σ ko ki N K) k f i = if k = ko ∨ k = ki then 0 else gV σ k f i := Eq.trans rfl rfl
theorem gR_sM {ko ki N K k f i : Nat} : gR (sM σ ko ki N K) k f i = if k = ko then (if f < N then f + 1 else 0) else if k = ki then 0 else gR σ k f i := Eq.trans rfl rfl
theorem gN_sM {ko ki N K k i : Nat} : gN (sM σ ko ki N K) k i = if k = ko then N else if k = ki then K else gN σ k i := Eq.trans rfl rfl
noncomputable def Am (A : Ad) (ko ki N q : Nat) (r : Nat → Nat) : Ad := (fun k i => if k = ko then q else if k = ki then r i else A.1 k i, fun b => if b = q then some (ko, 0) else (have := Classical.propDecidable (∃ i, i < N ∧ r i = b); if h : ∃ i, i < N ∧ r i = b then some (ki, Classical.choose h) else A.2.1 b), A.2.2)
theorem Am_q {ko ki N q : Nat} {r : Nat → Nat} : (Am A ko ki N q r).2.1 q = some (ko, 0) := if_pos rfl
theorem Am_r {ko ki N q i : Nat} {r : Nat → Nat} (hi : i < N) (h1 : r i ≠ q) (h3 : ∀ i j, i < N → j < N → r i = r j → i = j) : (Am A ko ki N q r).2.1 (r i) = some (ki, i) := by
  have h : ∃ j, j < N ∧ r j = r i := ⟨i, hi, rfl⟩
  refine (if_neg h1).trans ((dif_pos h).trans ?_)
  have hs := Classical.choose_spec h
  rw [h3 _ _ hs.1 hi hs.2]
theorem Am_o {ko ki N q b : Nat} {r : Nat → Nat} (h1 : b ≠ q) (h : ¬ ∃ i, i < N ∧ r i = b) : (Am A ko ki N q r).2.1 b = A.2.1 b := (if_neg h1).trans (dif_neg h)
theorem Am_1o {ko ki N q k i : Nat} {r : Nat → Nat} (h1 : k ≠ ko) (h2 : k ≠ ki) : (Am A ko ki N q r).1 k i = A.1 k i := (if_neg h1).trans (if_neg h2)
theorem e_Mna {a a' N K : Nat} {kont : Nat → (Nat → Nat) → GM → Prop} (ko ki : Nat) (hx : hX X A) (W : WF A σ) (hko : hak ko a = true) (h4 : ¬ a < 4) (h7 : a < 7) (hki : hak ki a' = true) (h4' : a' < 4) (hne : ki ≠ ko) (he : hE ko = ki) (z1 : gL σ ko = 0) (z2 : gL σ ki = 0) (kk : ∀ A' : Ad, WF A' (sM σ ko ki N K) → hX X A' → Nx A A' σ → ∀ r', kont (A'.1 ko 0) r' (hp A' (sM σ ko ki N K))) : wMna X (hp A σ) a a' N K kont := by
  intro q r hq hb hr1 hr2 hr3
  have hq' := hp_none hq
  have hr' : ∀ i, i < N → A.2.1 (r i) = none := fun i hi => hp_none (hr1 i hi).1
  have hN : Nx A (Am A ko ki N q r) σ := ⟨fun k i hi => Am_1o (fun z => by rw [z, z1] at hi; omega) (fun z => by rw [z, z2] at hi; omega), rfl⟩
  have old : ∀ k i, A.2.1 (A.1 k i) = some (k, i) → (Am A ko ki N q r).2.1 (A.1 k i) = some (k, i) := fun k i h => by
    rw [Am_o (fun z => by rw [z, hq'] at h; cases h) (fun ⟨j, hj, z⟩ => by rw [← z, hr' j hj] at h; cases h)]
    exact h
  have W' : WF (Am A ko ki N q r) (sM σ ko ki N K) := by
    refine ⟨fun k i hi => ?_, fun b k i h => ?_, fun k f i hi => ?_⟩
    · rw [gL_sM] at hi
      by_cases e1 : k = ko
      · rw [if_pos e1] at hi
        have h0 : i = 0 := by omega
        have ha1 : (Am A ko ki N q r).1 k i = q := if_pos e1
        rw [ha1, Am_q, e1, h0]
        exact ⟨rfl, by rw [show (Am A ko ki N q r).2.2.2.1 = A.2.2.2.1 from rfl, hx.1]; exact hb⟩
      · rw [if_neg e1] at hi
        by_cases e2 : k = ki
        · rw [if_pos e2] at hi
          have ha1 : (Am A ko ki N q r).1 k i = r i := (if_neg e1).trans (if_pos e2)
          rw [ha1, Am_r hi (hr1 i hi).2 hr3, e2]
          exact ⟨rfl, by rw [show (Am A ko ki N q r).2.2.2.1 = A.2.2.2.1 from rfl, hx.1]; exact hr2 i hi⟩
        · rw [if_neg e2] at hi
          rw [Am_1o e1 e2]
          exact ⟨old k i (W.1 k i hi).1, (W.1 k i hi).2⟩
    · by_cases e1 : b = q
      · rw [e1, Am_q] at h
        cases h
        refine ⟨?_, ?_⟩
        · rw [e1]; exact if_pos rfl
        · rw [gL_sM, if_pos rfl]; omega
      · by_cases e2 : ∃ i, i < N ∧ r i = b
        · obtain ⟨j, hj, rfl⟩ := e2
          rw [Am_r hj e1 hr3] at h
          cases h
          refine ⟨(if_neg hne).trans (if_pos rfl), ?_⟩
          rw [gL_sM, if_neg hne, if_pos rfl]; exact hj
        · rw [Am_o e1 e2] at h
          obtain ⟨y1, y2⟩ := W.2.1 b k i h
          have n1 : k ≠ ko := fun z => by rw [z, z1] at y2; omega
          have n2 : k ≠ ki := fun z => by rw [z, z2] at y2; omega
          rw [Am_1o n1 n2, gL_sM, if_neg n1, if_neg n2]
          exact ⟨y1, y2⟩
    · have hle : ∀ t, gL σ t ≤ gL (sM σ ko ki N K) t := fun t => by
        rw [gL_sM]
        by_cases e1 : t = ko
        · rw [if_pos e1, e1, z1]; omega
        · rw [if_neg e1]
          by_cases e2 : t = ki
          · rw [if_pos e2, e2, z2]; omega
          · rw [if_neg e2]; exact Nat.le_refl _
      rw [gR_sM]
      by_cases e1 : k = ko
      · rw [if_pos e1]
        have eg : hG k f = ki := by
          rw [e1]
          unfold hG
          rw [if_pos (hak_spec hko).1, he]
        rw [eg, gL_sM, if_neg hne, if_pos rfl]
        by_cases e2 : f < N
        · rw [if_pos e2]; omega
        · rw [if_neg e2]; omega
      · rw [if_neg e1]
        by_cases e2 : k = ki
        · rw [if_pos e2]; omega
        · rw [if_neg e2]
          rw [gL_sM, if_neg e1, if_neg e2] at hi
          have := W.2.2 k f i hi
          have := hle (hG k f)
          omega
  have hh : gmna (hp A σ) q a a' N K r = hp (Am A ko ki N q r) (sM σ ko ki N K) := by
    funext b
    unfold gmna
    by_cases e1 : b = q
    · rw [if_pos e1]
      unfold hp
      rw [e1, Am_q]
      show _ = some (hc (Am A ko ki N q r) (sM σ ko ki N K) ko 0)
      rw [hc_arr (hak_spec hko).1, ha_Q hko h4 h7, (hak_spec hko).2, gN_sM, if_pos rfl]
      have : (fun j => hr (Am A ko ki N q r) (hE ko) (gR (sM σ ko ki N K) ko j 0)) = fun i => if i < N then some (r i) else none := by
        funext j
        rw [gR_sM, if_pos rfl, he]
        by_cases e2 : j < N
        · rw [if_pos e2, if_pos e2, hr_s]
          exact congrArg some ((if_neg hne).trans (if_pos rfl))
        · rw [if_neg e2, if_neg e2, hr_0]
      rw [this]
    · rw [if_neg e1]
      by_cases e2 : ∃ i, i < N ∧ r i = b
      · obtain ⟨j, hj, rfl⟩ := e2
        rw [if_pos (List.mem_map.mpr ⟨j, List.mem_range.mpr hj, rfl⟩)]
        unfold hp
        rw [Am_r hj e1 hr3]
        show _ = some (hc (Am A ko ki N q r) (sM σ ko ki N K) ki j)
        rw [hc_arr (hak_spec hki).1, ha_I hki h4', (hak_spec hki).2, gN_sM, if_neg hne, if_pos rfl]
        have : (fun f => gV (sM σ ko ki N K) ki f j) = fun _ => 0 := by
          funext f
          rw [gV_sM, if_pos (Or.inr rfl)]
        rw [this]
      · rw [if_neg (fun z => by
          obtain ⟨j, hj, z2⟩ := List.mem_map.mp z
          exact e2 ⟨j, List.mem_range.mp hj, z2⟩)]
        unfold hp
        rw [Am_o e1 e2]
        cases hb2 : A.2.1 b with
        | none => rfl
        | some p =>
          obtain ⟨k, i⟩ := p
          have y2 := (W.2.1 b k i hb2).2
          have n1 : k ≠ ko := fun z => by rw [z, z1] at y2; omega
          have n2 : k ≠ ki := fun z => by rw [z, z2] at y2; omega
          show some (hc A σ k i) = some (hc (Am A ko ki N q r) (sM σ ko ki N K) k i)
          rw [hc_gen (σ' := sM σ ko ki N K) W hN y2 (fun f => by rw [gV_sM, if_neg (fun z => z.elim n1 n2)]) (fun f => by rw [gR_sM, if_neg n1, if_neg n2]) (by rw [gN_sM, if_neg n1, if_neg n2]) rfl rfl]
  rw [hh]
  have := kk _ W' hx hN r
  rwa [show (Am A ko ki N q r).1 ko 0 = q from if_pos rfl] at this
theorem e_NewJ {n : Nat} {K : Nat → GM → Prop} (hx : hX X A) (W : WF A σ) (h0 : gL σ 60 = 0) (hj : gJ σ = fun _ => 0) (kk : ∀ A' : Ad, WF A' (sW σ 60 n) → hX X A' → Nx A A' σ → K (A'.1 60 0) (hp A' (sW σ 60 n))) : wNew X (hp A σ) (.inl (7, n, .inr (.inl (fun _ => 0)))) K := by
  intro q hq hb
  have hq' := hp_none hq
  have he : hc (Aw A σ 60 q) (sW σ 60 n) 60 (gL σ 60) = .inl (7, n, .inr (.inl (fun _ => 0))) := by
    rw [h0, hc_arr rfl, ha_J, gN_sW, if_pos ⟨rfl, h0.symm⟩, gJ_sW, hj]
    rfl
  rw [hp_Aw W hq' he]
  have := kk (Aw A σ 60 q) (WF_Aw W hq' (by rw [hx.1]; exact hb)) hx Aw_Nx
  rwa [show (Aw A σ 60 q).1 60 0 = q from if_pos ⟨rfl, h0.symm⟩] at this
theorem e_NewD {n : Nat} {K : Nat → GM → Prop} (hx : hX X A) (W : WF A σ) (h0 : gL σ 61 = 0) (hj : gD σ = fun _ => 0) (kk : ∀ A' : Ad, WF A' (sW σ 61 n) → hX X A' → Nx A A' σ → K (A'.1 61 0) (hp A' (sW σ 61 n))) : wNew X (hp A σ) (.inl (8, n, .inr (.inr (.inr (.inl (fun _ => 0)))))) K := by
  intro q hq hb
  have hq' := hp_none hq
  have he : hc (Aw A σ 61 q) (sW σ 61 n) 61 (gL σ 61) = .inl (8, n, .inr (.inr (.inr (.inl (fun _ => 0))))) := by
    rw [h0, hc_arr rfl, ha_D, gN_sW, if_pos ⟨rfl, h0.symm⟩, gD_sW, hj]
    rfl
  rw [hp_Aw W hq' he]
  have := kk (Aw A σ 61 q) (WF_Aw W hq' (by rw [hx.1]; exact hb)) hx Aw_Nx
  rwa [show (Aw A σ 61 q).1 61 0 = q from if_pos ⟨rfl, h0.symm⟩] at this
end MN
