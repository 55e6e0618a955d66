/-! what holds at the start -/
def stC : Cond := Jvm.Cond.and given_1 narrow_1
theorem st_at (i : Nat) {w : Cond} (h : (flatC stC)[i]? = some w) {args : Array Value} {s : State} (hs : stC.before args s = true) : w.before args s = true := flat_of_before _ hs _ (List.mem_of_getElem? h)
theorem st_bulk {base n : Nat} {F : Nat → Cond} (h : ((flatC stC).drop base).take n = (List.range n).map F) {args : Array Value} {s : State} (hs : stC.before args s = true) (j : Nat) (hj : j < n) : (F j).before args s = true := by
  refine flat_of_before _ hs _ (List.mem_of_mem_drop (i := base) (List.mem_of_mem_take (i := n) ?_))
  rw [h]; exact List.mem_map.mpr ⟨j, List.mem_range.mpr hj, rfl⟩
theorem st_ex {args : Array Value} {s : State} {t : Term} {nm : String} (h : (Cond.exactly t nm).before args s = true) : ∃ a : Nat, t.eval args s none [] s = some (.ref a) := ⟨_, (Cond.exactly_spec (args := args) (first := s) (o := none) (s := s) (idx := []) h).choose_spec.choose_spec.choose_spec.choose_spec.1⟩
theorem st_cls {args : Array Value} {s : State} {ty : FieldType} (h : (Cond.arrayClass ty).before args s = true) : ∃ c : ClassId, ArrOfT s c ty ∧ s.vm.findClass ("[" ++ ty.toString) = some c := by
  obtain ⟨c, k, comp, h1, h2, h3⟩ := Cond.arrayClass_spec (args := args) (first := s) (o := none) (s := s) (idx := []) h
  exact ⟨c, fun N z => ⟨(fun k h => by cases h), k, h2, comp, h3⟩, h1⟩
set_option maxRecDepth 100000 in
theorem st_b0 : ((flatC stC).drop 689).take 5 = (List.range 5).map (fun j => Cond.eq (Term.elem (Term.field (Term.string "Releasetrain" 373) "java/lang/String" "value" "[B") (.int (Int32.ofNat j))) (.int ((gByt.getD 0 []).getD j 0))) := by decide +kernel
theorem st_s0 {args : Array Value} {s : State} (hs : stC.before args s = true) {A : Nat → Prop} (hA : ∀ a : Nat, a < s.heap.size → ¬ A a) : ∃ a v : Nat, (Term.string "Releasetrain" 373).eval args s none [] s = some (.ref a) ∧ va_O "java/lang/String" a A s s.heap ∧ va_OF "java/lang/String" "coder" "B" (.int 0) a A s s.heap ∧ va_OF "java/lang/String" "value" "[B" (.ref v) a A s s.heap ∧ va_T .byte v (gLen.getD 0 0) (fun j => .int ((gByt.getD 0 []).getD j 0)) A s s.heap := by
  have e1 : (Cond.exactly (Term.string "Releasetrain" 373) "java/lang/String").before args s = true := st_at 685 (by decide +kernel) hs
  have e2 : (Cond.eq (Term.field (Term.string "Releasetrain" 373) "java/lang/String" "coder" "B") (.int 0)).before args s = true := st_at 686 (by decide +kernel) hs
  have e3 : (Cond.arrayOf (Term.field (Term.string "Releasetrain" 373) "java/lang/String" "value" "[B") .byte).before args s = true := st_at 687 (by decide +kernel) hs
  have e4 : (Cond.eq (Term.length (Term.field (Term.string "Releasetrain" 373) "java/lang/String" "value" "[B")) (.int 5)).before args s = true := st_at 688 (by decide +kernel) hs
  obtain ⟨a, ha⟩ := st_ex e1
  obtain ⟨v, hv, hT⟩ := va_Tof (N := 5) (f := fun j => .int ((gByt.getD 0 []).getD j 0)) (by decide) e3 (va_eqt e4) (fun j hj => va_eqt (st_bulk st_b0 hs j hj)) hA
  exact ⟨a, v, ha, va_Oof e1 ha hA, vk_OFof ha (va_eqt e2) hA, vk_OFof ha hv hA, hT⟩
set_option maxRecDepth 100000 in
theorem st_b1 : ((flatC stC).drop 698).take 5 = (List.range 5).map (fun j => Cond.eq (Term.elem (Term.field (Term.string "Releasetrain" 375) "java/lang/String" "value" "[B") (.int (Int32.ofNat j))) (.int ((gByt.getD 1 []).getD j 0))) := by decide +kernel
theorem st_s1 {args : Array Value} {s : State} (hs : stC.before args s = true) {A : Nat → Prop} (hA : ∀ a : Nat, a < s.heap.size → ¬ A a) : ∃ a v : Nat, (Term.string "Releasetrain" 375).eval args s none [] s = some (.ref a) ∧ va_O "java/lang/String" a A s s.heap ∧ va_OF "java/lang/String" "coder" "B" (.int 0) a A s s.heap ∧ va_OF "java/lang/String" "value" "[B" (.ref v) a A s s.heap ∧ va_T .byte v (gLen.getD 1 0) (fun j => .int ((gByt.getD 1 []).getD j 0)) A s s.heap := by
  have e1 : (Cond.exactly (Term.string "Releasetrain" 375) "java/lang/String").before args s = true := st_at 694 (by decide +kernel) hs
  have e2 : (Cond.eq (Term.field (Term.string "Releasetrain" 375) "java/lang/String" "coder" "B") (.int 0)).before args s = true := st_at 695 (by decide +kernel) hs
  have e3 : (Cond.arrayOf (Term.field (Term.string "Releasetrain" 375) "java/lang/String" "value" "[B") .byte).before args s = true := st_at 696 (by decide +kernel) hs
  have e4 : (Cond.eq (Term.length (Term.field (Term.string "Releasetrain" 375) "java/lang/String" "value" "[B")) (.int 5)).before args s = true := st_at 697 (by decide +kernel) hs
  obtain ⟨a, ha⟩ := st_ex e1
  obtain ⟨v, hv, hT⟩ := va_Tof (N := 5) (f := fun j => .int ((gByt.getD 1 []).getD j 0)) (by decide) e3 (va_eqt e4) (fun j hj => va_eqt (st_bulk st_b1 hs j hj)) hA
  exact ⟨a, v, ha, va_Oof e1 ha hA, vk_OFof ha (va_eqt e2) hA, vk_OFof ha hv hA, hT⟩
set_option maxRecDepth 100000 in
theorem st_b2 : ((flatC stC).drop 707).take 5 = (List.range 5).map (fun j => Cond.eq (Term.elem (Term.field (Term.string "Releasetrain" 460) "java/lang/String" "value" "[B") (.int (Int32.ofNat j))) (.int ((gByt.getD 2 []).getD j 0))) := by decide +kernel
theorem st_s2 {args : Array Value} {s : State} (hs : stC.before args s = true) {A : Nat → Prop} (hA : ∀ a : Nat, a < s.heap.size → ¬ A a) : ∃ a v : Nat, (Term.string "Releasetrain" 460).eval args s none [] s = some (.ref a) ∧ va_O "java/lang/String" a A s s.heap ∧ va_OF "java/lang/String" "coder" "B" (.int 0) a A s s.heap ∧ va_OF "java/lang/String" "value" "[B" (.ref v) a A s s.heap ∧ va_T .byte v (gLen.getD 2 0) (fun j => .int ((gByt.getD 2 []).getD j 0)) A s s.heap := by
  have e1 : (Cond.exactly (Term.string "Releasetrain" 460) "java/lang/String").before args s = true := st_at 703 (by decide +kernel) hs
  have e2 : (Cond.eq (Term.field (Term.string "Releasetrain" 460) "java/lang/String" "coder" "B") (.int 0)).before args s = true := st_at 704 (by decide +kernel) hs
  have e3 : (Cond.arrayOf (Term.field (Term.string "Releasetrain" 460) "java/lang/String" "value" "[B") .byte).before args s = true := st_at 705 (by decide +kernel) hs
  have e4 : (Cond.eq (Term.length (Term.field (Term.string "Releasetrain" 460) "java/lang/String" "value" "[B")) (.int 5)).before args s = true := st_at 706 (by decide +kernel) hs
  obtain ⟨a, ha⟩ := st_ex e1
  obtain ⟨v, hv, hT⟩ := va_Tof (N := 5) (f := fun j => .int ((gByt.getD 2 []).getD j 0)) (by decide) e3 (va_eqt e4) (fun j hj => va_eqt (st_bulk st_b2 hs j hj)) hA
  exact ⟨a, v, ha, va_Oof e1 ha hA, vk_OFof ha (va_eqt e2) hA, vk_OFof ha hv hA, hT⟩
set_option maxRecDepth 100000 in
theorem st_b3 : ((flatC stC).drop 716).take 7 = (List.range 7).map (fun j => Cond.eq (Term.elem (Term.field (Term.string "Releasetrain" 462) "java/lang/String" "value" "[B") (.int (Int32.ofNat j))) (.int ((gByt.getD 3 []).getD j 0))) := by decide +kernel
theorem st_s3 {args : Array Value} {s : State} (hs : stC.before args s = true) {A : Nat → Prop} (hA : ∀ a : Nat, a < s.heap.size → ¬ A a) : ∃ a v : Nat, (Term.string "Releasetrain" 462).eval args s none [] s = some (.ref a) ∧ va_O "java/lang/String" a A s s.heap ∧ va_OF "java/lang/String" "coder" "B" (.int 0) a A s s.heap ∧ va_OF "java/lang/String" "value" "[B" (.ref v) a A s s.heap ∧ va_T .byte v (gLen.getD 3 0) (fun j => .int ((gByt.getD 3 []).getD j 0)) A s s.heap := by
  have e1 : (Cond.exactly (Term.string "Releasetrain" 462) "java/lang/String").before args s = true := st_at 712 (by decide +kernel) hs
  have e2 : (Cond.eq (Term.field (Term.string "Releasetrain" 462) "java/lang/String" "coder" "B") (.int 0)).before args s = true := st_at 713 (by decide +kernel) hs
  have e3 : (Cond.arrayOf (Term.field (Term.string "Releasetrain" 462) "java/lang/String" "value" "[B") .byte).before args s = true := st_at 714 (by decide +kernel) hs
  have e4 : (Cond.eq (Term.length (Term.field (Term.string "Releasetrain" 462) "java/lang/String" "value" "[B")) (.int 7)).before args s = true := st_at 715 (by decide +kernel) hs
  obtain ⟨a, ha⟩ := st_ex e1
  obtain ⟨v, hv, hT⟩ := va_Tof (N := 7) (f := fun j => .int ((gByt.getD 3 []).getD j 0)) (by decide) e3 (va_eqt e4) (fun j hj => va_eqt (st_bulk st_b3 hs j hj)) hA
  exact ⟨a, v, ha, va_Oof e1 ha hA, vk_OFof ha (va_eqt e2) hA, vk_OFof ha hv hA, hT⟩
set_option maxRecDepth 100000 in
theorem st_b4 : ((flatC stC).drop 727).take 7 = (List.range 7).map (fun j => Cond.eq (Term.elem (Term.field (Term.string "Releasetrain" 464) "java/lang/String" "value" "[B") (.int (Int32.ofNat j))) (.int ((gByt.getD 4 []).getD j 0))) := by decide +kernel
theorem st_s4 {args : Array Value} {s : State} (hs : stC.before args s = true) {A : Nat → Prop} (hA : ∀ a : Nat, a < s.heap.size → ¬ A a) : ∃ a v : Nat, (Term.string "Releasetrain" 464).eval args s none [] s = some (.ref a) ∧ va_O "java/lang/String" a A s s.heap ∧ va_OF "java/lang/String" "coder" "B" (.int 0) a A s s.heap ∧ va_OF "java/lang/String" "value" "[B" (.ref v) a A s s.heap ∧ va_T .byte v (gLen.getD 4 0) (fun j => .int ((gByt.getD 4 []).getD j 0)) A s s.heap := by
  have e1 : (Cond.exactly (Term.string "Releasetrain" 464) "java/lang/String").before args s = true := st_at 723 (by decide +kernel) hs
  have e2 : (Cond.eq (Term.field (Term.string "Releasetrain" 464) "java/lang/String" "coder" "B") (.int 0)).before args s = true := st_at 724 (by decide +kernel) hs
  have e3 : (Cond.arrayOf (Term.field (Term.string "Releasetrain" 464) "java/lang/String" "value" "[B") .byte).before args s = true := st_at 725 (by decide +kernel) hs
  have e4 : (Cond.eq (Term.length (Term.field (Term.string "Releasetrain" 464) "java/lang/String" "value" "[B")) (.int 7)).before args s = true := st_at 726 (by decide +kernel) hs
  obtain ⟨a, ha⟩ := st_ex e1
  obtain ⟨v, hv, hT⟩ := va_Tof (N := 7) (f := fun j => .int ((gByt.getD 4 []).getD j 0)) (by decide) e3 (va_eqt e4) (fun j hj => va_eqt (st_bulk st_b4 hs j hj)) hA
  exact ⟨a, v, ha, va_Oof e1 ha hA, vk_OFof ha (va_eqt e2) hA, vk_OFof ha hv hA, hT⟩
set_option maxRecDepth 100000 in
theorem st_b5 : ((flatC stC).drop 794).take 8 = (List.range 8).map (fun j => Cond.eq (Term.elem (Term.field (Term.string "Releasetrain" 475) "java/lang/String" "value" "[B") (.int (Int32.ofNat j))) (.int ((gByt.getD 5 []).getD j 0))) := by decide +kernel
theorem st_s5 {args : Array Value} {s : State} (hs : stC.before args s = true) {A : Nat → Prop} (hA : ∀ a : Nat, a < s.heap.size → ¬ A a) : ∃ a v : Nat, (Term.string "Releasetrain" 475).eval args s none [] s = some (.ref a) ∧ va_O "java/lang/String" a A s s.heap ∧ va_OF "java/lang/String" "coder" "B" (.int 0) a A s s.heap ∧ va_OF "java/lang/String" "value" "[B" (.ref v) a A s s.heap ∧ va_T .byte v (gLen.getD 5 0) (fun j => .int ((gByt.getD 5 []).getD j 0)) A s s.heap := by
  have e1 : (Cond.exactly (Term.string "Releasetrain" 475) "java/lang/String").before args s = true := st_at 790 (by decide +kernel) hs
  have e2 : (Cond.eq (Term.field (Term.string "Releasetrain" 475) "java/lang/String" "coder" "B") (.int 0)).before args s = true := st_at 791 (by decide +kernel) hs
  have e3 : (Cond.arrayOf (Term.field (Term.string "Releasetrain" 475) "java/lang/String" "value" "[B") .byte).before args s = true := st_at 792 (by decide +kernel) hs
  have e4 : (Cond.eq (Term.length (Term.field (Term.string "Releasetrain" 475) "java/lang/String" "value" "[B")) (.int 8)).before args s = true := st_at 793 (by decide +kernel) hs
  obtain ⟨a, ha⟩ := st_ex e1
  obtain ⟨v, hv, hT⟩ := va_Tof (N := 8) (f := fun j => .int ((gByt.getD 5 []).getD j 0)) (by decide) e3 (va_eqt e4) (fun j hj => va_eqt (st_bulk st_b5 hs j hj)) hA
  exact ⟨a, v, ha, va_Oof e1 ha hA, vk_OFof ha (va_eqt e2) hA, vk_OFof ha hv hA, hT⟩
set_option maxRecDepth 100000 in
theorem st_b6 : ((flatC stC).drop 738).take 14 = (List.range 14).map (fun j => Cond.eq (Term.elem (Term.field (Term.string "Releasetrain" 469) "java/lang/String" "value" "[B") (.int (Int32.ofNat j))) (.int ((gByt.getD 6 []).getD j 0))) := by decide +kernel
theorem st_s6 {args : Array Value} {s : State} (hs : stC.before args s = true) {A : Nat → Prop} (hA : ∀ a : Nat, a < s.heap.size → ¬ A a) : ∃ a v : Nat, (Term.string "Releasetrain" 469).eval args s none [] s = some (.ref a) ∧ va_O "java/lang/String" a A s s.heap ∧ va_OF "java/lang/String" "coder" "B" (.int 0) a A s s.heap ∧ va_OF "java/lang/String" "value" "[B" (.ref v) a A s s.heap ∧ va_T .byte v (gLen.getD 6 0) (fun j => .int ((gByt.getD 6 []).getD j 0)) A s s.heap := by
  have e1 : (Cond.exactly (Term.string "Releasetrain" 469) "java/lang/String").before args s = true := st_at 734 (by decide +kernel) hs
  have e2 : (Cond.eq (Term.field (Term.string "Releasetrain" 469) "java/lang/String" "coder" "B") (.int 0)).before args s = true := st_at 735 (by decide +kernel) hs
  have e3 : (Cond.arrayOf (Term.field (Term.string "Releasetrain" 469) "java/lang/String" "value" "[B") .byte).before args s = true := st_at 736 (by decide +kernel) hs
  have e4 : (Cond.eq (Term.length (Term.field (Term.string "Releasetrain" 469) "java/lang/String" "value" "[B")) (.int 14)).before args s = true := st_at 737 (by decide +kernel) hs
  obtain ⟨a, ha⟩ := st_ex e1
  obtain ⟨v, hv, hT⟩ := va_Tof (N := 14) (f := fun j => .int ((gByt.getD 6 []).getD j 0)) (by decide) e3 (va_eqt e4) (fun j hj => va_eqt (st_bulk st_b6 hs j hj)) hA
  exact ⟨a, v, ha, va_Oof e1 ha hA, vk_OFof ha (va_eqt e2) hA, vk_OFof ha hv hA, hT⟩
set_option maxRecDepth 100000 in
theorem st_b7 : ((flatC stC).drop 756).take 15 = (List.range 15).map (fun j => Cond.eq (Term.elem (Term.field (Term.string "Releasetrain" 471) "java/lang/String" "value" "[B") (.int (Int32.ofNat j))) (.int ((gByt.getD 7 []).getD j 0))) := by decide +kernel
theorem st_s7 {args : Array Value} {s : State} (hs : stC.before args s = true) {A : Nat → Prop} (hA : ∀ a : Nat, a < s.heap.size → ¬ A a) : ∃ a v : Nat, (Term.string "Releasetrain" 471).eval args s none [] s = some (.ref a) ∧ va_O "java/lang/String" a A s s.heap ∧ va_OF "java/lang/String" "coder" "B" (.int 0) a A s s.heap ∧ va_OF "java/lang/String" "value" "[B" (.ref v) a A s s.heap ∧ va_T .byte v (gLen.getD 7 0) (fun j => .int ((gByt.getD 7 []).getD j 0)) A s s.heap := by
  have e1 : (Cond.exactly (Term.string "Releasetrain" 471) "java/lang/String").before args s = true := st_at 752 (by decide +kernel) hs
  have e2 : (Cond.eq (Term.field (Term.string "Releasetrain" 471) "java/lang/String" "coder" "B") (.int 0)).before args s = true := st_at 753 (by decide +kernel) hs
  have e3 : (Cond.arrayOf (Term.field (Term.string "Releasetrain" 471) "java/lang/String" "value" "[B") .byte).before args s = true := st_at 754 (by decide +kernel) hs
  have e4 : (Cond.eq (Term.length (Term.field (Term.string "Releasetrain" 471) "java/lang/String" "value" "[B")) (.int 15)).before args s = true := st_at 755 (by decide +kernel) hs
  obtain ⟨a, ha⟩ := st_ex e1
  obtain ⟨v, hv, hT⟩ := va_Tof (N := 15) (f := fun j => .int ((gByt.getD 7 []).getD j 0)) (by decide) e3 (va_eqt e4) (fun j hj => va_eqt (st_bulk st_b7 hs j hj)) hA
  exact ⟨a, v, ha, va_Oof e1 ha hA, vk_OFof ha (va_eqt e2) hA, vk_OFof ha hv hA, hT⟩
set_option maxRecDepth 100000 in
theorem st_b8 : ((flatC stC).drop 775).take 15 = (List.range 15).map (fun j => Cond.eq (Term.elem (Term.field (Term.string "Releasetrain" 473) "java/lang/String" "value" "[B") (.int (Int32.ofNat j))) (.int ((gByt.getD 8 []).getD j 0))) := by decide +kernel
theorem st_s8 {args : Array Value} {s : State} (hs : stC.before args s = true) {A : Nat → Prop} (hA : ∀ a : Nat, a < s.heap.size → ¬ A a) : ∃ a v : Nat, (Term.string "Releasetrain" 473).eval args s none [] s = some (.ref a) ∧ va_O "java/lang/String" a A s s.heap ∧ va_OF "java/lang/String" "coder" "B" (.int 0) a A s s.heap ∧ va_OF "java/lang/String" "value" "[B" (.ref v) a A s s.heap ∧ va_T .byte v (gLen.getD 8 0) (fun j => .int ((gByt.getD 8 []).getD j 0)) A s s.heap := by
  have e1 : (Cond.exactly (Term.string "Releasetrain" 473) "java/lang/String").before args s = true := st_at 771 (by decide +kernel) hs
  have e2 : (Cond.eq (Term.field (Term.string "Releasetrain" 473) "java/lang/String" "coder" "B") (.int 0)).before args s = true := st_at 772 (by decide +kernel) hs
  have e3 : (Cond.arrayOf (Term.field (Term.string "Releasetrain" 473) "java/lang/String" "value" "[B") .byte).before args s = true := st_at 773 (by decide +kernel) hs
  have e4 : (Cond.eq (Term.length (Term.field (Term.string "Releasetrain" 473) "java/lang/String" "value" "[B")) (.int 15)).before args s = true := st_at 774 (by decide +kernel) hs
  obtain ⟨a, ha⟩ := st_ex e1
  obtain ⟨v, hv, hT⟩ := va_Tof (N := 15) (f := fun j => .int ((gByt.getD 8 []).getD j 0)) (by decide) e3 (va_eqt e4) (fun j hj => va_eqt (st_bulk st_b8 hs j hj)) hA
  exact ⟨a, v, ha, va_Oof e1 ha hA, vk_OFof ha (va_eqt e2) hA, vk_OFof ha hv hA, hT⟩
set_option maxRecDepth 100000 in
theorem st_DigitTens : ((flatC stC).drop 121).take 100 = (List.range 100).map (fun j => Cond.eq (Term.elem (Term.static "java/lang/Integer" "DigitTens" "[B") (.int (Int32.ofNat j))) (.int (gTens j))) := by decide +kernel
theorem st_tDigitTens {args : Array Value} {s : State} (hs : stC.before args s = true) (hl : (Cond.laysStatic "java/lang/Integer" "DigitTens" "[B").before args s = true) (hini : (Cond.initialized "java/lang/Integer").before args s = true) {A : Nat → Prop} (hA : ∀ a : Nat, a < s.heap.size → ¬ A a) : ∃ t : Nat, va_Z "java/lang/Integer" "DigitTens" "[B" (.ref t) A s s.heap ∧ va_T .byte t 100 (fun j => .int (gTens j)) A s s.heap := by
  have e3 : (Cond.arrayOf (Term.static "java/lang/Integer" "DigitTens" "[B") .byte).before args s = true := st_at 119 (by decide +kernel) hs
  have e4 : (Cond.eq (Term.length (Term.static "java/lang/Integer" "DigitTens" "[B")) (.int 100)).before args s = true := st_at 120 (by decide +kernel) hs
  obtain ⟨t, ht, hT⟩ := va_Tof (N := 100) (f := fun j => .int (gTens j)) (by decide) e3 (va_eqt e4) (fun j hj => va_eqt (st_bulk st_DigitTens hs j hj)) hA
  exact ⟨t, va_Zref hl hini ht hA, hT⟩
set_option maxRecDepth 100000 in
theorem st_DigitOnes : ((flatC stC).drop 18).take 100 = (List.range 100).map (fun j => Cond.eq (Term.elem (Term.static "java/lang/Integer" "DigitOnes" "[B") (.int (Int32.ofNat j))) (.int (gOnes j))) := by decide +kernel
theorem st_tDigitOnes {args : Array Value} {s : State} (hs : stC.before args s = true) (hl : (Cond.laysStatic "java/lang/Integer" "DigitOnes" "[B").before args s = true) (hini : (Cond.initialized "java/lang/Integer").before args s = true) {A : Nat → Prop} (hA : ∀ a : Nat, a < s.heap.size → ¬ A a) : ∃ t : Nat, va_Z "java/lang/Integer" "DigitOnes" "[B" (.ref t) A s s.heap ∧ va_T .byte t 100 (fun j => .int (gOnes j)) A s s.heap := by
  have e3 : (Cond.arrayOf (Term.static "java/lang/Integer" "DigitOnes" "[B") .byte).before args s = true := st_at 16 (by decide +kernel) hs
  have e4 : (Cond.eq (Term.length (Term.static "java/lang/Integer" "DigitOnes" "[B")) (.int 100)).before args s = true := st_at 17 (by decide +kernel) hs
  obtain ⟨t, ht, hT⟩ := va_Tof (N := 100) (f := fun j => .int (gOnes j)) (by decide) e3 (va_eqt e4) (fun j hj => va_eqt (st_bulk st_DigitOnes hs j hj)) hA
  exact ⟨t, va_Zref hl hini ht hA, hT⟩
theorem st_tE {args : Array Value} {s : State} (hs : stC.before args s = true) (hl : (Cond.laysStatic "java/util/ArrayList" "DEFAULTCAPACITY_EMPTY_ELEMENTDATA" "[Ljava/lang/Object;").before args s = true) (hini : (Cond.initialized "java/util/ArrayList").before args s = true) {A : Nat → Prop} (hA : ∀ a : Nat, a < s.heap.size → ¬ A a) : ∃ t : Nat, va_Z "java/util/ArrayList" "DEFAULTCAPACITY_EMPTY_ELEMENTDATA" "[Ljava/lang/Object;" (.ref t) A s s.heap ∧ va_T (.object "java/lang/Object") t 0 (fun _ => .null) A s s.heap := by
  have e3 : (Cond.arrayOf (Term.static "java/util/ArrayList" "DEFAULTCAPACITY_EMPTY_ELEMENTDATA" "[Ljava/lang/Object;") (.object "java/lang/Object")).before args s = true := st_at 5 (by decide +kernel) hs
  have e4 : (Cond.eq (Term.length (Term.static "java/util/ArrayList" "DEFAULTCAPACITY_EMPTY_ELEMENTDATA" "[Ljava/lang/Object;")) (.int 0)).before args s = true := st_at 7 (by decide +kernel) hs
  obtain ⟨t, ht, hT⟩ := va_Tof (N := 0) (f := fun _ => .null) (by decide) e3 (va_eqt e4) (fun j hj => absurd hj (Nat.not_lt_zero _)) hA
  exact ⟨t, va_Zref hl hini ht hA, hT⟩
theorem st_words {args : Array Value} {s : State} (hts : ∀ w ∈ lw_tbl, w.before args s = true) : ∀ w ∈ TBL, w.before args s = true := by
  intro w hw
  rcases List.mem_append.mp (List.mem_filter.mp hw).1 with h | h
  · exact hts w h
  · have hz := hts (Cond.selects "java/lang/StringBuilder" ⟨"java/lang/AbstractStringBuilder", "isLatin1", "()Z"⟩ ⟨"java/lang/AbstractStringBuilder", "isLatin1", "()Z"⟩) (List.mem_of_getElem? (i := 750) (by decide +kernel))
    simp only [gExtra, gExY, List.map_cons, List.map_nil, List.mem_cons, List.not_mem_nil, or_false] at h
    rcases h with rfl | rfl | rfl | rfl
    · exact gx_sel ⟨by decide +kernel, by decide +kernel⟩ hz rfl (hts (Cond.privateMethod ⟨"java/lang/AbstractStringBuilder", "newCapacity", "(I)I"⟩) (List.mem_of_getElem? (i := 732) (by decide +kernel))) (hts (Cond.instanceMethod ⟨"java/lang/AbstractStringBuilder", "newCapacity", "(I)I"⟩) (List.mem_of_getElem? (i := 733) (by decide +kernel)))
    · exact gx_sel ⟨by decide +kernel, by decide +kernel⟩ hz rfl (hts (Cond.privateMethod ⟨"java/lang/AbstractStringBuilder", "ensureCapacityInternal", "(I)V"⟩) (List.mem_of_getElem? (i := 728) (by decide +kernel))) (hts (Cond.instanceMethod ⟨"java/lang/AbstractStringBuilder", "ensureCapacityInternal", "(I)V"⟩) (List.mem_of_getElem? (i := 729) (by decide +kernel)))
    · exact gx_sel ⟨by decide +kernel, by decide +kernel⟩ hz rfl (hts (Cond.privateMethod ⟨"java/lang/AbstractStringBuilder", "inflateIfNeededFor", "(Ljava/lang/String;)V"⟩) (List.mem_of_getElem? (i := 792) (by decide +kernel))) (hts (Cond.instanceMethod ⟨"java/lang/AbstractStringBuilder", "inflateIfNeededFor", "(Ljava/lang/String;)V"⟩) (List.mem_of_getElem? (i := 793) (by decide +kernel)))
    · exact gx_sel ⟨by decide +kernel, by decide +kernel⟩ hz rfl (hts (Cond.privateMethod ⟨"java/lang/AbstractStringBuilder", "putStringAt", "(ILjava/lang/String;)V"⟩) (List.mem_of_getElem? (i := 788) (by decide +kernel))) (hts (Cond.instanceMethod ⟨"java/lang/AbstractStringBuilder", "putStringAt", "(ILjava/lang/String;)V"⟩) (List.mem_of_getElem? (i := 789) (by decide +kernel)))
theorem st_badIn : ∀ w ∈ gBad, w ∈ lw_tbl ∧ w.onTables = true := by decide +kernel
theorem st_ncIn : ∀ q ∈ gNc, Cond.not (.castable q.1 q.2) ∈ flatC stC := by decide +kernel
theorem st_i32 (x : Int32) : Int32.ofNat x.toBitVec.toNat = x := by apply Int32.toBitVec_inj.mp; simp
set_option maxHeartbeats 4000000 in
set_option maxRecDepth 100000 in
theorem st_gX {b L : Nat} {xs : Nat → Int32} {s : State} (hX : va_X b L xs s s.heap) (hbl : b < s.heap.size) (hts : ∀ w ∈ lw_tbl, w.before #[Value.ref b] s = true) (hs : stC.before #[Value.ref b] s = true) : ∃ (D : va_G) (dA : Nat → ClassId) (E : Nat → Nat), gX (D, dA, s.heap.size, E) s s.heap ∧ E 204 = b ∧ E 205 = L := by
  have hT := st_words hts
  have hA : ∀ a : Nat, a < s.heap.size → ¬ (fun q : Nat => s.heap.size ≤ q) a := fun a h => Nat.not_le.mpr h
  obtain ⟨c0, i0, k0⟩ := u_known (C := RX0) (T := TX0) (N := 2) (n := 2) hT ins_X0 (hts (.instantiable "Releasetrain$BucketCounts" 2) (List.mem_of_getElem? (i := 349) (by decide +kernel)))
  obtain ⟨c1, i1, k1⟩ := u_known (C := RX1) (T := TX1) (N := 16) (n := 16) hT ins_X1 (hts (.instantiable "Releasetrain$Build" 16) (List.mem_of_getElem? (i := 343) (by decide +kernel)))
  obtain ⟨c2, i2, k2⟩ := u_known (C := RX2) (T := TX2) (N := 6) (n := 6) hT ins_X2 (hts (.instantiable "Releasetrain$Device" 6) (List.mem_of_getElem? (i := 527) (by decide +kernel)))
  obtain ⟨c3, i3, k3⟩ := u_known (C := RX3) (T := TX3) (N := 3) (n := 3) hT ins_X3 (hts (.instantiable "Releasetrain$DeviceKind" 3) (List.mem_of_getElem? (i := 562) (by decide +kernel)))
  obtain ⟨c4, i4, k4⟩ := u_known (C := RX4) (T := TX4) (N := 4) (n := 4) hT ins_X4 (hts (.instantiable "Releasetrain$Group" 4) (List.mem_of_getElem? (i := 1080) (by decide +kernel)))
  obtain ⟨c5, i5, k5⟩ := u_known (C := RX5) (T := TX5) (N := 3) (n := 3) hT ins_X5 (hts (.instantiable "Releasetrain$Offer" 3) (List.mem_of_getElem? (i := 500) (by decide +kernel)))
  obtain ⟨c6, i6, k6⟩ := u_known (C := RX6) (T := TX6) (N := 2) (n := 2) hT ins_X6 (hts (.instantiable "Releasetrain$Stack" 2) (List.mem_of_getElem? (i := 96) (by decide +kernel)))
  obtain ⟨c7, i7, k7⟩ := u_known (C := RX7) (T := TX7) (N := 13) (n := 13) hT ins_X7 (hts (.instantiable "Releasetrain" 13) (List.mem_of_getElem? (i := 62) (by decide +kernel)))
  obtain ⟨c8, i8, k8⟩ := u_known (C := RX7) (T := TX7) (N := 13) (n := 13) hT ins_X7 (hts (.instantiable "Releasetrain" 13) (List.mem_of_getElem? (i := 62) (by decide +kernel)))
  obtain ⟨c9, i9, k9⟩ := u_known (C := RJ4) (T := TJ4) (N := 4) (n := 4) hT ins_J4 (hts (.instantiable "java/lang/StringBuilder" 4) (List.mem_of_getElem? (i := 112) (by decide +kernel)))
  obtain ⟨c10, i10, k10⟩ := u_known (C := RJx4a65c) (T := TJx4a65c) (N := 3) (n := 3) hT ins_Jx4a65c (hts (.instantiable "java/util/ArrayList" 3) (List.mem_of_getElem? (i := 70) (by decide +kernel)))
  obtain ⟨a0, p0, q0⟩ := st_cls (hts (.arrayClass .int) (List.mem_of_getElem? (i := 362) (by decide +kernel)))
  obtain ⟨a1, p1, q1⟩ := st_cls (hts (.arrayClass .char) (List.mem_of_getElem? (i := 110) (by decide +kernel)))
  obtain ⟨a2, p2, q2⟩ := st_cls (hts (.arrayClass .byte) (List.mem_of_getElem? (i := 143) (by decide +kernel)))
  have hAO : va_AO "java/lang/Object" s := va_AO.of (hts (.arrayOver (.object "java/lang/Object")) (List.mem_of_getElem? (i := 485) (by decide +kernel)))
  obtain ⟨m4, a4, z4, f1, f2, f3, f4, f5⟩ := Cond.arrayOver_spec (args := #[]) (first := s) (o := none) (s := s) (idx := []) hAO
  obtain ⟨e0, v0, s0a, s0b, s0c, s0d, s0e⟩ := st_s0 hs hA
  obtain ⟨e1, v1, s1a, s1b, s1c, s1d, s1e⟩ := st_s1 hs hA
  obtain ⟨e2, v2, s2a, s2b, s2c, s2d, s2e⟩ := st_s2 hs hA
  obtain ⟨e3, v3, s3a, s3b, s3c, s3d, s3e⟩ := st_s3 hs hA
  obtain ⟨e4, v4, s4a, s4b, s4c, s4d, s4e⟩ := st_s4 hs hA
  obtain ⟨e5, v5, s5a, s5b, s5c, s5d, s5e⟩ := st_s5 hs hA
  obtain ⟨e6, v6, s6a, s6b, s6c, s6d, s6e⟩ := st_s6 hs hA
  obtain ⟨e7, v7, s7a, s7b, s7c, s7d, s7e⟩ := st_s7 hs hA
  obtain ⟨e8, v8, s8a, s8b, s8c, s8d, s8e⟩ := st_s8 hs hA
  obtain ⟨e20, s20a⟩ := st_ex (st_at 354 (by decide +kernel) hs : (Cond.exactly (Term.string "Releasetrain" 69) "java/lang/String").before #[Value.ref b] s = true)
  obtain ⟨e21, s21a⟩ := st_ex (st_at 434 (by decide +kernel) hs : (Cond.exactly (Term.string "Releasetrain" 80) "java/lang/String").before #[Value.ref b] s = true)
  obtain ⟨e22, s22a⟩ := st_ex (st_at 526 (by decide +kernel) hs : (Cond.exactly (Term.string "Releasetrain" 129) "java/lang/String").before #[Value.ref b] s = true)
  obtain ⟨e23, s23a⟩ := st_ex (st_at 544 (by decide +kernel) hs : (Cond.exactly (Term.string "Releasetrain" 153) "java/lang/String").before #[Value.ref b] s = true)
  obtain ⟨e24, s24a⟩ := st_ex (st_at 1062 (by decide +kernel) hs : (Cond.exactly (Term.string "Releasetrain" 155) "java/lang/String").before #[Value.ref b] s = true)
  obtain ⟨e25, s25a⟩ := st_ex (st_at 1032 (by decide +kernel) hs : (Cond.exactly (Term.string "Releasetrain" 157) "java/lang/String").before #[Value.ref b] s = true)
  obtain ⟨e26, s26a⟩ := st_ex (st_at 458 (by decide +kernel) hs : (Cond.exactly (Term.string "Releasetrain" 159) "java/lang/String").before #[Value.ref b] s = true)
  obtain ⟨e27, s27a⟩ := st_ex (st_at 480 (by decide +kernel) hs : (Cond.exactly (Term.string "Releasetrain" 166) "java/lang/String").before #[Value.ref b] s = true)
  obtain ⟨e28, s28a⟩ := st_ex (st_at 1090 (by decide +kernel) hs : (Cond.exactly (Term.string "Releasetrain" 176) "java/lang/String").before #[Value.ref b] s = true)
  obtain ⟨e29, s29a⟩ := st_ex (st_at 1127 (by decide +kernel) hs : (Cond.exactly (Term.string "Releasetrain" 240) "java/lang/String").before #[Value.ref b] s = true)
  obtain ⟨e30, s30a⟩ := st_ex (st_at 1156 (by decide +kernel) hs : (Cond.exactly (Term.string "Releasetrain" 245) "java/lang/String").before #[Value.ref b] s = true)
  obtain ⟨e31, s31a⟩ := st_ex (st_at 868 (by decide +kernel) hs : (Cond.exactly (Term.string "Releasetrain" 258) "java/lang/String").before #[Value.ref b] s = true)
  obtain ⟨e32, s32a⟩ := st_ex (st_at 1273 (by decide +kernel) hs : (Cond.exactly (Term.string "Releasetrain" 283) "java/lang/String").before #[Value.ref b] s = true)
  obtain ⟨e33, s33a⟩ := st_ex (st_at 1196 (by decide +kernel) hs : (Cond.exactly (Term.string "Releasetrain" 303) "java/lang/String").before #[Value.ref b] s = true)
  obtain ⟨e34, s34a⟩ := st_ex (st_at 927 (by decide +kernel) hs : (Cond.exactly (Term.string "Releasetrain" 309) "java/lang/String").before #[Value.ref b] s = true)
  obtain ⟨e35, s35a⟩ := st_ex (st_at 982 (by decide +kernel) hs : (Cond.exactly (Term.string "Releasetrain" 338) "java/lang/String").before #[Value.ref b] s = true)
  obtain ⟨e36, s36a⟩ := st_ex (st_at 1002 (by decide +kernel) hs : (Cond.exactly (Term.string "Releasetrain" 343) "java/lang/String").before #[Value.ref b] s = true)
  obtain ⟨e37, s37a⟩ := st_ex (st_at 1320 (by decide +kernel) hs : (Cond.exactly (Term.string "Releasetrain" 355) "java/lang/String").before #[Value.ref b] s = true)
  obtain ⟨e38, s38a⟩ := st_ex (st_at 1217 (by decide +kernel) hs : (Cond.exactly (Term.string "Releasetrain" 386) "java/lang/String").before #[Value.ref b] s = true)
  obtain ⟨e39, s39a⟩ := st_ex (st_at 802 (by decide +kernel) hs : (Cond.exactly (Term.string "Releasetrain" 394) "java/lang/String").before #[Value.ref b] s = true)
  obtain ⟨e40, s40a⟩ := st_ex (st_at 328 (by decide +kernel) hs : (Cond.exactly (Term.string "Releasetrain" 397) "java/lang/String").before #[Value.ref b] s = true)
  obtain ⟨e41, s41a⟩ := st_ex (st_at 1247 (by decide +kernel) hs : (Cond.exactly (Term.string "Releasetrain" 399) "java/lang/String").before #[Value.ref b] s = true)
  obtain ⟨e42, s42a⟩ := st_ex (st_at 1299 (by decide +kernel) hs : (Cond.exactly (Term.string "Releasetrain" 401) "java/lang/String").before #[Value.ref b] s = true)
  obtain ⟨e43, s43a⟩ := st_ex (st_at 849 (by decide +kernel) hs : (Cond.exactly (Term.string "Releasetrain" 403) "java/lang/String").before #[Value.ref b] s = true)
  obtain ⟨e44, s44a⟩ := st_ex (st_at 957 (by decide +kernel) hs : (Cond.exactly (Term.string "Releasetrain" 405) "java/lang/String").before #[Value.ref b] s = true)
  obtain ⟨e45, s45a⟩ := st_ex (st_at 382 (by decide +kernel) hs : (Cond.exactly (Term.string "Releasetrain" 413) "java/lang/String").before #[Value.ref b] s = true)
  obtain ⟨e46, s46a⟩ := st_ex (st_at 1182 (by decide +kernel) hs : (Cond.exactly (Term.string "Releasetrain" 424) "java/lang/String").before #[Value.ref b] s = true)
  obtain ⟨e47, s47a⟩ := st_ex (st_at 829 (by decide +kernel) hs : (Cond.exactly (Term.string "Releasetrain" 450) "java/lang/String").before #[Value.ref b] s = true)
  obtain ⟨e48, s48a⟩ := st_ex (st_at 889 (by decide +kernel) hs : (Cond.exactly (Term.string "Releasetrain" 455) "java/lang/String").before #[Value.ref b] s = true)
  obtain ⟨t200, z200, y200⟩ := st_tE hs (hts (.laysStatic "java/util/ArrayList" "DEFAULTCAPACITY_EMPTY_ELEMENTDATA" "[Ljava/lang/Object;") (List.mem_of_getElem? (i := 82) (by decide +kernel))) (hts (.initialized "java/util/ArrayList") (List.mem_of_getElem? (i := 28) (by decide +kernel))) hA
  obtain ⟨t201, z201, y201⟩ := st_tDigitTens hs (hts (.laysStatic "java/lang/Integer" "DigitTens" "[B") (List.mem_of_getElem? (i := 837) (by decide +kernel))) (hts (.initialized "java/lang/Integer") (List.mem_of_getElem? (i := 49) (by decide +kernel))) hA
  obtain ⟨t202, z202, y202⟩ := st_tDigitOnes hs (hts (.laysStatic "java/lang/Integer" "DigitOnes" "[B") (List.mem_of_getElem? (i := 835) (by decide +kernel))) (hts (.initialized "java/lang/Integer") (List.mem_of_getElem? (i := 49) (by decide +kernel))) hA
  obtain ⟨t203, y203⟩ := va_Mi.of (st_at 327 (by decide +kernel) hs : (Cond.isRef (.mirror "[Ljava/lang/Object;")).before #[Value.ref b] s = true)
  have hCS := va_Zof (hts (.laysStatic "java/lang/String" "COMPACT_STRINGS" "Z") (List.mem_of_getElem? (i := 121) (by decide +kernel))) (hts (.initialized "java/lang/String") (List.mem_of_getElem? (i := 32) (by decide +kernel))) (va_eqi (st_at 8 (by decide +kernel) hs : (Cond.eq (.static "java/lang/String" "COMPACT_STRINGS" "Z") (.int 1)).before #[Value.ref b] s = true)) hA
  have hSI := va_Zqof (hts (.laysStatic "jdk/internal/util/Preconditions" "SIOOBE_FORMATTER" "Ljava/util/function/BiFunction;") (List.mem_of_getElem? (i := 765) (by decide +kernel))) (hts (.initialized "jdk/internal/util/Preconditions") (List.mem_of_getElem? (i := 39) (by decide +kernel))) (st_at 11 (by decide +kernel) hs) hA
  have hUS := vx_Zqof (hts (.laysStatic "java/lang/Throwable" "UNASSIGNED_STACK" "[Ljava/lang/StackTraceElement;") (List.mem_of_getElem? (i := 243) (by decide +kernel))) (hts (.initialized "java/lang/Throwable") (List.mem_of_getElem? (i := 34) (by decide +kernel))) (st_at 9 (by decide +kernel) hs) hA
  have hSU := vx_Zqof (hts (.laysStatic "java/lang/Throwable" "SUPPRESSED_SENTINEL" "Ljava/util/List;") (List.mem_of_getElem? (i := 245) (by decide +kernel))) (hts (.initialized "java/lang/Throwable") (List.mem_of_getElem? (i := 34) (by decide +kernel))) (st_at 10 (by decide +kernel) hs) hA
  obtain ⟨E, hEx, hE⟩ : ∃ E : Nat → Nat, (∀ j, E (1000 + j) = (xs j).toBitVec.toNat) ∧ E 0 = e0 ∧ E 1 = e1 ∧ E 2 = e2 ∧ E 3 = e3 ∧ E 4 = e4 ∧ E 5 = e5 ∧ E 6 = e6 ∧ E 7 = e7 ∧ E 8 = e8 ∧ E 100 = v0 ∧ E 101 = v1 ∧ E 102 = v2 ∧ E 103 = v3 ∧ E 104 = v4 ∧ E 105 = v5 ∧ E 106 = v6 ∧ E 107 = v7 ∧ E 108 = v8 ∧ E 20 = e20 ∧ E 21 = e21 ∧ E 22 = e22 ∧ E 23 = e23 ∧ E 24 = e24 ∧ E 25 = e25 ∧ E 26 = e26 ∧ E 27 = e27 ∧ E 28 = e28 ∧ E 29 = e29 ∧ E 30 = e30 ∧ E 31 = e31 ∧ E 32 = e32 ∧ E 33 = e33 ∧ E 34 = e34 ∧ E 35 = e35 ∧ E 36 = e36 ∧ E 37 = e37 ∧ E 38 = e38 ∧ E 39 = e39 ∧ E 40 = e40 ∧ E 41 = e41 ∧ E 42 = e42 ∧ E 43 = e43 ∧ E 44 = e44 ∧ E 45 = e45 ∧ E 46 = e46 ∧ E 47 = e47 ∧ E 48 = e48 ∧ E 200 = t200 ∧ E 201 = t201 ∧ E 202 = t202 ∧ E 203 = t203 ∧ E 204 = b ∧ E 205 = L := ⟨fun j => if 1000 ≤ j then (xs (j - 1000)).toBitVec.toNat else if j = 0 then e0 else if j = 1 then e1 else if j = 2 then e2 else if j = 3 then e3 else if j = 4 then e4 else if j = 5 then e5 else if j = 6 then e6 else if j = 7 then e7 else if j = 8 then e8 else if j = 100 then v0 else if j = 101 then v1 else if j = 102 then v2 else if j = 103 then v3 else if j = 104 then v4 else if j = 105 then v5 else if j = 106 then v6 else if j = 107 then v7 else if j = 108 then v8 else if j = 20 then e20 else if j = 21 then e21 else if j = 22 then e22 else if j = 23 then e23 else if j = 24 then e24 else if j = 25 then e25 else if j = 26 then e26 else if j = 27 then e27 else if j = 28 then e28 else if j = 29 then e29 else if j = 30 then e30 else if j = 31 then e31 else if j = 32 then e32 else if j = 33 then e33 else if j = 34 then e34 else if j = 35 then e35 else if j = 36 then e36 else if j = 37 then e37 else if j = 38 then e38 else if j = 39 then e39 else if j = 40 then e40 else if j = 41 then e41 else if j = 42 then e42 else if j = 43 then e43 else if j = 44 then e44 else if j = 45 then e45 else if j = 46 then e46 else if j = 47 then e47 else if j = 48 then e48 else if j = 200 then t200 else if j = 201 then t201 else if j = 202 then t202 else if j = 203 then t203 else if j = 204 then b else if j = 205 then L else 0, fun j => (if_pos (Nat.le_add_right 1000 j)).trans (by rw [Nat.add_sub_cancel_left]), rfl, rfl, rfl, rfl, rfl, rfl, rfl, rfl, rfl, rfl, rfl, rfl, rfl, rfl, rfl, rfl, rfl, rfl, rfl, rfl, rfl, rfl, rfl, rfl, rfl, rfl, rfl, rfl, rfl, rfl, rfl, rfl, rfl, rfl, rfl, rfl, rfl, rfl, rfl, rfl, rfl, rfl, rfl, rfl, rfl, rfl, rfl, rfl, rfl, rfl, rfl, rfl, rfl⟩
  obtain ⟨h0, h1, h2, h3, h4, h5, h6, h7, h8, h100, h101, h102, h103, h104, h105, h106, h107, h108, h20, h21, h22, h23, h24, h25, h26, h27, h28, h29, h30, h31, h32, h33, h34, h35, h36, h37, h38, h39, h40, h41, h42, h43, h44, h45, h46, h47, h48, h200, h201, h202, h203, h204, h205⟩ := hE
  obtain ⟨dA, hdA⟩ : ∃ dA : Nat → ClassId, dA 0 = a0 ∧ dA 1 = a1 ∧ dA 2 = a2 ∧ dA 3 = a0 ∧ dA 4 = a4 ∧ dA 5 = a0 ∧ dA 6 = a0 ∧ dA 7 = a0 ∧ dA 8 = a0 := ⟨fun j => if j = 1 then a1 else if j = 2 then a2 else if j = 4 then a4 else a0, rfl, rfl, rfl, rfl, rfl, rfl, rfl, rfl, rfl⟩
  obtain ⟨d0, d1, d2, d3, d4, d5, d6, d7, d8⟩ := hdA
  obtain ⟨dC, hdC⟩ : ∃ dC : Nat → ClassId, dC 0 = c0 ∧ dC 1 = c1 ∧ dC 2 = c2 ∧ dC 3 = c3 ∧ dC 4 = c4 ∧ dC 5 = c5 ∧ dC 6 = c6 ∧ dC 7 = c7 ∧ dC 8 = c8 ∧ dC 9 = c9 ∧ dC 10 = c10 := ⟨fun j => if j = 0 then c0 else if j = 1 then c1 else if j = 2 then c2 else if j = 3 then c3 else if j = 4 then c4 else if j = 5 then c5 else if j = 6 then c6 else if j = 7 then c7 else if j = 8 then c8 else if j = 9 then c9 else if j = 10 then c10 else c0, rfl, rfl, rfl, rfl, rfl, rfl, rfl, rfl, rfl, rfl, rfl⟩
  obtain ⟨x0, x1, x2, x3, x4, x5, x6, x7, x8, x9, x10⟩ := hdC
  obtain ⟨dI, hdI⟩ : ∃ dI : Nat → Nat → Nat, dI 0 = i0 ∧ dI 1 = i1 ∧ dI 2 = i2 ∧ dI 3 = i3 ∧ dI 4 = i4 ∧ dI 5 = i5 ∧ dI 6 = i6 ∧ dI 7 = i7 ∧ dI 8 = i8 ∧ dI 9 = i9 ∧ dI 10 = i10 := ⟨fun j => if j = 0 then i0 else if j = 1 then i1 else if j = 2 then i2 else if j = 3 then i3 else if j = 4 then i4 else if j = 5 then i5 else if j = 6 then i6 else if j = 7 then i7 else if j = 8 then i8 else if j = 9 then i9 else if j = 10 then i10 else i0, rfl, rfl, rfl, rfl, rfl, rfl, rfl, rfl, rfl, rfl, rfl⟩
  obtain ⟨w0, w1, w2, w3, w4, w5, w6, w7, w8, w9, w10⟩ := hdI
  refine ⟨(dC, dI), dA, E, ⟨⟨?_, ?_⟩, ?_, ?_, hCS, ⟨?_, ?_⟩, ⟨?_, ?_⟩, ⟨?_, ?_⟩, ?_, hSI, ⟨hAO, ?_⟩, hUS, hSU, ?_, ?_⟩, h204, h205⟩
  · intro k q hq
    match k, hq with
    | 0, hq => cases hq; show u_Kn s _ _ _ (dC 0) (dI 0); rw [x0, w0]; exact k0
    | 1, hq => cases hq; show u_Kn s _ _ _ (dC 1) (dI 1); rw [x1, w1]; exact k1
    | 2, hq => cases hq; show u_Kn s _ _ _ (dC 2) (dI 2); rw [x2, w2]; exact k2
    | 3, hq => cases hq; show u_Kn s _ _ _ (dC 3) (dI 3); rw [x3, w3]; exact k3
    | 4, hq => cases hq; show u_Kn s _ _ _ (dC 4) (dI 4); rw [x4, w4]; exact k4
    | 5, hq => cases hq; show u_Kn s _ _ _ (dC 5) (dI 5); rw [x5, w5]; exact k5
    | 6, hq => cases hq; show u_Kn s _ _ _ (dC 6) (dI 6); rw [x6, w6]; exact k6
    | 7, hq => cases hq; show u_Kn s _ _ _ (dC 7) (dI 7); rw [x7, w7]; exact k7
    | 8, hq => cases hq; show u_Kn s _ _ _ (dC 8) (dI 8); rw [x8, w8]; exact k8
    | 9, hq => cases hq; show u_Kn s _ _ _ (dC 9) (dI 9); rw [x9, w9]; exact k9
    | 10, hq => cases hq; show u_Kn s _ _ _ (dC 10) (dI 10); rw [x10, w10]; exact k10
    | k + 11, hq => simp [gCl] at hq
  · intro k q hq
    match k, hq with
    | 0, hq => cases hq; show ArrOfT s (dA 0) _ ∧ va_RA s (dA 0) _; rw [d0]; exact ⟨p0, q0⟩
    | 1, hq => cases hq; show ArrOfT s (dA 1) _ ∧ va_RA s (dA 1) _; rw [d1]; exact ⟨p1, q1⟩
    | 2, hq => cases hq; show ArrOfT s (dA 2) _ ∧ va_RA s (dA 2) _; rw [d2]; exact ⟨p2, q2⟩
    | 3, hq => cases hq; show ArrOfT s (dA 3) _ ∧ va_RA s (dA 3) _; rw [d3]; exact ⟨p0, q0⟩
    | 4, hq => cases hq; show ArrOfT s (dA 4) _ ∧ va_RA s (dA 4) _; rw [d4]; exact ⟨fun N z => ⟨(fun k h => by cases h), z4, f3, m4, f4⟩, z4, m4, f3, f4, f1, f5⟩
    | 5, hq => cases hq; show ArrOfT s (dA 5) _ ∧ va_RA s (dA 5) _; rw [d5]; exact ⟨p0, q0⟩
    | 6, hq => cases hq; show ArrOfT s (dA 6) _ ∧ va_RA s (dA 6) _; rw [d6]; exact ⟨p0, q0⟩
    | 7, hq => cases hq; show ArrOfT s (dA 7) _ ∧ va_RA s (dA 7) _; rw [d7]; exact ⟨p0, q0⟩
    | 8, hq => cases hq; show ArrOfT s (dA 8) _ ∧ va_RA s (dA 8) _; rw [d8]; exact ⟨p0, q0⟩
    | k + 9, hq => simp [gTys] at hq
  · intro q hq
    have key : vk_R "Releasetrain" 69 "a number is out of range" (E 20) s ∧ vk_R "Releasetrain" 80 "there are 12 devices" (E 21) s ∧ vk_R "Releasetrain" 129 "it is no draft" (E 22) s ∧ vk_R "Releasetrain" 153 "it is not refused, or was appealed" (E 23) s ∧ vk_R "Releasetrain" 155 "the size is out of range" (E 24) s ∧ vk_R "Releasetrain" 157 "the number is out of range" (E 25) s ∧ vk_R "Releasetrain" 159 "it is not approved" (E 26) s ∧ vk_R "Releasetrain" 166 "the percentage is less than the one before" (E 27) s ∧ vk_R "Releasetrain" 176 "the day would be greater than 999" (E 28) s ∧ vk_R "Releasetrain" 240 "it is not from 'a' to 'z'" (E 29) s ∧ vk_R "Releasetrain" 245 "the text has 6 letters" (E 30) s ∧ vk_R "Releasetrain" 258 "the text is empty" (E 31) s ∧ vk_R "Releasetrain" 283 "there is no such place" (E 32) s ∧ vk_R "Releasetrain" 303 "there is no group" (E 33) s ∧ vk_R "Releasetrain" 309 "the stars are out of range" (E 34) s ∧ vk_R "Releasetrain" 338 "it owns the item" (E 35) s ∧ vk_R "Releasetrain" 343 "its build does not sell it" (E 36) s ∧ vk_R "Releasetrain" 355 "they own none" (E 37) s ∧ vk_R "Releasetrain" 373 " fix " (E 0) s ∧ vk_R "Releasetrain" 375 " app " (E 1) s ∧ vk_R "Releasetrain" 386 "there is no such character" (E 38) s ∧ vk_R "Releasetrain" 394 "there is no such device" (E 39) s ∧ vk_R "Releasetrain" 397 "there is no such build" (E 40) s ∧ vk_R "Releasetrain" 399 "there is no such group" (E 41) s ∧ vk_R "Releasetrain" 401 "it has no ratings" (E 42) s ∧ vk_R "Releasetrain" 403 "it has no build" (E 43) s ∧ vk_R "Releasetrain" 405 "there is no such item" (E 44) s ∧ vk_R "Releasetrain" 413 "a build has this version, or there are 10 builds" (E 45) s ∧ vk_R "Releasetrain" 424 "none waits" (E 46) s ∧ vk_R "Releasetrain" 450 "it is given none" (E 47) s ∧ vk_R "Releasetrain" 455 "there would be more than 30 groups" (E 48) s ∧ vk_R "Releasetrain" 460 "draft" (E 2) s ∧ vk_R "Releasetrain" 462 "waiting" (E 3) s ∧ vk_R "Releasetrain" 464 "refused" (E 4) s ∧ vk_R "Releasetrain" 469 "held by review" (E 6) s ∧ vk_R "Releasetrain" 471 "held by crashes" (E 7) s ∧ vk_R "Releasetrain" 473 "held by ratings" (E 8) s ∧ vk_R "Releasetrain" 475 "approved" (E 5) s := by
      rw [h0, h1, h2, h3, h4, h5, h6, h7, h8, h20, h21, h22, h23, h24, h25, h26, h27, h28, h29, h30, h31, h32, h33, h34, h35, h36, h37, h38, h39, h40, h41, h42, h43, h44, h45, h46, h47, h48]
      exact ⟨vk_R.of (hts (.stringRef "Releasetrain" 69 "a number is out of range") (List.mem_of_getElem? (i := 316) (by decide +kernel))) s20a, vk_R.of (hts (.stringRef "Releasetrain" 80 "there are 12 devices") (List.mem_of_getElem? (i := 525) (by decide +kernel))) s21a, vk_R.of (hts (.stringRef "Releasetrain" 129 "it is no draft") (List.mem_of_getElem? (i := 614) (by decide +kernel))) s22a, vk_R.of (hts (.stringRef "Releasetrain" 153 "it is not refused, or was appealed") (List.mem_of_getElem? (i := 627) (by decide +kernel))) s23a, vk_R.of (hts (.stringRef "Releasetrain" 155 "the size is out of range") (List.mem_of_getElem? (i := 1163) (by decide +kernel))) s24a, vk_R.of (hts (.stringRef "Releasetrain" 157 "the number is out of range") (List.mem_of_getElem? (i := 1150) (by decide +kernel))) s25a, vk_R.of (hts (.stringRef "Releasetrain" 159 "it is not approved") (List.mem_of_getElem? (i := 590) (by decide +kernel))) s26a, vk_R.of (hts (.stringRef "Releasetrain" 166 "the percentage is less than the one before") (List.mem_of_getElem? (i := 600) (by decide +kernel))) s27a, vk_R.of (hts (.stringRef "Releasetrain" 176 "the day would be greater than 999") (List.mem_of_getElem? (i := 1191) (by decide +kernel))) s28a, vk_R.of (hts (.stringRef "Releasetrain" 240 "it is not from 'a' to 'z'") (List.mem_of_getElem? (i := 1196) (by decide +kernel))) s29a, vk_R.of (hts (.stringRef "Releasetrain" 245 "the text has 6 letters") (List.mem_of_getElem? (i := 1197) (by decide +kernel))) s30a, vk_R.of (hts (.stringRef "Releasetrain" 258 "the text is empty") (List.mem_of_getElem? (i := 1063) (by decide +kernel))) s31a, vk_R.of (hts (.stringRef "Releasetrain" 283 "there is no such place") (List.mem_of_getElem? (i := 1278) (by decide +kernel))) s32a, vk_R.of (hts (.stringRef "Releasetrain" 303 "there is no group") (List.mem_of_getElem? (i := 1227) (by decide +kernel))) s33a, vk_R.of (hts (.stringRef "Releasetrain" 309 "the stars are out of range") (List.mem_of_getElem? (i := 1116) (by decide +kernel))) s34a, vk_R.of (hts (.stringRef "Releasetrain" 338 "it owns the item") (List.mem_of_getElem? (i := 1126) (by decide +kernel))) s35a, vk_R.of (hts (.stringRef "Releasetrain" 343 "its build does not sell it") (List.mem_of_getElem? (i := 1127) (by decide +kernel))) s36a, vk_R.of (hts (.stringRef "Releasetrain" 355 "they own none") (List.mem_of_getElem? (i := 1369) (by decide +kernel))) s37a, vk_R.of (hts (.stringRef "Releasetrain" 373 " fix ") (List.mem_of_getElem? (i := 989) (by decide +kernel))) s0a, vk_R.of (hts (.stringRef "Releasetrain" 375 " app ") (List.mem_of_getElem? (i := 990) (by decide +kernel))) s1a, vk_R.of (hts (.stringRef "Releasetrain" 386 "there is no such character") (List.mem_of_getElem? (i := 1247) (by decide +kernel))) s38a, vk_R.of (hts (.stringRef "Releasetrain" 394 "there is no such device") (List.mem_of_getElem? (i := 1019) (by decide +kernel))) s39a, vk_R.of (hts (.stringRef "Releasetrain" 397 "there is no such build") (List.mem_of_getElem? (i := 262) (by decide +kernel))) s40a, vk_R.of (hts (.stringRef "Releasetrain" 399 "there is no such group") (List.mem_of_getElem? (i := 1269) (by decide +kernel))) s41a, vk_R.of (hts (.stringRef "Releasetrain" 401 "it has no ratings") (List.mem_of_getElem? (i := 1317) (by decide +kernel))) s42a, vk_R.of (hts (.stringRef "Releasetrain" 403 "it has no build") (List.mem_of_getElem? (i := 1045) (by decide +kernel))) s43a, vk_R.of (hts (.stringRef "Releasetrain" 405 "there is no such item") (List.mem_of_getElem? (i := 1124) (by decide +kernel))) s44a, vk_R.of (hts (.stringRef "Releasetrain" 413 "a build has this version, or there are 10 builds") (List.mem_of_getElem? (i := 336) (by decide +kernel))) s45a, vk_R.of (hts (.stringRef "Releasetrain" 424 "none waits") (List.mem_of_getElem? (i := 1214) (by decide +kernel))) s46a, vk_R.of (hts (.stringRef "Releasetrain" 450 "it is given none") (List.mem_of_getElem? (i := 1033) (by decide +kernel))) s47a, vk_R.of (hts (.stringRef "Releasetrain" 455 "there would be more than 30 groups") (List.mem_of_getElem? (i := 1079) (by decide +kernel))) s48a, vk_R.of (hts (.stringRef "Releasetrain" 460 "draft") (List.mem_of_getElem? (i := 996) (by decide +kernel))) s2a, vk_R.of (hts (.stringRef "Releasetrain" 462 "waiting") (List.mem_of_getElem? (i := 997) (by decide +kernel))) s3a, vk_R.of (hts (.stringRef "Releasetrain" 464 "refused") (List.mem_of_getElem? (i := 998) (by decide +kernel))) s4a, vk_R.of (hts (.stringRef "Releasetrain" 469 "held by review") (List.mem_of_getElem? (i := 1003) (by decide +kernel))) s6a, vk_R.of (hts (.stringRef "Releasetrain" 471 "held by crashes") (List.mem_of_getElem? (i := 1004) (by decide +kernel))) s7a, vk_R.of (hts (.stringRef "Releasetrain" 473 "held by ratings") (List.mem_of_getElem? (i := 1005) (by decide +kernel))) s8a, vk_R.of (hts (.stringRef "Releasetrain" 475 "approved") (List.mem_of_getElem? (i := 1006) (by decide +kernel))) s5a⟩
    simp only [gStr, List.mem_cons, List.not_mem_nil, or_false] at hq
    rcases hq with rfl | rfl | rfl | rfl | rfl | rfl | rfl | rfl | rfl | rfl | rfl | rfl | rfl | rfl | rfl | rfl | rfl | rfl | rfl | rfl | rfl | rfl | rfl | rfl | rfl | rfl | rfl | rfl | rfl | rfl | rfl | rfl | rfl | rfl | rfl | rfl | rfl | rfl
    · exact key.1
    · exact key.2.1
    · exact key.2.2.1
    · exact key.2.2.2.1
    · exact key.2.2.2.2.1
    · exact key.2.2.2.2.2.1
    · exact key.2.2.2.2.2.2.1
    · exact key.2.2.2.2.2.2.2.1
    · exact key.2.2.2.2.2.2.2.2.1
    · exact key.2.2.2.2.2.2.2.2.2.1
    · exact key.2.2.2.2.2.2.2.2.2.2.1
    · exact key.2.2.2.2.2.2.2.2.2.2.2.1
    · exact key.2.2.2.2.2.2.2.2.2.2.2.2.1
    · exact key.2.2.2.2.2.2.2.2.2.2.2.2.2.1
    · exact key.2.2.2.2.2.2.2.2.2.2.2.2.2.2.1
    · exact key.2.2.2.2.2.2.2.2.2.2.2.2.2.2.2.1
    · exact key.2.2.2.2.2.2.2.2.2.2.2.2.2.2.2.2.1
    · exact key.2.2.2.2.2.2.2.2.2.2.2.2.2.2.2.2.2.1
    · exact key.2.2.2.2.2.2.2.2.2.2.2.2.2.2.2.2.2.2.1
    · exact key.2.2.2.2.2.2.2.2.2.2.2.2.2.2.2.2.2.2.2.1
    · exact key.2.2.2.2.2.2.2.2.2.2.2.2.2.2.2.2.2.2.2.2.1
    · exact key.2.2.2.2.2.2.2.2.2.2.2.2.2.2.2.2.2.2.2.2.2.1
    · exact key.2.2.2.2.2.2.2.2.2.2.2.2.2.2.2.2.2.2.2.2.2.2.1
    · exact key.2.2.2.2.2.2.2.2.2.2.2.2.2.2.2.2.2.2.2.2.2.2.2.1
    · exact key.2.2.2.2.2.2.2.2.2.2.2.2.2.2.2.2.2.2.2.2.2.2.2.2.1
    · exact key.2.2.2.2.2.2.2.2.2.2.2.2.2.2.2.2.2.2.2.2.2.2.2.2.2.1
    · exact key.2.2.2.2.2.2.2.2.2.2.2.2.2.2.2.2.2.2.2.2.2.2.2.2.2.2.1
    · exact key.2.2.2.2.2.2.2.2.2.2.2.2.2.2.2.2.2.2.2.2.2.2.2.2.2.2.2.1
    · exact key.2.2.2.2.2.2.2.2.2.2.2.2.2.2.2.2.2.2.2.2.2.2.2.2.2.2.2.2.1
    · exact key.2.2.2.2.2.2.2.2.2.2.2.2.2.2.2.2.2.2.2.2.2.2.2.2.2.2.2.2.2.1
    · exact key.2.2.2.2.2.2.2.2.2.2.2.2.2.2.2.2.2.2.2.2.2.2.2.2.2.2.2.2.2.2.1
    · exact key.2.2.2.2.2.2.2.2.2.2.2.2.2.2.2.2.2.2.2.2.2.2.2.2.2.2.2.2.2.2.2.1
    · exact key.2.2.2.2.2.2.2.2.2.2.2.2.2.2.2.2.2.2.2.2.2.2.2.2.2.2.2.2.2.2.2.2.1
    · exact key.2.2.2.2.2.2.2.2.2.2.2.2.2.2.2.2.2.2.2.2.2.2.2.2.2.2.2.2.2.2.2.2.2.1
    · exact key.2.2.2.2.2.2.2.2.2.2.2.2.2.2.2.2.2.2.2.2.2.2.2.2.2.2.2.2.2.2.2.2.2.2.1
    · exact key.2.2.2.2.2.2.2.2.2.2.2.2.2.2.2.2.2.2.2.2.2.2.2.2.2.2.2.2.2.2.2.2.2.2.2.1
    · exact key.2.2.2.2.2.2.2.2.2.2.2.2.2.2.2.2.2.2.2.2.2.2.2.2.2.2.2.2.2.2.2.2.2.2.2.2.1
    · exact key.2.2.2.2.2.2.2.2.2.2.2.2.2.2.2.2.2.2.2.2.2.2.2.2.2.2.2.2.2.2.2.2.2.2.2.2.2
  · intro i hi
    match i, hi with
    | 0, _ => show va_O "java/lang/String" (E 0) _ s s.heap ∧ va_OF "java/lang/String" "coder" "B" (.int 0) (E 0) _ s s.heap ∧ va_OF "java/lang/String" "value" "[B" (.ref (E (100 + 0))) (E 0) _ s s.heap ∧ va_T .byte (E (100 + 0)) (gLen.getD 0 0) (fun j => .int ((gByt.getD 0 []).getD j 0)) _ s s.heap; rw [h0, show 100 + 0 = 100 from rfl, h100]; exact ⟨s0b, s0c, s0d, s0e⟩
    | 1, _ => show va_O "java/lang/String" (E 1) _ s s.heap ∧ va_OF "java/lang/String" "coder" "B" (.int 0) (E 1) _ s s.heap ∧ va_OF "java/lang/String" "value" "[B" (.ref (E (100 + 1))) (E 1) _ s s.heap ∧ va_T .byte (E (100 + 1)) (gLen.getD 1 0) (fun j => .int ((gByt.getD 1 []).getD j 0)) _ s s.heap; rw [h1, show 100 + 1 = 101 from rfl, h101]; exact ⟨s1b, s1c, s1d, s1e⟩
    | 2, _ => show va_O "java/lang/String" (E 2) _ s s.heap ∧ va_OF "java/lang/String" "coder" "B" (.int 0) (E 2) _ s s.heap ∧ va_OF "java/lang/String" "value" "[B" (.ref (E (100 + 2))) (E 2) _ s s.heap ∧ va_T .byte (E (100 + 2)) (gLen.getD 2 0) (fun j => .int ((gByt.getD 2 []).getD j 0)) _ s s.heap; rw [h2, show 100 + 2 = 102 from rfl, h102]; exact ⟨s2b, s2c, s2d, s2e⟩
    | 3, _ => show va_O "java/lang/String" (E 3) _ s s.heap ∧ va_OF "java/lang/String" "coder" "B" (.int 0) (E 3) _ s s.heap ∧ va_OF "java/lang/String" "value" "[B" (.ref (E (100 + 3))) (E 3) _ s s.heap ∧ va_T .byte (E (100 + 3)) (gLen.getD 3 0) (fun j => .int ((gByt.getD 3 []).getD j 0)) _ s s.heap; rw [h3, show 100 + 3 = 103 from rfl, h103]; exact ⟨s3b, s3c, s3d, s3e⟩
    | 4, _ => show va_O "java/lang/String" (E 4) _ s s.heap ∧ va_OF "java/lang/String" "coder" "B" (.int 0) (E 4) _ s s.heap ∧ va_OF "java/lang/String" "value" "[B" (.ref (E (100 + 4))) (E 4) _ s s.heap ∧ va_T .byte (E (100 + 4)) (gLen.getD 4 0) (fun j => .int ((gByt.getD 4 []).getD j 0)) _ s s.heap; rw [h4, show 100 + 4 = 104 from rfl, h104]; exact ⟨s4b, s4c, s4d, s4e⟩
    | 5, _ => show va_O "java/lang/String" (E 5) _ s s.heap ∧ va_OF "java/lang/String" "coder" "B" (.int 0) (E 5) _ s s.heap ∧ va_OF "java/lang/String" "value" "[B" (.ref (E (100 + 5))) (E 5) _ s s.heap ∧ va_T .byte (E (100 + 5)) (gLen.getD 5 0) (fun j => .int ((gByt.getD 5 []).getD j 0)) _ s s.heap; rw [h5, show 100 + 5 = 105 from rfl, h105]; exact ⟨s5b, s5c, s5d, s5e⟩
    | 6, _ => show va_O "java/lang/String" (E 6) _ s s.heap ∧ va_OF "java/lang/String" "coder" "B" (.int 0) (E 6) _ s s.heap ∧ va_OF "java/lang/String" "value" "[B" (.ref (E (100 + 6))) (E 6) _ s s.heap ∧ va_T .byte (E (100 + 6)) (gLen.getD 6 0) (fun j => .int ((gByt.getD 6 []).getD j 0)) _ s s.heap; rw [h6, show 100 + 6 = 106 from rfl, h106]; exact ⟨s6b, s6c, s6d, s6e⟩
    | 7, _ => show va_O "java/lang/String" (E 7) _ s s.heap ∧ va_OF "java/lang/String" "coder" "B" (.int 0) (E 7) _ s s.heap ∧ va_OF "java/lang/String" "value" "[B" (.ref (E (100 + 7))) (E 7) _ s s.heap ∧ va_T .byte (E (100 + 7)) (gLen.getD 7 0) (fun j => .int ((gByt.getD 7 []).getD j 0)) _ s s.heap; rw [h7, show 100 + 7 = 107 from rfl, h107]; exact ⟨s7b, s7c, s7d, s7e⟩
    | 8, _ => show va_O "java/lang/String" (E 8) _ s s.heap ∧ va_OF "java/lang/String" "coder" "B" (.int 0) (E 8) _ s s.heap ∧ va_OF "java/lang/String" "value" "[B" (.ref (E (100 + 8))) (E 8) _ s s.heap ∧ va_T .byte (E (100 + 8)) (gLen.getD 8 0) (fun j => .int ((gByt.getD 8 []).getD j 0)) _ s s.heap; rw [h8, show 100 + 8 = 108 from rfl, h108]; exact ⟨s8b, s8c, s8d, s8e⟩
    | k + 9, hi => exact absurd hi (by simp [gLen])
  · show va_Z _ _ _ (.ref (E 200)) _ s s.heap; rw [h200]; exact z200
  · show va_T _ (E 200) _ _ _ s s.heap; rw [h200]; exact y200
  · show va_Z _ _ _ (.ref (E 201)) _ s s.heap; rw [h201]; exact z201
  · show va_T _ (E 201) _ _ _ s s.heap; rw [h201]; exact y201
  · show va_Z _ _ _ (.ref (E 202)) _ s s.heap; rw [h202]; exact z202
  · show va_T _ (E 202) _ _ _ s s.heap; rw [h202]; exact y202
  · show va_Mi _ (E 203) s; rw [h203]; exact y203
  · show va_T .int (E 204) (E 205) (fun j => .int (Int32.ofNat (E (1000 + j)))) _ s s.heap; rw [h204, h205]; obtain ⟨scr, b1, b2, b3, b4, b5⟩ := hX; exact ⟨scr, b1, b2, b3, Nat.le_of_eq b4.symm, by rw [b4]; first | done | rfl, fun j hj => by rw [b5 j hj]; show some (Value.int (xs j)) = some (Value.int (Int32.ofNat (E (1000 + j)))); rw [hEx, st_i32], hA b hbl⟩
  · intro w hw; exact va_Nw.of (st_badIn w hw).2 (hts w (st_badIn w hw).1)
  · intro q hq; exact va_Nc.of (flat_of_before _ hs _ (st_ncIn q hq))
