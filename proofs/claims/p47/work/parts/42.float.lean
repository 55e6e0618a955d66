/-! floats: quotients of ints are finite -/
theorem fl_n32 {r : UInt32} (h : r.toNat % 2 ^ 31 ≤ 2139095040) : vf_n32 r := by
  unfold vf_n32
  rw [UInt32.le_iff_toNat_le, UInt32.toNat_and, show (0x7fffffff : UInt32).toNat = 2 ^ 31 - 1 from rfl, Nat.and_two_pow_sub_one_eq_mod]
  exact h
theorem fl_n64 {r : UInt64} (h : r.toNat % 2 ^ 63 ≤ 9218868437227405312) : vf_n64 r := by
  unfold vf_n64
  rw [UInt64.le_iff_toNat_le, UInt64.toNat_and, show (0x7fffffffffffffff : UInt64).toNat = 2 ^ 63 - 1 from rfl, Nat.and_two_pow_sub_one_eq_mod]
  exact h
theorem fl_ne {v : Int32} (h : ¬ v = 0) : v.toInt ≠ 0 := fun z => h (Int32.toInt_inj.mp z)
theorem fl_divm {a b : Int32} (hb : ¬ b = 0) : (FP.fdiv (FP.i2f a) (FP.i2f b)).toNat % 2 ^ 31 < 161 * 2 ^ 23 := by
  have h1 := Jvm.FP.Core.i2f_mag a
  have h2 := Jvm.FP.Core.i2f_big (v := b) (fl_ne hb)
  exact Jvm.FP.Core.fdiv_mag (K := 160) (L := 127) h1 h2.1 h2.2 (by decide) (by decide)
theorem fl_div {a b : Int32} (hb : ¬ b = 0) : vf_n32 (FP.fdiv (FP.i2f a) (FP.i2f b)) := fl_n32 (by have := fl_divm (a := a) hb; omega)
theorem fl_fin {a b : Int32} (hb : ¬ b = 0) : Jvm.FP.Core.FFin (FP.fdiv (FP.i2f a) (FP.i2f b)) := Jvm.FP.Core.fin_of_lt32 (K := 161) (fl_divm hb) (by decide)
theorem fl_c {q : UInt32} (h : Jvm.FP.Core.FFin q) : FP.f2d q = Jvm.FP.Core.f2d q := FP.f2d_core (Jvm.FP.Core.FFin.notNaN h)
theorem fl_f2d {q : UInt32} (h : Jvm.FP.Core.FFin q) : vf_n64 (FP.f2d q) := by rw [fl_c h]; exact fl_n64 (Nat.le_of_lt ((Jvm.FP.Core.fin_bits _).mp (Jvm.FP.Core.f2d_fin h)))
theorem fl_cmp {q : UInt32} (h : Jvm.FP.Core.FFin q) : Op.cmpValue (FP.dcmp (FP.f2d q) (FP.f2d q)) .l = 0 := by
  rw [fl_c h, show FP.dcmp (Jvm.FP.Core.f2d q) (Jvm.FP.Core.f2d q) = some .eq from Jvm.FP.Core.dcmp_self (Jvm.FP.Core.DFin.ne_nan (Jvm.FP.Core.f2d_fin h))]
  rfl
theorem fl_ddivm {a b : Int32} (hb : ¬ b = 0) : (FP.ddiv (FP.i2d a) (FP.i2d b)).toNat % 2 ^ 63 < 1060 * 2 ^ 52 := by
  have h1 := Jvm.FP.Core.i2d_mag a
  have h2 := Jvm.FP.Core.i2d_big (v := b) (fl_ne hb)
  have := Jvm.FP.Core.ddiv_mag (K := 1056) (L := 1023) h1 h2.1 h2.2 (by decide) (by decide)
  exact Nat.lt_of_lt_of_le this (by decide)
theorem fl_ddiv {a b : Int32} (hb : ¬ b = 0) : vf_n64 (FP.ddiv (FP.i2d a) (FP.i2d b)) := fl_n64 (by have := fl_ddivm (a := a) hb; omega)
theorem fl_dfin {a b : Int32} (hb : ¬ b = 0) : Jvm.FP.Core.DFin (FP.ddiv (FP.i2d a) (FP.i2d b)) := (Jvm.FP.Core.fin_bits _).mpr (by have := fl_ddivm (a := a) hb; omega)
theorem fl_dcmp {q : UInt64} (h : Jvm.FP.Core.DFin q) : Op.cmpValue (FP.dcmp q q) .l = 0 := by
  rw [show FP.dcmp q q = some .eq from Jvm.FP.Core.dcmp_self (Jvm.FP.Core.DFin.ne_nan h)]
  rfl
theorem fl_0 : Jvm.FP.Core.FFin FP.fconst0 := (Jvm.FP.Core.fin_bits32 _).mpr (by decide)
section CN
variable {X : Cx} {xs : Nat → Int32} {Ls b i : Nat} {v1 v2 v3 v4 : Option Nat} {g : GM}
end CN
