/-! floats and doubles that are no NaN -/
theorem fl_n32 {x : UInt32} (h : FP.Core.fIsNaN x = false) : x &&& 0x7fffffff ≤ 0x7f800000 := by
  have h1 : ¬ 2139095040 < x.toNat % 2 ^ 31 := fun q => by
    have := (FP.Core.isNaN_bits32 x).mpr q
    rw [h] at this; cases this
  rw [UInt32.le_iff_toNat_le, UInt32.toNat_and, show (0x7fffffff : UInt32).toNat = 2 ^ 31 - 1 by decide, Nat.and_two_pow_sub_one_eq_mod, show (0x7f800000 : UInt32).toNat = 2139095040 by decide]
  omega
theorem fl_n64 {x : UInt64} (h : FP.Core.dIsNaN x = false) : x &&& 0x7fffffffffffffff ≤ 0x7ff0000000000000 := by
  have h1 : ¬ 9218868437227405312 < x.toNat % 2 ^ 63 := fun q => by
    have := (FP.Core.isNaN_bits x).mpr q
    rw [h] at this; cases this
  rw [UInt64.le_iff_toNat_le, UInt64.toNat_and, show (0x7fffffffffffffff : UInt64).toNat = 2 ^ 63 - 1 by decide, Nat.and_two_pow_sub_one_eq_mod, show (0x7ff0000000000000 : UInt64).toNat = 9218868437227405312 by decide]
  omega
theorem fl_d32 (w : Int32) {a : Int32} (ha : ¬ a = 0) : FP.Core.fIsNaN (FP.fdiv (FP.i2f w) (FP.i2f a)) = false := by
  have h1 : FP.Core.fIsNaN (FP.Core.i2f w) = false := FP.Core.FFin.notNaN (FP.Core.i2f_fin w)
  exact FP.Core.fdiv_out h1 (FP.Core.i2f_fin a) (fun q => FP.Core.i2f_ne_zero ha ((FP.Core.zero_bits232 _).mp q))
theorem fl_d64 (w : Int32) {a : Int32} (ha : ¬ a = 0) : FP.Core.dIsNaN (FP.ddiv (FP.i2d w) (FP.i2d a)) = false := by
  have h1 : FP.Core.dIsNaN (FP.Core.i2d w) = false := FP.Core.DFin.notNaN (FP.Core.i2d_fin w)
  exact FP.Core.ddiv_out h1 (FP.Core.i2d_fin a) (fun q => FP.Core.i2d_ne_zero ha ((FP.Core.zero_bits2 _).mp q))
theorem fl_f2d {x : UInt32} (h : FP.Core.fIsNaN x = false) : FP.Core.dIsNaN (FP.f2d x) = false := (FP.f2d_nan x).trans h
theorem fl_eq {x : UInt64} (h : FP.Core.dIsNaN x = false) : FP.dcmp x x = some .eq := FP.Core.dcmp_self ((FP.Core.notNaN_iff x).mp h)
theorem fl_32 (w : Int32) {a : Int32} (ha : ¬ a = 0) : (FP.fdiv (FP.i2f w) (FP.i2f a)) &&& 0x7fffffff ≤ 0x7f800000 := fl_n32 (fl_d32 w ha)
theorem fl_64 (w : Int32) {a : Int32} (ha : ¬ a = 0) : (FP.ddiv (FP.i2d w) (FP.i2d a)) &&& 0x7fffffffffffffff ≤ 0x7ff0000000000000 := fl_n64 (fl_d64 w ha)
theorem fl_f (w : Int32) {a : Int32} (ha : ¬ a = 0) : (FP.f2d (FP.fdiv (FP.i2f w) (FP.i2f a))) &&& 0x7fffffffffffffff ≤ 0x7ff0000000000000 := fl_n64 (fl_f2d (fl_d32 w ha))
