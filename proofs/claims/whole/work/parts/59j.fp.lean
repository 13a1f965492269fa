theorem mean_num {x y : Int32} (h : y ≠ 0) : vf_n64 (FP.ddiv (FP.i2d x) (FP.i2d y)) := by
  have hx : Jvm.FP.Core.dIsNaN (Jvm.FP.Core.i2d x) = false := by
    rw [Jvm.FP.Core.notNaN_iff, Jvm.FP.Core.ne_nan]
    have := (Jvm.FP.Core.fin_bits _).mp (Jvm.FP.Core.i2d_fin x)
    omega
  have h1 := Jvm.FP.Core.ddiv_out (b := Jvm.FP.Core.i2d y) hx (Jvm.FP.Core.i2d_fin y) (fun q => Jvm.FP.Core.i2d_ne_zero h ((Jvm.FP.Core.zero_bits2 _).mp q))
  rw [Jvm.FP.Core.notNaN_iff, Jvm.FP.Core.ne_nan] at h1
  show (Jvm.FP.Core.ddiv (Jvm.FP.Core.i2d x) (Jvm.FP.Core.i2d y)) &&& 0x7fffffffffffffff ≤ (0x7ff0000000000000 : UInt64)
  rw [UInt64.le_iff_toNat_le, UInt64.toNat_and, show (0x7fffffffffffffff : UInt64).toNat = 2 ^ 63 - 1 from rfl, Nat.and_two_pow_sub_one_eq_mod]
  exact h1
