/-- a mean of whole numbers is a number -/
theorem dd_out {k : Nat} (h0 : 0 < k) (h6 : k ≤ 6) (v : Int32) : vf_n64 (FP.ddiv (FP.i2d v) (FP.i2d (nI k))) := by
  have hz : ¬ Jvm.FP.Core.DZero (Jvm.FP.Core.i2d (nI k)) := fun z => absurd ((Jvm.FP.Core.zero_bits2 _).mp z) (Jvm.FP.Core.i2d_ne_zero (nI_nz9 h0 (by omega)))
  have hn := Jvm.FP.Core.ddiv_out (Jvm.FP.Core.DFin.notNaN (Jvm.FP.Core.i2d_fin v)) (Jvm.FP.Core.i2d_fin (nI k)) hz
  have hb : (FP.ddiv (FP.i2d v) (FP.i2d (nI k))).toNat % 2 ^ 63 ≤ 9218868437227405312 := (Jvm.FP.Core.ne_nan _).mp ((Jvm.FP.Core.notNaN_iff _).mp hn)
  have e : (0x7fffffffffffffff : UInt64).toNat = 2 ^ 63 - 1 := by decide
  have e2 : (0x7ff0000000000000 : UInt64).toNat = 9218868437227405312 := by decide
  unfold vf_n64
  rw [UInt64.le_iff_toNat_le, UInt64.toNat_and, e, Nat.and_two_pow_sub_one_eq_mod, e2]
  exact hb
