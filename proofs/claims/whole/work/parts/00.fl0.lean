/-! bits that are no NaN (ahead of all: it stands on the float laws, so that a round is read over the whole library from its first part on) -/
theorem fl_n64 {a : UInt64} (h : FP.Core.dIsNaN a = false) : vf_n64 a := by
  have h2 : ¬ 9218868437227405312 < a.toNat % 2 ^ 63 := fun q => by
    have := (FP.Core.isNaN_bits a).mpr q
    rw [h] at this
    cases this
  show a &&& 0x7fffffffffffffff ≤ 0x7ff0000000000000
  rw [UInt64.le_iff_toNat_le, UInt64.toNat_and]
  show a.toNat &&& (2 ^ 63 - 1) ≤ 9218868437227405312
  rw [Nat.and_two_pow_sub_one_eq_mod]
  omega
theorem fl_n32 {a : UInt32} (h : FP.Core.fIsNaN a = false) : vf_n32 a := by
  have h1 := (FP.Core.notNaN_iff32 a).mp h
  have h2 := (FP.Core.ne_nan32 a).mp h1
  show a &&& 0x7fffffff ≤ 0x7f800000
  rw [UInt32.le_iff_toNat_le, UInt32.toNat_and]
  show a.toNat &&& (2 ^ 31 - 1) ≤ 2139095040
  rw [Nat.and_two_pow_sub_one_eq_mod]
  omega
