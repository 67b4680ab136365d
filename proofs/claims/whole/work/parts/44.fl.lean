/-! quotients of whole numbers (made by wip/whole/mkspec10.py) -/
theorem fl_u64 (a : UInt64) : UInt64.ofNat ((a.toNat : Int)).toNat = a := by rw [Int.toNat_natCast, UInt64.ofNat_toNat]
theorem fl_u32 (a : UInt32) : UInt32.ofNat ((a.toNat : Int)).toNat = a := by rw [Int.toNat_natCast, UInt32.ofNat_toNat]
theorem fl_nz {x : Int} (h : 0 < x ∧ x ≤ 2147483647) : Int32.ofInt x ≠ 0 := fun e => by
  have h2 := congrArg Int32.toInt e
  rw [Int32.toInt_ofInt_of_le (by omega) (by omega)] at h2
  have : (0 : Int32).toInt = 0 := rfl
  omega
theorem fl_ddiv {x y : Int} (h : 0 < y ∧ y ≤ 2147483647) : vf_n64 (FP.ddiv (UInt64.ofNat (ia_i2d x).toNat) (UInt64.ofNat (ia_i2d y).toNat)) := by
  unfold ia_i2d
  rw [fl_u64, fl_u64]
  refine fl_n64 (FP.Core.ddiv_out (FP.Core.i2d_fin _).notNaN (FP.Core.i2d_fin _) (fun z => ?_))
  exact FP.Core.i2d_ne_zero (fl_nz h) ((FP.Core.zero_bits2 _).mp z)
theorem fl_lf {x : Int} (h : -2147483648 ≤ x ∧ x ≤ 2147483647) : ia_l2f x = ia_i2f x := by
  unfold ia_l2f ia_i2f
  rw [← ia_i2l0 h]
  exact congrArg (fun (u : UInt32) => (u.toNat : Int)) (FP.Core.i2f_l2f (Int32.ofInt x)).symm
theorem fl_fdiv {x y : Int} (h : 0 < y ∧ y ≤ 2147483647) : vf_n32 (FP.fdiv (UInt32.ofNat (ia_i2f x).toNat) (UInt32.ofNat (ia_i2f y).toNat)) := by
  unfold ia_i2f
  rw [fl_u32, fl_u32]
  refine fl_n32 (FP.Core.fdiv_out (FP.Core.i2f_fin _).notNaN (FP.Core.i2f_fin _) (fun z => ?_))
  exact FP.Core.i2f_ne_zero (fl_nz h) ((FP.Core.zero_bits232 _).mp z)
