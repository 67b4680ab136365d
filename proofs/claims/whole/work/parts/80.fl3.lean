/-! quotients again (made by wip/whole/hl.py; true: python3 hl.py true) -/
/-- a float that is a quotient of whole numbers, made a double, is no NaN; and is like itself -/
theorem fl_fnan {x y : Int} (h : 0 < y ∧ y ≤ 2147483647) : FP.Core.fIsNaN (FP.fdiv (UInt32.ofNat (ia_i2f x).toNat) (UInt32.ofNat (ia_i2f y).toNat)) = false := by
  unfold ia_i2f
  rw [fl_u32, fl_u32]
  refine FP.Core.fdiv_out (FP.Core.i2f_fin _).notNaN (FP.Core.i2f_fin _) (fun z => ?_)
  exact FP.Core.i2f_ne_zero (fl_nz h) ((FP.Core.zero_bits232 _).mp z)
theorem fl_dnan {x y : Int} (h : 0 < y ∧ y ≤ 2147483647) : FP.Core.dIsNaN (FP.ddiv (UInt64.ofNat (ia_i2d x).toNat) (UInt64.ofNat (ia_i2d y).toNat)) = false := by
  unfold ia_i2d
  rw [fl_u64, fl_u64]
  refine FP.Core.ddiv_out (FP.Core.i2d_fin _).notNaN (FP.Core.i2d_fin _) (fun z => ?_)
  exact FP.Core.i2d_ne_zero (fl_nz h) ((FP.Core.zero_bits2 _).mp z)
theorem fl_f2n {x y : Int} (h : 0 < y ∧ y ≤ 2147483647) : FP.Core.dIsNaN (FP.f2d (UInt32.ofNat (ia_fdiv (ia_i2f x) (ia_i2f y)).toNat)) = false := by
  unfold ia_fdiv
  rw [fl_u32]
  exact (FP.f2d_nan _).trans (fl_fnan h)
theorem fl_f2d {x y : Int} (h : 0 < y ∧ y ≤ 2147483647) : vf_n64 (FP.f2d (UInt32.ofNat (ia_fdiv (ia_i2f x) (ia_i2f y)).toNat)) := fl_n64 (fl_f2n h)
theorem fl_dcs {a : UInt64} (h : FP.Core.dIsNaN a = false) : ia_dcl (a.toNat : Int) (a.toNat : Int) = 0 := by
  have e : FP.dcmp a a = some .eq := FP.Core.dcmp_refl h
  unfold ia_dcl
  rw [fl_u64, e]
  rfl
theorem fl_dcf {x y : Int} (h : 0 < y ∧ y ≤ 2147483647) : ia_dcl (ia_f2d (ia_fdiv (ia_i2f x) (ia_i2f y))) (ia_f2d (ia_fdiv (ia_i2f x) (ia_i2f y))) = 0 := fl_dcs (fl_f2n h)
theorem fl_dcd {x y : Int} (h : 0 < y ∧ y ≤ 2147483647) : ia_dcl (ia_ddiv (ia_i2d x) (ia_i2d y)) (ia_ddiv (ia_i2d x) (ia_i2d y)) = 0 := fl_dcs (fl_dnan h)
