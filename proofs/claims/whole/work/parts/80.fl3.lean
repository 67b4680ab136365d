/-! quotients again (made by wip/whole/hl.py; true: python3 hl.py true) -/
/-- a float that is a quotient of whole numbers, made a double, is no NaN; and is like itself (sorry here: the true text needs the library's float laws; see wip/whole/later) -/
theorem fl_f2d {x y : Int} (h : 0 < y ∧ y ≤ 2147483647) : vf_n64 (FP.f2d (UInt32.ofNat (ia_fdiv (ia_i2f x) (ia_i2f y)).toNat)) := by
  sorry
theorem fl_dcf {x y : Int} (h : 0 < y ∧ y ≤ 2147483647) : ia_dcl (ia_f2d (ia_fdiv (ia_i2f x) (ia_i2f y))) (ia_f2d (ia_fdiv (ia_i2f x) (ia_i2f y))) = 0 := by
  sorry
theorem fl_dcd {x y : Int} (h : 0 < y ∧ y ≤ 2147483647) : ia_dcl (ia_ddiv (ia_i2d x) (ia_i2d y)) (ia_ddiv (ia_i2d x) (ia_i2d y)) = 0 := by
  sorry
