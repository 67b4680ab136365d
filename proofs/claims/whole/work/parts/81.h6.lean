/-! the helpers of the law, the last (made by wip/whole/hl.py) -/
set_option maxRecDepth 100000 in
set_option maxHeartbeats 2000000 in
set_option linter.constructorNameAsVariable false in
theorem h_fadedShare {Z : ia_Z} {V : ia_H} {Q : ia_O → ia_Z → ia_H → Prop} {σ : Nat → Int} {m : Int} (hZ : ZI Z) (hP : PI V) (hS : Sh 1 V σ) (hI : SI σ m)   (q1 : (0 < σ 6) → Q (.inl (some (0, 0))) Z (ia_u V 115 0 (ia_f2d (ia_fdiv (ia_i2f (σ 18)) (ia_i2f (σ 6)))))) (q2 : (σ 6 = 0) → Q (.inl (some (0, 1))) Z V) : ia_KH yL_fadedShare cL_fadedShare 3 (some .int) [(0, 8, 11, 95)] [(4, ((0 : Nat) : Int)), (4, ((115 : Nat) : Int))] Z V 9 1 6 Q := by
  refine ia_startH RL "fadedShare" ⟨by decide, rfl, rfl⟩ (Nat.le_of_ble_eq_true rfl) (ia_tg rfl) (fun X F M => ?_)
  show ia_G X 0 0 0 [(4, ((0 : Nat) : Int)), (4, ((115 : Nat) : Int)), (9, 0)] [] Z V
  obtain ⟨s0, s1, s2, s3, s4, s5, s6, s7, s18, sb, sw, se, sp⟩ := id hI
  refine ia_aload_n (pc := 0) F dL_fadedShare_0 rfl ?_
  refine ia_iconst (pc := 1) F dL_fadedShare_1 ?_
  refine ia_aload_n (pc := 2) F dL_fadedShare_2 rfl ?_
  refine jV (pc := 3) F 0 0 (z0 hZ) cls10.1 (c_X7_fadedShare hZ hP hS hI (fun c0 => ?_) (fun c0 => ?_)) rfl ⟨k_X7_fadedShare, il_RL_97, im_X7_fadedShare, is_X7_fadedShare, ii_RX7⟩ 0 rfl hd_X7_fadedShare ⟨by decide, by decide, by decide, by decide, Nat.le_of_ble_eq_true rfl⟩ dL_fadedShare_3
  · refine j1 ?_
    refine ia_f2dr (pc := 6) F dL_fadedShare_6 (fl_f2d (by omega)) ?_
    refine ia_dastore (pc := 7) F 115 0 rfl rfl (z115 hZ).1 (z115 hZ).2.1 (by rw [(z115 hZ).2.2]; decide) dL_fadedShare_7 ?_
    refine ia_goto (pc := 8) F 14 dL_fadedShare_8 rfl ?_
    refine ia_iconst (pc := 14) F dL_fadedShare_14 ?_
    refine ia_ireturnH (pc := 15) F M (by decide) (by decide) dL_fadedShare_15 ?_
    exact q1 c0
  · refine jx ?_
    refine ia_catch F M [] (0, 8, 11, 95) [] "java/lang/ArithmeticException" rfl (fun z hz => by cases hz) ⟨by decide, by decide, by decide⟩ il_RL_95 cs_5 dL_fadedShare_11 rfl rfl ?_
    refine ia_iconst (pc := 12) F dL_fadedShare_12 ?_
    refine ia_ireturnH (pc := 13) F M (by decide) (by decide) dL_fadedShare_13 ?_
    exact q2 c0
