/-! the helpers of the law, more (made by wip/whole/hl.py) -/
set_option maxRecDepth 100000 in
set_option maxHeartbeats 2000000 in
set_option linter.constructorNameAsVariable false in
theorem h_isComplete {Z : ia_Z} {V : ia_H} {Q : ia_O → ia_Z → ia_H → Prop} {σ : Nat → Int} {m : Int} (e : Int) (hZ : ZI Z) (hP : PI V) (hS : Sh 1 V σ) (hI : SI σ m)  (re : -2147483648 ≤ e ∧ e ≤ 2147483647) (q1 : (0 ≤ e ∧ e < σ 0) → (miss σ e.toNat = 0) → Q (.inl (some (0, 0))) Z (ia_u V 114 0 1)) (q2 : (0 ≤ e ∧ e < σ 0) → (¬ miss σ e.toNat = 0) → Q (.inl (some (0, 0))) Z (ia_u V 114 0 0)) (q3 : (¬ (0 ≤ e ∧ e < σ 0)) → Q (.inl (some (0, 1))) Z V) : ia_KH yL_isComplete cL_isComplete 4 (some .int) [(0, 16, 19, 42)] [(4, ((0 : Nat) : Int)), (0, e), (4, ((114 : Nat) : Int))] Z V 9 1 6 Q := by
  refine ia_startH RL "isComplete" ⟨by decide, rfl, rfl⟩ (Nat.le_of_ble_eq_true rfl) (ia_tg rfl) (fun X F M => ?_)
  show ia_G X 0 0 0 [(4, ((0 : Nat) : Int)), (0, e), (4, ((114 : Nat) : Int)), (9, 0)] [] Z V
  obtain ⟨s0, s1, s2, s3, s4, s5, s6, s7, s18, sb, sw, se, sp⟩ := id hI
  refine ia_aload_n (pc := 0) F dL_isComplete_0 rfl ?_
  refine ia_iconst (pc := 1) F dL_isComplete_1 ?_
  refine ia_aload_n (pc := 2) F dL_isComplete_2 rfl ?_
  refine ia_iload_n (pc := 3) F dL_isComplete_3 rfl ?_
  refine jV (pc := 4) F 0 0 (z0 hZ) cls10.1 (c_X7_isComplete e hZ hP hS hI re (fun c0 c1 => ?_) (fun c0 c1 => ?_) (fun c0 => ?_)) rfl ⟨k_X7_isComplete, il_RL_58, im_X7_isComplete, is_X7_isComplete, ii_RX7⟩ 1 rfl hd_X7_isComplete ⟨by decide, by decide, by decide, by decide, Nat.le_of_ble_eq_true rfl⟩ dL_isComplete_4
  · refine j1 ?_
    refine ia_if_eq (pc := 7) F 14 dL_isComplete_7 rfl (by omega) (fun h9 => absurd h9 (by omega)) (fun _ => ?_)
    refine ia_lconst (pc := 10) F dL_isComplete_10 (v := 1) rfl ?_
    refine ia_goto (pc := 11) F 15 dL_isComplete_11 rfl ?_
    refine ia_lastore (pc := 15) F 114 0 rfl rfl (z114 hZ).1 (z114 hZ).2.1 (by rw [(z114 hZ).2.2]; decide) dL_isComplete_15 ?_
    refine ia_goto (pc := 16) F 22 dL_isComplete_16 rfl ?_
    refine ia_iconst (pc := 22) F dL_isComplete_22 ?_
    refine ia_ireturnH (pc := 23) F M (by decide) (by decide) dL_isComplete_23 ?_
    exact q1 c0 c1
  · refine j1 ?_
    refine ia_if_eq (pc := 7) F 14 dL_isComplete_7 rfl (by omega) (fun _ => ?_) (fun h9 => absurd h9 (by omega))
    refine ia_lconst (pc := 14) F dL_isComplete_14 (v := 0) rfl ?_
    refine ia_lastore (pc := 15) F 114 0 rfl rfl (z114 hZ).1 (z114 hZ).2.1 (by rw [(z114 hZ).2.2]; decide) dL_isComplete_15 ?_
    refine ia_goto (pc := 16) F 22 dL_isComplete_16 rfl ?_
    refine ia_iconst (pc := 22) F dL_isComplete_22 ?_
    refine ia_ireturnH (pc := 23) F M (by decide) (by decide) dL_isComplete_23 ?_
    exact q2 c0 c1
  · refine jx ?_
    refine ia_catch F M [] (0, 16, 19, 42) [] "java/lang/IndexOutOfBoundsException" rfl (fun z hz => by cases hz) ⟨by decide, by decide, by decide⟩ il_RL_42 cs_2 dL_isComplete_19 rfl rfl ?_
    refine ia_iconst (pc := 20) F dL_isComplete_20 ?_
    refine ia_ireturnH (pc := 21) F M (by decide) (by decide) dL_isComplete_21 ?_
    exact q3 c0
set_option maxRecDepth 100000 in
set_option maxHeartbeats 2000000 in
set_option linter.constructorNameAsVariable false in
theorem h_meanRun {Z : ia_Z} {V : ia_H} {Q : ia_O → ia_Z → ia_H → Prop} {σ : Nat → Int} {m : Int} (hZ : ZI Z) (hP : PI V) (hS : Sh 1 V σ) (hI : SI σ m)   (q1 : (0 < σ 0) → Q (.inl (some (0, 0))) Z (ia_u V 115 0 (ia_ddiv (ia_i2d (psum (run σ) (σ 0).toNat)) (ia_i2d (σ 0))))) (q2 : (σ 0 = 0) → Q (.inl (some (0, 1))) Z V) : ia_KH yL_meanRun cL_meanRun 3 (some .int) [(0, 7, 10, 95)] [(4, ((0 : Nat) : Int)), (4, ((115 : Nat) : Int))] Z V 9 1 6 Q := by
  refine ia_startH RL "meanRun" ⟨by decide, rfl, rfl⟩ (Nat.le_of_ble_eq_true rfl) (ia_tg rfl) (fun X F M => ?_)
  show ia_G X 0 0 0 [(4, ((0 : Nat) : Int)), (4, ((115 : Nat) : Int)), (9, 0)] [] Z V
  obtain ⟨s0, s1, s2, s3, s4, s5, s6, s7, s18, sb, sw, se, sp⟩ := id hI
  refine ia_aload_n (pc := 0) F dL_meanRun_0 rfl ?_
  refine ia_iconst (pc := 1) F dL_meanRun_1 ?_
  refine ia_aload_n (pc := 2) F dL_meanRun_2 rfl ?_
  refine jV (pc := 3) F 0 0 (z0 hZ) cls10.1 (c_X7_meanRun hZ hP hS hI (fun c0 => ?_) (fun c0 => ?_)) rfl ⟨k_X7_meanRun, il_RL_91, im_X7_meanRun, is_X7_meanRun, ii_RX7⟩ 0 rfl hd_X7_meanRun ⟨by decide, by decide, by decide, by decide, Nat.le_of_ble_eq_true rfl⟩ dL_meanRun_3
  · refine j1 ?_
    refine ia_dastore (pc := 6) F 115 0 rfl rfl (z115 hZ).1 (z115 hZ).2.1 (by rw [(z115 hZ).2.2]; decide) dL_meanRun_6 ?_
    refine ia_goto (pc := 7) F 13 dL_meanRun_7 rfl ?_
    refine ia_iconst (pc := 13) F dL_meanRun_13 ?_
    refine ia_ireturnH (pc := 14) F M (by decide) (by decide) dL_meanRun_14 ?_
    exact q1 c0
  · refine jx ?_
    refine ia_catch F M [] (0, 7, 10, 95) [] "java/lang/ArithmeticException" rfl (fun z hz => by cases hz) ⟨by decide, by decide, by decide⟩ il_RL_95 cs_5 dL_meanRun_10 rfl rfl ?_
    refine ia_iconst (pc := 11) F dL_meanRun_11 ?_
    refine ia_ireturnH (pc := 12) F M (by decide) (by decide) dL_meanRun_12 ?_
    exact q2 c0
