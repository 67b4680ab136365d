/-! the helpers of the law, more (made by wip/whole/hl.py) -/
set_option maxRecDepth 100000 in
set_option maxHeartbeats 2000000 in
set_option linter.constructorNameAsVariable false in
theorem h_print {Z : ia_Z} {V : ia_H} {Q : ia_O → ia_Z → ia_H → Prop} {σ : Nat → Int} {χ : Nat → Int} {m : Int} (e : Int) (hZ : ZI Z) (hP : PI V) (hS : Sh 1 V σ) (hI : SI σ m) (h15 : V 15 = χ) (hχ : (0 ≤ χ 1 ∧ χ 1 < 9) ∧ 0 ≤ χ 2 ∧ χ 2 ≤ 8) (re : -2147483648 ≤ e ∧ e ≤ 2147483647) (q1 : ∀ (V1 : ia_H), (¬ (0 ≤ e ∧ e < σ 0)) → PI V1 → (∀ pp, pp ∉ ([17, 18, 19, 20, 21, 22, 23, 24, 25, 26, 27, 28, 29, 30, 31, 32, 33, 34, 35, 36, 37, 38, 39, 40, 41, 42, 43, 44, 45, 46, 47, 48, 49, 50, 51, 52, 53, 54, 55, 56, 57, 58, 59, 60, 61, 62, 63, 64, 65, 66, 67, 68, 69, 70, 71, 72, 73, 74, 75, 76, 77, 78, 79] : List Nat) → V1 pp = V pp) → (∀ p : Nat, p < 17 + 7 * (χ 1).toNat ∨ 17 + 7 * (χ 1).toNat + 6 < p → V1 p = V p) → Q (.inl (some (0, 1))) Z V1) (q2 : ∀ (V1 : ia_H), (0 ≤ e ∧ e < σ 0) → (miss σ e.toNat = 0) → PI V1 → (∀ pp, pp ∉ ([17, 18, 19, 20, 21, 22, 23, 24, 25, 26, 27, 28, 29, 30, 31, 32, 33, 34, 35, 36, 37, 38, 39, 40, 41, 42, 43, 44, 45, 46, 47, 48, 49, 50, 51, 52, 53, 54, 55, 56, 57, 58, 59, 60, 61, 62, 63, 64, 65, 66, 67, 68, 69, 70, 71, 72, 73, 74, 75, 76, 77, 78, 79] : List Nat) → V1 pp = V pp) → (∀ p : Nat, p < 17 + 7 * (χ 1).toNat ∨ 17 + 7 * (χ 1).toNat + 6 < p → V1 p = V p) → Q (.inl (some (0, 2))) Z V1) (q3 : ∀ (V1 : ia_H), (0 ≤ e ∧ e < σ 0) → (¬ miss σ e.toNat = 0) → (σ 2 = 0 ∨ wel σ (col σ e.toNat).toNat = 0) → PI V1 → (∀ pp, pp ∉ ([17, 18, 19, 20, 21, 22, 23, 24, 25, 26, 27, 28, 29, 30, 31, 32, 33, 34, 35, 36, 37, 38, 39, 40, 41, 42, 43, 44, 45, 46, 47, 48, 49, 50, 51, 52, 53, 54, 55, 56, 57, 58, 59, 60, 61, 62, 63, 64, 65, 66, 67, 68, 69, 70, 71, 72, 73, 74, 75, 76, 77, 78, 79] : List Nat) → V1 pp = V pp) → (∀ p : Nat, p < 17 + 7 * (χ 1).toNat ∨ 17 + 7 * (χ 1).toNat + 6 < p → V1 p = V p) → Q (.inl (some (0, 3))) Z V1) (q4 : ∀ (n : Int) (V1 : ia_H), (0 ≤ e ∧ e < σ 0) → (¬ miss σ e.toNat = 0) → (¬ (σ 2 = 0 ∨ wel σ (col σ e.toNat).toNat = 0)) → (n = min (miss σ e.toNat) (min (σ 2) (wel σ (col σ e.toNat).toNat))) → PI V1 → (V1 15 = up (up χ 1 ((χ 1 + 1) % 9)) 2 (min (χ 2 + 1) 8)) → (∀ pp, pp ∉ ([17, 18, 19, 20, 21, 22, 23, 24, 25, 26, 27, 28, 29, 30, 31, 32, 33, 34, 35, 36, 37, 38, 39, 40, 41, 42, 43, 44, 45, 46, 47, 48, 49, 50, 51, 52, 53, 54, 55, 56, 57, 58, 59, 60, 61, 62, 63, 64, 65, 66, 67, 68, 69, 70, 71, 72, 73, 74, 75, 76, 77, 78, 79, 1, 2, 3, 4, 5, 6, 7, 15] : List Nat) → V1 pp = V pp) → (Sh 1 V1 (s_print σ e.toNat n)) → (Sh (17 + 7 * (χ 1).toNat) V1 σ) → (∀ p : Nat, p < 17 + 7 * (χ 1).toNat ∨ 17 + 7 * (χ 1).toNat + 6 < p → p ∉ ([1, 2, 3, 4, 5, 6, 7, 15] : List Nat) → V1 p = V p) → Q (.inl (some (0, 0))) Z (ia_u V1 114 0 n)) : ia_KH yL_print cL_print 4 (some .int) [(0, 9, 12, 42), (0, 9, 15, 15), (0, 9, 18, 47)] [(4, ((0 : Nat) : Int)), (0, e), (4, ((114 : Nat) : Int))] Z V 10 1 6 Q := by
  refine ia_startH RL "print" ⟨by decide, rfl, rfl⟩ (Nat.le_of_ble_eq_true rfl) (ia_tg rfl) (fun X F M => ?_)
  show ia_G X 0 0 0 [(4, ((0 : Nat) : Int)), (0, e), (4, ((114 : Nat) : Int)), (9, 0)] [] Z V
  obtain ⟨s0, s1, s2, s3, s4, s5, s6, s7, s18, sb, sw, se, sp⟩ := id hI
  refine ia_aload_n (pc := 0) F dL_print_0 rfl ?_
  refine ia_iconst (pc := 1) F dL_print_1 ?_
  refine ia_aload_n (pc := 2) F dL_print_2 rfl ?_
  refine ia_iload_n (pc := 3) F dL_print_3 rfl ?_
  refine jV (pc := 4) F 0 0 (z0 hZ) cls10.1 (c_X7_print e hZ hP hS hI h15 hχ re (fun V1 c0 p1 f1 x0_ => ?_) (fun V1 c0 c1 p1 f1 x0_ => ?_) (fun V1 c0 c1 c2 p1 f1 x0_ => ?_) (fun n V1 c0 c1 c2 c3 p1 w15 f1 x0_ x1_ x2_ => ?_)) rfl ⟨k_X7_print, il_RL_44, im_X7_print, is_X7_print, ii_RX7⟩ 1 rfl hd_X7_print ⟨by decide, by decide, by decide, by decide, Nat.le_of_ble_eq_true rfl⟩ dL_print_4
  · refine jx ?_
    refine ia_catch F M [] (0, 9, 12, 42) [(0, 9, 15, 15), (0, 9, 18, 47)] "java/lang/IndexOutOfBoundsException" rfl (fun z hz => by cases hz) ⟨by decide, by decide, by decide⟩ il_RL_42 cs_2 dL_print_12 rfl rfl ?_
    refine ia_iconst (pc := 13) F dL_print_13 ?_
    refine ia_ireturnH (pc := 14) F M (by decide) (by decide) dL_print_14 ?_
    exact q1 V1 c0 p1 f1 x0_
  · refine jx ?_
    refine ia_catch F M [(0, 9, 12, 42)] (0, 9, 15, 15) [(0, 9, 18, 47)] "java/lang/IllegalStateException" rfl (fun z hz => by
      simp only [List.mem_cons, List.not_mem_nil, or_false] at hz
      rcases hz with rfl
      · exact ⟨by decide, _, il_RL_42, by simp [ia_ncs]⟩) ⟨by decide, by decide, by decide⟩ il_RL_15 cs_1 dL_print_15 rfl rfl ?_
    refine ia_iconst (pc := 16) F dL_print_16 ?_
    refine ia_ireturnH (pc := 17) F M (by decide) (by decide) dL_print_17 ?_
    exact q2 V1 c0 c1 p1 f1 x0_
  · refine jx ?_
    refine ia_catch F M [(0, 9, 12, 42), (0, 9, 15, 15)] (0, 9, 18, 47) [] "java/lang/UnsupportedOperationException" rfl (fun z hz => by
      simp only [List.mem_cons, List.not_mem_nil, or_false] at hz
      rcases hz with rfl | rfl
      · exact ⟨by decide, _, il_RL_42, by simp [ia_ncs]⟩
      · exact ⟨by decide, _, il_RL_15, by simp [ia_ncs]⟩) ⟨by decide, by decide, by decide⟩ il_RL_47 cs_4 dL_print_18 rfl rfl ?_
    refine ia_iconst (pc := 19) F dL_print_19 ?_
    refine ia_ireturnH (pc := 20) F M (by decide) (by decide) dL_print_20 ?_
    exact q3 V1 c0 c1 c2 p1 f1 x0_
  · refine j1 ?_
    have r9 := se e.toNat (by omega)
    have r8 : miss σ e.toNat = run σ e.toNat - prt σ e.toNat := rfl
    have r7 := sw (col σ e.toNat).toNat (by omega)
    refine ia_i2lr (pc := 7) F dL_print_7 (by omega) ?_
    refine ia_lastore (pc := 8) F 114 0 rfl rfl (z114 hZ).1 (z114 hZ).2.1 (by rw [(z114 hZ).2.2]; decide) dL_print_8 ?_
    refine ia_goto (pc := 9) F 21 dL_print_9 rfl ?_
    refine ia_iconst (pc := 21) F dL_print_21 ?_
    refine ia_ireturnH (pc := 22) F M (by decide) (by decide) dL_print_22 ?_
    exact q4 n V1 c0 c1 c2 c3 p1 w15 f1 x0_ x1_ x2_
set_option maxRecDepth 100000 in
set_option maxHeartbeats 2000000 in
set_option linter.constructorNameAsVariable false in
theorem h_changeMinutes {Z : ia_Z} {V : ia_H} {Q : ia_O → ia_Z → ia_H → Prop} {σ : Nat → Int} {m : Int} (a : Int) (b : Int) (hZ : ZI Z) (hP : PI V) (hS : Sh 1 V σ) (hI : SI σ m)  (ra : -2147483648 ≤ a ∧ a ≤ 2147483647) (rb : -2147483648 ≤ b ∧ b ≤ 2147483647) (q1 : ((0 ≤ a ∧ a ≤ 9) ∧ (0 ≤ b ∧ b ≤ 9)) → Q (.inl (some (0, 0))) Z (ia_u V 114 0 (wash a b))) (q2 : (¬ ((0 ≤ a ∧ a ≤ 9) ∧ (0 ≤ b ∧ b ≤ 9))) → Q (.inl (some (0, 1))) Z V) : ia_KH yL_changeMinutes cL_changeMinutes 5 (some .int) [(0, 10, 13, 13)] [(4, ((0 : Nat) : Int)), (0, a), (0, b), (4, ((114 : Nat) : Int))] Z V 9 1 6 Q := by
  refine ia_startH RL "changeMinutes" ⟨by decide, rfl, rfl⟩ (Nat.le_of_ble_eq_true rfl) (ia_tg rfl) (fun X F M => ?_)
  show ia_G X 0 0 0 [(4, ((0 : Nat) : Int)), (0, a), (0, b), (4, ((114 : Nat) : Int)), (9, 0)] [] Z V
  obtain ⟨s0, s1, s2, s3, s4, s5, s6, s7, s18, sb, sw, se, sp⟩ := id hI
  refine ia_aload_n (pc := 0) F dL_changeMinutes_0 rfl ?_
  refine ia_iconst (pc := 1) F dL_changeMinutes_1 ?_
  refine ia_aload_n (pc := 2) F dL_changeMinutes_2 rfl ?_
  refine ia_iload_n (pc := 3) F dL_changeMinutes_3 rfl ?_
  refine ia_iload_n (pc := 4) F dL_changeMinutes_4 rfl ?_
  refine jV (pc := 5) F 0 0 (z0 hZ) cls10.1 (c_X7_changeMinutes a b hZ hP hS hI ra rb (fun c0 => ?_) (fun c0 => ?_)) rfl ⟨k_X7_changeMinutes, il_RL_62, im_X7_changeMinutes, is_X7_changeMinutes, ii_RX7⟩ 2 rfl hd_X7_changeMinutes ⟨by decide, by decide, by decide, by decide, Nat.le_of_ble_eq_true rfl⟩ dL_changeMinutes_5
  · refine j1 ?_
    have r9 := wash_rng c0.1 c0.2
    refine ia_i2lr (pc := 8) F dL_changeMinutes_8 (by omega) ?_
    refine ia_lastore (pc := 9) F 114 0 rfl rfl (z114 hZ).1 (z114 hZ).2.1 (by rw [(z114 hZ).2.2]; decide) dL_changeMinutes_9 ?_
    refine ia_goto (pc := 10) F 17 dL_changeMinutes_10 rfl ?_
    refine ia_iconst (pc := 17) F dL_changeMinutes_17 ?_
    refine ia_ireturnH (pc := 18) F M (by decide) (by decide) dL_changeMinutes_18 ?_
    exact q1 c0
  · refine jx ?_
    refine ia_catch2 F M [] (0, 10, 13, 13) [] "java/lang/IllegalArgumentException" rfl (fun z hz => by cases hz) ⟨by decide, by decide, by decide⟩ il_RL_13 cs_0 dL_changeMinutes_13 rfl rfl ?_
    refine ia_iconst (pc := 15) F dL_changeMinutes_15 ?_
    refine ia_ireturnH (pc := 16) F M (by decide) (by decide) dL_changeMinutes_16 ?_
    exact q2 c0
set_option maxRecDepth 100000 in
set_option maxHeartbeats 2000000 in
set_option linter.constructorNameAsVariable false in
theorem h_shareOf {Z : ia_Z} {V : ia_H} {Q : ia_O → ia_Z → ia_H → Prop} {σ : Nat → Int} {δ : Nat → Int} {m : Int} (e : Int) (hZ : ZI Z) (hP : PI V) (hS : Sh 1 V σ) (hI : SI σ m) (h86 : V 86 = δ) (re : -2147483648 ≤ e ∧ e ≤ 2147483647) (q1 : ∀ (V1 : ia_H), (0 ≤ e ∧ e < σ 0) → PI V1 → (∀ pp, pp ∉ ([86] : List Nat) → V1 pp = V pp) → Q (.inl (some (0, 0))) Z (ia_u V1 114 0 (shs σ (σ 2).toNat e.toNat))) (q2 : (¬ (0 ≤ e ∧ e < σ 0)) → Q (.inl (some (0, 1))) Z V) : ia_KH yL_shareOf cL_shareOf 4 (some .int) [(0, 9, 12, 42)] [(4, ((0 : Nat) : Int)), (0, e), (4, ((114 : Nat) : Int))] Z V 9 1 6 Q := by
  refine ia_startH RL "shareOf" ⟨by decide, rfl, rfl⟩ (Nat.le_of_ble_eq_true rfl) (ia_tg rfl) (fun X F M => ?_)
  show ia_G X 0 0 0 [(4, ((0 : Nat) : Int)), (0, e), (4, ((114 : Nat) : Int)), (9, 0)] [] Z V
  obtain ⟨s0, s1, s2, s3, s4, s5, s6, s7, s18, sb, sw, se, sp⟩ := id hI
  refine ia_aload_n (pc := 0) F dL_shareOf_0 rfl ?_
  refine ia_iconst (pc := 1) F dL_shareOf_1 ?_
  refine ia_aload_n (pc := 2) F dL_shareOf_2 rfl ?_
  refine ia_iload_n (pc := 3) F dL_shareOf_3 rfl ?_
  refine jV (pc := 4) F 0 0 (z0 hZ) cls10.1 (c_X7_shareOf e hZ hP hS hI h86 re (fun V1 c0 p1 f1 => ?_) (fun c0 => ?_)) rfl ⟨k_X7_shareOf, il_RL_70, im_X7_shareOf, is_X7_shareOf, ii_RX7⟩ 1 rfl hd_X7_shareOf ⟨by decide, by decide, by decide, by decide, Nat.le_of_ble_eq_true rfl⟩ dL_shareOf_4
  · refine j1 ?_
    have r9 := shs_rng (σ := σ) e.toNat (σ 2).toNat
    refine ia_i2lr (pc := 7) F dL_shareOf_7 (by omega) ?_
    refine ia_lastore (pc := 8) F 114 0 rfl rfl (z114 hZ).1 (z114 hZ).2.1 (by rw [(z114 hZ).2.2]; decide) dL_shareOf_8 ?_
    refine ia_goto (pc := 9) F 15 dL_shareOf_9 rfl ?_
    refine ia_iconst (pc := 15) F dL_shareOf_15 ?_
    refine ia_ireturnH (pc := 16) F M (by decide) (by decide) dL_shareOf_16 ?_
    exact q1 V1 c0 p1 f1
  · refine jx ?_
    refine ia_catch F M [] (0, 9, 12, 42) [] "java/lang/IndexOutOfBoundsException" rfl (fun z hz => by cases hz) ⟨by decide, by decide, by decide⟩ il_RL_42 cs_2 dL_shareOf_12 rfl rfl ?_
    refine ia_iconst (pc := 13) F dL_shareOf_13 ?_
    refine ia_ireturnH (pc := 14) F M (by decide) (by decide) dL_shareOf_14 ?_
    exact q2 c0
set_option maxRecDepth 100000 in
set_option maxHeartbeats 2000000 in
set_option linter.constructorNameAsVariable false in
theorem h_errorPosition {Z : ia_Z} {V : ia_H} {Q : ia_O → ia_Z → ia_H → Prop} {ζ : Nat → Int} (hZ : ZI Z) (hP : PI V) (h0 : V 0 = ζ) (hr : -1 ≤ ζ 9 ∧ ζ 9 ≤ 1000) (q1 : (¬ ζ 9 = -1) → Q (.inl (some (0, 0))) Z (ia_u V 114 0 (ζ 9))) (q2 : (ζ 9 = -1) → Q (.inl (some (0, 1))) Z V) : ia_KH yL_errorPosition cL_errorPosition 3 (some .int) [(0, 8, 11, 68)] [(4, ((0 : Nat) : Int)), (4, ((114 : Nat) : Int))] Z V 9 1 6 Q := by
  refine ia_startH RL "errorPosition" ⟨by decide, rfl, rfl⟩ (Nat.le_of_ble_eq_true rfl) (ia_tg rfl) (fun X F M => ?_)
  show ia_G X 0 0 0 [(4, ((0 : Nat) : Int)), (4, ((114 : Nat) : Int)), (9, 0)] [] Z V
  refine ia_aload_n (pc := 0) F dL_errorPosition_0 rfl ?_
  refine ia_iconst (pc := 1) F dL_errorPosition_1 ?_
  refine ia_aload_n (pc := 2) F dL_errorPosition_2 rfl ?_
  refine jV (pc := 3) F 0 0 (z0 hZ) cls10.1 (c_X7_errorPosition hZ hP h0 hr (fun c0 => ?_) (fun c0 => ?_)) rfl ⟨k_X7_errorPosition, il_RL_116, im_X7_errorPosition, is_X7_errorPosition, ii_RX7⟩ 0 rfl hd_X7_errorPosition ⟨by decide, by decide, by decide, by decide, Nat.le_of_ble_eq_true rfl⟩ dL_errorPosition_3
  · refine j1 ?_
    refine ia_i2lr (pc := 6) F dL_errorPosition_6 (by omega) ?_
    refine ia_lastore (pc := 7) F 114 0 rfl rfl (z114 hZ).1 (z114 hZ).2.1 (by rw [(z114 hZ).2.2]; decide) dL_errorPosition_7 ?_
    refine ia_goto (pc := 8) F 14 dL_errorPosition_8 rfl ?_
    refine ia_iconst (pc := 14) F dL_errorPosition_14 ?_
    refine ia_ireturnH (pc := 15) F M (by decide) (by decide) dL_errorPosition_15 ?_
    exact q1 c0
  · refine jx ?_
    refine ia_catch F M [] (0, 8, 11, 68) [] "java/util/NoSuchElementException" rfl (fun z hz => by cases hz) ⟨by decide, by decide, by decide⟩ il_RL_68 cs_3 dL_errorPosition_11 rfl rfl ?_
    refine ia_iconst (pc := 12) F dL_errorPosition_12 ?_
    refine ia_ireturnH (pc := 13) F M (by decide) (by decide) dL_errorPosition_13 ?_
    exact q2 c0
set_option maxRecDepth 100000 in
set_option maxHeartbeats 2000000 in
set_option linter.constructorNameAsVariable false in
theorem h_failedCommand {Z : ia_Z} {V : ia_H} {Q : ia_O → ia_Z → ia_H → Prop} {ζ : Nat → Int} (hZ : ZI Z) (hP : PI V) (h0 : V 0 = ζ) (hr : -1 ≤ ζ 10 ∧ ζ 10 ≤ 1000) (q1 : (¬ ζ 10 = -1) → Q (.inl (some (0, 0))) Z (ia_u V 114 0 (ζ 10))) (q2 : (ζ 10 = -1) → Q (.inl (some (0, 1))) Z V) : ia_KH yL_failedCommand cL_failedCommand 3 (some .int) [(0, 8, 11, 68)] [(4, ((0 : Nat) : Int)), (4, ((114 : Nat) : Int))] Z V 9 1 6 Q := by
  refine ia_startH RL "failedCommand" ⟨by decide, rfl, rfl⟩ (Nat.le_of_ble_eq_true rfl) (ia_tg rfl) (fun X F M => ?_)
  show ia_G X 0 0 0 [(4, ((0 : Nat) : Int)), (4, ((114 : Nat) : Int)), (9, 0)] [] Z V
  refine ia_aload_n (pc := 0) F dL_failedCommand_0 rfl ?_
  refine ia_iconst (pc := 1) F dL_failedCommand_1 ?_
  refine ia_aload_n (pc := 2) F dL_failedCommand_2 rfl ?_
  refine jV (pc := 3) F 0 0 (z0 hZ) cls10.1 (c_X7_failedCommand hZ hP h0 hr (fun c0 => ?_) (fun c0 => ?_)) rfl ⟨k_X7_failedCommand, il_RL_119, im_X7_failedCommand, is_X7_failedCommand, ii_RX7⟩ 0 rfl hd_X7_failedCommand ⟨by decide, by decide, by decide, by decide, Nat.le_of_ble_eq_true rfl⟩ dL_failedCommand_3
  · refine j1 ?_
    refine ia_i2lr (pc := 6) F dL_failedCommand_6 (by omega) ?_
    refine ia_lastore (pc := 7) F 114 0 rfl rfl (z114 hZ).1 (z114 hZ).2.1 (by rw [(z114 hZ).2.2]; decide) dL_failedCommand_7 ?_
    refine ia_goto (pc := 8) F 14 dL_failedCommand_8 rfl ?_
    refine ia_iconst (pc := 14) F dL_failedCommand_14 ?_
    refine ia_ireturnH (pc := 15) F M (by decide) (by decide) dL_failedCommand_15 ?_
    exact q1 c0
  · refine jx ?_
    refine ia_catch F M [] (0, 8, 11, 68) [] "java/util/NoSuchElementException" rfl (fun z hz => by cases hz) ⟨by decide, by decide, by decide⟩ il_RL_68 cs_3 dL_failedCommand_11 rfl rfl ?_
    refine ia_iconst (pc := 12) F dL_failedCommand_12 ?_
    refine ia_ireturnH (pc := 13) F M (by decide) (by decide) dL_failedCommand_13 ?_
    exact q2 c0
set_option maxRecDepth 100000 in
set_option maxHeartbeats 2000000 in
set_option linter.constructorNameAsVariable false in
theorem h_restore {Z : ia_Z} {V : ia_H} {Q : ia_O → ia_Z → ia_H → Prop} {ζ : Nat → Int} {χ : Nat → Int} (τ : Nat → Int) (hZ : ZI Z) (hP : PI V) (h0 : V 0 = ζ) (h15 : V 15 = χ) (hb : ζ 8 = 0 ∨ ζ 8 = 1) (hT : ζ 8 = 1 → Sh 8 V τ) (hτ : 0 ≤ τ 0 ∧ τ 0 ≤ 7) (q1 : ∀ (V1 : ia_H), (ζ 8 = 1) → PI V1 → (V1 15 = up χ 2 0) → (∀ pp, pp ∉ ([1, 2, 3, 4, 5, 6, 7, 15] : List Nat) → V1 pp = V pp) → (Sh 1 V1 τ) → Q (.inl (some (0, 0))) Z (ia_u V1 114 0 (τ 0))) (q2 : (ζ 8 = 0) → Q (.inl (some (0, 1))) Z V) : ia_KH yL_restore cL_restore 3 (some .int) [(0, 8, 11, 15)] [(4, ((0 : Nat) : Int)), (4, ((114 : Nat) : Int))] Z V 9 1 6 Q := by
  refine ia_startH RL "restore" ⟨by decide, rfl, rfl⟩ (Nat.le_of_ble_eq_true rfl) (ia_tg rfl) (fun X F M => ?_)
  show ia_G X 0 0 0 [(4, ((0 : Nat) : Int)), (4, ((114 : Nat) : Int)), (9, 0)] [] Z V
  refine ia_aload_n (pc := 0) F dL_restore_0 rfl ?_
  refine ia_iconst (pc := 1) F dL_restore_1 ?_
  refine ia_aload_n (pc := 2) F dL_restore_2 rfl ?_
  refine jV (pc := 3) F 0 0 (z0 hZ) cls10.1 (c_X7_restore τ hZ hP h0 h15 hb hT (fun V1 c0 p1 w15 f1 x0_ => ?_) (fun c0 => ?_)) rfl ⟨k_X7_restore, il_RL_125, im_X7_restore, is_X7_restore, ii_RX7⟩ 0 rfl hd_X7_restore ⟨by decide, by decide, by decide, by decide, Nat.le_of_ble_eq_true rfl⟩ dL_restore_3
  · refine j1 ?_
    refine ia_i2lr (pc := 6) F dL_restore_6 (by omega) ?_
    refine ia_lastore (pc := 7) F 114 0 rfl rfl (z114 hZ).1 (z114 hZ).2.1 (by rw [(z114 hZ).2.2]; decide) dL_restore_7 ?_
    refine ia_goto (pc := 8) F 14 dL_restore_8 rfl ?_
    refine ia_iconst (pc := 14) F dL_restore_14 ?_
    refine ia_ireturnH (pc := 15) F M (by decide) (by decide) dL_restore_15 ?_
    exact q1 V1 c0 p1 w15 f1 x0_
  · refine jx ?_
    refine ia_catch F M [] (0, 8, 11, 15) [] "java/lang/IllegalStateException" rfl (fun z hz => by cases hz) ⟨by decide, by decide, by decide⟩ il_RL_15 cs_1 dL_restore_11 rfl rfl ?_
    refine ia_iconst (pc := 12) F dL_restore_12 ?_
    refine ia_ireturnH (pc := 13) F M (by decide) (by decide) dL_restore_13 ?_
    exact q2 c0
