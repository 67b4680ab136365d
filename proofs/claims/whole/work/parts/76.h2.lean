/-! the helpers of the law, more (made by wip/whole/hl.py) -/
set_option maxRecDepth 100000 in
set_option maxHeartbeats 2000000 in
set_option linter.constructorNameAsVariable false in
theorem h_addPaper {Z : ia_Z} {V : ia_H} {Q : ia_O → ia_Z → ia_H → Prop} {σ : Nat → Int} {χ : Nat → Int} {m : Int} (u : Int) (hZ : ZI Z) (hP : PI V) (hS : Sh 1 V σ) (hI : SI σ m) (h15 : V 15 = χ) (hχ : (0 ≤ χ 1 ∧ χ 1 < 9) ∧ 0 ≤ χ 2 ∧ χ 2 ≤ 8) (ru : -2147483648 ≤ u ∧ u ≤ 2147483647) (q1 : ∀ (V1 : ia_H), (¬ (1 ≤ u ∧ u ≤ 999)) → PI V1 → (∀ pp, pp ∉ ([17, 18, 19, 20, 21, 22, 23, 24, 25, 26, 27, 28, 29, 30, 31, 32, 33, 34, 35, 36, 37, 38, 39, 40, 41, 42, 43, 44, 45, 46, 47, 48, 49, 50, 51, 52, 53, 54, 55, 56, 57, 58, 59, 60, 61, 62, 63, 64, 65, 66, 67, 68, 69, 70, 71, 72, 73, 74, 75, 76, 77, 78, 79] : List Nat) → V1 pp = V pp) → (∀ p : Nat, p < 17 + 7 * (χ 1).toNat ∨ 17 + 7 * (χ 1).toNat + 6 < p → V1 p = V p) → Q (.inl (some (0, 1))) Z V1) (q2 : ∀ (V1 : ia_H), (1 ≤ u ∧ u ≤ 999) → (9999 < σ 2 + u) → PI V1 → (∀ pp, pp ∉ ([17, 18, 19, 20, 21, 22, 23, 24, 25, 26, 27, 28, 29, 30, 31, 32, 33, 34, 35, 36, 37, 38, 39, 40, 41, 42, 43, 44, 45, 46, 47, 48, 49, 50, 51, 52, 53, 54, 55, 56, 57, 58, 59, 60, 61, 62, 63, 64, 65, 66, 67, 68, 69, 70, 71, 72, 73, 74, 75, 76, 77, 78, 79] : List Nat) → V1 pp = V pp) → (∀ p : Nat, p < 17 + 7 * (χ 1).toNat ∨ 17 + 7 * (χ 1).toNat + 6 < p → V1 p = V p) → Q (.inl (some (0, 2))) Z V1) (q3 : ∀ (V1 : ia_H), (1 ≤ u ∧ u ≤ 999) → (σ 2 + u ≤ 9999) → PI V1 → (V1 15 = up (up χ 1 ((χ 1 + 1) % 9)) 2 (min (χ 2 + 1) 8)) → (∀ pp, pp ∉ ([17, 18, 19, 20, 21, 22, 23, 24, 25, 26, 27, 28, 29, 30, 31, 32, 33, 34, 35, 36, 37, 38, 39, 40, 41, 42, 43, 44, 45, 46, 47, 48, 49, 50, 51, 52, 53, 54, 55, 56, 57, 58, 59, 60, 61, 62, 63, 64, 65, 66, 67, 68, 69, 70, 71, 72, 73, 74, 75, 76, 77, 78, 79, 1, 2, 3, 4, 5, 6, 7, 15] : List Nat) → V1 pp = V pp) → (Sh 1 V1 (s_buy σ u)) → (Sh (17 + 7 * (χ 1).toNat) V1 σ) → (∀ p : Nat, p < 17 + 7 * (χ 1).toNat ∨ 17 + 7 * (χ 1).toNat + 6 < p → p ∉ ([1, 2, 3, 4, 5, 6, 7, 15] : List Nat) → V1 p = V p) → Q (.inl (some (0, 0))) Z (ia_u V1 114 0 (σ 2 + u))) : ia_KH yL_addPaper cL_addPaper 4 (some .int) [(0, 9, 12, 13), (0, 9, 15, 15)] [(4, ((0 : Nat) : Int)), (0, u), (4, ((114 : Nat) : Int))] Z V 10 1 6 Q := by
  refine ia_startH RL "addPaper" ⟨by decide, rfl, rfl⟩ (Nat.le_of_ble_eq_true rfl) (ia_tg rfl) (fun X F M => ?_)
  show ia_G X 0 0 0 [(4, ((0 : Nat) : Int)), (0, u), (4, ((114 : Nat) : Int)), (9, 0)] [] Z V
  obtain ⟨s0, s1, s2, s3, s4, s5, s6, s7, s18, sb, sw, se, sp⟩ := id hI
  refine ia_aload_n (pc := 0) F dL_addPaper_0 rfl ?_
  refine ia_iconst (pc := 1) F dL_addPaper_1 ?_
  refine ia_aload_n (pc := 2) F dL_addPaper_2 rfl ?_
  refine ia_iload_n (pc := 3) F dL_addPaper_3 rfl ?_
  refine jV (pc := 4) F 0 0 (z0 hZ) cls10.1 (c_X7_addPaper u hZ hP hS hI h15 hχ ru (fun V1 c0 p1 f1 x0_ => ?_) (fun V1 c0 c1 p1 f1 x0_ => ?_) (fun V1 c0 c1 p1 w15 f1 x0_ x1_ x2_ => ?_)) rfl ⟨k_X7_addPaper, il_RL_17, im_X7_addPaper, is_X7_addPaper, ii_RX7⟩ 1 rfl hd_X7_addPaper ⟨by decide, by decide, by decide, by decide, Nat.le_of_ble_eq_true rfl⟩ dL_addPaper_4
  · refine jx ?_
    refine ia_catch F M [] (0, 9, 12, 13) [(0, 9, 15, 15)] "java/lang/IllegalArgumentException" rfl (fun z hz => by cases hz) ⟨by decide, by decide, by decide⟩ il_RL_13 cs_0 dL_addPaper_12 rfl rfl ?_
    refine ia_iconst (pc := 13) F dL_addPaper_13 ?_
    refine ia_ireturnH (pc := 14) F M (by decide) (by decide) dL_addPaper_14 ?_
    exact q1 V1 c0 p1 f1 x0_
  · refine jx ?_
    refine ia_catch F M [(0, 9, 12, 13)] (0, 9, 15, 15) [] "java/lang/IllegalStateException" rfl (fun z hz => by
      simp only [List.mem_cons, List.not_mem_nil, or_false] at hz
      rcases hz with rfl
      · exact ⟨by decide, _, il_RL_13, by simp [ia_ncs]⟩) ⟨by decide, by decide, by decide⟩ il_RL_15 cs_1 dL_addPaper_15 rfl rfl ?_
    refine ia_iconst (pc := 16) F dL_addPaper_16 ?_
    refine ia_ireturnH (pc := 17) F M (by decide) (by decide) dL_addPaper_17 ?_
    exact q2 V1 c0 c1 p1 f1 x0_
  · refine j1 ?_
    refine ia_i2lr (pc := 7) F dL_addPaper_7 (by omega) ?_
    refine ia_lastore (pc := 8) F 114 0 rfl rfl (z114 hZ).1 (z114 hZ).2.1 (by rw [(z114 hZ).2.2]; decide) dL_addPaper_8 ?_
    refine ia_goto (pc := 9) F 18 dL_addPaper_9 rfl ?_
    refine ia_iconst (pc := 18) F dL_addPaper_18 ?_
    refine ia_ireturnH (pc := 19) F M (by decide) (by decide) dL_addPaper_19 ?_
    exact q3 V1 c0 c1 p1 w15 f1 x0_ x1_ x2_
set_option maxRecDepth 100000 in
set_option maxHeartbeats 2000000 in
set_option linter.constructorNameAsVariable false in
theorem h_addEdition {Z : ia_Z} {V : ia_H} {Q : ia_O → ia_Z → ia_H → Prop} {σ : Nat → Int} {χ : Nat → Int} {m : Int} (c : Int) (u : Int) (hZ : ZI Z) (hP : PI V) (hS : Sh 1 V σ) (hI : SI σ m) (h15 : V 15 = χ) (hχ : (0 ≤ χ 1 ∧ χ 1 < 9) ∧ 0 ≤ χ 2 ∧ χ 2 ≤ 8) (rc : -2147483648 ≤ c ∧ c ≤ 2147483647) (ru : -2147483648 ≤ u ∧ u ≤ 2147483647) (q1 : ∀ (V1 : ia_H), (¬ ((0 ≤ c ∧ c ≤ 9) ∧ 1 ≤ u ∧ u ≤ 50)) → PI V1 → (∀ pp, pp ∉ ([17, 18, 19, 20, 21, 22, 23, 24, 25, 26, 27, 28, 29, 30, 31, 32, 33, 34, 35, 36, 37, 38, 39, 40, 41, 42, 43, 44, 45, 46, 47, 48, 49, 50, 51, 52, 53, 54, 55, 56, 57, 58, 59, 60, 61, 62, 63, 64, 65, 66, 67, 68, 69, 70, 71, 72, 73, 74, 75, 76, 77, 78, 79] : List Nat) → V1 pp = V pp) → (∀ p : Nat, p < 17 + 7 * (χ 1).toNat ∨ 17 + 7 * (χ 1).toNat + 6 < p → V1 p = V p) → Q (.inl (some (0, 1))) Z V1) (q2 : ∀ (V1 : ia_H), ((0 ≤ c ∧ c ≤ 9) ∧ 1 ≤ u ∧ u ≤ 50) → (σ 0 = 7) → PI V1 → (∀ pp, pp ∉ ([17, 18, 19, 20, 21, 22, 23, 24, 25, 26, 27, 28, 29, 30, 31, 32, 33, 34, 35, 36, 37, 38, 39, 40, 41, 42, 43, 44, 45, 46, 47, 48, 49, 50, 51, 52, 53, 54, 55, 56, 57, 58, 59, 60, 61, 62, 63, 64, 65, 66, 67, 68, 69, 70, 71, 72, 73, 74, 75, 76, 77, 78, 79] : List Nat) → V1 pp = V pp) → (∀ p : Nat, p < 17 + 7 * (χ 1).toNat ∨ 17 + 7 * (χ 1).toNat + 6 < p → V1 p = V p) → Q (.inl (some (0, 2))) Z V1) (q3 : ∀ (V1 : ia_H), ((0 ≤ c ∧ c ≤ 9) ∧ 1 ≤ u ∧ u ≤ 50) → (¬ σ 0 = 7) → PI V1 → (V1 15 = up (up χ 1 ((χ 1 + 1) % 9)) 2 (min (χ 2 + 1) 8)) → (∀ pp, pp ∉ ([17, 18, 19, 20, 21, 22, 23, 24, 25, 26, 27, 28, 29, 30, 31, 32, 33, 34, 35, 36, 37, 38, 39, 40, 41, 42, 43, 44, 45, 46, 47, 48, 49, 50, 51, 52, 53, 54, 55, 56, 57, 58, 59, 60, 61, 62, 63, 64, 65, 66, 67, 68, 69, 70, 71, 72, 73, 74, 75, 76, 77, 78, 79, 1, 2, 3, 4, 5, 6, 7, 15] : List Nat) → V1 pp = V pp) → (Sh 1 V1 (s_add σ c u)) → (Sh (17 + 7 * (χ 1).toNat) V1 σ) → (∀ p : Nat, p < 17 + 7 * (χ 1).toNat ∨ 17 + 7 * (χ 1).toNat + 6 < p → p ∉ ([1, 2, 3, 4, 5, 6, 7, 15] : List Nat) → V1 p = V p) → Q (.inl (some (0, 0))) Z (ia_u V1 114 0 (σ 0))) : ia_KH yL_addEdition cL_addEdition 5 (some .int) [(0, 10, 13, 13), (0, 10, 17, 15)] [(4, ((0 : Nat) : Int)), (0, c), (0, u), (4, ((114 : Nat) : Int))] Z V 10 1 6 Q := by
  refine ia_startH RL "addEdition" ⟨by decide, rfl, rfl⟩ (Nat.le_of_ble_eq_true rfl) (ia_tg rfl) (fun X F M => ?_)
  show ia_G X 0 0 0 [(4, ((0 : Nat) : Int)), (0, c), (0, u), (4, ((114 : Nat) : Int)), (9, 0)] [] Z V
  obtain ⟨s0, s1, s2, s3, s4, s5, s6, s7, s18, sb, sw, se, sp⟩ := id hI
  refine ia_aload_n (pc := 0) F dL_addEdition_0 rfl ?_
  refine ia_iconst (pc := 1) F dL_addEdition_1 ?_
  refine ia_aload_n (pc := 2) F dL_addEdition_2 rfl ?_
  refine ia_iload_n (pc := 3) F dL_addEdition_3 rfl ?_
  refine ia_iload_n (pc := 4) F dL_addEdition_4 rfl ?_
  refine jV (pc := 5) F 0 0 (z0 hZ) cls10.1 (c_X7_addEdition c u hZ hP hS hI h15 hχ rc ru (fun V1 c0 p1 f1 x0_ => ?_) (fun V1 c0 c1 p1 f1 x0_ => ?_) (fun V1 c0 c1 p1 w15 f1 x0_ x1_ x2_ => ?_)) rfl ⟨k_X7_addEdition, il_RL_36, im_X7_addEdition, is_X7_addEdition, ii_RX7⟩ 2 rfl hd_X7_addEdition ⟨by decide, by decide, by decide, by decide, Nat.le_of_ble_eq_true rfl⟩ dL_addEdition_5
  · refine jx ?_
    refine ia_catch2 F M [] (0, 10, 13, 13) [(0, 10, 17, 15)] "java/lang/IllegalArgumentException" rfl (fun z hz => by cases hz) ⟨by decide, by decide, by decide⟩ il_RL_13 cs_0 dL_addEdition_13 rfl rfl ?_
    refine ia_iconst (pc := 15) F dL_addEdition_15 ?_
    refine ia_ireturnH (pc := 16) F M (by decide) (by decide) dL_addEdition_16 ?_
    exact q1 V1 c0 p1 f1 x0_
  · refine jx ?_
    refine ia_catch2 F M [(0, 10, 13, 13)] (0, 10, 17, 15) [] "java/lang/IllegalStateException" rfl (fun z hz => by
      simp only [List.mem_cons, List.not_mem_nil, or_false] at hz
      rcases hz with rfl
      · exact ⟨by decide, _, il_RL_13, by simp [ia_ncs]⟩) ⟨by decide, by decide, by decide⟩ il_RL_15 cs_1 dL_addEdition_17 rfl rfl ?_
    refine ia_iconst (pc := 19) F dL_addEdition_19 ?_
    refine ia_ireturnH (pc := 20) F M (by decide) (by decide) dL_addEdition_20 ?_
    exact q2 V1 c0 c1 p1 f1 x0_
  · refine j1 ?_
    refine ia_i2lr (pc := 8) F dL_addEdition_8 (by omega) ?_
    refine ia_lastore (pc := 9) F 114 0 rfl rfl (z114 hZ).1 (z114 hZ).2.1 (by rw [(z114 hZ).2.2]; decide) dL_addEdition_9 ?_
    refine ia_goto (pc := 10) F 21 dL_addEdition_10 rfl ?_
    refine ia_iconst (pc := 21) F dL_addEdition_21 ?_
    refine ia_ireturnH (pc := 22) F M (by decide) (by decide) dL_addEdition_22 ?_
    exact q3 V1 c0 c1 p1 w15 f1 x0_ x1_ x2_
set_option maxRecDepth 100000 in
set_option maxHeartbeats 2000000 in
set_option linter.constructorNameAsVariable false in
theorem h_removeEdition {Z : ia_Z} {V : ia_H} {Q : ia_O → ia_Z → ia_H → Prop} {σ : Nat → Int} {χ : Nat → Int} {m : Int} (e : Int) (hZ : ZI Z) (hP : PI V) (hS : Sh 1 V σ) (hI : SI σ m) (h15 : V 15 = χ) (hχ : (0 ≤ χ 1 ∧ χ 1 < 9) ∧ 0 ≤ χ 2 ∧ χ 2 ≤ 8) (re : -2147483648 ≤ e ∧ e ≤ 2147483647) (q1 : ∀ (V1 : ia_H), (¬ (0 ≤ e ∧ e < σ 0)) → PI V1 → (∀ pp, pp ∉ ([17, 18, 19, 20, 21, 22, 23, 24, 25, 26, 27, 28, 29, 30, 31, 32, 33, 34, 35, 36, 37, 38, 39, 40, 41, 42, 43, 44, 45, 46, 47, 48, 49, 50, 51, 52, 53, 54, 55, 56, 57, 58, 59, 60, 61, 62, 63, 64, 65, 66, 67, 68, 69, 70, 71, 72, 73, 74, 75, 76, 77, 78, 79] : List Nat) → V1 pp = V pp) → (∀ p : Nat, p < 17 + 7 * (χ 1).toNat ∨ 17 + 7 * (χ 1).toNat + 6 < p → V1 p = V p) → Q (.inl (some (0, 1))) Z V1) (q2 : ∀ (V1 : ia_H), (0 ≤ e ∧ e < σ 0) → PI V1 → (V1 15 = up (up χ 1 ((χ 1 + 1) % 9)) 2 (min (χ 2 + 1) 8)) → (∀ pp, pp ∉ ([17, 18, 19, 20, 21, 22, 23, 24, 25, 26, 27, 28, 29, 30, 31, 32, 33, 34, 35, 36, 37, 38, 39, 40, 41, 42, 43, 44, 45, 46, 47, 48, 49, 50, 51, 52, 53, 54, 55, 56, 57, 58, 59, 60, 61, 62, 63, 64, 65, 66, 67, 68, 69, 70, 71, 72, 73, 74, 75, 76, 77, 78, 79, 1, 2, 3, 4, 5, 6, 7, 15] : List Nat) → V1 pp = V pp) → (Sh 1 V1 (s_rem σ e.toNat)) → (Sh (17 + 7 * (χ 1).toNat) V1 σ) → (∀ p : Nat, p < 17 + 7 * (χ 1).toNat ∨ 17 + 7 * (χ 1).toNat + 6 < p → p ∉ ([1, 2, 3, 4, 5, 6, 7, 15] : List Nat) → V1 p = V p) → Q (.inl (some (0, 0))) Z (ia_u V1 114 0 (σ 0 - 1))) : ia_KH yL_removeEdition cL_removeEdition 4 (some .int) [(0, 9, 12, 42)] [(4, ((0 : Nat) : Int)), (0, e), (4, ((114 : Nat) : Int))] Z V 10 1 6 Q := by
  refine ia_startH RL "removeEdition" ⟨by decide, rfl, rfl⟩ (Nat.le_of_ble_eq_true rfl) (ia_tg rfl) (fun X F M => ?_)
  show ia_G X 0 0 0 [(4, ((0 : Nat) : Int)), (0, e), (4, ((114 : Nat) : Int)), (9, 0)] [] Z V
  obtain ⟨s0, s1, s2, s3, s4, s5, s6, s7, s18, sb, sw, se, sp⟩ := id hI
  refine ia_aload_n (pc := 0) F dL_removeEdition_0 rfl ?_
  refine ia_iconst (pc := 1) F dL_removeEdition_1 ?_
  refine ia_aload_n (pc := 2) F dL_removeEdition_2 rfl ?_
  refine ia_iload_n (pc := 3) F dL_removeEdition_3 rfl ?_
  refine jV (pc := 4) F 0 0 (z0 hZ) cls10.1 (c_X7_removeEdition e hZ hP hS hI h15 hχ re (fun V1 c0 p1 f1 x0_ => ?_) (fun V1 c0 p1 w15 f1 x0_ x1_ x2_ => ?_)) rfl ⟨k_X7_removeEdition, il_RL_39, im_X7_removeEdition, is_X7_removeEdition, ii_RX7⟩ 1 rfl hd_X7_removeEdition ⟨by decide, by decide, by decide, by decide, Nat.le_of_ble_eq_true rfl⟩ dL_removeEdition_4
  · refine jx ?_
    refine ia_catch F M [] (0, 9, 12, 42) [] "java/lang/IndexOutOfBoundsException" rfl (fun z hz => by cases hz) ⟨by decide, by decide, by decide⟩ il_RL_42 cs_2 dL_removeEdition_12 rfl rfl ?_
    refine ia_iconst (pc := 13) F dL_removeEdition_13 ?_
    refine ia_ireturnH (pc := 14) F M (by decide) (by decide) dL_removeEdition_14 ?_
    exact q1 V1 c0 p1 f1 x0_
  · refine j1 ?_
    refine ia_i2lr (pc := 7) F dL_removeEdition_7 (by omega) ?_
    refine ia_lastore (pc := 8) F 114 0 rfl rfl (z114 hZ).1 (z114 hZ).2.1 (by rw [(z114 hZ).2.2]; decide) dL_removeEdition_8 ?_
    refine ia_goto (pc := 9) F 15 dL_removeEdition_9 rfl ?_
    refine ia_iconst (pc := 15) F dL_removeEdition_15 ?_
    refine ia_ireturnH (pc := 16) F M (by decide) (by decide) dL_removeEdition_16 ?_
    exact q2 V1 c0 p1 w15 f1 x0_ x1_ x2_
set_option maxRecDepth 100000 in
set_option maxHeartbeats 2000000 in
set_option linter.constructorNameAsVariable false in
theorem h_addProof {Z : ia_Z} {V : ia_H} {Q : ia_O → ia_Z → ia_H → Prop} {σ : Nat → Int} {χ : Nat → Int} {m : Int} (u : Int) (hZ : ZI Z) (hP : PI V) (hS : Sh 1 V σ) (hI : SI σ m) (h15 : V 15 = χ) (hχ : (0 ≤ χ 1 ∧ χ 1 < 9) ∧ 0 ≤ χ 2 ∧ χ 2 ≤ 8) (ru : -2147483648 ≤ u ∧ u ≤ 2147483647) (q1 : ∀ (V1 : ia_H), (¬ (0 ≤ u ∧ u ≤ 99)) → PI V1 → (∀ pp, pp ∉ ([17, 18, 19, 20, 21, 22, 23, 24, 25, 26, 27, 28, 29, 30, 31, 32, 33, 34, 35, 36, 37, 38, 39, 40, 41, 42, 43, 44, 45, 46, 47, 48, 49, 50, 51, 52, 53, 54, 55, 56, 57, 58, 59, 60, 61, 62, 63, 64, 65, 66, 67, 68, 69, 70, 71, 72, 73, 74, 75, 76, 77, 78, 79] : List Nat) → V1 pp = V pp) → (∀ p : Nat, p < 17 + 7 * (χ 1).toNat ∨ 17 + 7 * (χ 1).toNat + 6 < p → V1 p = V p) → Q (.inl (some (0, 1))) Z V1) (q2 : ∀ (V1 : ia_H), (0 ≤ u ∧ u ≤ 99) → (σ 1 = 12) → PI V1 → (∀ pp, pp ∉ ([17, 18, 19, 20, 21, 22, 23, 24, 25, 26, 27, 28, 29, 30, 31, 32, 33, 34, 35, 36, 37, 38, 39, 40, 41, 42, 43, 44, 45, 46, 47, 48, 49, 50, 51, 52, 53, 54, 55, 56, 57, 58, 59, 60, 61, 62, 63, 64, 65, 66, 67, 68, 69, 70, 71, 72, 73, 74, 75, 76, 77, 78, 79] : List Nat) → V1 pp = V pp) → (∀ p : Nat, p < 17 + 7 * (χ 1).toNat ∨ 17 + 7 * (χ 1).toNat + 6 < p → V1 p = V p) → Q (.inl (some (0, 2))) Z V1) (q3 : ∀ (V1 : ia_H), (0 ≤ u ∧ u ≤ 99) → (¬ σ 1 = 12) → PI V1 → (V1 15 = up (up χ 1 ((χ 1 + 1) % 9)) 2 (min (χ 2 + 1) 8)) → (∀ pp, pp ∉ ([17, 18, 19, 20, 21, 22, 23, 24, 25, 26, 27, 28, 29, 30, 31, 32, 33, 34, 35, 36, 37, 38, 39, 40, 41, 42, 43, 44, 45, 46, 47, 48, 49, 50, 51, 52, 53, 54, 55, 56, 57, 58, 59, 60, 61, 62, 63, 64, 65, 66, 67, 68, 69, 70, 71, 72, 73, 74, 75, 76, 77, 78, 79, 1, 2, 3, 4, 5, 6, 7, 15] : List Nat) → V1 pp = V pp) → (Sh 1 V1 (s_prove σ u)) → (Sh (17 + 7 * (χ 1).toNat) V1 σ) → (∀ p : Nat, p < 17 + 7 * (χ 1).toNat ∨ 17 + 7 * (χ 1).toNat + 6 < p → p ∉ ([1, 2, 3, 4, 5, 6, 7, 15] : List Nat) → V1 p = V p) → Q (.inl (some (0, 0))) Z (ia_u V1 114 0 (σ 1))) : ia_KH yL_addProof cL_addProof 4 (some .int) [(0, 9, 12, 13), (0, 9, 15, 15)] [(4, ((0 : Nat) : Int)), (0, u), (4, ((114 : Nat) : Int))] Z V 10 1 6 Q := by
  refine ia_startH RL "addProof" ⟨by decide, rfl, rfl⟩ (Nat.le_of_ble_eq_true rfl) (ia_tg rfl) (fun X F M => ?_)
  show ia_G X 0 0 0 [(4, ((0 : Nat) : Int)), (0, u), (4, ((114 : Nat) : Int)), (9, 0)] [] Z V
  obtain ⟨s0, s1, s2, s3, s4, s5, s6, s7, s18, sb, sw, se, sp⟩ := id hI
  refine ia_aload_n (pc := 0) F dL_addProof_0 rfl ?_
  refine ia_iconst (pc := 1) F dL_addProof_1 ?_
  refine ia_aload_n (pc := 2) F dL_addProof_2 rfl ?_
  refine ia_iload_n (pc := 3) F dL_addProof_3 rfl ?_
  refine jV (pc := 4) F 0 0 (z0 hZ) cls10.1 (c_X7_addProof u hZ hP hS hI h15 hχ ru (fun V1 c0 p1 f1 x0_ => ?_) (fun V1 c0 c1 p1 f1 x0_ => ?_) (fun V1 c0 c1 p1 w15 f1 x0_ x1_ x2_ => ?_)) rfl ⟨k_X7_addProof, il_RL_79, im_X7_addProof, is_X7_addProof, ii_RX7⟩ 1 rfl hd_X7_addProof ⟨by decide, by decide, by decide, by decide, Nat.le_of_ble_eq_true rfl⟩ dL_addProof_4
  · refine jx ?_
    refine ia_catch F M [] (0, 9, 12, 13) [(0, 9, 15, 15)] "java/lang/IllegalArgumentException" rfl (fun z hz => by cases hz) ⟨by decide, by decide, by decide⟩ il_RL_13 cs_0 dL_addProof_12 rfl rfl ?_
    refine ia_iconst (pc := 13) F dL_addProof_13 ?_
    refine ia_ireturnH (pc := 14) F M (by decide) (by decide) dL_addProof_14 ?_
    exact q1 V1 c0 p1 f1 x0_
  · refine jx ?_
    refine ia_catch F M [(0, 9, 12, 13)] (0, 9, 15, 15) [] "java/lang/IllegalStateException" rfl (fun z hz => by
      simp only [List.mem_cons, List.not_mem_nil, or_false] at hz
      rcases hz with rfl
      · exact ⟨by decide, _, il_RL_13, by simp [ia_ncs]⟩) ⟨by decide, by decide, by decide⟩ il_RL_15 cs_1 dL_addProof_15 rfl rfl ?_
    refine ia_iconst (pc := 16) F dL_addProof_16 ?_
    refine ia_ireturnH (pc := 17) F M (by decide) (by decide) dL_addProof_17 ?_
    exact q2 V1 c0 c1 p1 f1 x0_
  · refine j1 ?_
    refine ia_i2lr (pc := 7) F dL_addProof_7 (by omega) ?_
    refine ia_lastore (pc := 8) F 114 0 rfl rfl (z114 hZ).1 (z114 hZ).2.1 (by rw [(z114 hZ).2.2]; decide) dL_addProof_8 ?_
    refine ia_goto (pc := 9) F 18 dL_addProof_9 rfl ?_
    refine ia_iconst (pc := 18) F dL_addProof_18 ?_
    refine ia_ireturnH (pc := 19) F M (by decide) (by decide) dL_addProof_19 ?_
    exact q3 V1 c0 c1 p1 w15 f1 x0_ x1_ x2_
set_option maxRecDepth 100000 in
set_option maxHeartbeats 2000000 in
set_option linter.constructorNameAsVariable false in
theorem h_dropProof {Z : ia_Z} {V : ia_H} {Q : ia_O → ia_Z → ia_H → Prop} {σ : Nat → Int} {χ : Nat → Int} {m : Int} (e : Int) (hZ : ZI Z) (hP : PI V) (hS : Sh 1 V σ) (hI : SI σ m) (h15 : V 15 = χ) (hχ : (0 ≤ χ 1 ∧ χ 1 < 9) ∧ 0 ≤ χ 2 ∧ χ 2 ≤ 8) (re : -2147483648 ≤ e ∧ e ≤ 2147483647) (q1 : ∀ (V1 : ia_H), (¬ (0 ≤ e ∧ e < σ 1)) → PI V1 → (∀ pp, pp ∉ ([17, 18, 19, 20, 21, 22, 23, 24, 25, 26, 27, 28, 29, 30, 31, 32, 33, 34, 35, 36, 37, 38, 39, 40, 41, 42, 43, 44, 45, 46, 47, 48, 49, 50, 51, 52, 53, 54, 55, 56, 57, 58, 59, 60, 61, 62, 63, 64, 65, 66, 67, 68, 69, 70, 71, 72, 73, 74, 75, 76, 77, 78, 79] : List Nat) → V1 pp = V pp) → (∀ p : Nat, p < 17 + 7 * (χ 1).toNat ∨ 17 + 7 * (χ 1).toNat + 6 < p → V1 p = V p) → Q (.inl (some (0, 1))) Z V1) (q2 : ∀ (V1 : ia_H), (0 ≤ e ∧ e < σ 1) → PI V1 → (V1 15 = up (up χ 1 ((χ 1 + 1) % 9)) 2 (min (χ 2 + 1) 8)) → (∀ pp, pp ∉ ([17, 18, 19, 20, 21, 22, 23, 24, 25, 26, 27, 28, 29, 30, 31, 32, 33, 34, 35, 36, 37, 38, 39, 40, 41, 42, 43, 44, 45, 46, 47, 48, 49, 50, 51, 52, 53, 54, 55, 56, 57, 58, 59, 60, 61, 62, 63, 64, 65, 66, 67, 68, 69, 70, 71, 72, 73, 74, 75, 76, 77, 78, 79, 1, 2, 3, 4, 5, 6, 7, 15] : List Nat) → V1 pp = V pp) → (Sh 1 V1 (s_drop σ e.toNat)) → (Sh (17 + 7 * (χ 1).toNat) V1 σ) → (∀ p : Nat, p < 17 + 7 * (χ 1).toNat ∨ 17 + 7 * (χ 1).toNat + 6 < p → p ∉ ([1, 2, 3, 4, 5, 6, 7, 15] : List Nat) → V1 p = V p) → Q (.inl (some (0, 0))) Z (ia_u V1 114 0 (σ 1 - 1))) : ia_KH yL_dropProof cL_dropProof 4 (some .int) [(0, 9, 12, 42)] [(4, ((0 : Nat) : Int)), (0, e), (4, ((114 : Nat) : Int))] Z V 10 1 6 Q := by
  refine ia_startH RL "dropProof" ⟨by decide, rfl, rfl⟩ (Nat.le_of_ble_eq_true rfl) (ia_tg rfl) (fun X F M => ?_)
  show ia_G X 0 0 0 [(4, ((0 : Nat) : Int)), (0, e), (4, ((114 : Nat) : Int)), (9, 0)] [] Z V
  obtain ⟨s0, s1, s2, s3, s4, s5, s6, s7, s18, sb, sw, se, sp⟩ := id hI
  refine ia_aload_n (pc := 0) F dL_dropProof_0 rfl ?_
  refine ia_iconst (pc := 1) F dL_dropProof_1 ?_
  refine ia_aload_n (pc := 2) F dL_dropProof_2 rfl ?_
  refine ia_iload_n (pc := 3) F dL_dropProof_3 rfl ?_
  refine jV (pc := 4) F 0 0 (z0 hZ) cls10.1 (c_X7_dropProof e hZ hP hS hI h15 hχ re (fun V1 c0 p1 f1 x0_ => ?_) (fun V1 c0 p1 w15 f1 x0_ x1_ x2_ => ?_)) rfl ⟨k_X7_dropProof, il_RL_82, im_X7_dropProof, is_X7_dropProof, ii_RX7⟩ 1 rfl hd_X7_dropProof ⟨by decide, by decide, by decide, by decide, Nat.le_of_ble_eq_true rfl⟩ dL_dropProof_4
  · refine jx ?_
    refine ia_catch F M [] (0, 9, 12, 42) [] "java/lang/IndexOutOfBoundsException" rfl (fun z hz => by cases hz) ⟨by decide, by decide, by decide⟩ il_RL_42 cs_2 dL_dropProof_12 rfl rfl ?_
    refine ia_iconst (pc := 13) F dL_dropProof_13 ?_
    refine ia_ireturnH (pc := 14) F M (by decide) (by decide) dL_dropProof_14 ?_
    exact q1 V1 c0 p1 f1 x0_
  · refine j1 ?_
    refine ia_i2lr (pc := 7) F dL_dropProof_7 (by omega) ?_
    refine ia_lastore (pc := 8) F 114 0 rfl rfl (z114 hZ).1 (z114 hZ).2.1 (by rw [(z114 hZ).2.2]; decide) dL_dropProof_8 ?_
    refine ia_goto (pc := 9) F 15 dL_dropProof_9 rfl ?_
    refine ia_iconst (pc := 15) F dL_dropProof_15 ?_
    refine ia_ireturnH (pc := 16) F M (by decide) (by decide) dL_dropProof_16 ?_
    exact q2 V1 c0 p1 w15 f1 x0_ x1_ x2_
set_option maxRecDepth 100000 in
set_option maxHeartbeats 2000000 in
set_option linter.constructorNameAsVariable false in
theorem h_hoursUntilLess {Z : ia_Z} {V : ia_H} {Q : ia_O → ia_Z → ia_H → Prop} {σ : Nat → Int} {m : Int} (c : Int) (u : Int) (hZ : ZI Z) (hP : PI V) (hS : Sh 1 V σ) (hI : SI σ m)  (rc : -2147483648 ≤ c ∧ c ≤ 2147483647) (ru : -2147483648 ≤ u ∧ u ≤ 2147483647) (q1 : ∀ (j : Nat), ((0 ≤ c ∧ c ≤ 9) ∧ (1 ≤ u ∧ u ≤ 999)) → (j < 101) → (∀ i, i < j → u ≤ la σ c.toNat i) → (la σ c.toNat j < u) → Q (.inl (some (0, 0))) Z (ia_u V 114 0 (j : Int))) (q2 : (¬ ((0 ≤ c ∧ c ≤ 9) ∧ (1 ≤ u ∧ u ≤ 999))) → Q (.inl (some (0, 1))) Z V) : ia_KH yL_hoursUntilLess cL_hoursUntilLess 5 (some .int) [(0, 10, 13, 13)] [(4, ((0 : Nat) : Int)), (0, c), (0, u), (4, ((114 : Nat) : Int))] Z V 9 1 6 Q := by
  refine ia_startH RL "hoursUntilLess" ⟨by decide, rfl, rfl⟩ (Nat.le_of_ble_eq_true rfl) (ia_tg rfl) (fun X F M => ?_)
  show ia_G X 0 0 0 [(4, ((0 : Nat) : Int)), (0, c), (0, u), (4, ((114 : Nat) : Int)), (9, 0)] [] Z V
  obtain ⟨s0, s1, s2, s3, s4, s5, s6, s7, s18, sb, sw, se, sp⟩ := id hI
  refine ia_aload_n (pc := 0) F dL_hoursUntilLess_0 rfl ?_
  refine ia_iconst (pc := 1) F dL_hoursUntilLess_1 ?_
  refine ia_aload_n (pc := 2) F dL_hoursUntilLess_2 rfl ?_
  refine ia_iload_n (pc := 3) F dL_hoursUntilLess_3 rfl ?_
  refine ia_iload_n (pc := 4) F dL_hoursUntilLess_4 rfl ?_
  refine jV (pc := 5) F 0 0 (z0 hZ) cls10.1 (c_X7_hoursUntilLess c u hZ hP hS hI rc ru (fun j c0 c1 c2 c3 => ?_) (fun c0 => ?_)) rfl ⟨k_X7_hoursUntilLess, il_RL_33, im_X7_hoursUntilLess, is_X7_hoursUntilLess, ii_RX7⟩ 2 rfl hd_X7_hoursUntilLess ⟨by decide, by decide, by decide, by decide, Nat.le_of_ble_eq_true rfl⟩ dL_hoursUntilLess_5
  · refine j1 ?_
    refine ia_i2lr (pc := 8) F dL_hoursUntilLess_8 (by omega) ?_
    refine ia_lastore (pc := 9) F 114 0 rfl rfl (z114 hZ).1 (z114 hZ).2.1 (by rw [(z114 hZ).2.2]; decide) dL_hoursUntilLess_9 ?_
    refine ia_goto (pc := 10) F 17 dL_hoursUntilLess_10 rfl ?_
    refine ia_iconst (pc := 17) F dL_hoursUntilLess_17 ?_
    refine ia_ireturnH (pc := 18) F M (by decide) (by decide) dL_hoursUntilLess_18 ?_
    exact q1 j c0 c1 c2 c3
  · refine jx ?_
    refine ia_catch2 F M [] (0, 10, 13, 13) [] "java/lang/IllegalArgumentException" rfl (fun z hz => by cases hz) ⟨by decide, by decide, by decide⟩ il_RL_13 cs_0 dL_hoursUntilLess_13 rfl rfl ?_
    refine ia_iconst (pc := 15) F dL_hoursUntilLess_15 ?_
    refine ia_ireturnH (pc := 16) F M (by decide) (by decide) dL_hoursUntilLess_16 ?_
    exact q2 c0
set_option maxRecDepth 100000 in
set_option maxHeartbeats 2000000 in
set_option linter.constructorNameAsVariable false in
theorem h_editionByMissing {Z : ia_Z} {V : ia_H} {Q : ia_O → ia_Z → ia_H → Prop} {σ : Nat → Int} {m : Int} (e : Int) (hZ : ZI Z) (hP : PI V) (hS : Sh 1 V σ) (hI : SI σ m)  (re : -2147483648 ≤ e ∧ e ≤ 2147483647) (q1 : ∀ (j : Nat), (0 ≤ e ∧ e < σ 0) → ((j : Int) < σ 0) → (∀ i, i < j → ¬ ahd σ i (σ 0).toNat = e) → (ahd σ j (σ 0).toNat = e) → Q (.inl (some (0, 0))) Z (ia_u V 114 0 (j : Int))) (q2 : (0 ≤ e ∧ e < σ 0) → (∀ i : Nat, (i : Int) < σ 0 → ¬ ahd σ i (σ 0).toNat = e) → Q (.inl (some (0, 0))) Z (ia_u V 114 0 (-1))) (q3 : (¬ (0 ≤ e ∧ e < σ 0)) → Q (.inl (some (0, 1))) Z V) : ia_KH yL_editionByMissing cL_editionByMissing 4 (some .int) [(0, 9, 12, 68)] [(4, ((0 : Nat) : Int)), (0, e), (4, ((114 : Nat) : Int))] Z V 9 1 6 Q := by
  refine ia_startH RL "editionByMissing" ⟨by decide, rfl, rfl⟩ (Nat.le_of_ble_eq_true rfl) (ia_tg rfl) (fun X F M => ?_)
  show ia_G X 0 0 0 [(4, ((0 : Nat) : Int)), (0, e), (4, ((114 : Nat) : Int)), (9, 0)] [] Z V
  obtain ⟨s0, s1, s2, s3, s4, s5, s6, s7, s18, sb, sw, se, sp⟩ := id hI
  refine ia_aload_n (pc := 0) F dL_editionByMissing_0 rfl ?_
  refine ia_iconst (pc := 1) F dL_editionByMissing_1 ?_
  refine ia_aload_n (pc := 2) F dL_editionByMissing_2 rfl ?_
  refine ia_iload_n (pc := 3) F dL_editionByMissing_3 rfl ?_
  refine jV (pc := 4) F 0 0 (z0 hZ) cls10.1 (c_X7_editionByMissing e hZ hP hS hI re (fun j c0 c1 c2 c3 => ?_) (fun c0 c1 => ?_) (fun c0 => ?_)) rfl ⟨k_X7_editionByMissing, il_RL_76, im_X7_editionByMissing, is_X7_editionByMissing, ii_RX7⟩ 1 rfl hd_X7_editionByMissing ⟨by decide, by decide, by decide, by decide, Nat.le_of_ble_eq_true rfl⟩ dL_editionByMissing_4
  · refine j1 ?_
    refine ia_i2lr (pc := 7) F dL_editionByMissing_7 (by omega) ?_
    refine ia_lastore (pc := 8) F 114 0 rfl rfl (z114 hZ).1 (z114 hZ).2.1 (by rw [(z114 hZ).2.2]; decide) dL_editionByMissing_8 ?_
    refine ia_goto (pc := 9) F 15 dL_editionByMissing_9 rfl ?_
    refine ia_iconst (pc := 15) F dL_editionByMissing_15 ?_
    refine ia_ireturnH (pc := 16) F M (by decide) (by decide) dL_editionByMissing_16 ?_
    exact q1 j c0 c1 c2 c3
  · refine j1 ?_
    refine ia_i2lr (pc := 7) F dL_editionByMissing_7 (by omega) ?_
    refine ia_lastore (pc := 8) F 114 0 rfl rfl (z114 hZ).1 (z114 hZ).2.1 (by rw [(z114 hZ).2.2]; decide) dL_editionByMissing_8 ?_
    refine ia_goto (pc := 9) F 15 dL_editionByMissing_9 rfl ?_
    refine ia_iconst (pc := 15) F dL_editionByMissing_15 ?_
    refine ia_ireturnH (pc := 16) F M (by decide) (by decide) dL_editionByMissing_16 ?_
    exact q2 c0 c1
  · refine jx ?_
    refine ia_catch F M [] (0, 9, 12, 68) [] "java/util/NoSuchElementException" rfl (fun z hz => by cases hz) ⟨by decide, by decide, by decide⟩ il_RL_68 cs_3 dL_editionByMissing_12 rfl rfl ?_
    refine ia_iconst (pc := 13) F dL_editionByMissing_13 ?_
    refine ia_ireturnH (pc := 14) F M (by decide) (by decide) dL_editionByMissing_14 ?_
    exact q3 c0
set_option maxRecDepth 100000 in
set_option maxHeartbeats 2000000 in
set_option linter.constructorNameAsVariable false in
theorem h_inkAfter {Z : ia_Z} {V : ia_H} {Q : ia_O → ia_Z → ia_H → Prop} {σ : Nat → Int} {m : Int} (c : Int) (h : Int) (hZ : ZI Z) (hP : PI V) (hS : Sh 1 V σ) (hI : SI σ m)  (rc : -2147483648 ≤ c ∧ c ≤ 2147483647) (rh : -2147483648 ≤ h ∧ h ≤ 2147483647) (q1 : ((0 ≤ c ∧ c ≤ 9) ∧ (0 ≤ h ∧ h ≤ 99)) → Q (.inl (some (0, 0))) Z (ia_u V 114 0 (la σ c.toNat h.toNat))) (q2 : (¬ ((0 ≤ c ∧ c ≤ 9) ∧ (0 ≤ h ∧ h ≤ 99))) → Q (.inl (some (0, 1))) Z V) : ia_KH yL_inkAfter cL_inkAfter 5 (some .int) [(0, 10, 13, 13)] [(4, ((0 : Nat) : Int)), (0, c), (0, h), (4, ((114 : Nat) : Int))] Z V 9 1 6 Q := by
  refine ia_startH RL "inkAfter" ⟨by decide, rfl, rfl⟩ (Nat.le_of_ble_eq_true rfl) (ia_tg rfl) (fun X F M => ?_)
  show ia_G X 0 0 0 [(4, ((0 : Nat) : Int)), (0, c), (0, h), (4, ((114 : Nat) : Int)), (9, 0)] [] Z V
  obtain ⟨s0, s1, s2, s3, s4, s5, s6, s7, s18, sb, sw, se, sp⟩ := id hI
  refine ia_aload_n (pc := 0) F dL_inkAfter_0 rfl ?_
  refine ia_iconst (pc := 1) F dL_inkAfter_1 ?_
  refine ia_aload_n (pc := 2) F dL_inkAfter_2 rfl ?_
  refine ia_iload_n (pc := 3) F dL_inkAfter_3 rfl ?_
  refine ia_iload_n (pc := 4) F dL_inkAfter_4 rfl ?_
  refine jV (pc := 5) F 0 0 (z0 hZ) cls10.1 (c_X7_inkAfter c h hZ hP hS hI rc rh (fun c0 => ?_) (fun c0 => ?_)) rfl ⟨k_X7_inkAfter, il_RL_27, im_X7_inkAfter, is_X7_inkAfter, ii_RX7⟩ 2 rfl hd_X7_inkAfter ⟨by decide, by decide, by decide, by decide, Nat.le_of_ble_eq_true rfl⟩ dL_inkAfter_5
  · refine j1 ?_
    have r9 := la_rng (sw c.toNat (by omega)) h.toNat
    refine ia_i2lr (pc := 8) F dL_inkAfter_8 (by omega) ?_
    refine ia_lastore (pc := 9) F 114 0 rfl rfl (z114 hZ).1 (z114 hZ).2.1 (by rw [(z114 hZ).2.2]; decide) dL_inkAfter_9 ?_
    refine ia_goto (pc := 10) F 17 dL_inkAfter_10 rfl ?_
    refine ia_iconst (pc := 17) F dL_inkAfter_17 ?_
    refine ia_ireturnH (pc := 18) F M (by decide) (by decide) dL_inkAfter_18 ?_
    exact q1 c0
  · refine jx ?_
    refine ia_catch2 F M [] (0, 10, 13, 13) [] "java/lang/IllegalArgumentException" rfl (fun z hz => by cases hz) ⟨by decide, by decide, by decide⟩ il_RL_13 cs_0 dL_inkAfter_13 rfl rfl ?_
    refine ia_iconst (pc := 15) F dL_inkAfter_15 ?_
    refine ia_ireturnH (pc := 16) F M (by decide) (by decide) dL_inkAfter_16 ?_
    exact q2 c0
set_option maxRecDepth 100000 in
set_option maxHeartbeats 2000000 in
set_option linter.constructorNameAsVariable false in
theorem h_inkByHalvings {Z : ia_Z} {V : ia_H} {Q : ia_O → ia_Z → ia_H → Prop} {σ : Nat → Int} {m : Int} (c : Int) (h : Int) (hZ : ZI Z) (hP : PI V) (hS : Sh 1 V σ) (hI : SI σ m)  (rc : -2147483648 ≤ c ∧ c ≤ 2147483647) (rh : -2147483648 ≤ h ∧ h ≤ 2147483647) (q1 : ((0 ≤ c ∧ c ≤ 9) ∧ (0 ≤ h ∧ h ≤ 99)) → Q (.inl (some (0, 0))) Z (ia_u V 114 0 (la σ c.toNat h.toNat))) (q2 : (¬ ((0 ≤ c ∧ c ≤ 9) ∧ (0 ≤ h ∧ h ≤ 99))) → Q (.inl (some (0, 1))) Z V) : ia_KH yL_inkByHalvings cL_inkByHalvings 5 (some .int) [(0, 10, 13, 13)] [(4, ((0 : Nat) : Int)), (0, c), (0, h), (4, ((114 : Nat) : Int))] Z V 9 1 6 Q := by
  refine ia_startH RL "inkByHalvings" ⟨by decide, rfl, rfl⟩ (Nat.le_of_ble_eq_true rfl) (ia_tg rfl) (fun X F M => ?_)
  show ia_G X 0 0 0 [(4, ((0 : Nat) : Int)), (0, c), (0, h), (4, ((114 : Nat) : Int)), (9, 0)] [] Z V
  obtain ⟨s0, s1, s2, s3, s4, s5, s6, s7, s18, sb, sw, se, sp⟩ := id hI
  refine ia_aload_n (pc := 0) F dL_inkByHalvings_0 rfl ?_
  refine ia_iconst (pc := 1) F dL_inkByHalvings_1 ?_
  refine ia_aload_n (pc := 2) F dL_inkByHalvings_2 rfl ?_
  refine ia_iload_n (pc := 3) F dL_inkByHalvings_3 rfl ?_
  refine ia_iload_n (pc := 4) F dL_inkByHalvings_4 rfl ?_
  refine jV (pc := 5) F 0 0 (z0 hZ) cls10.1 (c_X7_inkByHalvings c h hZ hP hS hI rc rh (fun c0 => ?_) (fun c0 => ?_)) rfl ⟨k_X7_inkByHalvings, il_RL_30, im_X7_inkByHalvings, is_X7_inkByHalvings, ii_RX7⟩ 2 rfl hd_X7_inkByHalvings ⟨by decide, by decide, by decide, by decide, Nat.le_of_ble_eq_true rfl⟩ dL_inkByHalvings_5
  · refine j1 ?_
    have r9 := la_rng (sw c.toNat (by omega)) h.toNat
    refine ia_i2lr (pc := 8) F dL_inkByHalvings_8 (by omega) ?_
    refine ia_lastore (pc := 9) F 114 0 rfl rfl (z114 hZ).1 (z114 hZ).2.1 (by rw [(z114 hZ).2.2]; decide) dL_inkByHalvings_9 ?_
    refine ia_goto (pc := 10) F 17 dL_inkByHalvings_10 rfl ?_
    refine ia_iconst (pc := 17) F dL_inkByHalvings_17 ?_
    refine ia_ireturnH (pc := 18) F M (by decide) (by decide) dL_inkByHalvings_18 ?_
    exact q1 c0
  · refine jx ?_
    refine ia_catch2 F M [] (0, 10, 13, 13) [] "java/lang/IllegalArgumentException" rfl (fun z hz => by cases hz) ⟨by decide, by decide, by decide⟩ il_RL_13 cs_0 dL_inkByHalvings_13 rfl rfl ?_
    refine ia_iconst (pc := 15) F dL_inkByHalvings_15 ?_
    refine ia_ireturnH (pc := 16) F M (by decide) (by decide) dL_inkByHalvings_16 ?_
    exact q2 c0
set_option maxRecDepth 100000 in
set_option maxHeartbeats 2000000 in
set_option linter.constructorNameAsVariable false in
theorem h_colourOf {Z : ia_Z} {V : ia_H} {Q : ia_O → ia_Z → ia_H → Prop} {σ : Nat → Int} {m : Int} (e : Int) (hZ : ZI Z) (hP : PI V) (hS : Sh 1 V σ) (hI : SI σ m)  (re : -2147483648 ≤ e ∧ e ≤ 2147483647) (q1 : (0 ≤ e ∧ e < σ 0) → Q (.inl (some (0, 0))) Z (ia_u V 114 0 (col σ e.toNat))) (q2 : (¬ (0 ≤ e ∧ e < σ 0)) → Q (.inl (some (0, 1))) Z V) : ia_KH yL_colourOf cL_colourOf 4 (some .int) [(0, 9, 12, 42)] [(4, ((0 : Nat) : Int)), (0, e), (4, ((114 : Nat) : Int))] Z V 9 1 6 Q := by
  refine ia_startH RL "colourOf" ⟨by decide, rfl, rfl⟩ (Nat.le_of_ble_eq_true rfl) (ia_tg rfl) (fun X F M => ?_)
  show ia_G X 0 0 0 [(4, ((0 : Nat) : Int)), (0, e), (4, ((114 : Nat) : Int)), (9, 0)] [] Z V
  obtain ⟨s0, s1, s2, s3, s4, s5, s6, s7, s18, sb, sw, se, sp⟩ := id hI
  refine ia_aload_n (pc := 0) F dL_colourOf_0 rfl ?_
  refine ia_iconst (pc := 1) F dL_colourOf_1 ?_
  refine ia_aload_n (pc := 2) F dL_colourOf_2 rfl ?_
  refine ia_iload_n (pc := 3) F dL_colourOf_3 rfl ?_
  refine jV (pc := 4) F 0 0 (z0 hZ) cls10.1 (c_X7_colourOf e hZ hP hS hI re (fun c0 => ?_) (fun c0 => ?_)) rfl ⟨k_X7_colourOf, il_RL_49, im_X7_colourOf, is_X7_colourOf, ii_RX7⟩ 1 rfl hd_X7_colourOf ⟨by decide, by decide, by decide, by decide, Nat.le_of_ble_eq_true rfl⟩ dL_colourOf_4
  · refine j1 ?_
    have r9 := se e.toNat (by omega)
    refine ia_i2lr (pc := 7) F dL_colourOf_7 (by omega) ?_
    refine ia_lastore (pc := 8) F 114 0 rfl rfl (z114 hZ).1 (z114 hZ).2.1 (by rw [(z114 hZ).2.2]; decide) dL_colourOf_8 ?_
    refine ia_goto (pc := 9) F 15 dL_colourOf_9 rfl ?_
    refine ia_iconst (pc := 15) F dL_colourOf_15 ?_
    refine ia_ireturnH (pc := 16) F M (by decide) (by decide) dL_colourOf_16 ?_
    exact q1 c0
  · refine jx ?_
    refine ia_catch F M [] (0, 9, 12, 42) [] "java/lang/IndexOutOfBoundsException" rfl (fun z hz => by cases hz) ⟨by decide, by decide, by decide⟩ il_RL_42 cs_2 dL_colourOf_12 rfl rfl ?_
    refine ia_iconst (pc := 13) F dL_colourOf_13 ?_
    refine ia_ireturnH (pc := 14) F M (by decide) (by decide) dL_colourOf_14 ?_
    exact q2 c0
set_option maxRecDepth 100000 in
set_option maxHeartbeats 2000000 in
set_option linter.constructorNameAsVariable false in
theorem h_runOf {Z : ia_Z} {V : ia_H} {Q : ia_O → ia_Z → ia_H → Prop} {σ : Nat → Int} {m : Int} (e : Int) (hZ : ZI Z) (hP : PI V) (hS : Sh 1 V σ) (hI : SI σ m)  (re : -2147483648 ≤ e ∧ e ≤ 2147483647) (q1 : (0 ≤ e ∧ e < σ 0) → Q (.inl (some (0, 0))) Z (ia_u V 114 0 (run σ e.toNat))) (q2 : (¬ (0 ≤ e ∧ e < σ 0)) → Q (.inl (some (0, 1))) Z V) : ia_KH yL_runOf cL_runOf 4 (some .int) [(0, 9, 12, 42)] [(4, ((0 : Nat) : Int)), (0, e), (4, ((114 : Nat) : Int))] Z V 9 1 6 Q := by
  refine ia_startH RL "runOf" ⟨by decide, rfl, rfl⟩ (Nat.le_of_ble_eq_true rfl) (ia_tg rfl) (fun X F M => ?_)
  show ia_G X 0 0 0 [(4, ((0 : Nat) : Int)), (0, e), (4, ((114 : Nat) : Int)), (9, 0)] [] Z V
  obtain ⟨s0, s1, s2, s3, s4, s5, s6, s7, s18, sb, sw, se, sp⟩ := id hI
  refine ia_aload_n (pc := 0) F dL_runOf_0 rfl ?_
  refine ia_iconst (pc := 1) F dL_runOf_1 ?_
  refine ia_aload_n (pc := 2) F dL_runOf_2 rfl ?_
  refine ia_iload_n (pc := 3) F dL_runOf_3 rfl ?_
  refine jV (pc := 4) F 0 0 (z0 hZ) cls10.1 (c_X7_runOf e hZ hP hS hI re (fun c0 => ?_) (fun c0 => ?_)) rfl ⟨k_X7_runOf, il_RL_52, im_X7_runOf, is_X7_runOf, ii_RX7⟩ 1 rfl hd_X7_runOf ⟨by decide, by decide, by decide, by decide, Nat.le_of_ble_eq_true rfl⟩ dL_runOf_4
  · refine j1 ?_
    have r9 := se e.toNat (by omega)
    refine ia_i2lr (pc := 7) F dL_runOf_7 (by omega) ?_
    refine ia_lastore (pc := 8) F 114 0 rfl rfl (z114 hZ).1 (z114 hZ).2.1 (by rw [(z114 hZ).2.2]; decide) dL_runOf_8 ?_
    refine ia_goto (pc := 9) F 15 dL_runOf_9 rfl ?_
    refine ia_iconst (pc := 15) F dL_runOf_15 ?_
    refine ia_ireturnH (pc := 16) F M (by decide) (by decide) dL_runOf_16 ?_
    exact q1 c0
  · refine jx ?_
    refine ia_catch F M [] (0, 9, 12, 42) [] "java/lang/IndexOutOfBoundsException" rfl (fun z hz => by cases hz) ⟨by decide, by decide, by decide⟩ il_RL_42 cs_2 dL_runOf_12 rfl rfl ?_
    refine ia_iconst (pc := 13) F dL_runOf_13 ?_
    refine ia_ireturnH (pc := 14) F M (by decide) (by decide) dL_runOf_14 ?_
    exact q2 c0
set_option maxRecDepth 100000 in
set_option maxHeartbeats 2000000 in
set_option linter.constructorNameAsVariable false in
theorem h_printedOf {Z : ia_Z} {V : ia_H} {Q : ia_O → ia_Z → ia_H → Prop} {σ : Nat → Int} {m : Int} (e : Int) (hZ : ZI Z) (hP : PI V) (hS : Sh 1 V σ) (hI : SI σ m)  (re : -2147483648 ≤ e ∧ e ≤ 2147483647) (q1 : (0 ≤ e ∧ e < σ 0) → Q (.inl (some (0, 0))) Z (ia_u V 114 0 (prt σ e.toNat))) (q2 : (¬ (0 ≤ e ∧ e < σ 0)) → Q (.inl (some (0, 1))) Z V) : ia_KH yL_printedOf cL_printedOf 4 (some .int) [(0, 9, 12, 42)] [(4, ((0 : Nat) : Int)), (0, e), (4, ((114 : Nat) : Int))] Z V 9 1 6 Q := by
  refine ia_startH RL "printedOf" ⟨by decide, rfl, rfl⟩ (Nat.le_of_ble_eq_true rfl) (ia_tg rfl) (fun X F M => ?_)
  show ia_G X 0 0 0 [(4, ((0 : Nat) : Int)), (0, e), (4, ((114 : Nat) : Int)), (9, 0)] [] Z V
  obtain ⟨s0, s1, s2, s3, s4, s5, s6, s7, s18, sb, sw, se, sp⟩ := id hI
  refine ia_aload_n (pc := 0) F dL_printedOf_0 rfl ?_
  refine ia_iconst (pc := 1) F dL_printedOf_1 ?_
  refine ia_aload_n (pc := 2) F dL_printedOf_2 rfl ?_
  refine ia_iload_n (pc := 3) F dL_printedOf_3 rfl ?_
  refine jV (pc := 4) F 0 0 (z0 hZ) cls10.1 (c_X7_printedOf e hZ hP hS hI re (fun c0 => ?_) (fun c0 => ?_)) rfl ⟨k_X7_printedOf, il_RL_55, im_X7_printedOf, is_X7_printedOf, ii_RX7⟩ 1 rfl hd_X7_printedOf ⟨by decide, by decide, by decide, by decide, Nat.le_of_ble_eq_true rfl⟩ dL_printedOf_4
  · refine j1 ?_
    have r9 := se e.toNat (by omega)
    refine ia_i2lr (pc := 7) F dL_printedOf_7 (by omega) ?_
    refine ia_lastore (pc := 8) F 114 0 rfl rfl (z114 hZ).1 (z114 hZ).2.1 (by rw [(z114 hZ).2.2]; decide) dL_printedOf_8 ?_
    refine ia_goto (pc := 9) F 15 dL_printedOf_9 rfl ?_
    refine ia_iconst (pc := 15) F dL_printedOf_15 ?_
    refine ia_ireturnH (pc := 16) F M (by decide) (by decide) dL_printedOf_16 ?_
    exact q1 c0
  · refine jx ?_
    refine ia_catch F M [] (0, 9, 12, 42) [] "java/lang/IndexOutOfBoundsException" rfl (fun z hz => by cases hz) ⟨by decide, by decide, by decide⟩ il_RL_42 cs_2 dL_printedOf_12 rfl rfl ?_
    refine ia_iconst (pc := 13) F dL_printedOf_13 ?_
    refine ia_ireturnH (pc := 14) F M (by decide) (by decide) dL_printedOf_14 ?_
    exact q2 c0
set_option maxRecDepth 100000 in
set_option maxHeartbeats 2000000 in
set_option linter.constructorNameAsVariable false in
theorem h_marksOf {Z : ia_Z} {V : ia_H} {Q : ia_O → ia_Z → ia_H → Prop} {σ : Nat → Int} {m : Int} (p : Int) (hZ : ZI Z) (hP : PI V) (hS : Sh 1 V σ) (hI : SI σ m)  (rp : -2147483648 ≤ p ∧ p ≤ 2147483647) (q1 : (0 ≤ p ∧ p < σ 1) → Q (.inl (some (0, 0))) Z (ia_u V 114 0 (mrk σ p.toNat))) (q2 : (¬ (0 ≤ p ∧ p < σ 1)) → Q (.inl (some (0, 1))) Z V) : ia_KH yL_marksOf cL_marksOf 4 (some .int) [(0, 9, 12, 42)] [(4, ((0 : Nat) : Int)), (0, p), (4, ((114 : Nat) : Int))] Z V 9 1 6 Q := by
  refine ia_startH RL "marksOf" ⟨by decide, rfl, rfl⟩ (Nat.le_of_ble_eq_true rfl) (ia_tg rfl) (fun X F M => ?_)
  show ia_G X 0 0 0 [(4, ((0 : Nat) : Int)), (0, p), (4, ((114 : Nat) : Int)), (9, 0)] [] Z V
  obtain ⟨s0, s1, s2, s3, s4, s5, s6, s7, s18, sb, sw, se, sp⟩ := id hI
  refine ia_aload_n (pc := 0) F dL_marksOf_0 rfl ?_
  refine ia_iconst (pc := 1) F dL_marksOf_1 ?_
  refine ia_aload_n (pc := 2) F dL_marksOf_2 rfl ?_
  refine ia_iload_n (pc := 3) F dL_marksOf_3 rfl ?_
  refine jV (pc := 4) F 0 0 (z0 hZ) cls10.1 (c_X7_marksOf p hZ hP hS hI rp (fun c0 => ?_) (fun c0 => ?_)) rfl ⟨k_X7_marksOf, il_RL_85, im_X7_marksOf, is_X7_marksOf, ii_RX7⟩ 1 rfl hd_X7_marksOf ⟨by decide, by decide, by decide, by decide, Nat.le_of_ble_eq_true rfl⟩ dL_marksOf_4
  · refine j1 ?_
    have r9 := sp p.toNat (by omega)
    refine ia_i2lr (pc := 7) F dL_marksOf_7 (by omega) ?_
    refine ia_lastore (pc := 8) F 114 0 rfl rfl (z114 hZ).1 (z114 hZ).2.1 (by rw [(z114 hZ).2.2]; decide) dL_marksOf_8 ?_
    refine ia_goto (pc := 9) F 15 dL_marksOf_9 rfl ?_
    refine ia_iconst (pc := 15) F dL_marksOf_15 ?_
    refine ia_ireturnH (pc := 16) F M (by decide) (by decide) dL_marksOf_16 ?_
    exact q1 c0
  · refine jx ?_
    refine ia_catch F M [] (0, 9, 12, 42) [] "java/lang/IndexOutOfBoundsException" rfl (fun z hz => by cases hz) ⟨by decide, by decide, by decide⟩ il_RL_42 cs_2 dL_marksOf_12 rfl rfl ?_
    refine ia_iconst (pc := 13) F dL_marksOf_13 ?_
    refine ia_ireturnH (pc := 14) F M (by decide) (by decide) dL_marksOf_14 ?_
    exact q2 c0
set_option maxRecDepth 100000 in
set_option maxHeartbeats 2000000 in
set_option linter.constructorNameAsVariable false in
theorem h_hourOf {Z : ia_Z} {V : ia_H} {Q : ia_O → ia_Z → ia_H → Prop} {σ : Nat → Int} {m : Int} (p : Int) (hZ : ZI Z) (hP : PI V) (hS : Sh 1 V σ) (hI : SI σ m)  (rp : -2147483648 ≤ p ∧ p ≤ 2147483647) (q1 : (0 ≤ p ∧ p < σ 1) → Q (.inl (some (0, 0))) Z (ia_u V 114 0 (mad σ p.toNat))) (q2 : (¬ (0 ≤ p ∧ p < σ 1)) → Q (.inl (some (0, 1))) Z V) : ia_KH yL_hourOf cL_hourOf 4 (some .int) [(0, 9, 12, 42)] [(4, ((0 : Nat) : Int)), (0, p), (4, ((114 : Nat) : Int))] Z V 9 1 6 Q := by
  refine ia_startH RL "hourOf" ⟨by decide, rfl, rfl⟩ (Nat.le_of_ble_eq_true rfl) (ia_tg rfl) (fun X F M => ?_)
  show ia_G X 0 0 0 [(4, ((0 : Nat) : Int)), (0, p), (4, ((114 : Nat) : Int)), (9, 0)] [] Z V
  obtain ⟨s0, s1, s2, s3, s4, s5, s6, s7, s18, sb, sw, se, sp⟩ := id hI
  refine ia_aload_n (pc := 0) F dL_hourOf_0 rfl ?_
  refine ia_iconst (pc := 1) F dL_hourOf_1 ?_
  refine ia_aload_n (pc := 2) F dL_hourOf_2 rfl ?_
  refine ia_iload_n (pc := 3) F dL_hourOf_3 rfl ?_
  refine jV (pc := 4) F 0 0 (z0 hZ) cls10.1 (c_X7_hourOf p hZ hP hS hI rp (fun c0 => ?_) (fun c0 => ?_)) rfl ⟨k_X7_hourOf, il_RL_88, im_X7_hourOf, is_X7_hourOf, ii_RX7⟩ 1 rfl hd_X7_hourOf ⟨by decide, by decide, by decide, by decide, Nat.le_of_ble_eq_true rfl⟩ dL_hourOf_4
  · refine j1 ?_
    have r9 := sp p.toNat (by omega)
    refine ia_i2lr (pc := 7) F dL_hourOf_7 (by omega) ?_
    refine ia_lastore (pc := 8) F 114 0 rfl rfl (z114 hZ).1 (z114 hZ).2.1 (by rw [(z114 hZ).2.2]; decide) dL_hourOf_8 ?_
    refine ia_goto (pc := 9) F 15 dL_hourOf_9 rfl ?_
    refine ia_iconst (pc := 15) F dL_hourOf_15 ?_
    refine ia_ireturnH (pc := 16) F M (by decide) (by decide) dL_hourOf_16 ?_
    exact q1 c0
  · refine jx ?_
    refine ia_catch F M [] (0, 9, 12, 42) [] "java/lang/IndexOutOfBoundsException" rfl (fun z hz => by cases hz) ⟨by decide, by decide, by decide⟩ il_RL_42 cs_2 dL_hourOf_12 rfl rfl ?_
    refine ia_iconst (pc := 13) F dL_hourOf_13 ?_
    refine ia_ireturnH (pc := 14) F M (by decide) (by decide) dL_hourOf_14 ?_
    exact q2 c0
set_option maxRecDepth 100000 in
set_option maxHeartbeats 2000000 in
set_option linter.constructorNameAsVariable false in
theorem h_type {Z : ia_Z} {V : ia_H} {Q : ia_O → ia_Z → ia_H → Prop} (n q L : Nat) (t : Nat → Int) (c : Int) (hZ : ZI Z) (hP : PI V)  (hT : SB 92 Z V n t q L) (hc : 0 ≤ c ∧ c ≤ 65535) (hn : n ≤ 60) (hz : Z.2.2 ≤ 800000) (q1 : ∀ (Z1 : ia_Z) (V1 : ia_H) (q1 L1 : Nat), (32 ≤ c ∧ c ≤ 126) → (n < 60) → (SB 92 Z1 V1 (n + 1) (up t n c) q1 L1) → (BX 92 1 Z V Z1 V1) → Q (.inl (some (0, 0))) Z1 (ia_u V1 114 0 ((n + 1 : Nat) : Int))) (q2 : (¬ (32 ≤ c ∧ c ≤ 126)) → Q (.inl (some (0, 1))) Z V) (q3 : (32 ≤ c ∧ c ≤ 126) → (n = 60) → Q (.inl (some (0, 2))) Z V) : ia_KH yL_type cL_type 4 (some .int) [(0, 9, 12, 13), (0, 9, 15, 15)] [(4, ((0 : Nat) : Int)), (0, c), (4, ((114 : Nat) : Int))] Z V 9 2 310 Q := by
  refine ia_startH RL "type" ⟨by decide, rfl, rfl⟩ (Nat.le_of_ble_eq_true rfl) (ia_tg rfl) (fun X F M => ?_)
  show ia_G X 0 0 0 [(4, ((0 : Nat) : Int)), (0, c), (4, ((114 : Nat) : Int)), (9, 0)] [] Z V
  refine ia_aload_n (pc := 0) F dL_type_0 rfl ?_
  refine ia_iconst (pc := 1) F dL_type_1 ?_
  refine ia_aload_n (pc := 2) F dL_type_2 rfl ?_
  refine ia_iload_n (pc := 3) F dL_type_3 rfl ?_
  refine jV (pc := 4) F 0 0 (z0 hZ) cls10.1 (c_X7_type n q L t c hZ hP hT hc hn hz (fun Z1 V1 rq1 L1 c0 c1 c2 c3 => ?_) (fun c0 => ?_) (fun c0 c1 => ?_)) rfl ⟨k_X7_type, il_RL_108, im_X7_type, is_X7_type, ii_RX7⟩ 1 rfl hd_X7_type ⟨by decide, by decide, by decide, by decide, Nat.le_of_ble_eq_true rfl⟩ dL_type_4
  · refine j1 ?_
    refine ia_i2lr (pc := 7) F dL_type_7 (by omega) ?_
    refine ia_lastore (pc := 8) F 114 0 rfl rfl (z114 (BX_ZI c3 hZ (by omega))).1 (z114 (BX_ZI c3 hZ (by omega))).2.1 (by rw [(z114 (BX_ZI c3 hZ (by omega))).2.2]; decide) dL_type_8 ?_
    refine ia_goto (pc := 9) F 18 dL_type_9 rfl ?_
    refine ia_iconst (pc := 18) F dL_type_18 ?_
    refine ia_ireturnH (pc := 19) F M (by decide) (by decide) dL_type_19 ?_
    exact q1 Z1 V1 rq1 L1 c0 c1 c2 c3
  · refine jx ?_
    refine ia_catch F M [] (0, 9, 12, 13) [(0, 9, 15, 15)] "java/lang/IllegalArgumentException" rfl (fun z hz => by cases hz) ⟨by decide, by decide, by decide⟩ il_RL_13 cs_0 dL_type_12 rfl rfl ?_
    refine ia_iconst (pc := 13) F dL_type_13 ?_
    refine ia_ireturnH (pc := 14) F M (by decide) (by decide) dL_type_14 ?_
    exact q2 c0
  · refine jx ?_
    refine ia_catch F M [(0, 9, 12, 13)] (0, 9, 15, 15) [] "java/lang/IllegalStateException" rfl (fun z hz => by
      simp only [List.mem_cons, List.not_mem_nil, or_false] at hz
      rcases hz with rfl
      · exact ⟨by decide, _, il_RL_13, by simp [ia_ncs]⟩) ⟨by decide, by decide, by decide⟩ il_RL_15 cs_1 dL_type_15 rfl rfl ?_
    refine ia_iconst (pc := 16) F dL_type_16 ?_
    refine ia_ireturnH (pc := 17) F M (by decide) (by decide) dL_type_17 ?_
    exact q3 c0 c1
set_option maxRecDepth 100000 in
set_option maxHeartbeats 2000000 in
set_option linter.constructorNameAsVariable false in
theorem h_writeEdition {Z : ia_Z} {V : ia_H} {Q : ia_O → ia_Z → ia_H → Prop} {σ : Nat → Int} {m : Int} (e : Int) (n q L : Nat) (t : Nat → Int) (κ : Nat → Int) (hZ : ZI Z) (hP : PI V) (hS : Sh 1 V σ) (hI : SI σ m)  (re : -2147483648 ≤ e ∧ e ≤ 2147483647) (hU : SB 97 Z V n t q L) (hz : Z.2.2 ≤ 800000) (q1 : ∀ (Z1 : ia_Z) (V1 : ia_H) (q1 L1 : Nat), (0 ≤ e ∧ e < σ 0) → (SB 97 Z1 V1 (ln_en σ e) (ln_et κ σ e) q1 L1) → (BX 97 7 Z V Z1 V1) → Q (.inl (some (0, 0))) Z1 (ia_u V1 114 0 ((ln_en σ e : Nat) : Int))) (q2 : (¬ (0 ≤ e ∧ e < σ 0)) → Q (.inl (some (0, 1))) Z V) : ia_KH yL_writeEdition cL_writeEdition 4 (some .int) [(0, 9, 12, 42)] [(4, ((0 : Nat) : Int)), (0, e), (4, ((114 : Nat) : Int))] Z V 10 8 2400 Q := by
  refine ia_startH RL "writeEdition" ⟨by decide, rfl, rfl⟩ (Nat.le_of_ble_eq_true rfl) (ia_tg rfl) (fun X F M => ?_)
  show ia_G X 0 0 0 [(4, ((0 : Nat) : Int)), (0, e), (4, ((114 : Nat) : Int)), (9, 0)] [] Z V
  obtain ⟨s0, s1, s2, s3, s4, s5, s6, s7, s18, sb, sw, se, sp⟩ := id hI
  refine ia_aload_n (pc := 0) F dL_writeEdition_0 rfl ?_
  refine ia_iconst (pc := 1) F dL_writeEdition_1 ?_
  refine ia_aload_n (pc := 2) F dL_writeEdition_2 rfl ?_
  refine ia_iload_n (pc := 3) F dL_writeEdition_3 rfl ?_
  refine jV (pc := 4) F 0 0 (z0 hZ) cls10.1 (c_X7_writeEdition e n q L t κ hZ hP hS hI re hU hz (fun Z1 V1 rq1 L1 c0 c1 c2 => ?_) (fun c0 => ?_)) rfl ⟨k_X7_writeEdition, il_RL_101, im_X7_writeEdition, is_X7_writeEdition, ii_RX7⟩ 1 rfl hd_X7_writeEdition ⟨by decide, by decide, by decide, by decide, Nat.le_of_ble_eq_true rfl⟩ dL_writeEdition_4
  · refine j1 ?_
    have r9 := ln_en_le (σ := σ) (e := e)
    refine ia_i2lr (pc := 7) F dL_writeEdition_7 (by omega) ?_
    refine ia_lastore (pc := 8) F 114 0 rfl rfl (z114 (BX_ZI c2 hZ (by omega))).1 (z114 (BX_ZI c2 hZ (by omega))).2.1 (by rw [(z114 (BX_ZI c2 hZ (by omega))).2.2]; decide) dL_writeEdition_8 ?_
    refine ia_goto (pc := 9) F 15 dL_writeEdition_9 rfl ?_
    refine ia_iconst (pc := 15) F dL_writeEdition_15 ?_
    refine ia_ireturnH (pc := 16) F M (by decide) (by decide) dL_writeEdition_16 ?_
    exact q1 Z1 V1 rq1 L1 c0 c1 c2
  · refine jx ?_
    refine ia_catch F M [] (0, 9, 12, 42) [] "java/lang/IndexOutOfBoundsException" rfl (fun z hz => by cases hz) ⟨by decide, by decide, by decide⟩ il_RL_42 cs_2 dL_writeEdition_12 rfl rfl ?_
    refine ia_iconst (pc := 13) F dL_writeEdition_13 ?_
    refine ia_ireturnH (pc := 14) F M (by decide) (by decide) dL_writeEdition_14 ?_
    exact q2 c0
set_option maxRecDepth 100000 in
set_option maxHeartbeats 2000000 in
set_option linter.constructorNameAsVariable false in
theorem h_lineAt {Z : ia_Z} {V : ia_H} {Q : ia_O → ia_Z → ia_H → Prop} (i : Int) (n q L : Nat) (t : Nat → Int) (hZ : ZI Z) (hP : PI V)  (ri : -2147483648 ≤ i ∧ i ≤ 2147483647) (hU : SB 97 Z V n t q L) (hn : n ≤ 100) (q1 : (0 ≤ i ∧ i < (n : Int)) → Q (.inl (some (0, 0))) Z (ia_u V 114 0 (t i.toNat))) (q2 : (¬ (0 ≤ i ∧ i < (n : Int))) → Q (.inl (some (0, 1))) Z V) : ia_KH yL_lineAt cL_lineAt 4 (some .int) [(0, 9, 12, 42)] [(4, ((0 : Nat) : Int)), (0, i), (4, ((114 : Nat) : Int))] Z V 10 1 6 Q := by
  refine ia_startH RL "lineAt" ⟨by decide, rfl, rfl⟩ (Nat.le_of_ble_eq_true rfl) (ia_tg rfl) (fun X F M => ?_)
  show ia_G X 0 0 0 [(4, ((0 : Nat) : Int)), (0, i), (4, ((114 : Nat) : Int)), (9, 0)] [] Z V
  refine ia_aload_n (pc := 0) F dL_lineAt_0 rfl ?_
  refine ia_iconst (pc := 1) F dL_lineAt_1 ?_
  refine ia_aload_n (pc := 2) F dL_lineAt_2 rfl ?_
  refine ia_iload_n (pc := 3) F dL_lineAt_3 rfl ?_
  refine jV (pc := 4) F 0 0 (z0 hZ) cls10.1 (c_X7_lineAt i n q L t hZ hP ri hU hn (fun c0 => ?_) (fun c0 => ?_)) rfl ⟨k_X7_lineAt, il_RL_104, im_X7_lineAt, is_X7_lineAt, ii_RX7⟩ 1 rfl hd_X7_lineAt ⟨by decide, by decide, by decide, by decide, Nat.le_of_ble_eq_true rfl⟩ dL_lineAt_4
  · refine j1 ?_
    have r9 := SB_rng hU i.toNat (by omega)
    refine ia_i2lr (pc := 7) F dL_lineAt_7 (by omega) ?_
    refine ia_lastore (pc := 8) F 114 0 rfl rfl (z114 hZ).1 (z114 hZ).2.1 (by rw [(z114 hZ).2.2]; decide) dL_lineAt_8 ?_
    refine ia_goto (pc := 9) F 15 dL_lineAt_9 rfl ?_
    refine ia_iconst (pc := 15) F dL_lineAt_15 ?_
    refine ia_ireturnH (pc := 16) F M (by decide) (by decide) dL_lineAt_16 ?_
    exact q1 c0
  · refine jx ?_
    refine ia_catch F M [] (0, 9, 12, 42) [] "java/lang/IndexOutOfBoundsException" rfl (fun z hz => by cases hz) ⟨by decide, by decide, by decide⟩ il_RL_42 cs_2 dL_lineAt_12 rfl rfl ?_
    refine ia_iconst (pc := 13) F dL_lineAt_13 ?_
    refine ia_ireturnH (pc := 14) F M (by decide) (by decide) dL_lineAt_14 ?_
    exact q2 c0
set_option maxRecDepth 100000 in
set_option maxHeartbeats 2000000 in
set_option linter.constructorNameAsVariable false in
theorem h_execute {Z : ia_Z} {V : ia_H} {Q : ia_O → ia_Z → ia_H → Prop} {σ : Nat → Int} {ζ : Nat → Int} {χ : Nat → Int} {π : Nat → Int} {k4 : Nat → Int} {k5 : Nat → Int} {k6 : Nat → Int} {m : Int} (n q L : Nat) (t : Nat → Int) (hZ : ZI Z) (hP : PI V) (hS : Sh 1 V σ) (hI : SI σ m) (h0 : V 0 = ζ) (h15 : V 15 = χ) (h91 : V 91 = π) (h94 : V 94 = k4) (h95 : V 95 = k5) (h96 : V 96 = k6) (hT : SB 92 Z V n t q L) (hn6 : n ≤ 60) (hχ : (0 ≤ χ 1 ∧ χ 1 < 9) ∧ 0 ≤ χ 2 ∧ χ 2 ≤ 8) (hm : m + 16 ≤ 20000) (q1 : ∀ (k : Nat) (V1 : ia_H), (∀ i, i < k → tx_mo t n i) → (tx_cW t n (tx_ps t n k) = 0) → (tx_cP t n (tx_ps t n k) = n) → (∀ i : Nat, i < k + 1 → ¬ opB (tx_K t n i) ((fun i => tx_cF t n (tx_ps t n i)) i) ((fun i => tx_cS t n (tx_ps t n i)) i) (opN (tx_K t n) (fun i => tx_cF t n (tx_ps t n i)) (fun i => tx_cS t n (tx_ps t n i)) σ i)) → PI V1 → (V1 0 = ζ) → (V1 15 = up (up χ 1 ((χ 1 + 1) % 9)) 2 (min (χ 2 + 1) 8)) → (∀ pp, pp ∉ ([0, 1, 2, 3, 4, 5, 6, 7, 15, 17, 18, 19, 20, 21, 22, 23, 24, 25, 26, 27, 28, 29, 30, 31, 32, 33, 34, 35, 36, 37, 38, 39, 40, 41, 42, 43, 44, 45, 46, 47, 48, 49, 50, 51, 52, 53, 54, 55, 56, 57, 58, 59, 60, 61, 62, 63, 64, 65, 66, 67, 68, 69, 70, 71, 72, 73, 74, 75, 76, 77, 78, 79, 80, 81, 82, 83, 84, 86, 91, 92, 94, 95, 96] : List Nat) → V1 pp = V pp) → (Sh 1 V1 (opN (tx_K t n) (fun i => tx_cF t n (tx_ps t n i)) (fun i => tx_cS t n (tx_ps t n i)) σ (k + 1))) → (Sh (17 + 7 * (χ 1).toNat) V1 σ) → (∀ t1 : Nat → Int, SB 92 Z V1 0 t1 q L) → (∀ p : Nat, p < 17 + 7 * (χ 1).toNat ∨ 17 + 7 * (χ 1).toNat + 6 < p → p ∉ ([0, 1, 2, 3, 4, 5, 6, 7, 15, 80, 81, 82, 83, 84, 86, 91, 92, 94, 95, 96] : List Nat) → V1 p = V p) → Q (.inl (some (0, 0))) Z (ia_u V1 114 0 ((k : Int) + 1))) (q2 : ∀ (k : Nat) (V1 : ia_H), (∀ i, i < k → tx_mo t n i) → (¬ tx_mo t n k) → (tx_cP t n (tx_ps t n k) ≤ n ∧ (tx_cW t n (tx_ps t n k) = 1 ∨ tx_cP t n (tx_ps t n k) < n)) → PI V1 → (V1 0 = up ζ 9 ((tx_cP t n (tx_ps t n k) : Nat) : Int)) → (∀ pp, pp ∉ ([0, 1, 2, 3, 4, 5, 6, 7, 15, 17, 18, 19, 20, 21, 22, 23, 24, 25, 26, 27, 28, 29, 30, 31, 32, 33, 34, 35, 36, 37, 38, 39, 40, 41, 42, 43, 44, 45, 46, 47, 48, 49, 50, 51, 52, 53, 54, 55, 56, 57, 58, 59, 60, 61, 62, 63, 64, 65, 66, 67, 68, 69, 70, 71, 72, 73, 74, 75, 76, 77, 78, 79, 80, 81, 82, 83, 84, 86, 91, 92, 94, 95, 96] : List Nat) → V1 pp = V pp) → (∀ t1 : Nat → Int, SB 92 Z V1 0 t1 q L) → (∀ p : Nat, p ∉ ([0, 91, 92, 94, 95, 96] : List Nat) → V1 p = V p) → Q (.inl (some (0, 1))) Z V1) (q3 : ∀ (k j : Nat) (V1 : ia_H), (∀ i, i < k → tx_mo t n i) → (tx_cW t n (tx_ps t n k) = 0) → (tx_cP t n (tx_ps t n k) = n) → (j < k + 1) → (∀ i : Nat, i < j → ¬ opB (tx_K t n i) ((fun i => tx_cF t n (tx_ps t n i)) i) ((fun i => tx_cS t n (tx_ps t n i)) i) (opN (tx_K t n) (fun i => tx_cF t n (tx_ps t n i)) (fun i => tx_cS t n (tx_ps t n i)) σ i)) → (¬ ¬ opB (tx_K t n j) ((fun i => tx_cF t n (tx_ps t n i)) j) ((fun i => tx_cS t n (tx_ps t n i)) j) (opN (tx_K t n) (fun i => tx_cF t n (tx_ps t n i)) (fun i => tx_cS t n (tx_ps t n i)) σ j)) → PI V1 → (V1 0 = up ζ 10 (j : Int)) → (V1 15 = χ) → (∀ pp, pp ∉ ([0, 1, 2, 3, 4, 5, 6, 7, 15, 17, 18, 19, 20, 21, 22, 23, 24, 25, 26, 27, 28, 29, 30, 31, 32, 33, 34, 35, 36, 37, 38, 39, 40, 41, 42, 43, 44, 45, 46, 47, 48, 49, 50, 51, 52, 53, 54, 55, 56, 57, 58, 59, 60, 61, 62, 63, 64, 65, 66, 67, 68, 69, 70, 71, 72, 73, 74, 75, 76, 77, 78, 79, 80, 81, 82, 83, 84, 86, 91, 92, 94, 95, 96] : List Nat) → V1 pp = V pp) → (Sh 1 V1 σ) → (∀ t1 : Nat → Int, SB 92 Z V1 0 t1 q L) → (∀ p : Nat, p < 17 + 7 * (χ 1).toNat ∨ 17 + 7 * (χ 1).toNat + 6 < p → p ∉ ([0, 1, 2, 3, 4, 5, 6, 7, 15, 80, 81, 82, 83, 84, 86, 91, 92, 94, 95, 96] : List Nat) → V1 p = V p) → Q (.inl (some (0, 2))) Z V1) : ia_KH yL_execute cL_execute 3 (some .int) [(0, 8, 11, 13), (0, 8, 14, 15)] [(4, ((0 : Nat) : Int)), (4, ((114 : Nat) : Int))] Z V 10 2 310 Q := by
  refine ia_startH RL "execute" ⟨by decide, rfl, rfl⟩ (Nat.le_of_ble_eq_true rfl) (ia_tg rfl) (fun X F M => ?_)
  show ia_G X 0 0 0 [(4, ((0 : Nat) : Int)), (4, ((114 : Nat) : Int)), (9, 0)] [] Z V
  obtain ⟨s0, s1, s2, s3, s4, s5, s6, s7, s18, sb, sw, se, sp⟩ := id hI
  refine ia_aload_n (pc := 0) F dL_execute_0 rfl ?_
  refine ia_iconst (pc := 1) F dL_execute_1 ?_
  refine ia_aload_n (pc := 2) F dL_execute_2 rfl ?_
  refine jV (pc := 3) F 0 0 (z0 hZ) cls10.1 (c_X7_execute n q L t hZ hP hS hI h0 h15 h91 h94 h95 h96 hT hn6 hχ hm (fun k V1 c0 c1 c2 c3 p1 w0 w15 f1 x0_ x1_ x2_ x3_ => ?_) (fun k V1 c0 c1 c2 p1 w0 f1 x0_ x1_ => ?_) (fun k j V1 c0 c1 c2 c3 c4 c5 p1 w0 w15 f1 x0_ x1_ x2_ => ?_)) rfl ⟨k_X7_execute, il_RL_112, im_X7_execute, is_X7_execute, ii_RX7⟩ 0 rfl hd_X7_execute ⟨by decide, by decide, by decide, by decide, Nat.le_of_ble_eq_true rfl⟩ dL_execute_3
  · refine j1 ?_
    have r9 := tx_ps_rng k c0
    refine ia_i2lr (pc := 6) F dL_execute_6 (by omega) ?_
    refine ia_lastore (pc := 7) F 114 0 rfl rfl (z114 hZ).1 (z114 hZ).2.1 (by rw [(z114 hZ).2.2]; decide) dL_execute_7 ?_
    refine ia_goto (pc := 8) F 17 dL_execute_8 rfl ?_
    refine ia_iconst (pc := 17) F dL_execute_17 ?_
    refine ia_ireturnH (pc := 18) F M (by decide) (by decide) dL_execute_18 ?_
    exact q1 k V1 c0 c1 c2 c3 p1 w0 w15 f1 x0_ x1_ x2_ x3_
  · refine jx ?_
    refine ia_catch F M [] (0, 8, 11, 13) [(0, 8, 14, 15)] "java/lang/IllegalArgumentException" rfl (fun z hz => by cases hz) ⟨by decide, by decide, by decide⟩ il_RL_13 cs_0 dL_execute_11 rfl rfl ?_
    refine ia_iconst (pc := 12) F dL_execute_12 ?_
    refine ia_ireturnH (pc := 13) F M (by decide) (by decide) dL_execute_13 ?_
    exact q2 k V1 c0 c1 c2 p1 w0 f1 x0_ x1_
  · refine jx ?_
    refine ia_catch F M [(0, 8, 11, 13)] (0, 8, 14, 15) [] "java/lang/IllegalStateException" rfl (fun z hz => by
      simp only [List.mem_cons, List.not_mem_nil, or_false] at hz
      rcases hz with rfl
      · exact ⟨by decide, _, il_RL_13, by simp [ia_ncs]⟩) ⟨by decide, by decide, by decide⟩ il_RL_15 cs_1 dL_execute_14 rfl rfl ?_
    refine ia_iconst (pc := 15) F dL_execute_15 ?_
    refine ia_ireturnH (pc := 16) F M (by decide) (by decide) dL_execute_16 ?_
    exact q3 k j V1 c0 c1 c2 c3 c4 c5 p1 w0 w15 f1 x0_ x1_ x2_
