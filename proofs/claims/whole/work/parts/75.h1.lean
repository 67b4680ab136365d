/-! the helpers of the law, the first (made by wip/whole/hl.py) -/
section IAH2
variable {X : ia_X} {own nm : String} {cc : ByteArray} {nL d mc ms cells slots pc : Nat} {ls : List (Nat × Int)} {Z : ia_Z} {V : ia_H} {Q : ia_O → ia_Z → ia_H → Prop} {hh : List (Nat × Nat × Nat × Nat)}
/-- caught, and put away in a local that holds nothing -/
theorem ia_catch2 (F : ia_Fix X own cc nL d mc ms) {ret : Option FieldType} (M : ia_MeH X ret nm mc ms Q hh) {E : String} (pre : List (Nat × Nat × Nat × Nat)) (x : Nat × Nat × Nat × Nat) (suf : List (Nat × Nat × Nat × Nat)) (name : String) (hsp : hh = pre ++ x :: suf) (hp : ∀ z ∈ pre, z.2.2.2 ≠ 0 ∧ ∃ nz, Cond.classLink own z.2.2.2 nz ∈ wU ∧ (E, nz) ∈ ia_ncs) (hx : x.1 ≤ pc ∧ pc < x.2.1 ∧ x.2.2.2 ≠ 0) (hl : Cond.classLink own x.2.2.2 name ∈ wU) (hc : Cond.castable E name ∈ ia_nest) {k : Nat} (dg : decode cc x.2.2.1 = .ok (.astore k, 2)) (hk : ls[k]? = some (9, 0)) (hok : ia_ok1 ls k = true) (kk : ia_G X cells slots (x.2.2.1 + 2) ls [] Z V) : ia_T X cells slots pc ls Z V E := by
  intro H locs ad lsA rest q ce r1 r2 r3 r4 r5 r6 r7 h1 h2 h3
  refine vx_catch (name := name) F.1.2.2.2.1 (tableOf pre) ⟨x.1, x.2.1, x.2.2.1, x.2.2.2⟩ (tableOf suf) (by rw [M.2.2.2, hsp]; unfold tableOf; rw [List.map_append, List.map_cons]) (fun z hz => Or.inr ?_) (by simp [covers, hx.1, hx.2.1]) hx.2.2 (F.1.2.2.2.2.1 _ hl) (va_Nw.use (ia_nest_on hc) (F.1.2.2.2.2.2.1.2.1 _ hc)) h1 h2 h3 ?_
  · obtain ⟨w, hw, rfl⟩ := List.mem_map.mp hz
    obtain ⟨n0, nz, a, b⟩ := hp w hw
    exact ⟨n0, nz, F.1.2.2.2.2.1 _ a, F.1.2.2.2.2.2.1.2.2.2.1.2.2.1 _ b⟩
  · exact lv_astore F.1.1 F.1.2.1 dg r5 (by rw [← r6]; exact (List.getElem?_eq_some_iff.mp hk).1) rfl (fun ls9 h9 => kk H locs ad ls9 r1 r2 r3 r4 (ia_L_sk h9 hok hk) r6 r7 (fun v hv => by cases hv))
end IAH2
set_option maxRecDepth 100000 in
set_option maxHeartbeats 2000000 in
set_option linter.constructorNameAsVariable false in
theorem h_pass {Z : ia_Z} {V : ia_H} {Q : ia_O → ia_Z → ia_H → Prop} {σ : Nat → Int} {χ : Nat → Int} {m : Int} (h : Int) (hZ : ZI Z) (hP : PI V) (hS : Sh 1 V σ) (hI : SI σ m) (h15 : V 15 = χ) (hχ : (0 ≤ χ 1 ∧ χ 1 < 9) ∧ 0 ≤ χ 2 ∧ χ 2 ≤ 8) (rh : -2147483648 ≤ h ∧ h ≤ 2147483647) (q1 : ∀ (V1 : ia_H), (¬ (1 ≤ h ∧ h ≤ 48)) → PI V1 → (∀ pp, pp ∉ ([17, 18, 19, 20, 21, 22, 23, 24, 25, 26, 27, 28, 29, 30, 31, 32, 33, 34, 35, 36, 37, 38, 39, 40, 41, 42, 43, 44, 45, 46, 47, 48, 49, 50, 51, 52, 53, 54, 55, 56, 57, 58, 59, 60, 61, 62, 63, 64, 65, 66, 67, 68, 69, 70, 71, 72, 73, 74, 75, 76, 77, 78, 79] : List Nat) → V1 pp = V pp) → (∀ p : Nat, p < 17 + 7 * (χ 1).toNat ∨ 17 + 7 * (χ 1).toNat + 6 < p → V1 p = V p) → Q (.inl (some (0, 1))) Z V1) (q2 : ∀ (V1 : ia_H), (1 ≤ h ∧ h ≤ 48) → PI V1 → (V1 15 = up (up χ 1 ((χ 1 + 1) % 9)) 2 (min (χ 2 + 1) 8)) → (∀ pp, pp ∉ ([17, 18, 19, 20, 21, 22, 23, 24, 25, 26, 27, 28, 29, 30, 31, 32, 33, 34, 35, 36, 37, 38, 39, 40, 41, 42, 43, 44, 45, 46, 47, 48, 49, 50, 51, 52, 53, 54, 55, 56, 57, 58, 59, 60, 61, 62, 63, 64, 65, 66, 67, 68, 69, 70, 71, 72, 73, 74, 75, 76, 77, 78, 79, 1, 2, 3, 4, 5, 6, 7, 15] : List Nat) → V1 pp = V pp) → (Sh 1 V1 (s_pass σ h.toNat)) → (Sh (17 + 7 * (χ 1).toNat) V1 σ) → (∀ p : Nat, p < 17 + 7 * (χ 1).toNat ∨ 17 + 7 * (χ 1).toNat + 6 < p → p ∉ ([1, 2, 3, 4, 5, 6, 7, 15] : List Nat) → V1 p = V p) → Q (.inl (some (0, 0))) Z (ia_u V1 114 0 (lostN σ h.toNat))) : ia_KH yL_pass cL_pass 4 (some .int) [(0, 9, 12, 13)] [(4, ((0 : Nat) : Int)), (0, h), (4, ((114 : Nat) : Int))] Z V 10 1 6 Q := by
  refine ia_startH RL "pass" ⟨by decide, rfl, rfl⟩ (Nat.le_of_ble_eq_true rfl) (ia_tg rfl) (fun X F M => ?_)
  show ia_G X 0 0 0 [(4, ((0 : Nat) : Int)), (0, h), (4, ((114 : Nat) : Int)), (9, 0)] [] Z V
  obtain ⟨s0, s1, s2, s3, s4, s5, s6, s7, s18, sb, sw, se, sp⟩ := id hI
  refine ia_aload_n (pc := 0) F dL_pass_0 rfl ?_
  refine ia_iconst (pc := 1) F dL_pass_1 ?_
  refine ia_aload_n (pc := 2) F dL_pass_2 rfl ?_
  refine ia_iload_n (pc := 3) F dL_pass_3 rfl ?_
  refine jV (pc := 4) F 0 0 (z0 hZ) cls10.1 (c_X7_pass h hZ hP hS hI h15 hχ rh (fun V1 c0 p1 f1 x0_ => ?_) (fun V1 c0 p1 w15 f1 x0_ x1_ x2_ => ?_)) rfl ⟨k_X7_pass, il_RL_21, im_X7_pass, is_X7_pass, ii_RX7⟩ 1 rfl hd_X7_pass ⟨by decide, by decide, by decide, by decide, Nat.le_of_ble_eq_true rfl⟩ dL_pass_4
  · refine jx ?_
    refine ia_catch F M [] (0, 9, 12, 13) [] "java/lang/IllegalArgumentException" rfl (fun z hz => by cases hz) ⟨by decide, by decide, by decide⟩ il_RL_13 cs_0 dL_pass_12 rfl rfl ?_
    refine ia_iconst (pc := 13) F dL_pass_13 ?_
    refine ia_ireturnH (pc := 14) F M (by decide) (by decide) dL_pass_14 ?_
    exact q1 V1 c0 p1 f1 x0_
  · refine j1 ?_
    have r9 := lostN_rng sw h.toNat
    refine ia_i2lr (pc := 7) F dL_pass_7 (by omega) ?_
    refine ia_lastore (pc := 8) F 114 0 rfl rfl (z114 hZ).1 (z114 hZ).2.1 (by rw [(z114 hZ).2.2]; decide) dL_pass_8 ?_
    refine ia_goto (pc := 9) F 15 dL_pass_9 rfl ?_
    refine ia_iconst (pc := 15) F dL_pass_15 ?_
    refine ia_ireturnH (pc := 16) F M (by decide) (by decide) dL_pass_16 ?_
    exact q2 V1 c0 p1 w15 f1 x0_ x1_ x2_
set_option maxRecDepth 100000 in
set_option maxHeartbeats 2000000 in
set_option linter.constructorNameAsVariable false in
theorem h_ink {Z : ia_Z} {V : ia_H} {Q : ia_O → ia_Z → ia_H → Prop} {σ : Nat → Int} {m : Int} (c : Int) (hZ : ZI Z) (hP : PI V) (hS : Sh 1 V σ) (hI : SI σ m)  (rc : -2147483648 ≤ c ∧ c ≤ 2147483647) (q1 : (0 ≤ c ∧ c ≤ 9) → Q (.inl (some (0, 0))) Z (ia_u V 114 0 (wel σ c.toNat))) (q2 : (¬ (0 ≤ c ∧ c ≤ 9)) → Q (.inl (some (0, 1))) Z V) : ia_KH yL_ink cL_ink 4 (some .int) [(0, 9, 12, 13)] [(4, ((0 : Nat) : Int)), (0, c), (4, ((114 : Nat) : Int))] Z V 9 1 6 Q := by
  refine ia_startH RL "ink" ⟨by decide, rfl, rfl⟩ (Nat.le_of_ble_eq_true rfl) (ia_tg rfl) (fun X F M => ?_)
  show ia_G X 0 0 0 [(4, ((0 : Nat) : Int)), (0, c), (4, ((114 : Nat) : Int)), (9, 0)] [] Z V
  obtain ⟨s0, s1, s2, s3, s4, s5, s6, s7, s18, sb, sw, se, sp⟩ := id hI
  refine ia_aload_n (pc := 0) F dL_ink_0 rfl ?_
  refine ia_iconst (pc := 1) F dL_ink_1 ?_
  refine ia_aload_n (pc := 2) F dL_ink_2 rfl ?_
  refine ia_iload_n (pc := 3) F dL_ink_3 rfl ?_
  refine jV (pc := 4) F 0 0 (z0 hZ) cls10.1 (c_X7_ink c hZ hP hS hI rc (fun c0 => ?_) (fun c0 => ?_)) rfl ⟨k_X7_ink, il_RL_24, im_X7_ink, is_X7_ink, ii_RX7⟩ 1 rfl hd_X7_ink ⟨by decide, by decide, by decide, by decide, Nat.le_of_ble_eq_true rfl⟩ dL_ink_4
  · refine j1 ?_
    have r9 := sw c.toNat (by omega)
    refine ia_i2lr (pc := 7) F dL_ink_7 (by omega) ?_
    refine ia_lastore (pc := 8) F 114 0 rfl rfl (z114 hZ).1 (z114 hZ).2.1 (by rw [(z114 hZ).2.2]; decide) dL_ink_8 ?_
    refine ia_goto (pc := 9) F 15 dL_ink_9 rfl ?_
    refine ia_iconst (pc := 15) F dL_ink_15 ?_
    refine ia_ireturnH (pc := 16) F M (by decide) (by decide) dL_ink_16 ?_
    exact q1 c0
  · refine jx ?_
    refine ia_catch F M [] (0, 9, 12, 13) [] "java/lang/IllegalArgumentException" rfl (fun z hz => by cases hz) ⟨by decide, by decide, by decide⟩ il_RL_13 cs_0 dL_ink_12 rfl rfl ?_
    refine ia_iconst (pc := 13) F dL_ink_13 ?_
    refine ia_ireturnH (pc := 14) F M (by decide) (by decide) dL_ink_14 ?_
    exact q2 c0
set_option maxRecDepth 100000 in
set_option maxHeartbeats 2000000 in
set_option linter.constructorNameAsVariable false in
theorem h_addInk {Z : ia_Z} {V : ia_H} {Q : ia_O → ia_Z → ia_H → Prop} {σ : Nat → Int} {χ : Nat → Int} {m : Int} (c : Int) (u : Int) (hZ : ZI Z) (hP : PI V) (hS : Sh 1 V σ) (hI : SI σ m) (h15 : V 15 = χ) (hχ : (0 ≤ χ 1 ∧ χ 1 < 9) ∧ 0 ≤ χ 2 ∧ χ 2 ≤ 8) (rc : -2147483648 ≤ c ∧ c ≤ 2147483647) (ru : -2147483648 ≤ u ∧ u ≤ 2147483647) (q1 : ∀ (V1 : ia_H), (¬ ((0 ≤ c ∧ c ≤ 9) ∧ 1 ≤ u ∧ u ≤ 999)) → PI V1 → (∀ pp, pp ∉ ([17, 18, 19, 20, 21, 22, 23, 24, 25, 26, 27, 28, 29, 30, 31, 32, 33, 34, 35, 36, 37, 38, 39, 40, 41, 42, 43, 44, 45, 46, 47, 48, 49, 50, 51, 52, 53, 54, 55, 56, 57, 58, 59, 60, 61, 62, 63, 64, 65, 66, 67, 68, 69, 70, 71, 72, 73, 74, 75, 76, 77, 78, 79] : List Nat) → V1 pp = V pp) → (∀ p : Nat, p < 17 + 7 * (χ 1).toNat ∨ 17 + 7 * (χ 1).toNat + 6 < p → V1 p = V p) → Q (.inl (some (0, 1))) Z V1) (q2 : ∀ (V1 : ia_H), ((0 ≤ c ∧ c ≤ 9) ∧ 1 ≤ u ∧ u ≤ 999) → (999 < wel σ c.toNat + u) → PI V1 → (∀ pp, pp ∉ ([17, 18, 19, 20, 21, 22, 23, 24, 25, 26, 27, 28, 29, 30, 31, 32, 33, 34, 35, 36, 37, 38, 39, 40, 41, 42, 43, 44, 45, 46, 47, 48, 49, 50, 51, 52, 53, 54, 55, 56, 57, 58, 59, 60, 61, 62, 63, 64, 65, 66, 67, 68, 69, 70, 71, 72, 73, 74, 75, 76, 77, 78, 79] : List Nat) → V1 pp = V pp) → (∀ p : Nat, p < 17 + 7 * (χ 1).toNat ∨ 17 + 7 * (χ 1).toNat + 6 < p → V1 p = V p) → Q (.inl (some (0, 2))) Z V1) (q3 : ∀ (V1 : ia_H), ((0 ≤ c ∧ c ≤ 9) ∧ 1 ≤ u ∧ u ≤ 999) → (wel σ c.toNat + u ≤ 999) → PI V1 → (V1 15 = up (up χ 1 ((χ 1 + 1) % 9)) 2 (min (χ 2 + 1) 8)) → (∀ pp, pp ∉ ([17, 18, 19, 20, 21, 22, 23, 24, 25, 26, 27, 28, 29, 30, 31, 32, 33, 34, 35, 36, 37, 38, 39, 40, 41, 42, 43, 44, 45, 46, 47, 48, 49, 50, 51, 52, 53, 54, 55, 56, 57, 58, 59, 60, 61, 62, 63, 64, 65, 66, 67, 68, 69, 70, 71, 72, 73, 74, 75, 76, 77, 78, 79, 1, 2, 3, 4, 5, 6, 7, 15] : List Nat) → V1 pp = V pp) → (Sh 1 V1 (s_pour σ c.toNat u)) → (Sh (17 + 7 * (χ 1).toNat) V1 σ) → (∀ p : Nat, p < 17 + 7 * (χ 1).toNat ∨ 17 + 7 * (χ 1).toNat + 6 < p → p ∉ ([1, 2, 3, 4, 5, 6, 7, 15] : List Nat) → V1 p = V p) → Q (.inl (some (0, 0))) Z (ia_u V1 114 0 (wel σ c.toNat + u))) : ia_KH yL_addInk cL_addInk 5 (some .int) [(0, 10, 13, 13), (0, 10, 17, 15)] [(4, ((0 : Nat) : Int)), (0, c), (0, u), (4, ((114 : Nat) : Int))] Z V 10 1 6 Q := by
  refine ia_startH RL "addInk" ⟨by decide, rfl, rfl⟩ (Nat.le_of_ble_eq_true rfl) (ia_tg rfl) (fun X F M => ?_)
  show ia_G X 0 0 0 [(4, ((0 : Nat) : Int)), (0, c), (0, u), (4, ((114 : Nat) : Int)), (9, 0)] [] Z V
  obtain ⟨s0, s1, s2, s3, s4, s5, s6, s7, s18, sb, sw, se, sp⟩ := id hI
  refine ia_aload_n (pc := 0) F dL_addInk_0 rfl ?_
  refine ia_iconst (pc := 1) F dL_addInk_1 ?_
  refine ia_aload_n (pc := 2) F dL_addInk_2 rfl ?_
  refine ia_iload_n (pc := 3) F dL_addInk_3 rfl ?_
  refine ia_iload_n (pc := 4) F dL_addInk_4 rfl ?_
  refine jV (pc := 5) F 0 0 (z0 hZ) cls10.1 (c_X7_addInk c u hZ hP hS hI h15 hχ rc ru (fun V1 c0 p1 f1 x0_ => ?_) (fun V1 c0 c1 p1 f1 x0_ => ?_) (fun V1 c0 c1 p1 w15 f1 x0_ x1_ x2_ => ?_)) rfl ⟨k_X7_addInk, il_RL_7, im_X7_addInk, is_X7_addInk, ii_RX7⟩ 2 rfl hd_X7_addInk ⟨by decide, by decide, by decide, by decide, Nat.le_of_ble_eq_true rfl⟩ dL_addInk_5
  · refine jx ?_
    refine ia_catch2 F M [] (0, 10, 13, 13) [(0, 10, 17, 15)] "java/lang/IllegalArgumentException" rfl (fun z hz => by cases hz) ⟨by decide, by decide, by decide⟩ il_RL_13 cs_0 dL_addInk_13 rfl rfl ?_
    refine ia_iconst (pc := 15) F dL_addInk_15 ?_
    refine ia_ireturnH (pc := 16) F M (by decide) (by decide) dL_addInk_16 ?_
    exact q1 V1 c0 p1 f1 x0_
  · refine jx ?_
    refine ia_catch2 F M [(0, 10, 13, 13)] (0, 10, 17, 15) [] "java/lang/IllegalStateException" rfl (fun z hz => by
      simp only [List.mem_cons, List.not_mem_nil, or_false] at hz
      rcases hz with rfl
      · exact ⟨by decide, _, il_RL_13, by simp [ia_ncs]⟩) ⟨by decide, by decide, by decide⟩ il_RL_15 cs_1 dL_addInk_17 rfl rfl ?_
    refine ia_iconst (pc := 19) F dL_addInk_19 ?_
    refine ia_ireturnH (pc := 20) F M (by decide) (by decide) dL_addInk_20 ?_
    exact q2 V1 c0 c1 p1 f1 x0_
  · refine j1 ?_
    have r9 := sw c.toNat (by omega)
    refine ia_i2lr (pc := 8) F dL_addInk_8 (by omega) ?_
    refine ia_lastore (pc := 9) F 114 0 rfl rfl (z114 hZ).1 (z114 hZ).2.1 (by rw [(z114 hZ).2.2]; decide) dL_addInk_9 ?_
    refine ia_goto (pc := 10) F 21 dL_addInk_10 rfl ?_
    refine ia_iconst (pc := 21) F dL_addInk_21 ?_
    refine ia_ireturnH (pc := 22) F M (by decide) (by decide) dL_addInk_22 ?_
    exact q3 V1 c0 c1 p1 w15 f1 x0_ x1_ x2_
set_option maxRecDepth 100000 in
set_option maxHeartbeats 2000000 in
set_option linter.constructorNameAsVariable false in
theorem h_undo {Z : ia_Z} {V : ia_H} {Q : ia_O → ia_Z → ia_H → Prop} {σ : Nat → Int} {χ : Nat → Int} {m : Int} (τ : Nat → Int) (hZ : ZI Z) (hP : PI V) (hS : Sh 1 V σ) (hI : SI σ m) (h15 : V 15 = χ) (hχ : (0 ≤ χ 1 ∧ χ 1 < 9) ∧ 0 ≤ χ 2 ∧ χ 2 ≤ 8) (hT : 0 < χ 2 → Sh (17 + 7 * ((χ 1 + 9 - 1) % 9).toNat) V τ) (q1 : ∀ (V1 : ia_H), (0 < χ 2) → PI V1 → (V1 15 = up (up χ 1 ((χ 1 + 9 - 1) % 9)) 2 (χ 2 - 1)) → (∀ pp, pp ∉ ([1, 2, 3, 4, 5, 6, 7, 15] : List Nat) → V1 pp = V pp) → (Sh 1 V1 τ) → Q (.inl (some (0, 0))) Z (ia_u V1 114 0 (χ 2 - 1))) (q2 : (¬ 0 < χ 2) → Q (.inl (some (0, 1))) Z V) : ia_KH yL_undo cL_undo 3 (some .int) [(0, 8, 11, 15)] [(4, ((0 : Nat) : Int)), (4, ((114 : Nat) : Int))] Z V 9 1 6 Q := by
  refine ia_startH RL "undo" ⟨by decide, rfl, rfl⟩ (Nat.le_of_ble_eq_true rfl) (ia_tg rfl) (fun X F M => ?_)
  show ia_G X 0 0 0 [(4, ((0 : Nat) : Int)), (4, ((114 : Nat) : Int)), (9, 0)] [] Z V
  obtain ⟨s0, s1, s2, s3, s4, s5, s6, s7, s18, sb, sw, se, sp⟩ := id hI
  refine ia_aload_n (pc := 0) F dL_undo_0 rfl ?_
  refine ia_iconst (pc := 1) F dL_undo_1 ?_
  refine ia_aload_n (pc := 2) F dL_undo_2 rfl ?_
  refine jV (pc := 3) F 0 0 (z0 hZ) cls10.1 (c_X7_undo τ hZ hP hS hI h15 hχ hT (fun V1 c0 p1 w15 f1 x0_ => ?_) (fun c0 => ?_)) rfl ⟨k_X7_undo, il_RL_122, im_X7_undo, is_X7_undo, ii_RX7⟩ 0 rfl hd_X7_undo ⟨by decide, by decide, by decide, by decide, Nat.le_of_ble_eq_true rfl⟩ dL_undo_3
  · refine j1 ?_
    refine ia_i2lr (pc := 6) F dL_undo_6 (by omega) ?_
    refine ia_lastore (pc := 7) F 114 0 rfl rfl (z114 hZ).1 (z114 hZ).2.1 (by rw [(z114 hZ).2.2]; decide) dL_undo_7 ?_
    refine ia_goto (pc := 8) F 14 dL_undo_8 rfl ?_
    refine ia_iconst (pc := 14) F dL_undo_14 ?_
    refine ia_ireturnH (pc := 15) F M (by decide) (by decide) dL_undo_15 ?_
    exact q1 V1 c0 p1 w15 f1 x0_
  · refine jx ?_
    refine ia_catch F M [] (0, 8, 11, 15) [] "java/lang/IllegalStateException" rfl (fun z hz => by cases hz) ⟨by decide, by decide, by decide⟩ il_RL_15 cs_1 dL_undo_11 rfl rfl ?_
    refine ia_iconst (pc := 12) F dL_undo_12 ?_
    refine ia_ireturnH (pc := 13) F M (by decide) (by decide) dL_undo_13 ?_
    exact q2 c0
