/-! the helpers of the law, more (made by wip/whole/hl.py) -/
set_option maxRecDepth 100000 in
set_option maxHeartbeats 2000000 in
set_option linter.constructorNameAsVariable false in
theorem h_shareByLevel {Z : ia_Z} {V : ia_H} {Q : ia_O → ia_Z → ia_H → Prop} {σ : Nat → Int} {δ : Nat → Int} {m : Int} (e : Int) (hZ : ZI Z) (hP : PI V) (hS : Sh 1 V σ) (hI : SI σ m) (h86 : V 86 = δ) (re : -2147483648 ≤ e ∧ e ≤ 2147483647) (q1 : ∀ (L : Int) (V1 : ia_H), (0 ≤ e ∧ e < σ 0) → (0 ≤ L ∧ L ≤ 50) → (L = 0 ∨ slv σ L (σ 0).toNat ≤ σ 2) → (∀ M : Int, L < M → M ≤ 50 → σ 2 < slv σ M (σ 0).toNat) → PI V1 → (∀ pp, pp ∉ ([86] : List Nat) → V1 pp = V pp) → Q (.inl (some (0, 0))) Z (ia_u V1 114 0 (lvv σ L (σ 2 - slv σ L (σ 0).toNat) e.toNat))) (q2 : (¬ (0 ≤ e ∧ e < σ 0)) → Q (.inl (some (0, 1))) Z V) : ia_KH yL_shareByLevel cL_shareByLevel 4 (some .int) [(0, 9, 12, 42)] [(4, ((0 : Nat) : Int)), (0, e), (4, ((114 : Nat) : Int))] Z V 9 1 6 Q := by
  refine ia_startH RL "shareByLevel" ⟨by decide, rfl, rfl⟩ (Nat.le_of_ble_eq_true rfl) (ia_tg rfl) (fun X F M => ?_)
  show ia_G X 0 0 0 [(4, ((0 : Nat) : Int)), (0, e), (4, ((114 : Nat) : Int)), (9, 0)] [] Z V
  obtain ⟨s0, s1, s2, s3, s4, s5, s6, s7, s18, sb, sw, se, sp⟩ := id hI
  refine ia_aload_n (pc := 0) F dL_shareByLevel_0 rfl ?_
  refine ia_iconst (pc := 1) F dL_shareByLevel_1 ?_
  refine ia_aload_n (pc := 2) F dL_shareByLevel_2 rfl ?_
  refine ia_iload_n (pc := 3) F dL_shareByLevel_3 rfl ?_
  refine jV (pc := 4) F 0 0 (z0 hZ) cls10.1 (c_X7_shareByLevel e hZ hP hS hI h86 re (fun L V1 c0 c1 c2 c3 p1 f1 => ?_) (fun c0 => ?_)) rfl ⟨k_X7_shareByLevel, il_RL_73, im_X7_shareByLevel, is_X7_shareByLevel, ii_RX7⟩ 1 rfl hd_X7_shareByLevel ⟨by decide, by decide, by decide, by decide, Nat.le_of_ble_eq_true rfl⟩ dL_shareByLevel_4
  · refine j1 ?_
    have r9 := se e.toNat (by omega)
    have r8 : miss σ e.toNat = run σ e.toNat - prt σ e.toNat := rfl
    have r7 : 0 ≤ lvv σ L (σ 2 - slv σ L (σ 0).toNat) e.toNat ∧ lvv σ L (σ 2 - slv σ L (σ 0).toNat) e.toNat ≤ 51 := by unfold lvv; split <;> omega
    refine ia_i2lr (pc := 7) F dL_shareByLevel_7 (by omega) ?_
    refine ia_lastore (pc := 8) F 114 0 rfl rfl (z114 hZ).1 (z114 hZ).2.1 (by rw [(z114 hZ).2.2]; decide) dL_shareByLevel_8 ?_
    refine ia_goto (pc := 9) F 15 dL_shareByLevel_9 rfl ?_
    refine ia_iconst (pc := 15) F dL_shareByLevel_15 ?_
    refine ia_ireturnH (pc := 16) F M (by decide) (by decide) dL_shareByLevel_16 ?_
    exact q1 L V1 c0 c1 c2 c3 p1 f1
  · refine jx ?_
    refine ia_catch F M [] (0, 9, 12, 42) [] "java/lang/IndexOutOfBoundsException" rfl (fun z hz => by cases hz) ⟨by decide, by decide, by decide⟩ il_RL_42 cs_2 dL_shareByLevel_12 rfl rfl ?_
    refine ia_iconst (pc := 13) F dL_shareByLevel_13 ?_
    refine ia_ireturnH (pc := 14) F M (by decide) (by decide) dL_shareByLevel_14 ?_
    exact q2 c0
theorem oO_rng {σ : Nat → Int} : ∀ k i : Nat, 0 ≤ oO σ k i ∧ oO σ k i ≤ (k : Int)
  | 0, i => ⟨Int.le_refl 0, Int.le_refl 0⟩
  | k + 1, i => by
    have ih := oO_rng (σ := σ) k i
    by_cases h : 0 < miss σ k
    · rw [oO_1 h]
      unfold up
      split <;> omega
    · rw [oO_0 h]
      omega
set_option maxRecDepth 100000 in
set_option maxHeartbeats 2000000 in
set_option linter.constructorNameAsVariable false in
theorem h_editionAt {Z : ia_Z} {V : ia_H} {Q : ia_O → ia_Z → ia_H → Prop} {σ : Nat → Int} {ρ : Nat → Int} {α1 : Nat → Int} {α2 : Nat → Int} {α3 : Nat → Int} {α4 : Nat → Int} {m : Int} (q : Int) (hZ : ZI Z) (hP : PI V) (hS : Sh 1 V σ) (hI : SI σ m) (h80 : V 80 = ρ) (h81 : V 81 = α1) (h82 : V 82 = α2) (h83 : V 83 = α3) (h84 : V 84 = α4) (rq : -2147483648 ≤ q ∧ q ≤ 2147483647) (q1 : ∀ (V1 : ia_H), (0 ≤ q ∧ q < ((oc σ (σ 0).toNat : Nat) : Int)) → PI V1 → (∀ pp, pp ∉ ([80, 81, 82, 83, 84] : List Nat) → V1 pp = V pp) → Q (.inl (some (0, 0))) Z (ia_u V1 114 0 (oO σ (σ 0).toNat ((mol (oC σ (σ 0).toNat) (σ 4) (lot 0 (oc σ (σ 0).toNat))).getD q.toNat 0)))) (q2 : ∀ (V1 : ia_H), (¬ (0 ≤ q ∧ q < ((oc σ (σ 0).toNat : Nat) : Int))) → PI V1 → (∀ pp, pp ∉ ([80, 81, 82, 83, 84] : List Nat) → V1 pp = V pp) → Q (.inl (some (0, 1))) Z V1) : ia_KH yL_editionAt cL_editionAt 4 (some .int) [(0, 9, 12, 68)] [(4, ((0 : Nat) : Int)), (0, q), (4, ((114 : Nat) : Int))] Z V 9 1 6 Q := by
  refine ia_startH RL "editionAt" ⟨by decide, rfl, rfl⟩ (Nat.le_of_ble_eq_true rfl) (ia_tg rfl) (fun X F M => ?_)
  show ia_G X 0 0 0 [(4, ((0 : Nat) : Int)), (0, q), (4, ((114 : Nat) : Int)), (9, 0)] [] Z V
  obtain ⟨s0, s1, s2, s3, s4, s5, s6, s7, s18, sb, sw, se, sp⟩ := id hI
  refine ia_aload_n (pc := 0) F dL_editionAt_0 rfl ?_
  refine ia_iconst (pc := 1) F dL_editionAt_1 ?_
  refine ia_aload_n (pc := 2) F dL_editionAt_2 rfl ?_
  refine ia_iload_n (pc := 3) F dL_editionAt_3 rfl ?_
  refine jV (pc := 4) F 0 0 (z0 hZ) cls10.1 (c_X7_editionAt q hZ hP hS hI h80 h81 h82 h83 h84 rq (fun V1 c0 p1 f1 => ?_) (fun V1 c0 p1 f1 => ?_)) rfl ⟨k_X7_editionAt, il_RL_65, im_X7_editionAt, is_X7_editionAt, ii_RX7⟩ 1 rfl hd_X7_editionAt ⟨by decide, by decide, by decide, by decide, Nat.le_of_ble_eq_true rfl⟩ dL_editionAt_4
  · refine j1 ?_
    have r9 := oO_rng (σ := σ) (σ 0).toNat ((mol (oC σ (σ 0).toNat) (σ 4) (lot 0 (oc σ (σ 0).toNat))).getD q.toNat 0)
    refine ia_i2lr (pc := 7) F dL_editionAt_7 (by omega) ?_
    refine ia_lastore (pc := 8) F 114 0 rfl rfl (z114 hZ).1 (z114 hZ).2.1 (by rw [(z114 hZ).2.2]; decide) dL_editionAt_8 ?_
    refine ia_goto (pc := 9) F 15 dL_editionAt_9 rfl ?_
    refine ia_iconst (pc := 15) F dL_editionAt_15 ?_
    refine ia_ireturnH (pc := 16) F M (by decide) (by decide) dL_editionAt_16 ?_
    exact q1 V1 c0 p1 f1
  · refine jx ?_
    refine ia_catch F M [] (0, 9, 12, 68) [] "java/util/NoSuchElementException" rfl (fun z hz => by cases hz) ⟨by decide, by decide, by decide⟩ il_RL_68 cs_3 dL_editionAt_12 rfl rfl ?_
    refine ia_iconst (pc := 13) F dL_editionAt_13 ?_
    refine ia_ireturnH (pc := 14) F M (by decide) (by decide) dL_editionAt_14 ?_
    exact q2 V1 c0 p1 f1
