/-! the class: questions that search (made by wip/whole/c2.py) -/
set_option maxRecDepth 100000 in
theorem c_X7_fewestMinutes {Z : ia_Z} {V : ia_H} {Q : ia_O → ia_Z → ia_H → Prop} {σ : Nat → Int} {ρ : Nat → Int} {α1 : Nat → Int} {α2 : Nat → Int} {α3 : Nat → Int} {α4 : Nat → Int} {m : Int} (hZ : ZI Z) (hP : PI V) (hS : Sh 1 V σ) (hI : SI σ m) (h80 : V 80 = ρ) (h81 : V 81 = α1) (h82 : V 82 = α2) (h83 : V 83 = α3) (h84 : V 84 = α4)  (q1 : ∀ (V1 : ia_H), PI V1 → (∀ pp, pp ∉ ([80, 81, 82, 83, 84] : List Nat) → V1 pp = V pp) → Q (.inl (some (0, (mcl (oC σ (σ 0).toNat) (σ 4) (lot 0 (oc σ (σ 0).toNat)))))) Z V1) : ia_K yX7_fewestMinutes cX7_fewestMinutes 1 (some .int) [(4, ((0 : Nat) : Int))] Z V 8 0 0 Q := by
  refine ia_start RX7 "fewestMinutes" ⟨by decide, rfl, rfl⟩ (Nat.le_of_ble_eq_true rfl) (ia_tg rfl) (fun X F M => ?_)
  show ia_G X 0 0 0 [(4, ((0 : Nat) : Int))] [] Z V
  obtain ⟨s0, s1, s2, s3, s4, s5, s6, s7, s18, sb, sw, se, sp⟩ := id hI
  refine ia_aload_n (pc := 0) F dX7_fewestMinutes_0 rfl ?_
  refine jg (pc := 1) F (z0 hZ) cls10 f10_3 (hP 0 3 80 rfl) il_RX7_29 dX7_fewestMinutes_1 ?_
  refine ia_aload_n (pc := 4) F dX7_fewestMinutes_4 rfl ?_
  refine jg (pc := 5) F (z0 hZ) cls10 f10_0 (hP 0 0 1 rfl) il_RX7_12 dX7_fewestMinutes_5 ?_
  refine jV (pc := 8) F 0 0 (z80 hZ) cls4.1 (c_X0_find hZ hP hS hI h80 h81 h82 h83 h84 (fun V_1 p_2 f_3 x_4 x_5 x_6 => ?_)) rfl ⟨k_X0_find, il_RX7_160, im_X0_find, is_X0_find, ii_RX0⟩ 1 rfl hd_X0_find ⟨by decide, by decide, by decide, by decide, Nat.le_of_ble_eq_true rfl⟩ dX7_fewestMinutes_8
  refine j0 ?_
  refine ia_aload_n (pc := 11) F dX7_fewestMinutes_11 rfl ?_
  refine jg (pc := 12) F (z0 hZ) cls10 f10_3 (p_2 0 3 80 rfl) il_RX7_29 dX7_fewestMinutes_12 ?_
  refine jg (pc := 15) F (x := V_1 80 5) (z80 hZ) cls4 f4_5 rfl il_RX7_164 dX7_fewestMinutes_15 ?_
  refine ia_ireturn (pc := 18) F M (by decide) (by decide) dX7_fewestMinutes_18 ?_
  rw [← x_5] at q1
  exact q1 _ p_2 (Fr_c (Fr_0 (V := V) (S := [80, 81, 82, 83, 84])) f_3 (by decide))
set_option maxRecDepth 100000 in
theorem c_X7_minutesByOrders {Z : ia_Z} {V : ia_H} {Q : ia_O → ia_Z → ia_H → Prop} {σ : Nat → Int} {ρ : Nat → Int} {α1 : Nat → Int} {α2 : Nat → Int} {m : Int} (hZ : ZI Z) (hP : PI V) (hS : Sh 1 V σ) (hI : SI σ m) (h80 : V 80 = ρ) (h81 : V 81 = α1) (h82 : V 82 = α2)  (q1 : ∀ (V1 : ia_H), PI V1 → (∀ pp, pp ∉ ([80, 81, 82] : List Nat) → V1 pp = V pp) → Q (.inl (some (0, (kr (oc σ (σ 0).toNat) (oC σ (σ 0).toNat) 0 (σ 4))))) Z V1) : ia_K yX7_minutesByOrders cX7_minutesByOrders 1 (some .int) [(4, ((0 : Nat) : Int))] Z V 14 0 0 Q := by
  refine ia_start RX7 "minutesByOrders" ⟨by decide, rfl, rfl⟩ (Nat.le_of_ble_eq_true rfl) (ia_tg rfl) (fun X F M => ?_)
  show ia_G X 0 0 0 [(4, ((0 : Nat) : Int))] [] Z V
  obtain ⟨s0, s1, s2, s3, s4, s5, s6, s7, s18, sb, sw, se, sp⟩ := id hI
  refine ia_aload_n (pc := 0) F dX7_minutesByOrders_0 rfl ?_
  refine jg (pc := 1) F (z0 hZ) cls10 f10_3 (hP 0 3 80 rfl) il_RX7_29 dX7_minutesByOrders_1 ?_
  refine ia_aload_n (pc := 4) F dX7_minutesByOrders_4 rfl ?_
  refine jg (pc := 5) F (z0 hZ) cls10 f10_0 (hP 0 0 1 rfl) il_RX7_12 dX7_minutesByOrders_5 ?_
  refine jV (pc := 8) F 0 0 (z80 hZ) cls4.1 (c_X0_minutesOfAllOrders hZ hP hS hI h80 h81 h82 (fun V_1 p_2 w_3 w_4 w_5 f_6 => ?_)) rfl ⟨k_X0_minutesOfAllOrders, il_RX7_167, im_X0_minutesOfAllOrders, is_X0_minutesOfAllOrders, ii_RX0⟩ 1 rfl hd_X0_minutesOfAllOrders ⟨by decide, by decide, by decide, by decide, Nat.le_of_ble_eq_true rfl⟩ dX7_minutesByOrders_8
  refine j1 ?_
  refine ia_ireturn (pc := 11) F M (by decide) (by decide) dX7_minutesByOrders_11 ?_
  exact q1 _ p_2 (Fr_c (Fr_0 (V := V) (S := [80, 81, 82])) f_6 (by decide))
set_option maxRecDepth 100000 in
theorem c_X7_editionAt {Z : ia_Z} {V : ia_H} {Q : ia_O → ia_Z → ia_H → Prop} {σ : Nat → Int} {ρ : Nat → Int} {α1 : Nat → Int} {α2 : Nat → Int} {α3 : Nat → Int} {α4 : Nat → Int} {m : Int} (q : Int) (hZ : ZI Z) (hP : PI V) (hS : Sh 1 V σ) (hI : SI σ m) (h80 : V 80 = ρ) (h81 : V 81 = α1) (h82 : V 82 = α2) (h83 : V 83 = α3) (h84 : V 84 = α4) (rq : -2147483648 ≤ q ∧ q ≤ 2147483647) (q1 : ∀ (V1 : ia_H), (0 ≤ q ∧ q < ((oc σ (σ 0).toNat : Nat) : Int)) → PI V1 → (∀ pp, pp ∉ ([80, 81, 82, 83, 84] : List Nat) → V1 pp = V pp) → Q (.inl (some (0, (oO σ (σ 0).toNat ((mol (oC σ (σ 0).toNat) (σ 4) (lot 0 (oc σ (σ 0).toNat))).getD q.toNat 0))))) Z V1) (q2 : ∀ (V1 : ia_H), (¬ (0 ≤ q ∧ q < ((oc σ (σ 0).toNat : Nat) : Int))) → PI V1 → (∀ pp, pp ∉ ([80, 81, 82, 83, 84] : List Nat) → V1 pp = V pp) → Q (.inr "java/util/NoSuchElementException") Z V1) : ia_K yX7_editionAt cX7_editionAt 2 (some .int) [(4, ((0 : Nat) : Int)), (0, q)] Z V 8 1 6 Q := by
  refine ia_start RX7 "editionAt" ⟨by decide, rfl, rfl⟩ (Nat.le_of_ble_eq_true rfl) (ia_tg rfl) (fun X F M => ?_)
  show ia_G X 0 0 0 [(4, ((0 : Nat) : Int)), (0, q)] [] Z V
  obtain ⟨s0, s1, s2, s3, s4, s5, s6, s7, s18, sb, sw, se, sp⟩ := id hI
  refine ia_aload_n (pc := 0) F dX7_editionAt_0 rfl ?_
  refine jg (pc := 1) F (z0 hZ) cls10 f10_3 (hP 0 3 80 rfl) il_RX7_29 dX7_editionAt_1 ?_
  refine ia_aload_n (pc := 4) F dX7_editionAt_4 rfl ?_
  refine jg (pc := 5) F (z0 hZ) cls10 f10_0 (hP 0 0 1 rfl) il_RX7_12 dX7_editionAt_5 ?_
  refine jV (pc := 8) F 0 0 (z80 hZ) cls4.1 (c_X0_find hZ hP hS hI h80 h81 h82 h83 h84 (fun V_1 p_2 f_3 x_4 x_5 x_6 => ?_)) rfl ⟨k_X0_find, il_RX7_160, im_X0_find, is_X0_find, ii_RX0⟩ 1 rfl hd_X0_find ⟨by decide, by decide, by decide, by decide, Nat.le_of_ble_eq_true rfl⟩ dX7_editionAt_8
  refine j0 ?_
  refine ia_iload_n (pc := 11) F dX7_editionAt_11 rfl ?_
  refine ia_iconst (pc := 12) F dX7_editionAt_12 ?_
  refine ia_aload_n (pc := 13) F dX7_editionAt_13 rfl ?_
  refine jg (pc := 14) F (z0 hZ) cls10 f10_3 (p_2 0 3 80 rfl) il_RX7_29 dX7_editionAt_14 ?_
  refine jg (pc := 17) F (x := V_1 80 4) (z80 hZ) cls4 f4_4 rfl il_RX7_171 dX7_editionAt_17 ?_
  rw [x_4]
  have hcn7 := oc_le (σ := σ) (σ 0).toNat
  refine ia_iconst (pc := 20) F dX7_editionAt_20 ?_
  refine ia_isub (pc := 21) F dX7_editionAt_21 ?_
  refine jS (pc := 22) F 0 0 (c_X7_isWithin q 0 (((oc σ (σ 0).toNat : Nat) : Int) - 1) (by omega) (by omega) (by omega) (fun h_7 => ?_) (fun h_8 => ?_)) rfl ⟨k_X7_isWithin, il_RX7_106, it_X7_isWithin, ii_RX7⟩ rfl 3 rfl hd_X7_isWithin ⟨by decide, by decide, by decide, by decide, Nat.le_of_ble_eq_true rfl⟩ dX7_editionAt_22
  · refine j1 ?_
    refine jS (pc := 25) F 0 0 (c_X7_requireElement_1  ?_) rfl ⟨k_X7_requireElement, il_RX7_174, it_X7_requireElement, ii_RX7⟩ rfl 1 rfl hd_X7_requireElement ⟨by decide, by decide, by decide, by decide, Nat.le_of_ble_eq_true rfl⟩ dX7_editionAt_25
    refine j0 ?_
    refine ia_aload_n (pc := 28) F dX7_editionAt_28 rfl ?_
    refine jg (pc := 29) F (z0 hZ) cls10 f10_3 (p_2 0 3 80 rfl) il_RX7_29 dX7_editionAt_29 ?_
    refine jg (pc := 32) F (z80 hZ) cls4 f4_3 (p_2 80 3 84 rfl) il_RX7_177 dX7_editionAt_32 ?_
    refine ia_iload_n (pc := 35) F dX7_editionAt_35 rfl ?_
    refine ja (pc := 36) F (v := V_1 84 q.toNat) (z84 hZ) q.toNat (by omega) (by omega) rfl dX7_editionAt_36 ?_
    refine ia_ireturn (pc := 37) F M (by decide) (by decide) dX7_editionAt_37 ?_
    rw [← x_6 q.toNat (by omega)] at q1
    exact q1 _ (by omega) p_2 (Fr_c (Fr_0 (V := V) (S := [80, 81, 82, 83, 84])) f_3 (by decide))
  · refine j1 ?_
    refine jS (pc := 25) F 1 6 (c_X7_requireElement_0  ?_) rfl ⟨k_X7_requireElement, il_RX7_174, it_X7_requireElement, ii_RX7⟩ rfl 1 rfl hd_X7_requireElement ⟨by decide, by decide, by decide, by decide, Nat.le_of_ble_eq_true rfl⟩ dX7_editionAt_25
    refine jx ?_
    refine ia_out F M (by decide) (by decide) ?_
    exact q2 _ (by omega) p_2 (Fr_c (Fr_0 (V := V) (S := [80, 81, 82, 83, 84])) f_3 (by decide))
set_option maxRecDepth 100000 in
theorem c_X7_shareOf {Z : ia_Z} {V : ia_H} {Q : ia_O → ia_Z → ia_H → Prop} {σ : Nat → Int} {δ : Nat → Int} {m : Int} (e : Int) (hZ : ZI Z) (hP : PI V) (hS : Sh 1 V σ) (hI : SI σ m) (h86 : V 86 = δ) (re : -2147483648 ≤ e ∧ e ≤ 2147483647) (q1 : ∀ (V1 : ia_H), (0 ≤ e ∧ e < σ 0) → PI V1 → (∀ pp, pp ∉ ([86] : List Nat) → V1 pp = V pp) → Q (.inl (some (0, (shs σ (σ 2).toNat e.toNat)))) Z V1) (q2 : (¬ (0 ≤ e ∧ e < σ 0)) → Q (.inr "java/lang/IndexOutOfBoundsException") Z V) : ia_K yX7_shareOf cX7_shareOf 2 (some .int) [(4, ((0 : Nat) : Int)), (0, e)] Z V 8 1 6 Q := by
  refine ia_start RX7 "shareOf" ⟨by decide, rfl, rfl⟩ (Nat.le_of_ble_eq_true rfl) (ia_tg rfl) (fun X F M => ?_)
  show ia_G X 0 0 0 [(4, ((0 : Nat) : Int)), (0, e)] [] Z V
  obtain ⟨s0, s1, s2, s3, s4, s5, s6, s7, s18, sb, sw, se, sp⟩ := id hI
  refine ia_aload_n (pc := 0) F dX7_shareOf_0 rfl ?_
  refine jg (pc := 1) F (z0 hZ) cls10 f10_0 (hP 0 0 1 rfl) il_RX7_12 dX7_shareOf_1 ?_
  refine ia_iload_n (pc := 4) F dX7_shareOf_4 rfl ?_
  refine jV (pc := 5) F 0 0 (z1 hZ) cls9.1 (c_X6_hasEdition e hZ hP hS hI (by omega) (fun h_1 => ?_) (fun h_2 => ?_)) rfl ⟨k_X6_hasEdition, il_RX7_135, im_X6_hasEdition, is_X6_hasEdition, ii_RX6⟩ 1 rfl hd_X6_hasEdition ⟨by decide, by decide, by decide, by decide, Nat.le_of_ble_eq_true rfl⟩ dX7_shareOf_5
  · refine j1 ?_
    refine jS (pc := 8) F 0 0 (c_X7_requireIndex_1  ?_) rfl ⟨k_X7_requireIndex, il_RX7_138, it_X7_requireIndex, ii_RX7⟩ rfl 1 rfl hd_X7_requireIndex ⟨by decide, by decide, by decide, by decide, Nat.le_of_ble_eq_true rfl⟩ dX7_shareOf_8
    refine j0 ?_
    refine ia_aload_n (pc := 11) F dX7_shareOf_11 rfl ?_
    refine jg (pc := 12) F (z0 hZ) cls10 f10_4 (hP 0 4 85 rfl) il_RX7_36 dX7_shareOf_12 ?_
    refine ia_aload_n (pc := 15) F dX7_shareOf_15 rfl ?_
    refine jg (pc := 16) F (z0 hZ) cls10 f10_0 (hP 0 0 1 rfl) il_RX7_12 dX7_shareOf_16 ?_
    refine jV (pc := 19) F 0 0 (z85 hZ) cls8.1 (c_X5_dealSheetBySheet hZ hP hS hI h86 (fun V_3 p_4 w_5 f_6 => ?_)) rfl ⟨k_X5_dealSheetBySheet, il_RX7_180, im_X5_dealSheetBySheet, is_X5_dealSheetBySheet, ii_RX5⟩ 1 rfl hd_X5_dealSheetBySheet ⟨by decide, by decide, by decide, by decide, Nat.le_of_ble_eq_true rfl⟩ dX7_shareOf_19
    refine j0 ?_
    refine ia_aload_n (pc := 22) F dX7_shareOf_22 rfl ?_
    refine jg (pc := 23) F (z0 hZ) cls10 f10_4 (p_4 0 4 85 rfl) il_RX7_36 dX7_shareOf_23 ?_
    refine jg (pc := 26) F (z85 hZ) cls8 f8_0 (p_4 85 0 86 rfl) il_RX7_183 dX7_shareOf_26 ?_
    refine ia_iload_n (pc := 29) F dX7_shareOf_29 rfl ?_
    refine ja (pc := 30) F (v := mgk 7 (shs σ (σ 2).toNat) δ e.toNat) (z86 hZ) e.toNat (by omega) (by omega) (congrFun w_5 e.toNat) dX7_shareOf_30 ?_
    refine ia_ireturn (pc := 31) F M (by decide) (by decide) dX7_shareOf_31 ?_
    rw [mgk_lt (by omega)]
    exact q1 _ (by omega) p_4 (Fr_c (Fr_0 (V := V) (S := [86])) f_6 (by decide))
  · refine j1 ?_
    refine jS (pc := 8) F 1 6 (c_X7_requireIndex_0  ?_) rfl ⟨k_X7_requireIndex, il_RX7_138, it_X7_requireIndex, ii_RX7⟩ rfl 1 rfl hd_X7_requireIndex ⟨by decide, by decide, by decide, by decide, Nat.le_of_ble_eq_true rfl⟩ dX7_shareOf_8
    refine jx ?_
    refine ia_out F M (by decide) (by decide) ?_
    exact q2 (by omega)
set_option maxRecDepth 100000 in
theorem c_X7_shareByLevel {Z : ia_Z} {V : ia_H} {Q : ia_O → ia_Z → ia_H → Prop} {σ : Nat → Int} {δ : Nat → Int} {m : Int} (e : Int) (hZ : ZI Z) (hP : PI V) (hS : Sh 1 V σ) (hI : SI σ m) (h86 : V 86 = δ) (re : -2147483648 ≤ e ∧ e ≤ 2147483647) (q1 : ∀ (L : Int) (V1 : ia_H), (0 ≤ e ∧ e < σ 0) → (0 ≤ L ∧ L ≤ 50) → (L = 0 ∨ slv σ L (σ 0).toNat ≤ σ 2) → (∀ M : Int, L < M → M ≤ 50 → σ 2 < slv σ M (σ 0).toNat) → PI V1 → (∀ pp, pp ∉ ([86] : List Nat) → V1 pp = V pp) → Q (.inl (some (0, (lvv σ L (σ 2 - slv σ L (σ 0).toNat) e.toNat)))) Z V1) (q2 : (¬ (0 ≤ e ∧ e < σ 0)) → Q (.inr "java/lang/IndexOutOfBoundsException") Z V) : ia_K yX7_shareByLevel cX7_shareByLevel 2 (some .int) [(4, ((0 : Nat) : Int)), (0, e)] Z V 8 1 6 Q := by
  refine ia_start RX7 "shareByLevel" ⟨by decide, rfl, rfl⟩ (Nat.le_of_ble_eq_true rfl) (ia_tg rfl) (fun X F M => ?_)
  show ia_G X 0 0 0 [(4, ((0 : Nat) : Int)), (0, e)] [] Z V
  obtain ⟨s0, s1, s2, s3, s4, s5, s6, s7, s18, sb, sw, se, sp⟩ := id hI
  refine ia_aload_n (pc := 0) F dX7_shareByLevel_0 rfl ?_
  refine jg (pc := 1) F (z0 hZ) cls10 f10_0 (hP 0 0 1 rfl) il_RX7_12 dX7_shareByLevel_1 ?_
  refine ia_iload_n (pc := 4) F dX7_shareByLevel_4 rfl ?_
  refine jV (pc := 5) F 0 0 (z1 hZ) cls9.1 (c_X6_hasEdition e hZ hP hS hI (by omega) (fun h_1 => ?_) (fun h_2 => ?_)) rfl ⟨k_X6_hasEdition, il_RX7_135, im_X6_hasEdition, is_X6_hasEdition, ii_RX6⟩ 1 rfl hd_X6_hasEdition ⟨by decide, by decide, by decide, by decide, Nat.le_of_ble_eq_true rfl⟩ dX7_shareByLevel_5
  · refine j1 ?_
    refine jS (pc := 8) F 0 0 (c_X7_requireIndex_1  ?_) rfl ⟨k_X7_requireIndex, il_RX7_138, it_X7_requireIndex, ii_RX7⟩ rfl 1 rfl hd_X7_requireIndex ⟨by decide, by decide, by decide, by decide, Nat.le_of_ble_eq_true rfl⟩ dX7_shareByLevel_8
    refine j0 ?_
    refine ia_aload_n (pc := 11) F dX7_shareByLevel_11 rfl ?_
    refine jg (pc := 12) F (z0 hZ) cls10 f10_4 (hP 0 4 85 rfl) il_RX7_36 dX7_shareByLevel_12 ?_
    refine ia_aload_n (pc := 15) F dX7_shareByLevel_15 rfl ?_
    refine jg (pc := 16) F (z0 hZ) cls10 f10_0 (hP 0 0 1 rfl) il_RX7_12 dX7_shareByLevel_16 ?_
    refine jV (pc := 19) F 0 0 (z85 hZ) cls8.1 (c_X5_dealByLevel hZ hP hS hI h86 (fun L_3 V_4 h_5 h_6 h_7 p_8 w_9 f_10 => ?_)) rfl ⟨k_X5_dealByLevel, il_RX7_186, im_X5_dealByLevel, is_X5_dealByLevel, ii_RX5⟩ 1 rfl hd_X5_dealByLevel ⟨by decide, by decide, by decide, by decide, Nat.le_of_ble_eq_true rfl⟩ dX7_shareByLevel_19
    refine j0 ?_
    refine ia_aload_n (pc := 22) F dX7_shareByLevel_22 rfl ?_
    refine jg (pc := 23) F (z0 hZ) cls10 f10_4 (p_8 0 4 85 rfl) il_RX7_36 dX7_shareByLevel_23 ?_
    refine jg (pc := 26) F (z85 hZ) cls8 f8_0 (p_8 85 0 86 rfl) il_RX7_183 dX7_shareByLevel_26 ?_
    refine ia_iload_n (pc := 29) F dX7_shareByLevel_29 rfl ?_
    refine ja (pc := 30) F (v := mgk (σ 0).toNat (lvv σ L_3 (σ 2 - slv σ L_3 (σ 0).toNat)) δ e.toNat) (z86 hZ) e.toNat (by omega) (by omega) (congrFun w_9 e.toNat) dX7_shareByLevel_30 ?_
    refine ia_ireturn (pc := 31) F M (by decide) (by decide) dX7_shareByLevel_31 ?_
    rw [mgk_lt (by omega)]
    exact q1 _ _ (by omega) (by omega) (by assumption) (by assumption) p_8 (Fr_c (Fr_0 (V := V) (S := [86])) f_10 (by decide))
  · refine j1 ?_
    refine jS (pc := 8) F 1 6 (c_X7_requireIndex_0  ?_) rfl ⟨k_X7_requireIndex, il_RX7_138, it_X7_requireIndex, ii_RX7⟩ rfl 1 rfl hd_X7_requireIndex ⟨by decide, by decide, by decide, by decide, Nat.le_of_ble_eq_true rfl⟩ dX7_shareByLevel_8
    refine jx ?_
    refine ia_out F M (by decide) (by decide) ?_
    exact q2 (by omega)
set_option maxRecDepth 100000 in
theorem c_X7_editionByMissing {Z : ia_Z} {V : ia_H} {Q : ia_O → ia_Z → ia_H → Prop} {σ : Nat → Int} {m : Int} (e : Int) (hZ : ZI Z) (hP : PI V) (hS : Sh 1 V σ) (hI : SI σ m)  (re : -2147483648 ≤ e ∧ e ≤ 2147483647) (q1 : ∀ (j : Nat), (0 ≤ e ∧ e < σ 0) → ((j : Int) < σ 0) → (∀ i, i < j → ¬ ahd σ i (σ 0).toNat = e) → (ahd σ j (σ 0).toNat = e) → Q (.inl (some (0, (j : Int)))) Z V) (q2 : (0 ≤ e ∧ e < σ 0) → (∀ i : Nat, (i : Int) < σ 0 → ¬ ahd σ i (σ 0).toNat = e) → Q (.inl (some (0, (-1)))) Z V) (q3 : (¬ (0 ≤ e ∧ e < σ 0)) → Q (.inr "java/util/NoSuchElementException") Z V) : ia_K yX7_editionByMissing cX7_editionByMissing 2 (some .int) [(4, ((0 : Nat) : Int)), (0, e)] Z V 8 1 6 Q := by
  refine ia_start RX7 "editionByMissing" ⟨by decide, rfl, rfl⟩ (Nat.le_of_ble_eq_true rfl) (ia_tg rfl) (fun X F M => ?_)
  show ia_G X 0 0 0 [(4, ((0 : Nat) : Int)), (0, e)] [] Z V
  obtain ⟨s0, s1, s2, s3, s4, s5, s6, s7, s18, sb, sw, se, sp⟩ := id hI
  refine ia_aload_n (pc := 0) F dX7_editionByMissing_0 rfl ?_
  refine jg (pc := 1) F (z0 hZ) cls10 f10_0 (hP 0 0 1 rfl) il_RX7_12 dX7_editionByMissing_1 ?_
  refine ia_iload_n (pc := 4) F dX7_editionByMissing_4 rfl ?_
  refine jV (pc := 5) F 0 0 (z1 hZ) cls9.1 (c_X6_hasEdition e hZ hP hS hI (by omega) (fun h_1 => ?_) (fun h_2 => ?_)) rfl ⟨k_X6_hasEdition, il_RX7_135, im_X6_hasEdition, is_X6_hasEdition, ii_RX6⟩ 1 rfl hd_X6_hasEdition ⟨by decide, by decide, by decide, by decide, Nat.le_of_ble_eq_true rfl⟩ dX7_editionByMissing_5
  · refine j1 ?_
    refine jS (pc := 8) F 0 0 (c_X7_requireElement_1  ?_) rfl ⟨k_X7_requireElement, il_RX7_174, it_X7_requireElement, ii_RX7⟩ rfl 1 rfl hd_X7_requireElement ⟨by decide, by decide, by decide, by decide, Nat.le_of_ble_eq_true rfl⟩ dX7_editionByMissing_8
    refine j0 ?_
    refine ia_aload_n (pc := 11) F dX7_editionByMissing_11 rfl ?_
    refine jg (pc := 12) F (z0 hZ) cls10 f10_0 (hP 0 0 1 rfl) il_RX7_12 dX7_editionByMissing_12 ?_
    refine ia_iload_n (pc := 15) F dX7_editionByMissing_15 rfl ?_
    refine jV (pc := 16) F 0 0 (z1 hZ) cls9.1 (c_X6_editionOfRank e hZ hP hS hI (by omega) (fun j_3 h_4 h_5 h_6 => ?_) (fun h_7 => ?_)) rfl ⟨k_X6_editionOfRank, il_RX7_189, im_X6_editionOfRank, is_X6_editionOfRank, ii_RX6⟩ 1 rfl hd_X6_editionOfRank ⟨by decide, by decide, by decide, by decide, Nat.le_of_ble_eq_true rfl⟩ dX7_editionByMissing_16
    · refine j1 ?_
      refine ia_ireturn (pc := 19) F M (by decide) (by decide) dX7_editionByMissing_19 ?_
      exact q1 _ (by omega) (by omega) (by assumption) (by assumption)
    · refine j1 ?_
      refine ia_ireturn (pc := 19) F M (by decide) (by decide) dX7_editionByMissing_19 ?_
      exact q2 (by omega) (by assumption)
  · refine j1 ?_
    refine jS (pc := 8) F 1 6 (c_X7_requireElement_0  ?_) rfl ⟨k_X7_requireElement, il_RX7_174, it_X7_requireElement, ii_RX7⟩ rfl 1 rfl hd_X7_requireElement ⟨by decide, by decide, by decide, by decide, Nat.le_of_ble_eq_true rfl⟩ dX7_editionByMissing_8
    refine jx ?_
    refine ia_out F M (by decide) (by decide) ?_
    exact q3 (by omega)
set_option maxRecDepth 100000 in
theorem c_X7_longestRise {Z : ia_Z} {V : ia_H} {Q : ia_O → ia_Z → ia_H → Prop} {σ : Nat → Int} {ξ1 : Nat → Int} {ξ2 : Nat → Int} {m : Int} (hZ : ZI Z) (hP : PI V) (hS : Sh 1 V σ) (hI : SI σ m) (h88 : V 88 = ξ1) (h89 : V 89 = ξ2)  (q1 : ∀ (V1 : ia_H), PI V1 → (∀ pp, pp ∉ ([88, 89] : List Nat) → V1 pp = V pp) → Q (.inl (some (0, (rmx σ (σ 1).toNat)))) Z V1) : ia_K yX7_longestRise cX7_longestRise 1 (some .int) [(4, ((0 : Nat) : Int))] Z V 8 0 0 Q := by
  refine ia_start RX7 "longestRise" ⟨by decide, rfl, rfl⟩ (Nat.le_of_ble_eq_true rfl) (ia_tg rfl) (fun X F M => ?_)
  show ia_G X 0 0 0 [(4, ((0 : Nat) : Int))] [] Z V
  obtain ⟨s0, s1, s2, s3, s4, s5, s6, s7, s18, sb, sw, se, sp⟩ := id hI
  refine ia_aload_n (pc := 0) F dX7_longestRise_0 rfl ?_
  refine jg (pc := 1) F (z0 hZ) cls10 f10_5 (hP 0 5 87 rfl) il_RX7_43 dX7_longestRise_1 ?_
  refine ia_aload_n (pc := 4) F dX7_longestRise_4 rfl ?_
  refine jg (pc := 5) F (z0 hZ) cls10 f10_0 (hP 0 0 1 rfl) il_RX7_12 dX7_longestRise_5 ?_
  refine jV (pc := 8) F 0 0 (z87 hZ) cls7.1 (c_X4_longest hZ hP hS hI h88 h89 (fun V_1 p_2 w_3 w_4 f_5 => ?_)) rfl ⟨k_X4_longest, il_RX7_210, im_X4_longest, is_X4_longest, ii_RX4⟩ 1 rfl hd_X4_longest ⟨by decide, by decide, by decide, by decide, Nat.le_of_ble_eq_true rfl⟩ dX7_longestRise_8
  refine j1 ?_
  refine ia_ireturn (pc := 11) F M (by decide) (by decide) dX7_longestRise_11 ?_
  exact q1 _ p_2 (Fr_c (Fr_0 (V := V) (S := [88, 89])) f_5 (by decide))
set_option maxRecDepth 100000 in
theorem c_X7_riseCount {Z : ia_Z} {V : ia_H} {Q : ia_O → ia_Z → ia_H → Prop} {σ : Nat → Int} {ξ1 : Nat → Int} {ξ2 : Nat → Int} {m : Int} (hZ : ZI Z) (hP : PI V) (hS : Sh 1 V σ) (hI : SI σ m) (h88 : V 88 = ξ1) (h89 : V 89 = ξ2)  (q1 : ∀ (V1 : ia_H), PI V1 → (∀ pp, pp ∉ ([88, 89] : List Nat) → V1 pp = V pp) → Q (.inl (some (0, (rct σ (σ 1).toNat)))) Z V1) : ia_K yX7_riseCount cX7_riseCount 1 (some .int) [(4, ((0 : Nat) : Int))] Z V 8 0 0 Q := by
  refine ia_start RX7 "riseCount" ⟨by decide, rfl, rfl⟩ (Nat.le_of_ble_eq_true rfl) (ia_tg rfl) (fun X F M => ?_)
  show ia_G X 0 0 0 [(4, ((0 : Nat) : Int))] [] Z V
  obtain ⟨s0, s1, s2, s3, s4, s5, s6, s7, s18, sb, sw, se, sp⟩ := id hI
  refine ia_aload_n (pc := 0) F dX7_riseCount_0 rfl ?_
  refine jg (pc := 1) F (z0 hZ) cls10 f10_5 (hP 0 5 87 rfl) il_RX7_43 dX7_riseCount_1 ?_
  refine ia_aload_n (pc := 4) F dX7_riseCount_4 rfl ?_
  refine jg (pc := 5) F (z0 hZ) cls10 f10_0 (hP 0 0 1 rfl) il_RX7_12 dX7_riseCount_5 ?_
  refine jV (pc := 8) F 0 0 (z87 hZ) cls7.1 (c_X4_countLongest hZ hP hS hI h88 h89 (fun V_1 p_2 w_3 w_4 f_5 => ?_)) rfl ⟨k_X4_countLongest, il_RX7_216, im_X4_countLongest, is_X4_countLongest, ii_RX4⟩ 1 rfl hd_X4_countLongest ⟨by decide, by decide, by decide, by decide, Nat.le_of_ble_eq_true rfl⟩ dX7_riseCount_8
  refine j1 ?_
  refine ia_ireturn (pc := 11) F M (by decide) (by decide) dX7_riseCount_11 ?_
  exact q1 _ p_2 (Fr_c (Fr_0 (V := V) (S := [88, 89])) f_5 (by decide))
set_option maxRecDepth 100000 in
theorem c_X7_riseByEnds {Z : ia_Z} {V : ia_H} {Q : ia_O → ia_Z → ia_H → Prop} {σ : Nat → Int} {ξ3 : Nat → Int} {m : Int} (hZ : ZI Z) (hP : PI V) (hS : Sh 1 V σ) (hI : SI σ m) (h90 : V 90 = ξ3)  (q1 : ∀ (V1 : ia_H), PI V1 → (∀ pp, pp ∉ ([90] : List Nat) → V1 pp = V pp) → Q (.inl (some (0, (rmx σ (σ 1).toNat)))) Z V1) : ia_K yX7_riseByEnds cX7_riseByEnds 1 (some .int) [(4, ((0 : Nat) : Int))] Z V 8 0 0 Q := by
  refine ia_start RX7 "riseByEnds" ⟨by decide, rfl, rfl⟩ (Nat.le_of_ble_eq_true rfl) (ia_tg rfl) (fun X F M => ?_)
  show ia_G X 0 0 0 [(4, ((0 : Nat) : Int))] [] Z V
  obtain ⟨s0, s1, s2, s3, s4, s5, s6, s7, s18, sb, sw, se, sp⟩ := id hI
  refine ia_aload_n (pc := 0) F dX7_riseByEnds_0 rfl ?_
  refine jg (pc := 1) F (z0 hZ) cls10 f10_5 (hP 0 5 87 rfl) il_RX7_43 dX7_riseByEnds_1 ?_
  refine ia_aload_n (pc := 4) F dX7_riseByEnds_4 rfl ?_
  refine jg (pc := 5) F (z0 hZ) cls10 f10_0 (hP 0 0 1 rfl) il_RX7_12 dX7_riseByEnds_5 ?_
  refine jV (pc := 8) F 0 0 (z87 hZ) cls7.1 (c_X4_longestByEnds hZ hP hS hI h90 (fun V_1 p_2 f_3 => ?_)) rfl ⟨k_X4_longestByEnds, il_RX7_213, im_X4_longestByEnds, is_X4_longestByEnds, ii_RX4⟩ 1 rfl hd_X4_longestByEnds ⟨by decide, by decide, by decide, by decide, Nat.le_of_ble_eq_true rfl⟩ dX7_riseByEnds_8
  refine j1 ?_
  refine ia_ireturn (pc := 11) F M (by decide) (by decide) dX7_riseByEnds_11 ?_
  exact q1 _ p_2 (Fr_c (Fr_0 (V := V) (S := [90])) f_3 (by decide))
set_option maxRecDepth 100000 in
theorem c_X7_inkInWells {Z : ia_Z} {V : ia_H} {Q : ia_O → ia_Z → ia_H → Prop} {σ : Nat → Int} {m : Int} (hZ : ZI Z) (hP : PI V) (hS : Sh 1 V σ) (hI : SI σ m)   (q1 : Q (.inl (some (0, (psum (wel σ) 10)))) Z V) : ia_K yX7_inkInWells cX7_inkInWells 1 (some .int) [(4, ((0 : Nat) : Int))] Z V 8 0 0 Q := by
  refine ia_start RX7 "inkInWells" ⟨by decide, rfl, rfl⟩ (Nat.le_of_ble_eq_true rfl) (ia_tg rfl) (fun X F M => ?_)
  show ia_G X 0 0 0 [(4, ((0 : Nat) : Int))] [] Z V
  obtain ⟨s0, s1, s2, s3, s4, s5, s6, s7, s18, sb, sw, se, sp⟩ := id hI
  refine ia_aload_n (pc := 0) F dX7_inkInWells_0 rfl ?_
  refine jg (pc := 1) F (z0 hZ) cls10 f10_0 (hP 0 0 1 rfl) il_RX7_12 dX7_inkInWells_1 ?_
  refine jg (pc := 4) F (z1 hZ) cls9 f9_0 (hP 1 0 2 rfl) il_RX7_96 dX7_inkInWells_4 ?_
  refine ia_bipush (pc := 7) F dX7_inkInWells_7 (by decide) ?_
  refine jS (pc := 9) F 0 0 (c_X7_sumOf 2 10 10 hZ hP (rfl : V 2 = V 2) (z2 hZ) (by omega) ?_) rfl ⟨k_X7_sumOf, il_RX7_230, it_X7_sumOf, ii_RX7⟩ rfl 2 rfl hd_X7_sumOf ⟨by decide, by decide, by decide, by decide, Nat.le_of_ble_eq_true rfl⟩ dX7_inkInWells_9
  refine j1 ?_
  refine ia_ireturn (pc := 12) F M (by decide) (by decide) dX7_inkInWells_12 ?_
  rw [psum_ext (f := V 2) (g := wel σ) (fun c hc => hS.wel c hc)]
  exact q1
