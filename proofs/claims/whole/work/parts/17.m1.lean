/-! the model, its small methods (made by wip/whole/m1.py) -/
set_option maxRecDepth 100000 in
theorem c_X8_thrown {Z : ia_Z} {V : ia_H} {Q : ia_O → ia_Z → ia_H → Prop} (hZ : ZI Z) (hP : PI V)   (q1 : Q (.inl (some (0, V 99 9))) Z V) : ia_K yX8_thrown cX8_thrown 1 (some .int) [(4, ((99 : Nat) : Int))] Z V 1 0 0 Q := by
  refine ia_start RX8 "thrown" ⟨by decide, rfl, rfl⟩ (Nat.le_of_ble_eq_true rfl) (ia_tg rfl) (fun X F M => ?_)
  show ia_G X 0 0 0 [(4, ((99 : Nat) : Int))] [] Z V
  refine ia_aload_n (pc := 0) F dX8_thrown_0 rfl ?_
  refine jg (pc := 1) F (x := V 99 9) (z99 hZ) cls11 f11_9 rfl il_RX8_37 dX8_thrown_1 ?_
  refine ia_ireturn (pc := 4) F M (by decide) (by decide) dX8_thrown_4 ?_
  exact q1 
set_option maxRecDepth 100000 in
theorem c_X8_in {Z : ia_Z} {V : ia_H} {Q : ia_O → ia_Z → ia_H → Prop}  (v : Int) (lo : Int) (hi : Int) (rv : -2147483648 ≤ v ∧ v ≤ 2147483647) (rlo : -2147483648 ≤ lo ∧ lo ≤ 2147483647) (rhi : -2147483648 ≤ hi ∧ hi ≤ 2147483647) (q1 : (lo ≤ v ∧ v ≤ hi) → Q (.inl (some (0, 1))) Z V) (q2 : (¬ (lo ≤ v ∧ v ≤ hi)) → Q (.inl (some (0, 0))) Z V) : ia_K yX8_in cX8_in 3 (some .boolean) [(0, v), (0, lo), (0, hi)] Z V 1 0 0 Q := by
  refine ia_start RX8 "in" ⟨by decide, rfl, rfl⟩ (Nat.le_of_ble_eq_true rfl) (ia_tg rfl) (fun X F M => ?_)
  show ia_G X 0 0 0 [(0, v), (0, lo), (0, hi)] [] Z V
  refine ia_iload_n (pc := 0) F dX8_in_0 rfl ?_
  refine ia_iload_n (pc := 1) F dX8_in_1 rfl ?_
  refine ia_icmp_lt (pc := 2) F 14 dX8_in_2 rfl (by omega) (by omega) (fun h_1 => ?_) (fun h_1 => ?_)
  · refine ia_iconst (pc := 14) F dX8_in_14 ?_
    refine ia_zreturn (pc := 15) F M (Or.inl rfl) (by decide) (by decide) dX8_in_15 ?_
    exact q2 (by omega)
  · refine ia_iload_n (pc := 5) F dX8_in_5 rfl ?_
    refine ia_iload_n (pc := 6) F dX8_in_6 rfl ?_
    refine ia_icmp_gt (pc := 7) F 14 dX8_in_7 rfl (by omega) (by omega) (fun h_2 => ?_) (fun h_2 => ?_)
    · refine ia_iconst (pc := 14) F dX8_in_14 ?_
      refine ia_zreturn (pc := 15) F M (Or.inl rfl) (by decide) (by decide) dX8_in_15 ?_
      exact q2 (by omega)
    · refine ia_iconst (pc := 10) F dX8_in_10 ?_
      refine ia_goto (pc := 11) F 15 dX8_in_11 rfl ?_
      refine ia_zreturn (pc := 15) F M (Or.inr rfl) (by decide) (by decide) dX8_in_15 ?_
      exact q1 (by omega)
set_option maxRecDepth 100000 in
theorem c_X8_less {Z : ia_Z} {V : ia_H} {Q : ia_O → ia_Z → ia_H → Prop}  (a : Int) (b : Int) (ra : -2147483648 ≤ a ∧ a ≤ 2147483647) (rb : -2147483648 ≤ b ∧ b ≤ 2147483647) (q1 : (a < b) → Q (.inl (some (0, a))) Z V) (q2 : (¬ a < b) → Q (.inl (some (0, b))) Z V) : ia_K yX8_less cX8_less 2 (some .int) [(0, a), (0, b)] Z V 1 0 0 Q := by
  refine ia_start RX8 "less" ⟨by decide, rfl, rfl⟩ (Nat.le_of_ble_eq_true rfl) (ia_tg rfl) (fun X F M => ?_)
  show ia_G X 0 0 0 [(0, a), (0, b)] [] Z V
  refine ia_iload_n (pc := 0) F dX8_less_0 rfl ?_
  refine ia_iload_n (pc := 1) F dX8_less_1 rfl ?_
  refine ia_icmp_ge (pc := 2) F 9 dX8_less_2 rfl (by omega) (by omega) (fun h_1 => ?_) (fun h_1 => ?_)
  · refine ia_iload_n (pc := 9) F dX8_less_9 rfl ?_
    refine ia_ireturn (pc := 10) F M (by decide) (by decide) dX8_less_10 ?_
    first | exact q1 (by omega) | exact q2 (by omega)
  · refine ia_iload_n (pc := 5) F dX8_less_5 rfl ?_
    refine ia_goto (pc := 6) F 10 dX8_less_6 rfl ?_
    refine ia_ireturn (pc := 10) F M (by decide) (by decide) dX8_less_10 ?_
    first | exact q1 (by omega) | exact q2 (by omega)
set_option maxRecDepth 100000 in
theorem c_X8_fail {Z : ia_Z} {V : ia_H} {Q : ia_O → ia_Z → ia_H → Prop} (hZ : ZI Z) (hP : PI V) (a : Int)  (q1 : ∀ (V1 : ia_H), PI V1 → (V1 99 = (up (V 99) 9 a)) → (∀ p, p ∉ ([99] : List Nat) → V1 p = V p) → Q (.inl (some (0, 0))) Z V1) : ia_K yX8_fail cX8_fail 2 (some .int) [(4, ((99 : Nat) : Int)), (0, a)] Z V 1 0 0 Q := by
  refine ia_start RX8 "fail" ⟨by decide, rfl, rfl⟩ (Nat.le_of_ble_eq_true rfl) (ia_tg rfl) (fun X F M => ?_)
  show ia_G X 0 0 0 [(4, ((99 : Nat) : Int)), (0, a)] [] Z V
  refine ia_aload_n (pc := 0) F dX8_fail_0 rfl ?_
  refine ia_iload_n (pc := 1) F dX8_fail_1 rfl ?_
  refine jp (pc := 2) F (z99 hZ) cls11 f11_9 rfl (ia_nI rfl _) il_RX8_37 dX8_fail_2 ?_
  refine ia_iconst (pc := 5) F dX8_fail_5 ?_
  refine ia_ireturn (pc := 6) F M (by decide) (by decide) dX8_fail_6 ?_
  exact q1 _ (PI_u hP rfl) (rowU (rfl : V 99 = V 99)) (Fr_u (Fr_0 (S := [99])) (by decide))
set_option maxRecDepth 100000 in
theorem c_X8_plain {Z : ia_Z} {V : ia_H} {Q : ia_O → ia_Z → ia_H → Prop} (hZ : ZI Z) (hP : PI V) (a : Int)  (q1 : ∀ (V1 : ia_H), PI V1 → (V1 99 = (up (V 99) 9 0)) → (∀ p, p ∉ ([99] : List Nat) → V1 p = V p) → Q (.inl (some (0, a))) Z V1) : ia_K yX8_plain cX8_plain 2 (some .int) [(4, ((99 : Nat) : Int)), (0, a)] Z V 1 0 0 Q := by
  refine ia_start RX8 "plain" ⟨by decide, rfl, rfl⟩ (Nat.le_of_ble_eq_true rfl) (ia_tg rfl) (fun X F M => ?_)
  show ia_G X 0 0 0 [(4, ((99 : Nat) : Int)), (0, a)] [] Z V
  refine ia_aload_n (pc := 0) F dX8_plain_0 rfl ?_
  refine ia_iconst (pc := 1) F dX8_plain_1 ?_
  refine jp (pc := 2) F (z99 hZ) cls11 f11_9 rfl (ia_nI rfl _) il_RX8_37 dX8_plain_2 ?_
  refine ia_iload_n (pc := 5) F dX8_plain_5 rfl ?_
  refine ia_ireturn (pc := 6) F M (by decide) (by decide) dX8_plain_6 ?_
  exact q1 _ (PI_u hP rfl) (rowU (rfl : V 99 = V 99)) (Fr_u (Fr_0 (S := [99])) (by decide))
set_option maxRecDepth 100000 in
theorem c_X8_checked1 {Z : ia_Z} {V : ia_H} {Q : ia_O → ia_Z → ia_H → Prop} (hZ : ZI Z) (hP : PI V)   (q1 : ∀ (V1 : ia_H), PI V1 → (V1 99 = (up (V 99) 9 0)) → (∀ p, p ∉ ([99] : List Nat) → V1 p = V p) → Q (.inl (some (0, 0))) Z V1) : ia_K yX8_checked cX8_checked 2 (some .int) [(4, ((99 : Nat) : Int)), (0, 1)] Z V 1 0 0 Q := by
  refine ia_start RX8 "checked" ⟨by decide, rfl, rfl⟩ (Nat.le_of_ble_eq_true rfl) (ia_tg rfl) (fun X F M => ?_)
  show ia_G X 0 0 0 [(4, ((99 : Nat) : Int)), (0, 1)] [] Z V
  refine ia_aload_n (pc := 0) F dX8_checked_0 rfl ?_
  refine ia_iload_n (pc := 1) F dX8_checked_1 rfl ?_
  refine ia_if_eq (pc := 2) F 9 dX8_checked_2 rfl (by omega) (fun h9 => absurd h9 (by omega)) (fun _ => ?_)
  refine ia_iconst (pc := 5) F dX8_checked_5 ?_
  refine ia_goto (pc := 6) F 10 dX8_checked_6 rfl ?_
  refine jp (pc := 10) F (z99 hZ) cls11 f11_9 rfl (ia_nI rfl _) il_RX8_37 dX8_checked_10 ?_
  refine ia_aload_n (pc := 13) F dX8_checked_13 rfl ?_
  refine jg (pc := 14) F (x := 0) (z99 hZ) cls11 f11_9 ((congrFun (rowU (rfl : V 99 = V 99)) 9).trans (up_self _ _ _)) il_RX8_37 dX8_checked_14 ?_
  refine ia_ireturn (pc := 17) F M (by decide) (by decide) dX8_checked_17 ?_
  exact q1 _ (PI_u hP rfl) (rowU (rfl : V 99 = V 99)) (Fr_u (Fr_0 (S := [99])) (by decide))
set_option maxRecDepth 100000 in
theorem c_X8_checked0 {Z : ia_Z} {V : ia_H} {Q : ia_O → ia_Z → ia_H → Prop} (hZ : ZI Z) (hP : PI V)   (q1 : ∀ (V1 : ia_H), PI V1 → (V1 99 = (up (V 99) 9 1)) → (∀ p, p ∉ ([99] : List Nat) → V1 p = V p) → Q (.inl (some (0, 1))) Z V1) : ia_K yX8_checked cX8_checked 2 (some .int) [(4, ((99 : Nat) : Int)), (0, 0)] Z V 1 0 0 Q := by
  refine ia_start RX8 "checked" ⟨by decide, rfl, rfl⟩ (Nat.le_of_ble_eq_true rfl) (ia_tg rfl) (fun X F M => ?_)
  show ia_G X 0 0 0 [(4, ((99 : Nat) : Int)), (0, 0)] [] Z V
  refine ia_aload_n (pc := 0) F dX8_checked_0 rfl ?_
  refine ia_iload_n (pc := 1) F dX8_checked_1 rfl ?_
  refine ia_if_eq (pc := 2) F 9 dX8_checked_2 rfl (by omega) (fun _ => ?_) (fun h9 => absurd h9 (by omega))
  refine ia_iconst (pc := 9) F dX8_checked_9 ?_
  refine jp (pc := 10) F (z99 hZ) cls11 f11_9 rfl (ia_nI rfl _) il_RX8_37 dX8_checked_10 ?_
  refine ia_aload_n (pc := 13) F dX8_checked_13 rfl ?_
  refine jg (pc := 14) F (x := 1) (z99 hZ) cls11 f11_9 ((congrFun (rowU (rfl : V 99 = V 99)) 9).trans (up_self _ _ _)) il_RX8_37 dX8_checked_14 ?_
  refine ia_ireturn (pc := 17) F M (by decide) (by decide) dX8_checked_17 ?_
  exact q1 _ (PI_u hP rfl) (rowU (rfl : V 99 = V 99)) (Fr_u (Fr_0 (S := [99])) (by decide))
set_option maxRecDepth 100000 in
theorem c_X8_isColour {Z : ia_Z} {V : ia_H} {Q : ia_O → ia_Z → ia_H → Prop}  (c : Int) (rc : -2147483648 ≤ c ∧ c ≤ 2147483647) (q1 : (0 ≤ c ∧ c ≤ 9) → Q (.inl (some (0, 1))) Z V) (q2 : (¬ (0 ≤ c ∧ c ≤ 9)) → Q (.inl (some (0, 0))) Z V) : ia_K yX8_isColour cX8_isColour 1 (some .boolean) [(0, c)] Z V 2 0 0 Q := by
  refine ia_start RX8 "isColour" ⟨by decide, rfl, rfl⟩ (Nat.le_of_ble_eq_true rfl) (ia_tg rfl) (fun X F M => ?_)
  show ia_G X 0 0 0 [(0, c)] [] Z V
  refine ia_iload_n (pc := 0) F dX8_isColour_0 rfl ?_
  refine ia_iconst (pc := 1) F dX8_isColour_1 ?_
  refine ia_bipush (pc := 2) F dX8_isColour_2 (by decide) ?_
  refine jS (pc := 4) F 0 0 (c_X8_in c 0 9 (by omega) (by omega) (by omega) (fun h_1 => ?_) (fun h_2 => ?_)) rfl ⟨k_X8_in, il_RX8_91, it_X8_in, ii_RX8⟩ rfl 3 rfl hd_X8_in ⟨by decide, by decide, by decide, by decide, by decide⟩ dX8_isColour_4
  · refine j1 ?_
    refine ia_zreturn (pc := 7) F M (Or.inr rfl) (by decide) (by decide) dX8_isColour_7 ?_
    exact q1 (by omega)
  · refine j1 ?_
    refine ia_zreturn (pc := 7) F M (Or.inl rfl) (by decide) (by decide) dX8_isColour_7 ?_
    exact q2 (by omega)
set_option maxRecDepth 100000 in
theorem c_X8_cannotPour {Z : ia_Z} {V : ia_H} {Q : ia_O → ia_Z → ia_H → Prop} {σ : Nat → Int} {m : Int} (hZ : ZI Z) (hP : PI V) (hM : V 100 = σ) (hI : SI σ m) (c : Int) (u : Int) (rc : -2147483648 ≤ c ∧ c ≤ 2147483647) (ru : -2147483648 ≤ u ∧ u ≤ 2147483647) (q1 : (¬ ((0 ≤ c ∧ c ≤ 9) ∧ 1 ≤ u ∧ u ≤ 999)) → Q (.inl (some (0, 1))) Z V) (q2 : ((0 ≤ c ∧ c ≤ 9) ∧ 1 ≤ u ∧ u ≤ 999) → (999 < wel σ c.toNat + u) → Q (.inl (some (0, 2))) Z V) (q3 : ((0 ≤ c ∧ c ≤ 9) ∧ 1 ≤ u ∧ u ≤ 999) → (wel σ c.toNat + u ≤ 999) → Q (.inl (some (0, 0))) Z V) : ia_K yX8_cannotPour cX8_cannotPour 3 (some .int) [(4, ((99 : Nat) : Int)), (0, c), (0, u)] Z V 3 0 0 Q := by
  refine ia_start RX8 "cannotPour" ⟨by decide, rfl, rfl⟩ (Nat.le_of_ble_eq_true rfl) (ia_tg rfl) (fun X F M => ?_)
  show ia_G X 0 0 0 [(4, ((99 : Nat) : Int)), (0, c), (0, u)] [] Z V
  obtain ⟨s0, s1, s2, s3, s4, s5, s6, s7, s18, sb, sw, se, sp⟩ := id hI
  refine ia_iload_n (pc := 0) F dX8_cannotPour_0 rfl ?_
  refine jS (pc := 1) F 0 0 (c_X8_isColour c (by omega) (fun h_1 => ?_) (fun h_2 => ?_)) rfl ⟨k_X8_isColour, il_RX8_95, it_X8_isColour, ii_RX8⟩ rfl 1 rfl hd_X8_isColour ⟨by decide, by decide, by decide, by decide, by decide⟩ dX8_cannotPour_1
  · refine j1 ?_
    refine ia_if_eq (pc := 4) F 18 dX8_cannotPour_4 rfl (by omega) (fun h9 => absurd h9 (by omega)) (fun _ => ?_)
    refine ia_iload_n (pc := 7) F dX8_cannotPour_7 rfl ?_
    refine ia_iconst (pc := 8) F dX8_cannotPour_8 ?_
    refine ia_sipush (pc := 9) F dX8_cannotPour_9 (by decide) ?_
    refine jS (pc := 12) F 0 0 (c_X8_in u 1 999 (by omega) (by omega) (by omega) (fun h_3 => ?_) (fun h_4 => ?_)) rfl ⟨k_X8_in, il_RX8_91, it_X8_in, ii_RX8⟩ rfl 3 rfl hd_X8_in ⟨by decide, by decide, by decide, by decide, by decide⟩ dX8_cannotPour_12
    · refine j1 ?_
      refine ia_if_ne (pc := 15) F 20 dX8_cannotPour_15 rfl (by omega) (fun _ => ?_) (fun h9 => absurd h9 (by omega))
      refine ia_aload_n (pc := 20) F dX8_cannotPour_20 rfl ?_
      refine jg (pc := 21) F (z99 hZ) cls11 f11_0 (hP 99 0 100 rfl) il_RX8_7 dX8_cannotPour_21 ?_
      refine ia_bipush (pc := 24) F dX8_cannotPour_24 (by decide) ?_
      refine ia_iload_n (pc := 26) F dX8_cannotPour_26 rfl ?_
      refine ia_iadd (pc := 27) F dX8_cannotPour_27 ?_
      have r_5 := sw c.toNat (by omega)
      refine ja (pc := 28) F (v := wel σ c.toNat) (z100 hZ) (8 + c.toNat) (by omega) (by omega) (congrFun hM (8 + c.toNat)) dX8_cannotPour_28 ?_
      refine ia_iload_n (pc := 29) F dX8_cannotPour_29 rfl ?_
      refine ia_iadd (pc := 30) F dX8_cannotPour_30 ?_
      refine ia_sipush (pc := 31) F dX8_cannotPour_31 (by decide) ?_
      refine ia_icmp_le (pc := 34) F 41 dX8_cannotPour_34 rfl (by omega) (by omega) (fun h_6 => ?_) (fun h_6 => ?_)
      · refine ia_iconst (pc := 41) F dX8_cannotPour_41 ?_
        refine ia_ireturn (pc := 42) F M (by decide) (by decide) dX8_cannotPour_42 ?_
        exact q3 (by omega) (by omega)
      · refine ia_iconst (pc := 37) F dX8_cannotPour_37 ?_
        refine ia_goto (pc := 38) F 42 dX8_cannotPour_38 rfl ?_
        refine ia_ireturn (pc := 42) F M (by decide) (by decide) dX8_cannotPour_42 ?_
        exact q2 (by omega) (by omega)
    · refine j1 ?_
      refine ia_if_ne (pc := 15) F 20 dX8_cannotPour_15 rfl (by omega) (fun h9 => absurd h9 (by omega)) (fun _ => ?_)
      refine ia_iconst (pc := 18) F dX8_cannotPour_18 ?_
      refine ia_ireturn (pc := 19) F M (by decide) (by decide) dX8_cannotPour_19 ?_
      exact q1 (by omega)
  · refine j1 ?_
    refine ia_if_eq (pc := 4) F 18 dX8_cannotPour_4 rfl (by omega) (fun _ => ?_) (fun h9 => absurd h9 (by omega))
    refine ia_iconst (pc := 18) F dX8_cannotPour_18 ?_
    refine ia_ireturn (pc := 19) F M (by decide) (by decide) dX8_cannotPour_19 ?_
    exact q1 (by omega)
set_option maxRecDepth 100000 in
theorem c_X8_pours {Z : ia_Z} {V : ia_H} {Q : ia_O → ia_Z → ia_H → Prop} {σ : Nat → Int} {m : Int} (hZ : ZI Z) (hP : PI V) (hM : V 100 = σ) (hI : SI σ m) (c : Int) (u : Int) (hc : 0 ≤ c ∧ c ≤ 9) (q1 : ∀ (V1 : ia_H), PI V1 → (V1 100 = (up (up σ (8 + c.toNat) (wel σ c.toNat + u)) 6 (σ 6 + u))) → (∀ p, p ∉ ([100] : List Nat) → V1 p = V p) → Q (.inl (some (0, (wel σ c.toNat + u)))) Z V1) : ia_K yX8_pours cX8_pours 3 (some .int) [(4, ((99 : Nat) : Int)), (0, c), (0, u)] Z V 1 0 0 Q := by
  refine ia_start RX8 "pours" ⟨by decide, rfl, rfl⟩ (Nat.le_of_ble_eq_true rfl) (ia_tg rfl) (fun X F M => ?_)
  show ia_G X 0 0 0 [(4, ((99 : Nat) : Int)), (0, c), (0, u)] [] Z V
  obtain ⟨s0, s1, s2, s3, s4, s5, s6, s7, s18, sb, sw, se, sp⟩ := id hI
  refine ia_aload_n (pc := 0) F dX8_pours_0 rfl ?_
  refine jg (pc := 1) F (z99 hZ) cls11 f11_0 (hP 99 0 100 rfl) il_RX8_7 dX8_pours_1 ?_
  refine ia_bipush (pc := 4) F dX8_pours_4 (by decide) ?_
  refine ia_iload_n (pc := 6) F dX8_pours_6 rfl ?_
  refine ia_iadd (pc := 7) F dX8_pours_7 ?_
  refine ia_dup2 (pc := 8) F dX8_pours_8 (Or.inl rfl) (Or.inr (Or.inr rfl)) ?_
  have r_1 := sw c.toNat (by omega)
  refine ja (pc := 9) F (v := wel σ c.toNat) (z100 hZ) (8 + c.toNat) (by omega) (by omega) (congrFun hM (8 + c.toNat)) dX8_pours_9 ?_
  refine ia_iload_n (pc := 10) F dX8_pours_10 rfl ?_
  refine ia_iadd (pc := 11) F dX8_pours_11 ?_
  refine js (pc := 12) F (z100 hZ) (8 + c.toNat) (by omega) (by omega) dX8_pours_12 ?_
  refine ia_aload_n (pc := 13) F dX8_pours_13 rfl ?_
  refine jg (pc := 14) F (z99 hZ) cls11 f11_0 ((PI_u hP rfl) 99 0 100 rfl) il_RX8_7 dX8_pours_14 ?_
  refine ia_bipush (pc := 17) F dX8_pours_17 (by decide) ?_
  refine ia_dup2 (pc := 19) F dX8_pours_19 (Or.inl rfl) (Or.inr (Or.inr rfl)) ?_
  refine ja (pc := 20) F (v := σ 6) (z100 hZ) 6 rfl (by omega) ((congrFun (rowU hM) 6).trans (up_ne (by omega))) dX8_pours_20 ?_
  refine ia_iload_n (pc := 21) F dX8_pours_21 rfl ?_
  refine ia_iadd (pc := 22) F dX8_pours_22 ?_
  refine js (pc := 23) F (z100 hZ) 6 rfl (by omega) dX8_pours_23 ?_
  refine ia_aload_n (pc := 24) F dX8_pours_24 rfl ?_
  refine jg (pc := 25) F (z99 hZ) cls11 f11_0 ((PI_u (PI_u hP rfl) rfl) 99 0 100 rfl) il_RX8_7 dX8_pours_25 ?_
  refine ia_bipush (pc := 28) F dX8_pours_28 (by decide) ?_
  refine ia_iload_n (pc := 30) F dX8_pours_30 rfl ?_
  refine ia_iadd (pc := 31) F dX8_pours_31 ?_
  refine ja (pc := 32) F (v := (wel σ c.toNat + u)) (z100 hZ) (8 + c.toNat) (by omega) (by omega) (((congrFun (rowU (rowU hM)) (8 + c.toNat)).trans (up_ne (by omega))).trans (up_self _ _ _)) dX8_pours_32 ?_
  refine ia_ireturn (pc := 33) F M (by decide) (by decide) dX8_pours_33 ?_
  exact q1 _ (PI_u (PI_u hP rfl) rfl) (rowU (rowU hM)) (Fr_u (Fr_u (Fr_0 (S := [100])) (by decide)) (by decide))
