/-! the model: back and again (made by wip/whole/m2.py) -/
set_option maxRecDepth 100000 in
theorem c_X8_checkedB {Z : ia_Z} {V : ia_H} {Q : ia_O → ia_Z → ia_H → Prop} {σ : Nat → Int} {μ : Nat → Int} (b : Int) (hZ : ZI Z) (hP : PI V) (h99 : V 99 = μ) (h100 : V 100 = σ) (hb : b = 0 ∨ b = 1) (q1 : ∀ (V1 : ia_H), (b = 1) → PI V1 → (V1 99 = up μ 9 0) → (∀ pp, pp ∉ ([99] : List Nat) → V1 pp = V pp) → Q (.inl (some (0, 0))) Z V1) (q2 : ∀ (V1 : ia_H), (b = 0) → PI V1 → (V1 99 = up μ 9 1) → (∀ pp, pp ∉ ([99] : List Nat) → V1 pp = V pp) → Q (.inl (some (0, 1))) Z V1) : ia_K yX8_checked cX8_checked 2 (some .int) [(4, ((99 : Nat) : Int)), (0, b)] Z V 1 0 0 Q := by
  refine ia_start RX8 "checked" ⟨by decide, rfl, rfl⟩ (Nat.le_of_ble_eq_true rfl) (ia_tg rfl) (fun X F M => ?_)
  show ia_G X 0 0 0 [(4, ((99 : Nat) : Int)), (0, b)] [] Z V
  refine ia_aload_n (pc := 0) F dX8_checked_0 rfl ?_
  refine ia_iload_n (pc := 1) F dX8_checked_1 rfl ?_
  refine ia_if_eq (pc := 2) F 9 dX8_checked_2 rfl (by omega) (fun h_1 => ?_) (fun h_1 => ?_)
  · refine ia_iconst (pc := 9) F dX8_checked_9 ?_
    refine jp (pc := 10) F (z99 hZ) cls11 f11_9 rfl (ia_nI rfl _) il_RX8_37 dX8_checked_10 ?_
    refine ia_aload_n (pc := 13) F dX8_checked_13 rfl ?_
    refine jg (pc := 14) F (x := 1) (z99 hZ) cls11 f11_9 ((congrFun (rowU h99) 9).trans (up_self _ _ _)) il_RX8_37 dX8_checked_14 ?_
    refine ia_ireturn (pc := 17) F M (by decide) (by decide) dX8_checked_17 ?_
    first | exact q1 _ (by omega) (PI_u hP rfl) (rowU h99) (Fr_u (Fr_0 (V := V) (S := [99])) (by decide)) | exact q2 _ (by omega) (PI_u hP rfl) (rowU h99) (Fr_u (Fr_0 (V := V) (S := [99])) (by decide))
  · refine ia_iconst (pc := 5) F dX8_checked_5 ?_
    refine ia_goto (pc := 6) F 10 dX8_checked_6 rfl ?_
    refine jp (pc := 10) F (z99 hZ) cls11 f11_9 rfl (ia_nI rfl _) il_RX8_37 dX8_checked_10 ?_
    refine ia_aload_n (pc := 13) F dX8_checked_13 rfl ?_
    refine jg (pc := 14) F (x := 0) (z99 hZ) cls11 f11_9 ((congrFun (rowU h99) 9).trans (up_self _ _ _)) il_RX8_37 dX8_checked_14 ?_
    refine ia_ireturn (pc := 17) F M (by decide) (by decide) dX8_checked_17 ?_
    first | exact q1 _ (by omega) (PI_u hP rfl) (rowU h99) (Fr_u (Fr_0 (V := V) (S := [99])) (by decide)) | exact q2 _ (by omega) (PI_u hP rfl) (rowU h99) (Fr_u (Fr_0 (V := V) (S := [99])) (by decide))
set_option maxRecDepth 100000 in
theorem c_X8_faded {Z : ia_Z} {V : ia_H} {Q : ia_O → ia_Z → ia_H → Prop} {σ : Nat → Int} {μ : Nat → Int} {m : Int} (hZ : ZI Z) (hP : PI V) (hI : SI σ m) (h99 : V 99 = μ) (h100 : V 100 = σ)  (q1 : ∀ (V1 : ia_H), PI V1 → (V1 99 = (up μ 9 0)) → (∀ pp, pp ∉ ([99] : List Nat) → V1 pp = V pp) → Q (.inl (some (1, σ 18))) Z V1) : ia_K yX8_faded cX8_faded 1 (some .long) [(4, ((99 : Nat) : Int))] Z V 3 0 0 Q := by
  refine ia_start RX8 "faded" ⟨by decide, rfl, rfl⟩ (Nat.le_of_ble_eq_true rfl) (ia_tg rfl) (fun X F M => ?_)
  show ia_G X 0 0 0 [(4, ((99 : Nat) : Int))] [] Z V
  obtain ⟨s0, s1, s2, s3, s4, s5, s6, s7, s18, sb, sw, se, sp⟩ := id hI
  have r9 := psum_le (f := fun _ => (0 : Int)) (g := wel σ) 10 (fun k hk => (sw k hk).1)
  rw [psum_c] at r9
  refine ia_aload_n (pc := 0) F dX8_faded_0 rfl ?_
  refine ia_iconst (pc := 1) F dX8_faded_1 ?_
  refine jp (pc := 2) F (z99 hZ) cls11 f11_9 rfl (ia_nI rfl _) il_RX8_37 dX8_faded_2 ?_
  refine ia_aload_n (pc := 5) F dX8_faded_5 rfl ?_
  refine jg (pc := 6) F (z99 hZ) cls11 f11_0 ((PI_u hP rfl) 99 0 100 rfl) il_RX8_7 dX8_faded_6 ?_
  refine ia_bipush (pc := 9) F dX8_faded_9 (by decide) ?_
  refine ja (pc := 11) F (v := σ 18) (z100 hZ) 18 rfl (by omega) (congrFun ((rowN (by decide)).trans h100) 18) dX8_faded_11 ?_
  refine ia_i2lr (pc := 12) F dX8_faded_12 (by omega) ?_
  refine ia_lreturn (pc := 13) F M (by decide) (by decide) dX8_faded_13 ?_
  exact q1 _ (PI_u hP rfl) (rowU h99) (Fr_u (Fr_0 (V := V) (S := [99])) (by decide))
set_option maxRecDepth 100000 in
theorem c_X8_present {Z : ia_Z} {V : ia_H} {Q : ia_O → ia_Z → ia_H → Prop} {σ : Nat → Int} {μ : Nat → Int} (a : Int) (hZ : ZI Z) (hP : PI V) (h99 : V 99 = μ) (h100 : V 100 = σ) (ra : -2147483648 ≤ a ∧ a ≤ 2147483647) (q1 : ∀ (V1 : ia_H), (a < 0) → PI V1 → (V1 99 = (up μ 9 1)) → (∀ pp, pp ∉ ([99] : List Nat) → V1 pp = V pp) → Q (.inl (some (0, 0))) Z V1) (q2 : ∀ (V1 : ia_H), (¬ a < 0) → PI V1 → (V1 99 = (up μ 9 0)) → (∀ pp, pp ∉ ([99] : List Nat) → V1 pp = V pp) → Q (.inl (some (0, a))) Z V1) : ia_K yX8_present cX8_present 2 (some .int) [(4, ((99 : Nat) : Int)), (0, a)] Z V 3 0 0 Q := by
  refine ia_start RX8 "present" ⟨by decide, rfl, rfl⟩ (Nat.le_of_ble_eq_true rfl) (ia_tg rfl) (fun X F M => ?_)
  show ia_G X 0 0 0 [(4, ((99 : Nat) : Int)), (0, a)] [] Z V
  refine ia_aload_n (pc := 0) F dX8_present_0 rfl ?_
  refine ia_iload_n (pc := 1) F dX8_present_1 rfl ?_
  refine ia_if_lt (pc := 2) F 9 dX8_present_2 rfl (by omega) (fun h_1 => ?_) (fun h_1 => ?_)
  · refine ia_iconst (pc := 9) F dX8_present_9 ?_
    refine jV (pc := 10) F 0 0 (z99 hZ) cls11.1 (c_X8_checked0 hZ hP h99 h100 (fun V_2 p_3 w_4 f_5 => ?_)) rfl ⟨k_X8_checked, il_RX8_125, im_X8_checked, is_X8_checked, ii_RX8⟩ 1 rfl hd_X8_checked ⟨by decide, by decide, by decide, by decide, Nat.le_of_ble_eq_true rfl⟩ dX8_present_10
    refine j1 ?_
    refine ia_if_le (pc := 13) F 20 dX8_present_13 rfl (by omega) (fun h9 => absurd h9 (by omega)) (fun _ => ?_)
    refine ia_iconst (pc := 16) F dX8_present_16 ?_
    refine ia_goto (pc := 17) F 21 dX8_present_17 rfl ?_
    refine ia_ireturn (pc := 21) F M (by decide) (by decide) dX8_present_21 ?_
    exact q1 _ h_1 p_3 w_4 (Fr_c (Fr_0 (V := V) (S := [99])) f_5 (by decide))
  · refine ia_iconst (pc := 5) F dX8_present_5 ?_
    refine ia_goto (pc := 6) F 10 dX8_present_6 rfl ?_
    refine jV (pc := 10) F 0 0 (z99 hZ) cls11.1 (c_X8_checked1 hZ hP h99 h100 (fun V_6 p_7 w_8 f_9 => ?_)) rfl ⟨k_X8_checked, il_RX8_125, im_X8_checked, is_X8_checked, ii_RX8⟩ 1 rfl hd_X8_checked ⟨by decide, by decide, by decide, by decide, Nat.le_of_ble_eq_true rfl⟩ dX8_present_10
    refine j1 ?_
    refine ia_if_le (pc := 13) F 20 dX8_present_13 rfl (by omega) (fun _ => ?_) (fun h9 => absurd h9 (by omega))
    refine ia_iload_n (pc := 20) F dX8_present_20 rfl ?_
    refine ia_ireturn (pc := 21) F M (by decide) (by decide) dX8_present_21 ?_
    exact q2 _ h_1 p_7 w_8 (Fr_c (Fr_0 (V := V) (S := [99])) f_9 (by decide))
set_option maxRecDepth 100000 in
theorem c_X8_errorPosition {Z : ia_Z} {V : ia_H} {Q : ia_O → ia_Z → ia_H → Prop} {σ : Nat → Int} {μ : Nat → Int} (hZ : ZI Z) (hP : PI V) (h99 : V 99 = μ) (h100 : V 100 = σ) (hw : -1 ≤ μ 11 ∧ μ 11 ≤ 1000) (q1 : ∀ (V1 : ia_H), ((μ 11) < 0) → PI V1 → (V1 99 = (up μ 9 1)) → (∀ pp, pp ∉ ([99] : List Nat) → V1 pp = V pp) → Q (.inl (some (0, 0))) Z V1) (q2 : ∀ (V1 : ia_H), (¬ (μ 11) < 0) → PI V1 → (V1 99 = (up μ 9 0)) → (∀ pp, pp ∉ ([99] : List Nat) → V1 pp = V pp) → Q (.inl (some (0, (μ 11)))) Z V1) : ia_K yX8_errorPosition cX8_errorPosition 1 (some .int) [(4, ((99 : Nat) : Int))] Z V 4 0 0 Q := by
  refine ia_start RX8 "errorPosition" ⟨by decide, rfl, rfl⟩ (Nat.le_of_ble_eq_true rfl) (ia_tg rfl) (fun X F M => ?_)
  show ia_G X 0 0 0 [(4, ((99 : Nat) : Int))] [] Z V
  refine ia_aload_n (pc := 0) F dX8_errorPosition_0 rfl ?_
  refine ia_aload_n (pc := 1) F dX8_errorPosition_1 rfl ?_
  refine jg (pc := 2) F (x := μ 11) (z99 hZ) cls11 f11_11 (congrFun h99 11) il_RX8_44 dX8_errorPosition_2 ?_
  refine jV (pc := 5) F 0 0 (z99 hZ) cls11.1 (c_X8_present (μ 11) hZ hP h99 h100 (by omega) (fun V_1 h_2 p_3 w_4 f_5 => ?_) (fun V_6 h_7 p_8 w_9 f_10 => ?_)) rfl ⟨k_X8_present, il_RX8_266, im_X8_present, is_X8_present, ii_RX8⟩ 1 rfl hd_X8_present ⟨by decide, by decide, by decide, by decide, Nat.le_of_ble_eq_true rfl⟩ dX8_errorPosition_5
  · refine j1 ?_
    refine ia_ireturn (pc := 8) F M (by decide) (by decide) dX8_errorPosition_8 ?_
    exact q1 _ h_2 p_3 w_4 (Fr_c (Fr_0 (V := V) (S := [99])) f_5 (by decide))
  · refine j1 ?_
    refine ia_ireturn (pc := 8) F M (by decide) (by decide) dX8_errorPosition_8 ?_
    exact q2 _ h_7 p_8 w_9 (Fr_c (Fr_0 (V := V) (S := [99])) f_10 (by decide))
set_option maxRecDepth 100000 in
theorem c_X8_failedCommand {Z : ia_Z} {V : ia_H} {Q : ia_O → ia_Z → ia_H → Prop} {σ : Nat → Int} {μ : Nat → Int} (hZ : ZI Z) (hP : PI V) (h99 : V 99 = μ) (h100 : V 100 = σ) (hw : -1 ≤ μ 12 ∧ μ 12 ≤ 1000) (q1 : ∀ (V1 : ia_H), ((μ 12) < 0) → PI V1 → (V1 99 = (up μ 9 1)) → (∀ pp, pp ∉ ([99] : List Nat) → V1 pp = V pp) → Q (.inl (some (0, 0))) Z V1) (q2 : ∀ (V1 : ia_H), (¬ (μ 12) < 0) → PI V1 → (V1 99 = (up μ 9 0)) → (∀ pp, pp ∉ ([99] : List Nat) → V1 pp = V pp) → Q (.inl (some (0, (μ 12)))) Z V1) : ia_K yX8_failedCommand cX8_failedCommand 1 (some .int) [(4, ((99 : Nat) : Int))] Z V 4 0 0 Q := by
  refine ia_start RX8 "failedCommand" ⟨by decide, rfl, rfl⟩ (Nat.le_of_ble_eq_true rfl) (ia_tg rfl) (fun X F M => ?_)
  show ia_G X 0 0 0 [(4, ((99 : Nat) : Int))] [] Z V
  refine ia_aload_n (pc := 0) F dX8_failedCommand_0 rfl ?_
  refine ia_aload_n (pc := 1) F dX8_failedCommand_1 rfl ?_
  refine jg (pc := 2) F (x := μ 12) (z99 hZ) cls11 f11_12 (congrFun h99 12) il_RX8_47 dX8_failedCommand_2 ?_
  refine jV (pc := 5) F 0 0 (z99 hZ) cls11.1 (c_X8_present (μ 12) hZ hP h99 h100 (by omega) (fun V_1 h_2 p_3 w_4 f_5 => ?_) (fun V_6 h_7 p_8 w_9 f_10 => ?_)) rfl ⟨k_X8_present, il_RX8_266, im_X8_present, is_X8_present, ii_RX8⟩ 1 rfl hd_X8_present ⟨by decide, by decide, by decide, by decide, Nat.le_of_ble_eq_true rfl⟩ dX8_failedCommand_5
  · refine j1 ?_
    refine ia_ireturn (pc := 8) F M (by decide) (by decide) dX8_failedCommand_8 ?_
    exact q1 _ h_2 p_3 w_4 (Fr_c (Fr_0 (V := V) (S := [99])) f_5 (by decide))
  · refine j1 ?_
    refine ia_ireturn (pc := 8) F M (by decide) (by decide) dX8_failedCommand_8 ?_
    exact q2 _ h_7 p_8 w_9 (Fr_c (Fr_0 (V := V) (S := [99])) f_10 (by decide))
set_option maxRecDepth 100000 in
theorem c_X8_isConsistent {Z : ia_Z} {V : ia_H} {Q : ia_O → ia_Z → ia_H → Prop} {σ : Nat → Int} {μ : Nat → Int} (hZ : ZI Z) (hP : PI V) (h99 : V 99 = μ) (h100 : V 100 = σ)  (q1 : ∀ (V1 : ia_H), PI V1 → (V1 99 = (up μ 9 0)) → (∀ pp, pp ∉ ([99] : List Nat) → V1 pp = V pp) → Q (.inl (some (0, 1))) Z V1) : ia_K yX8_isConsistent cX8_isConsistent 1 (some .boolean) [(4, ((99 : Nat) : Int))] Z V 3 0 0 Q := by
  refine ia_start RX8 "isConsistent" ⟨by decide, rfl, rfl⟩ (Nat.le_of_ble_eq_true rfl) (ia_tg rfl) (fun X F M => ?_)
  show ia_G X 0 0 0 [(4, ((99 : Nat) : Int))] [] Z V
  refine ia_aload_n (pc := 0) F dX8_isConsistent_0 rfl ?_
  refine ia_iconst (pc := 1) F dX8_isConsistent_1 ?_
  refine jV (pc := 2) F 0 0 (z99 hZ) cls11.1 (c_X8_plain 1 hZ hP h99 h100 (fun V_1 p_2 w_3 f_4 => ?_)) rfl ⟨k_X8_plain, il_RX8_129, im_X8_plain, is_X8_plain, ii_RX8⟩ 1 rfl hd_X8_plain ⟨by decide, by decide, by decide, by decide, Nat.le_of_ble_eq_true rfl⟩ dX8_isConsistent_2
  refine j1 ?_
  refine ia_iconst (pc := 5) F dX8_isConsistent_5 ?_
  refine ia_icmp_ne (pc := 6) F 13 dX8_isConsistent_6 rfl (by omega) (by omega) (fun h9 => absurd h9 (by omega)) (fun _ => ?_)
  refine ia_iconst (pc := 9) F dX8_isConsistent_9 ?_
  refine ia_goto (pc := 10) F 14 dX8_isConsistent_10 rfl ?_
  refine ia_zreturn (pc := 14) F M (Or.inr rfl) (by decide) (by decide) dX8_isConsistent_14 ?_
  exact q1 _ p_2 w_3 (Fr_c (Fr_0 (V := V) (S := [99])) f_4 (by decide))
set_option maxRecDepth 100000 in
theorem c_X8_undo {Z : ia_Z} {V : ia_H} {Q : ia_O → ia_Z → ia_H → Prop} {σ : Nat → Int} {μ : Nat → Int} {η : Nat → Int} {m : Int} (hZ : ZI Z) (hP : PI V) (hI : SI σ m) (h99 : V 99 = μ) (h100 : V 100 = σ) (h103 : V 103 = η) (hd : 0 ≤ μ 10 ∧ μ 10 ≤ 8) (q1 : ∀ (V1 : ia_H), (μ 10 ≤ 0) → PI V1 → (V1 99 = (up μ 9 1)) → (V1 100 = σ) → (∀ pp, pp ∉ ([99, 100] : List Nat) → V1 pp = V pp) → Q (.inl (some (0, 0))) Z V1) (q2 : ∀ (V1 : ia_H), (¬ μ 10 ≤ 0) → PI V1 → (V1 99 = (up (up μ 9 0) 10 (μ 10 - 1))) → (V1 100 = cpy η σ (72 * ((μ 10 - 1).toNat)) 0 72) → (∀ pp, pp ∉ ([99, 100] : List Nat) → V1 pp = V pp) → Q (.inl (some (0, (μ 10 - 1)))) Z V1) : ia_K yX8_undo cX8_undo 1 (some .int) [(4, ((99 : Nat) : Int))] Z V 4 0 0 Q := by
  refine ia_start RX8 "undo" ⟨by decide, rfl, rfl⟩ (Nat.le_of_ble_eq_true rfl) (ia_tg rfl) (fun X F M => ?_)
  show ia_G X 0 0 0 [(4, ((99 : Nat) : Int))] [] Z V
  obtain ⟨s0, s1, s2, s3, s4, s5, s6, s7, s18, sb, sw, se, sp⟩ := id hI
  refine ia_aload_n (pc := 0) F dX8_undo_0 rfl ?_
  refine ia_aload_n (pc := 1) F dX8_undo_1 rfl ?_
  refine jg (pc := 2) F (x := μ 10) (z99 hZ) cls11 f11_10 (congrFun h99 10) il_RX8_41 dX8_undo_2 ?_
  refine ia_if_le (pc := 5) F 12 dX8_undo_5 rfl (by omega) (fun h_1 => ?_) (fun h_1 => ?_)
  · refine ia_iconst (pc := 12) F dX8_undo_12 ?_
    refine jV (pc := 13) F 0 0 (z99 hZ) cls11.1 (c_X8_checked0 hZ hP h99 h100 (fun V_2 p_3 w_4 f_5 => ?_)) rfl ⟨k_X8_checked, il_RX8_125, im_X8_checked, is_X8_checked, ii_RX8⟩ 1 rfl hd_X8_checked ⟨by decide, by decide, by decide, by decide, Nat.le_of_ble_eq_true rfl⟩ dX8_undo_13
    refine j1 ?_
    refine ia_if_le (pc := 16) F 21 dX8_undo_16 rfl (by omega) (fun h9 => absurd h9 (by omega)) (fun _ => ?_)
    refine ia_iconst (pc := 19) F dX8_undo_19 ?_
    refine ia_ireturn (pc := 20) F M (by decide) (by decide) dX8_undo_20 ?_
    exact q1 _ h_1 p_3 w_4 ((f_5 100 (by decide)).trans h100) (Fr_c (Fr_0 (V := V) (S := [99, 100])) f_5 (by decide))
  · refine ia_iconst (pc := 8) F dX8_undo_8 ?_
    refine ia_goto (pc := 9) F 13 dX8_undo_9 rfl ?_
    refine jV (pc := 13) F 0 0 (z99 hZ) cls11.1 (c_X8_checked1 hZ hP h99 h100 (fun V_6 p_7 w_8 f_9 => ?_)) rfl ⟨k_X8_checked, il_RX8_125, im_X8_checked, is_X8_checked, ii_RX8⟩ 1 rfl hd_X8_checked ⟨by decide, by decide, by decide, by decide, Nat.le_of_ble_eq_true rfl⟩ dX8_undo_13
    refine j1 ?_
    refine ia_if_le (pc := 16) F 21 dX8_undo_16 rfl (by omega) (fun _ => ?_) (fun h9 => absurd h9 (by omega))
    refine ia_aload_n (pc := 21) F dX8_undo_21 rfl ?_
    refine ia_dup (pc := 22) F dX8_undo_22 (Or.inr (Or.inr rfl)) ?_
    refine jg (pc := 23) F (x := μ 10) (z99 hZ) cls11 f11_10 ((congrFun w_8 10).trans (up_ne (by decide))) il_RX8_41 dX8_undo_23 ?_
    refine ia_iconst (pc := 26) F dX8_undo_26 ?_
    refine ia_isub (pc := 27) F dX8_undo_27 ?_
    refine jp (pc := 28) F (z99 hZ) cls11 f11_10 rfl (ia_nI rfl _) il_RX8_41 dX8_undo_28 ?_
    refine ia_aload_n (pc := 31) F dX8_undo_31 rfl ?_
    refine jg (pc := 32) F (z99 hZ) cls11 f11_3 ((PI_u p_7 rfl) 99 3 103 rfl) il_RX8_19 dX8_undo_32 ?_
    refine ia_bipush (pc := 35) F dX8_undo_35 (by decide) ?_
    refine ia_aload_n (pc := 37) F dX8_undo_37 rfl ?_
    refine jg (pc := 38) F (x := (μ 10 - 1)) (z99 hZ) cls11 f11_10 ((congrFun (rowU w_8) 10).trans (up_self _ _ _)) il_RX8_41 dX8_undo_38 ?_
    refine ia_imul (pc := 41) F dX8_undo_41 ?_
    refine ia_aload_n (pc := 42) F dX8_undo_42 rfl ?_
    refine jg (pc := 43) F (z99 hZ) cls11 f11_0 ((PI_u p_7 rfl) 99 0 100 rfl) il_RX8_7 dX8_undo_43 ?_
    refine ia_iconst (pc := 46) F dX8_undo_46 ?_
    rw [show (72 * (μ 10 - 1)) = ((72 * ((μ 10 - 1).toNat) : Nat) : Int) from by omega]
    refine jS (pc := 47) F 0 0 (c_X8_copy 103 100 (72 * ((μ 10 - 1).toNat)) 0 576 72 hZ (PI_u p_7 rfl) ((rowN (by decide)).trans ((f_9 103 (by decide)).trans h103)) ((rowN (by decide)).trans ((f_9 100 (by decide)).trans h100)) (z103 hZ) (z100 hZ) (fun _ => rfl) (by decide) (by omega) (fun V_10 p_11 w_12 f_13 => ?_)) rfl ⟨k_X8_copy, il_RX8_87, it_X8_copy, ii_RX8⟩ rfl 4 rfl hd_X8_copy ⟨by decide, by decide, by decide, by decide, Nat.le_of_ble_eq_true rfl⟩ dX8_undo_47
    refine j0 ?_
    refine ia_aload_n (pc := 50) F dX8_undo_50 rfl ?_
    refine jg (pc := 51) F (x := (μ 10 - 1)) (z99 hZ) cls11 f11_10 ((congrFun ((f_13 99 (by decide)).trans (rowU w_8)) 10).trans (up_self _ _ _)) il_RX8_41 dX8_undo_51 ?_
    refine ia_ireturn (pc := 54) F M (by decide) (by decide) dX8_undo_54 ?_
    exact q2 _ h_1 p_11 ((f_13 99 (by decide)).trans (rowU w_8)) w_12 (Fr_c (Fr_u (Fr_c (Fr_0 (V := V) (S := [99, 100])) f_9 (by decide)) (by decide)) f_13 (by decide))
set_option maxRecDepth 100000 in
theorem c_X8_save {Z : ia_Z} {V : ia_H} {Q : ia_O → ia_Z → ia_H → Prop} {σ : Nat → Int} {μ : Nat → Int} {γ : Nat → Int} (hZ : ZI Z) (hP : PI V) (h99 : V 99 = μ) (h100 : V 100 = σ) (h102 : V 102 = γ)  (q1 : ∀ (V1 : ia_H), PI V1 → (V1 99 = (up (up μ 9 0) 13 1)) → (V1 102 = cpy σ γ 0 0 72) → (∀ pp, pp ∉ ([99, 102] : List Nat) → V1 pp = V pp) → Q (.inl (some (0, σ 0))) Z V1) : ia_K yX8_save cX8_save 1 (some .int) [(4, ((99 : Nat) : Int))] Z V 4 0 0 Q := by
  refine ia_start RX8 "save" ⟨by decide, rfl, rfl⟩ (Nat.le_of_ble_eq_true rfl) (ia_tg rfl) (fun X F M => ?_)
  show ia_G X 0 0 0 [(4, ((99 : Nat) : Int))] [] Z V
  refine ia_aload_n (pc := 0) F dX8_save_0 rfl ?_
  refine ia_iconst (pc := 1) F dX8_save_1 ?_
  refine jp (pc := 2) F (z99 hZ) cls11 f11_9 rfl (ia_nI rfl _) il_RX8_37 dX8_save_2 ?_
  refine ia_aload_n (pc := 5) F dX8_save_5 rfl ?_
  refine jg (pc := 6) F (z99 hZ) cls11 f11_0 ((PI_u hP rfl) 99 0 100 rfl) il_RX8_7 dX8_save_6 ?_
  refine ia_iconst (pc := 9) F dX8_save_9 ?_
  refine ia_aload_n (pc := 10) F dX8_save_10 rfl ?_
  refine jg (pc := 11) F (z99 hZ) cls11 f11_2 ((PI_u hP rfl) 99 2 102 rfl) il_RX8_16 dX8_save_11 ?_
  refine ia_iconst (pc := 14) F dX8_save_14 ?_
  refine jS (pc := 15) F 0 0 (c_X8_copy 100 102 0 0 72 72 hZ (PI_u hP rfl) ((rowN (by decide)).trans h100) ((rowN (by decide)).trans h102) (z100 hZ) (z102 hZ) (fun _ => rfl) (by decide) (by omega) (fun V_1 p_2 w_3 f_4 => ?_)) rfl ⟨k_X8_copy, il_RX8_87, it_X8_copy, ii_RX8⟩ rfl 4 rfl hd_X8_copy ⟨by decide, by decide, by decide, by decide, Nat.le_of_ble_eq_true rfl⟩ dX8_save_15
  refine j0 ?_
  refine ia_aload_n (pc := 18) F dX8_save_18 rfl ?_
  refine ia_iconst (pc := 19) F dX8_save_19 ?_
  refine jp (pc := 20) F (z99 hZ) cls11 f11_13 rfl (ia_nZ rfl (Or.inr rfl)) il_RX8_50 dX8_save_20 ?_
  refine ia_aload_n (pc := 23) F dX8_save_23 rfl ?_
  refine jg (pc := 24) F (z99 hZ) cls11 f11_0 ((PI_u p_2 rfl) 99 0 100 rfl) il_RX8_7 dX8_save_24 ?_
  refine ia_iconst (pc := 27) F dX8_save_27 ?_
  refine ja (pc := 28) F (v := σ 0) (z100 hZ) 0 rfl (by omega) (congrFun ((rowN (by decide)).trans ((f_4 100 (by decide)).trans ((rowN (by decide)).trans h100))) 0) dX8_save_28 ?_
  refine ia_ireturn (pc := 29) F M (by decide) (by decide) dX8_save_29 ?_
  exact q1 _ (PI_u p_2 rfl) (rowU ((f_4 99 (by decide)).trans (rowU h99))) ((rowN (by decide)).trans w_3) (Fr_u (Fr_c (Fr_u (Fr_0 (V := V) (S := [99, 102])) (by decide)) f_4 (by decide)) (by decide))
set_option maxRecDepth 100000 in
theorem c_X8_restore {Z : ia_Z} {V : ia_H} {Q : ia_O → ia_Z → ia_H → Prop} {σ : Nat → Int} {μ : Nat → Int} {γ : Nat → Int} (hZ : ZI Z) (hP : PI V) (h99 : V 99 = μ) (h100 : V 100 = σ) (h102 : V 102 = γ) (hb : μ 13 = 0 ∨ μ 13 = 1) (q1 : ∀ (V1 : ia_H), ((μ 13) = 1) → PI V1 → (V1 99 = (up (up μ 9 0) 10 0)) → (V1 100 = cpy γ σ 0 0 72) → (∀ pp, pp ∉ ([99, 100] : List Nat) → V1 pp = V pp) → Q (.inl (some (0, cpy γ σ 0 0 72 0))) Z V1) (q2 : ∀ (V1 : ia_H), ((μ 13) = 0) → PI V1 → (V1 99 = (up μ 9 1)) → (V1 100 = σ) → (∀ pp, pp ∉ ([99, 100] : List Nat) → V1 pp = V pp) → Q (.inl (some (0, 0))) Z V1) : ia_K yX8_restore cX8_restore 1 (some .int) [(4, ((99 : Nat) : Int))] Z V 4 0 0 Q := by
  refine ia_start RX8 "restore" ⟨by decide, rfl, rfl⟩ (Nat.le_of_ble_eq_true rfl) (ia_tg rfl) (fun X F M => ?_)
  show ia_G X 0 0 0 [(4, ((99 : Nat) : Int))] [] Z V
  refine ia_aload_n (pc := 0) F dX8_restore_0 rfl ?_
  refine ia_aload_n (pc := 1) F dX8_restore_1 rfl ?_
  refine jg (pc := 2) F (x := μ 13) (z99 hZ) cls11 f11_13 (congrFun h99 13) il_RX8_50 dX8_restore_2 ?_
  refine jV (pc := 5) F 0 0 (z99 hZ) cls11.1 (c_X8_checkedB (μ 13) hZ hP h99 h100 (by omega) (fun V_1 h_2 p_3 w_4 f_5 => ?_) (fun V_6 h_7 p_8 w_9 f_10 => ?_)) rfl ⟨k_X8_checked, il_RX8_125, im_X8_checked, is_X8_checked, ii_RX8⟩ 1 rfl hd_X8_checked ⟨by decide, by decide, by decide, by decide, Nat.le_of_ble_eq_true rfl⟩ dX8_restore_5
  · refine j1 ?_
    refine ia_if_le (pc := 8) F 13 dX8_restore_8 rfl (by omega) (fun _ => ?_) (fun h9 => absurd h9 (by omega))
    refine ia_aload_n (pc := 13) F dX8_restore_13 rfl ?_
    refine jg (pc := 14) F (z99 hZ) cls11 f11_2 (p_3 99 2 102 rfl) il_RX8_16 dX8_restore_14 ?_
    refine ia_iconst (pc := 17) F dX8_restore_17 ?_
    refine ia_aload_n (pc := 18) F dX8_restore_18 rfl ?_
    refine jg (pc := 19) F (z99 hZ) cls11 f11_0 (p_3 99 0 100 rfl) il_RX8_7 dX8_restore_19 ?_
    refine ia_iconst (pc := 22) F dX8_restore_22 ?_
    refine jS (pc := 23) F 0 0 (c_X8_copy 102 100 0 0 72 72 hZ p_3 ((f_5 102 (by decide)).trans h102) ((f_5 100 (by decide)).trans h100) (z102 hZ) (z100 hZ) (fun _ => rfl) (by decide) (by omega) (fun V_11 p_12 w_13 f_14 => ?_)) rfl ⟨k_X8_copy, il_RX8_87, it_X8_copy, ii_RX8⟩ rfl 4 rfl hd_X8_copy ⟨by decide, by decide, by decide, by decide, Nat.le_of_ble_eq_true rfl⟩ dX8_restore_23
    refine j0 ?_
    refine ia_aload_n (pc := 26) F dX8_restore_26 rfl ?_
    refine ia_iconst (pc := 27) F dX8_restore_27 ?_
    refine jp (pc := 28) F (z99 hZ) cls11 f11_10 rfl (ia_nI rfl _) il_RX8_41 dX8_restore_28 ?_
    refine ia_aload_n (pc := 31) F dX8_restore_31 rfl ?_
    refine jg (pc := 32) F (z99 hZ) cls11 f11_0 ((PI_u p_12 rfl) 99 0 100 rfl) il_RX8_7 dX8_restore_32 ?_
    refine ia_iconst (pc := 35) F dX8_restore_35 ?_
    refine ja (pc := 36) F (v := cpy γ σ 0 0 72 0) (z100 hZ) 0 rfl (by omega) (congrFun ((rowN (by decide)).trans w_13) 0) dX8_restore_36 ?_
    refine ia_ireturn (pc := 37) F M (by decide) (by decide) dX8_restore_37 ?_
    exact q1 _ h_2 (PI_u p_12 rfl) (rowU ((f_14 99 (by decide)).trans w_4)) ((rowN (by decide)).trans w_13) (Fr_u (Fr_c (Fr_c (Fr_0 (V := V) (S := [99, 100])) f_5 (by decide)) f_14 (by decide)) (by decide))
  · refine j1 ?_
    refine ia_if_le (pc := 8) F 13 dX8_restore_8 rfl (by omega) (fun h9 => absurd h9 (by omega)) (fun _ => ?_)
    refine ia_iconst (pc := 11) F dX8_restore_11 ?_
    refine ia_ireturn (pc := 12) F M (by decide) (by decide) dX8_restore_12 ?_
    exact q2 _ h_7 p_8 w_9 ((f_10 100 (by decide)).trans h100) (Fr_c (Fr_0 (V := V) (S := [99, 100])) f_10 (by decide))
