/-! the class: back and again (made by wip/whole/m2.py) -/
set_option maxRecDepth 100000 in
theorem c_X7_faded {Z : ia_Z} {V : ia_H} {Q : ia_O → ia_Z → ia_H → Prop} {σ : Nat → Int} {m : Int} (hZ : ZI Z) (hP : PI V) (hS : Sh 1 V σ) (hI : SI σ m)   (q1 : Q (.inl (some (1, (σ 18)))) Z V) : ia_K yX7_faded cX7_faded 1 (some .long) [(4, ((0 : Nat) : Int))] Z V 1 0 0 Q := by
  refine ia_start RX7 "faded" ⟨by decide, rfl, rfl⟩ (Nat.le_of_ble_eq_true rfl) (ia_tg rfl) (fun X F M => ?_)
  show ia_G X 0 0 0 [(4, ((0 : Nat) : Int))] [] Z V
  obtain ⟨s0, s1, s2, s3, s4, s5, s6, s7, s18, sb, sw, se, sp⟩ := id hI
  refine ia_aload_n (pc := 0) F dX7_faded_0 rfl ?_
  refine jg (pc := 1) F (z0 hZ) cls10 f10_0 (hP 0 0 1 rfl) il_RX7_12 dX7_faded_1 ?_
  refine jg (pc := 4) F (x := σ 18) (z1 hZ) cls9 f9_14 hS.f14 il_RX7_226 dX7_faded_4 ?_
  refine ia_lreturn (pc := 7) F M (by decide) (by decide) dX7_faded_7 ?_
  exact q1 
set_option maxRecDepth 100000 in
theorem c_X7_errorPosition {Z : ia_Z} {V : ia_H} {Q : ia_O → ia_Z → ia_H → Prop} {ζ : Nat → Int} (hZ : ZI Z) (hP : PI V) (h0 : V 0 = ζ) (hr : -1 ≤ ζ 9 ∧ ζ 9 ≤ 1000) (q1 : (¬ ζ 9 = -1) → Q (.inl (some (0, (ζ 9)))) Z V) (q2 : (ζ 9 = -1) → Q (.inr "java/util/NoSuchElementException") Z V) : ia_K yX7_errorPosition cX7_errorPosition 1 (some .int) [(4, ((0 : Nat) : Int))] Z V 8 1 6 Q := by
  refine ia_start RX7 "errorPosition" ⟨by decide, rfl, rfl⟩ (Nat.le_of_ble_eq_true rfl) (ia_tg rfl) (fun X F M => ?_)
  show ia_G X 0 0 0 [(4, ((0 : Nat) : Int))] [] Z V
  refine ia_aload_n (pc := 0) F dX7_errorPosition_0 rfl ?_
  refine jg (pc := 1) F (x := ζ 9) (z0 hZ) cls10 f10_9 (congrFun h0 9) il_RX7_65 dX7_errorPosition_1 ?_
  refine ia_iconst (pc := 4) F dX7_errorPosition_4 ?_
  refine ia_icmp_eq (pc := 5) F 12 dX7_errorPosition_5 rfl (by omega) (by omega) (fun h_1 => ?_) (fun h_1 => ?_)
  · refine ia_iconst (pc := 12) F dX7_errorPosition_12 ?_
    refine jS (pc := 13) F 1 6 (c_X7_requireElement_0  ?_) rfl ⟨k_X7_requireElement, il_RX7_174, it_X7_requireElement, ii_RX7⟩ rfl 1 rfl hd_X7_requireElement ⟨by decide, by decide, by decide, by decide, Nat.le_of_ble_eq_true rfl⟩ dX7_errorPosition_13
    refine jx ?_
    refine ia_out F M (by decide) (by decide) ?_
    first | exact q2 (by omega) | (exfalso; omega)
  · refine ia_iconst (pc := 8) F dX7_errorPosition_8 ?_
    refine ia_goto (pc := 9) F 13 dX7_errorPosition_9 rfl ?_
    refine jS (pc := 13) F 0 0 (c_X7_requireElement_1  ?_) rfl ⟨k_X7_requireElement, il_RX7_174, it_X7_requireElement, ii_RX7⟩ rfl 1 rfl hd_X7_requireElement ⟨by decide, by decide, by decide, by decide, Nat.le_of_ble_eq_true rfl⟩ dX7_errorPosition_13
    refine j0 ?_
    refine ia_aload_n (pc := 16) F dX7_errorPosition_16 rfl ?_
    refine jg (pc := 17) F (x := ζ 9) (z0 hZ) cls10 f10_9 (congrFun h0 9) il_RX7_65 dX7_errorPosition_17 ?_
    refine ia_ireturn (pc := 20) F M (by decide) (by decide) dX7_errorPosition_20 ?_
    first | exact q1 (by omega) | (exfalso; omega)
set_option maxRecDepth 100000 in
theorem c_X7_failedCommand {Z : ia_Z} {V : ia_H} {Q : ia_O → ia_Z → ia_H → Prop} {ζ : Nat → Int} (hZ : ZI Z) (hP : PI V) (h0 : V 0 = ζ) (hr : -1 ≤ ζ 10 ∧ ζ 10 ≤ 1000) (q1 : (¬ ζ 10 = -1) → Q (.inl (some (0, (ζ 10)))) Z V) (q2 : (ζ 10 = -1) → Q (.inr "java/util/NoSuchElementException") Z V) : ia_K yX7_failedCommand cX7_failedCommand 1 (some .int) [(4, ((0 : Nat) : Int))] Z V 8 1 6 Q := by
  refine ia_start RX7 "failedCommand" ⟨by decide, rfl, rfl⟩ (Nat.le_of_ble_eq_true rfl) (ia_tg rfl) (fun X F M => ?_)
  show ia_G X 0 0 0 [(4, ((0 : Nat) : Int))] [] Z V
  refine ia_aload_n (pc := 0) F dX7_failedCommand_0 rfl ?_
  refine jg (pc := 1) F (x := ζ 10) (z0 hZ) cls10 f10_10 (congrFun h0 10) il_RX7_69 dX7_failedCommand_1 ?_
  refine ia_iconst (pc := 4) F dX7_failedCommand_4 ?_
  refine ia_icmp_eq (pc := 5) F 12 dX7_failedCommand_5 rfl (by omega) (by omega) (fun h_1 => ?_) (fun h_1 => ?_)
  · refine ia_iconst (pc := 12) F dX7_failedCommand_12 ?_
    refine jS (pc := 13) F 1 6 (c_X7_requireElement_0  ?_) rfl ⟨k_X7_requireElement, il_RX7_174, it_X7_requireElement, ii_RX7⟩ rfl 1 rfl hd_X7_requireElement ⟨by decide, by decide, by decide, by decide, Nat.le_of_ble_eq_true rfl⟩ dX7_failedCommand_13
    refine jx ?_
    refine ia_out F M (by decide) (by decide) ?_
    first | exact q2 (by omega) | (exfalso; omega)
  · refine ia_iconst (pc := 8) F dX7_failedCommand_8 ?_
    refine ia_goto (pc := 9) F 13 dX7_failedCommand_9 rfl ?_
    refine jS (pc := 13) F 0 0 (c_X7_requireElement_1  ?_) rfl ⟨k_X7_requireElement, il_RX7_174, it_X7_requireElement, ii_RX7⟩ rfl 1 rfl hd_X7_requireElement ⟨by decide, by decide, by decide, by decide, Nat.le_of_ble_eq_true rfl⟩ dX7_failedCommand_13
    refine j0 ?_
    refine ia_aload_n (pc := 16) F dX7_failedCommand_16 rfl ?_
    refine jg (pc := 17) F (x := ζ 10) (z0 hZ) cls10 f10_10 (congrFun h0 10) il_RX7_69 dX7_failedCommand_17 ?_
    refine ia_ireturn (pc := 20) F M (by decide) (by decide) dX7_failedCommand_20 ?_
    first | exact q1 (by omega) | (exfalso; omega)
set_option maxRecDepth 100000 in
theorem c_X7_requireState_b {Z : ia_Z} {V : ia_H} {Q : ia_O → ia_Z → ia_H → Prop} (b : Int)   (hb : b = 0 ∨ b = 1) (q1 : (b = 1) → Q (.inl none) Z V) (q2 : (b = 0) → Q (.inr "java/lang/IllegalStateException") Z V) : ia_K yX7_requireState cX7_requireState 1 none [(0, b)] Z V 6 1 6 Q := by
  refine ia_start RX7 "requireState" ⟨by decide, rfl, rfl⟩ (Nat.le_of_ble_eq_true rfl) (ia_tg rfl) (fun X F M => ?_)
  show ia_G X 0 0 0 [(0, b)] [] Z V
  refine ia_iload_n (pc := 0) F dX7_requireState_0 rfl ?_
  refine ia_if_ne (pc := 1) F 15 dX7_requireState_1 rfl (by omega) (fun h_1 => ?_) (fun h_1 => ?_)
  · refine ia_return (pc := 15) F M (by decide) (by decide) dX7_requireState_15 ?_
    first | exact q1 (by omega) | (exfalso; omega)
  · refine th_RX7_315_398_319 (pc := 4) F M dX7_requireState_4 dX7_requireState_7 dX7_requireState_8 dX7_requireState_11 dX7_requireState_14 ⟨by decide, by decide, by decide, by decide, by decide⟩ ?_
    first | exact q2 (by omega) | (exfalso; omega)
set_option maxRecDepth 100000 in
theorem c_X7_undo {Z : ia_Z} {V : ia_H} {Q : ia_O → ia_Z → ia_H → Prop} {σ : Nat → Int} {χ : Nat → Int} {m : Int} (τ : Nat → Int) (hZ : ZI Z) (hP : PI V) (hS : Sh 1 V σ) (hI : SI σ m) (h15 : V 15 = χ) (hχ : (0 ≤ χ 1 ∧ χ 1 < 9) ∧ 0 ≤ χ 2 ∧ χ 2 ≤ 8) (hT : 0 < χ 2 → Sh (17 + 7 * ((χ 1 + 9 - 1) % 9).toNat) V τ) (q1 : ∀ (V1 : ia_H), (0 < χ 2) → PI V1 → (V1 15 = up (up χ 1 ((χ 1 + 9 - 1) % 9)) 2 (χ 2 - 1)) → (∀ pp, pp ∉ ([1, 2, 3, 4, 5, 6, 7, 15] : List Nat) → V1 pp = V pp) → (Sh 1 V1 τ) → Q (.inl (some (0, (χ 2 - 1)))) Z V1) (q2 : (¬ 0 < χ 2) → Q (.inr "java/lang/IllegalStateException") Z V) : ia_K yX7_undo cX7_undo 1 (some .int) [(4, ((0 : Nat) : Int))] Z V 8 1 6 Q := by
  refine ia_start RX7 "undo" ⟨by decide, rfl, rfl⟩ (Nat.le_of_ble_eq_true rfl) (ia_tg rfl) (fun X F M => ?_)
  show ia_G X 0 0 0 [(4, ((0 : Nat) : Int))] [] Z V
  obtain ⟨s0, s1, s2, s3, s4, s5, s6, s7, s18, sb, sw, se, sp⟩ := id hI
  refine ia_aload_n (pc := 0) F dX7_undo_0 rfl ?_
  refine jg (pc := 1) F (z0 hZ) cls10 f10_2 (hP 0 2 15 rfl) il_RX7_22 dX7_undo_1 ?_
  refine jg (pc := 4) F (x := χ 2) (z15 hZ) cls6 f6_2 (congrFun h15 2) il_RX7_324 dX7_undo_4 ?_
  refine ia_if_le (pc := 7) F 14 dX7_undo_7 rfl (by omega) (fun h_1 => ?_) (fun h_1 => ?_)
  · refine ia_iconst (pc := 14) F dX7_undo_14 ?_
    refine jS (pc := 15) F 1 6 (c_X7_requireState_0  ?_) rfl ⟨k_X7_requireState, il_RX7_285, it_X7_requireState, ii_RX7⟩ rfl 1 rfl hd_X7_requireState ⟨by decide, by decide, by decide, by decide, Nat.le_of_ble_eq_true rfl⟩ dX7_undo_15
    refine jx ?_
    refine ia_out F M (by decide) (by decide) ?_
    exact q2 (by omega)
  · refine ia_iconst (pc := 10) F dX7_undo_10 ?_
    refine ia_goto (pc := 11) F 15 dX7_undo_11 rfl ?_
    refine jS (pc := 15) F 0 0 (c_X7_requireState_1  ?_) rfl ⟨k_X7_requireState, il_RX7_285, it_X7_requireState, ii_RX7⟩ rfl 1 rfl hd_X7_requireState ⟨by decide, by decide, by decide, by decide, Nat.le_of_ble_eq_true rfl⟩ dX7_undo_15
    refine j0 ?_
    refine ia_aload_n (pc := 18) F dX7_undo_18 rfl ?_
    refine jg (pc := 19) F (z0 hZ) cls10 f10_2 (hP 0 2 15 rfl) il_RX7_22 dX7_undo_19 ?_
    refine ia_aload_n (pc := 22) F dX7_undo_22 rfl ?_
    refine jg (pc := 23) F (z0 hZ) cls10 f10_0 (hP 0 0 1 rfl) il_RX7_12 dX7_undo_23 ?_
    refine jV (pc := 26) F 0 0 (z15 hZ) cls6.1 (c_X3_takeBackKept τ hZ hP h15 (by omega) (hT (by omega)) (fun V_2 p_3 w_4 f_5 x_6 => ?_)) rfl ⟨k_X3_takeBackKept, il_RX7_327, im_X3_takeBackKept, is_X3_takeBackKept, ii_RX3⟩ 1 rfl hd_X3_takeBackKept ⟨by decide, by decide, by decide, by decide, Nat.le_of_ble_eq_true rfl⟩ dX7_undo_26
    refine j0 ?_
    refine ia_aload_n (pc := 29) F dX7_undo_29 rfl ?_
    refine jg (pc := 30) F (z0 hZ) cls10 f10_2 (p_3 0 2 15 rfl) il_RX7_22 dX7_undo_30 ?_
    refine jg (pc := 33) F (x := (χ 2 - 1)) (z15 hZ) cls6 f6_2 ((congrFun w_4 2).trans (up_self _ _ _)) il_RX7_324 dX7_undo_33 ?_
    refine ia_ireturn (pc := 36) F M (by decide) (by decide) dX7_undo_36 ?_
    exact q1 _ (by omega) p_3 w_4 (Fr_c (Fr_0 (V := V) (S := [1, 2, 3, 4, 5, 6, 7, 15])) f_5 (by decide)) x_6
set_option maxRecDepth 100000 in
theorem c_X7_save {Z : ia_Z} {V : ia_H} {Q : ia_O → ia_Z → ia_H → Prop} {σ : Nat → Int} {ζ : Nat → Int} {m : Int} (hZ : ZI Z) (hP : PI V) (hS : Sh 1 V σ) (hI : SI σ m) (h0 : V 0 = ζ)  (q1 : ∀ (V1 : ia_H), PI V1 → (V1 0 = up ζ 8 1) → (∀ pp, pp ∉ ([0, 8, 9, 10, 11, 12, 13, 14] : List Nat) → V1 pp = V pp) → (Sh 8 V1 σ) → Q (.inl (some (0, (σ 0)))) Z V1) : ia_K yX7_save cX7_save 1 (some .int) [(4, ((0 : Nat) : Int))] Z V 3 0 0 Q := by
  refine ia_start RX7 "save" ⟨by decide, rfl, rfl⟩ (Nat.le_of_ble_eq_true rfl) (ia_tg rfl) (fun X F M => ?_)
  show ia_G X 0 0 0 [(4, ((0 : Nat) : Int))] [] Z V
  obtain ⟨s0, s1, s2, s3, s4, s5, s6, s7, s18, sb, sw, se, sp⟩ := id hI
  refine ia_aload_n (pc := 0) F dX7_save_0 rfl ?_
  refine jg (pc := 1) F (z0 hZ) cls10 f10_1 (hP 0 1 8 rfl) il_RX7_16 dX7_save_1 ?_
  refine ia_aload_n (pc := 4) F dX7_save_4 rfl ?_
  refine jg (pc := 5) F (z0 hZ) cls10 f10_0 (hP 0 0 1 rfl) il_RX7_12 dX7_save_5 ?_
  refine jV (pc := 8) F 0 0 (z8 hZ) cls9.1 (c_X6_copyFrom 1 8 2 9 3 10 4 11 5 12 6 13 7 14 hZ hP (rfl : V 1 = V 1) (rfl : V 8 = V 8) (rfl : V 2 = V 2) (rfl : V 9 = V 9) (rfl : V 3 = V 3) (rfl : V 10 = V 10) (rfl : V 4 = V 4) (rfl : V 11 = V 11) (rfl : V 5 = V 5) (rfl : V 12 = V 12) (rfl : V 6 = V 6) (rfl : V 13 = V 13) (rfl : V 7 = V 7) (rfl : V 14 = V 14) (z1 hZ) (z2 hZ) rfl (z3 hZ) rfl (z4 hZ) rfl (z5 hZ) rfl (z6 hZ) rfl (z7 hZ) rfl (z8 hZ) (z9 hZ) rfl (z10 hZ) rfl (z11 hZ) rfl (z12 hZ) rfl (z13 hZ) rfl (z14 hZ) rfl (by omega) (by omega) (by omega) (ptr_s8) (fun _ => rfl) (fun _ => rfl) (fun _ => rfl) (fun _ => rfl) (fun _ => rfl) (fun _ => rfl) (fun V_1 p_2 w_3 w_4 w_5 w_6 w_7 w_8 w_9 f_10 => ?_)) rfl ⟨k_X6_copyFrom, il_RX7_330, im_X6_copyFrom, is_X6_copyFrom, ii_RX6⟩ 1 rfl hd_X6_copyFrom ⟨by decide, by decide, by decide, by decide, Nat.le_of_ble_eq_true rfl⟩ dX7_save_8
  refine j0 ?_
  refine ia_aload_n (pc := 11) F dX7_save_11 rfl ?_
  refine ia_iconst (pc := 12) F dX7_save_12 ?_
  refine jp (pc := 13) F (z0 hZ) cls10 f10_8 rfl (ia_nZ rfl (Or.inr rfl)) il_RX7_61 dX7_save_13 ?_
  refine ia_aload_n (pc := 16) F dX7_save_16 rfl ?_
  refine jg (pc := 17) F (z0 hZ) cls10 f10_0 ((PI_u p_2 rfl) 0 0 1 rfl) il_RX7_12 dX7_save_17 ?_
  refine jg (pc := 20) F (x := σ 0) (z1 hZ) cls9 f9_6 (Sh_u (Sh_fr hS f_10 (by decide)) (by decide)).f6 il_RX7_132 dX7_save_20 ?_
  refine ia_ireturn (pc := 23) F M (by decide) (by decide) dX7_save_23 ?_
  exact q1 _ (PI_u p_2 rfl) (rowU ((f_10 0 (by decide)).trans h0)) (Fr_u (Fr_c (Fr_0 (V := V) (S := [0, 8, 9, 10, 11, 12, 13, 14])) f_10 (by decide)) (by decide)) (Sh_mv (Sh_copy (b' := 8) hS w_4 w_5 w_6 w_7 w_8 w_9 (fun k hk hk2 => by have e0 := w_3; rcases (show k = 6 ∨ k = 7 ∨ k = 8 ∨ k = 9 ∨ k = 10 ∨ k = 11 ∨ k = 12 ∨ k = 13 ∨ k = 14 by omega) with h | h | h | h | h | h | h | h | h <;> subst h <;> rw [e0] <;> simp [up])) (fun p h1 h2 => rowN (by omega)))
set_option maxRecDepth 100000 in
theorem c_X7_restore {Z : ia_Z} {V : ia_H} {Q : ia_O → ia_Z → ia_H → Prop} {ζ : Nat → Int} {χ : Nat → Int} (τ : Nat → Int) (hZ : ZI Z) (hP : PI V) (h0 : V 0 = ζ) (h15 : V 15 = χ) (hb : ζ 8 = 0 ∨ ζ 8 = 1) (hT : ζ 8 = 1 → Sh 8 V τ) (q1 : ∀ (V1 : ia_H), (ζ 8 = 1) → PI V1 → (V1 15 = up χ 2 0) → (∀ pp, pp ∉ ([1, 2, 3, 4, 5, 6, 7, 15] : List Nat) → V1 pp = V pp) → (Sh 1 V1 τ) → Q (.inl (some (0, (τ 0)))) Z V1) (q2 : (ζ 8 = 0) → Q (.inr "java/lang/IllegalStateException") Z V) : ia_K yX7_restore cX7_restore 1 (some .int) [(4, ((0 : Nat) : Int))] Z V 8 1 6 Q := by
  refine ia_start RX7 "restore" ⟨by decide, rfl, rfl⟩ (Nat.le_of_ble_eq_true rfl) (ia_tg rfl) (fun X F M => ?_)
  show ia_G X 0 0 0 [(4, ((0 : Nat) : Int))] [] Z V
  refine ia_aload_n (pc := 0) F dX7_restore_0 rfl ?_
  refine jg (pc := 1) F (x := ζ 8) (z0 hZ) cls10 f10_8 (congrFun h0 8) il_RX7_61 dX7_restore_1 ?_
  refine jS (pc := 4) F 1 6 (c_X7_requireState_b (ζ 8) (by omega) (fun h_1 => ?_) (fun h_2 => ?_)) rfl ⟨k_X7_requireState, il_RX7_285, it_X7_requireState, ii_RX7⟩ rfl 1 rfl hd_X7_requireState ⟨by decide, by decide, by decide, by decide, Nat.le_of_ble_eq_true rfl⟩ dX7_restore_4
  · refine j0 ?_
    refine ia_aload_n (pc := 7) F dX7_restore_7 rfl ?_
    refine jg (pc := 8) F (z0 hZ) cls10 f10_0 (hP 0 0 1 rfl) il_RX7_12 dX7_restore_8 ?_
    refine ia_aload_n (pc := 11) F dX7_restore_11 rfl ?_
    refine jg (pc := 12) F (z0 hZ) cls10 f10_1 (hP 0 1 8 rfl) il_RX7_16 dX7_restore_12 ?_
    refine jV (pc := 15) F 1 6 (z1 hZ) cls9.1 (c_X6_copyFrom 8 1 9 2 10 3 11 4 12 5 13 6 14 7 hZ hP (rfl : V 8 = V 8) (rfl : V 1 = V 1) (rfl : V 9 = V 9) (rfl : V 2 = V 2) (rfl : V 10 = V 10) (rfl : V 3 = V 3) (rfl : V 11 = V 11) (rfl : V 4 = V 4) (rfl : V 12 = V 12) (rfl : V 5 = V 5) (rfl : V 13 = V 13) (rfl : V 6 = V 6) (rfl : V 14 = V 14) (rfl : V 7 = V 7) (z8 hZ) (z9 hZ) rfl (z10 hZ) rfl (z11 hZ) rfl (z12 hZ) rfl (z13 hZ) rfl (z14 hZ) rfl (z1 hZ) (z2 hZ) rfl (z3 hZ) rfl (z4 hZ) rfl (z5 hZ) rfl (z6 hZ) rfl (z7 hZ) rfl (by omega) (by omega) (by omega) (ptr_s1) (fun _ => rfl) (fun _ => rfl) (fun _ => rfl) (fun _ => rfl) (fun _ => rfl) (fun _ => rfl) (fun V_3 p_4 w_5 w_6 w_7 w_8 w_9 w_10 w_11 f_12 => ?_)) rfl ⟨k_X6_copyFrom, il_RX7_330, im_X6_copyFrom, is_X6_copyFrom, ii_RX6⟩ 1 rfl hd_X6_copyFrom ⟨by decide, by decide, by decide, by decide, Nat.le_of_ble_eq_true rfl⟩ dX7_restore_15
    refine j0 ?_
    have hs9 := Sh_copy (b' := 1) (hT (by omega)) w_6 w_7 w_8 w_9 w_10 w_11 (fun k hk hk2 => by have e0 := w_5; rcases (show k = 6 ∨ k = 7 ∨ k = 8 ∨ k = 9 ∨ k = 10 ∨ k = 11 ∨ k = 12 ∨ k = 13 ∨ k = 14 by omega) with h | h | h | h | h | h | h | h | h <;> subst h <;> rw [e0] <;> simp [up])
    refine ia_aload_n (pc := 18) F dX7_restore_18 rfl ?_
    refine jg (pc := 19) F (z0 hZ) cls10 f10_2 (p_4 0 2 15 rfl) il_RX7_22 dX7_restore_19 ?_
    refine jV (pc := 22) F 1 6 (z15 hZ) cls6.1 (c_X3_forget hZ p_4 ((f_12 15 (by decide)).trans h15) (fun V_13 p_14 w_15 f_16 => ?_)) rfl ⟨k_X3_forget, il_RX7_333, im_X3_forget, is_X3_forget, ii_RX3⟩ 0 rfl hd_X3_forget ⟨by decide, by decide, by decide, by decide, Nat.le_of_ble_eq_true rfl⟩ dX7_restore_22
    refine j0 ?_
    refine ia_aload_n (pc := 25) F dX7_restore_25 rfl ?_
    refine jg (pc := 26) F (z0 hZ) cls10 f10_0 (p_14 0 0 1 rfl) il_RX7_12 dX7_restore_26 ?_
    refine jg (pc := 29) F (x := τ 0) (z1 hZ) cls9 f9_6 (Sh_fr hs9 f_16 (by decide)).f6 il_RX7_132 dX7_restore_29 ?_
    refine ia_ireturn (pc := 32) F M (by decide) (by decide) dX7_restore_32 ?_
    exact q1 _ (by omega) p_14 w_15 (Fr_c (Fr_c (Fr_0 (V := V) (S := [1, 2, 3, 4, 5, 6, 7, 15])) f_12 (by decide)) f_16 (by decide)) (Sh_fr hs9 f_16 (by decide))
  · refine jx ?_
    refine ia_out F M (by decide) (by decide) ?_
    exact q2 (by omega)
set_option maxRecDepth 100000 in
theorem c_X7_inkWaysAgree {Z : ia_Z} {V : ia_H} {Q : ia_O → ia_Z → ia_H → Prop} {σ : Nat → Int} {m : Int} (hZ : ZI Z) (hP : PI V) (hS : Sh 1 V σ) (hI : SI σ m)   (q1 : Q (.inl (some (0, 1))) Z V) : ia_K yX7_inkWaysAgree cX7_inkWaysAgree 3 (some .boolean) [(4, ((0 : Nat) : Int))] Z V 4 0 0 Q := by
  refine ia_start RX7 "inkWaysAgree" ⟨by decide, rfl, rfl⟩ (Nat.le_of_ble_eq_true rfl) (ia_tg rfl) (fun X F M => ?_)
  show ia_G X 0 0 0 [(4, ((0 : Nat) : Int)), (9, 0), (9, 0)] [] Z V
  obtain ⟨s0, s1, s2, s3, s4, s5, s6, s7, s18, sb, sw, se, sp⟩ := id hI
  refine ia_iconst (pc := 0) F dX7_inkWaysAgree_0 ?_
  refine ia_istore_n (pc := 1) F (ls' := [(4, ((0 : Nat) : Int)), (0, 0), (9, 0)]) dX7_inkWaysAgree_1 (Nat.le_of_ble_eq_true rfl) rfl rfl ?_
  have L2 : ∀ (fu : Nat) (c : Nat), (10 - c < fu) → (c ≤ 10) → ia_G X 0 0 2 [(4, ((0 : Nat) : Int)), (0, (c : Int)), (9, 0)] [] Z V := by
    intro fu
    induction fu with
    | zero => intro c hm; exact absurd hm (Nat.not_lt_zero _)
    | succ fu ih =>
      intro c hm hc
      have ih2 := ih
      refine ia_iload_n (pc := 2) F dX7_inkWaysAgree_2 rfl ?_
      refine ia_bipush (pc := 3) F dX7_inkWaysAgree_3 (by decide) ?_
      refine ia_icmp_ge (pc := 5) F 41 dX7_inkWaysAgree_5 rfl (by omega) (by omega) (fun h_1 => ?_) (fun h_1 => ?_)
      · refine ia_iconst (pc := 41) F dX7_inkWaysAgree_41 ?_
        refine ia_zreturn (pc := 42) F M (Or.inr rfl) (by decide) (by decide) dX7_inkWaysAgree_42 ?_
        exact q1
      · have r9 := la_rng (sw c (by omega)) 10
        refine ia_aload_n (pc := 8) F dX7_inkWaysAgree_8 rfl ?_
        refine jg (pc := 9) F (z0 hZ) cls10 f10_0 (hP 0 0 1 rfl) il_RX7_12 dX7_inkWaysAgree_9 ?_
        refine ia_iload_n (pc := 12) F dX7_inkWaysAgree_12 rfl ?_
        refine ia_bipush (pc := 13) F dX7_inkWaysAgree_13 (by decide) ?_
        refine jV (pc := 15) F 0 0 (z1 hZ) cls9.1 (c_X6_inkHourByHour (c : Int) 10 hZ hP hS hI (by omega) (by omega) ?_) rfl ⟨k_X6_inkHourByHour, il_RX7_110, im_X6_inkHourByHour, is_X6_inkHourByHour, ii_RX6⟩ 2 rfl hd_X6_inkHourByHour ⟨by decide, by decide, by decide, by decide, Nat.le_of_ble_eq_true rfl⟩ dX7_inkWaysAgree_15
        change ia_ct X _ _ (15 + 3) _ _ _ (.inl (some (0, (la σ c 10)))) _ _
        refine j1 ?_
        refine ia_istore_n (pc := 18) F (ls' := [(4, ((0 : Nat) : Int)), (0, (c : Int)), (0, (la σ c 10))]) dX7_inkWaysAgree_18 (Nat.le_of_ble_eq_true rfl) rfl rfl ?_
        refine ia_iload_n (pc := 19) F dX7_inkWaysAgree_19 rfl ?_
        refine ia_aload_n (pc := 20) F dX7_inkWaysAgree_20 rfl ?_
        refine jg (pc := 21) F (z0 hZ) cls10 f10_0 (hP 0 0 1 rfl) il_RX7_12 dX7_inkWaysAgree_21 ?_
        refine ia_iload_n (pc := 24) F dX7_inkWaysAgree_24 rfl ?_
        refine ia_bipush (pc := 25) F dX7_inkWaysAgree_25 (by decide) ?_
        refine jV (pc := 27) F 0 0 (z1 hZ) cls9.1 (c_X6_inkHalved (c : Int) 10 hZ hP hS hI (by omega) (by omega) ?_) rfl ⟨k_X6_inkHalved, il_RX7_114, im_X6_inkHalved, is_X6_inkHalved, ii_RX6⟩ 2 rfl hd_X6_inkHalved ⟨by decide, by decide, by decide, by decide, Nat.le_of_ble_eq_true rfl⟩ dX7_inkWaysAgree_27
        change ia_ct X _ _ (27 + 3) _ _ _ (.inl (some (0, (la σ c 10)))) _ _
        refine j1 ?_
        refine ia_icmp_eq (pc := 30) F 35 dX7_inkWaysAgree_30 rfl (by omega) (by omega) (fun h_2 => ?_) (fun h_2 => ?_)
        · refine ia_iinc (pc := 35) F (ls' := [(4, ((0 : Nat) : Int)), (0, ((c + 1 : Nat) : Int)), (0, (la σ c 10))]) dX7_inkWaysAgree_35 rfl rfl rfl rfl ?_
          refine ia_goto (pc := 38) F 2 dX7_inkWaysAgree_38 rfl ?_
          refine jw (ls' := [(4, ((0 : Nat) : Int)), (0, ((c + 1 : Nat) : Int)), (9, 0)]) [false, false, true] rfl ?_
          exact ih2 (c + 1) (by omega) (by omega)
        · refine ia_iconst (pc := 33) F dX7_inkWaysAgree_33 ?_
          refine ia_zreturn (pc := 34) F M (Or.inl rfl) (by decide) (by decide) dX7_inkWaysAgree_34 ?_
          exfalso
          omega
  exact L2 (10 + 1) 0 (by omega) (by omega)
set_option maxRecDepth 100000 in
theorem c_X7_inkIsAccountedFor {Z : ia_Z} {V : ia_H} {Q : ia_O → ia_Z → ia_H → Prop} {σ : Nat → Int} {m : Int} (hZ : ZI Z) (hP : PI V) (hS : Sh 1 V σ) (hI : SI σ m)   (q1 : Q (.inl (some (0, 1))) Z V) : ia_K yX7_inkIsAccountedFor cX7_inkIsAccountedFor 1 (some .boolean) [(4, ((0 : Nat) : Int))] Z V 9 0 0 Q := by
  refine ia_start RX7 "inkIsAccountedFor" ⟨by decide, rfl, rfl⟩ (Nat.le_of_ble_eq_true rfl) (ia_tg rfl) (fun X F M => ?_)
  show ia_G X 0 0 0 [(4, ((0 : Nat) : Int))] [] Z V
  obtain ⟨s0, s1, s2, s3, s4, s5, s6, s7, s18, sb, sw, se, sp⟩ := id hI
  have r9 := psum_le (f := fun _ => (0 : Int)) (g := wel σ) 10 (fun k hk => (sw k hk).1)
  rw [psum_c] at r9
  refine ia_aload_n (pc := 0) F dX7_inkIsAccountedFor_0 rfl ?_
  refine jg (pc := 1) F (z0 hZ) cls10 f10_0 (hP 0 0 1 rfl) il_RX7_12 dX7_inkIsAccountedFor_1 ?_
  refine jg (pc := 4) F (x := σ 6) (z1 hZ) cls9 f9_12 hS.f12 il_RX7_220 dX7_inkIsAccountedFor_4 ?_
  refine ia_i2lr (pc := 7) F dX7_inkIsAccountedFor_7 (by omega) ?_
  refine ia_aload_n (pc := 8) F dX7_inkIsAccountedFor_8 rfl ?_
  refine jV (pc := 9) F 0 0 (z0 hZ) cls10.1 (c_X7_inkInWells hZ hP hS hI ?_) rfl ⟨k_X7_inkInWells, il_RX7_388, im_X7_inkInWells, is_X7_inkInWells, ii_RX7⟩ 0 rfl hd_X7_inkInWells ⟨by decide, by decide, by decide, by decide, Nat.le_of_ble_eq_true rfl⟩ dX7_inkIsAccountedFor_9
  refine j1 ?_
  refine ia_aload_n (pc := 12) F dX7_inkIsAccountedFor_12 rfl ?_
  refine jg (pc := 13) F (z0 hZ) cls10 f10_0 (hP 0 0 1 rfl) il_RX7_12 dX7_inkIsAccountedFor_13 ?_
  refine jg (pc := 16) F (x := σ 7) (z1 hZ) cls9 f9_13 hS.f13 il_RX7_223 dX7_inkIsAccountedFor_16 ?_
  refine ia_iadd (pc := 19) F dX7_inkIsAccountedFor_19 ?_
  refine ia_i2lr (pc := 20) F dX7_inkIsAccountedFor_20 (by omega) ?_
  refine ia_aload_n (pc := 21) F dX7_inkIsAccountedFor_21 rfl ?_
  refine jg (pc := 22) F (z0 hZ) cls10 f10_0 (hP 0 0 1 rfl) il_RX7_12 dX7_inkIsAccountedFor_22 ?_
  refine jg (pc := 25) F (x := σ 18) (z1 hZ) cls9 f9_14 hS.f14 il_RX7_226 dX7_inkIsAccountedFor_25 ?_
  refine ia_ladd (pc := 28) F dX7_inkIsAccountedFor_28 ?_
  refine ia_lcmp (pc := 29) F dX7_inkIsAccountedFor_29 (by omega) (by omega) ?_
  have e9 : ia_lc (σ 6) (psum (wel σ) 10 + σ 7 + σ 18) = 0 := by rw [← sb]; unfold ia_lc; simp
  refine ia_if_ne (pc := 30) F 37 dX7_inkIsAccountedFor_30 rfl (by omega) (fun h_1 => ?_) (fun h_1 => ?_)
  · refine ia_iconst (pc := 37) F dX7_inkIsAccountedFor_37 ?_
    refine ia_zreturn (pc := 38) F M (Or.inl rfl) (by decide) (by decide) dX7_inkIsAccountedFor_38 ?_
    exfalso
    omega
  · refine ia_iconst (pc := 33) F dX7_inkIsAccountedFor_33 ?_
    refine ia_goto (pc := 34) F 38 dX7_inkIsAccountedFor_34 rfl ?_
    refine ia_zreturn (pc := 38) F M (Or.inr rfl) (by decide) (by decide) dX7_inkIsAccountedFor_38 ?_
    exact q1
