/-! the class: its changes (made by wip/whole/m2.py) -/
set_option maxRecDepth 100000 in
theorem c_X7_throwIfRefused_1 {Z : ia_Z} {V : ia_H} {Q : ia_O → ia_Z → ia_H → Prop}    (q1 : Q (.inr "java/lang/IllegalArgumentException") Z V) : ia_K yX7_throwIfRefused cX7_throwIfRefused 1 none [(0, (-1))] Z V 7 1 6 Q := by
  refine ia_start RX7 "throwIfRefused" ⟨by decide, rfl, rfl⟩ (Nat.le_of_ble_eq_true rfl) (ia_tg rfl) (fun X F M => ?_)
  show ia_G X 0 0 0 [(0, (-1))] [] Z V
  refine ia_iload_n (pc := 0) F dX7_throwIfRefused_0 rfl ?_
  refine ia_iconst (pc := 1) F dX7_throwIfRefused_1 ?_
  refine ia_icmp_eq (pc := 2) F 9 dX7_throwIfRefused_2 rfl (by omega) (by omega) (fun _ => ?_) (fun h9 => absurd h9 (by omega))
  refine ia_iconst (pc := 9) F dX7_throwIfRefused_9 ?_
  refine jS (pc := 10) F 1 6 (c_X7_requireArgument_0  ?_) rfl ⟨k_X7_requireArgument, il_RX7_92, it_X7_requireArgument, ii_RX7⟩ rfl 1 rfl hd_X7_requireArgument ⟨by decide, by decide, by decide, by decide, Nat.le_of_ble_eq_true rfl⟩ dX7_throwIfRefused_10
  refine jx ?_
  refine ia_out F M (by decide) (by decide) ?_
  exact q1
set_option maxRecDepth 100000 in
theorem c_X7_throwIfRefused_2 {Z : ia_Z} {V : ia_H} {Q : ia_O → ia_Z → ia_H → Prop}    (q1 : Q (.inr "java/lang/IllegalStateException") Z V) : ia_K yX7_throwIfRefused cX7_throwIfRefused 1 none [(0, (-2))] Z V 7 1 6 Q := by
  refine ia_start RX7 "throwIfRefused" ⟨by decide, rfl, rfl⟩ (Nat.le_of_ble_eq_true rfl) (ia_tg rfl) (fun X F M => ?_)
  show ia_G X 0 0 0 [(0, (-2))] [] Z V
  refine ia_iload_n (pc := 0) F dX7_throwIfRefused_0 rfl ?_
  refine ia_iconst (pc := 1) F dX7_throwIfRefused_1 ?_
  refine ia_icmp_eq (pc := 2) F 9 dX7_throwIfRefused_2 rfl (by omega) (by omega) (fun h9 => absurd h9 (by omega)) (fun _ => ?_)
  refine ia_iconst (pc := 5) F dX7_throwIfRefused_5 ?_
  refine ia_goto (pc := 6) F 10 dX7_throwIfRefused_6 rfl ?_
  refine jS (pc := 10) F 0 0 (c_X7_requireArgument_1  ?_) rfl ⟨k_X7_requireArgument, il_RX7_92, it_X7_requireArgument, ii_RX7⟩ rfl 1 rfl hd_X7_requireArgument ⟨by decide, by decide, by decide, by decide, Nat.le_of_ble_eq_true rfl⟩ dX7_throwIfRefused_10
  refine j0 ?_
  refine ia_iload_n (pc := 13) F dX7_throwIfRefused_13 rfl ?_
  refine ia_bipush (pc := 14) F dX7_throwIfRefused_14 (by decide) ?_
  refine ia_icmp_eq (pc := 16) F 23 dX7_throwIfRefused_16 rfl (by omega) (by omega) (fun _ => ?_) (fun h9 => absurd h9 (by omega))
  refine ia_iconst (pc := 23) F dX7_throwIfRefused_23 ?_
  refine jS (pc := 24) F 1 6 (c_X7_requireState_0  ?_) rfl ⟨k_X7_requireState, il_RX7_285, it_X7_requireState, ii_RX7⟩ rfl 1 rfl hd_X7_requireState ⟨by decide, by decide, by decide, by decide, Nat.le_of_ble_eq_true rfl⟩ dX7_throwIfRefused_24
  refine jx ?_
  refine ia_out F M (by decide) (by decide) ?_
  exact q1
set_option maxRecDepth 100000 in
theorem c_X7_throwIfRefused_3 {Z : ia_Z} {V : ia_H} {Q : ia_O → ia_Z → ia_H → Prop}    (q1 : Q (.inr "java/lang/IndexOutOfBoundsException") Z V) : ia_K yX7_throwIfRefused cX7_throwIfRefused 1 none [(0, (-3))] Z V 7 1 6 Q := by
  refine ia_start RX7 "throwIfRefused" ⟨by decide, rfl, rfl⟩ (Nat.le_of_ble_eq_true rfl) (ia_tg rfl) (fun X F M => ?_)
  show ia_G X 0 0 0 [(0, (-3))] [] Z V
  refine ia_iload_n (pc := 0) F dX7_throwIfRefused_0 rfl ?_
  refine ia_iconst (pc := 1) F dX7_throwIfRefused_1 ?_
  refine ia_icmp_eq (pc := 2) F 9 dX7_throwIfRefused_2 rfl (by omega) (by omega) (fun h9 => absurd h9 (by omega)) (fun _ => ?_)
  refine ia_iconst (pc := 5) F dX7_throwIfRefused_5 ?_
  refine ia_goto (pc := 6) F 10 dX7_throwIfRefused_6 rfl ?_
  refine jS (pc := 10) F 0 0 (c_X7_requireArgument_1  ?_) rfl ⟨k_X7_requireArgument, il_RX7_92, it_X7_requireArgument, ii_RX7⟩ rfl 1 rfl hd_X7_requireArgument ⟨by decide, by decide, by decide, by decide, Nat.le_of_ble_eq_true rfl⟩ dX7_throwIfRefused_10
  refine j0 ?_
  refine ia_iload_n (pc := 13) F dX7_throwIfRefused_13 rfl ?_
  refine ia_bipush (pc := 14) F dX7_throwIfRefused_14 (by decide) ?_
  refine ia_icmp_eq (pc := 16) F 23 dX7_throwIfRefused_16 rfl (by omega) (by omega) (fun h9 => absurd h9 (by omega)) (fun _ => ?_)
  refine ia_iconst (pc := 19) F dX7_throwIfRefused_19 ?_
  refine ia_goto (pc := 20) F 24 dX7_throwIfRefused_20 rfl ?_
  refine jS (pc := 24) F 0 0 (c_X7_requireState_1  ?_) rfl ⟨k_X7_requireState, il_RX7_285, it_X7_requireState, ii_RX7⟩ rfl 1 rfl hd_X7_requireState ⟨by decide, by decide, by decide, by decide, Nat.le_of_ble_eq_true rfl⟩ dX7_throwIfRefused_24
  refine j0 ?_
  refine ia_iload_n (pc := 27) F dX7_throwIfRefused_27 rfl ?_
  refine ia_bipush (pc := 28) F dX7_throwIfRefused_28 (by decide) ?_
  refine ia_icmp_eq (pc := 30) F 37 dX7_throwIfRefused_30 rfl (by omega) (by omega) (fun _ => ?_) (fun h9 => absurd h9 (by omega))
  refine ia_iconst (pc := 37) F dX7_throwIfRefused_37 ?_
  refine jS (pc := 38) F 1 6 (c_X7_requireIndex_0  ?_) rfl ⟨k_X7_requireIndex, il_RX7_138, it_X7_requireIndex, ii_RX7⟩ rfl 1 rfl hd_X7_requireIndex ⟨by decide, by decide, by decide, by decide, Nat.le_of_ble_eq_true rfl⟩ dX7_throwIfRefused_38
  refine jx ?_
  refine ia_out F M (by decide) (by decide) ?_
  exact q1
set_option maxRecDepth 100000 in
theorem c_X7_throwIfRefused_4 {Z : ia_Z} {V : ia_H} {Q : ia_O → ia_Z → ia_H → Prop}    (q1 : Q (.inr "java/lang/UnsupportedOperationException") Z V) : ia_K yX7_throwIfRefused cX7_throwIfRefused 1 none [(0, (-4))] Z V 7 1 6 Q := by
  refine ia_start RX7 "throwIfRefused" ⟨by decide, rfl, rfl⟩ (Nat.le_of_ble_eq_true rfl) (ia_tg rfl) (fun X F M => ?_)
  show ia_G X 0 0 0 [(0, (-4))] [] Z V
  refine ia_iload_n (pc := 0) F dX7_throwIfRefused_0 rfl ?_
  refine ia_iconst (pc := 1) F dX7_throwIfRefused_1 ?_
  refine ia_icmp_eq (pc := 2) F 9 dX7_throwIfRefused_2 rfl (by omega) (by omega) (fun h9 => absurd h9 (by omega)) (fun _ => ?_)
  refine ia_iconst (pc := 5) F dX7_throwIfRefused_5 ?_
  refine ia_goto (pc := 6) F 10 dX7_throwIfRefused_6 rfl ?_
  refine jS (pc := 10) F 0 0 (c_X7_requireArgument_1  ?_) rfl ⟨k_X7_requireArgument, il_RX7_92, it_X7_requireArgument, ii_RX7⟩ rfl 1 rfl hd_X7_requireArgument ⟨by decide, by decide, by decide, by decide, Nat.le_of_ble_eq_true rfl⟩ dX7_throwIfRefused_10
  refine j0 ?_
  refine ia_iload_n (pc := 13) F dX7_throwIfRefused_13 rfl ?_
  refine ia_bipush (pc := 14) F dX7_throwIfRefused_14 (by decide) ?_
  refine ia_icmp_eq (pc := 16) F 23 dX7_throwIfRefused_16 rfl (by omega) (by omega) (fun h9 => absurd h9 (by omega)) (fun _ => ?_)
  refine ia_iconst (pc := 19) F dX7_throwIfRefused_19 ?_
  refine ia_goto (pc := 20) F 24 dX7_throwIfRefused_20 rfl ?_
  refine jS (pc := 24) F 0 0 (c_X7_requireState_1  ?_) rfl ⟨k_X7_requireState, il_RX7_285, it_X7_requireState, ii_RX7⟩ rfl 1 rfl hd_X7_requireState ⟨by decide, by decide, by decide, by decide, Nat.le_of_ble_eq_true rfl⟩ dX7_throwIfRefused_24
  refine j0 ?_
  refine ia_iload_n (pc := 27) F dX7_throwIfRefused_27 rfl ?_
  refine ia_bipush (pc := 28) F dX7_throwIfRefused_28 (by decide) ?_
  refine ia_icmp_eq (pc := 30) F 37 dX7_throwIfRefused_30 rfl (by omega) (by omega) (fun h9 => absurd h9 (by omega)) (fun _ => ?_)
  refine ia_iconst (pc := 33) F dX7_throwIfRefused_33 ?_
  refine ia_goto (pc := 34) F 38 dX7_throwIfRefused_34 rfl ?_
  refine jS (pc := 38) F 0 0 (c_X7_requireIndex_1  ?_) rfl ⟨k_X7_requireIndex, il_RX7_138, it_X7_requireIndex, ii_RX7⟩ rfl 1 rfl hd_X7_requireIndex ⟨by decide, by decide, by decide, by decide, Nat.le_of_ble_eq_true rfl⟩ dX7_throwIfRefused_38
  refine j0 ?_
  refine ia_iload_n (pc := 41) F dX7_throwIfRefused_41 rfl ?_
  refine ia_bipush (pc := 42) F dX7_throwIfRefused_42 (by decide) ?_
  refine ia_icmp_ne (pc := 44) F 58 dX7_throwIfRefused_44 rfl (by omega) (by omega) (fun h9 => absurd h9 (by omega)) (fun _ => ?_)
  refine th_RX7_391_393_395 (pc := 47) F M dX7_throwIfRefused_47 dX7_throwIfRefused_50 dX7_throwIfRefused_51 dX7_throwIfRefused_54 dX7_throwIfRefused_57 ⟨by decide, by decide, by decide, by decide, by decide⟩ ?_
  exact q1
set_option maxRecDepth 100000 in
theorem c_X7_throwIfRefused_0 {Z : ia_Z} {V : ia_H} {Q : ia_O → ia_Z → ia_H → Prop} (r : Int)   (hr : 0 ≤ r ∧ r ≤ 2147483647) (q1 : Q (.inl none) Z V) : ia_K yX7_throwIfRefused cX7_throwIfRefused 1 none [(0, r)] Z V 7 1 6 Q := by
  refine ia_start RX7 "throwIfRefused" ⟨by decide, rfl, rfl⟩ (Nat.le_of_ble_eq_true rfl) (ia_tg rfl) (fun X F M => ?_)
  show ia_G X 0 0 0 [(0, r)] [] Z V
  refine ia_iload_n (pc := 0) F dX7_throwIfRefused_0 rfl ?_
  refine ia_iconst (pc := 1) F dX7_throwIfRefused_1 ?_
  refine ia_icmp_eq (pc := 2) F 9 dX7_throwIfRefused_2 rfl (by omega) (by omega) (fun h_1 => ?_) (fun h_1 => ?_)
  · refine ia_iconst (pc := 9) F dX7_throwIfRefused_9 ?_
    refine jS (pc := 10) F 1 6 (c_X7_requireArgument_0  ?_) rfl ⟨k_X7_requireArgument, il_RX7_92, it_X7_requireArgument, ii_RX7⟩ rfl 1 rfl hd_X7_requireArgument ⟨by decide, by decide, by decide, by decide, Nat.le_of_ble_eq_true rfl⟩ dX7_throwIfRefused_10
    refine jx ?_
    refine ia_out F M (by decide) (by decide) ?_
    exfalso
    omega
  · refine ia_iconst (pc := 5) F dX7_throwIfRefused_5 ?_
    refine ia_goto (pc := 6) F 10 dX7_throwIfRefused_6 rfl ?_
    refine jS (pc := 10) F 0 0 (c_X7_requireArgument_1  ?_) rfl ⟨k_X7_requireArgument, il_RX7_92, it_X7_requireArgument, ii_RX7⟩ rfl 1 rfl hd_X7_requireArgument ⟨by decide, by decide, by decide, by decide, Nat.le_of_ble_eq_true rfl⟩ dX7_throwIfRefused_10
    refine j0 ?_
    refine ia_iload_n (pc := 13) F dX7_throwIfRefused_13 rfl ?_
    refine ia_bipush (pc := 14) F dX7_throwIfRefused_14 (by decide) ?_
    refine ia_icmp_eq (pc := 16) F 23 dX7_throwIfRefused_16 rfl (by omega) (by omega) (fun h_2 => ?_) (fun h_2 => ?_)
    · refine ia_iconst (pc := 23) F dX7_throwIfRefused_23 ?_
      refine jS (pc := 24) F 1 6 (c_X7_requireState_0  ?_) rfl ⟨k_X7_requireState, il_RX7_285, it_X7_requireState, ii_RX7⟩ rfl 1 rfl hd_X7_requireState ⟨by decide, by decide, by decide, by decide, Nat.le_of_ble_eq_true rfl⟩ dX7_throwIfRefused_24
      refine jx ?_
      refine ia_out F M (by decide) (by decide) ?_
      exfalso
      omega
    · refine ia_iconst (pc := 19) F dX7_throwIfRefused_19 ?_
      refine ia_goto (pc := 20) F 24 dX7_throwIfRefused_20 rfl ?_
      refine jS (pc := 24) F 0 0 (c_X7_requireState_1  ?_) rfl ⟨k_X7_requireState, il_RX7_285, it_X7_requireState, ii_RX7⟩ rfl 1 rfl hd_X7_requireState ⟨by decide, by decide, by decide, by decide, Nat.le_of_ble_eq_true rfl⟩ dX7_throwIfRefused_24
      refine j0 ?_
      refine ia_iload_n (pc := 27) F dX7_throwIfRefused_27 rfl ?_
      refine ia_bipush (pc := 28) F dX7_throwIfRefused_28 (by decide) ?_
      refine ia_icmp_eq (pc := 30) F 37 dX7_throwIfRefused_30 rfl (by omega) (by omega) (fun h_3 => ?_) (fun h_3 => ?_)
      · refine ia_iconst (pc := 37) F dX7_throwIfRefused_37 ?_
        refine jS (pc := 38) F 1 6 (c_X7_requireIndex_0  ?_) rfl ⟨k_X7_requireIndex, il_RX7_138, it_X7_requireIndex, ii_RX7⟩ rfl 1 rfl hd_X7_requireIndex ⟨by decide, by decide, by decide, by decide, Nat.le_of_ble_eq_true rfl⟩ dX7_throwIfRefused_38
        refine jx ?_
        refine ia_out F M (by decide) (by decide) ?_
        exfalso
        omega
      · refine ia_iconst (pc := 33) F dX7_throwIfRefused_33 ?_
        refine ia_goto (pc := 34) F 38 dX7_throwIfRefused_34 rfl ?_
        refine jS (pc := 38) F 0 0 (c_X7_requireIndex_1  ?_) rfl ⟨k_X7_requireIndex, il_RX7_138, it_X7_requireIndex, ii_RX7⟩ rfl 1 rfl hd_X7_requireIndex ⟨by decide, by decide, by decide, by decide, Nat.le_of_ble_eq_true rfl⟩ dX7_throwIfRefused_38
        refine j0 ?_
        refine ia_iload_n (pc := 41) F dX7_throwIfRefused_41 rfl ?_
        refine ia_bipush (pc := 42) F dX7_throwIfRefused_42 (by decide) ?_
        refine ia_icmp_ne (pc := 44) F 58 dX7_throwIfRefused_44 rfl (by omega) (by omega) (fun h_4 => ?_) (fun h_4 => ?_)
        · refine ia_return (pc := 58) F M (by decide) (by decide) dX7_throwIfRefused_58 ?_
          exact q1
        · refine th_RX7_391_393_395 (pc := 47) F M dX7_throwIfRefused_47 dX7_throwIfRefused_50 dX7_throwIfRefused_51 dX7_throwIfRefused_54 dX7_throwIfRefused_57 ⟨by decide, by decide, by decide, by decide, by decide⟩ ?_
          exfalso
          omega
set_option maxRecDepth 100000 in
theorem c_X7_carryOut_0 {Z : ia_Z} {V : ia_H} {Q : ia_O → ia_Z → ia_H → Prop} {σ : Nat → Int} {m : Int} (c : Int) (u : Int) (hZ : ZI Z) (hP : PI V) (hS : Sh 1 V σ) (hI : SI σ m)  (rc : -2147483648 ≤ c ∧ c ≤ 2147483647) (ru : -2147483648 ≤ u ∧ u ≤ 2147483647) (q1 : (¬ ((0 ≤ c ∧ c ≤ 9) ∧ 1 ≤ u ∧ u ≤ 999)) → Q (.inl (some (0, (-1)))) Z V) (q2 : ((0 ≤ c ∧ c ≤ 9) ∧ 1 ≤ u ∧ u ≤ 999) → (999 < wel σ c.toNat + u) → Q (.inl (some (0, (-2)))) Z V) (q3 : ∀ (V1 : ia_H), ((0 ≤ c ∧ c ≤ 9) ∧ 1 ≤ u ∧ u ≤ 999) → (wel σ c.toNat + u ≤ 999) → PI V1 → (∀ pp, pp ∉ ([1, 2, 3, 4, 5, 6, 7] : List Nat) → V1 pp = V pp) → (Sh 1 V1 (s_pour σ c.toNat u)) → Q (.inl (some (0, (wel σ c.toNat + u)))) Z V1) : ia_K yX7_carryOut cX7_carryOut 4 (some .int) [(4, ((0 : Nat) : Int)), (4, ((ia_E0 + 0 : Nat) : Int)), (0, c), (0, u)] Z V 7 0 0 Q := by
  refine ia_start RX7 "carryOut" ⟨by decide, rfl, rfl⟩ (Nat.le_of_ble_eq_true rfl) (ia_tg rfl) (fun X F M => ?_)
  show ia_G X 0 0 0 [(4, ((0 : Nat) : Int)), (4, ((ia_E0 + 0 : Nat) : Int)), (0, c), (0, u)] [] Z V
  obtain ⟨s0, s1, s2, s3, s4, s5, s6, s7, s18, sb, sw, se, sp⟩ := id hI
  refine ia_aload_n (pc := 0) F dX7_carryOut_0 rfl ?_
  refine ia_getCmd (pc := 1) F 0 (by decide) il_RX7_72 dX7_carryOut_1 ?_
  refine ia_acmp_ne (pc := 4) F 17 0 0 rfl rfl (by omega) (by omega) dX7_carryOut_4 rfl (fun h9 => absurd rfl h9) (fun _ => ?_)
  refine ia_aload_n (pc := 7) F dX7_carryOut_7 rfl ?_
  refine jg (pc := 8) F (z0 hZ) cls10 f10_0 (hP 0 0 1 rfl) il_RX7_12 dX7_carryOut_8 ?_
  refine ia_iload_n (pc := 11) F dX7_carryOut_11 rfl ?_
  refine ia_iload_n (pc := 12) F dX7_carryOut_12 rfl ?_
  refine jV (pc := 13) F 0 0 (z1 hZ) cls9.1 (c_X6_pour c u hZ hP hS hI (by omega) (by omega) (fun h_1 => ?_) (fun h_2 h_3 => ?_) (fun V_4 h_5 h_6 p_7 f_8 x_9 => ?_)) rfl ⟨k_X6_pour, il_RX7_342, im_X6_pour, is_X6_pour, ii_RX6⟩ 2 rfl hd_X6_pour ⟨by decide, by decide, by decide, by decide, Nat.le_of_ble_eq_true rfl⟩ dX7_carryOut_13
  · refine j1 ?_
    refine ia_ireturn (pc := 16) F M (by decide) (by decide) dX7_carryOut_16 ?_
    exact q1 h_1
  · refine j1 ?_
    refine ia_ireturn (pc := 16) F M (by decide) (by decide) dX7_carryOut_16 ?_
    exact q2 h_2 h_3
  · refine j1 ?_
    refine ia_ireturn (pc := 16) F M (by decide) (by decide) dX7_carryOut_16 ?_
    exact q3 _ h_5 h_6 p_7 (Fr_c (Fr_0 (V := V) (S := [1, 2, 3, 4, 5, 6, 7])) f_8 (by decide)) x_9
set_option maxRecDepth 100000 in
theorem c_X7_carryOut_1 {Z : ia_Z} {V : ia_H} {Q : ia_O → ia_Z → ia_H → Prop} {σ : Nat → Int} {m : Int} (u : Int) (v2 : Int) (hZ : ZI Z) (hP : PI V) (hS : Sh 1 V σ) (hI : SI σ m)  (ru : -2147483648 ≤ u ∧ u ≤ 2147483647) (q1 : (¬ (1 ≤ u ∧ u ≤ 999)) → Q (.inl (some (0, (-1)))) Z V) (q2 : (1 ≤ u ∧ u ≤ 999) → (9999 < σ 2 + u) → Q (.inl (some (0, (-2)))) Z V) (q3 : ∀ (V1 : ia_H), (1 ≤ u ∧ u ≤ 999) → (σ 2 + u ≤ 9999) → PI V1 → (∀ pp, pp ∉ ([1, 2, 3, 4, 5, 6, 7] : List Nat) → V1 pp = V pp) → (Sh 1 V1 (s_buy σ u)) → Q (.inl (some (0, (σ 2 + u)))) Z V1) : ia_K yX7_carryOut cX7_carryOut 4 (some .int) [(4, ((0 : Nat) : Int)), (4, ((ia_E0 + 1 : Nat) : Int)), (0, u), (0, v2)] Z V 7 0 0 Q := by
  refine ia_start RX7 "carryOut" ⟨by decide, rfl, rfl⟩ (Nat.le_of_ble_eq_true rfl) (ia_tg rfl) (fun X F M => ?_)
  show ia_G X 0 0 0 [(4, ((0 : Nat) : Int)), (4, ((ia_E0 + 1 : Nat) : Int)), (0, u), (0, v2)] [] Z V
  obtain ⟨s0, s1, s2, s3, s4, s5, s6, s7, s18, sb, sw, se, sp⟩ := id hI
  refine ia_aload_n (pc := 0) F dX7_carryOut_0 rfl ?_
  refine ia_getCmd (pc := 1) F 0 (by decide) il_RX7_72 dX7_carryOut_1 ?_
  refine ia_acmp_ne (pc := 4) F 17 1 0 rfl rfl (by omega) (by omega) dX7_carryOut_4 rfl (fun _ => ?_) (fun h9 => absurd h9 (by decide))
  refine ia_aload_n (pc := 17) F dX7_carryOut_17 rfl ?_
  refine ia_getCmd (pc := 18) F 1 (by decide) il_RX7_82 dX7_carryOut_18 ?_
  refine ia_acmp_ne (pc := 21) F 33 1 1 rfl rfl (by omega) (by omega) dX7_carryOut_21 rfl (fun h9 => absurd rfl h9) (fun _ => ?_)
  refine ia_aload_n (pc := 24) F dX7_carryOut_24 rfl ?_
  refine jg (pc := 25) F (z0 hZ) cls10 f10_0 (hP 0 0 1 rfl) il_RX7_12 dX7_carryOut_25 ?_
  refine ia_iload_n (pc := 28) F dX7_carryOut_28 rfl ?_
  refine jV (pc := 29) F 0 0 (z1 hZ) cls9.1 (c_X6_buy u hZ hP hS hI (by omega) (fun h_1 => ?_) (fun h_2 h_3 => ?_) (fun V_4 h_5 h_6 p_7 f_8 x_9 => ?_)) rfl ⟨k_X6_buy, il_RX7_345, im_X6_buy, is_X6_buy, ii_RX6⟩ 1 rfl hd_X6_buy ⟨by decide, by decide, by decide, by decide, Nat.le_of_ble_eq_true rfl⟩ dX7_carryOut_29
  · refine j1 ?_
    refine ia_ireturn (pc := 32) F M (by decide) (by decide) dX7_carryOut_32 ?_
    exact q1 h_1
  · refine j1 ?_
    refine ia_ireturn (pc := 32) F M (by decide) (by decide) dX7_carryOut_32 ?_
    exact q2 h_2 h_3
  · refine j1 ?_
    refine ia_ireturn (pc := 32) F M (by decide) (by decide) dX7_carryOut_32 ?_
    exact q3 _ h_5 h_6 p_7 (Fr_c (Fr_0 (V := V) (S := [1, 2, 3, 4, 5, 6, 7])) f_8 (by decide)) x_9
set_option maxRecDepth 100000 in
theorem c_X7_carryOut_2 {Z : ia_Z} {V : ia_H} {Q : ia_O → ia_Z → ia_H → Prop} {σ : Nat → Int} {m : Int} (c : Int) (u : Int) (hZ : ZI Z) (hP : PI V) (hS : Sh 1 V σ) (hI : SI σ m)  (rc : -2147483648 ≤ c ∧ c ≤ 2147483647) (ru : -2147483648 ≤ u ∧ u ≤ 2147483647) (q1 : (¬ ((0 ≤ c ∧ c ≤ 9) ∧ 1 ≤ u ∧ u ≤ 50)) → Q (.inl (some (0, (-1)))) Z V) (q2 : ((0 ≤ c ∧ c ≤ 9) ∧ 1 ≤ u ∧ u ≤ 50) → (σ 0 = 7) → Q (.inl (some (0, (-2)))) Z V) (q3 : ∀ (V1 : ia_H), ((0 ≤ c ∧ c ≤ 9) ∧ 1 ≤ u ∧ u ≤ 50) → (¬ σ 0 = 7) → PI V1 → (∀ pp, pp ∉ ([1, 2, 3, 4, 5, 6, 7] : List Nat) → V1 pp = V pp) → (Sh 1 V1 (s_add σ c u)) → Q (.inl (some (0, (σ 0)))) Z V1) : ia_K yX7_carryOut cX7_carryOut 4 (some .int) [(4, ((0 : Nat) : Int)), (4, ((ia_E0 + 2 : Nat) : Int)), (0, c), (0, u)] Z V 7 0 0 Q := by
  refine ia_start RX7 "carryOut" ⟨by decide, rfl, rfl⟩ (Nat.le_of_ble_eq_true rfl) (ia_tg rfl) (fun X F M => ?_)
  show ia_G X 0 0 0 [(4, ((0 : Nat) : Int)), (4, ((ia_E0 + 2 : Nat) : Int)), (0, c), (0, u)] [] Z V
  obtain ⟨s0, s1, s2, s3, s4, s5, s6, s7, s18, sb, sw, se, sp⟩ := id hI
  refine ia_aload_n (pc := 0) F dX7_carryOut_0 rfl ?_
  refine ia_getCmd (pc := 1) F 0 (by decide) il_RX7_72 dX7_carryOut_1 ?_
  refine ia_acmp_ne (pc := 4) F 17 2 0 rfl rfl (by omega) (by omega) dX7_carryOut_4 rfl (fun _ => ?_) (fun h9 => absurd h9 (by decide))
  refine ia_aload_n (pc := 17) F dX7_carryOut_17 rfl ?_
  refine ia_getCmd (pc := 18) F 1 (by decide) il_RX7_82 dX7_carryOut_18 ?_
  refine ia_acmp_ne (pc := 21) F 33 2 1 rfl rfl (by omega) (by omega) dX7_carryOut_21 rfl (fun _ => ?_) (fun h9 => absurd h9 (by decide))
  refine ia_aload_n (pc := 33) F dX7_carryOut_33 rfl ?_
  refine ia_getCmd (pc := 34) F 2 (by decide) il_RX7_120 dX7_carryOut_34 ?_
  refine ia_acmp_ne (pc := 37) F 50 2 2 rfl rfl (by omega) (by omega) dX7_carryOut_37 rfl (fun h9 => absurd rfl h9) (fun _ => ?_)
  refine ia_aload_n (pc := 40) F dX7_carryOut_40 rfl ?_
  refine jg (pc := 41) F (z0 hZ) cls10 f10_0 (hP 0 0 1 rfl) il_RX7_12 dX7_carryOut_41 ?_
  refine ia_iload_n (pc := 44) F dX7_carryOut_44 rfl ?_
  refine ia_iload_n (pc := 45) F dX7_carryOut_45 rfl ?_
  refine jV (pc := 46) F 0 0 (z1 hZ) cls9.1 (c_X6_takeEdition c u hZ hP hS hI (by omega) (by omega) (fun h_1 => ?_) (fun h_2 h_3 => ?_) (fun V_4 h_5 h_6 p_7 f_8 x_9 => ?_)) rfl ⟨k_X6_takeEdition, il_RX7_348, im_X6_takeEdition, is_X6_takeEdition, ii_RX6⟩ 2 rfl hd_X6_takeEdition ⟨by decide, by decide, by decide, by decide, Nat.le_of_ble_eq_true rfl⟩ dX7_carryOut_46
  · refine j1 ?_
    refine ia_ireturn (pc := 49) F M (by decide) (by decide) dX7_carryOut_49 ?_
    exact q1 h_1
  · refine j1 ?_
    refine ia_ireturn (pc := 49) F M (by decide) (by decide) dX7_carryOut_49 ?_
    exact q2 h_2 h_3
  · refine j1 ?_
    refine ia_ireturn (pc := 49) F M (by decide) (by decide) dX7_carryOut_49 ?_
    exact q3 _ h_5 h_6 p_7 (Fr_c (Fr_0 (V := V) (S := [1, 2, 3, 4, 5, 6, 7])) f_8 (by decide)) x_9
set_option maxRecDepth 100000 in
theorem c_X7_carryOut_3 {Z : ia_Z} {V : ia_H} {Q : ia_O → ia_Z → ia_H → Prop} {σ : Nat → Int} {m : Int} (e : Int) (v2 : Int) (hZ : ZI Z) (hP : PI V) (hS : Sh 1 V σ) (hI : SI σ m)  (re : -2147483648 ≤ e ∧ e ≤ 2147483647) (q1 : (¬ (0 ≤ e ∧ e < σ 0)) → Q (.inl (some (0, (-3)))) Z V) (q2 : ∀ (V1 : ia_H), (0 ≤ e ∧ e < σ 0) → PI V1 → (∀ pp, pp ∉ ([1, 2, 3, 4, 5, 6, 7] : List Nat) → V1 pp = V pp) → (Sh 1 V1 (s_rem σ e.toNat)) → Q (.inl (some (0, (σ 0 - 1)))) Z V1) : ia_K yX7_carryOut cX7_carryOut 4 (some .int) [(4, ((0 : Nat) : Int)), (4, ((ia_E0 + 3 : Nat) : Int)), (0, e), (0, v2)] Z V 7 0 0 Q := by
  refine ia_start RX7 "carryOut" ⟨by decide, rfl, rfl⟩ (Nat.le_of_ble_eq_true rfl) (ia_tg rfl) (fun X F M => ?_)
  show ia_G X 0 0 0 [(4, ((0 : Nat) : Int)), (4, ((ia_E0 + 3 : Nat) : Int)), (0, e), (0, v2)] [] Z V
  obtain ⟨s0, s1, s2, s3, s4, s5, s6, s7, s18, sb, sw, se, sp⟩ := id hI
  refine ia_aload_n (pc := 0) F dX7_carryOut_0 rfl ?_
  refine ia_getCmd (pc := 1) F 0 (by decide) il_RX7_72 dX7_carryOut_1 ?_
  refine ia_acmp_ne (pc := 4) F 17 3 0 rfl rfl (by omega) (by omega) dX7_carryOut_4 rfl (fun _ => ?_) (fun h9 => absurd h9 (by decide))
  refine ia_aload_n (pc := 17) F dX7_carryOut_17 rfl ?_
  refine ia_getCmd (pc := 18) F 1 (by decide) il_RX7_82 dX7_carryOut_18 ?_
  refine ia_acmp_ne (pc := 21) F 33 3 1 rfl rfl (by omega) (by omega) dX7_carryOut_21 rfl (fun _ => ?_) (fun h9 => absurd h9 (by decide))
  refine ia_aload_n (pc := 33) F dX7_carryOut_33 rfl ?_
  refine ia_getCmd (pc := 34) F 2 (by decide) il_RX7_120 dX7_carryOut_34 ?_
  refine ia_acmp_ne (pc := 37) F 50 3 2 rfl rfl (by omega) (by omega) dX7_carryOut_37 rfl (fun _ => ?_) (fun h9 => absurd h9 (by decide))
  refine ia_aload_n (pc := 50) F dX7_carryOut_50 rfl ?_
  refine ia_getCmd (pc := 51) F 3 (by decide) il_RX7_123 dX7_carryOut_51 ?_
  refine ia_acmp_ne (pc := 54) F 66 3 3 rfl rfl (by omega) (by omega) dX7_carryOut_54 rfl (fun h9 => absurd rfl h9) (fun _ => ?_)
  refine ia_aload_n (pc := 57) F dX7_carryOut_57 rfl ?_
  refine jg (pc := 58) F (z0 hZ) cls10 f10_0 (hP 0 0 1 rfl) il_RX7_12 dX7_carryOut_58 ?_
  refine ia_iload_n (pc := 61) F dX7_carryOut_61 rfl ?_
  refine jV (pc := 62) F 0 0 (z1 hZ) cls9.1 (c_X6_strikeEdition e hZ hP hS hI (by omega) (fun h_1 => ?_) (fun V_2 h_3 p_4 f_5 x_6 => ?_)) rfl ⟨k_X6_strikeEdition, il_RX7_351, im_X6_strikeEdition, is_X6_strikeEdition, ii_RX6⟩ 1 rfl hd_X6_strikeEdition ⟨by decide, by decide, by decide, by decide, Nat.le_of_ble_eq_true rfl⟩ dX7_carryOut_62
  · refine j1 ?_
    refine ia_ireturn (pc := 65) F M (by decide) (by decide) dX7_carryOut_65 ?_
    exact q1 h_1
  · refine j1 ?_
    refine ia_ireturn (pc := 65) F M (by decide) (by decide) dX7_carryOut_65 ?_
    exact q2 _ h_3 p_4 (Fr_c (Fr_0 (V := V) (S := [1, 2, 3, 4, 5, 6, 7])) f_5 (by decide)) x_6
set_option maxRecDepth 100000 in
theorem c_X7_carryOut_4 {Z : ia_Z} {V : ia_H} {Q : ia_O → ia_Z → ia_H → Prop} {σ : Nat → Int} {m : Int} (e : Int) (v2 : Int) (hZ : ZI Z) (hP : PI V) (hS : Sh 1 V σ) (hI : SI σ m)  (re : -2147483648 ≤ e ∧ e ≤ 2147483647) (q1 : (¬ (0 ≤ e ∧ e < σ 0)) → Q (.inl (some (0, (-3)))) Z V) (q2 : (0 ≤ e ∧ e < σ 0) → (miss σ e.toNat = 0) → Q (.inl (some (0, (-2)))) Z V) (q3 : (0 ≤ e ∧ e < σ 0) → (¬ miss σ e.toNat = 0) → (σ 2 = 0 ∨ wel σ (col σ e.toNat).toNat = 0) → Q (.inl (some (0, (-4)))) Z V) (q4 : ∀ (n : Int) (V1 : ia_H), (0 ≤ e ∧ e < σ 0) → (¬ miss σ e.toNat = 0) → (¬ (σ 2 = 0 ∨ wel σ (col σ e.toNat).toNat = 0)) → (n = min (miss σ e.toNat) (min (σ 2) (wel σ (col σ e.toNat).toNat))) → PI V1 → (∀ pp, pp ∉ ([1, 2, 3, 4, 5, 6, 7] : List Nat) → V1 pp = V pp) → (Sh 1 V1 (s_print σ e.toNat n)) → Q (.inl (some (0, n))) Z V1) : ia_K yX7_carryOut cX7_carryOut 4 (some .int) [(4, ((0 : Nat) : Int)), (4, ((ia_E0 + 4 : Nat) : Int)), (0, e), (0, v2)] Z V 7 0 0 Q := by
  refine ia_start RX7 "carryOut" ⟨by decide, rfl, rfl⟩ (Nat.le_of_ble_eq_true rfl) (ia_tg rfl) (fun X F M => ?_)
  show ia_G X 0 0 0 [(4, ((0 : Nat) : Int)), (4, ((ia_E0 + 4 : Nat) : Int)), (0, e), (0, v2)] [] Z V
  obtain ⟨s0, s1, s2, s3, s4, s5, s6, s7, s18, sb, sw, se, sp⟩ := id hI
  refine ia_aload_n (pc := 0) F dX7_carryOut_0 rfl ?_
  refine ia_getCmd (pc := 1) F 0 (by decide) il_RX7_72 dX7_carryOut_1 ?_
  refine ia_acmp_ne (pc := 4) F 17 4 0 rfl rfl (by omega) (by omega) dX7_carryOut_4 rfl (fun _ => ?_) (fun h9 => absurd h9 (by decide))
  refine ia_aload_n (pc := 17) F dX7_carryOut_17 rfl ?_
  refine ia_getCmd (pc := 18) F 1 (by decide) il_RX7_82 dX7_carryOut_18 ?_
  refine ia_acmp_ne (pc := 21) F 33 4 1 rfl rfl (by omega) (by omega) dX7_carryOut_21 rfl (fun _ => ?_) (fun h9 => absurd h9 (by decide))
  refine ia_aload_n (pc := 33) F dX7_carryOut_33 rfl ?_
  refine ia_getCmd (pc := 34) F 2 (by decide) il_RX7_120 dX7_carryOut_34 ?_
  refine ia_acmp_ne (pc := 37) F 50 4 2 rfl rfl (by omega) (by omega) dX7_carryOut_37 rfl (fun _ => ?_) (fun h9 => absurd h9 (by decide))
  refine ia_aload_n (pc := 50) F dX7_carryOut_50 rfl ?_
  refine ia_getCmd (pc := 51) F 3 (by decide) il_RX7_123 dX7_carryOut_51 ?_
  refine ia_acmp_ne (pc := 54) F 66 4 3 rfl rfl (by omega) (by omega) dX7_carryOut_54 rfl (fun _ => ?_) (fun h9 => absurd h9 (by decide))
  refine ia_aload_n (pc := 66) F dX7_carryOut_66 rfl ?_
  refine ia_getCmd (pc := 67) F 4 (by decide) il_RX7_126 dX7_carryOut_67 ?_
  refine ia_acmp_ne (pc := 70) F 82 4 4 rfl rfl (by omega) (by omega) dX7_carryOut_70 rfl (fun h9 => absurd rfl h9) (fun _ => ?_)
  refine ia_aload_n (pc := 73) F dX7_carryOut_73 rfl ?_
  refine jg (pc := 74) F (z0 hZ) cls10 f10_0 (hP 0 0 1 rfl) il_RX7_12 dX7_carryOut_74 ?_
  refine ia_iload_n (pc := 77) F dX7_carryOut_77 rfl ?_
  refine jV (pc := 78) F 0 0 (z1 hZ) cls9.1 (c_X6_printOne e hZ hP hS hI (by omega) (fun h_1 => ?_) (fun h_2 h_3 => ?_) (fun h_4 h_5 h_6 => ?_) (fun n_7 V_8 h_9 h_10 h_11 h_12 p_13 f_14 x_15 => ?_)) rfl ⟨k_X6_printOne, il_RX7_354, im_X6_printOne, is_X6_printOne, ii_RX6⟩ 1 rfl hd_X6_printOne ⟨by decide, by decide, by decide, by decide, Nat.le_of_ble_eq_true rfl⟩ dX7_carryOut_78
  · refine j1 ?_
    refine ia_ireturn (pc := 81) F M (by decide) (by decide) dX7_carryOut_81 ?_
    exact q1 h_1
  · refine j1 ?_
    refine ia_ireturn (pc := 81) F M (by decide) (by decide) dX7_carryOut_81 ?_
    exact q2 h_2 h_3
  · refine j1 ?_
    refine ia_ireturn (pc := 81) F M (by decide) (by decide) dX7_carryOut_81 ?_
    exact q3 h_4 h_5 h_6
  · refine j1 ?_
    refine ia_ireturn (pc := 81) F M (by decide) (by decide) dX7_carryOut_81 ?_
    exact q4 n_7 _ h_9 h_10 h_11 h_12 p_13 (Fr_c (Fr_0 (V := V) (S := [1, 2, 3, 4, 5, 6, 7])) f_14 (by decide)) x_15
set_option maxRecDepth 100000 in
theorem c_X7_carryOut_5 {Z : ia_Z} {V : ia_H} {Q : ia_O → ia_Z → ia_H → Prop} {σ : Nat → Int} {ρ : Nat → Int} {α1 : Nat → Int} {α2 : Nat → Int} {α3 : Nat → Int} {α4 : Nat → Int} {δ : Nat → Int} {m : Int} (v1 : Int) (v2 : Int) (hZ : ZI Z) (hP : PI V) (hS : Sh 1 V σ) (hI : SI σ m) (h80 : V 80 = ρ) (h81 : V 81 = α1) (h82 : V 82 = α2) (h83 : V 83 = α3) (h84 : V 84 = α4) (h86 : V 86 = δ) (hm : m + 1 ≤ 20000) (q1 : ∀ (V1 : ia_H), PI V1 → (∀ pp, pp ∉ ([1, 2, 3, 4, 5, 6, 7, 80, 81, 82, 83, 84, 86] : List Nat) → V1 pp = V pp) → (Sh 1 V1 (s_all σ)) → Q (.inl (some (0, (n_all σ)))) Z V1) : ia_K yX7_carryOut cX7_carryOut 4 (some .int) [(4, ((0 : Nat) : Int)), (4, ((ia_E0 + 5 : Nat) : Int)), (0, v1), (0, v2)] Z V 7 0 0 Q := by
  refine ia_start RX7 "carryOut" ⟨by decide, rfl, rfl⟩ (Nat.le_of_ble_eq_true rfl) (ia_tg rfl) (fun X F M => ?_)
  show ia_G X 0 0 0 [(4, ((0 : Nat) : Int)), (4, ((ia_E0 + 5 : Nat) : Int)), (0, v1), (0, v2)] [] Z V
  obtain ⟨s0, s1, s2, s3, s4, s5, s6, s7, s18, sb, sw, se, sp⟩ := id hI
  refine ia_aload_n (pc := 0) F dX7_carryOut_0 rfl ?_
  refine ia_getCmd (pc := 1) F 0 (by decide) il_RX7_72 dX7_carryOut_1 ?_
  refine ia_acmp_ne (pc := 4) F 17 5 0 rfl rfl (by omega) (by omega) dX7_carryOut_4 rfl (fun _ => ?_) (fun h9 => absurd h9 (by decide))
  refine ia_aload_n (pc := 17) F dX7_carryOut_17 rfl ?_
  refine ia_getCmd (pc := 18) F 1 (by decide) il_RX7_82 dX7_carryOut_18 ?_
  refine ia_acmp_ne (pc := 21) F 33 5 1 rfl rfl (by omega) (by omega) dX7_carryOut_21 rfl (fun _ => ?_) (fun h9 => absurd h9 (by decide))
  refine ia_aload_n (pc := 33) F dX7_carryOut_33 rfl ?_
  refine ia_getCmd (pc := 34) F 2 (by decide) il_RX7_120 dX7_carryOut_34 ?_
  refine ia_acmp_ne (pc := 37) F 50 5 2 rfl rfl (by omega) (by omega) dX7_carryOut_37 rfl (fun _ => ?_) (fun h9 => absurd h9 (by decide))
  refine ia_aload_n (pc := 50) F dX7_carryOut_50 rfl ?_
  refine ia_getCmd (pc := 51) F 3 (by decide) il_RX7_123 dX7_carryOut_51 ?_
  refine ia_acmp_ne (pc := 54) F 66 5 3 rfl rfl (by omega) (by omega) dX7_carryOut_54 rfl (fun _ => ?_) (fun h9 => absurd h9 (by decide))
  refine ia_aload_n (pc := 66) F dX7_carryOut_66 rfl ?_
  refine ia_getCmd (pc := 67) F 4 (by decide) il_RX7_126 dX7_carryOut_67 ?_
  refine ia_acmp_ne (pc := 70) F 82 5 4 rfl rfl (by omega) (by omega) dX7_carryOut_70 rfl (fun _ => ?_) (fun h9 => absurd h9 (by decide))
  refine ia_aload_n (pc := 82) F dX7_carryOut_82 rfl ?_
  refine ia_getCmd (pc := 83) F 5 (by decide) il_RX7_129 dX7_carryOut_83 ?_
  refine ia_acmp_ne (pc := 86) F 94 5 5 rfl rfl (by omega) (by omega) dX7_carryOut_86 rfl (fun h9 => absurd rfl h9) (fun _ => ?_)
  refine ia_aload_n (pc := 89) F dX7_carryOut_89 rfl ?_
  refine jV (pc := 90) F 0 0 (z0 hZ) cls10.1 (c_X7_printOpenEditions hZ hP hS hI h80 h81 h82 h83 h84 h86 (by omega) (fun V_1 p_2 f_3 x_4 => ?_)) rfl ⟨k_X7_printOpenEditions, il_RX7_357, im_X7_printOpenEditions, is_X7_printOpenEditions, ii_RX7⟩ 0 rfl hd_X7_printOpenEditions ⟨by decide, by decide, by decide, by decide, Nat.le_of_ble_eq_true rfl⟩ dX7_carryOut_90
  refine j1 ?_
  refine ia_ireturn (pc := 93) F M (by decide) (by decide) dX7_carryOut_93 ?_
  exact q1 _ p_2 (Fr_c (Fr_0 (V := V) (S := [1, 2, 3, 4, 5, 6, 7, 80, 81, 82, 83, 84, 86])) f_3 (by decide)) x_4
set_option maxRecDepth 100000 in
theorem c_X7_carryOut_6 {Z : ia_Z} {V : ia_H} {Q : ia_O → ia_Z → ia_H → Prop} {σ : Nat → Int} {m : Int} (h : Int) (v2 : Int) (hZ : ZI Z) (hP : PI V) (hS : Sh 1 V σ) (hI : SI σ m)  (rh : -2147483648 ≤ h ∧ h ≤ 2147483647) (q1 : (¬ (1 ≤ h ∧ h ≤ 48)) → Q (.inl (some (0, (-1)))) Z V) (q2 : ∀ (V1 : ia_H), (1 ≤ h ∧ h ≤ 48) → PI V1 → (∀ pp, pp ∉ ([1, 2, 3, 4, 5, 6, 7] : List Nat) → V1 pp = V pp) → (Sh 1 V1 (s_pass σ h.toNat)) → Q (.inl (some (0, (lostN σ h.toNat)))) Z V1) : ia_K yX7_carryOut cX7_carryOut 4 (some .int) [(4, ((0 : Nat) : Int)), (4, ((ia_E0 + 6 : Nat) : Int)), (0, h), (0, v2)] Z V 7 0 0 Q := by
  refine ia_start RX7 "carryOut" ⟨by decide, rfl, rfl⟩ (Nat.le_of_ble_eq_true rfl) (ia_tg rfl) (fun X F M => ?_)
  show ia_G X 0 0 0 [(4, ((0 : Nat) : Int)), (4, ((ia_E0 + 6 : Nat) : Int)), (0, h), (0, v2)] [] Z V
  obtain ⟨s0, s1, s2, s3, s4, s5, s6, s7, s18, sb, sw, se, sp⟩ := id hI
  refine ia_aload_n (pc := 0) F dX7_carryOut_0 rfl ?_
  refine ia_getCmd (pc := 1) F 0 (by decide) il_RX7_72 dX7_carryOut_1 ?_
  refine ia_acmp_ne (pc := 4) F 17 6 0 rfl rfl (by omega) (by omega) dX7_carryOut_4 rfl (fun _ => ?_) (fun h9 => absurd h9 (by decide))
  refine ia_aload_n (pc := 17) F dX7_carryOut_17 rfl ?_
  refine ia_getCmd (pc := 18) F 1 (by decide) il_RX7_82 dX7_carryOut_18 ?_
  refine ia_acmp_ne (pc := 21) F 33 6 1 rfl rfl (by omega) (by omega) dX7_carryOut_21 rfl (fun _ => ?_) (fun h9 => absurd h9 (by decide))
  refine ia_aload_n (pc := 33) F dX7_carryOut_33 rfl ?_
  refine ia_getCmd (pc := 34) F 2 (by decide) il_RX7_120 dX7_carryOut_34 ?_
  refine ia_acmp_ne (pc := 37) F 50 6 2 rfl rfl (by omega) (by omega) dX7_carryOut_37 rfl (fun _ => ?_) (fun h9 => absurd h9 (by decide))
  refine ia_aload_n (pc := 50) F dX7_carryOut_50 rfl ?_
  refine ia_getCmd (pc := 51) F 3 (by decide) il_RX7_123 dX7_carryOut_51 ?_
  refine ia_acmp_ne (pc := 54) F 66 6 3 rfl rfl (by omega) (by omega) dX7_carryOut_54 rfl (fun _ => ?_) (fun h9 => absurd h9 (by decide))
  refine ia_aload_n (pc := 66) F dX7_carryOut_66 rfl ?_
  refine ia_getCmd (pc := 67) F 4 (by decide) il_RX7_126 dX7_carryOut_67 ?_
  refine ia_acmp_ne (pc := 70) F 82 6 4 rfl rfl (by omega) (by omega) dX7_carryOut_70 rfl (fun _ => ?_) (fun h9 => absurd h9 (by decide))
  refine ia_aload_n (pc := 82) F dX7_carryOut_82 rfl ?_
  refine ia_getCmd (pc := 83) F 5 (by decide) il_RX7_129 dX7_carryOut_83 ?_
  refine ia_acmp_ne (pc := 86) F 94 6 5 rfl rfl (by omega) (by omega) dX7_carryOut_86 rfl (fun _ => ?_) (fun h9 => absurd h9 (by decide))
  refine ia_aload_n (pc := 94) F dX7_carryOut_94 rfl ?_
  refine ia_getCmd (pc := 95) F 6 (by decide) il_RX7_85 dX7_carryOut_95 ?_
  refine ia_acmp_ne (pc := 98) F 110 6 6 rfl rfl (by omega) (by omega) dX7_carryOut_98 rfl (fun h9 => absurd rfl h9) (fun _ => ?_)
  refine ia_aload_n (pc := 101) F dX7_carryOut_101 rfl ?_
  refine jg (pc := 102) F (z0 hZ) cls10 f10_0 (hP 0 0 1 rfl) il_RX7_12 dX7_carryOut_102 ?_
  refine ia_iload_n (pc := 105) F dX7_carryOut_105 rfl ?_
  refine jV (pc := 106) F 0 0 (z1 hZ) cls9.1 (c_X6_letPass h hZ hP hS hI (by omega) (fun h_1 => ?_) (fun V_2 h_3 p_4 f_5 x_6 => ?_)) rfl ⟨k_X6_letPass, il_RX7_360, im_X6_letPass, is_X6_letPass, ii_RX6⟩ 1 rfl hd_X6_letPass ⟨by decide, by decide, by decide, by decide, Nat.le_of_ble_eq_true rfl⟩ dX7_carryOut_106
  · refine j1 ?_
    refine ia_ireturn (pc := 109) F M (by decide) (by decide) dX7_carryOut_109 ?_
    exact q1 h_1
  · refine j1 ?_
    refine ia_ireturn (pc := 109) F M (by decide) (by decide) dX7_carryOut_109 ?_
    exact q2 _ h_3 p_4 (Fr_c (Fr_0 (V := V) (S := [1, 2, 3, 4, 5, 6, 7])) f_5 (by decide)) x_6
set_option maxRecDepth 100000 in
theorem c_X7_carryOut_7 {Z : ia_Z} {V : ia_H} {Q : ia_O → ia_Z → ia_H → Prop} {σ : Nat → Int} {m : Int} (u : Int) (v2 : Int) (hZ : ZI Z) (hP : PI V) (hS : Sh 1 V σ) (hI : SI σ m)  (ru : -2147483648 ≤ u ∧ u ≤ 2147483647) (q1 : (¬ (0 ≤ u ∧ u ≤ 99)) → Q (.inl (some (0, (-1)))) Z V) (q2 : (0 ≤ u ∧ u ≤ 99) → (σ 1 = 12) → Q (.inl (some (0, (-2)))) Z V) (q3 : ∀ (V1 : ia_H), (0 ≤ u ∧ u ≤ 99) → (¬ σ 1 = 12) → PI V1 → (∀ pp, pp ∉ ([1, 2, 3, 4, 5, 6, 7] : List Nat) → V1 pp = V pp) → (Sh 1 V1 (s_prove σ u)) → Q (.inl (some (0, (σ 1)))) Z V1) : ia_K yX7_carryOut cX7_carryOut 4 (some .int) [(4, ((0 : Nat) : Int)), (4, ((ia_E0 + 7 : Nat) : Int)), (0, u), (0, v2)] Z V 7 0 0 Q := by
  refine ia_start RX7 "carryOut" ⟨by decide, rfl, rfl⟩ (Nat.le_of_ble_eq_true rfl) (ia_tg rfl) (fun X F M => ?_)
  show ia_G X 0 0 0 [(4, ((0 : Nat) : Int)), (4, ((ia_E0 + 7 : Nat) : Int)), (0, u), (0, v2)] [] Z V
  obtain ⟨s0, s1, s2, s3, s4, s5, s6, s7, s18, sb, sw, se, sp⟩ := id hI
  refine ia_aload_n (pc := 0) F dX7_carryOut_0 rfl ?_
  refine ia_getCmd (pc := 1) F 0 (by decide) il_RX7_72 dX7_carryOut_1 ?_
  refine ia_acmp_ne (pc := 4) F 17 7 0 rfl rfl (by omega) (by omega) dX7_carryOut_4 rfl (fun _ => ?_) (fun h9 => absurd h9 (by decide))
  refine ia_aload_n (pc := 17) F dX7_carryOut_17 rfl ?_
  refine ia_getCmd (pc := 18) F 1 (by decide) il_RX7_82 dX7_carryOut_18 ?_
  refine ia_acmp_ne (pc := 21) F 33 7 1 rfl rfl (by omega) (by omega) dX7_carryOut_21 rfl (fun _ => ?_) (fun h9 => absurd h9 (by decide))
  refine ia_aload_n (pc := 33) F dX7_carryOut_33 rfl ?_
  refine ia_getCmd (pc := 34) F 2 (by decide) il_RX7_120 dX7_carryOut_34 ?_
  refine ia_acmp_ne (pc := 37) F 50 7 2 rfl rfl (by omega) (by omega) dX7_carryOut_37 rfl (fun _ => ?_) (fun h9 => absurd h9 (by decide))
  refine ia_aload_n (pc := 50) F dX7_carryOut_50 rfl ?_
  refine ia_getCmd (pc := 51) F 3 (by decide) il_RX7_123 dX7_carryOut_51 ?_
  refine ia_acmp_ne (pc := 54) F 66 7 3 rfl rfl (by omega) (by omega) dX7_carryOut_54 rfl (fun _ => ?_) (fun h9 => absurd h9 (by decide))
  refine ia_aload_n (pc := 66) F dX7_carryOut_66 rfl ?_
  refine ia_getCmd (pc := 67) F 4 (by decide) il_RX7_126 dX7_carryOut_67 ?_
  refine ia_acmp_ne (pc := 70) F 82 7 4 rfl rfl (by omega) (by omega) dX7_carryOut_70 rfl (fun _ => ?_) (fun h9 => absurd h9 (by decide))
  refine ia_aload_n (pc := 82) F dX7_carryOut_82 rfl ?_
  refine ia_getCmd (pc := 83) F 5 (by decide) il_RX7_129 dX7_carryOut_83 ?_
  refine ia_acmp_ne (pc := 86) F 94 7 5 rfl rfl (by omega) (by omega) dX7_carryOut_86 rfl (fun _ => ?_) (fun h9 => absurd h9 (by decide))
  refine ia_aload_n (pc := 94) F dX7_carryOut_94 rfl ?_
  refine ia_getCmd (pc := 95) F 6 (by decide) il_RX7_85 dX7_carryOut_95 ?_
  refine ia_acmp_ne (pc := 98) F 110 7 6 rfl rfl (by omega) (by omega) dX7_carryOut_98 rfl (fun _ => ?_) (fun h9 => absurd h9 (by decide))
  refine ia_aload_n (pc := 110) F dX7_carryOut_110 rfl ?_
  refine ia_getCmd (pc := 111) F 7 (by decide) il_RX7_192 dX7_carryOut_111 ?_
  refine ia_acmp_ne (pc := 114) F 126 7 7 rfl rfl (by omega) (by omega) dX7_carryOut_114 rfl (fun h9 => absurd rfl h9) (fun _ => ?_)
  refine ia_aload_n (pc := 117) F dX7_carryOut_117 rfl ?_
  refine jg (pc := 118) F (z0 hZ) cls10 f10_0 (hP 0 0 1 rfl) il_RX7_12 dX7_carryOut_118 ?_
  refine ia_iload_n (pc := 121) F dX7_carryOut_121 rfl ?_
  refine jV (pc := 122) F 0 0 (z1 hZ) cls9.1 (c_X6_makeProof u hZ hP hS hI (by omega) (fun h_1 => ?_) (fun h_2 h_3 => ?_) (fun V_4 h_5 h_6 p_7 f_8 x_9 => ?_)) rfl ⟨k_X6_makeProof, il_RX7_363, im_X6_makeProof, is_X6_makeProof, ii_RX6⟩ 1 rfl hd_X6_makeProof ⟨by decide, by decide, by decide, by decide, Nat.le_of_ble_eq_true rfl⟩ dX7_carryOut_122
  · refine j1 ?_
    refine ia_ireturn (pc := 125) F M (by decide) (by decide) dX7_carryOut_125 ?_
    exact q1 h_1
  · refine j1 ?_
    refine ia_ireturn (pc := 125) F M (by decide) (by decide) dX7_carryOut_125 ?_
    exact q2 h_2 h_3
  · refine j1 ?_
    refine ia_ireturn (pc := 125) F M (by decide) (by decide) dX7_carryOut_125 ?_
    exact q3 _ h_5 h_6 p_7 (Fr_c (Fr_0 (V := V) (S := [1, 2, 3, 4, 5, 6, 7])) f_8 (by decide)) x_9
set_option maxRecDepth 100000 in
theorem c_X7_carryOut_8 {Z : ia_Z} {V : ia_H} {Q : ia_O → ia_Z → ia_H → Prop} {σ : Nat → Int} {m : Int} (e : Int) (v2 : Int) (hZ : ZI Z) (hP : PI V) (hS : Sh 1 V σ) (hI : SI σ m)  (re : -2147483648 ≤ e ∧ e ≤ 2147483647) (q1 : (¬ (0 ≤ e ∧ e < σ 1)) → Q (.inl (some (0, (-3)))) Z V) (q2 : ∀ (V1 : ia_H), (0 ≤ e ∧ e < σ 1) → PI V1 → (∀ pp, pp ∉ ([1, 2, 3, 4, 5, 6, 7] : List Nat) → V1 pp = V pp) → (Sh 1 V1 (s_drop σ e.toNat)) → Q (.inl (some (0, (σ 1 - 1)))) Z V1) : ia_K yX7_carryOut cX7_carryOut 4 (some .int) [(4, ((0 : Nat) : Int)), (4, ((ia_E0 + 8 : Nat) : Int)), (0, e), (0, v2)] Z V 7 0 0 Q := by
  refine ia_start RX7 "carryOut" ⟨by decide, rfl, rfl⟩ (Nat.le_of_ble_eq_true rfl) (ia_tg rfl) (fun X F M => ?_)
  show ia_G X 0 0 0 [(4, ((0 : Nat) : Int)), (4, ((ia_E0 + 8 : Nat) : Int)), (0, e), (0, v2)] [] Z V
  obtain ⟨s0, s1, s2, s3, s4, s5, s6, s7, s18, sb, sw, se, sp⟩ := id hI
  refine ia_aload_n (pc := 0) F dX7_carryOut_0 rfl ?_
  refine ia_getCmd (pc := 1) F 0 (by decide) il_RX7_72 dX7_carryOut_1 ?_
  refine ia_acmp_ne (pc := 4) F 17 8 0 rfl rfl (by omega) (by omega) dX7_carryOut_4 rfl (fun _ => ?_) (fun h9 => absurd h9 (by decide))
  refine ia_aload_n (pc := 17) F dX7_carryOut_17 rfl ?_
  refine ia_getCmd (pc := 18) F 1 (by decide) il_RX7_82 dX7_carryOut_18 ?_
  refine ia_acmp_ne (pc := 21) F 33 8 1 rfl rfl (by omega) (by omega) dX7_carryOut_21 rfl (fun _ => ?_) (fun h9 => absurd h9 (by decide))
  refine ia_aload_n (pc := 33) F dX7_carryOut_33 rfl ?_
  refine ia_getCmd (pc := 34) F 2 (by decide) il_RX7_120 dX7_carryOut_34 ?_
  refine ia_acmp_ne (pc := 37) F 50 8 2 rfl rfl (by omega) (by omega) dX7_carryOut_37 rfl (fun _ => ?_) (fun h9 => absurd h9 (by decide))
  refine ia_aload_n (pc := 50) F dX7_carryOut_50 rfl ?_
  refine ia_getCmd (pc := 51) F 3 (by decide) il_RX7_123 dX7_carryOut_51 ?_
  refine ia_acmp_ne (pc := 54) F 66 8 3 rfl rfl (by omega) (by omega) dX7_carryOut_54 rfl (fun _ => ?_) (fun h9 => absurd h9 (by decide))
  refine ia_aload_n (pc := 66) F dX7_carryOut_66 rfl ?_
  refine ia_getCmd (pc := 67) F 4 (by decide) il_RX7_126 dX7_carryOut_67 ?_
  refine ia_acmp_ne (pc := 70) F 82 8 4 rfl rfl (by omega) (by omega) dX7_carryOut_70 rfl (fun _ => ?_) (fun h9 => absurd h9 (by decide))
  refine ia_aload_n (pc := 82) F dX7_carryOut_82 rfl ?_
  refine ia_getCmd (pc := 83) F 5 (by decide) il_RX7_129 dX7_carryOut_83 ?_
  refine ia_acmp_ne (pc := 86) F 94 8 5 rfl rfl (by omega) (by omega) dX7_carryOut_86 rfl (fun _ => ?_) (fun h9 => absurd h9 (by decide))
  refine ia_aload_n (pc := 94) F dX7_carryOut_94 rfl ?_
  refine ia_getCmd (pc := 95) F 6 (by decide) il_RX7_85 dX7_carryOut_95 ?_
  refine ia_acmp_ne (pc := 98) F 110 8 6 rfl rfl (by omega) (by omega) dX7_carryOut_98 rfl (fun _ => ?_) (fun h9 => absurd h9 (by decide))
  refine ia_aload_n (pc := 110) F dX7_carryOut_110 rfl ?_
  refine ia_getCmd (pc := 111) F 7 (by decide) il_RX7_192 dX7_carryOut_111 ?_
  refine ia_acmp_ne (pc := 114) F 126 8 7 rfl rfl (by omega) (by omega) dX7_carryOut_114 rfl (fun _ => ?_) (fun h9 => absurd h9 (by decide))
  refine ia_aload_n (pc := 126) F dX7_carryOut_126 rfl ?_
  refine jg (pc := 127) F (z0 hZ) cls10 f10_0 (hP 0 0 1 rfl) il_RX7_12 dX7_carryOut_127 ?_
  refine ia_iload_n (pc := 130) F dX7_carryOut_130 rfl ?_
  refine jV (pc := 131) F 0 0 (z1 hZ) cls9.1 (c_X6_discardProof e hZ hP hS hI (by omega) (fun h_1 => ?_) (fun V_2 h_3 p_4 f_5 x_6 => ?_)) rfl ⟨k_X6_discardProof, il_RX7_366, im_X6_discardProof, is_X6_discardProof, ii_RX6⟩ 1 rfl hd_X6_discardProof ⟨by decide, by decide, by decide, by decide, Nat.le_of_ble_eq_true rfl⟩ dX7_carryOut_131
  · refine j1 ?_
    refine ia_ireturn (pc := 134) F M (by decide) (by decide) dX7_carryOut_134 ?_
    exact q1 h_1
  · refine j1 ?_
    refine ia_ireturn (pc := 134) F M (by decide) (by decide) dX7_carryOut_134 ?_
    exact q2 _ h_3 p_4 (Fr_c (Fr_0 (V := V) (S := [1, 2, 3, 4, 5, 6, 7])) f_5 (by decide)) x_6
set_option maxRecDepth 100000 in
theorem c_X7_modify_0 {Z : ia_Z} {V : ia_H} {Q : ia_O → ia_Z → ia_H → Prop} {σ : Nat → Int} {χ : Nat → Int} {m : Int} (c : Int) (u : Int) (hZ : ZI Z) (hP : PI V) (hS : Sh 1 V σ) (hI : SI σ m) (h15 : V 15 = χ) (hχ : (0 ≤ χ 1 ∧ χ 1 < 9) ∧ 0 ≤ χ 2 ∧ χ 2 ≤ 8) (rc : -2147483648 ≤ c ∧ c ≤ 2147483647) (ru : -2147483648 ≤ u ∧ u ≤ 2147483647) (q1 : ∀ (V1 : ia_H), (¬ ((0 ≤ c ∧ c ≤ 9) ∧ 1 ≤ u ∧ u ≤ 999)) → PI V1 → (∀ pp, pp ∉ ([17, 18, 19, 20, 21, 22, 23, 24, 25, 26, 27, 28, 29, 30, 31, 32, 33, 34, 35, 36, 37, 38, 39, 40, 41, 42, 43, 44, 45, 46, 47, 48, 49, 50, 51, 52, 53, 54, 55, 56, 57, 58, 59, 60, 61, 62, 63, 64, 65, 66, 67, 68, 69, 70, 71, 72, 73, 74, 75, 76, 77, 78, 79] : List Nat) → V1 pp = V pp) → (∀ p : Nat, p < 17 + 7 * (χ 1).toNat ∨ 17 + 7 * (χ 1).toNat + 6 < p → V1 p = V p) → Q (.inr "java/lang/IllegalArgumentException") Z V1) (q2 : ∀ (V1 : ia_H), ((0 ≤ c ∧ c ≤ 9) ∧ 1 ≤ u ∧ u ≤ 999) → (999 < wel σ c.toNat + u) → PI V1 → (∀ pp, pp ∉ ([17, 18, 19, 20, 21, 22, 23, 24, 25, 26, 27, 28, 29, 30, 31, 32, 33, 34, 35, 36, 37, 38, 39, 40, 41, 42, 43, 44, 45, 46, 47, 48, 49, 50, 51, 52, 53, 54, 55, 56, 57, 58, 59, 60, 61, 62, 63, 64, 65, 66, 67, 68, 69, 70, 71, 72, 73, 74, 75, 76, 77, 78, 79] : List Nat) → V1 pp = V pp) → (∀ p : Nat, p < 17 + 7 * (χ 1).toNat ∨ 17 + 7 * (χ 1).toNat + 6 < p → V1 p = V p) → Q (.inr "java/lang/IllegalStateException") Z V1) (q3 : ∀ (V1 : ia_H), ((0 ≤ c ∧ c ≤ 9) ∧ 1 ≤ u ∧ u ≤ 999) → (wel σ c.toNat + u ≤ 999) → PI V1 → (V1 15 = up (up χ 1 ((χ 1 + 1) % 9)) 2 (min (χ 2 + 1) 8)) → (∀ pp, pp ∉ ([17, 18, 19, 20, 21, 22, 23, 24, 25, 26, 27, 28, 29, 30, 31, 32, 33, 34, 35, 36, 37, 38, 39, 40, 41, 42, 43, 44, 45, 46, 47, 48, 49, 50, 51, 52, 53, 54, 55, 56, 57, 58, 59, 60, 61, 62, 63, 64, 65, 66, 67, 68, 69, 70, 71, 72, 73, 74, 75, 76, 77, 78, 79, 1, 2, 3, 4, 5, 6, 7, 15] : List Nat) → V1 pp = V pp) → (Sh 1 V1 (s_pour σ c.toNat u)) → (Sh (17 + 7 * (χ 1).toNat) V1 σ) → (∀ p : Nat, p < 17 + 7 * (χ 1).toNat ∨ 17 + 7 * (χ 1).toNat + 6 < p → p ∉ ([1, 2, 3, 4, 5, 6, 7, 15] : List Nat) → V1 p = V p) → Q (.inl (some (0, (wel σ c.toNat + u)))) Z V1) : ia_K yX7_modify cX7_modify 5 (some .int) [(4, ((0 : Nat) : Int)), (4, ((ia_E0 + 0 : Nat) : Int)), (0, c), (0, u)] Z V 8 1 6 Q := by
  refine ia_start RX7 "modify" ⟨by decide, rfl, rfl⟩ (Nat.le_of_ble_eq_true rfl) (ia_tg rfl) (fun X F M => ?_)
  show ia_G X 0 0 0 [(4, ((0 : Nat) : Int)), (4, ((ia_E0 + 0 : Nat) : Int)), (0, c), (0, u), (9, 0)] [] Z V
  obtain ⟨s0, s1, s2, s3, s4, s5, s6, s7, s18, sb, sw, se, sp⟩ := id hI
  refine ia_aload_n (pc := 0) F dX7_modify_0 rfl ?_
  refine jg (pc := 1) F (z0 hZ) cls10 f10_2 (hP 0 2 15 rfl) il_RX7_22 dX7_modify_1 ?_
  refine ia_aload_n (pc := 4) F dX7_modify_4 rfl ?_
  refine jg (pc := 5) F (z0 hZ) cls10 f10_0 (hP 0 0 1 rfl) il_RX7_12 dX7_modify_5 ?_
  refine jV (pc := 8) F 0 0 (z15 hZ) cls6.1 (c_X3_note hZ hP hS h15 (by omega) (fun V_1 p_2 f_3 x_4 x_5 => ?_)) rfl ⟨k_X3_note, il_RX7_306, im_X3_note, is_X3_note, ii_RX3⟩ 1 rfl hd_X3_note ⟨by decide, by decide, by decide, by decide, Nat.le_of_ble_eq_true rfl⟩ dX7_modify_8
  refine j0 ?_
  have n_hf := x_4
  have n_hs := x_5
  refine ia_aload_n (pc := 11) F dX7_modify_11 rfl ?_
  refine ia_aload_n (pc := 12) F dX7_modify_12 rfl ?_
  refine ia_iload_n (pc := 13) F dX7_modify_13 rfl ?_
  refine ia_iload_n (pc := 14) F dX7_modify_14 rfl ?_
  refine jV (pc := 15) F 0 0 (z0 hZ) cls10.1 (c_X7_carryOut_0 c u hZ p_2 (Sh_fr hS f_3 (by decide)) hI (by omega) (by omega) (fun h_6 => ?_) (fun h_7 h_8 => ?_) (fun V_9 h_10 h_11 p_12 f_13 x_14 => ?_)) rfl ⟨k_X7_carryOut, il_RX7_336, im_X7_carryOut, is_X7_carryOut, ii_RX7⟩ 3 rfl hd_X7_carryOut ⟨by decide, by decide, by decide, by decide, Nat.le_of_ble_eq_true rfl⟩ dX7_modify_15
  · refine j1 ?_
    refine ia_istore (pc := 18) F (ls' := [(4, ((0 : Nat) : Int)), (4, ((ia_E0 + 0 : Nat) : Int)), (0, c), (0, u), (0, (-1))]) dX7_modify_18 (Nat.le_of_ble_eq_true rfl) rfl rfl ?_
    refine ia_iload (pc := 20) F dX7_modify_20 rfl ?_
    refine jS (pc := 22) F 1 6 (c_X7_throwIfRefused_1  ?_) rfl ⟨k_X7_throwIfRefused, il_RX7_339, it_X7_throwIfRefused, ii_RX7⟩ rfl 1 rfl hd_X7_throwIfRefused ⟨by decide, by decide, by decide, by decide, Nat.le_of_ble_eq_true rfl⟩ dX7_modify_22
    refine jx ?_
    refine ia_out F M (by decide) (by decide) ?_
    exact q1 _ h_6 p_2 f_3 n_hf
  · refine j1 ?_
    refine ia_istore (pc := 18) F (ls' := [(4, ((0 : Nat) : Int)), (4, ((ia_E0 + 0 : Nat) : Int)), (0, c), (0, u), (0, (-2))]) dX7_modify_18 (Nat.le_of_ble_eq_true rfl) rfl rfl ?_
    refine ia_iload (pc := 20) F dX7_modify_20 rfl ?_
    refine jS (pc := 22) F 1 6 (c_X7_throwIfRefused_2  ?_) rfl ⟨k_X7_throwIfRefused, il_RX7_339, it_X7_throwIfRefused, ii_RX7⟩ rfl 1 rfl hd_X7_throwIfRefused ⟨by decide, by decide, by decide, by decide, Nat.le_of_ble_eq_true rfl⟩ dX7_modify_22
    refine jx ?_
    refine ia_out F M (by decide) (by decide) ?_
    exact q2 _ h_7 h_8 p_2 f_3 n_hf
  · refine j1 ?_
    refine ia_istore (pc := 18) F (ls' := [(4, ((0 : Nat) : Int)), (4, ((ia_E0 + 0 : Nat) : Int)), (0, c), (0, u), (0, (wel σ c.toNat + u))]) dX7_modify_18 (Nat.le_of_ble_eq_true rfl) rfl rfl ?_
    have r9 := sw c.toNat (by omega)
    refine ia_iload (pc := 20) F dX7_modify_20 rfl ?_
    refine jS (pc := 22) F 1 6 (c_X7_throwIfRefused_0 (wel σ c.toNat + u) (by omega) ?_) rfl ⟨k_X7_throwIfRefused, il_RX7_339, it_X7_throwIfRefused, ii_RX7⟩ rfl 1 rfl hd_X7_throwIfRefused ⟨by decide, by decide, by decide, by decide, Nat.le_of_ble_eq_true rfl⟩ dX7_modify_22
    refine j0 ?_
    refine ia_aload_n (pc := 25) F dX7_modify_25 rfl ?_
    refine jg (pc := 26) F (z0 hZ) cls10 f10_2 (p_12 0 2 15 rfl) il_RX7_22 dX7_modify_26 ?_
    refine jV (pc := 29) F 1 6 (z15 hZ) cls6.1 (c_X3_keepNoted hZ p_12 ((f_13 15 (by decide)).trans ((f_3 15 (by decide)).trans h15)) (by omega) (fun V_15 p_16 w_17 f_18 => ?_)) rfl ⟨k_X3_keepNoted, il_RX7_320, im_X3_keepNoted, is_X3_keepNoted, ii_RX3⟩ 0 rfl hd_X3_keepNoted ⟨by decide, by decide, by decide, by decide, Nat.le_of_ble_eq_true rfl⟩ dX7_modify_29
    refine j0 ?_
    refine ia_iload (pc := 32) F dX7_modify_32 rfl ?_
    refine ia_ireturn (pc := 34) F M (by decide) (by decide) dX7_modify_34 ?_
    exact q3 _ h_10 h_11 p_16 w_17 (Fr_c (Fr_c (Fr_c (Fr_0 (V := V) (S := [17, 18, 19, 20, 21, 22, 23, 24, 25, 26, 27, 28, 29, 30, 31, 32, 33, 34, 35, 36, 37, 38, 39, 40, 41, 42, 43, 44, 45, 46, 47, 48, 49, 50, 51, 52, 53, 54, 55, 56, 57, 58, 59, 60, 61, 62, 63, 64, 65, 66, 67, 68, 69, 70, 71, 72, 73, 74, 75, 76, 77, 78, 79, 1, 2, 3, 4, 5, 6, 7, 15])) f_3 (by decide)) f_13 (by decide)) f_18 (by decide)) (Sh_fr x_14 f_18 (by decide)) (Sh_mv n_hs (fun p h1 h2 => (f_18 p (by simp; omega)).trans (f_13 p (by simp; omega)))) (fun p hp hq => ((f_18 p (by simp at hq ⊢; omega)).trans (f_13 p (by simp at hq ⊢; omega))).trans (n_hf p hp))
set_option maxRecDepth 100000 in
theorem c_X7_modify_1 {Z : ia_Z} {V : ia_H} {Q : ia_O → ia_Z → ia_H → Prop} {σ : Nat → Int} {χ : Nat → Int} {m : Int} (u : Int) (v2 : Int) (hZ : ZI Z) (hP : PI V) (hS : Sh 1 V σ) (hI : SI σ m) (h15 : V 15 = χ) (hχ : (0 ≤ χ 1 ∧ χ 1 < 9) ∧ 0 ≤ χ 2 ∧ χ 2 ≤ 8) (ru : -2147483648 ≤ u ∧ u ≤ 2147483647) (q1 : ∀ (V1 : ia_H), (¬ (1 ≤ u ∧ u ≤ 999)) → PI V1 → (∀ pp, pp ∉ ([17, 18, 19, 20, 21, 22, 23, 24, 25, 26, 27, 28, 29, 30, 31, 32, 33, 34, 35, 36, 37, 38, 39, 40, 41, 42, 43, 44, 45, 46, 47, 48, 49, 50, 51, 52, 53, 54, 55, 56, 57, 58, 59, 60, 61, 62, 63, 64, 65, 66, 67, 68, 69, 70, 71, 72, 73, 74, 75, 76, 77, 78, 79] : List Nat) → V1 pp = V pp) → (∀ p : Nat, p < 17 + 7 * (χ 1).toNat ∨ 17 + 7 * (χ 1).toNat + 6 < p → V1 p = V p) → Q (.inr "java/lang/IllegalArgumentException") Z V1) (q2 : ∀ (V1 : ia_H), (1 ≤ u ∧ u ≤ 999) → (9999 < σ 2 + u) → PI V1 → (∀ pp, pp ∉ ([17, 18, 19, 20, 21, 22, 23, 24, 25, 26, 27, 28, 29, 30, 31, 32, 33, 34, 35, 36, 37, 38, 39, 40, 41, 42, 43, 44, 45, 46, 47, 48, 49, 50, 51, 52, 53, 54, 55, 56, 57, 58, 59, 60, 61, 62, 63, 64, 65, 66, 67, 68, 69, 70, 71, 72, 73, 74, 75, 76, 77, 78, 79] : List Nat) → V1 pp = V pp) → (∀ p : Nat, p < 17 + 7 * (χ 1).toNat ∨ 17 + 7 * (χ 1).toNat + 6 < p → V1 p = V p) → Q (.inr "java/lang/IllegalStateException") Z V1) (q3 : ∀ (V1 : ia_H), (1 ≤ u ∧ u ≤ 999) → (σ 2 + u ≤ 9999) → PI V1 → (V1 15 = up (up χ 1 ((χ 1 + 1) % 9)) 2 (min (χ 2 + 1) 8)) → (∀ pp, pp ∉ ([17, 18, 19, 20, 21, 22, 23, 24, 25, 26, 27, 28, 29, 30, 31, 32, 33, 34, 35, 36, 37, 38, 39, 40, 41, 42, 43, 44, 45, 46, 47, 48, 49, 50, 51, 52, 53, 54, 55, 56, 57, 58, 59, 60, 61, 62, 63, 64, 65, 66, 67, 68, 69, 70, 71, 72, 73, 74, 75, 76, 77, 78, 79, 1, 2, 3, 4, 5, 6, 7, 15] : List Nat) → V1 pp = V pp) → (Sh 1 V1 (s_buy σ u)) → (Sh (17 + 7 * (χ 1).toNat) V1 σ) → (∀ p : Nat, p < 17 + 7 * (χ 1).toNat ∨ 17 + 7 * (χ 1).toNat + 6 < p → p ∉ ([1, 2, 3, 4, 5, 6, 7, 15] : List Nat) → V1 p = V p) → Q (.inl (some (0, (σ 2 + u)))) Z V1) : ia_K yX7_modify cX7_modify 5 (some .int) [(4, ((0 : Nat) : Int)), (4, ((ia_E0 + 1 : Nat) : Int)), (0, u), (0, v2)] Z V 8 1 6 Q := by
  refine ia_start RX7 "modify" ⟨by decide, rfl, rfl⟩ (Nat.le_of_ble_eq_true rfl) (ia_tg rfl) (fun X F M => ?_)
  show ia_G X 0 0 0 [(4, ((0 : Nat) : Int)), (4, ((ia_E0 + 1 : Nat) : Int)), (0, u), (0, v2), (9, 0)] [] Z V
  obtain ⟨s0, s1, s2, s3, s4, s5, s6, s7, s18, sb, sw, se, sp⟩ := id hI
  refine ia_aload_n (pc := 0) F dX7_modify_0 rfl ?_
  refine jg (pc := 1) F (z0 hZ) cls10 f10_2 (hP 0 2 15 rfl) il_RX7_22 dX7_modify_1 ?_
  refine ia_aload_n (pc := 4) F dX7_modify_4 rfl ?_
  refine jg (pc := 5) F (z0 hZ) cls10 f10_0 (hP 0 0 1 rfl) il_RX7_12 dX7_modify_5 ?_
  refine jV (pc := 8) F 0 0 (z15 hZ) cls6.1 (c_X3_note hZ hP hS h15 (by omega) (fun V_1 p_2 f_3 x_4 x_5 => ?_)) rfl ⟨k_X3_note, il_RX7_306, im_X3_note, is_X3_note, ii_RX3⟩ 1 rfl hd_X3_note ⟨by decide, by decide, by decide, by decide, Nat.le_of_ble_eq_true rfl⟩ dX7_modify_8
  refine j0 ?_
  have n_hf := x_4
  have n_hs := x_5
  refine ia_aload_n (pc := 11) F dX7_modify_11 rfl ?_
  refine ia_aload_n (pc := 12) F dX7_modify_12 rfl ?_
  refine ia_iload_n (pc := 13) F dX7_modify_13 rfl ?_
  refine ia_iload_n (pc := 14) F dX7_modify_14 rfl ?_
  refine jV (pc := 15) F 0 0 (z0 hZ) cls10.1 (c_X7_carryOut_1 u v2 hZ p_2 (Sh_fr hS f_3 (by decide)) hI (by omega) (fun h_6 => ?_) (fun h_7 h_8 => ?_) (fun V_9 h_10 h_11 p_12 f_13 x_14 => ?_)) rfl ⟨k_X7_carryOut, il_RX7_336, im_X7_carryOut, is_X7_carryOut, ii_RX7⟩ 3 rfl hd_X7_carryOut ⟨by decide, by decide, by decide, by decide, Nat.le_of_ble_eq_true rfl⟩ dX7_modify_15
  · refine j1 ?_
    refine ia_istore (pc := 18) F (ls' := [(4, ((0 : Nat) : Int)), (4, ((ia_E0 + 1 : Nat) : Int)), (0, u), (0, v2), (0, (-1))]) dX7_modify_18 (Nat.le_of_ble_eq_true rfl) rfl rfl ?_
    refine ia_iload (pc := 20) F dX7_modify_20 rfl ?_
    refine jS (pc := 22) F 1 6 (c_X7_throwIfRefused_1  ?_) rfl ⟨k_X7_throwIfRefused, il_RX7_339, it_X7_throwIfRefused, ii_RX7⟩ rfl 1 rfl hd_X7_throwIfRefused ⟨by decide, by decide, by decide, by decide, Nat.le_of_ble_eq_true rfl⟩ dX7_modify_22
    refine jx ?_
    refine ia_out F M (by decide) (by decide) ?_
    exact q1 _ h_6 p_2 f_3 n_hf
  · refine j1 ?_
    refine ia_istore (pc := 18) F (ls' := [(4, ((0 : Nat) : Int)), (4, ((ia_E0 + 1 : Nat) : Int)), (0, u), (0, v2), (0, (-2))]) dX7_modify_18 (Nat.le_of_ble_eq_true rfl) rfl rfl ?_
    refine ia_iload (pc := 20) F dX7_modify_20 rfl ?_
    refine jS (pc := 22) F 1 6 (c_X7_throwIfRefused_2  ?_) rfl ⟨k_X7_throwIfRefused, il_RX7_339, it_X7_throwIfRefused, ii_RX7⟩ rfl 1 rfl hd_X7_throwIfRefused ⟨by decide, by decide, by decide, by decide, Nat.le_of_ble_eq_true rfl⟩ dX7_modify_22
    refine jx ?_
    refine ia_out F M (by decide) (by decide) ?_
    exact q2 _ h_7 h_8 p_2 f_3 n_hf
  · refine j1 ?_
    refine ia_istore (pc := 18) F (ls' := [(4, ((0 : Nat) : Int)), (4, ((ia_E0 + 1 : Nat) : Int)), (0, u), (0, v2), (0, (σ 2 + u))]) dX7_modify_18 (Nat.le_of_ble_eq_true rfl) rfl rfl ?_
    refine ia_iload (pc := 20) F dX7_modify_20 rfl ?_
    refine jS (pc := 22) F 1 6 (c_X7_throwIfRefused_0 (σ 2 + u) (by omega) ?_) rfl ⟨k_X7_throwIfRefused, il_RX7_339, it_X7_throwIfRefused, ii_RX7⟩ rfl 1 rfl hd_X7_throwIfRefused ⟨by decide, by decide, by decide, by decide, Nat.le_of_ble_eq_true rfl⟩ dX7_modify_22
    refine j0 ?_
    refine ia_aload_n (pc := 25) F dX7_modify_25 rfl ?_
    refine jg (pc := 26) F (z0 hZ) cls10 f10_2 (p_12 0 2 15 rfl) il_RX7_22 dX7_modify_26 ?_
    refine jV (pc := 29) F 1 6 (z15 hZ) cls6.1 (c_X3_keepNoted hZ p_12 ((f_13 15 (by decide)).trans ((f_3 15 (by decide)).trans h15)) (by omega) (fun V_15 p_16 w_17 f_18 => ?_)) rfl ⟨k_X3_keepNoted, il_RX7_320, im_X3_keepNoted, is_X3_keepNoted, ii_RX3⟩ 0 rfl hd_X3_keepNoted ⟨by decide, by decide, by decide, by decide, Nat.le_of_ble_eq_true rfl⟩ dX7_modify_29
    refine j0 ?_
    refine ia_iload (pc := 32) F dX7_modify_32 rfl ?_
    refine ia_ireturn (pc := 34) F M (by decide) (by decide) dX7_modify_34 ?_
    exact q3 _ h_10 h_11 p_16 w_17 (Fr_c (Fr_c (Fr_c (Fr_0 (V := V) (S := [17, 18, 19, 20, 21, 22, 23, 24, 25, 26, 27, 28, 29, 30, 31, 32, 33, 34, 35, 36, 37, 38, 39, 40, 41, 42, 43, 44, 45, 46, 47, 48, 49, 50, 51, 52, 53, 54, 55, 56, 57, 58, 59, 60, 61, 62, 63, 64, 65, 66, 67, 68, 69, 70, 71, 72, 73, 74, 75, 76, 77, 78, 79, 1, 2, 3, 4, 5, 6, 7, 15])) f_3 (by decide)) f_13 (by decide)) f_18 (by decide)) (Sh_fr x_14 f_18 (by decide)) (Sh_mv n_hs (fun p h1 h2 => (f_18 p (by simp; omega)).trans (f_13 p (by simp; omega)))) (fun p hp hq => ((f_18 p (by simp at hq ⊢; omega)).trans (f_13 p (by simp at hq ⊢; omega))).trans (n_hf p hp))
set_option maxRecDepth 100000 in
theorem c_X7_modify_2 {Z : ia_Z} {V : ia_H} {Q : ia_O → ia_Z → ia_H → Prop} {σ : Nat → Int} {χ : Nat → Int} {m : Int} (c : Int) (u : Int) (hZ : ZI Z) (hP : PI V) (hS : Sh 1 V σ) (hI : SI σ m) (h15 : V 15 = χ) (hχ : (0 ≤ χ 1 ∧ χ 1 < 9) ∧ 0 ≤ χ 2 ∧ χ 2 ≤ 8) (rc : -2147483648 ≤ c ∧ c ≤ 2147483647) (ru : -2147483648 ≤ u ∧ u ≤ 2147483647) (q1 : ∀ (V1 : ia_H), (¬ ((0 ≤ c ∧ c ≤ 9) ∧ 1 ≤ u ∧ u ≤ 50)) → PI V1 → (∀ pp, pp ∉ ([17, 18, 19, 20, 21, 22, 23, 24, 25, 26, 27, 28, 29, 30, 31, 32, 33, 34, 35, 36, 37, 38, 39, 40, 41, 42, 43, 44, 45, 46, 47, 48, 49, 50, 51, 52, 53, 54, 55, 56, 57, 58, 59, 60, 61, 62, 63, 64, 65, 66, 67, 68, 69, 70, 71, 72, 73, 74, 75, 76, 77, 78, 79] : List Nat) → V1 pp = V pp) → (∀ p : Nat, p < 17 + 7 * (χ 1).toNat ∨ 17 + 7 * (χ 1).toNat + 6 < p → V1 p = V p) → Q (.inr "java/lang/IllegalArgumentException") Z V1) (q2 : ∀ (V1 : ia_H), ((0 ≤ c ∧ c ≤ 9) ∧ 1 ≤ u ∧ u ≤ 50) → (σ 0 = 7) → PI V1 → (∀ pp, pp ∉ ([17, 18, 19, 20, 21, 22, 23, 24, 25, 26, 27, 28, 29, 30, 31, 32, 33, 34, 35, 36, 37, 38, 39, 40, 41, 42, 43, 44, 45, 46, 47, 48, 49, 50, 51, 52, 53, 54, 55, 56, 57, 58, 59, 60, 61, 62, 63, 64, 65, 66, 67, 68, 69, 70, 71, 72, 73, 74, 75, 76, 77, 78, 79] : List Nat) → V1 pp = V pp) → (∀ p : Nat, p < 17 + 7 * (χ 1).toNat ∨ 17 + 7 * (χ 1).toNat + 6 < p → V1 p = V p) → Q (.inr "java/lang/IllegalStateException") Z V1) (q3 : ∀ (V1 : ia_H), ((0 ≤ c ∧ c ≤ 9) ∧ 1 ≤ u ∧ u ≤ 50) → (¬ σ 0 = 7) → PI V1 → (V1 15 = up (up χ 1 ((χ 1 + 1) % 9)) 2 (min (χ 2 + 1) 8)) → (∀ pp, pp ∉ ([17, 18, 19, 20, 21, 22, 23, 24, 25, 26, 27, 28, 29, 30, 31, 32, 33, 34, 35, 36, 37, 38, 39, 40, 41, 42, 43, 44, 45, 46, 47, 48, 49, 50, 51, 52, 53, 54, 55, 56, 57, 58, 59, 60, 61, 62, 63, 64, 65, 66, 67, 68, 69, 70, 71, 72, 73, 74, 75, 76, 77, 78, 79, 1, 2, 3, 4, 5, 6, 7, 15] : List Nat) → V1 pp = V pp) → (Sh 1 V1 (s_add σ c u)) → (Sh (17 + 7 * (χ 1).toNat) V1 σ) → (∀ p : Nat, p < 17 + 7 * (χ 1).toNat ∨ 17 + 7 * (χ 1).toNat + 6 < p → p ∉ ([1, 2, 3, 4, 5, 6, 7, 15] : List Nat) → V1 p = V p) → Q (.inl (some (0, (σ 0)))) Z V1) : ia_K yX7_modify cX7_modify 5 (some .int) [(4, ((0 : Nat) : Int)), (4, ((ia_E0 + 2 : Nat) : Int)), (0, c), (0, u)] Z V 8 1 6 Q := by
  refine ia_start RX7 "modify" ⟨by decide, rfl, rfl⟩ (Nat.le_of_ble_eq_true rfl) (ia_tg rfl) (fun X F M => ?_)
  show ia_G X 0 0 0 [(4, ((0 : Nat) : Int)), (4, ((ia_E0 + 2 : Nat) : Int)), (0, c), (0, u), (9, 0)] [] Z V
  obtain ⟨s0, s1, s2, s3, s4, s5, s6, s7, s18, sb, sw, se, sp⟩ := id hI
  refine ia_aload_n (pc := 0) F dX7_modify_0 rfl ?_
  refine jg (pc := 1) F (z0 hZ) cls10 f10_2 (hP 0 2 15 rfl) il_RX7_22 dX7_modify_1 ?_
  refine ia_aload_n (pc := 4) F dX7_modify_4 rfl ?_
  refine jg (pc := 5) F (z0 hZ) cls10 f10_0 (hP 0 0 1 rfl) il_RX7_12 dX7_modify_5 ?_
  refine jV (pc := 8) F 0 0 (z15 hZ) cls6.1 (c_X3_note hZ hP hS h15 (by omega) (fun V_1 p_2 f_3 x_4 x_5 => ?_)) rfl ⟨k_X3_note, il_RX7_306, im_X3_note, is_X3_note, ii_RX3⟩ 1 rfl hd_X3_note ⟨by decide, by decide, by decide, by decide, Nat.le_of_ble_eq_true rfl⟩ dX7_modify_8
  refine j0 ?_
  have n_hf := x_4
  have n_hs := x_5
  refine ia_aload_n (pc := 11) F dX7_modify_11 rfl ?_
  refine ia_aload_n (pc := 12) F dX7_modify_12 rfl ?_
  refine ia_iload_n (pc := 13) F dX7_modify_13 rfl ?_
  refine ia_iload_n (pc := 14) F dX7_modify_14 rfl ?_
  refine jV (pc := 15) F 0 0 (z0 hZ) cls10.1 (c_X7_carryOut_2 c u hZ p_2 (Sh_fr hS f_3 (by decide)) hI (by omega) (by omega) (fun h_6 => ?_) (fun h_7 h_8 => ?_) (fun V_9 h_10 h_11 p_12 f_13 x_14 => ?_)) rfl ⟨k_X7_carryOut, il_RX7_336, im_X7_carryOut, is_X7_carryOut, ii_RX7⟩ 3 rfl hd_X7_carryOut ⟨by decide, by decide, by decide, by decide, Nat.le_of_ble_eq_true rfl⟩ dX7_modify_15
  · refine j1 ?_
    refine ia_istore (pc := 18) F (ls' := [(4, ((0 : Nat) : Int)), (4, ((ia_E0 + 2 : Nat) : Int)), (0, c), (0, u), (0, (-1))]) dX7_modify_18 (Nat.le_of_ble_eq_true rfl) rfl rfl ?_
    refine ia_iload (pc := 20) F dX7_modify_20 rfl ?_
    refine jS (pc := 22) F 1 6 (c_X7_throwIfRefused_1  ?_) rfl ⟨k_X7_throwIfRefused, il_RX7_339, it_X7_throwIfRefused, ii_RX7⟩ rfl 1 rfl hd_X7_throwIfRefused ⟨by decide, by decide, by decide, by decide, Nat.le_of_ble_eq_true rfl⟩ dX7_modify_22
    refine jx ?_
    refine ia_out F M (by decide) (by decide) ?_
    exact q1 _ h_6 p_2 f_3 n_hf
  · refine j1 ?_
    refine ia_istore (pc := 18) F (ls' := [(4, ((0 : Nat) : Int)), (4, ((ia_E0 + 2 : Nat) : Int)), (0, c), (0, u), (0, (-2))]) dX7_modify_18 (Nat.le_of_ble_eq_true rfl) rfl rfl ?_
    refine ia_iload (pc := 20) F dX7_modify_20 rfl ?_
    refine jS (pc := 22) F 1 6 (c_X7_throwIfRefused_2  ?_) rfl ⟨k_X7_throwIfRefused, il_RX7_339, it_X7_throwIfRefused, ii_RX7⟩ rfl 1 rfl hd_X7_throwIfRefused ⟨by decide, by decide, by decide, by decide, Nat.le_of_ble_eq_true rfl⟩ dX7_modify_22
    refine jx ?_
    refine ia_out F M (by decide) (by decide) ?_
    exact q2 _ h_7 h_8 p_2 f_3 n_hf
  · refine j1 ?_
    refine ia_istore (pc := 18) F (ls' := [(4, ((0 : Nat) : Int)), (4, ((ia_E0 + 2 : Nat) : Int)), (0, c), (0, u), (0, (σ 0))]) dX7_modify_18 (Nat.le_of_ble_eq_true rfl) rfl rfl ?_
    refine ia_iload (pc := 20) F dX7_modify_20 rfl ?_
    refine jS (pc := 22) F 1 6 (c_X7_throwIfRefused_0 (σ 0) (by omega) ?_) rfl ⟨k_X7_throwIfRefused, il_RX7_339, it_X7_throwIfRefused, ii_RX7⟩ rfl 1 rfl hd_X7_throwIfRefused ⟨by decide, by decide, by decide, by decide, Nat.le_of_ble_eq_true rfl⟩ dX7_modify_22
    refine j0 ?_
    refine ia_aload_n (pc := 25) F dX7_modify_25 rfl ?_
    refine jg (pc := 26) F (z0 hZ) cls10 f10_2 (p_12 0 2 15 rfl) il_RX7_22 dX7_modify_26 ?_
    refine jV (pc := 29) F 1 6 (z15 hZ) cls6.1 (c_X3_keepNoted hZ p_12 ((f_13 15 (by decide)).trans ((f_3 15 (by decide)).trans h15)) (by omega) (fun V_15 p_16 w_17 f_18 => ?_)) rfl ⟨k_X3_keepNoted, il_RX7_320, im_X3_keepNoted, is_X3_keepNoted, ii_RX3⟩ 0 rfl hd_X3_keepNoted ⟨by decide, by decide, by decide, by decide, Nat.le_of_ble_eq_true rfl⟩ dX7_modify_29
    refine j0 ?_
    refine ia_iload (pc := 32) F dX7_modify_32 rfl ?_
    refine ia_ireturn (pc := 34) F M (by decide) (by decide) dX7_modify_34 ?_
    exact q3 _ h_10 h_11 p_16 w_17 (Fr_c (Fr_c (Fr_c (Fr_0 (V := V) (S := [17, 18, 19, 20, 21, 22, 23, 24, 25, 26, 27, 28, 29, 30, 31, 32, 33, 34, 35, 36, 37, 38, 39, 40, 41, 42, 43, 44, 45, 46, 47, 48, 49, 50, 51, 52, 53, 54, 55, 56, 57, 58, 59, 60, 61, 62, 63, 64, 65, 66, 67, 68, 69, 70, 71, 72, 73, 74, 75, 76, 77, 78, 79, 1, 2, 3, 4, 5, 6, 7, 15])) f_3 (by decide)) f_13 (by decide)) f_18 (by decide)) (Sh_fr x_14 f_18 (by decide)) (Sh_mv n_hs (fun p h1 h2 => (f_18 p (by simp; omega)).trans (f_13 p (by simp; omega)))) (fun p hp hq => ((f_18 p (by simp at hq ⊢; omega)).trans (f_13 p (by simp at hq ⊢; omega))).trans (n_hf p hp))
set_option maxRecDepth 100000 in
theorem c_X7_modify_3 {Z : ia_Z} {V : ia_H} {Q : ia_O → ia_Z → ia_H → Prop} {σ : Nat → Int} {χ : Nat → Int} {m : Int} (e : Int) (v2 : Int) (hZ : ZI Z) (hP : PI V) (hS : Sh 1 V σ) (hI : SI σ m) (h15 : V 15 = χ) (hχ : (0 ≤ χ 1 ∧ χ 1 < 9) ∧ 0 ≤ χ 2 ∧ χ 2 ≤ 8) (re : -2147483648 ≤ e ∧ e ≤ 2147483647) (q1 : ∀ (V1 : ia_H), (¬ (0 ≤ e ∧ e < σ 0)) → PI V1 → (∀ pp, pp ∉ ([17, 18, 19, 20, 21, 22, 23, 24, 25, 26, 27, 28, 29, 30, 31, 32, 33, 34, 35, 36, 37, 38, 39, 40, 41, 42, 43, 44, 45, 46, 47, 48, 49, 50, 51, 52, 53, 54, 55, 56, 57, 58, 59, 60, 61, 62, 63, 64, 65, 66, 67, 68, 69, 70, 71, 72, 73, 74, 75, 76, 77, 78, 79] : List Nat) → V1 pp = V pp) → (∀ p : Nat, p < 17 + 7 * (χ 1).toNat ∨ 17 + 7 * (χ 1).toNat + 6 < p → V1 p = V p) → Q (.inr "java/lang/IndexOutOfBoundsException") Z V1) (q2 : ∀ (V1 : ia_H), (0 ≤ e ∧ e < σ 0) → PI V1 → (V1 15 = up (up χ 1 ((χ 1 + 1) % 9)) 2 (min (χ 2 + 1) 8)) → (∀ pp, pp ∉ ([17, 18, 19, 20, 21, 22, 23, 24, 25, 26, 27, 28, 29, 30, 31, 32, 33, 34, 35, 36, 37, 38, 39, 40, 41, 42, 43, 44, 45, 46, 47, 48, 49, 50, 51, 52, 53, 54, 55, 56, 57, 58, 59, 60, 61, 62, 63, 64, 65, 66, 67, 68, 69, 70, 71, 72, 73, 74, 75, 76, 77, 78, 79, 1, 2, 3, 4, 5, 6, 7, 15] : List Nat) → V1 pp = V pp) → (Sh 1 V1 (s_rem σ e.toNat)) → (Sh (17 + 7 * (χ 1).toNat) V1 σ) → (∀ p : Nat, p < 17 + 7 * (χ 1).toNat ∨ 17 + 7 * (χ 1).toNat + 6 < p → p ∉ ([1, 2, 3, 4, 5, 6, 7, 15] : List Nat) → V1 p = V p) → Q (.inl (some (0, (σ 0 - 1)))) Z V1) : ia_K yX7_modify cX7_modify 5 (some .int) [(4, ((0 : Nat) : Int)), (4, ((ia_E0 + 3 : Nat) : Int)), (0, e), (0, v2)] Z V 8 1 6 Q := by
  refine ia_start RX7 "modify" ⟨by decide, rfl, rfl⟩ (Nat.le_of_ble_eq_true rfl) (ia_tg rfl) (fun X F M => ?_)
  show ia_G X 0 0 0 [(4, ((0 : Nat) : Int)), (4, ((ia_E0 + 3 : Nat) : Int)), (0, e), (0, v2), (9, 0)] [] Z V
  obtain ⟨s0, s1, s2, s3, s4, s5, s6, s7, s18, sb, sw, se, sp⟩ := id hI
  refine ia_aload_n (pc := 0) F dX7_modify_0 rfl ?_
  refine jg (pc := 1) F (z0 hZ) cls10 f10_2 (hP 0 2 15 rfl) il_RX7_22 dX7_modify_1 ?_
  refine ia_aload_n (pc := 4) F dX7_modify_4 rfl ?_
  refine jg (pc := 5) F (z0 hZ) cls10 f10_0 (hP 0 0 1 rfl) il_RX7_12 dX7_modify_5 ?_
  refine jV (pc := 8) F 0 0 (z15 hZ) cls6.1 (c_X3_note hZ hP hS h15 (by omega) (fun V_1 p_2 f_3 x_4 x_5 => ?_)) rfl ⟨k_X3_note, il_RX7_306, im_X3_note, is_X3_note, ii_RX3⟩ 1 rfl hd_X3_note ⟨by decide, by decide, by decide, by decide, Nat.le_of_ble_eq_true rfl⟩ dX7_modify_8
  refine j0 ?_
  have n_hf := x_4
  have n_hs := x_5
  refine ia_aload_n (pc := 11) F dX7_modify_11 rfl ?_
  refine ia_aload_n (pc := 12) F dX7_modify_12 rfl ?_
  refine ia_iload_n (pc := 13) F dX7_modify_13 rfl ?_
  refine ia_iload_n (pc := 14) F dX7_modify_14 rfl ?_
  refine jV (pc := 15) F 0 0 (z0 hZ) cls10.1 (c_X7_carryOut_3 e v2 hZ p_2 (Sh_fr hS f_3 (by decide)) hI (by omega) (fun h_6 => ?_) (fun V_7 h_8 p_9 f_10 x_11 => ?_)) rfl ⟨k_X7_carryOut, il_RX7_336, im_X7_carryOut, is_X7_carryOut, ii_RX7⟩ 3 rfl hd_X7_carryOut ⟨by decide, by decide, by decide, by decide, Nat.le_of_ble_eq_true rfl⟩ dX7_modify_15
  · refine j1 ?_
    refine ia_istore (pc := 18) F (ls' := [(4, ((0 : Nat) : Int)), (4, ((ia_E0 + 3 : Nat) : Int)), (0, e), (0, v2), (0, (-3))]) dX7_modify_18 (Nat.le_of_ble_eq_true rfl) rfl rfl ?_
    refine ia_iload (pc := 20) F dX7_modify_20 rfl ?_
    refine jS (pc := 22) F 1 6 (c_X7_throwIfRefused_3  ?_) rfl ⟨k_X7_throwIfRefused, il_RX7_339, it_X7_throwIfRefused, ii_RX7⟩ rfl 1 rfl hd_X7_throwIfRefused ⟨by decide, by decide, by decide, by decide, Nat.le_of_ble_eq_true rfl⟩ dX7_modify_22
    refine jx ?_
    refine ia_out F M (by decide) (by decide) ?_
    exact q1 _ h_6 p_2 f_3 n_hf
  · refine j1 ?_
    refine ia_istore (pc := 18) F (ls' := [(4, ((0 : Nat) : Int)), (4, ((ia_E0 + 3 : Nat) : Int)), (0, e), (0, v2), (0, (σ 0 - 1))]) dX7_modify_18 (Nat.le_of_ble_eq_true rfl) rfl rfl ?_
    refine ia_iload (pc := 20) F dX7_modify_20 rfl ?_
    refine jS (pc := 22) F 1 6 (c_X7_throwIfRefused_0 (σ 0 - 1) (by omega) ?_) rfl ⟨k_X7_throwIfRefused, il_RX7_339, it_X7_throwIfRefused, ii_RX7⟩ rfl 1 rfl hd_X7_throwIfRefused ⟨by decide, by decide, by decide, by decide, Nat.le_of_ble_eq_true rfl⟩ dX7_modify_22
    refine j0 ?_
    refine ia_aload_n (pc := 25) F dX7_modify_25 rfl ?_
    refine jg (pc := 26) F (z0 hZ) cls10 f10_2 (p_9 0 2 15 rfl) il_RX7_22 dX7_modify_26 ?_
    refine jV (pc := 29) F 1 6 (z15 hZ) cls6.1 (c_X3_keepNoted hZ p_9 ((f_10 15 (by decide)).trans ((f_3 15 (by decide)).trans h15)) (by omega) (fun V_12 p_13 w_14 f_15 => ?_)) rfl ⟨k_X3_keepNoted, il_RX7_320, im_X3_keepNoted, is_X3_keepNoted, ii_RX3⟩ 0 rfl hd_X3_keepNoted ⟨by decide, by decide, by decide, by decide, Nat.le_of_ble_eq_true rfl⟩ dX7_modify_29
    refine j0 ?_
    refine ia_iload (pc := 32) F dX7_modify_32 rfl ?_
    refine ia_ireturn (pc := 34) F M (by decide) (by decide) dX7_modify_34 ?_
    exact q2 _ h_8 p_13 w_14 (Fr_c (Fr_c (Fr_c (Fr_0 (V := V) (S := [17, 18, 19, 20, 21, 22, 23, 24, 25, 26, 27, 28, 29, 30, 31, 32, 33, 34, 35, 36, 37, 38, 39, 40, 41, 42, 43, 44, 45, 46, 47, 48, 49, 50, 51, 52, 53, 54, 55, 56, 57, 58, 59, 60, 61, 62, 63, 64, 65, 66, 67, 68, 69, 70, 71, 72, 73, 74, 75, 76, 77, 78, 79, 1, 2, 3, 4, 5, 6, 7, 15])) f_3 (by decide)) f_10 (by decide)) f_15 (by decide)) (Sh_fr x_11 f_15 (by decide)) (Sh_mv n_hs (fun p h1 h2 => (f_15 p (by simp; omega)).trans (f_10 p (by simp; omega)))) (fun p hp hq => ((f_15 p (by simp at hq ⊢; omega)).trans (f_10 p (by simp at hq ⊢; omega))).trans (n_hf p hp))
set_option maxRecDepth 100000 in
theorem c_X7_modify_4 {Z : ia_Z} {V : ia_H} {Q : ia_O → ia_Z → ia_H → Prop} {σ : Nat → Int} {χ : Nat → Int} {m : Int} (e : Int) (v2 : Int) (hZ : ZI Z) (hP : PI V) (hS : Sh 1 V σ) (hI : SI σ m) (h15 : V 15 = χ) (hχ : (0 ≤ χ 1 ∧ χ 1 < 9) ∧ 0 ≤ χ 2 ∧ χ 2 ≤ 8) (re : -2147483648 ≤ e ∧ e ≤ 2147483647) (q1 : ∀ (V1 : ia_H), (¬ (0 ≤ e ∧ e < σ 0)) → PI V1 → (∀ pp, pp ∉ ([17, 18, 19, 20, 21, 22, 23, 24, 25, 26, 27, 28, 29, 30, 31, 32, 33, 34, 35, 36, 37, 38, 39, 40, 41, 42, 43, 44, 45, 46, 47, 48, 49, 50, 51, 52, 53, 54, 55, 56, 57, 58, 59, 60, 61, 62, 63, 64, 65, 66, 67, 68, 69, 70, 71, 72, 73, 74, 75, 76, 77, 78, 79] : List Nat) → V1 pp = V pp) → (∀ p : Nat, p < 17 + 7 * (χ 1).toNat ∨ 17 + 7 * (χ 1).toNat + 6 < p → V1 p = V p) → Q (.inr "java/lang/IndexOutOfBoundsException") Z V1) (q2 : ∀ (V1 : ia_H), (0 ≤ e ∧ e < σ 0) → (miss σ e.toNat = 0) → PI V1 → (∀ pp, pp ∉ ([17, 18, 19, 20, 21, 22, 23, 24, 25, 26, 27, 28, 29, 30, 31, 32, 33, 34, 35, 36, 37, 38, 39, 40, 41, 42, 43, 44, 45, 46, 47, 48, 49, 50, 51, 52, 53, 54, 55, 56, 57, 58, 59, 60, 61, 62, 63, 64, 65, 66, 67, 68, 69, 70, 71, 72, 73, 74, 75, 76, 77, 78, 79] : List Nat) → V1 pp = V pp) → (∀ p : Nat, p < 17 + 7 * (χ 1).toNat ∨ 17 + 7 * (χ 1).toNat + 6 < p → V1 p = V p) → Q (.inr "java/lang/IllegalStateException") Z V1) (q3 : ∀ (V1 : ia_H), (0 ≤ e ∧ e < σ 0) → (¬ miss σ e.toNat = 0) → (σ 2 = 0 ∨ wel σ (col σ e.toNat).toNat = 0) → PI V1 → (∀ pp, pp ∉ ([17, 18, 19, 20, 21, 22, 23, 24, 25, 26, 27, 28, 29, 30, 31, 32, 33, 34, 35, 36, 37, 38, 39, 40, 41, 42, 43, 44, 45, 46, 47, 48, 49, 50, 51, 52, 53, 54, 55, 56, 57, 58, 59, 60, 61, 62, 63, 64, 65, 66, 67, 68, 69, 70, 71, 72, 73, 74, 75, 76, 77, 78, 79] : List Nat) → V1 pp = V pp) → (∀ p : Nat, p < 17 + 7 * (χ 1).toNat ∨ 17 + 7 * (χ 1).toNat + 6 < p → V1 p = V p) → Q (.inr "java/lang/UnsupportedOperationException") Z V1) (q4 : ∀ (n : Int) (V1 : ia_H), (0 ≤ e ∧ e < σ 0) → (¬ miss σ e.toNat = 0) → (¬ (σ 2 = 0 ∨ wel σ (col σ e.toNat).toNat = 0)) → (n = min (miss σ e.toNat) (min (σ 2) (wel σ (col σ e.toNat).toNat))) → PI V1 → (V1 15 = up (up χ 1 ((χ 1 + 1) % 9)) 2 (min (χ 2 + 1) 8)) → (∀ pp, pp ∉ ([17, 18, 19, 20, 21, 22, 23, 24, 25, 26, 27, 28, 29, 30, 31, 32, 33, 34, 35, 36, 37, 38, 39, 40, 41, 42, 43, 44, 45, 46, 47, 48, 49, 50, 51, 52, 53, 54, 55, 56, 57, 58, 59, 60, 61, 62, 63, 64, 65, 66, 67, 68, 69, 70, 71, 72, 73, 74, 75, 76, 77, 78, 79, 1, 2, 3, 4, 5, 6, 7, 15] : List Nat) → V1 pp = V pp) → (Sh 1 V1 (s_print σ e.toNat n)) → (Sh (17 + 7 * (χ 1).toNat) V1 σ) → (∀ p : Nat, p < 17 + 7 * (χ 1).toNat ∨ 17 + 7 * (χ 1).toNat + 6 < p → p ∉ ([1, 2, 3, 4, 5, 6, 7, 15] : List Nat) → V1 p = V p) → Q (.inl (some (0, n))) Z V1) : ia_K yX7_modify cX7_modify 5 (some .int) [(4, ((0 : Nat) : Int)), (4, ((ia_E0 + 4 : Nat) : Int)), (0, e), (0, v2)] Z V 8 1 6 Q := by
  refine ia_start RX7 "modify" ⟨by decide, rfl, rfl⟩ (Nat.le_of_ble_eq_true rfl) (ia_tg rfl) (fun X F M => ?_)
  show ia_G X 0 0 0 [(4, ((0 : Nat) : Int)), (4, ((ia_E0 + 4 : Nat) : Int)), (0, e), (0, v2), (9, 0)] [] Z V
  obtain ⟨s0, s1, s2, s3, s4, s5, s6, s7, s18, sb, sw, se, sp⟩ := id hI
  refine ia_aload_n (pc := 0) F dX7_modify_0 rfl ?_
  refine jg (pc := 1) F (z0 hZ) cls10 f10_2 (hP 0 2 15 rfl) il_RX7_22 dX7_modify_1 ?_
  refine ia_aload_n (pc := 4) F dX7_modify_4 rfl ?_
  refine jg (pc := 5) F (z0 hZ) cls10 f10_0 (hP 0 0 1 rfl) il_RX7_12 dX7_modify_5 ?_
  refine jV (pc := 8) F 0 0 (z15 hZ) cls6.1 (c_X3_note hZ hP hS h15 (by omega) (fun V_1 p_2 f_3 x_4 x_5 => ?_)) rfl ⟨k_X3_note, il_RX7_306, im_X3_note, is_X3_note, ii_RX3⟩ 1 rfl hd_X3_note ⟨by decide, by decide, by decide, by decide, Nat.le_of_ble_eq_true rfl⟩ dX7_modify_8
  refine j0 ?_
  have n_hf := x_4
  have n_hs := x_5
  refine ia_aload_n (pc := 11) F dX7_modify_11 rfl ?_
  refine ia_aload_n (pc := 12) F dX7_modify_12 rfl ?_
  refine ia_iload_n (pc := 13) F dX7_modify_13 rfl ?_
  refine ia_iload_n (pc := 14) F dX7_modify_14 rfl ?_
  refine jV (pc := 15) F 0 0 (z0 hZ) cls10.1 (c_X7_carryOut_4 e v2 hZ p_2 (Sh_fr hS f_3 (by decide)) hI (by omega) (fun h_6 => ?_) (fun h_7 h_8 => ?_) (fun h_9 h_10 h_11 => ?_) (fun n_12 V_13 h_14 h_15 h_16 h_17 p_18 f_19 x_20 => ?_)) rfl ⟨k_X7_carryOut, il_RX7_336, im_X7_carryOut, is_X7_carryOut, ii_RX7⟩ 3 rfl hd_X7_carryOut ⟨by decide, by decide, by decide, by decide, Nat.le_of_ble_eq_true rfl⟩ dX7_modify_15
  · refine j1 ?_
    refine ia_istore (pc := 18) F (ls' := [(4, ((0 : Nat) : Int)), (4, ((ia_E0 + 4 : Nat) : Int)), (0, e), (0, v2), (0, (-3))]) dX7_modify_18 (Nat.le_of_ble_eq_true rfl) rfl rfl ?_
    refine ia_iload (pc := 20) F dX7_modify_20 rfl ?_
    refine jS (pc := 22) F 1 6 (c_X7_throwIfRefused_3  ?_) rfl ⟨k_X7_throwIfRefused, il_RX7_339, it_X7_throwIfRefused, ii_RX7⟩ rfl 1 rfl hd_X7_throwIfRefused ⟨by decide, by decide, by decide, by decide, Nat.le_of_ble_eq_true rfl⟩ dX7_modify_22
    refine jx ?_
    refine ia_out F M (by decide) (by decide) ?_
    exact q1 _ h_6 p_2 f_3 n_hf
  · refine j1 ?_
    refine ia_istore (pc := 18) F (ls' := [(4, ((0 : Nat) : Int)), (4, ((ia_E0 + 4 : Nat) : Int)), (0, e), (0, v2), (0, (-2))]) dX7_modify_18 (Nat.le_of_ble_eq_true rfl) rfl rfl ?_
    refine ia_iload (pc := 20) F dX7_modify_20 rfl ?_
    refine jS (pc := 22) F 1 6 (c_X7_throwIfRefused_2  ?_) rfl ⟨k_X7_throwIfRefused, il_RX7_339, it_X7_throwIfRefused, ii_RX7⟩ rfl 1 rfl hd_X7_throwIfRefused ⟨by decide, by decide, by decide, by decide, Nat.le_of_ble_eq_true rfl⟩ dX7_modify_22
    refine jx ?_
    refine ia_out F M (by decide) (by decide) ?_
    exact q2 _ h_7 h_8 p_2 f_3 n_hf
  · refine j1 ?_
    refine ia_istore (pc := 18) F (ls' := [(4, ((0 : Nat) : Int)), (4, ((ia_E0 + 4 : Nat) : Int)), (0, e), (0, v2), (0, (-4))]) dX7_modify_18 (Nat.le_of_ble_eq_true rfl) rfl rfl ?_
    refine ia_iload (pc := 20) F dX7_modify_20 rfl ?_
    refine jS (pc := 22) F 1 6 (c_X7_throwIfRefused_4  ?_) rfl ⟨k_X7_throwIfRefused, il_RX7_339, it_X7_throwIfRefused, ii_RX7⟩ rfl 1 rfl hd_X7_throwIfRefused ⟨by decide, by decide, by decide, by decide, Nat.le_of_ble_eq_true rfl⟩ dX7_modify_22
    refine jx ?_
    refine ia_out F M (by decide) (by decide) ?_
    exact q3 _ h_9 h_10 h_11 p_2 f_3 n_hf
  · refine j1 ?_
    refine ia_istore (pc := 18) F (ls' := [(4, ((0 : Nat) : Int)), (4, ((ia_E0 + 4 : Nat) : Int)), (0, e), (0, v2), (0, n_12)]) dX7_modify_18 (Nat.le_of_ble_eq_true rfl) rfl rfl ?_
    have r9 := se e.toNat (by omega)
    have r8 := sw (col σ e.toNat).toNat (by omega)
    have r7 : miss σ e.toNat = run σ e.toNat - prt σ e.toNat := rfl
    refine ia_iload (pc := 20) F dX7_modify_20 rfl ?_
    refine jS (pc := 22) F 1 6 (c_X7_throwIfRefused_0 n_12 (by omega) ?_) rfl ⟨k_X7_throwIfRefused, il_RX7_339, it_X7_throwIfRefused, ii_RX7⟩ rfl 1 rfl hd_X7_throwIfRefused ⟨by decide, by decide, by decide, by decide, Nat.le_of_ble_eq_true rfl⟩ dX7_modify_22
    refine j0 ?_
    refine ia_aload_n (pc := 25) F dX7_modify_25 rfl ?_
    refine jg (pc := 26) F (z0 hZ) cls10 f10_2 (p_18 0 2 15 rfl) il_RX7_22 dX7_modify_26 ?_
    refine jV (pc := 29) F 1 6 (z15 hZ) cls6.1 (c_X3_keepNoted hZ p_18 ((f_19 15 (by decide)).trans ((f_3 15 (by decide)).trans h15)) (by omega) (fun V_21 p_22 w_23 f_24 => ?_)) rfl ⟨k_X3_keepNoted, il_RX7_320, im_X3_keepNoted, is_X3_keepNoted, ii_RX3⟩ 0 rfl hd_X3_keepNoted ⟨by decide, by decide, by decide, by decide, Nat.le_of_ble_eq_true rfl⟩ dX7_modify_29
    refine j0 ?_
    refine ia_iload (pc := 32) F dX7_modify_32 rfl ?_
    refine ia_ireturn (pc := 34) F M (by decide) (by decide) dX7_modify_34 ?_
    exact q4 n_12 _ h_14 h_15 h_16 h_17 p_22 w_23 (Fr_c (Fr_c (Fr_c (Fr_0 (V := V) (S := [17, 18, 19, 20, 21, 22, 23, 24, 25, 26, 27, 28, 29, 30, 31, 32, 33, 34, 35, 36, 37, 38, 39, 40, 41, 42, 43, 44, 45, 46, 47, 48, 49, 50, 51, 52, 53, 54, 55, 56, 57, 58, 59, 60, 61, 62, 63, 64, 65, 66, 67, 68, 69, 70, 71, 72, 73, 74, 75, 76, 77, 78, 79, 1, 2, 3, 4, 5, 6, 7, 15])) f_3 (by decide)) f_19 (by decide)) f_24 (by decide)) (Sh_fr x_20 f_24 (by decide)) (Sh_mv n_hs (fun p h1 h2 => (f_24 p (by simp; omega)).trans (f_19 p (by simp; omega)))) (fun p hp hq => ((f_24 p (by simp at hq ⊢; omega)).trans (f_19 p (by simp at hq ⊢; omega))).trans (n_hf p hp))
set_option maxRecDepth 100000 in
theorem c_X7_modify_5 {Z : ia_Z} {V : ia_H} {Q : ia_O → ia_Z → ia_H → Prop} {σ : Nat → Int} {ρ : Nat → Int} {α1 : Nat → Int} {α2 : Nat → Int} {α3 : Nat → Int} {α4 : Nat → Int} {δ : Nat → Int} {χ : Nat → Int} {m : Int} (v1 : Int) (v2 : Int) (hZ : ZI Z) (hP : PI V) (hS : Sh 1 V σ) (hI : SI σ m) (h80 : V 80 = ρ) (h81 : V 81 = α1) (h82 : V 82 = α2) (h83 : V 83 = α3) (h84 : V 84 = α4) (h86 : V 86 = δ) (h15 : V 15 = χ) (hχ : (0 ≤ χ 1 ∧ χ 1 < 9) ∧ 0 ≤ χ 2 ∧ χ 2 ≤ 8) (hm : m + 1 ≤ 20000) (q1 : ∀ (V1 : ia_H), PI V1 → (V1 15 = up (up χ 1 ((χ 1 + 1) % 9)) 2 (min (χ 2 + 1) 8)) → (∀ pp, pp ∉ ([17, 18, 19, 20, 21, 22, 23, 24, 25, 26, 27, 28, 29, 30, 31, 32, 33, 34, 35, 36, 37, 38, 39, 40, 41, 42, 43, 44, 45, 46, 47, 48, 49, 50, 51, 52, 53, 54, 55, 56, 57, 58, 59, 60, 61, 62, 63, 64, 65, 66, 67, 68, 69, 70, 71, 72, 73, 74, 75, 76, 77, 78, 79, 1, 2, 3, 4, 5, 6, 7, 80, 81, 82, 83, 84, 86, 15] : List Nat) → V1 pp = V pp) → (Sh 1 V1 (s_all σ)) → (Sh (17 + 7 * (χ 1).toNat) V1 σ) → (∀ p : Nat, p < 17 + 7 * (χ 1).toNat ∨ 17 + 7 * (χ 1).toNat + 6 < p → p ∉ ([1, 2, 3, 4, 5, 6, 7, 80, 81, 82, 83, 84, 86, 15] : List Nat) → V1 p = V p) → Q (.inl (some (0, (n_all σ)))) Z V1) : ia_K yX7_modify cX7_modify 5 (some .int) [(4, ((0 : Nat) : Int)), (4, ((ia_E0 + 5 : Nat) : Int)), (0, v1), (0, v2)] Z V 8 1 6 Q := by
  refine ia_start RX7 "modify" ⟨by decide, rfl, rfl⟩ (Nat.le_of_ble_eq_true rfl) (ia_tg rfl) (fun X F M => ?_)
  show ia_G X 0 0 0 [(4, ((0 : Nat) : Int)), (4, ((ia_E0 + 5 : Nat) : Int)), (0, v1), (0, v2), (9, 0)] [] Z V
  obtain ⟨s0, s1, s2, s3, s4, s5, s6, s7, s18, sb, sw, se, sp⟩ := id hI
  refine ia_aload_n (pc := 0) F dX7_modify_0 rfl ?_
  refine jg (pc := 1) F (z0 hZ) cls10 f10_2 (hP 0 2 15 rfl) il_RX7_22 dX7_modify_1 ?_
  refine ia_aload_n (pc := 4) F dX7_modify_4 rfl ?_
  refine jg (pc := 5) F (z0 hZ) cls10 f10_0 (hP 0 0 1 rfl) il_RX7_12 dX7_modify_5 ?_
  refine jV (pc := 8) F 0 0 (z15 hZ) cls6.1 (c_X3_note hZ hP hS h15 (by omega) (fun V_1 p_2 f_3 x_4 x_5 => ?_)) rfl ⟨k_X3_note, il_RX7_306, im_X3_note, is_X3_note, ii_RX3⟩ 1 rfl hd_X3_note ⟨by decide, by decide, by decide, by decide, Nat.le_of_ble_eq_true rfl⟩ dX7_modify_8
  refine j0 ?_
  have n_hf := x_4
  have n_hs := x_5
  refine ia_aload_n (pc := 11) F dX7_modify_11 rfl ?_
  refine ia_aload_n (pc := 12) F dX7_modify_12 rfl ?_
  refine ia_iload_n (pc := 13) F dX7_modify_13 rfl ?_
  refine ia_iload_n (pc := 14) F dX7_modify_14 rfl ?_
  refine jV (pc := 15) F 0 0 (z0 hZ) cls10.1 (c_X7_carryOut_5 v1 v2 hZ p_2 (Sh_fr hS f_3 (by decide)) hI ((f_3 80 (by decide)).trans h80) ((f_3 81 (by decide)).trans h81) ((f_3 82 (by decide)).trans h82) ((f_3 83 (by decide)).trans h83) ((f_3 84 (by decide)).trans h84) ((f_3 86 (by decide)).trans h86) (by omega) (fun V_6 p_7 f_8 x_9 => ?_)) rfl ⟨k_X7_carryOut, il_RX7_336, im_X7_carryOut, is_X7_carryOut, ii_RX7⟩ 3 rfl hd_X7_carryOut ⟨by decide, by decide, by decide, by decide, Nat.le_of_ble_eq_true rfl⟩ dX7_modify_15
  refine j1 ?_
  refine ia_istore (pc := 18) F (ls' := [(4, ((0 : Nat) : Int)), (4, ((ia_E0 + 5 : Nat) : Int)), (0, v1), (0, v2), (0, (n_all σ))]) dX7_modify_18 (Nat.le_of_ble_eq_true rfl) rfl rfl ?_
  have r9 := n_all_rng hI hm
  refine ia_iload (pc := 20) F dX7_modify_20 rfl ?_
  refine jS (pc := 22) F 1 6 (c_X7_throwIfRefused_0 (n_all σ) (by omega) ?_) rfl ⟨k_X7_throwIfRefused, il_RX7_339, it_X7_throwIfRefused, ii_RX7⟩ rfl 1 rfl hd_X7_throwIfRefused ⟨by decide, by decide, by decide, by decide, Nat.le_of_ble_eq_true rfl⟩ dX7_modify_22
  refine j0 ?_
  refine ia_aload_n (pc := 25) F dX7_modify_25 rfl ?_
  refine jg (pc := 26) F (z0 hZ) cls10 f10_2 (p_7 0 2 15 rfl) il_RX7_22 dX7_modify_26 ?_
  refine jV (pc := 29) F 1 6 (z15 hZ) cls6.1 (c_X3_keepNoted hZ p_7 ((f_8 15 (by decide)).trans ((f_3 15 (by decide)).trans h15)) (by omega) (fun V_10 p_11 w_12 f_13 => ?_)) rfl ⟨k_X3_keepNoted, il_RX7_320, im_X3_keepNoted, is_X3_keepNoted, ii_RX3⟩ 0 rfl hd_X3_keepNoted ⟨by decide, by decide, by decide, by decide, Nat.le_of_ble_eq_true rfl⟩ dX7_modify_29
  refine j0 ?_
  refine ia_iload (pc := 32) F dX7_modify_32 rfl ?_
  refine ia_ireturn (pc := 34) F M (by decide) (by decide) dX7_modify_34 ?_
  exact q1 _ p_11 w_12 (Fr_c (Fr_c (Fr_c (Fr_0 (V := V) (S := [17, 18, 19, 20, 21, 22, 23, 24, 25, 26, 27, 28, 29, 30, 31, 32, 33, 34, 35, 36, 37, 38, 39, 40, 41, 42, 43, 44, 45, 46, 47, 48, 49, 50, 51, 52, 53, 54, 55, 56, 57, 58, 59, 60, 61, 62, 63, 64, 65, 66, 67, 68, 69, 70, 71, 72, 73, 74, 75, 76, 77, 78, 79, 1, 2, 3, 4, 5, 6, 7, 80, 81, 82, 83, 84, 86, 15])) f_3 (by decide)) f_8 (by decide)) f_13 (by decide)) (Sh_fr x_9 f_13 (by decide)) (Sh_mv n_hs (fun p h1 h2 => (f_13 p (by simp; omega)).trans (f_8 p (by simp; omega)))) (fun p hp hq => ((f_13 p (by simp at hq ⊢; omega)).trans (f_8 p (by simp at hq ⊢; omega))).trans (n_hf p hp))
set_option maxRecDepth 100000 in
theorem c_X7_modify_6 {Z : ia_Z} {V : ia_H} {Q : ia_O → ia_Z → ia_H → Prop} {σ : Nat → Int} {χ : Nat → Int} {m : Int} (h : Int) (v2 : Int) (hZ : ZI Z) (hP : PI V) (hS : Sh 1 V σ) (hI : SI σ m) (h15 : V 15 = χ) (hχ : (0 ≤ χ 1 ∧ χ 1 < 9) ∧ 0 ≤ χ 2 ∧ χ 2 ≤ 8) (rh : -2147483648 ≤ h ∧ h ≤ 2147483647) (q1 : ∀ (V1 : ia_H), (¬ (1 ≤ h ∧ h ≤ 48)) → PI V1 → (∀ pp, pp ∉ ([17, 18, 19, 20, 21, 22, 23, 24, 25, 26, 27, 28, 29, 30, 31, 32, 33, 34, 35, 36, 37, 38, 39, 40, 41, 42, 43, 44, 45, 46, 47, 48, 49, 50, 51, 52, 53, 54, 55, 56, 57, 58, 59, 60, 61, 62, 63, 64, 65, 66, 67, 68, 69, 70, 71, 72, 73, 74, 75, 76, 77, 78, 79] : List Nat) → V1 pp = V pp) → (∀ p : Nat, p < 17 + 7 * (χ 1).toNat ∨ 17 + 7 * (χ 1).toNat + 6 < p → V1 p = V p) → Q (.inr "java/lang/IllegalArgumentException") Z V1) (q2 : ∀ (V1 : ia_H), (1 ≤ h ∧ h ≤ 48) → PI V1 → (V1 15 = up (up χ 1 ((χ 1 + 1) % 9)) 2 (min (χ 2 + 1) 8)) → (∀ pp, pp ∉ ([17, 18, 19, 20, 21, 22, 23, 24, 25, 26, 27, 28, 29, 30, 31, 32, 33, 34, 35, 36, 37, 38, 39, 40, 41, 42, 43, 44, 45, 46, 47, 48, 49, 50, 51, 52, 53, 54, 55, 56, 57, 58, 59, 60, 61, 62, 63, 64, 65, 66, 67, 68, 69, 70, 71, 72, 73, 74, 75, 76, 77, 78, 79, 1, 2, 3, 4, 5, 6, 7, 15] : List Nat) → V1 pp = V pp) → (Sh 1 V1 (s_pass σ h.toNat)) → (Sh (17 + 7 * (χ 1).toNat) V1 σ) → (∀ p : Nat, p < 17 + 7 * (χ 1).toNat ∨ 17 + 7 * (χ 1).toNat + 6 < p → p ∉ ([1, 2, 3, 4, 5, 6, 7, 15] : List Nat) → V1 p = V p) → Q (.inl (some (0, (lostN σ h.toNat)))) Z V1) : ia_K yX7_modify cX7_modify 5 (some .int) [(4, ((0 : Nat) : Int)), (4, ((ia_E0 + 6 : Nat) : Int)), (0, h), (0, v2)] Z V 8 1 6 Q := by
  refine ia_start RX7 "modify" ⟨by decide, rfl, rfl⟩ (Nat.le_of_ble_eq_true rfl) (ia_tg rfl) (fun X F M => ?_)
  show ia_G X 0 0 0 [(4, ((0 : Nat) : Int)), (4, ((ia_E0 + 6 : Nat) : Int)), (0, h), (0, v2), (9, 0)] [] Z V
  obtain ⟨s0, s1, s2, s3, s4, s5, s6, s7, s18, sb, sw, se, sp⟩ := id hI
  refine ia_aload_n (pc := 0) F dX7_modify_0 rfl ?_
  refine jg (pc := 1) F (z0 hZ) cls10 f10_2 (hP 0 2 15 rfl) il_RX7_22 dX7_modify_1 ?_
  refine ia_aload_n (pc := 4) F dX7_modify_4 rfl ?_
  refine jg (pc := 5) F (z0 hZ) cls10 f10_0 (hP 0 0 1 rfl) il_RX7_12 dX7_modify_5 ?_
  refine jV (pc := 8) F 0 0 (z15 hZ) cls6.1 (c_X3_note hZ hP hS h15 (by omega) (fun V_1 p_2 f_3 x_4 x_5 => ?_)) rfl ⟨k_X3_note, il_RX7_306, im_X3_note, is_X3_note, ii_RX3⟩ 1 rfl hd_X3_note ⟨by decide, by decide, by decide, by decide, Nat.le_of_ble_eq_true rfl⟩ dX7_modify_8
  refine j0 ?_
  have n_hf := x_4
  have n_hs := x_5
  refine ia_aload_n (pc := 11) F dX7_modify_11 rfl ?_
  refine ia_aload_n (pc := 12) F dX7_modify_12 rfl ?_
  refine ia_iload_n (pc := 13) F dX7_modify_13 rfl ?_
  refine ia_iload_n (pc := 14) F dX7_modify_14 rfl ?_
  refine jV (pc := 15) F 0 0 (z0 hZ) cls10.1 (c_X7_carryOut_6 h v2 hZ p_2 (Sh_fr hS f_3 (by decide)) hI (by omega) (fun h_6 => ?_) (fun V_7 h_8 p_9 f_10 x_11 => ?_)) rfl ⟨k_X7_carryOut, il_RX7_336, im_X7_carryOut, is_X7_carryOut, ii_RX7⟩ 3 rfl hd_X7_carryOut ⟨by decide, by decide, by decide, by decide, Nat.le_of_ble_eq_true rfl⟩ dX7_modify_15
  · refine j1 ?_
    refine ia_istore (pc := 18) F (ls' := [(4, ((0 : Nat) : Int)), (4, ((ia_E0 + 6 : Nat) : Int)), (0, h), (0, v2), (0, (-1))]) dX7_modify_18 (Nat.le_of_ble_eq_true rfl) rfl rfl ?_
    refine ia_iload (pc := 20) F dX7_modify_20 rfl ?_
    refine jS (pc := 22) F 1 6 (c_X7_throwIfRefused_1  ?_) rfl ⟨k_X7_throwIfRefused, il_RX7_339, it_X7_throwIfRefused, ii_RX7⟩ rfl 1 rfl hd_X7_throwIfRefused ⟨by decide, by decide, by decide, by decide, Nat.le_of_ble_eq_true rfl⟩ dX7_modify_22
    refine jx ?_
    refine ia_out F M (by decide) (by decide) ?_
    exact q1 _ h_6 p_2 f_3 n_hf
  · refine j1 ?_
    refine ia_istore (pc := 18) F (ls' := [(4, ((0 : Nat) : Int)), (4, ((ia_E0 + 6 : Nat) : Int)), (0, h), (0, v2), (0, (lostN σ h.toNat))]) dX7_modify_18 (Nat.le_of_ble_eq_true rfl) rfl rfl ?_
    have r9 := lostN_rng (σ := σ) sw h.toNat
    refine ia_iload (pc := 20) F dX7_modify_20 rfl ?_
    refine jS (pc := 22) F 1 6 (c_X7_throwIfRefused_0 (lostN σ h.toNat) (by omega) ?_) rfl ⟨k_X7_throwIfRefused, il_RX7_339, it_X7_throwIfRefused, ii_RX7⟩ rfl 1 rfl hd_X7_throwIfRefused ⟨by decide, by decide, by decide, by decide, Nat.le_of_ble_eq_true rfl⟩ dX7_modify_22
    refine j0 ?_
    refine ia_aload_n (pc := 25) F dX7_modify_25 rfl ?_
    refine jg (pc := 26) F (z0 hZ) cls10 f10_2 (p_9 0 2 15 rfl) il_RX7_22 dX7_modify_26 ?_
    refine jV (pc := 29) F 1 6 (z15 hZ) cls6.1 (c_X3_keepNoted hZ p_9 ((f_10 15 (by decide)).trans ((f_3 15 (by decide)).trans h15)) (by omega) (fun V_12 p_13 w_14 f_15 => ?_)) rfl ⟨k_X3_keepNoted, il_RX7_320, im_X3_keepNoted, is_X3_keepNoted, ii_RX3⟩ 0 rfl hd_X3_keepNoted ⟨by decide, by decide, by decide, by decide, Nat.le_of_ble_eq_true rfl⟩ dX7_modify_29
    refine j0 ?_
    refine ia_iload (pc := 32) F dX7_modify_32 rfl ?_
    refine ia_ireturn (pc := 34) F M (by decide) (by decide) dX7_modify_34 ?_
    exact q2 _ h_8 p_13 w_14 (Fr_c (Fr_c (Fr_c (Fr_0 (V := V) (S := [17, 18, 19, 20, 21, 22, 23, 24, 25, 26, 27, 28, 29, 30, 31, 32, 33, 34, 35, 36, 37, 38, 39, 40, 41, 42, 43, 44, 45, 46, 47, 48, 49, 50, 51, 52, 53, 54, 55, 56, 57, 58, 59, 60, 61, 62, 63, 64, 65, 66, 67, 68, 69, 70, 71, 72, 73, 74, 75, 76, 77, 78, 79, 1, 2, 3, 4, 5, 6, 7, 15])) f_3 (by decide)) f_10 (by decide)) f_15 (by decide)) (Sh_fr x_11 f_15 (by decide)) (Sh_mv n_hs (fun p h1 h2 => (f_15 p (by simp; omega)).trans (f_10 p (by simp; omega)))) (fun p hp hq => ((f_15 p (by simp at hq ⊢; omega)).trans (f_10 p (by simp at hq ⊢; omega))).trans (n_hf p hp))
set_option maxRecDepth 100000 in
theorem c_X7_modify_7 {Z : ia_Z} {V : ia_H} {Q : ia_O → ia_Z → ia_H → Prop} {σ : Nat → Int} {χ : Nat → Int} {m : Int} (u : Int) (v2 : Int) (hZ : ZI Z) (hP : PI V) (hS : Sh 1 V σ) (hI : SI σ m) (h15 : V 15 = χ) (hχ : (0 ≤ χ 1 ∧ χ 1 < 9) ∧ 0 ≤ χ 2 ∧ χ 2 ≤ 8) (ru : -2147483648 ≤ u ∧ u ≤ 2147483647) (q1 : ∀ (V1 : ia_H), (¬ (0 ≤ u ∧ u ≤ 99)) → PI V1 → (∀ pp, pp ∉ ([17, 18, 19, 20, 21, 22, 23, 24, 25, 26, 27, 28, 29, 30, 31, 32, 33, 34, 35, 36, 37, 38, 39, 40, 41, 42, 43, 44, 45, 46, 47, 48, 49, 50, 51, 52, 53, 54, 55, 56, 57, 58, 59, 60, 61, 62, 63, 64, 65, 66, 67, 68, 69, 70, 71, 72, 73, 74, 75, 76, 77, 78, 79] : List Nat) → V1 pp = V pp) → (∀ p : Nat, p < 17 + 7 * (χ 1).toNat ∨ 17 + 7 * (χ 1).toNat + 6 < p → V1 p = V p) → Q (.inr "java/lang/IllegalArgumentException") Z V1) (q2 : ∀ (V1 : ia_H), (0 ≤ u ∧ u ≤ 99) → (σ 1 = 12) → PI V1 → (∀ pp, pp ∉ ([17, 18, 19, 20, 21, 22, 23, 24, 25, 26, 27, 28, 29, 30, 31, 32, 33, 34, 35, 36, 37, 38, 39, 40, 41, 42, 43, 44, 45, 46, 47, 48, 49, 50, 51, 52, 53, 54, 55, 56, 57, 58, 59, 60, 61, 62, 63, 64, 65, 66, 67, 68, 69, 70, 71, 72, 73, 74, 75, 76, 77, 78, 79] : List Nat) → V1 pp = V pp) → (∀ p : Nat, p < 17 + 7 * (χ 1).toNat ∨ 17 + 7 * (χ 1).toNat + 6 < p → V1 p = V p) → Q (.inr "java/lang/IllegalStateException") Z V1) (q3 : ∀ (V1 : ia_H), (0 ≤ u ∧ u ≤ 99) → (¬ σ 1 = 12) → PI V1 → (V1 15 = up (up χ 1 ((χ 1 + 1) % 9)) 2 (min (χ 2 + 1) 8)) → (∀ pp, pp ∉ ([17, 18, 19, 20, 21, 22, 23, 24, 25, 26, 27, 28, 29, 30, 31, 32, 33, 34, 35, 36, 37, 38, 39, 40, 41, 42, 43, 44, 45, 46, 47, 48, 49, 50, 51, 52, 53, 54, 55, 56, 57, 58, 59, 60, 61, 62, 63, 64, 65, 66, 67, 68, 69, 70, 71, 72, 73, 74, 75, 76, 77, 78, 79, 1, 2, 3, 4, 5, 6, 7, 15] : List Nat) → V1 pp = V pp) → (Sh 1 V1 (s_prove σ u)) → (Sh (17 + 7 * (χ 1).toNat) V1 σ) → (∀ p : Nat, p < 17 + 7 * (χ 1).toNat ∨ 17 + 7 * (χ 1).toNat + 6 < p → p ∉ ([1, 2, 3, 4, 5, 6, 7, 15] : List Nat) → V1 p = V p) → Q (.inl (some (0, (σ 1)))) Z V1) : ia_K yX7_modify cX7_modify 5 (some .int) [(4, ((0 : Nat) : Int)), (4, ((ia_E0 + 7 : Nat) : Int)), (0, u), (0, v2)] Z V 8 1 6 Q := by
  refine ia_start RX7 "modify" ⟨by decide, rfl, rfl⟩ (Nat.le_of_ble_eq_true rfl) (ia_tg rfl) (fun X F M => ?_)
  show ia_G X 0 0 0 [(4, ((0 : Nat) : Int)), (4, ((ia_E0 + 7 : Nat) : Int)), (0, u), (0, v2), (9, 0)] [] Z V
  obtain ⟨s0, s1, s2, s3, s4, s5, s6, s7, s18, sb, sw, se, sp⟩ := id hI
  refine ia_aload_n (pc := 0) F dX7_modify_0 rfl ?_
  refine jg (pc := 1) F (z0 hZ) cls10 f10_2 (hP 0 2 15 rfl) il_RX7_22 dX7_modify_1 ?_
  refine ia_aload_n (pc := 4) F dX7_modify_4 rfl ?_
  refine jg (pc := 5) F (z0 hZ) cls10 f10_0 (hP 0 0 1 rfl) il_RX7_12 dX7_modify_5 ?_
  refine jV (pc := 8) F 0 0 (z15 hZ) cls6.1 (c_X3_note hZ hP hS h15 (by omega) (fun V_1 p_2 f_3 x_4 x_5 => ?_)) rfl ⟨k_X3_note, il_RX7_306, im_X3_note, is_X3_note, ii_RX3⟩ 1 rfl hd_X3_note ⟨by decide, by decide, by decide, by decide, Nat.le_of_ble_eq_true rfl⟩ dX7_modify_8
  refine j0 ?_
  have n_hf := x_4
  have n_hs := x_5
  refine ia_aload_n (pc := 11) F dX7_modify_11 rfl ?_
  refine ia_aload_n (pc := 12) F dX7_modify_12 rfl ?_
  refine ia_iload_n (pc := 13) F dX7_modify_13 rfl ?_
  refine ia_iload_n (pc := 14) F dX7_modify_14 rfl ?_
  refine jV (pc := 15) F 0 0 (z0 hZ) cls10.1 (c_X7_carryOut_7 u v2 hZ p_2 (Sh_fr hS f_3 (by decide)) hI (by omega) (fun h_6 => ?_) (fun h_7 h_8 => ?_) (fun V_9 h_10 h_11 p_12 f_13 x_14 => ?_)) rfl ⟨k_X7_carryOut, il_RX7_336, im_X7_carryOut, is_X7_carryOut, ii_RX7⟩ 3 rfl hd_X7_carryOut ⟨by decide, by decide, by decide, by decide, Nat.le_of_ble_eq_true rfl⟩ dX7_modify_15
  · refine j1 ?_
    refine ia_istore (pc := 18) F (ls' := [(4, ((0 : Nat) : Int)), (4, ((ia_E0 + 7 : Nat) : Int)), (0, u), (0, v2), (0, (-1))]) dX7_modify_18 (Nat.le_of_ble_eq_true rfl) rfl rfl ?_
    refine ia_iload (pc := 20) F dX7_modify_20 rfl ?_
    refine jS (pc := 22) F 1 6 (c_X7_throwIfRefused_1  ?_) rfl ⟨k_X7_throwIfRefused, il_RX7_339, it_X7_throwIfRefused, ii_RX7⟩ rfl 1 rfl hd_X7_throwIfRefused ⟨by decide, by decide, by decide, by decide, Nat.le_of_ble_eq_true rfl⟩ dX7_modify_22
    refine jx ?_
    refine ia_out F M (by decide) (by decide) ?_
    exact q1 _ h_6 p_2 f_3 n_hf
  · refine j1 ?_
    refine ia_istore (pc := 18) F (ls' := [(4, ((0 : Nat) : Int)), (4, ((ia_E0 + 7 : Nat) : Int)), (0, u), (0, v2), (0, (-2))]) dX7_modify_18 (Nat.le_of_ble_eq_true rfl) rfl rfl ?_
    refine ia_iload (pc := 20) F dX7_modify_20 rfl ?_
    refine jS (pc := 22) F 1 6 (c_X7_throwIfRefused_2  ?_) rfl ⟨k_X7_throwIfRefused, il_RX7_339, it_X7_throwIfRefused, ii_RX7⟩ rfl 1 rfl hd_X7_throwIfRefused ⟨by decide, by decide, by decide, by decide, Nat.le_of_ble_eq_true rfl⟩ dX7_modify_22
    refine jx ?_
    refine ia_out F M (by decide) (by decide) ?_
    exact q2 _ h_7 h_8 p_2 f_3 n_hf
  · refine j1 ?_
    refine ia_istore (pc := 18) F (ls' := [(4, ((0 : Nat) : Int)), (4, ((ia_E0 + 7 : Nat) : Int)), (0, u), (0, v2), (0, (σ 1))]) dX7_modify_18 (Nat.le_of_ble_eq_true rfl) rfl rfl ?_
    refine ia_iload (pc := 20) F dX7_modify_20 rfl ?_
    refine jS (pc := 22) F 1 6 (c_X7_throwIfRefused_0 (σ 1) (by omega) ?_) rfl ⟨k_X7_throwIfRefused, il_RX7_339, it_X7_throwIfRefused, ii_RX7⟩ rfl 1 rfl hd_X7_throwIfRefused ⟨by decide, by decide, by decide, by decide, Nat.le_of_ble_eq_true rfl⟩ dX7_modify_22
    refine j0 ?_
    refine ia_aload_n (pc := 25) F dX7_modify_25 rfl ?_
    refine jg (pc := 26) F (z0 hZ) cls10 f10_2 (p_12 0 2 15 rfl) il_RX7_22 dX7_modify_26 ?_
    refine jV (pc := 29) F 1 6 (z15 hZ) cls6.1 (c_X3_keepNoted hZ p_12 ((f_13 15 (by decide)).trans ((f_3 15 (by decide)).trans h15)) (by omega) (fun V_15 p_16 w_17 f_18 => ?_)) rfl ⟨k_X3_keepNoted, il_RX7_320, im_X3_keepNoted, is_X3_keepNoted, ii_RX3⟩ 0 rfl hd_X3_keepNoted ⟨by decide, by decide, by decide, by decide, Nat.le_of_ble_eq_true rfl⟩ dX7_modify_29
    refine j0 ?_
    refine ia_iload (pc := 32) F dX7_modify_32 rfl ?_
    refine ia_ireturn (pc := 34) F M (by decide) (by decide) dX7_modify_34 ?_
    exact q3 _ h_10 h_11 p_16 w_17 (Fr_c (Fr_c (Fr_c (Fr_0 (V := V) (S := [17, 18, 19, 20, 21, 22, 23, 24, 25, 26, 27, 28, 29, 30, 31, 32, 33, 34, 35, 36, 37, 38, 39, 40, 41, 42, 43, 44, 45, 46, 47, 48, 49, 50, 51, 52, 53, 54, 55, 56, 57, 58, 59, 60, 61, 62, 63, 64, 65, 66, 67, 68, 69, 70, 71, 72, 73, 74, 75, 76, 77, 78, 79, 1, 2, 3, 4, 5, 6, 7, 15])) f_3 (by decide)) f_13 (by decide)) f_18 (by decide)) (Sh_fr x_14 f_18 (by decide)) (Sh_mv n_hs (fun p h1 h2 => (f_18 p (by simp; omega)).trans (f_13 p (by simp; omega)))) (fun p hp hq => ((f_18 p (by simp at hq ⊢; omega)).trans (f_13 p (by simp at hq ⊢; omega))).trans (n_hf p hp))
set_option maxRecDepth 100000 in
theorem c_X7_modify_8 {Z : ia_Z} {V : ia_H} {Q : ia_O → ia_Z → ia_H → Prop} {σ : Nat → Int} {χ : Nat → Int} {m : Int} (e : Int) (v2 : Int) (hZ : ZI Z) (hP : PI V) (hS : Sh 1 V σ) (hI : SI σ m) (h15 : V 15 = χ) (hχ : (0 ≤ χ 1 ∧ χ 1 < 9) ∧ 0 ≤ χ 2 ∧ χ 2 ≤ 8) (re : -2147483648 ≤ e ∧ e ≤ 2147483647) (q1 : ∀ (V1 : ia_H), (¬ (0 ≤ e ∧ e < σ 1)) → PI V1 → (∀ pp, pp ∉ ([17, 18, 19, 20, 21, 22, 23, 24, 25, 26, 27, 28, 29, 30, 31, 32, 33, 34, 35, 36, 37, 38, 39, 40, 41, 42, 43, 44, 45, 46, 47, 48, 49, 50, 51, 52, 53, 54, 55, 56, 57, 58, 59, 60, 61, 62, 63, 64, 65, 66, 67, 68, 69, 70, 71, 72, 73, 74, 75, 76, 77, 78, 79] : List Nat) → V1 pp = V pp) → (∀ p : Nat, p < 17 + 7 * (χ 1).toNat ∨ 17 + 7 * (χ 1).toNat + 6 < p → V1 p = V p) → Q (.inr "java/lang/IndexOutOfBoundsException") Z V1) (q2 : ∀ (V1 : ia_H), (0 ≤ e ∧ e < σ 1) → PI V1 → (V1 15 = up (up χ 1 ((χ 1 + 1) % 9)) 2 (min (χ 2 + 1) 8)) → (∀ pp, pp ∉ ([17, 18, 19, 20, 21, 22, 23, 24, 25, 26, 27, 28, 29, 30, 31, 32, 33, 34, 35, 36, 37, 38, 39, 40, 41, 42, 43, 44, 45, 46, 47, 48, 49, 50, 51, 52, 53, 54, 55, 56, 57, 58, 59, 60, 61, 62, 63, 64, 65, 66, 67, 68, 69, 70, 71, 72, 73, 74, 75, 76, 77, 78, 79, 1, 2, 3, 4, 5, 6, 7, 15] : List Nat) → V1 pp = V pp) → (Sh 1 V1 (s_drop σ e.toNat)) → (Sh (17 + 7 * (χ 1).toNat) V1 σ) → (∀ p : Nat, p < 17 + 7 * (χ 1).toNat ∨ 17 + 7 * (χ 1).toNat + 6 < p → p ∉ ([1, 2, 3, 4, 5, 6, 7, 15] : List Nat) → V1 p = V p) → Q (.inl (some (0, (σ 1 - 1)))) Z V1) : ia_K yX7_modify cX7_modify 5 (some .int) [(4, ((0 : Nat) : Int)), (4, ((ia_E0 + 8 : Nat) : Int)), (0, e), (0, v2)] Z V 8 1 6 Q := by
  refine ia_start RX7 "modify" ⟨by decide, rfl, rfl⟩ (Nat.le_of_ble_eq_true rfl) (ia_tg rfl) (fun X F M => ?_)
  show ia_G X 0 0 0 [(4, ((0 : Nat) : Int)), (4, ((ia_E0 + 8 : Nat) : Int)), (0, e), (0, v2), (9, 0)] [] Z V
  obtain ⟨s0, s1, s2, s3, s4, s5, s6, s7, s18, sb, sw, se, sp⟩ := id hI
  refine ia_aload_n (pc := 0) F dX7_modify_0 rfl ?_
  refine jg (pc := 1) F (z0 hZ) cls10 f10_2 (hP 0 2 15 rfl) il_RX7_22 dX7_modify_1 ?_
  refine ia_aload_n (pc := 4) F dX7_modify_4 rfl ?_
  refine jg (pc := 5) F (z0 hZ) cls10 f10_0 (hP 0 0 1 rfl) il_RX7_12 dX7_modify_5 ?_
  refine jV (pc := 8) F 0 0 (z15 hZ) cls6.1 (c_X3_note hZ hP hS h15 (by omega) (fun V_1 p_2 f_3 x_4 x_5 => ?_)) rfl ⟨k_X3_note, il_RX7_306, im_X3_note, is_X3_note, ii_RX3⟩ 1 rfl hd_X3_note ⟨by decide, by decide, by decide, by decide, Nat.le_of_ble_eq_true rfl⟩ dX7_modify_8
  refine j0 ?_
  have n_hf := x_4
  have n_hs := x_5
  refine ia_aload_n (pc := 11) F dX7_modify_11 rfl ?_
  refine ia_aload_n (pc := 12) F dX7_modify_12 rfl ?_
  refine ia_iload_n (pc := 13) F dX7_modify_13 rfl ?_
  refine ia_iload_n (pc := 14) F dX7_modify_14 rfl ?_
  refine jV (pc := 15) F 0 0 (z0 hZ) cls10.1 (c_X7_carryOut_8 e v2 hZ p_2 (Sh_fr hS f_3 (by decide)) hI (by omega) (fun h_6 => ?_) (fun V_7 h_8 p_9 f_10 x_11 => ?_)) rfl ⟨k_X7_carryOut, il_RX7_336, im_X7_carryOut, is_X7_carryOut, ii_RX7⟩ 3 rfl hd_X7_carryOut ⟨by decide, by decide, by decide, by decide, Nat.le_of_ble_eq_true rfl⟩ dX7_modify_15
  · refine j1 ?_
    refine ia_istore (pc := 18) F (ls' := [(4, ((0 : Nat) : Int)), (4, ((ia_E0 + 8 : Nat) : Int)), (0, e), (0, v2), (0, (-3))]) dX7_modify_18 (Nat.le_of_ble_eq_true rfl) rfl rfl ?_
    refine ia_iload (pc := 20) F dX7_modify_20 rfl ?_
    refine jS (pc := 22) F 1 6 (c_X7_throwIfRefused_3  ?_) rfl ⟨k_X7_throwIfRefused, il_RX7_339, it_X7_throwIfRefused, ii_RX7⟩ rfl 1 rfl hd_X7_throwIfRefused ⟨by decide, by decide, by decide, by decide, Nat.le_of_ble_eq_true rfl⟩ dX7_modify_22
    refine jx ?_
    refine ia_out F M (by decide) (by decide) ?_
    exact q1 _ h_6 p_2 f_3 n_hf
  · refine j1 ?_
    refine ia_istore (pc := 18) F (ls' := [(4, ((0 : Nat) : Int)), (4, ((ia_E0 + 8 : Nat) : Int)), (0, e), (0, v2), (0, (σ 1 - 1))]) dX7_modify_18 (Nat.le_of_ble_eq_true rfl) rfl rfl ?_
    refine ia_iload (pc := 20) F dX7_modify_20 rfl ?_
    refine jS (pc := 22) F 1 6 (c_X7_throwIfRefused_0 (σ 1 - 1) (by omega) ?_) rfl ⟨k_X7_throwIfRefused, il_RX7_339, it_X7_throwIfRefused, ii_RX7⟩ rfl 1 rfl hd_X7_throwIfRefused ⟨by decide, by decide, by decide, by decide, Nat.le_of_ble_eq_true rfl⟩ dX7_modify_22
    refine j0 ?_
    refine ia_aload_n (pc := 25) F dX7_modify_25 rfl ?_
    refine jg (pc := 26) F (z0 hZ) cls10 f10_2 (p_9 0 2 15 rfl) il_RX7_22 dX7_modify_26 ?_
    refine jV (pc := 29) F 1 6 (z15 hZ) cls6.1 (c_X3_keepNoted hZ p_9 ((f_10 15 (by decide)).trans ((f_3 15 (by decide)).trans h15)) (by omega) (fun V_12 p_13 w_14 f_15 => ?_)) rfl ⟨k_X3_keepNoted, il_RX7_320, im_X3_keepNoted, is_X3_keepNoted, ii_RX3⟩ 0 rfl hd_X3_keepNoted ⟨by decide, by decide, by decide, by decide, Nat.le_of_ble_eq_true rfl⟩ dX7_modify_29
    refine j0 ?_
    refine ia_iload (pc := 32) F dX7_modify_32 rfl ?_
    refine ia_ireturn (pc := 34) F M (by decide) (by decide) dX7_modify_34 ?_
    exact q2 _ h_8 p_13 w_14 (Fr_c (Fr_c (Fr_c (Fr_0 (V := V) (S := [17, 18, 19, 20, 21, 22, 23, 24, 25, 26, 27, 28, 29, 30, 31, 32, 33, 34, 35, 36, 37, 38, 39, 40, 41, 42, 43, 44, 45, 46, 47, 48, 49, 50, 51, 52, 53, 54, 55, 56, 57, 58, 59, 60, 61, 62, 63, 64, 65, 66, 67, 68, 69, 70, 71, 72, 73, 74, 75, 76, 77, 78, 79, 1, 2, 3, 4, 5, 6, 7, 15])) f_3 (by decide)) f_10 (by decide)) f_15 (by decide)) (Sh_fr x_11 f_15 (by decide)) (Sh_mv n_hs (fun p h1 h2 => (f_15 p (by simp; omega)).trans (f_10 p (by simp; omega)))) (fun p hp hq => ((f_15 p (by simp at hq ⊢; omega)).trans (f_10 p (by simp at hq ⊢; omega))).trans (n_hf p hp))
set_option maxRecDepth 100000 in
theorem c_X7_addInk {Z : ia_Z} {V : ia_H} {Q : ia_O → ia_Z → ia_H → Prop} {σ : Nat → Int} {χ : Nat → Int} {m : Int} (c : Int) (u : Int) (hZ : ZI Z) (hP : PI V) (hS : Sh 1 V σ) (hI : SI σ m) (h15 : V 15 = χ) (hχ : (0 ≤ χ 1 ∧ χ 1 < 9) ∧ 0 ≤ χ 2 ∧ χ 2 ≤ 8) (rc : -2147483648 ≤ c ∧ c ≤ 2147483647) (ru : -2147483648 ≤ u ∧ u ≤ 2147483647) (q1 : ∀ (V1 : ia_H), (¬ ((0 ≤ c ∧ c ≤ 9) ∧ 1 ≤ u ∧ u ≤ 999)) → PI V1 → (∀ pp, pp ∉ ([17, 18, 19, 20, 21, 22, 23, 24, 25, 26, 27, 28, 29, 30, 31, 32, 33, 34, 35, 36, 37, 38, 39, 40, 41, 42, 43, 44, 45, 46, 47, 48, 49, 50, 51, 52, 53, 54, 55, 56, 57, 58, 59, 60, 61, 62, 63, 64, 65, 66, 67, 68, 69, 70, 71, 72, 73, 74, 75, 76, 77, 78, 79] : List Nat) → V1 pp = V pp) → (∀ p : Nat, p < 17 + 7 * (χ 1).toNat ∨ 17 + 7 * (χ 1).toNat + 6 < p → V1 p = V p) → Q (.inr "java/lang/IllegalArgumentException") Z V1) (q2 : ∀ (V1 : ia_H), ((0 ≤ c ∧ c ≤ 9) ∧ 1 ≤ u ∧ u ≤ 999) → (999 < wel σ c.toNat + u) → PI V1 → (∀ pp, pp ∉ ([17, 18, 19, 20, 21, 22, 23, 24, 25, 26, 27, 28, 29, 30, 31, 32, 33, 34, 35, 36, 37, 38, 39, 40, 41, 42, 43, 44, 45, 46, 47, 48, 49, 50, 51, 52, 53, 54, 55, 56, 57, 58, 59, 60, 61, 62, 63, 64, 65, 66, 67, 68, 69, 70, 71, 72, 73, 74, 75, 76, 77, 78, 79] : List Nat) → V1 pp = V pp) → (∀ p : Nat, p < 17 + 7 * (χ 1).toNat ∨ 17 + 7 * (χ 1).toNat + 6 < p → V1 p = V p) → Q (.inr "java/lang/IllegalStateException") Z V1) (q3 : ∀ (V1 : ia_H), ((0 ≤ c ∧ c ≤ 9) ∧ 1 ≤ u ∧ u ≤ 999) → (wel σ c.toNat + u ≤ 999) → PI V1 → (V1 15 = up (up χ 1 ((χ 1 + 1) % 9)) 2 (min (χ 2 + 1) 8)) → (∀ pp, pp ∉ ([17, 18, 19, 20, 21, 22, 23, 24, 25, 26, 27, 28, 29, 30, 31, 32, 33, 34, 35, 36, 37, 38, 39, 40, 41, 42, 43, 44, 45, 46, 47, 48, 49, 50, 51, 52, 53, 54, 55, 56, 57, 58, 59, 60, 61, 62, 63, 64, 65, 66, 67, 68, 69, 70, 71, 72, 73, 74, 75, 76, 77, 78, 79, 1, 2, 3, 4, 5, 6, 7, 15] : List Nat) → V1 pp = V pp) → (Sh 1 V1 (s_pour σ c.toNat u)) → (Sh (17 + 7 * (χ 1).toNat) V1 σ) → (∀ p : Nat, p < 17 + 7 * (χ 1).toNat ∨ 17 + 7 * (χ 1).toNat + 6 < p → p ∉ ([1, 2, 3, 4, 5, 6, 7, 15] : List Nat) → V1 p = V p) → Q (.inl (some (0, (wel σ c.toNat + u)))) Z V1) : ia_K yX7_addInk cX7_addInk 3 (some .int) [(4, ((0 : Nat) : Int)), (0, c), (0, u)] Z V 9 1 6 Q := by
  refine ia_start RX7 "addInk" ⟨by decide, rfl, rfl⟩ (Nat.le_of_ble_eq_true rfl) (ia_tg rfl) (fun X F M => ?_)
  show ia_G X 0 0 0 [(4, ((0 : Nat) : Int)), (0, c), (0, u)] [] Z V
  obtain ⟨s0, s1, s2, s3, s4, s5, s6, s7, s18, sb, sw, se, sp⟩ := id hI
  refine ia_aload_n (pc := 0) F dX7_addInk_0 rfl ?_
  refine ia_getCmd (pc := 1) F 0 (by decide) il_RX7_72 dX7_addInk_1 ?_
  refine ia_iload_n (pc := 4) F dX7_addInk_4 rfl ?_
  refine ia_iload_n (pc := 5) F dX7_addInk_5 rfl ?_
  refine jV (pc := 6) F 1 6 (z0 hZ) cls10.1 (c_X7_modify_0 c u hZ hP hS hI h15 (by omega) (by omega) (by omega) (fun V_1 h_2 p_3 f_4 x_5 => ?_) (fun V_6 h_7 h_8 p_9 f_10 x_11 => ?_) (fun V_12 h_13 h_14 p_15 w_16 f_17 x_18 x_19 x_20 => ?_)) rfl ⟨k_X7_modify, il_RX7_78, im_X7_modify, is_X7_modify, ii_RX7⟩ 3 rfl hd_X7_modify ⟨by decide, by decide, by decide, by decide, Nat.le_of_ble_eq_true rfl⟩ dX7_addInk_6
  · refine jx ?_
    refine ia_out F M (by decide) (by decide) ?_
    exact q1 _ h_2 p_3 f_4 x_5
  · refine jx ?_
    refine ia_out F M (by decide) (by decide) ?_
    exact q2 _ h_7 h_8 p_9 f_10 x_11
  · refine j1 ?_
    refine ia_ireturn (pc := 9) F M (by decide) (by decide) dX7_addInk_9 ?_
    exact q3 _ h_13 h_14 p_15 w_16 (Fr_c (Fr_0 (V := V) (S := [17, 18, 19, 20, 21, 22, 23, 24, 25, 26, 27, 28, 29, 30, 31, 32, 33, 34, 35, 36, 37, 38, 39, 40, 41, 42, 43, 44, 45, 46, 47, 48, 49, 50, 51, 52, 53, 54, 55, 56, 57, 58, 59, 60, 61, 62, 63, 64, 65, 66, 67, 68, 69, 70, 71, 72, 73, 74, 75, 76, 77, 78, 79, 1, 2, 3, 4, 5, 6, 7, 15])) f_17 (by decide)) x_18 x_19 x_20
set_option maxRecDepth 100000 in
theorem c_X7_addPaper {Z : ia_Z} {V : ia_H} {Q : ia_O → ia_Z → ia_H → Prop} {σ : Nat → Int} {χ : Nat → Int} {m : Int} (u : Int) (hZ : ZI Z) (hP : PI V) (hS : Sh 1 V σ) (hI : SI σ m) (h15 : V 15 = χ) (hχ : (0 ≤ χ 1 ∧ χ 1 < 9) ∧ 0 ≤ χ 2 ∧ χ 2 ≤ 8) (ru : -2147483648 ≤ u ∧ u ≤ 2147483647) (q1 : ∀ (V1 : ia_H), (¬ (1 ≤ u ∧ u ≤ 999)) → PI V1 → (∀ pp, pp ∉ ([17, 18, 19, 20, 21, 22, 23, 24, 25, 26, 27, 28, 29, 30, 31, 32, 33, 34, 35, 36, 37, 38, 39, 40, 41, 42, 43, 44, 45, 46, 47, 48, 49, 50, 51, 52, 53, 54, 55, 56, 57, 58, 59, 60, 61, 62, 63, 64, 65, 66, 67, 68, 69, 70, 71, 72, 73, 74, 75, 76, 77, 78, 79] : List Nat) → V1 pp = V pp) → (∀ p : Nat, p < 17 + 7 * (χ 1).toNat ∨ 17 + 7 * (χ 1).toNat + 6 < p → V1 p = V p) → Q (.inr "java/lang/IllegalArgumentException") Z V1) (q2 : ∀ (V1 : ia_H), (1 ≤ u ∧ u ≤ 999) → (9999 < σ 2 + u) → PI V1 → (∀ pp, pp ∉ ([17, 18, 19, 20, 21, 22, 23, 24, 25, 26, 27, 28, 29, 30, 31, 32, 33, 34, 35, 36, 37, 38, 39, 40, 41, 42, 43, 44, 45, 46, 47, 48, 49, 50, 51, 52, 53, 54, 55, 56, 57, 58, 59, 60, 61, 62, 63, 64, 65, 66, 67, 68, 69, 70, 71, 72, 73, 74, 75, 76, 77, 78, 79] : List Nat) → V1 pp = V pp) → (∀ p : Nat, p < 17 + 7 * (χ 1).toNat ∨ 17 + 7 * (χ 1).toNat + 6 < p → V1 p = V p) → Q (.inr "java/lang/IllegalStateException") Z V1) (q3 : ∀ (V1 : ia_H), (1 ≤ u ∧ u ≤ 999) → (σ 2 + u ≤ 9999) → PI V1 → (V1 15 = up (up χ 1 ((χ 1 + 1) % 9)) 2 (min (χ 2 + 1) 8)) → (∀ pp, pp ∉ ([17, 18, 19, 20, 21, 22, 23, 24, 25, 26, 27, 28, 29, 30, 31, 32, 33, 34, 35, 36, 37, 38, 39, 40, 41, 42, 43, 44, 45, 46, 47, 48, 49, 50, 51, 52, 53, 54, 55, 56, 57, 58, 59, 60, 61, 62, 63, 64, 65, 66, 67, 68, 69, 70, 71, 72, 73, 74, 75, 76, 77, 78, 79, 1, 2, 3, 4, 5, 6, 7, 15] : List Nat) → V1 pp = V pp) → (Sh 1 V1 (s_buy σ u)) → (Sh (17 + 7 * (χ 1).toNat) V1 σ) → (∀ p : Nat, p < 17 + 7 * (χ 1).toNat ∨ 17 + 7 * (χ 1).toNat + 6 < p → p ∉ ([1, 2, 3, 4, 5, 6, 7, 15] : List Nat) → V1 p = V p) → Q (.inl (some (0, (σ 2 + u)))) Z V1) : ia_K yX7_addPaper cX7_addPaper 2 (some .int) [(4, ((0 : Nat) : Int)), (0, u)] Z V 9 1 6 Q := by
  refine ia_start RX7 "addPaper" ⟨by decide, rfl, rfl⟩ (Nat.le_of_ble_eq_true rfl) (ia_tg rfl) (fun X F M => ?_)
  show ia_G X 0 0 0 [(4, ((0 : Nat) : Int)), (0, u)] [] Z V
  obtain ⟨s0, s1, s2, s3, s4, s5, s6, s7, s18, sb, sw, se, sp⟩ := id hI
  refine ia_aload_n (pc := 0) F dX7_addPaper_0 rfl ?_
  refine ia_getCmd (pc := 1) F 1 (by decide) il_RX7_82 dX7_addPaper_1 ?_
  refine ia_iload_n (pc := 4) F dX7_addPaper_4 rfl ?_
  refine ia_iconst (pc := 5) F dX7_addPaper_5 ?_
  refine jV (pc := 6) F 1 6 (z0 hZ) cls10.1 (c_X7_modify_1 u 0 hZ hP hS hI h15 (by omega) (by omega) (fun V_1 h_2 p_3 f_4 x_5 => ?_) (fun V_6 h_7 h_8 p_9 f_10 x_11 => ?_) (fun V_12 h_13 h_14 p_15 w_16 f_17 x_18 x_19 x_20 => ?_)) rfl ⟨k_X7_modify, il_RX7_78, im_X7_modify, is_X7_modify, ii_RX7⟩ 3 rfl hd_X7_modify ⟨by decide, by decide, by decide, by decide, Nat.le_of_ble_eq_true rfl⟩ dX7_addPaper_6
  · refine jx ?_
    refine ia_out F M (by decide) (by decide) ?_
    exact q1 _ h_2 p_3 f_4 x_5
  · refine jx ?_
    refine ia_out F M (by decide) (by decide) ?_
    exact q2 _ h_7 h_8 p_9 f_10 x_11
  · refine j1 ?_
    refine ia_ireturn (pc := 9) F M (by decide) (by decide) dX7_addPaper_9 ?_
    exact q3 _ h_13 h_14 p_15 w_16 (Fr_c (Fr_0 (V := V) (S := [17, 18, 19, 20, 21, 22, 23, 24, 25, 26, 27, 28, 29, 30, 31, 32, 33, 34, 35, 36, 37, 38, 39, 40, 41, 42, 43, 44, 45, 46, 47, 48, 49, 50, 51, 52, 53, 54, 55, 56, 57, 58, 59, 60, 61, 62, 63, 64, 65, 66, 67, 68, 69, 70, 71, 72, 73, 74, 75, 76, 77, 78, 79, 1, 2, 3, 4, 5, 6, 7, 15])) f_17 (by decide)) x_18 x_19 x_20
set_option maxRecDepth 100000 in
theorem c_X7_addEdition {Z : ia_Z} {V : ia_H} {Q : ia_O → ia_Z → ia_H → Prop} {σ : Nat → Int} {χ : Nat → Int} {m : Int} (c : Int) (u : Int) (hZ : ZI Z) (hP : PI V) (hS : Sh 1 V σ) (hI : SI σ m) (h15 : V 15 = χ) (hχ : (0 ≤ χ 1 ∧ χ 1 < 9) ∧ 0 ≤ χ 2 ∧ χ 2 ≤ 8) (rc : -2147483648 ≤ c ∧ c ≤ 2147483647) (ru : -2147483648 ≤ u ∧ u ≤ 2147483647) (q1 : ∀ (V1 : ia_H), (¬ ((0 ≤ c ∧ c ≤ 9) ∧ 1 ≤ u ∧ u ≤ 50)) → PI V1 → (∀ pp, pp ∉ ([17, 18, 19, 20, 21, 22, 23, 24, 25, 26, 27, 28, 29, 30, 31, 32, 33, 34, 35, 36, 37, 38, 39, 40, 41, 42, 43, 44, 45, 46, 47, 48, 49, 50, 51, 52, 53, 54, 55, 56, 57, 58, 59, 60, 61, 62, 63, 64, 65, 66, 67, 68, 69, 70, 71, 72, 73, 74, 75, 76, 77, 78, 79] : List Nat) → V1 pp = V pp) → (∀ p : Nat, p < 17 + 7 * (χ 1).toNat ∨ 17 + 7 * (χ 1).toNat + 6 < p → V1 p = V p) → Q (.inr "java/lang/IllegalArgumentException") Z V1) (q2 : ∀ (V1 : ia_H), ((0 ≤ c ∧ c ≤ 9) ∧ 1 ≤ u ∧ u ≤ 50) → (σ 0 = 7) → PI V1 → (∀ pp, pp ∉ ([17, 18, 19, 20, 21, 22, 23, 24, 25, 26, 27, 28, 29, 30, 31, 32, 33, 34, 35, 36, 37, 38, 39, 40, 41, 42, 43, 44, 45, 46, 47, 48, 49, 50, 51, 52, 53, 54, 55, 56, 57, 58, 59, 60, 61, 62, 63, 64, 65, 66, 67, 68, 69, 70, 71, 72, 73, 74, 75, 76, 77, 78, 79] : List Nat) → V1 pp = V pp) → (∀ p : Nat, p < 17 + 7 * (χ 1).toNat ∨ 17 + 7 * (χ 1).toNat + 6 < p → V1 p = V p) → Q (.inr "java/lang/IllegalStateException") Z V1) (q3 : ∀ (V1 : ia_H), ((0 ≤ c ∧ c ≤ 9) ∧ 1 ≤ u ∧ u ≤ 50) → (¬ σ 0 = 7) → PI V1 → (V1 15 = up (up χ 1 ((χ 1 + 1) % 9)) 2 (min (χ 2 + 1) 8)) → (∀ pp, pp ∉ ([17, 18, 19, 20, 21, 22, 23, 24, 25, 26, 27, 28, 29, 30, 31, 32, 33, 34, 35, 36, 37, 38, 39, 40, 41, 42, 43, 44, 45, 46, 47, 48, 49, 50, 51, 52, 53, 54, 55, 56, 57, 58, 59, 60, 61, 62, 63, 64, 65, 66, 67, 68, 69, 70, 71, 72, 73, 74, 75, 76, 77, 78, 79, 1, 2, 3, 4, 5, 6, 7, 15] : List Nat) → V1 pp = V pp) → (Sh 1 V1 (s_add σ c u)) → (Sh (17 + 7 * (χ 1).toNat) V1 σ) → (∀ p : Nat, p < 17 + 7 * (χ 1).toNat ∨ 17 + 7 * (χ 1).toNat + 6 < p → p ∉ ([1, 2, 3, 4, 5, 6, 7, 15] : List Nat) → V1 p = V p) → Q (.inl (some (0, (σ 0)))) Z V1) : ia_K yX7_addEdition cX7_addEdition 3 (some .int) [(4, ((0 : Nat) : Int)), (0, c), (0, u)] Z V 9 1 6 Q := by
  refine ia_start RX7 "addEdition" ⟨by decide, rfl, rfl⟩ (Nat.le_of_ble_eq_true rfl) (ia_tg rfl) (fun X F M => ?_)
  show ia_G X 0 0 0 [(4, ((0 : Nat) : Int)), (0, c), (0, u)] [] Z V
  obtain ⟨s0, s1, s2, s3, s4, s5, s6, s7, s18, sb, sw, se, sp⟩ := id hI
  refine ia_aload_n (pc := 0) F dX7_addEdition_0 rfl ?_
  refine ia_getCmd (pc := 1) F 2 (by decide) il_RX7_120 dX7_addEdition_1 ?_
  refine ia_iload_n (pc := 4) F dX7_addEdition_4 rfl ?_
  refine ia_iload_n (pc := 5) F dX7_addEdition_5 rfl ?_
  refine jV (pc := 6) F 1 6 (z0 hZ) cls10.1 (c_X7_modify_2 c u hZ hP hS hI h15 (by omega) (by omega) (by omega) (fun V_1 h_2 p_3 f_4 x_5 => ?_) (fun V_6 h_7 h_8 p_9 f_10 x_11 => ?_) (fun V_12 h_13 h_14 p_15 w_16 f_17 x_18 x_19 x_20 => ?_)) rfl ⟨k_X7_modify, il_RX7_78, im_X7_modify, is_X7_modify, ii_RX7⟩ 3 rfl hd_X7_modify ⟨by decide, by decide, by decide, by decide, Nat.le_of_ble_eq_true rfl⟩ dX7_addEdition_6
  · refine jx ?_
    refine ia_out F M (by decide) (by decide) ?_
    exact q1 _ h_2 p_3 f_4 x_5
  · refine jx ?_
    refine ia_out F M (by decide) (by decide) ?_
    exact q2 _ h_7 h_8 p_9 f_10 x_11
  · refine j1 ?_
    refine ia_ireturn (pc := 9) F M (by decide) (by decide) dX7_addEdition_9 ?_
    exact q3 _ h_13 h_14 p_15 w_16 (Fr_c (Fr_0 (V := V) (S := [17, 18, 19, 20, 21, 22, 23, 24, 25, 26, 27, 28, 29, 30, 31, 32, 33, 34, 35, 36, 37, 38, 39, 40, 41, 42, 43, 44, 45, 46, 47, 48, 49, 50, 51, 52, 53, 54, 55, 56, 57, 58, 59, 60, 61, 62, 63, 64, 65, 66, 67, 68, 69, 70, 71, 72, 73, 74, 75, 76, 77, 78, 79, 1, 2, 3, 4, 5, 6, 7, 15])) f_17 (by decide)) x_18 x_19 x_20
set_option maxRecDepth 100000 in
theorem c_X7_removeEdition {Z : ia_Z} {V : ia_H} {Q : ia_O → ia_Z → ia_H → Prop} {σ : Nat → Int} {χ : Nat → Int} {m : Int} (e : Int) (hZ : ZI Z) (hP : PI V) (hS : Sh 1 V σ) (hI : SI σ m) (h15 : V 15 = χ) (hχ : (0 ≤ χ 1 ∧ χ 1 < 9) ∧ 0 ≤ χ 2 ∧ χ 2 ≤ 8) (re : -2147483648 ≤ e ∧ e ≤ 2147483647) (q1 : ∀ (V1 : ia_H), (¬ (0 ≤ e ∧ e < σ 0)) → PI V1 → (∀ pp, pp ∉ ([17, 18, 19, 20, 21, 22, 23, 24, 25, 26, 27, 28, 29, 30, 31, 32, 33, 34, 35, 36, 37, 38, 39, 40, 41, 42, 43, 44, 45, 46, 47, 48, 49, 50, 51, 52, 53, 54, 55, 56, 57, 58, 59, 60, 61, 62, 63, 64, 65, 66, 67, 68, 69, 70, 71, 72, 73, 74, 75, 76, 77, 78, 79] : List Nat) → V1 pp = V pp) → (∀ p : Nat, p < 17 + 7 * (χ 1).toNat ∨ 17 + 7 * (χ 1).toNat + 6 < p → V1 p = V p) → Q (.inr "java/lang/IndexOutOfBoundsException") Z V1) (q2 : ∀ (V1 : ia_H), (0 ≤ e ∧ e < σ 0) → PI V1 → (V1 15 = up (up χ 1 ((χ 1 + 1) % 9)) 2 (min (χ 2 + 1) 8)) → (∀ pp, pp ∉ ([17, 18, 19, 20, 21, 22, 23, 24, 25, 26, 27, 28, 29, 30, 31, 32, 33, 34, 35, 36, 37, 38, 39, 40, 41, 42, 43, 44, 45, 46, 47, 48, 49, 50, 51, 52, 53, 54, 55, 56, 57, 58, 59, 60, 61, 62, 63, 64, 65, 66, 67, 68, 69, 70, 71, 72, 73, 74, 75, 76, 77, 78, 79, 1, 2, 3, 4, 5, 6, 7, 15] : List Nat) → V1 pp = V pp) → (Sh 1 V1 (s_rem σ e.toNat)) → (Sh (17 + 7 * (χ 1).toNat) V1 σ) → (∀ p : Nat, p < 17 + 7 * (χ 1).toNat ∨ 17 + 7 * (χ 1).toNat + 6 < p → p ∉ ([1, 2, 3, 4, 5, 6, 7, 15] : List Nat) → V1 p = V p) → Q (.inl (some (0, (σ 0 - 1)))) Z V1) : ia_K yX7_removeEdition cX7_removeEdition 2 (some .int) [(4, ((0 : Nat) : Int)), (0, e)] Z V 9 1 6 Q := by
  refine ia_start RX7 "removeEdition" ⟨by decide, rfl, rfl⟩ (Nat.le_of_ble_eq_true rfl) (ia_tg rfl) (fun X F M => ?_)
  show ia_G X 0 0 0 [(4, ((0 : Nat) : Int)), (0, e)] [] Z V
  obtain ⟨s0, s1, s2, s3, s4, s5, s6, s7, s18, sb, sw, se, sp⟩ := id hI
  refine ia_aload_n (pc := 0) F dX7_removeEdition_0 rfl ?_
  refine ia_getCmd (pc := 1) F 3 (by decide) il_RX7_123 dX7_removeEdition_1 ?_
  refine ia_iload_n (pc := 4) F dX7_removeEdition_4 rfl ?_
  refine ia_iconst (pc := 5) F dX7_removeEdition_5 ?_
  refine jV (pc := 6) F 1 6 (z0 hZ) cls10.1 (c_X7_modify_3 e 0 hZ hP hS hI h15 (by omega) (by omega) (fun V_1 h_2 p_3 f_4 x_5 => ?_) (fun V_6 h_7 p_8 w_9 f_10 x_11 x_12 x_13 => ?_)) rfl ⟨k_X7_modify, il_RX7_78, im_X7_modify, is_X7_modify, ii_RX7⟩ 3 rfl hd_X7_modify ⟨by decide, by decide, by decide, by decide, Nat.le_of_ble_eq_true rfl⟩ dX7_removeEdition_6
  · refine jx ?_
    refine ia_out F M (by decide) (by decide) ?_
    exact q1 _ h_2 p_3 f_4 x_5
  · refine j1 ?_
    refine ia_ireturn (pc := 9) F M (by decide) (by decide) dX7_removeEdition_9 ?_
    exact q2 _ h_7 p_8 w_9 (Fr_c (Fr_0 (V := V) (S := [17, 18, 19, 20, 21, 22, 23, 24, 25, 26, 27, 28, 29, 30, 31, 32, 33, 34, 35, 36, 37, 38, 39, 40, 41, 42, 43, 44, 45, 46, 47, 48, 49, 50, 51, 52, 53, 54, 55, 56, 57, 58, 59, 60, 61, 62, 63, 64, 65, 66, 67, 68, 69, 70, 71, 72, 73, 74, 75, 76, 77, 78, 79, 1, 2, 3, 4, 5, 6, 7, 15])) f_10 (by decide)) x_11 x_12 x_13
set_option maxRecDepth 100000 in
theorem c_X7_print {Z : ia_Z} {V : ia_H} {Q : ia_O → ia_Z → ia_H → Prop} {σ : Nat → Int} {χ : Nat → Int} {m : Int} (e : Int) (hZ : ZI Z) (hP : PI V) (hS : Sh 1 V σ) (hI : SI σ m) (h15 : V 15 = χ) (hχ : (0 ≤ χ 1 ∧ χ 1 < 9) ∧ 0 ≤ χ 2 ∧ χ 2 ≤ 8) (re : -2147483648 ≤ e ∧ e ≤ 2147483647) (q1 : ∀ (V1 : ia_H), (¬ (0 ≤ e ∧ e < σ 0)) → PI V1 → (∀ pp, pp ∉ ([17, 18, 19, 20, 21, 22, 23, 24, 25, 26, 27, 28, 29, 30, 31, 32, 33, 34, 35, 36, 37, 38, 39, 40, 41, 42, 43, 44, 45, 46, 47, 48, 49, 50, 51, 52, 53, 54, 55, 56, 57, 58, 59, 60, 61, 62, 63, 64, 65, 66, 67, 68, 69, 70, 71, 72, 73, 74, 75, 76, 77, 78, 79] : List Nat) → V1 pp = V pp) → (∀ p : Nat, p < 17 + 7 * (χ 1).toNat ∨ 17 + 7 * (χ 1).toNat + 6 < p → V1 p = V p) → Q (.inr "java/lang/IndexOutOfBoundsException") Z V1) (q2 : ∀ (V1 : ia_H), (0 ≤ e ∧ e < σ 0) → (miss σ e.toNat = 0) → PI V1 → (∀ pp, pp ∉ ([17, 18, 19, 20, 21, 22, 23, 24, 25, 26, 27, 28, 29, 30, 31, 32, 33, 34, 35, 36, 37, 38, 39, 40, 41, 42, 43, 44, 45, 46, 47, 48, 49, 50, 51, 52, 53, 54, 55, 56, 57, 58, 59, 60, 61, 62, 63, 64, 65, 66, 67, 68, 69, 70, 71, 72, 73, 74, 75, 76, 77, 78, 79] : List Nat) → V1 pp = V pp) → (∀ p : Nat, p < 17 + 7 * (χ 1).toNat ∨ 17 + 7 * (χ 1).toNat + 6 < p → V1 p = V p) → Q (.inr "java/lang/IllegalStateException") Z V1) (q3 : ∀ (V1 : ia_H), (0 ≤ e ∧ e < σ 0) → (¬ miss σ e.toNat = 0) → (σ 2 = 0 ∨ wel σ (col σ e.toNat).toNat = 0) → PI V1 → (∀ pp, pp ∉ ([17, 18, 19, 20, 21, 22, 23, 24, 25, 26, 27, 28, 29, 30, 31, 32, 33, 34, 35, 36, 37, 38, 39, 40, 41, 42, 43, 44, 45, 46, 47, 48, 49, 50, 51, 52, 53, 54, 55, 56, 57, 58, 59, 60, 61, 62, 63, 64, 65, 66, 67, 68, 69, 70, 71, 72, 73, 74, 75, 76, 77, 78, 79] : List Nat) → V1 pp = V pp) → (∀ p : Nat, p < 17 + 7 * (χ 1).toNat ∨ 17 + 7 * (χ 1).toNat + 6 < p → V1 p = V p) → Q (.inr "java/lang/UnsupportedOperationException") Z V1) (q4 : ∀ (n : Int) (V1 : ia_H), (0 ≤ e ∧ e < σ 0) → (¬ miss σ e.toNat = 0) → (¬ (σ 2 = 0 ∨ wel σ (col σ e.toNat).toNat = 0)) → (n = min (miss σ e.toNat) (min (σ 2) (wel σ (col σ e.toNat).toNat))) → PI V1 → (V1 15 = up (up χ 1 ((χ 1 + 1) % 9)) 2 (min (χ 2 + 1) 8)) → (∀ pp, pp ∉ ([17, 18, 19, 20, 21, 22, 23, 24, 25, 26, 27, 28, 29, 30, 31, 32, 33, 34, 35, 36, 37, 38, 39, 40, 41, 42, 43, 44, 45, 46, 47, 48, 49, 50, 51, 52, 53, 54, 55, 56, 57, 58, 59, 60, 61, 62, 63, 64, 65, 66, 67, 68, 69, 70, 71, 72, 73, 74, 75, 76, 77, 78, 79, 1, 2, 3, 4, 5, 6, 7, 15] : List Nat) → V1 pp = V pp) → (Sh 1 V1 (s_print σ e.toNat n)) → (Sh (17 + 7 * (χ 1).toNat) V1 σ) → (∀ p : Nat, p < 17 + 7 * (χ 1).toNat ∨ 17 + 7 * (χ 1).toNat + 6 < p → p ∉ ([1, 2, 3, 4, 5, 6, 7, 15] : List Nat) → V1 p = V p) → Q (.inl (some (0, n))) Z V1) : ia_K yX7_print cX7_print 2 (some .int) [(4, ((0 : Nat) : Int)), (0, e)] Z V 9 1 6 Q := by
  refine ia_start RX7 "print" ⟨by decide, rfl, rfl⟩ (Nat.le_of_ble_eq_true rfl) (ia_tg rfl) (fun X F M => ?_)
  show ia_G X 0 0 0 [(4, ((0 : Nat) : Int)), (0, e)] [] Z V
  obtain ⟨s0, s1, s2, s3, s4, s5, s6, s7, s18, sb, sw, se, sp⟩ := id hI
  refine ia_aload_n (pc := 0) F dX7_print_0 rfl ?_
  refine ia_getCmd (pc := 1) F 4 (by decide) il_RX7_126 dX7_print_1 ?_
  refine ia_iload_n (pc := 4) F dX7_print_4 rfl ?_
  refine ia_iconst (pc := 5) F dX7_print_5 ?_
  refine jV (pc := 6) F 1 6 (z0 hZ) cls10.1 (c_X7_modify_4 e 0 hZ hP hS hI h15 (by omega) (by omega) (fun V_1 h_2 p_3 f_4 x_5 => ?_) (fun V_6 h_7 h_8 p_9 f_10 x_11 => ?_) (fun V_12 h_13 h_14 h_15 p_16 f_17 x_18 => ?_) (fun n_19 V_20 h_21 h_22 h_23 h_24 p_25 w_26 f_27 x_28 x_29 x_30 => ?_)) rfl ⟨k_X7_modify, il_RX7_78, im_X7_modify, is_X7_modify, ii_RX7⟩ 3 rfl hd_X7_modify ⟨by decide, by decide, by decide, by decide, Nat.le_of_ble_eq_true rfl⟩ dX7_print_6
  · refine jx ?_
    refine ia_out F M (by decide) (by decide) ?_
    exact q1 _ h_2 p_3 f_4 x_5
  · refine jx ?_
    refine ia_out F M (by decide) (by decide) ?_
    exact q2 _ h_7 h_8 p_9 f_10 x_11
  · refine jx ?_
    refine ia_out F M (by decide) (by decide) ?_
    exact q3 _ h_13 h_14 h_15 p_16 f_17 x_18
  · refine j1 ?_
    refine ia_ireturn (pc := 9) F M (by decide) (by decide) dX7_print_9 ?_
    exact q4 n_19 _ h_21 h_22 h_23 h_24 p_25 w_26 (Fr_c (Fr_0 (V := V) (S := [17, 18, 19, 20, 21, 22, 23, 24, 25, 26, 27, 28, 29, 30, 31, 32, 33, 34, 35, 36, 37, 38, 39, 40, 41, 42, 43, 44, 45, 46, 47, 48, 49, 50, 51, 52, 53, 54, 55, 56, 57, 58, 59, 60, 61, 62, 63, 64, 65, 66, 67, 68, 69, 70, 71, 72, 73, 74, 75, 76, 77, 78, 79, 1, 2, 3, 4, 5, 6, 7, 15])) f_27 (by decide)) x_28 x_29 x_30
set_option maxRecDepth 100000 in
theorem c_X7_printAll {Z : ia_Z} {V : ia_H} {Q : ia_O → ia_Z → ia_H → Prop} {σ : Nat → Int} {ρ : Nat → Int} {α1 : Nat → Int} {α2 : Nat → Int} {α3 : Nat → Int} {α4 : Nat → Int} {δ : Nat → Int} {χ : Nat → Int} {m : Int} (hZ : ZI Z) (hP : PI V) (hS : Sh 1 V σ) (hI : SI σ m) (h80 : V 80 = ρ) (h81 : V 81 = α1) (h82 : V 82 = α2) (h83 : V 83 = α3) (h84 : V 84 = α4) (h86 : V 86 = δ) (h15 : V 15 = χ) (hχ : (0 ≤ χ 1 ∧ χ 1 < 9) ∧ 0 ≤ χ 2 ∧ χ 2 ≤ 8) (hm : m + 1 ≤ 20000) (q1 : ∀ (V1 : ia_H), PI V1 → (V1 15 = up (up χ 1 ((χ 1 + 1) % 9)) 2 (min (χ 2 + 1) 8)) → (∀ pp, pp ∉ ([17, 18, 19, 20, 21, 22, 23, 24, 25, 26, 27, 28, 29, 30, 31, 32, 33, 34, 35, 36, 37, 38, 39, 40, 41, 42, 43, 44, 45, 46, 47, 48, 49, 50, 51, 52, 53, 54, 55, 56, 57, 58, 59, 60, 61, 62, 63, 64, 65, 66, 67, 68, 69, 70, 71, 72, 73, 74, 75, 76, 77, 78, 79, 1, 2, 3, 4, 5, 6, 7, 80, 81, 82, 83, 84, 86, 15] : List Nat) → V1 pp = V pp) → (Sh 1 V1 (s_all σ)) → (Sh (17 + 7 * (χ 1).toNat) V1 σ) → (∀ p : Nat, p < 17 + 7 * (χ 1).toNat ∨ 17 + 7 * (χ 1).toNat + 6 < p → p ∉ ([1, 2, 3, 4, 5, 6, 7, 80, 81, 82, 83, 84, 86, 15] : List Nat) → V1 p = V p) → Q (.inl (some (0, (n_all σ)))) Z V1) : ia_K yX7_printAll cX7_printAll 1 (some .int) [(4, ((0 : Nat) : Int))] Z V 9 1 6 Q := by
  refine ia_start RX7 "printAll" ⟨by decide, rfl, rfl⟩ (Nat.le_of_ble_eq_true rfl) (ia_tg rfl) (fun X F M => ?_)
  show ia_G X 0 0 0 [(4, ((0 : Nat) : Int))] [] Z V
  obtain ⟨s0, s1, s2, s3, s4, s5, s6, s7, s18, sb, sw, se, sp⟩ := id hI
  refine ia_aload_n (pc := 0) F dX7_printAll_0 rfl ?_
  refine ia_getCmd (pc := 1) F 5 (by decide) il_RX7_129 dX7_printAll_1 ?_
  refine ia_iconst (pc := 4) F dX7_printAll_4 ?_
  refine ia_iconst (pc := 5) F dX7_printAll_5 ?_
  refine jV (pc := 6) F 1 6 (z0 hZ) cls10.1 (c_X7_modify_5 0 0 hZ hP hS hI h80 h81 h82 h83 h84 h86 h15 (by omega) (by omega) (fun V_1 p_2 w_3 f_4 x_5 x_6 x_7 => ?_)) rfl ⟨k_X7_modify, il_RX7_78, im_X7_modify, is_X7_modify, ii_RX7⟩ 3 rfl hd_X7_modify ⟨by decide, by decide, by decide, by decide, Nat.le_of_ble_eq_true rfl⟩ dX7_printAll_6
  refine j1 ?_
  refine ia_ireturn (pc := 9) F M (by decide) (by decide) dX7_printAll_9 ?_
  exact q1 _ p_2 w_3 (Fr_c (Fr_0 (V := V) (S := [17, 18, 19, 20, 21, 22, 23, 24, 25, 26, 27, 28, 29, 30, 31, 32, 33, 34, 35, 36, 37, 38, 39, 40, 41, 42, 43, 44, 45, 46, 47, 48, 49, 50, 51, 52, 53, 54, 55, 56, 57, 58, 59, 60, 61, 62, 63, 64, 65, 66, 67, 68, 69, 70, 71, 72, 73, 74, 75, 76, 77, 78, 79, 1, 2, 3, 4, 5, 6, 7, 80, 81, 82, 83, 84, 86, 15])) f_4 (by decide)) x_5 x_6 x_7
set_option maxRecDepth 100000 in
theorem c_X7_pass {Z : ia_Z} {V : ia_H} {Q : ia_O → ia_Z → ia_H → Prop} {σ : Nat → Int} {χ : Nat → Int} {m : Int} (h : Int) (hZ : ZI Z) (hP : PI V) (hS : Sh 1 V σ) (hI : SI σ m) (h15 : V 15 = χ) (hχ : (0 ≤ χ 1 ∧ χ 1 < 9) ∧ 0 ≤ χ 2 ∧ χ 2 ≤ 8) (rh : -2147483648 ≤ h ∧ h ≤ 2147483647) (q1 : ∀ (V1 : ia_H), (¬ (1 ≤ h ∧ h ≤ 48)) → PI V1 → (∀ pp, pp ∉ ([17, 18, 19, 20, 21, 22, 23, 24, 25, 26, 27, 28, 29, 30, 31, 32, 33, 34, 35, 36, 37, 38, 39, 40, 41, 42, 43, 44, 45, 46, 47, 48, 49, 50, 51, 52, 53, 54, 55, 56, 57, 58, 59, 60, 61, 62, 63, 64, 65, 66, 67, 68, 69, 70, 71, 72, 73, 74, 75, 76, 77, 78, 79] : List Nat) → V1 pp = V pp) → (∀ p : Nat, p < 17 + 7 * (χ 1).toNat ∨ 17 + 7 * (χ 1).toNat + 6 < p → V1 p = V p) → Q (.inr "java/lang/IllegalArgumentException") Z V1) (q2 : ∀ (V1 : ia_H), (1 ≤ h ∧ h ≤ 48) → PI V1 → (V1 15 = up (up χ 1 ((χ 1 + 1) % 9)) 2 (min (χ 2 + 1) 8)) → (∀ pp, pp ∉ ([17, 18, 19, 20, 21, 22, 23, 24, 25, 26, 27, 28, 29, 30, 31, 32, 33, 34, 35, 36, 37, 38, 39, 40, 41, 42, 43, 44, 45, 46, 47, 48, 49, 50, 51, 52, 53, 54, 55, 56, 57, 58, 59, 60, 61, 62, 63, 64, 65, 66, 67, 68, 69, 70, 71, 72, 73, 74, 75, 76, 77, 78, 79, 1, 2, 3, 4, 5, 6, 7, 15] : List Nat) → V1 pp = V pp) → (Sh 1 V1 (s_pass σ h.toNat)) → (Sh (17 + 7 * (χ 1).toNat) V1 σ) → (∀ p : Nat, p < 17 + 7 * (χ 1).toNat ∨ 17 + 7 * (χ 1).toNat + 6 < p → p ∉ ([1, 2, 3, 4, 5, 6, 7, 15] : List Nat) → V1 p = V p) → Q (.inl (some (0, (lostN σ h.toNat)))) Z V1) : ia_K yX7_pass cX7_pass 2 (some .int) [(4, ((0 : Nat) : Int)), (0, h)] Z V 9 1 6 Q := by
  refine ia_start RX7 "pass" ⟨by decide, rfl, rfl⟩ (Nat.le_of_ble_eq_true rfl) (ia_tg rfl) (fun X F M => ?_)
  show ia_G X 0 0 0 [(4, ((0 : Nat) : Int)), (0, h)] [] Z V
  obtain ⟨s0, s1, s2, s3, s4, s5, s6, s7, s18, sb, sw, se, sp⟩ := id hI
  refine ia_aload_n (pc := 0) F dX7_pass_0 rfl ?_
  refine ia_getCmd (pc := 1) F 6 (by decide) il_RX7_85 dX7_pass_1 ?_
  refine ia_iload_n (pc := 4) F dX7_pass_4 rfl ?_
  refine ia_iconst (pc := 5) F dX7_pass_5 ?_
  refine jV (pc := 6) F 1 6 (z0 hZ) cls10.1 (c_X7_modify_6 h 0 hZ hP hS hI h15 (by omega) (by omega) (fun V_1 h_2 p_3 f_4 x_5 => ?_) (fun V_6 h_7 p_8 w_9 f_10 x_11 x_12 x_13 => ?_)) rfl ⟨k_X7_modify, il_RX7_78, im_X7_modify, is_X7_modify, ii_RX7⟩ 3 rfl hd_X7_modify ⟨by decide, by decide, by decide, by decide, Nat.le_of_ble_eq_true rfl⟩ dX7_pass_6
  · refine jx ?_
    refine ia_out F M (by decide) (by decide) ?_
    exact q1 _ h_2 p_3 f_4 x_5
  · refine j1 ?_
    refine ia_ireturn (pc := 9) F M (by decide) (by decide) dX7_pass_9 ?_
    exact q2 _ h_7 p_8 w_9 (Fr_c (Fr_0 (V := V) (S := [17, 18, 19, 20, 21, 22, 23, 24, 25, 26, 27, 28, 29, 30, 31, 32, 33, 34, 35, 36, 37, 38, 39, 40, 41, 42, 43, 44, 45, 46, 47, 48, 49, 50, 51, 52, 53, 54, 55, 56, 57, 58, 59, 60, 61, 62, 63, 64, 65, 66, 67, 68, 69, 70, 71, 72, 73, 74, 75, 76, 77, 78, 79, 1, 2, 3, 4, 5, 6, 7, 15])) f_10 (by decide)) x_11 x_12 x_13
set_option maxRecDepth 100000 in
theorem c_X7_addProof {Z : ia_Z} {V : ia_H} {Q : ia_O → ia_Z → ia_H → Prop} {σ : Nat → Int} {χ : Nat → Int} {m : Int} (u : Int) (hZ : ZI Z) (hP : PI V) (hS : Sh 1 V σ) (hI : SI σ m) (h15 : V 15 = χ) (hχ : (0 ≤ χ 1 ∧ χ 1 < 9) ∧ 0 ≤ χ 2 ∧ χ 2 ≤ 8) (ru : -2147483648 ≤ u ∧ u ≤ 2147483647) (q1 : ∀ (V1 : ia_H), (¬ (0 ≤ u ∧ u ≤ 99)) → PI V1 → (∀ pp, pp ∉ ([17, 18, 19, 20, 21, 22, 23, 24, 25, 26, 27, 28, 29, 30, 31, 32, 33, 34, 35, 36, 37, 38, 39, 40, 41, 42, 43, 44, 45, 46, 47, 48, 49, 50, 51, 52, 53, 54, 55, 56, 57, 58, 59, 60, 61, 62, 63, 64, 65, 66, 67, 68, 69, 70, 71, 72, 73, 74, 75, 76, 77, 78, 79] : List Nat) → V1 pp = V pp) → (∀ p : Nat, p < 17 + 7 * (χ 1).toNat ∨ 17 + 7 * (χ 1).toNat + 6 < p → V1 p = V p) → Q (.inr "java/lang/IllegalArgumentException") Z V1) (q2 : ∀ (V1 : ia_H), (0 ≤ u ∧ u ≤ 99) → (σ 1 = 12) → PI V1 → (∀ pp, pp ∉ ([17, 18, 19, 20, 21, 22, 23, 24, 25, 26, 27, 28, 29, 30, 31, 32, 33, 34, 35, 36, 37, 38, 39, 40, 41, 42, 43, 44, 45, 46, 47, 48, 49, 50, 51, 52, 53, 54, 55, 56, 57, 58, 59, 60, 61, 62, 63, 64, 65, 66, 67, 68, 69, 70, 71, 72, 73, 74, 75, 76, 77, 78, 79] : List Nat) → V1 pp = V pp) → (∀ p : Nat, p < 17 + 7 * (χ 1).toNat ∨ 17 + 7 * (χ 1).toNat + 6 < p → V1 p = V p) → Q (.inr "java/lang/IllegalStateException") Z V1) (q3 : ∀ (V1 : ia_H), (0 ≤ u ∧ u ≤ 99) → (¬ σ 1 = 12) → PI V1 → (V1 15 = up (up χ 1 ((χ 1 + 1) % 9)) 2 (min (χ 2 + 1) 8)) → (∀ pp, pp ∉ ([17, 18, 19, 20, 21, 22, 23, 24, 25, 26, 27, 28, 29, 30, 31, 32, 33, 34, 35, 36, 37, 38, 39, 40, 41, 42, 43, 44, 45, 46, 47, 48, 49, 50, 51, 52, 53, 54, 55, 56, 57, 58, 59, 60, 61, 62, 63, 64, 65, 66, 67, 68, 69, 70, 71, 72, 73, 74, 75, 76, 77, 78, 79, 1, 2, 3, 4, 5, 6, 7, 15] : List Nat) → V1 pp = V pp) → (Sh 1 V1 (s_prove σ u)) → (Sh (17 + 7 * (χ 1).toNat) V1 σ) → (∀ p : Nat, p < 17 + 7 * (χ 1).toNat ∨ 17 + 7 * (χ 1).toNat + 6 < p → p ∉ ([1, 2, 3, 4, 5, 6, 7, 15] : List Nat) → V1 p = V p) → Q (.inl (some (0, (σ 1)))) Z V1) : ia_K yX7_addProof cX7_addProof 2 (some .int) [(4, ((0 : Nat) : Int)), (0, u)] Z V 9 1 6 Q := by
  refine ia_start RX7 "addProof" ⟨by decide, rfl, rfl⟩ (Nat.le_of_ble_eq_true rfl) (ia_tg rfl) (fun X F M => ?_)
  show ia_G X 0 0 0 [(4, ((0 : Nat) : Int)), (0, u)] [] Z V
  obtain ⟨s0, s1, s2, s3, s4, s5, s6, s7, s18, sb, sw, se, sp⟩ := id hI
  refine ia_aload_n (pc := 0) F dX7_addProof_0 rfl ?_
  refine ia_getCmd (pc := 1) F 7 (by decide) il_RX7_192 dX7_addProof_1 ?_
  refine ia_iload_n (pc := 4) F dX7_addProof_4 rfl ?_
  refine ia_iconst (pc := 5) F dX7_addProof_5 ?_
  refine jV (pc := 6) F 1 6 (z0 hZ) cls10.1 (c_X7_modify_7 u 0 hZ hP hS hI h15 (by omega) (by omega) (fun V_1 h_2 p_3 f_4 x_5 => ?_) (fun V_6 h_7 h_8 p_9 f_10 x_11 => ?_) (fun V_12 h_13 h_14 p_15 w_16 f_17 x_18 x_19 x_20 => ?_)) rfl ⟨k_X7_modify, il_RX7_78, im_X7_modify, is_X7_modify, ii_RX7⟩ 3 rfl hd_X7_modify ⟨by decide, by decide, by decide, by decide, Nat.le_of_ble_eq_true rfl⟩ dX7_addProof_6
  · refine jx ?_
    refine ia_out F M (by decide) (by decide) ?_
    exact q1 _ h_2 p_3 f_4 x_5
  · refine jx ?_
    refine ia_out F M (by decide) (by decide) ?_
    exact q2 _ h_7 h_8 p_9 f_10 x_11
  · refine j1 ?_
    refine ia_ireturn (pc := 9) F M (by decide) (by decide) dX7_addProof_9 ?_
    exact q3 _ h_13 h_14 p_15 w_16 (Fr_c (Fr_0 (V := V) (S := [17, 18, 19, 20, 21, 22, 23, 24, 25, 26, 27, 28, 29, 30, 31, 32, 33, 34, 35, 36, 37, 38, 39, 40, 41, 42, 43, 44, 45, 46, 47, 48, 49, 50, 51, 52, 53, 54, 55, 56, 57, 58, 59, 60, 61, 62, 63, 64, 65, 66, 67, 68, 69, 70, 71, 72, 73, 74, 75, 76, 77, 78, 79, 1, 2, 3, 4, 5, 6, 7, 15])) f_17 (by decide)) x_18 x_19 x_20
set_option maxRecDepth 100000 in
theorem c_X7_dropProof {Z : ia_Z} {V : ia_H} {Q : ia_O → ia_Z → ia_H → Prop} {σ : Nat → Int} {χ : Nat → Int} {m : Int} (e : Int) (hZ : ZI Z) (hP : PI V) (hS : Sh 1 V σ) (hI : SI σ m) (h15 : V 15 = χ) (hχ : (0 ≤ χ 1 ∧ χ 1 < 9) ∧ 0 ≤ χ 2 ∧ χ 2 ≤ 8) (re : -2147483648 ≤ e ∧ e ≤ 2147483647) (q1 : ∀ (V1 : ia_H), (¬ (0 ≤ e ∧ e < σ 1)) → PI V1 → (∀ pp, pp ∉ ([17, 18, 19, 20, 21, 22, 23, 24, 25, 26, 27, 28, 29, 30, 31, 32, 33, 34, 35, 36, 37, 38, 39, 40, 41, 42, 43, 44, 45, 46, 47, 48, 49, 50, 51, 52, 53, 54, 55, 56, 57, 58, 59, 60, 61, 62, 63, 64, 65, 66, 67, 68, 69, 70, 71, 72, 73, 74, 75, 76, 77, 78, 79] : List Nat) → V1 pp = V pp) → (∀ p : Nat, p < 17 + 7 * (χ 1).toNat ∨ 17 + 7 * (χ 1).toNat + 6 < p → V1 p = V p) → Q (.inr "java/lang/IndexOutOfBoundsException") Z V1) (q2 : ∀ (V1 : ia_H), (0 ≤ e ∧ e < σ 1) → PI V1 → (V1 15 = up (up χ 1 ((χ 1 + 1) % 9)) 2 (min (χ 2 + 1) 8)) → (∀ pp, pp ∉ ([17, 18, 19, 20, 21, 22, 23, 24, 25, 26, 27, 28, 29, 30, 31, 32, 33, 34, 35, 36, 37, 38, 39, 40, 41, 42, 43, 44, 45, 46, 47, 48, 49, 50, 51, 52, 53, 54, 55, 56, 57, 58, 59, 60, 61, 62, 63, 64, 65, 66, 67, 68, 69, 70, 71, 72, 73, 74, 75, 76, 77, 78, 79, 1, 2, 3, 4, 5, 6, 7, 15] : List Nat) → V1 pp = V pp) → (Sh 1 V1 (s_drop σ e.toNat)) → (Sh (17 + 7 * (χ 1).toNat) V1 σ) → (∀ p : Nat, p < 17 + 7 * (χ 1).toNat ∨ 17 + 7 * (χ 1).toNat + 6 < p → p ∉ ([1, 2, 3, 4, 5, 6, 7, 15] : List Nat) → V1 p = V p) → Q (.inl (some (0, (σ 1 - 1)))) Z V1) : ia_K yX7_dropProof cX7_dropProof 2 (some .int) [(4, ((0 : Nat) : Int)), (0, e)] Z V 9 1 6 Q := by
  refine ia_start RX7 "dropProof" ⟨by decide, rfl, rfl⟩ (Nat.le_of_ble_eq_true rfl) (ia_tg rfl) (fun X F M => ?_)
  show ia_G X 0 0 0 [(4, ((0 : Nat) : Int)), (0, e)] [] Z V
  obtain ⟨s0, s1, s2, s3, s4, s5, s6, s7, s18, sb, sw, se, sp⟩ := id hI
  refine ia_aload_n (pc := 0) F dX7_dropProof_0 rfl ?_
  refine ia_getCmd (pc := 1) F 8 (by decide) il_RX7_195 dX7_dropProof_1 ?_
  refine ia_iload_n (pc := 4) F dX7_dropProof_4 rfl ?_
  refine ia_iconst (pc := 5) F dX7_dropProof_5 ?_
  refine jV (pc := 6) F 1 6 (z0 hZ) cls10.1 (c_X7_modify_8 e 0 hZ hP hS hI h15 (by omega) (by omega) (fun V_1 h_2 p_3 f_4 x_5 => ?_) (fun V_6 h_7 p_8 w_9 f_10 x_11 x_12 x_13 => ?_)) rfl ⟨k_X7_modify, il_RX7_78, im_X7_modify, is_X7_modify, ii_RX7⟩ 3 rfl hd_X7_modify ⟨by decide, by decide, by decide, by decide, Nat.le_of_ble_eq_true rfl⟩ dX7_dropProof_6
  · refine jx ?_
    refine ia_out F M (by decide) (by decide) ?_
    exact q1 _ h_2 p_3 f_4 x_5
  · refine j1 ?_
    refine ia_ireturn (pc := 9) F M (by decide) (by decide) dX7_dropProof_9 ?_
    exact q2 _ h_7 p_8 w_9 (Fr_c (Fr_0 (V := V) (S := [17, 18, 19, 20, 21, 22, 23, 24, 25, 26, 27, 28, 29, 30, 31, 32, 33, 34, 35, 36, 37, 38, 39, 40, 41, 42, 43, 44, 45, 46, 47, 48, 49, 50, 51, 52, 53, 54, 55, 56, 57, 58, 59, 60, 61, 62, 63, 64, 65, 66, 67, 68, 69, 70, 71, 72, 73, 74, 75, 76, 77, 78, 79, 1, 2, 3, 4, 5, 6, 7, 15])) f_10 (by decide)) x_11 x_12 x_13
