/-! constructors that make numbers only (made by wip/whole/ctor.py) -/
set_option maxRecDepth 100000 in
theorem c_X6_init {Z : ia_Z} {V : ia_H} {Q : ia_O → ia_Z → ia_H → Prop} (b : Nat)   (hJ : ZJ (b + 1) Z) (hb : V b = ia_d0 9) (hb1 : b < 116) (hb0 : kdL.getD b 0 = 19 ∧ lnL.getD b 0 = 0) (hk0 : kdL.getD (b + 1) 0 = 0 ∧ lnL.getD (b + 1) 0 = 10) (hk1 : kdL.getD (b + 2) 0 = 0 ∧ lnL.getD (b + 2) 0 = 7) (hk2 : kdL.getD (b + 3) 0 = 0 ∧ lnL.getD (b + 3) 0 = 7) (hk3 : kdL.getD (b + 4) 0 = 0 ∧ lnL.getD (b + 4) 0 = 7) (hk4 : kdL.getD (b + 5) 0 = 0 ∧ lnL.getD (b + 5) 0 = 12) (hk5 : kdL.getD (b + 6) 0 = 0 ∧ lnL.getD (b + 6) 0 = 12) (q1 : ∀ (Z1 : ia_Z) (V1 : ia_H), (ZJ (b + 7) Z1) → (V1 b = (up (up (up (up (up (up (up (up (up (up (up (up (up (up (up (ia_d0 9) 0 ((b + 1 : Nat) : Int)) 1 ((b + 2 : Nat) : Int)) 2 ((b + 3 : Nat) : Int)) 3 ((b + 4 : Nat) : Int)) 4 ((b + 5 : Nat) : Int)) 5 ((b + 6 : Nat) : Int)) 6 0) 7 0) 8 0) 9 0) 10 0) 11 0) 12 0) 13 0) 14 0)) → (V1 (b + 1) = (fun _ => 0)) → (V1 (b + 2) = (fun _ => 0)) → (V1 (b + 3) = (fun _ => 0)) → (V1 (b + 4) = (fun _ => 0)) → (V1 (b + 5) = (fun _ => 0)) → (V1 (b + 6) = (fun _ => 0)) → (∀ pp : Nat, pp < b → V1 pp = V pp) → Q (.inl none) Z1 V1) : ia_K yX6_init cX6_init 1 none [(4, ((b : Nat) : Int))] Z V 2 6 55 Q := by
  refine ia_start RX6 "<init>" ⟨by decide, rfl, rfl⟩ (Nat.le_of_ble_eq_true rfl) (ia_tg rfl) (fun X F M => ?_)
  show ia_G X 0 0 0 [(4, ((b : Nat) : Int))] [] Z V
  refine ia_aload_n (pc := 0) F dX6_init_0 rfl ?_
  refine ia_objInit (pc := 1) F b rfl ⟨il_RX6_3, im_objectInit, k_objectInit⟩ ⟨by decide, Nat.le_of_ble_eq_true rfl⟩ dX6_init_1 ?_
  refine ia_aload_n (pc := 4) F dX6_init_4 rfl ?_
  refine ia_bipush (pc := 5) F dX6_init_5 (by decide) ?_
  refine jnI (pc := 7) F 10 rfl (by decide) hJ (by omega) hk0 ⟨by decide, by decide⟩ dX6_init_7 (fun Z_1 V_1 hJ_1 w_1 n_1 => ?_)
  refine jpF (pc := 9) F (zj hJ_1 (by omega) hb0) cls9 f9_0 rfl M.2.2.1 rfl (ia_nA rfl _) il_RX6_9 dX6_init_9 ?_
  refine ia_aload_n (pc := 12) F dX6_init_12 rfl ?_
  refine ia_bipush (pc := 13) F dX6_init_13 (by decide) ?_
  refine jnI (pc := 15) F 7 rfl (by decide) hJ_1 (by omega) hk1 ⟨by decide, by decide⟩ dX6_init_15 (fun Z_2 V_2 hJ_2 w_2 n_2 => ?_)
  refine jpF (pc := 17) F (zj hJ_2 (by omega) hb0) cls9 f9_1 rfl M.2.2.1 rfl (ia_nA rfl _) il_RX6_15 dX6_init_17 ?_
  refine ia_aload_n (pc := 20) F dX6_init_20 rfl ?_
  refine ia_bipush (pc := 21) F dX6_init_21 (by decide) ?_
  refine jnI (pc := 23) F 7 rfl (by decide) hJ_2 (by omega) hk2 ⟨by decide, by decide⟩ dX6_init_23 (fun Z_3 V_3 hJ_3 w_3 n_3 => ?_)
  refine jpF (pc := 25) F (zj hJ_3 (by omega) hb0) cls9 f9_2 rfl M.2.2.1 rfl (ia_nA rfl _) il_RX6_18 dX6_init_25 ?_
  refine ia_aload_n (pc := 28) F dX6_init_28 rfl ?_
  refine ia_bipush (pc := 29) F dX6_init_29 (by decide) ?_
  refine jnI (pc := 31) F 7 rfl (by decide) hJ_3 (by omega) hk3 ⟨by decide, by decide⟩ dX6_init_31 (fun Z_4 V_4 hJ_4 w_4 n_4 => ?_)
  refine jpF (pc := 33) F (zj hJ_4 (by omega) hb0) cls9 f9_3 rfl M.2.2.1 rfl (ia_nA rfl _) il_RX6_21 dX6_init_33 ?_
  refine ia_aload_n (pc := 36) F dX6_init_36 rfl ?_
  refine ia_bipush (pc := 37) F dX6_init_37 (by decide) ?_
  refine jnI (pc := 39) F 12 rfl (by decide) hJ_4 (by omega) hk4 ⟨by decide, by decide⟩ dX6_init_39 (fun Z_5 V_5 hJ_5 w_5 n_5 => ?_)
  refine jpF (pc := 41) F (zj hJ_5 (by omega) hb0) cls9 f9_4 rfl M.2.2.1 rfl (ia_nA rfl _) il_RX6_24 dX6_init_41 ?_
  refine ia_aload_n (pc := 44) F dX6_init_44 rfl ?_
  refine ia_bipush (pc := 45) F dX6_init_45 (by decide) ?_
  refine jnI (pc := 47) F 12 rfl (by decide) hJ_5 (by omega) hk5 ⟨by decide, by decide⟩ dX6_init_47 (fun Z_6 V_6 hJ_6 w_6 n_6 => ?_)
  refine jpF (pc := 49) F (zj hJ_6 (by omega) hb0) cls9 f9_5 rfl M.2.2.1 rfl (ia_nA rfl _) il_RX6_27 dX6_init_49 ?_
  refine ia_aload_n (pc := 52) F dX6_init_52 rfl ?_
  refine ia_iconst (pc := 53) F dX6_init_53 ?_
  refine jp (pc := 54) F (zj hJ_6 (by omega) hb0) cls9 f9_6 rfl (ia_nI rfl _) il_RX6_30 dX6_init_54 ?_
  refine ia_aload_n (pc := 57) F dX6_init_57 rfl ?_
  refine ia_iconst (pc := 58) F dX6_init_58 ?_
  refine jp (pc := 59) F (zj hJ_6 (by omega) hb0) cls9 f9_7 rfl (ia_nI rfl _) il_RX6_34 dX6_init_59 ?_
  refine ia_aload_n (pc := 62) F dX6_init_62 rfl ?_
  refine ia_iconst (pc := 63) F dX6_init_63 ?_
  refine jp (pc := 64) F (zj hJ_6 (by omega) hb0) cls9 f9_8 rfl (ia_nI rfl _) il_RX6_37 dX6_init_64 ?_
  refine ia_aload_n (pc := 67) F dX6_init_67 rfl ?_
  refine ia_iconst (pc := 68) F dX6_init_68 ?_
  refine jp (pc := 69) F (zj hJ_6 (by omega) hb0) cls9 f9_9 rfl (ia_nI rfl _) il_RX6_40 dX6_init_69 ?_
  refine ia_aload_n (pc := 72) F dX6_init_72 rfl ?_
  refine ia_iconst (pc := 73) F dX6_init_73 ?_
  refine jp (pc := 74) F (zj hJ_6 (by omega) hb0) cls9 f9_10 rfl (ia_nI rfl _) il_RX6_43 dX6_init_74 ?_
  refine ia_aload_n (pc := 77) F dX6_init_77 rfl ?_
  refine ia_iconst (pc := 78) F dX6_init_78 ?_
  refine jp (pc := 79) F (zj hJ_6 (by omega) hb0) cls9 f9_11 rfl (ia_nI rfl _) il_RX6_46 dX6_init_79 ?_
  refine ia_aload_n (pc := 82) F dX6_init_82 rfl ?_
  refine ia_iconst (pc := 83) F dX6_init_83 ?_
  refine jp (pc := 84) F (zj hJ_6 (by omega) hb0) cls9 f9_12 rfl (ia_nI rfl _) il_RX6_49 dX6_init_84 ?_
  refine ia_aload_n (pc := 87) F dX6_init_87 rfl ?_
  refine ia_iconst (pc := 88) F dX6_init_88 ?_
  refine jp (pc := 89) F (zj hJ_6 (by omega) hb0) cls9 f9_13 rfl (ia_nI rfl _) il_RX6_52 dX6_init_89 ?_
  refine ia_aload_n (pc := 92) F dX6_init_92 rfl ?_
  refine ia_lconst (pc := 93) F dX6_init_93 (v := 0) rfl ?_
  refine jp (pc := 94) F (zj hJ_6 (by omega) hb0) cls9 f9_14 rfl (ia_nJ rfl _) il_RX6_55 dX6_init_94 ?_
  refine ia_return (pc := 97) F M (by decide) (by decide) dX6_init_97 ?_
  exact q1 _ _ hJ_6 (rowU (rowU (rowU (rowU (rowU (rowU (rowU (rowU (rowU (rowU ((n_6 b (by omega)).trans (rowU ((n_5 b (by omega)).trans (rowU ((n_4 b (by omega)).trans (rowU ((n_3 b (by omega)).trans (rowU ((n_2 b (by omega)).trans (rowU ((n_1 b (by omega)).trans hb))))))))))))))))))))) ((rowN (by first | assumption | omega)).trans ((rowN (by first | assumption | omega)).trans ((rowN (by first | assumption | omega)).trans ((rowN (by first | assumption | omega)).trans ((rowN (by first | assumption | omega)).trans ((rowN (by first | assumption | omega)).trans ((rowN (by first | assumption | omega)).trans ((rowN (by first | assumption | omega)).trans ((rowN (by first | assumption | omega)).trans ((rowN (by first | assumption | omega)).trans ((n_6 (b + 1) (by omega)).trans ((rowN (by first | assumption | omega)).trans ((n_5 (b + 1) (by omega)).trans ((rowN (by first | assumption | omega)).trans ((n_4 (b + 1) (by omega)).trans ((rowN (by first | assumption | omega)).trans ((n_3 (b + 1) (by omega)).trans ((rowN (by first | assumption | omega)).trans ((n_2 (b + 1) (by omega)).trans ((rowN (by first | assumption | omega)).trans w_1)))))))))))))))))))) ((rowN (by first | assumption | omega)).trans ((rowN (by first | assumption | omega)).trans ((rowN (by first | assumption | omega)).trans ((rowN (by first | assumption | omega)).trans ((rowN (by first | assumption | omega)).trans ((rowN (by first | assumption | omega)).trans ((rowN (by first | assumption | omega)).trans ((rowN (by first | assumption | omega)).trans ((rowN (by first | assumption | omega)).trans ((rowN (by first | assumption | omega)).trans ((n_6 (b + 2) (by omega)).trans ((rowN (by first | assumption | omega)).trans ((n_5 (b + 2) (by omega)).trans ((rowN (by first | assumption | omega)).trans ((n_4 (b + 2) (by omega)).trans ((rowN (by first | assumption | omega)).trans ((n_3 (b + 2) (by omega)).trans ((rowN (by first | assumption | omega)).trans w_2)))))))))))))))))) ((rowN (by first | assumption | omega)).trans ((rowN (by first | assumption | omega)).trans ((rowN (by first | assumption | omega)).trans ((rowN (by first | assumption | omega)).trans ((rowN (by first | assumption | omega)).trans ((rowN (by first | assumption | omega)).trans ((rowN (by first | assumption | omega)).trans ((rowN (by first | assumption | omega)).trans ((rowN (by first | assumption | omega)).trans ((rowN (by first | assumption | omega)).trans ((n_6 (b + 3) (by omega)).trans ((rowN (by first | assumption | omega)).trans ((n_5 (b + 3) (by omega)).trans ((rowN (by first | assumption | omega)).trans ((n_4 (b + 3) (by omega)).trans ((rowN (by first | assumption | omega)).trans w_3)))))))))))))))) ((rowN (by first | assumption | omega)).trans ((rowN (by first | assumption | omega)).trans ((rowN (by first | assumption | omega)).trans ((rowN (by first | assumption | omega)).trans ((rowN (by first | assumption | omega)).trans ((rowN (by first | assumption | omega)).trans ((rowN (by first | assumption | omega)).trans ((rowN (by first | assumption | omega)).trans ((rowN (by first | assumption | omega)).trans ((rowN (by first | assumption | omega)).trans ((n_6 (b + 4) (by omega)).trans ((rowN (by first | assumption | omega)).trans ((n_5 (b + 4) (by omega)).trans ((rowN (by first | assumption | omega)).trans w_4)))))))))))))) ((rowN (by first | assumption | omega)).trans ((rowN (by first | assumption | omega)).trans ((rowN (by first | assumption | omega)).trans ((rowN (by first | assumption | omega)).trans ((rowN (by first | assumption | omega)).trans ((rowN (by first | assumption | omega)).trans ((rowN (by first | assumption | omega)).trans ((rowN (by first | assumption | omega)).trans ((rowN (by first | assumption | omega)).trans ((rowN (by first | assumption | omega)).trans ((n_6 (b + 5) (by omega)).trans ((rowN (by first | assumption | omega)).trans w_5)))))))))))) ((rowN (by first | assumption | omega)).trans ((rowN (by first | assumption | omega)).trans ((rowN (by first | assumption | omega)).trans ((rowN (by first | assumption | omega)).trans ((rowN (by first | assumption | omega)).trans ((rowN (by first | assumption | omega)).trans ((rowN (by first | assumption | omega)).trans ((rowN (by first | assumption | omega)).trans ((rowN (by first | assumption | omega)).trans ((rowN (by first | assumption | omega)).trans w_6)))))))))) (fun pp hpp => ((rowN (by first | assumption | omega)).trans ((rowN (by first | assumption | omega)).trans ((rowN (by first | assumption | omega)).trans ((rowN (by first | assumption | omega)).trans ((rowN (by first | assumption | omega)).trans ((rowN (by first | assumption | omega)).trans ((rowN (by first | assumption | omega)).trans ((rowN (by first | assumption | omega)).trans ((rowN (by first | assumption | omega)).trans ((rowN (by first | assumption | omega)).trans ((n_6 pp (by omega)).trans ((rowN (by first | assumption | omega)).trans ((n_5 pp (by omega)).trans ((rowN (by first | assumption | omega)).trans ((n_4 pp (by omega)).trans ((rowN (by first | assumption | omega)).trans ((n_3 pp (by omega)).trans ((rowN (by first | assumption | omega)).trans ((n_2 pp (by omega)).trans ((rowN (by first | assumption | omega)).trans ((n_1 pp (by omega)).trans (rfl : V pp = V pp)))))))))))))))))))))))
set_option maxRecDepth 100000 in
theorem c_X0_init {Z : ia_Z} {V : ia_H} {Q : ia_O → ia_Z → ia_H → Prop}   (hJ : ZJ (81) Z) (hb : V 80 = ia_d0 4) (q1 : ∀ (Z1 : ia_Z) (V1 : ia_H), (ZJ (85) Z1) → (V1 80 = (up (up (up (up (up (up (up (ia_d0 4) 0 ((81 : Nat) : Int)) 1 ((82 : Nat) : Int)) 2 ((83 : Nat) : Int)) 3 ((84 : Nat) : Int)) 4 0) 5 0) 6 0)) → (V1 81 = (fun _ => 0)) → (V1 82 = (fun _ => 0)) → (V1 83 = (fun _ => 0)) → (V1 84 = (fun _ => 0)) → (∀ pp : Nat, pp < 80 → V1 pp = V pp) → Q (.inl none) Z1 V1) : ia_K yX0_init cX0_init 1 none [(4, ((80 : Nat) : Int))] Z V 2 4 917 Q := by
  refine ia_start RX0 "<init>" ⟨by decide, rfl, rfl⟩ (Nat.le_of_ble_eq_true rfl) (ia_tg rfl) (fun X F M => ?_)
  show ia_G X 0 0 0 [(4, ((80 : Nat) : Int))] [] Z V
  refine ia_aload_n (pc := 0) F dX0_init_0 rfl ?_
  refine ia_objInit (pc := 1) F 80 rfl ⟨il_RX0_3, im_objectInit, k_objectInit⟩ ⟨by decide, Nat.le_of_ble_eq_true rfl⟩ dX0_init_1 ?_
  refine ia_aload_n (pc := 4) F dX0_init_4 rfl ?_
  refine ia_bipush (pc := 5) F dX0_init_5 (by decide) ?_
  refine jnI (pc := 7) F 7 rfl (by decide) hJ (by decide) ⟨rfl, rfl⟩ ⟨by decide, by decide⟩ dX0_init_7 (fun Z_1 V_1 hJ_1 w_1 n_1 => ?_)
  refine jpF (pc := 9) F (zj hJ_1 (by decide) ⟨rfl, rfl⟩) cls4 f4_0 rfl M.2.2.1 rfl (ia_nA rfl _) il_RX0_9 dX0_init_9 ?_
  refine ia_aload_n (pc := 12) F dX0_init_12 rfl ?_
  refine ia_bipush (pc := 13) F dX0_init_13 (by decide) ?_
  refine jnI (pc := 15) F 7 rfl (by decide) hJ_1 (by decide) ⟨rfl, rfl⟩ ⟨by decide, by decide⟩ dX0_init_15 (fun Z_2 V_2 hJ_2 w_2 n_2 => ?_)
  refine jpF (pc := 17) F (zj hJ_2 (by decide) ⟨rfl, rfl⟩) cls4 f4_1 rfl M.2.2.1 rfl (ia_nA rfl _) il_RX0_15 dX0_init_17 ?_
  refine ia_aload_n (pc := 20) F dX0_init_20 rfl ?_
  refine ia_sipush (pc := 21) F dX0_init_21 (by decide) ?_
  refine jnI (pc := 24) F 896 rfl (by decide) hJ_2 (by decide) ⟨rfl, rfl⟩ ⟨by decide, by decide⟩ dX0_init_24 (fun Z_3 V_3 hJ_3 w_3 n_3 => ?_)
  refine jpF (pc := 26) F (zj hJ_3 (by decide) ⟨rfl, rfl⟩) cls4 f4_2 rfl M.2.2.1 rfl (ia_nA rfl _) il_RX0_18 dX0_init_26 ?_
  refine ia_aload_n (pc := 29) F dX0_init_29 rfl ?_
  refine ia_bipush (pc := 30) F dX0_init_30 (by decide) ?_
  refine jnI (pc := 32) F 7 rfl (by decide) hJ_3 (by decide) ⟨rfl, rfl⟩ ⟨by decide, by decide⟩ dX0_init_32 (fun Z_4 V_4 hJ_4 w_4 n_4 => ?_)
  refine jpF (pc := 34) F (zj hJ_4 (by decide) ⟨rfl, rfl⟩) cls4 f4_3 rfl M.2.2.1 rfl (ia_nA rfl _) il_RX0_21 dX0_init_34 ?_
  refine ia_aload_n (pc := 37) F dX0_init_37 rfl ?_
  refine ia_iconst (pc := 38) F dX0_init_38 ?_
  refine jp (pc := 39) F (zj hJ_4 (by decide) ⟨rfl, rfl⟩) cls4 f4_4 rfl (ia_nI rfl _) il_RX0_24 dX0_init_39 ?_
  refine ia_aload_n (pc := 42) F dX0_init_42 rfl ?_
  refine ia_iconst (pc := 43) F dX0_init_43 ?_
  refine jp (pc := 44) F (zj hJ_4 (by decide) ⟨rfl, rfl⟩) cls4 f4_5 rfl (ia_nI rfl _) il_RX0_28 dX0_init_44 ?_
  refine ia_aload_n (pc := 47) F dX0_init_47 rfl ?_
  refine ia_iconst (pc := 48) F dX0_init_48 ?_
  refine jp (pc := 49) F (zj hJ_4 (by decide) ⟨rfl, rfl⟩) cls4 f4_6 rfl (ia_nI rfl _) il_RX0_31 dX0_init_49 ?_
  refine ia_return (pc := 52) F M (by decide) (by decide) dX0_init_52 ?_
  exact q1 _ _ hJ_4 (rowU (rowU (rowU (rowU ((n_4 80 (by decide)).trans (rowU ((n_3 80 (by decide)).trans (rowU ((n_2 80 (by decide)).trans (rowU ((n_1 80 (by decide)).trans hb))))))))))) ((rowN (by decide)).trans ((rowN (by decide)).trans ((rowN (by decide)).trans ((rowN (by decide)).trans ((n_4 81 (by decide)).trans ((rowN (by decide)).trans ((n_3 81 (by decide)).trans ((rowN (by decide)).trans ((n_2 81 (by decide)).trans ((rowN (by decide)).trans w_1)))))))))) ((rowN (by decide)).trans ((rowN (by decide)).trans ((rowN (by decide)).trans ((rowN (by decide)).trans ((n_4 82 (by decide)).trans ((rowN (by decide)).trans ((n_3 82 (by decide)).trans ((rowN (by decide)).trans w_2)))))))) ((rowN (by decide)).trans ((rowN (by decide)).trans ((rowN (by decide)).trans ((rowN (by decide)).trans ((n_4 83 (by decide)).trans ((rowN (by decide)).trans w_3)))))) ((rowN (by decide)).trans ((rowN (by decide)).trans ((rowN (by decide)).trans ((rowN (by decide)).trans w_4)))) (fun pp hpp => ((rowN (by first | assumption | omega)).trans ((rowN (by first | assumption | omega)).trans ((rowN (by first | assumption | omega)).trans ((rowN (by first | assumption | omega)).trans ((n_4 pp (by omega)).trans ((rowN (by first | assumption | omega)).trans ((n_3 pp (by omega)).trans ((rowN (by first | assumption | omega)).trans ((n_2 pp (by omega)).trans ((rowN (by first | assumption | omega)).trans ((n_1 pp (by omega)).trans (rfl : V pp = V pp)))))))))))))
set_option maxRecDepth 100000 in
theorem c_X5_init {Z : ia_Z} {V : ia_H} {Q : ia_O → ia_Z → ia_H → Prop}   (hJ : ZJ (86) Z) (hb : V 85 = ia_d0 8) (q1 : ∀ (Z1 : ia_Z) (V1 : ia_H), (ZJ (87) Z1) → (V1 85 = (up (ia_d0 8) 0 ((86 : Nat) : Int))) → (V1 86 = (fun _ => 0)) → (∀ pp : Nat, pp < 85 → V1 pp = V pp) → Q (.inl none) Z1 V1) : ia_K yX5_init cX5_init 1 none [(4, ((85 : Nat) : Int))] Z V 2 1 7 Q := by
  refine ia_start RX5 "<init>" ⟨by decide, rfl, rfl⟩ (Nat.le_of_ble_eq_true rfl) (ia_tg rfl) (fun X F M => ?_)
  show ia_G X 0 0 0 [(4, ((85 : Nat) : Int))] [] Z V
  refine ia_aload_n (pc := 0) F dX5_init_0 rfl ?_
  refine ia_objInit (pc := 1) F 85 rfl ⟨il_RX5_3, im_objectInit, k_objectInit⟩ ⟨by decide, Nat.le_of_ble_eq_true rfl⟩ dX5_init_1 ?_
  refine ia_aload_n (pc := 4) F dX5_init_4 rfl ?_
  refine ia_bipush (pc := 5) F dX5_init_5 (by decide) ?_
  refine jnI (pc := 7) F 7 rfl (by decide) hJ (by decide) ⟨rfl, rfl⟩ ⟨by decide, by decide⟩ dX5_init_7 (fun Z_1 V_1 hJ_1 w_1 n_1 => ?_)
  refine jpF (pc := 9) F (zj hJ_1 (by decide) ⟨rfl, rfl⟩) cls8 f8_0 rfl M.2.2.1 rfl (ia_nA rfl _) il_RX5_9 dX5_init_9 ?_
  refine ia_return (pc := 12) F M (by decide) (by decide) dX5_init_12 ?_
  exact q1 _ _ hJ_1 (rowU ((n_1 85 (by decide)).trans hb)) ((rowN (by decide)).trans w_1) (fun pp hpp => ((rowN (by first | assumption | omega)).trans ((n_1 pp (by omega)).trans (rfl : V pp = V pp))))
set_option maxRecDepth 100000 in
theorem c_X4_init {Z : ia_Z} {V : ia_H} {Q : ia_O → ia_Z → ia_H → Prop}   (hJ : ZJ (88) Z) (hb : V 87 = ia_d0 7) (q1 : ∀ (Z1 : ia_Z) (V1 : ia_H), (ZJ (91) Z1) → (V1 87 = (up (up (up (ia_d0 7) 0 ((88 : Nat) : Int)) 1 ((89 : Nat) : Int)) 2 ((90 : Nat) : Int))) → (V1 88 = (fun _ => 0)) → (V1 89 = (fun _ => 0)) → (V1 90 = (fun _ => 0)) → (∀ pp : Nat, pp < 87 → V1 pp = V pp) → Q (.inl none) Z1 V1) : ia_K yX4_init cX4_init 1 none [(4, ((87 : Nat) : Int))] Z V 2 3 36 Q := by
  refine ia_start RX4 "<init>" ⟨by decide, rfl, rfl⟩ (Nat.le_of_ble_eq_true rfl) (ia_tg rfl) (fun X F M => ?_)
  show ia_G X 0 0 0 [(4, ((87 : Nat) : Int))] [] Z V
  refine ia_aload_n (pc := 0) F dX4_init_0 rfl ?_
  refine ia_objInit (pc := 1) F 87 rfl ⟨il_RX4_3, im_objectInit, k_objectInit⟩ ⟨by decide, Nat.le_of_ble_eq_true rfl⟩ dX4_init_1 ?_
  refine ia_aload_n (pc := 4) F dX4_init_4 rfl ?_
  refine ia_bipush (pc := 5) F dX4_init_5 (by decide) ?_
  refine jnI (pc := 7) F 12 rfl (by decide) hJ (by decide) ⟨rfl, rfl⟩ ⟨by decide, by decide⟩ dX4_init_7 (fun Z_1 V_1 hJ_1 w_1 n_1 => ?_)
  refine jpF (pc := 9) F (zj hJ_1 (by decide) ⟨rfl, rfl⟩) cls7 f7_0 rfl M.2.2.1 rfl (ia_nA rfl _) il_RX4_9 dX4_init_9 ?_
  refine ia_aload_n (pc := 12) F dX4_init_12 rfl ?_
  refine ia_bipush (pc := 13) F dX4_init_13 (by decide) ?_
  refine jnI (pc := 15) F 12 rfl (by decide) hJ_1 (by decide) ⟨rfl, rfl⟩ ⟨by decide, by decide⟩ dX4_init_15 (fun Z_2 V_2 hJ_2 w_2 n_2 => ?_)
  refine jpF (pc := 17) F (zj hJ_2 (by decide) ⟨rfl, rfl⟩) cls7 f7_1 rfl M.2.2.1 rfl (ia_nA rfl _) il_RX4_15 dX4_init_17 ?_
  refine ia_aload_n (pc := 20) F dX4_init_20 rfl ?_
  refine ia_bipush (pc := 21) F dX4_init_21 (by decide) ?_
  refine jnI (pc := 23) F 12 rfl (by decide) hJ_2 (by decide) ⟨rfl, rfl⟩ ⟨by decide, by decide⟩ dX4_init_23 (fun Z_3 V_3 hJ_3 w_3 n_3 => ?_)
  refine jpF (pc := 25) F (zj hJ_3 (by decide) ⟨rfl, rfl⟩) cls7 f7_2 rfl M.2.2.1 rfl (ia_nA rfl _) il_RX4_18 dX4_init_25 ?_
  refine ia_return (pc := 28) F M (by decide) (by decide) dX4_init_28 ?_
  exact q1 _ _ hJ_3 (rowU ((n_3 87 (by decide)).trans (rowU ((n_2 87 (by decide)).trans (rowU ((n_1 87 (by decide)).trans hb)))))) ((rowN (by decide)).trans ((n_3 88 (by decide)).trans ((rowN (by decide)).trans ((n_2 88 (by decide)).trans ((rowN (by decide)).trans w_1))))) ((rowN (by decide)).trans ((n_3 89 (by decide)).trans ((rowN (by decide)).trans w_2))) ((rowN (by decide)).trans w_3) (fun pp hpp => ((rowN (by first | assumption | omega)).trans ((n_3 pp (by omega)).trans ((rowN (by first | assumption | omega)).trans ((n_2 pp (by omega)).trans ((rowN (by first | assumption | omega)).trans ((n_1 pp (by omega)).trans (rfl : V pp = V pp))))))))
