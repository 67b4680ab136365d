/-! the class: isConsistent (made by wip/whole/m2.py) -/
set_option maxRecDepth 100000 in
theorem c_X7_shareOf_in {Z : ia_Z} {V : ia_H} {Q : ia_O → ia_Z → ia_H → Prop} {σ : Nat → Int} {δ : Nat → Int} {m : Int} (e : Int) (hZ : ZI Z) (hP : PI V) (hS : Sh 1 V σ) (hI : SI σ m) (h86 : V 86 = δ) (he : 0 ≤ e ∧ e < σ 0) (q1 : ∀ (V1 : ia_H), PI V1 → (∀ pp, pp ∉ ([86] : List Nat) → V1 pp = V pp) → Q (.inl (some (0, (shA σ e.toNat)))) Z V1) : ia_K yX7_shareOf cX7_shareOf 2 (some .int) [(4, ((0 : Nat) : Int)), (0, e)] Z V 8 0 0 Q := by
  refine ia_start RX7 "shareOf" ⟨by decide, rfl, rfl⟩ (Nat.le_of_ble_eq_true rfl) (ia_tg rfl) (fun X F M => ?_)
  show ia_G X 0 0 0 [(4, ((0 : Nat) : Int)), (0, e)] [] Z V
  obtain ⟨s0, s1, s2, s3, s4, s5, s6, s7, s18, sb, sw, se, sp⟩ := id hI
  refine ia_aload_n (pc := 0) F dX7_shareOf_0 rfl ?_
  refine jg (pc := 1) F (z0 hZ) cls10 f10_0 (hP 0 0 1 rfl) il_RX7_12 dX7_shareOf_1 ?_
  refine ia_iload_n (pc := 4) F dX7_shareOf_4 rfl ?_
  refine jV (pc := 5) F 0 0 (z1 hZ) cls9.1 (c_X6_hasEdition e hZ hP hS hI (by omega) (fun h_1 => ?_) (fun h_2 => ?_)) rfl ⟨k_X6_hasEdition, il_RX7_135, im_X6_hasEdition, is_X6_hasEdition, ii_RX6⟩ 1 rfl hd_X6_hasEdition ⟨by decide, by decide, by decide, by decide, Nat.le_of_ble_eq_true rfl⟩ dX7_shareOf_5
  · refine j1 ?_
    refine jS (pc := 8) F 0 0 (c_X7_requireIndex_1  ?_) rfl ⟨k_X7_requireIndex, il_RX7_138, it_X7_requireIndex, ii_RX7⟩ rfl 1 rfl hd_X7_requireIndex ⟨by decide, by decide, by decide, by decide, Nat.le_of_ble_eq_true rfl⟩ dX7_shareOf_8
    refine j0 ?_
    refine ia_aload_n (pc := 11) F dX7_shareOf_11 rfl ?_
    refine jg (pc := 12) F (z0 hZ) cls10 f10_4 (hP 0 4 85 rfl) il_RX7_36 dX7_shareOf_12 ?_
    refine ia_aload_n (pc := 15) F dX7_shareOf_15 rfl ?_
    refine jg (pc := 16) F (z0 hZ) cls10 f10_0 (hP 0 0 1 rfl) il_RX7_12 dX7_shareOf_16 ?_
    refine jV (pc := 19) F 0 0 (z85 hZ) cls8.1 (c_X5_dealSheetBySheet hZ hP hS hI h86 (fun V_3 p_4 w_5 f_6 => ?_)) rfl ⟨k_X5_dealSheetBySheet, il_RX7_180, im_X5_dealSheetBySheet, is_X5_dealSheetBySheet, ii_RX5⟩ 1 rfl hd_X5_dealSheetBySheet ⟨by decide, by decide, by decide, by decide, Nat.le_of_ble_eq_true rfl⟩ dX7_shareOf_19
    refine j0 ?_
    refine ia_aload_n (pc := 22) F dX7_shareOf_22 rfl ?_
    refine jg (pc := 23) F (z0 hZ) cls10 f10_4 (p_4 0 4 85 rfl) il_RX7_36 dX7_shareOf_23 ?_
    refine jg (pc := 26) F (z85 hZ) cls8 f8_0 (p_4 85 0 86 rfl) il_RX7_183 dX7_shareOf_26 ?_
    refine ia_iload_n (pc := 29) F dX7_shareOf_29 rfl ?_
    refine ja (pc := 30) F (v := mgk 7 (shs σ (σ 2).toNat) δ e.toNat) (z86 hZ) e.toNat (by omega) (by omega) (congrFun w_5 e.toNat) dX7_shareOf_30 ?_
    refine ia_ireturn (pc := 31) F M (by decide) (by decide) dX7_shareOf_31 ?_
    rw [mgk_lt (by omega)]
    exact q1 _ p_4 (Fr_c (Fr_0 (V := V) (S := [86])) f_6 (by decide))
  · refine j1 ?_
    exfalso
    omega
set_option maxRecDepth 100000 in
theorem c_X7_shareByLevel_in {Z : ia_Z} {V : ia_H} {Q : ia_O → ia_Z → ia_H → Prop} {σ : Nat → Int} {δ : Nat → Int} {m : Int} (e : Int) (hZ : ZI Z) (hP : PI V) (hS : Sh 1 V σ) (hI : SI σ m) (h86 : V 86 = δ) (he : 0 ≤ e ∧ e < σ 0) (q1 : ∀ (V1 : ia_H), PI V1 → (∀ pp, pp ∉ ([86] : List Nat) → V1 pp = V pp) → Q (.inl (some (0, (shA σ e.toNat)))) Z V1) : ia_K yX7_shareByLevel cX7_shareByLevel 2 (some .int) [(4, ((0 : Nat) : Int)), (0, e)] Z V 8 0 0 Q := by
  refine ia_start RX7 "shareByLevel" ⟨by decide, rfl, rfl⟩ (Nat.le_of_ble_eq_true rfl) (ia_tg rfl) (fun X F M => ?_)
  show ia_G X 0 0 0 [(4, ((0 : Nat) : Int)), (0, e)] [] Z V
  obtain ⟨s0, s1, s2, s3, s4, s5, s6, s7, s18, sb, sw, se, sp⟩ := id hI
  refine ia_aload_n (pc := 0) F dX7_shareByLevel_0 rfl ?_
  refine jg (pc := 1) F (z0 hZ) cls10 f10_0 (hP 0 0 1 rfl) il_RX7_12 dX7_shareByLevel_1 ?_
  refine ia_iload_n (pc := 4) F dX7_shareByLevel_4 rfl ?_
  refine jV (pc := 5) F 0 0 (z1 hZ) cls9.1 (c_X6_hasEdition e hZ hP hS hI (by omega) (fun h_1 => ?_) (fun h_2 => ?_)) rfl ⟨k_X6_hasEdition, il_RX7_135, im_X6_hasEdition, is_X6_hasEdition, ii_RX6⟩ 1 rfl hd_X6_hasEdition ⟨by decide, by decide, by decide, by decide, Nat.le_of_ble_eq_true rfl⟩ dX7_shareByLevel_5
  · refine j1 ?_
    refine jS (pc := 8) F 0 0 (c_X7_requireIndex_1  ?_) rfl ⟨k_X7_requireIndex, il_RX7_138, it_X7_requireIndex, ii_RX7⟩ rfl 1 rfl hd_X7_requireIndex ⟨by decide, by decide, by decide, by decide, Nat.le_of_ble_eq_true rfl⟩ dX7_shareByLevel_8
    refine j0 ?_
    refine ia_aload_n (pc := 11) F dX7_shareByLevel_11 rfl ?_
    refine jg (pc := 12) F (z0 hZ) cls10 f10_4 (hP 0 4 85 rfl) il_RX7_36 dX7_shareByLevel_12 ?_
    refine ia_aload_n (pc := 15) F dX7_shareByLevel_15 rfl ?_
    refine jg (pc := 16) F (z0 hZ) cls10 f10_0 (hP 0 0 1 rfl) il_RX7_12 dX7_shareByLevel_16 ?_
    refine jV (pc := 19) F 0 0 (z85 hZ) cls8.1 (c_X5_dealByLevel hZ hP hS hI h86 (fun L_3 V_4 h_5 h_6 h_7 p_8 w_9 f_10 => ?_)) rfl ⟨k_X5_dealByLevel, il_RX7_186, im_X5_dealByLevel, is_X5_dealByLevel, ii_RX5⟩ 1 rfl hd_X5_dealByLevel ⟨by decide, by decide, by decide, by decide, Nat.le_of_ble_eq_true rfl⟩ dX7_shareByLevel_19
    refine j0 ?_
    refine ia_aload_n (pc := 22) F dX7_shareByLevel_22 rfl ?_
    refine jg (pc := 23) F (z0 hZ) cls10 f10_4 (p_8 0 4 85 rfl) il_RX7_36 dX7_shareByLevel_23 ?_
    refine jg (pc := 26) F (z85 hZ) cls8 f8_0 (p_8 85 0 86 rfl) il_RX7_183 dX7_shareByLevel_26 ?_
    refine ia_iload_n (pc := 29) F dX7_shareByLevel_29 rfl ?_
    refine ja (pc := 30) F (v := mgk (σ 0).toNat (lvv σ L_3 (σ 2 - slv σ L_3 (σ 0).toNat)) δ e.toNat) (z86 hZ) e.toNat (by omega) (by omega) (congrFun w_9 e.toNat) dX7_shareByLevel_30 ?_
    refine ia_ireturn (pc := 31) F M (by decide) (by decide) dX7_shareByLevel_31 ?_
    rw [mgk_lt (by omega), lvl_eq hI h_5 h_6 h_7 (by omega)]
    exact q1 _ p_8 (Fr_c (Fr_0 (V := V) (S := [86])) f_10 (by decide))
  · refine j1 ?_
    exfalso
    omega
set_option maxRecDepth 100000 in
theorem c_X7_shareWaysAgree {Z : ia_Z} {V : ia_H} {Q : ia_O → ia_Z → ia_H → Prop} {σ : Nat → Int} {δ : Nat → Int} {m : Int} (hZ : ZI Z) (hP : PI V) (hS : Sh 1 V σ) (hI : SI σ m) (h86 : V 86 = δ)  (q1 : ∀ (V1 : ia_H), PI V1 → (∀ pp, pp ∉ ([86] : List Nat) → V1 pp = V pp) → Q (.inl (some (0, 1))) Z V1) : ia_K yX7_shareWaysAgree cX7_shareWaysAgree 2 (some .boolean) [(4, ((0 : Nat) : Int))] Z V 9 0 0 Q := by
  refine ia_start RX7 "shareWaysAgree" ⟨by decide, rfl, rfl⟩ (Nat.le_of_ble_eq_true rfl) (ia_tg rfl) (fun X F M => ?_)
  show ia_G X 0 0 0 [(4, ((0 : Nat) : Int)), (9, 0)] [] Z V
  obtain ⟨s0, s1, s2, s3, s4, s5, s6, s7, s18, sb, sw, se, sp⟩ := id hI
  refine ia_iconst (pc := 0) F dX7_shareWaysAgree_0 ?_
  refine ia_istore_n (pc := 1) F (ls' := [(4, ((0 : Nat) : Int)), (0, 0)]) dX7_shareWaysAgree_1 (Nat.le_of_ble_eq_true rfl) rfl rfl ?_
  have L2 : ∀ (fu : Nat) (j : Nat) (V2 : ia_H), (7 - j < fu) → ((j : Int) ≤ σ 0) → (PI V2) → (∀ pp, pp ∉ ([86] : List Nat) → V2 pp = V pp) → ia_G X 0 0 2 [(4, ((0 : Nat) : Int)), (0, (j : Int))] [] Z V2 := by
    intro fu
    induction fu with
    | zero => intro j V2 hm; exact absurd hm (Nat.not_lt_zero _)
    | succ fu ih =>
      intro j V2 hm hj hP2 hF2
      have ih2 := ih
      refine ia_iload_n (pc := 2) F dX7_shareWaysAgree_2 rfl ?_
      refine ia_aload_n (pc := 3) F dX7_shareWaysAgree_3 rfl ?_
      refine jg (pc := 4) F (z0 hZ) cls10 f10_0 (hP2 0 0 1 rfl) il_RX7_12 dX7_shareWaysAgree_4 ?_
      refine jg (pc := 7) F (x := σ 0) (z1 hZ) cls9 f9_6 (Sh_fr hS hF2 (by decide)).f6 il_RX7_132 dX7_shareWaysAgree_7 ?_
      refine ia_icmp_ge (pc := 10) F 34 dX7_shareWaysAgree_10 rfl (by omega) (by omega) (fun h_1 => ?_) (fun h_1 => ?_)
      · refine ia_iconst (pc := 34) F dX7_shareWaysAgree_34 ?_
        refine ia_zreturn (pc := 35) F M (Or.inr rfl) (by decide) (by decide) dX7_shareWaysAgree_35 ?_
        exact q1 _ hP2 hF2
      · refine ia_aload_n (pc := 13) F dX7_shareWaysAgree_13 rfl ?_
        refine ia_iload_n (pc := 14) F dX7_shareWaysAgree_14 rfl ?_
        refine jV (pc := 15) F 0 0 (z0 hZ) cls10.1 (c_X7_shareOf_in (j : Int) hZ hP2 (Sh_fr hS hF2 (by decide)) hI (rfl : V2 86 = V2 86) (by omega) (fun V_2 p_3 f_4 => ?_)) rfl ⟨k_X7_shareOf, il_RX7_382, im_X7_shareOf, is_X7_shareOf, ii_RX7⟩ 1 rfl hd_X7_shareOf ⟨by decide, by decide, by decide, by decide, Nat.le_of_ble_eq_true rfl⟩ dX7_shareWaysAgree_15
        change ia_ct X _ _ (15 + 3) _ _ _ (.inl (some (0, (shA σ j)))) _ _
        refine j1 ?_
        refine ia_aload_n (pc := 18) F dX7_shareWaysAgree_18 rfl ?_
        refine ia_iload_n (pc := 19) F dX7_shareWaysAgree_19 rfl ?_
        refine jV (pc := 20) F 0 0 (z0 hZ) cls10.1 (c_X7_shareByLevel_in (j : Int) hZ p_3 (Sh_fr (Sh_fr hS hF2 (by decide)) f_4 (by decide)) hI (rfl : V_2 86 = V_2 86) (by omega) (fun V_5 p_6 f_7 => ?_)) rfl ⟨k_X7_shareByLevel, il_RX7_385, im_X7_shareByLevel, is_X7_shareByLevel, ii_RX7⟩ 1 rfl hd_X7_shareByLevel ⟨by decide, by decide, by decide, by decide, Nat.le_of_ble_eq_true rfl⟩ dX7_shareWaysAgree_20
        change ia_ct X _ _ (20 + 3) _ _ _ (.inl (some (0, (shA σ j)))) _ _
        refine j1 ?_
        have r9 : 0 ≤ shA σ j ∧ shA σ j ≤ ((σ 2).toNat : Int) := shs_rng (σ := σ) j (σ 2).toNat
        refine ia_icmp_eq (pc := 23) F 28 dX7_shareWaysAgree_23 rfl (by omega) (by omega) (fun h_8 => ?_) (fun h_8 => ?_)
        · refine ia_iinc (pc := 28) F (ls' := [(4, ((0 : Nat) : Int)), (0, ((j + 1 : Nat) : Int))]) dX7_shareWaysAgree_28 rfl rfl rfl rfl ?_
          refine ia_goto (pc := 31) F 2 dX7_shareWaysAgree_31 rfl ?_
          exact ih2 (j + 1) _ (by omega) (by omega) p_6  (Fr_c (Fr_c hF2 f_4 (by decide)) f_7 (by decide))
        · refine ia_iconst (pc := 26) F dX7_shareWaysAgree_26 ?_
          refine ia_zreturn (pc := 27) F M (Or.inl rfl) (by decide) (by decide) dX7_shareWaysAgree_27 ?_
          exfalso
          omega
  exact L2 (7 + 1) 0 _ (by omega) (by omega) hP  (Fr_0 (V := V) (S := [86]))
set_option maxRecDepth 100000 in
theorem c_X7_isConsistent {Z : ia_Z} {V : ia_H} {Q : ia_O → ia_Z → ia_H → Prop} {σ : Nat → Int} {ρ : Nat → Int} {α1 : Nat → Int} {α2 : Nat → Int} {α3 : Nat → Int} {α4 : Nat → Int} {δ : Nat → Int} {ξ1 : Nat → Int} {ξ2 : Nat → Int} {ξ3 : Nat → Int} {m : Int} (hZ : ZI Z) (hP : PI V) (hS : Sh 1 V σ) (hI : SI σ m) (h80 : V 80 = ρ) (h81 : V 81 = α1) (h82 : V 82 = α2) (h83 : V 83 = α3) (h84 : V 84 = α4) (h86 : V 86 = δ) (h88 : V 88 = ξ1) (h89 : V 89 = ξ2) (h90 : V 90 = ξ3)  (q1 : ∀ (V1 : ia_H), PI V1 → (∀ pp, pp ∉ ([80, 81, 82, 83, 84, 86, 88, 89, 90] : List Nat) → V1 pp = V pp) → Q (.inl (some (0, 1))) Z V1) : ia_K yX7_isConsistent cX7_isConsistent 1 (some .boolean) [(4, ((0 : Nat) : Int))] Z V 16 0 0 Q := by
  refine ia_start RX7 "isConsistent" ⟨by decide, rfl, rfl⟩ (Nat.le_of_ble_eq_true rfl) (ia_tg rfl) (fun X F M => ?_)
  show ia_G X 0 0 0 [(4, ((0 : Nat) : Int))] [] Z V
  obtain ⟨s0, s1, s2, s3, s4, s5, s6, s7, s18, sb, sw, se, sp⟩ := id hI
  refine ia_aload_n (pc := 0) F dX7_isConsistent_0 rfl ?_
  refine jV (pc := 1) F 0 0 (z0 hZ) cls10.1 (c_X7_inkWaysAgree hZ hP hS hI ?_) rfl ⟨k_X7_inkWaysAgree, il_RX7_262, im_X7_inkWaysAgree, is_X7_inkWaysAgree, ii_RX7⟩ 0 rfl hd_X7_inkWaysAgree ⟨by decide, by decide, by decide, by decide, Nat.le_of_ble_eq_true rfl⟩ dX7_isConsistent_1
  refine j1 ?_
  refine ia_if_eq (pc := 4) F 47 dX7_isConsistent_4 rfl (by omega) (fun h9 => absurd h9 (by omega)) (fun _ => ?_)
  refine ia_aload_n (pc := 7) F dX7_isConsistent_7 rfl ?_
  refine jV (pc := 8) F 0 0 (z0 hZ) cls10.1 (c_X7_fewestMinutes hZ hP hS hI h80 h81 h82 h83 h84 (fun V_1 p_2 f_3 => ?_)) rfl ⟨k_X7_fewestMinutes, il_RX7_266, im_X7_fewestMinutes, is_X7_fewestMinutes, ii_RX7⟩ 0 rfl hd_X7_fewestMinutes ⟨by decide, by decide, by decide, by decide, Nat.le_of_ble_eq_true rfl⟩ dX7_isConsistent_8
  refine j1 ?_
  refine ia_aload_n (pc := 11) F dX7_isConsistent_11 rfl ?_
  refine jV (pc := 12) F 0 0 (z0 hZ) cls10.1 (c_X7_minutesByOrders hZ p_2 (Sh_fr hS f_3 (by decide)) hI (rfl : V_1 80 = V_1 80) (rfl : V_1 81 = V_1 81) (rfl : V_1 82 = V_1 82) (fun V_4 p_5 f_6 => ?_)) rfl ⟨k_X7_minutesByOrders, il_RX7_269, im_X7_minutesByOrders, is_X7_minutesByOrders, ii_RX7⟩ 0 rfl hd_X7_minutesByOrders ⟨by decide, by decide, by decide, by decide, Nat.le_of_ble_eq_true rfl⟩ dX7_isConsistent_12
  refine j1 ?_
  have r8 := mcl_rng (cl := col σ) (c := σ 4) (L := lin (opb σ (σ 0).toNat) (σ 0).toNat) (fun x hx => (se x (by have := ((lin_mem _).mp hx).1; omega)).1) s4
  have r7 := lin_lle (opb σ (σ 0).toNat) (σ 0).toNat
  have e8 := ord_mcl (σ := σ) (by omega)
  have e9 := ord_kr hI
  refine ia_icmp_ne (pc := 15) F 47 dX7_isConsistent_15 rfl (by omega) (by omega) (fun h_7 => ?_) (fun h_7 => ?_)
  · refine ia_iconst (pc := 47) F dX7_isConsistent_47 ?_
    refine ia_zreturn (pc := 48) F M (Or.inl rfl) (by decide) (by decide) dX7_isConsistent_48 ?_
    exfalso
    omega
  · refine ia_aload_n (pc := 18) F dX7_isConsistent_18 rfl ?_
    refine jV (pc := 19) F 0 0 (z0 hZ) cls10.1 (c_X7_shareWaysAgree hZ p_5 (Sh_fr (Sh_fr hS f_3 (by decide)) f_6 (by decide)) hI ((f_6 86 (by decide)).trans ((f_3 86 (by decide)).trans h86)) (fun V_8 p_9 f_10 => ?_)) rfl ⟨k_X7_shareWaysAgree, il_RX7_272, im_X7_shareWaysAgree, is_X7_shareWaysAgree, ii_RX7⟩ 0 rfl hd_X7_shareWaysAgree ⟨by decide, by decide, by decide, by decide, Nat.le_of_ble_eq_true rfl⟩ dX7_isConsistent_19
    refine j1 ?_
    refine ia_if_eq (pc := 22) F 47 dX7_isConsistent_22 rfl (by omega) (fun h9 => absurd h9 (by omega)) (fun _ => ?_)
    refine ia_aload_n (pc := 25) F dX7_isConsistent_25 rfl ?_
    refine jV (pc := 26) F 0 0 (z0 hZ) cls10.1 (c_X7_longestRise hZ p_9 (Sh_fr (Sh_fr (Sh_fr hS f_3 (by decide)) f_6 (by decide)) f_10 (by decide)) hI ((f_10 88 (by decide)).trans ((f_6 88 (by decide)).trans ((f_3 88 (by decide)).trans h88))) ((f_10 89 (by decide)).trans ((f_6 89 (by decide)).trans ((f_3 89 (by decide)).trans h89))) (fun V_11 p_12 f_13 => ?_)) rfl ⟨k_X7_longestRise, il_RX7_275, im_X7_longestRise, is_X7_longestRise, ii_RX7⟩ 0 rfl hd_X7_longestRise ⟨by decide, by decide, by decide, by decide, Nat.le_of_ble_eq_true rfl⟩ dX7_isConsistent_26
    refine j1 ?_
    refine ia_aload_n (pc := 29) F dX7_isConsistent_29 rfl ?_
    refine jV (pc := 30) F 0 0 (z0 hZ) cls10.1 (c_X7_riseByEnds hZ p_12 (Sh_fr (Sh_fr (Sh_fr (Sh_fr hS f_3 (by decide)) f_6 (by decide)) f_10 (by decide)) f_13 (by decide)) hI ((f_13 90 (by decide)).trans ((f_10 90 (by decide)).trans ((f_6 90 (by decide)).trans ((f_3 90 (by decide)).trans h90)))) (fun V_14 p_15 f_16 => ?_)) rfl ⟨k_X7_riseByEnds, il_RX7_278, im_X7_riseByEnds, is_X7_riseByEnds, ii_RX7⟩ 0 rfl hd_X7_riseByEnds ⟨by decide, by decide, by decide, by decide, Nat.le_of_ble_eq_true rfl⟩ dX7_isConsistent_30
    refine j1 ?_
    have r9 := rmx_rng (σ := σ) (σ 1).toNat
    refine ia_icmp_ne (pc := 33) F 47 dX7_isConsistent_33 rfl (by omega) (by omega) (fun h_17 => ?_) (fun h_17 => ?_)
    · refine ia_iconst (pc := 47) F dX7_isConsistent_47 ?_
      refine ia_zreturn (pc := 48) F M (Or.inl rfl) (by decide) (by decide) dX7_isConsistent_48 ?_
      exfalso
      omega
    · refine ia_aload_n (pc := 36) F dX7_isConsistent_36 rfl ?_
      refine jV (pc := 37) F 0 0 (z0 hZ) cls10.1 (c_X7_inkIsAccountedFor hZ p_15 (Sh_fr (Sh_fr (Sh_fr (Sh_fr (Sh_fr hS f_3 (by decide)) f_6 (by decide)) f_10 (by decide)) f_13 (by decide)) f_16 (by decide)) hI ?_) rfl ⟨k_X7_inkIsAccountedFor, il_RX7_281, im_X7_inkIsAccountedFor, is_X7_inkIsAccountedFor, ii_RX7⟩ 0 rfl hd_X7_inkIsAccountedFor ⟨by decide, by decide, by decide, by decide, Nat.le_of_ble_eq_true rfl⟩ dX7_isConsistent_37
      refine j1 ?_
      refine ia_if_eq (pc := 40) F 47 dX7_isConsistent_40 rfl (by omega) (fun h9 => absurd h9 (by omega)) (fun _ => ?_)
      refine ia_iconst (pc := 43) F dX7_isConsistent_43 ?_
      refine ia_goto (pc := 44) F 48 dX7_isConsistent_44 rfl ?_
      refine ia_zreturn (pc := 48) F M (Or.inr rfl) (by decide) (by decide) dX7_isConsistent_48 ?_
      exact q1 _ p_15 (Fr_c (Fr_c (Fr_c (Fr_c (Fr_c (Fr_0 (V := V) (S := [80, 81, 82, 83, 84, 86, 88, 89, 90])) f_3 (by decide)) f_6 (by decide)) f_10 (by decide)) f_13 (by decide)) f_16 (by decide))
