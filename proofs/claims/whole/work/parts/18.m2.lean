/-! the model, the parts of its changes (made by wip/whole/m1.py) -/
set_option maxRecDepth 100000 in
theorem c_X8_cannotPour {Z : ia_Z} {V : ia_H} {Q : ia_O → ia_Z → ia_H → Prop} {σ : Nat → Int} {μ : Nat → Int} {m : Int} (c : Int) (u : Int) (hZ : ZI Z) (hP : PI V) (hI : SI σ m) (h99 : V 99 = μ) (h100 : V 100 = σ) (rc : -2147483648 ≤ c ∧ c ≤ 2147483647) (ru : -2147483648 ≤ u ∧ u ≤ 2147483647) (q1 : (¬ ((0 ≤ c ∧ c ≤ 9) ∧ 1 ≤ u ∧ u ≤ 999)) → Q (.inl (some (0, 1))) Z V) (q2 : ((0 ≤ c ∧ c ≤ 9) ∧ 1 ≤ u ∧ u ≤ 999) → (999 < wel σ c.toNat + u) → Q (.inl (some (0, 2))) Z V) (q3 : ((0 ≤ c ∧ c ≤ 9) ∧ 1 ≤ u ∧ u ≤ 999) → (wel σ c.toNat + u ≤ 999) → Q (.inl (some (0, 0))) Z V) : ia_K yX8_cannotPour cX8_cannotPour 3 (some .int) [(4, ((99 : Nat) : Int)), (0, c), (0, u)] Z V 3 0 0 Q := by
  refine ia_start RX8 "cannotPour" ⟨by decide, rfl, rfl⟩ (Nat.le_of_ble_eq_true rfl) (ia_tg rfl) (fun X F M => ?_)
  show ia_G X 0 0 0 [(4, ((99 : Nat) : Int)), (0, c), (0, u)] [] Z V
  obtain ⟨s0, s1, s2, s3, s4, s5, s6, s7, s18, sb, sw, se, sp⟩ := id hI
  refine ia_iload_n (pc := 0) F dX8_cannotPour_0 rfl ?_
  refine jS (pc := 1) F 0 0 (c_X8_isColour c (by omega) (fun h_1 => ?_) (fun h_2 => ?_)) rfl ⟨k_X8_isColour, il_RX8_95, it_X8_isColour, ii_RX8⟩ rfl 1 rfl hd_X8_isColour ⟨by decide, by decide, by decide, by decide, Nat.le_of_ble_eq_true rfl⟩ dX8_cannotPour_1
  · refine j1 ?_
    refine ia_if_eq (pc := 4) F 18 dX8_cannotPour_4 rfl (by omega) (fun h9 => absurd h9 (by omega)) (fun _ => ?_)
    refine ia_iload_n (pc := 7) F dX8_cannotPour_7 rfl ?_
    refine ia_iconst (pc := 8) F dX8_cannotPour_8 ?_
    refine ia_sipush (pc := 9) F dX8_cannotPour_9 (by decide) ?_
    refine jS (pc := 12) F 0 0 (c_X8_in u 1 999 (by omega) (by omega) (by omega) (fun h_3 => ?_) (fun h_4 => ?_)) rfl ⟨k_X8_in, il_RX8_91, it_X8_in, ii_RX8⟩ rfl 3 rfl hd_X8_in ⟨by decide, by decide, by decide, by decide, Nat.le_of_ble_eq_true rfl⟩ dX8_cannotPour_12
    · refine j1 ?_
      refine ia_if_ne (pc := 15) F 20 dX8_cannotPour_15 rfl (by omega) (fun _ => ?_) (fun h9 => absurd h9 (by omega))
      refine ia_aload_n (pc := 20) F dX8_cannotPour_20 rfl ?_
      refine jg (pc := 21) F (z99 hZ) cls11 f11_0 (hP 99 0 100 rfl) il_RX8_7 dX8_cannotPour_21 ?_
      refine ia_bipush (pc := 24) F dX8_cannotPour_24 (by decide) ?_
      refine ia_iload_n (pc := 26) F dX8_cannotPour_26 rfl ?_
      refine ia_iadd (pc := 27) F dX8_cannotPour_27 ?_
      have r_5 := sw c.toNat (by omega)
      refine ja (pc := 28) F (v := wel σ c.toNat) (z100 hZ) (8 + c.toNat) (by omega) (by omega) (congrFun h100 (8 + c.toNat)) dX8_cannotPour_28 ?_
      refine ia_iload_n (pc := 29) F dX8_cannotPour_29 rfl ?_
      refine ia_iadd (pc := 30) F dX8_cannotPour_30 ?_
      refine ia_sipush (pc := 31) F dX8_cannotPour_31 (by decide) ?_
      refine ia_icmp_le (pc := 34) F 41 dX8_cannotPour_34 rfl (by omega) (by omega) (fun h_6 => ?_) (fun h_6 => ?_)
      · refine ia_iconst (pc := 41) F dX8_cannotPour_41 ?_
        refine ia_ireturn (pc := 42) F M (by decide) (by decide) dX8_cannotPour_42 ?_
        first | exact q3 (by omega) (by omega) | (exfalso; omega)
      · refine ia_iconst (pc := 37) F dX8_cannotPour_37 ?_
        refine ia_goto (pc := 38) F 42 dX8_cannotPour_38 rfl ?_
        refine ia_ireturn (pc := 42) F M (by decide) (by decide) dX8_cannotPour_42 ?_
        first | exact q2 (by omega) (by omega) | (exfalso; omega)
    · refine j1 ?_
      refine ia_if_ne (pc := 15) F 20 dX8_cannotPour_15 rfl (by omega) (fun h9 => absurd h9 (by omega)) (fun _ => ?_)
      refine ia_iconst (pc := 18) F dX8_cannotPour_18 ?_
      refine ia_ireturn (pc := 19) F M (by decide) (by decide) dX8_cannotPour_19 ?_
      first | exact q1 (by omega) | (exfalso; omega)
  · refine j1 ?_
    refine ia_if_eq (pc := 4) F 18 dX8_cannotPour_4 rfl (by omega) (fun _ => ?_) (fun h9 => absurd h9 (by omega))
    refine ia_iconst (pc := 18) F dX8_cannotPour_18 ?_
    refine ia_ireturn (pc := 19) F M (by decide) (by decide) dX8_cannotPour_19 ?_
    first | exact q1 (by omega) | (exfalso; omega)
set_option maxRecDepth 100000 in
theorem c_X8_pours {Z : ia_Z} {V : ia_H} {Q : ia_O → ia_Z → ia_H → Prop} {σ : Nat → Int} {μ : Nat → Int} {m : Int} (c : Int) (u : Int) (hZ : ZI Z) (hP : PI V) (hI : SI σ m) (h99 : V 99 = μ) (h100 : V 100 = σ) (hc : 0 ≤ c ∧ c ≤ 9) (q1 : ∀ (V1 : ia_H), PI V1 → (V1 100 = s_pour σ c.toNat u) → (∀ pp, pp ∉ ([100] : List Nat) → V1 pp = V pp) → Q (.inl (some (0, (wel σ c.toNat + u)))) Z V1) : ia_K yX8_pours cX8_pours 3 (some .int) [(4, ((99 : Nat) : Int)), (0, c), (0, u)] Z V 1 0 0 Q := by
  refine ia_start RX8 "pours" ⟨by decide, rfl, rfl⟩ (Nat.le_of_ble_eq_true rfl) (ia_tg rfl) (fun X F M => ?_)
  show ia_G X 0 0 0 [(4, ((99 : Nat) : Int)), (0, c), (0, u)] [] Z V
  obtain ⟨s0, s1, s2, s3, s4, s5, s6, s7, s18, sb, sw, se, sp⟩ := id hI
  refine ia_aload_n (pc := 0) F dX8_pours_0 rfl ?_
  refine jg (pc := 1) F (z99 hZ) cls11 f11_0 (hP 99 0 100 rfl) il_RX8_7 dX8_pours_1 ?_
  refine ia_bipush (pc := 4) F dX8_pours_4 (by decide) ?_
  refine ia_iload_n (pc := 6) F dX8_pours_6 rfl ?_
  refine ia_iadd (pc := 7) F dX8_pours_7 ?_
  refine ia_dup2 (pc := 8) F dX8_pours_8 (Or.inl rfl) (Or.inr (Or.inr rfl)) ?_
  have r_1 := sw c.toNat (by omega)
  refine ja (pc := 9) F (v := wel σ c.toNat) (z100 hZ) (8 + c.toNat) (by omega) (by omega) (congrFun h100 (8 + c.toNat)) dX8_pours_9 ?_
  refine ia_iload_n (pc := 10) F dX8_pours_10 rfl ?_
  refine ia_iadd (pc := 11) F dX8_pours_11 ?_
  refine js (pc := 12) F (z100 hZ) (8 + c.toNat) (by omega) (by omega) dX8_pours_12 ?_
  refine ia_aload_n (pc := 13) F dX8_pours_13 rfl ?_
  refine jg (pc := 14) F (z99 hZ) cls11 f11_0 ((PI_u hP rfl) 99 0 100 rfl) il_RX8_7 dX8_pours_14 ?_
  refine ia_bipush (pc := 17) F dX8_pours_17 (by decide) ?_
  refine ia_dup2 (pc := 19) F dX8_pours_19 (Or.inl rfl) (Or.inr (Or.inr rfl)) ?_
  refine ja (pc := 20) F (v := σ 6) (z100 hZ) 6 rfl (by omega) ((congrFun (rowU h100) 6).trans (up_ne (by omega))) dX8_pours_20 ?_
  refine ia_iload_n (pc := 21) F dX8_pours_21 rfl ?_
  refine ia_iadd (pc := 22) F dX8_pours_22 ?_
  refine js (pc := 23) F (z100 hZ) 6 rfl (by omega) dX8_pours_23 ?_
  refine ia_aload_n (pc := 24) F dX8_pours_24 rfl ?_
  refine jg (pc := 25) F (z99 hZ) cls11 f11_0 ((PI_u (PI_u hP rfl) rfl) 99 0 100 rfl) il_RX8_7 dX8_pours_25 ?_
  refine ia_bipush (pc := 28) F dX8_pours_28 (by decide) ?_
  refine ia_iload_n (pc := 30) F dX8_pours_30 rfl ?_
  refine ia_iadd (pc := 31) F dX8_pours_31 ?_
  refine ja (pc := 32) F (v := (wel σ c.toNat + u)) (z100 hZ) (8 + c.toNat) (by omega) (by omega) (((congrFun (rowU (rowU h100)) (8 + c.toNat)).trans (up_ne (by omega))).trans (up_self _ _ _)) dX8_pours_32 ?_
  refine ia_ireturn (pc := 33) F M (by decide) (by decide) dX8_pours_33 ?_
  exact q1 _ (PI_u (PI_u hP rfl) rfl) (rowU (rowU h100)) (Fr_u (Fr_u (Fr_0 (V := V) (S := [100])) (by decide)) (by decide))
set_option maxRecDepth 100000 in
theorem c_X8_cannotBuy {Z : ia_Z} {V : ia_H} {Q : ia_O → ia_Z → ia_H → Prop} {σ : Nat → Int} {μ : Nat → Int} {m : Int} (u : Int) (hZ : ZI Z) (hP : PI V) (hI : SI σ m) (h99 : V 99 = μ) (h100 : V 100 = σ) (ru : -2147483648 ≤ u ∧ u ≤ 2147483647) (q1 : (¬ (1 ≤ u ∧ u ≤ 999)) → Q (.inl (some (0, 1))) Z V) (q2 : (1 ≤ u ∧ u ≤ 999) → (9999 < σ 2 + u) → Q (.inl (some (0, 2))) Z V) (q3 : (1 ≤ u ∧ u ≤ 999) → (σ 2 + u ≤ 9999) → Q (.inl (some (0, 0))) Z V) : ia_K yX8_cannotBuy cX8_cannotBuy 2 (some .int) [(4, ((99 : Nat) : Int)), (0, u)] Z V 2 0 0 Q := by
  refine ia_start RX8 "cannotBuy" ⟨by decide, rfl, rfl⟩ (Nat.le_of_ble_eq_true rfl) (ia_tg rfl) (fun X F M => ?_)
  show ia_G X 0 0 0 [(4, ((99 : Nat) : Int)), (0, u)] [] Z V
  obtain ⟨s0, s1, s2, s3, s4, s5, s6, s7, s18, sb, sw, se, sp⟩ := id hI
  refine ia_iload_n (pc := 0) F dX8_cannotBuy_0 rfl ?_
  refine ia_iconst (pc := 1) F dX8_cannotBuy_1 ?_
  refine ia_sipush (pc := 2) F dX8_cannotBuy_2 (by decide) ?_
  refine jS (pc := 5) F 0 0 (c_X8_in u 1 999 (by omega) (by omega) (by omega) (fun h_1 => ?_) (fun h_2 => ?_)) rfl ⟨k_X8_in, il_RX8_91, it_X8_in, ii_RX8⟩ rfl 3 rfl hd_X8_in ⟨by decide, by decide, by decide, by decide, Nat.le_of_ble_eq_true rfl⟩ dX8_cannotBuy_5
  · refine j1 ?_
    refine ia_if_ne (pc := 8) F 15 dX8_cannotBuy_8 rfl (by omega) (fun _ => ?_) (fun h9 => absurd h9 (by omega))
    refine ia_aload_n (pc := 15) F dX8_cannotBuy_15 rfl ?_
    refine jg (pc := 16) F (z99 hZ) cls11 f11_0 (hP 99 0 100 rfl) il_RX8_7 dX8_cannotBuy_16 ?_
    refine ia_iconst (pc := 19) F dX8_cannotBuy_19 ?_
    refine ja (pc := 20) F (v := σ 2) (z100 hZ) 2 rfl (by omega) (congrFun h100 2) dX8_cannotBuy_20 ?_
    refine ia_iload_n (pc := 21) F dX8_cannotBuy_21 rfl ?_
    refine ia_iadd (pc := 22) F dX8_cannotBuy_22 ?_
    refine ia_sipush (pc := 23) F dX8_cannotBuy_23 (by decide) ?_
    refine ia_icmp_le (pc := 26) F 33 dX8_cannotBuy_26 rfl (by omega) (by omega) (fun h_3 => ?_) (fun h_3 => ?_)
    · refine ia_iconst (pc := 33) F dX8_cannotBuy_33 ?_
      refine ia_ireturn (pc := 34) F M (by decide) (by decide) dX8_cannotBuy_34 ?_
      first | exact q3 (by omega) (by omega) | (exfalso; omega)
    · refine ia_iconst (pc := 29) F dX8_cannotBuy_29 ?_
      refine ia_goto (pc := 30) F 34 dX8_cannotBuy_30 rfl ?_
      refine ia_ireturn (pc := 34) F M (by decide) (by decide) dX8_cannotBuy_34 ?_
      first | exact q2 (by omega) (by omega) | (exfalso; omega)
  · refine j1 ?_
    refine ia_if_ne (pc := 8) F 15 dX8_cannotBuy_8 rfl (by omega) (fun h9 => absurd h9 (by omega)) (fun _ => ?_)
    refine ia_iconst (pc := 11) F dX8_cannotBuy_11 ?_
    refine ia_goto (pc := 12) F 34 dX8_cannotBuy_12 rfl ?_
    refine ia_ireturn (pc := 34) F M (by decide) (by decide) dX8_cannotBuy_34 ?_
    first | exact q1 (by omega) | (exfalso; omega)
set_option maxRecDepth 100000 in
theorem c_X8_buys {Z : ia_Z} {V : ia_H} {Q : ia_O → ia_Z → ia_H → Prop} {σ : Nat → Int} {μ : Nat → Int} {m : Int} (u : Int) (hZ : ZI Z) (hP : PI V) (hI : SI σ m) (h99 : V 99 = μ) (h100 : V 100 = σ)  (q1 : ∀ (V1 : ia_H), PI V1 → (V1 100 = s_buy σ u) → (∀ pp, pp ∉ ([100] : List Nat) → V1 pp = V pp) → Q (.inl (some (0, (σ 2 + u)))) Z V1) : ia_K yX8_buys cX8_buys 2 (some .int) [(4, ((99 : Nat) : Int)), (0, u)] Z V 1 0 0 Q := by
  refine ia_start RX8 "buys" ⟨by decide, rfl, rfl⟩ (Nat.le_of_ble_eq_true rfl) (ia_tg rfl) (fun X F M => ?_)
  show ia_G X 0 0 0 [(4, ((99 : Nat) : Int)), (0, u)] [] Z V
  obtain ⟨s0, s1, s2, s3, s4, s5, s6, s7, s18, sb, sw, se, sp⟩ := id hI
  refine ia_aload_n (pc := 0) F dX8_buys_0 rfl ?_
  refine jg (pc := 1) F (z99 hZ) cls11 f11_0 (hP 99 0 100 rfl) il_RX8_7 dX8_buys_1 ?_
  refine ia_iconst (pc := 4) F dX8_buys_4 ?_
  refine ia_dup2 (pc := 5) F dX8_buys_5 (Or.inl rfl) (Or.inr (Or.inr rfl)) ?_
  refine ja (pc := 6) F (v := σ 2) (z100 hZ) 2 rfl (by omega) (congrFun h100 2) dX8_buys_6 ?_
  refine ia_iload_n (pc := 7) F dX8_buys_7 rfl ?_
  refine ia_iadd (pc := 8) F dX8_buys_8 ?_
  refine js (pc := 9) F (z100 hZ) 2 rfl (by omega) dX8_buys_9 ?_
  refine ia_aload_n (pc := 10) F dX8_buys_10 rfl ?_
  refine jg (pc := 11) F (z99 hZ) cls11 f11_0 ((PI_u hP rfl) 99 0 100 rfl) il_RX8_7 dX8_buys_11 ?_
  refine ia_iconst (pc := 14) F dX8_buys_14 ?_
  refine ja (pc := 15) F (v := (σ 2 + u)) (z100 hZ) 2 rfl (by omega) ((congrFun (rowU h100) 2).trans (up_self _ _ _)) dX8_buys_15 ?_
  refine ia_ireturn (pc := 16) F M (by decide) (by decide) dX8_buys_16 ?_
  exact q1 _ (PI_u hP rfl) (rowU h100) (Fr_u (Fr_0 (V := V) (S := [100])) (by decide))
set_option maxRecDepth 100000 in
theorem c_X8_passes {Z : ia_Z} {V : ia_H} {Q : ia_O → ia_Z → ia_H → Prop} {σ : Nat → Int} {μ : Nat → Int} {m : Int} (h : Int) (hZ : ZI Z) (hP : PI V) (hI : SI σ m) (h99 : V 99 = μ) (h100 : V 100 = σ) (hh : 0 ≤ h ∧ h ≤ 48) (q1 : ∀ (V1 : ia_H), PI V1 → (V1 100 = s_pass σ h.toNat) → (∀ pp, pp ∉ ([100] : List Nat) → V1 pp = V pp) → Q (.inl (some (0, (lostN σ h.toNat)))) Z V1) : ia_K yX8_passes cX8_passes 6 (some .int) [(4, ((99 : Nat) : Int)), (0, h)] Z V 1 0 0 Q := by
  refine ia_start RX8 "passes" ⟨by decide, rfl, rfl⟩ (Nat.le_of_ble_eq_true rfl) (ia_tg rfl) (fun X F M => ?_)
  show ia_G X 0 0 0 [(4, ((99 : Nat) : Int)), (0, h), (9, 0), (9, 0), (9, 0), (9, 0)] [] Z V
  obtain ⟨s0, s1, s2, s3, s4, s5, s6, s7, s18, sb, sw, se, sp⟩ := id hI
  refine ia_iconst (pc := 0) F dX8_passes_0 ?_
  refine ia_istore_n (pc := 1) F (ls' := [(4, ((99 : Nat) : Int)), (0, h), (0, 0), (9, 0), (9, 0), (9, 0)]) dX8_passes_1 (Nat.le_of_ble_eq_true rfl) rfl rfl ?_
  refine ia_iconst (pc := 2) F dX8_passes_2 ?_
  refine ia_istore_n (pc := 3) F (ls' := [(4, ((99 : Nat) : Int)), (0, h), (0, 0), (0, 0), (9, 0), (9, 0)]) dX8_passes_3 (Nat.le_of_ble_eq_true rfl) rfl rfl ?_
  have L4 : ∀ (fu : Nat) (k : Nat) (a : Int) (V2 : ia_H), (h.toNat - k < fu) → ((k : Int) ≤ h) → (a = lostN σ k) → (PI V2) → (V2 100 = fdN σ k) → (∀ pp, pp ∉ ([100] : List Nat) → V2 pp = V pp) → ia_G X 0 0 4 [(4, ((99 : Nat) : Int)), (0, h), (0, a), (0, (k : Int)), (9, 0), (9, 0)] [] Z V2 := by
    intro fu
    induction fu with
    | zero => intro k a V2 hm; exact absurd hm (Nat.not_lt_zero _)
    | succ fu ih =>
      intro k a V2 hm hk ha hP2 w2_100 hF2
      have ih4 := ih
      refine ia_iload_n (pc := 4) F dX8_passes_4 rfl ?_
      refine ia_iload_n (pc := 5) F dX8_passes_5 rfl ?_
      refine ia_icmp_ge (pc := 6) F 100 dX8_passes_6 rfl (by omega) (by omega) (fun h_1 => ?_) (fun h_1 => ?_)
      · have ek : h.toNat = k := by omega
        rw [ek] at q1
        refine ia_aload_n (pc := 100) F dX8_passes_100 rfl ?_
        refine jg (pc := 101) F (z99 hZ) cls11 f11_0 (hP2 99 0 100 rfl) il_RX8_7 dX8_passes_101 ?_
        refine ia_bipush (pc := 104) F dX8_passes_104 (by decide) ?_
        refine ia_dup2 (pc := 106) F dX8_passes_106 (Or.inl rfl) (Or.inr (Or.inr rfl)) ?_
        refine ja (pc := 107) F (v := (σ 18)) (z100 hZ) 18 rfl (by omega) ((congrFun w2_100 18).trans (fdN_o (by omega) k)) dX8_passes_107 ?_
        refine ia_iload_n (pc := 108) F dX8_passes_108 rfl ?_
        refine ia_iadd (pc := 109) F dX8_passes_109 ?_
        refine js (pc := 110) F (z100 hZ) 18 rfl (by omega) dX8_passes_110 ?_
        refine ia_iload_n (pc := 111) F dX8_passes_111 rfl ?_
        refine ia_ireturn (pc := 112) F M (by decide) (by decide) dX8_passes_112 ?_
        subst ha
        exact q1 _ (PI_u hP2 rfl) (rowU w2_100) (Fr_u hF2 (by decide))
      · have e3 := fdN_3 (σ := σ) k
        refine ia_aload_n (pc := 9) F dX8_passes_9 rfl ?_
        refine jg (pc := 10) F (z99 hZ) cls11 f11_0 (hP2 99 0 100 rfl) il_RX8_7 dX8_passes_10 ?_
        refine ia_iconst (pc := 13) F dX8_passes_13 ?_
        refine ia_dup2 (pc := 14) F dX8_passes_14 (Or.inl rfl) (Or.inr (Or.inr rfl)) ?_
        refine ja (pc := 15) F (v := fdN σ k 3) (z100 hZ) 3 rfl (by omega) ((congrFun w2_100 3).trans rfl) dX8_passes_15 ?_
        refine ia_iconst (pc := 16) F dX8_passes_16 ?_
        refine ia_iadd (pc := 17) F dX8_passes_17 ?_
        refine js (pc := 18) F (z100 hZ) 3 rfl (by omega) dX8_passes_18 ?_
        refine ia_iconst (pc := 19) F dX8_passes_19 ?_
        refine ia_istore (pc := 20) F (ls' := [(4, ((99 : Nat) : Int)), (0, h), (0, a), (0, (k : Int)), (0, 0), (9, 0)]) dX8_passes_20 (Nat.le_of_ble_eq_true rfl) rfl rfl ?_
        have L22 : ∀ (fu : Nat) (c : Nat) (b : Int) (V3 : ia_H), (10 - c < fu) → (c ≤ 10) → (b = a + lost (fdN σ k) c) → (PI V3) → (V3 100 = fdc (fdN σ k) c) → (∀ pp, pp ∉ ([100] : List Nat) → V3 pp = V pp) → ia_G X 0 0 22 [(4, ((99 : Nat) : Int)), (0, h), (0, b), (0, (k : Int)), (0, (c : Int)), (9, 0)] [] Z V3 := by
          intro fu
          induction fu with
          | zero => intro c b V3 hm; exact absurd hm (Nat.not_lt_zero _)
          | succ fu ih =>
            intro c b V3 hm hc hb hP3 w3_100 hF3
            have ih22 := ih
            refine ia_iload (pc := 22) F dX8_passes_22 rfl ?_
            refine ia_bipush (pc := 24) F dX8_passes_24 (by decide) ?_
            refine ia_icmp_ge (pc := 26) F 94 dX8_passes_26 rfl (by omega) (by omega) (fun h_2 => ?_) (fun h_2 => ?_)
            · refine ia_iinc (pc := 94) F (ls' := [(4, ((99 : Nat) : Int)), (0, h), (0, b), (0, ((k + 1 : Nat) : Int)), (0, (c : Int)), (9, 0)]) dX8_passes_94 rfl rfl rfl rfl ?_
              refine ia_goto (pc := 97) F 4 dX8_passes_97 rfl ?_
              refine jw (ls' := [(4, ((99 : Nat) : Int)), (0, h), (0, b), (0, ((k + 1 : Nat) : Int)), (9, 0), (9, 0)]) [false, false, false, false, true, false] rfl ?_
              exact ih4 (k + 1) b _ (by omega) (by omega) (by rw [lostN_s]; have e10 : c = 10 := (by omega); rw [e10] at hb; omega) hP3 (w3_100.trans (by rw [show c = 10 by omega]; rfl)) hF3
            · have e5 := Int.emod_nonneg (fdN σ k 3 + 1) (show ((c : Int) + 1) ≠ 0 by omega)
              have e6 := Int.emod_lt_of_pos (fdN σ k 3 + 1) (show 0 < ((c : Int) + 1) by omega)
              have e4 := la_rng (sw c (by omega)) k
              rw [← fdN_w (by omega)] at e4
              refine ia_aload_n (pc := 29) F dX8_passes_29 rfl ?_
              refine jg (pc := 30) F (z99 hZ) cls11 f11_0 (hP3 99 0 100 rfl) il_RX8_7 dX8_passes_30 ?_
              refine ia_iconst (pc := 33) F dX8_passes_33 ?_
              refine ja (pc := 34) F (v := (fdN σ k 3 + 1)) (z100 hZ) 3 rfl (by omega) ((congrFun w3_100 3).trans fdc_3) dX8_passes_34 ?_
              refine ia_iload (pc := 35) F dX8_passes_35 rfl ?_
              refine ia_iconst (pc := 37) F dX8_passes_37 ?_
              refine ia_iadd (pc := 38) F dX8_passes_38 ?_
              refine ia_irem (pc := 39) F dX8_passes_39 (by omega) (by omega) ?_
              refine ia_if_le (pc := 40) F 46 dX8_passes_40 rfl (by omega) (fun h_3 => ?_) (fun h_3 => ?_)
              · have e7 : (fdN σ k 3 + 1) % ((c : Int) + 1) = 0 := by omega
                refine ia_aload_n (pc := 46) F dX8_passes_46 rfl ?_
                refine jg (pc := 47) F (z99 hZ) cls11 f11_0 (hP3 99 0 100 rfl) il_RX8_7 dX8_passes_47 ?_
                refine ia_bipush (pc := 50) F dX8_passes_50 (by decide) ?_
                refine ia_iload (pc := 52) F dX8_passes_52 rfl ?_
                refine ia_iadd (pc := 54) F dX8_passes_54 ?_
                refine ja (pc := 55) F (v := wel (fdN σ k) c) (z100 hZ) (8 + c) rfl (by omega) ((congrFun w3_100 (8 + c)).trans (fdc_w (Nat.le_refl _))) dX8_passes_55 ?_
                refine ia_iconst (pc := 56) F dX8_passes_56 ?_
                refine ia_idiv (pc := 57) F dX8_passes_57 (by omega) (by omega) ?_
                refine ia_istore (pc := 58) F (ls' := [(4, ((99 : Nat) : Int)), (0, h), (0, b), (0, (k : Int)), (0, (c : Int)), (0, (wel (fdN σ k) c / 2))]) dX8_passes_58 (Nat.le_of_ble_eq_true rfl) rfl rfl ?_
                refine ia_iload_n (pc := 60) F dX8_passes_60 rfl ?_
                refine ia_aload_n (pc := 61) F dX8_passes_61 rfl ?_
                refine jg (pc := 62) F (z99 hZ) cls11 f11_0 (hP3 99 0 100 rfl) il_RX8_7 dX8_passes_62 ?_
                refine ia_bipush (pc := 65) F dX8_passes_65 (by decide) ?_
                refine ia_iload (pc := 67) F dX8_passes_67 rfl ?_
                refine ia_iadd (pc := 69) F dX8_passes_69 ?_
                refine ja (pc := 70) F (v := wel (fdN σ k) c) (z100 hZ) (8 + c) rfl (by omega) ((congrFun w3_100 (8 + c)).trans (fdc_w (Nat.le_refl _))) dX8_passes_70 ?_
                refine ia_iload (pc := 71) F dX8_passes_71 rfl ?_
                refine ia_isub (pc := 73) F dX8_passes_73 ?_
                refine ia_iadd (pc := 74) F dX8_passes_74 ?_
                refine ia_istore_n (pc := 75) F (ls' := [(4, ((99 : Nat) : Int)), (0, h), (0, (b + (wel (fdN σ k) c - (wel (fdN σ k) c / 2)))), (0, (k : Int)), (0, (c : Int)), (0, (wel (fdN σ k) c / 2))]) dX8_passes_75 (Nat.le_of_ble_eq_true rfl) rfl rfl ?_
                refine ia_aload_n (pc := 76) F dX8_passes_76 rfl ?_
                refine jg (pc := 77) F (z99 hZ) cls11 f11_0 (hP3 99 0 100 rfl) il_RX8_7 dX8_passes_77 ?_
                refine ia_bipush (pc := 80) F dX8_passes_80 (by decide) ?_
                refine ia_iload (pc := 82) F dX8_passes_82 rfl ?_
                refine ia_iadd (pc := 84) F dX8_passes_84 ?_
                refine ia_iload (pc := 85) F dX8_passes_85 rfl ?_
                refine js (pc := 87) F (z100 hZ) (8 + c) rfl (by omega) dX8_passes_87 ?_
                refine ia_iinc (pc := 88) F (ls' := [(4, ((99 : Nat) : Int)), (0, h), (0, (b + (wel (fdN σ k) c - (wel (fdN σ k) c / 2)))), (0, (k : Int)), (0, ((c + 1 : Nat) : Int)), (0, (wel (fdN σ k) c / 2))]) dX8_passes_88 rfl rfl rfl rfl ?_
                refine ia_goto (pc := 91) F 22 dX8_passes_91 rfl ?_
                refine jw (ls' := [(4, ((99 : Nat) : Int)), (0, h), (0, (b + (wel (fdN σ k) c - (wel (fdN σ k) c / 2)))), (0, (k : Int)), (0, ((c + 1 : Nat) : Int)), (9, 0)]) [false, false, false, false, false, true] rfl ?_
                exact ih22 (c + 1) _ _ (by omega) (by omega) (by rw [lost_s1 (by omega) e7]; omega) (PI_u hP3 rfl) ((rowU w3_100).trans (fdc_s1 e7)) (Fr_u hF3 (by decide))
              · have e8 : ¬ (fdN σ k 3 + 1) % ((c : Int) + 1) = 0 := by omega
                refine ia_goto (pc := 43) F 88 dX8_passes_43 rfl ?_
                refine ia_iinc (pc := 88) F (ls' := [(4, ((99 : Nat) : Int)), (0, h), (0, b), (0, (k : Int)), (0, ((c + 1 : Nat) : Int)), (9, 0)]) dX8_passes_88 rfl rfl rfl rfl ?_
                refine ia_goto (pc := 91) F 22 dX8_passes_91 rfl ?_
                exact ih22 (c + 1) _ _ (by omega) (by omega) (by rw [lost_s0 (by omega) e8]; omega) hP3 (w3_100.trans (fdc_s0 e8)) hF3
        exact L22 (10 + 1) 0 _ _ (by omega) (by omega) (by rw [lost_0]; omega) (PI_u hP2 rfl) ((rowU w2_100).trans fdc_0) (Fr_u hF2 (by decide))
  exact L4 (h.toNat + 1) 0 0 _ (by omega) (by omega) lostN_0.symm hP h100 (Fr_0 (V := V) (S := [100]))
set_option maxRecDepth 100000 in
theorem c_X8_leftAfter {Z : ia_Z} {V : ia_H} {Q : ia_O → ia_Z → ia_H → Prop} {σ : Nat → Int} {μ : Nat → Int} {m : Int} (c : Int) (h : Int) (hZ : ZI Z) (hP : PI V) (hI : SI σ m) (h99 : V 99 = μ) (h100 : V 100 = σ) (hc : 0 ≤ c ∧ c ≤ 9) (hh : 0 ≤ h ∧ h ≤ 1000) (q1 : Q (.inl (some (0, (la σ c.toNat h.toNat)))) Z V) : ia_K yX8_leftAfter cX8_leftAfter 5 (some .int) [(4, ((99 : Nat) : Int)), (0, c), (0, h)] Z V 1 0 0 Q := by
  refine ia_start RX8 "leftAfter" ⟨by decide, rfl, rfl⟩ (Nat.le_of_ble_eq_true rfl) (ia_tg rfl) (fun X F M => ?_)
  show ia_G X 0 0 0 [(4, ((99 : Nat) : Int)), (0, c), (0, h), (9, 0), (9, 0)] [] Z V
  obtain ⟨s0, s1, s2, s3, s4, s5, s6, s7, s18, sb, sw, se, sp⟩ := id hI
  refine ia_aload_n (pc := 0) F dX8_leftAfter_0 rfl ?_
  refine jg (pc := 1) F (z99 hZ) cls11 f11_0 (hP 99 0 100 rfl) il_RX8_7 dX8_leftAfter_1 ?_
  refine ia_bipush (pc := 4) F dX8_leftAfter_4 (by decide) ?_
  refine ia_iload_n (pc := 6) F dX8_leftAfter_6 rfl ?_
  refine ia_iadd (pc := 7) F dX8_leftAfter_7 ?_
  have r_1 := sw c.toNat (by omega)
  refine ja (pc := 8) F (v := wel σ c.toNat) (z100 hZ) (8 + c.toNat) (by omega) (by omega) (congrFun h100 (8 + c.toNat)) dX8_leftAfter_8 ?_
  refine ia_istore_n (pc := 9) F (ls' := [(4, ((99 : Nat) : Int)), (0, c), (0, h), (0, wel σ c.toNat), (9, 0)]) dX8_leftAfter_9 (Nat.le_of_ble_eq_true rfl) rfl rfl ?_
  refine ia_iconst (pc := 10) F dX8_leftAfter_10 ?_
  refine ia_istore (pc := 11) F (ls' := [(4, ((99 : Nat) : Int)), (0, c), (0, h), (0, wel σ c.toNat), (0, 1)]) dX8_leftAfter_11 (Nat.le_of_ble_eq_true rfl) rfl rfl ?_
  have L13 : ∀ (fu : Nat) (k : Nat) (a : Int), (h.toNat - k < fu) → ((k : Int) ≤ h) → (a = la σ c.toNat k) → ia_G X 0 0 13 [(4, ((99 : Nat) : Int)), (0, c), (0, h), (0, a), (0, ((k + 1 : Nat) : Int))] [] Z V := by
    intro fu
    induction fu with
    | zero => intro k a hm; exact absurd hm (Nat.not_lt_zero _)
    | succ fu ih =>
      intro k a hm hk ha
      have ih13 := ih
      refine ia_iload (pc := 13) F dX8_leftAfter_13 rfl ?_
      refine ia_iload_n (pc := 15) F dX8_leftAfter_15 rfl ?_
      refine ia_icmp_gt (pc := 16) F 49 dX8_leftAfter_16 rfl (by omega) (by omega) (fun h_2 => ?_) (fun h_2 => ?_)
      · refine ia_iload_n (pc := 49) F dX8_leftAfter_49 rfl ?_
        refine ia_ireturn (pc := 50) F M (by decide) (by decide) dX8_leftAfter_50 ?_
        rw [show h.toNat = k by omega, ← ha] at q1
        exact q1
      · have e4 := la_rng (sw c.toNat (by omega)) k
        rw [← ha] at e4
        have e5 := Int.emod_nonneg (σ 3 + ((k + 1 : Nat) : Int)) (show c + 1 ≠ 0 by omega)
        have e6 := Int.emod_lt_of_pos (σ 3 + ((k + 1 : Nat) : Int)) (show 0 < c + 1 by omega)
        have e7 : ((c.toNat : Nat) : Int) + 1 = c + 1 := by omega
        have e8 := la_s (σ := σ) (c := c.toNat) (k := k)
        rw [e7] at e8
        refine ia_aload_n (pc := 19) F dX8_leftAfter_19 rfl ?_
        refine jg (pc := 20) F (z99 hZ) cls11 f11_0 (hP 99 0 100 rfl) il_RX8_7 dX8_leftAfter_20 ?_
        refine ia_iconst (pc := 23) F dX8_leftAfter_23 ?_
        refine ja (pc := 24) F (v := σ 3) (z100 hZ) 3 rfl (by omega) (congrFun h100 3) dX8_leftAfter_24 ?_
        refine ia_iload (pc := 25) F dX8_leftAfter_25 rfl ?_
        refine ia_iadd (pc := 27) F dX8_leftAfter_27 ?_
        refine ia_iload_n (pc := 28) F dX8_leftAfter_28 rfl ?_
        refine ia_iconst (pc := 29) F dX8_leftAfter_29 ?_
        refine ia_iadd (pc := 30) F dX8_leftAfter_30 ?_
        refine ia_irem (pc := 31) F dX8_leftAfter_31 (by omega) (by omega) ?_
        refine ia_if_ne (pc := 32) F 41 dX8_leftAfter_32 rfl (by omega) (fun h_3 => ?_) (fun h_3 => ?_)
        · refine ia_iload_n (pc := 41) F dX8_leftAfter_41 rfl ?_
          refine ia_istore_n (pc := 42) F (ls' := [(4, ((99 : Nat) : Int)), (0, c), (0, h), (0, a), (0, ((k + 1 : Nat) : Int))]) dX8_leftAfter_42 (Nat.le_of_ble_eq_true rfl) rfl rfl ?_
          refine ia_iinc (pc := 43) F (ls' := [(4, ((99 : Nat) : Int)), (0, c), (0, h), (0, a), (0, ((k + 1 + 1 : Nat) : Int))]) dX8_leftAfter_43 rfl rfl rfl rfl ?_
          refine ia_goto (pc := 46) F 13 dX8_leftAfter_46 rfl ?_
          exact ih13 (k + 1) _ (by omega) (by omega) (by first | rw [e8, if_pos (by omega), ha] | rw [e8, if_neg (by omega), ha])
        · refine ia_iload_n (pc := 35) F dX8_leftAfter_35 rfl ?_
          refine ia_iconst (pc := 36) F dX8_leftAfter_36 ?_
          refine ia_idiv (pc := 37) F dX8_leftAfter_37 (by omega) (by omega) ?_
          refine ia_goto (pc := 38) F 42 dX8_leftAfter_38 rfl ?_
          refine ia_istore_n (pc := 42) F (ls' := [(4, ((99 : Nat) : Int)), (0, c), (0, h), (0, (a / 2)), (0, ((k + 1 : Nat) : Int))]) dX8_leftAfter_42 (Nat.le_of_ble_eq_true rfl) rfl rfl ?_
          refine ia_iinc (pc := 43) F (ls' := [(4, ((99 : Nat) : Int)), (0, c), (0, h), (0, (a / 2)), (0, ((k + 1 + 1 : Nat) : Int))]) dX8_leftAfter_43 rfl rfl rfl rfl ?_
          refine ia_goto (pc := 46) F 13 dX8_leftAfter_46 rfl ?_
          exact ih13 (k + 1) _ (by omega) (by omega) (by first | rw [e8, if_pos (by omega), ha] | rw [e8, if_neg (by omega), ha])
  exact L13 (h.toNat + 1) 0 _ (by omega) (by omega) rfl
set_option maxRecDepth 100000 in
theorem c_X8_e0 {Z : ia_Z} {V : ia_H} {Q : ia_O → ia_Z → ia_H → Prop} {σ : Nat → Int} {μ : Nat → Int} {m : Int} (e : Int) (hZ : ZI Z) (hP : PI V) (hI : SI σ m) (h99 : V 99 = μ) (h100 : V 100 = σ) (he : 0 ≤ e ∧ e < σ 0) (q1 : Q (.inl (some (0, (col σ e.toNat)))) Z V) : ia_K yX8_e cX8_e 3 (some .int) [(4, ((99 : Nat) : Int)), (0, e), (0, 0)] Z V 1 0 0 Q := by
  refine ia_start RX8 "e" ⟨by decide, rfl, rfl⟩ (Nat.le_of_ble_eq_true rfl) (ia_tg rfl) (fun X F M => ?_)
  show ia_G X 0 0 0 [(4, ((99 : Nat) : Int)), (0, e), (0, 0)] [] Z V
  obtain ⟨s0, s1, s2, s3, s4, s5, s6, s7, s18, sb, sw, se, sp⟩ := id hI
  refine ia_aload_n (pc := 0) F dX8_e_0 rfl ?_
  refine jg (pc := 1) F (z99 hZ) cls11 f11_0 (hP 99 0 100 rfl) il_RX8_7 dX8_e_1 ?_
  refine ia_bipush (pc := 4) F dX8_e_4 (by decide) ?_
  refine ia_iconst (pc := 6) F dX8_e_6 ?_
  refine ia_iload_n (pc := 7) F dX8_e_7 rfl ?_
  refine ia_imul (pc := 8) F dX8_e_8 ?_
  refine ia_iadd (pc := 9) F dX8_e_9 ?_
  refine ia_iload_n (pc := 10) F dX8_e_10 rfl ?_
  refine ia_iadd (pc := 11) F dX8_e_11 ?_
  have r_1 := se e.toNat (by omega)
  refine ja (pc := 12) F (v := col σ e.toNat) (z100 hZ) (20 + 4 * e.toNat + 0) (by omega) (by omega) (congrFun h100 (20 + 4 * e.toNat + 0)) dX8_e_12 ?_
  refine ia_ireturn (pc := 13) F M (by decide) (by decide) dX8_e_13 ?_
  exact q1 
set_option maxRecDepth 100000 in
theorem c_X8_e1 {Z : ia_Z} {V : ia_H} {Q : ia_O → ia_Z → ia_H → Prop} {σ : Nat → Int} {μ : Nat → Int} {m : Int} (e : Int) (hZ : ZI Z) (hP : PI V) (hI : SI σ m) (h99 : V 99 = μ) (h100 : V 100 = σ) (he : 0 ≤ e ∧ e < σ 0) (q1 : Q (.inl (some (0, (run σ e.toNat)))) Z V) : ia_K yX8_e cX8_e 3 (some .int) [(4, ((99 : Nat) : Int)), (0, e), (0, 1)] Z V 1 0 0 Q := by
  refine ia_start RX8 "e" ⟨by decide, rfl, rfl⟩ (Nat.le_of_ble_eq_true rfl) (ia_tg rfl) (fun X F M => ?_)
  show ia_G X 0 0 0 [(4, ((99 : Nat) : Int)), (0, e), (0, 1)] [] Z V
  obtain ⟨s0, s1, s2, s3, s4, s5, s6, s7, s18, sb, sw, se, sp⟩ := id hI
  refine ia_aload_n (pc := 0) F dX8_e_0 rfl ?_
  refine jg (pc := 1) F (z99 hZ) cls11 f11_0 (hP 99 0 100 rfl) il_RX8_7 dX8_e_1 ?_
  refine ia_bipush (pc := 4) F dX8_e_4 (by decide) ?_
  refine ia_iconst (pc := 6) F dX8_e_6 ?_
  refine ia_iload_n (pc := 7) F dX8_e_7 rfl ?_
  refine ia_imul (pc := 8) F dX8_e_8 ?_
  refine ia_iadd (pc := 9) F dX8_e_9 ?_
  refine ia_iload_n (pc := 10) F dX8_e_10 rfl ?_
  refine ia_iadd (pc := 11) F dX8_e_11 ?_
  have r_1 := se e.toNat (by omega)
  refine ja (pc := 12) F (v := run σ e.toNat) (z100 hZ) (20 + 4 * e.toNat + 1) (by omega) (by omega) (congrFun h100 (20 + 4 * e.toNat + 1)) dX8_e_12 ?_
  refine ia_ireturn (pc := 13) F M (by decide) (by decide) dX8_e_13 ?_
  exact q1 
set_option maxRecDepth 100000 in
theorem c_X8_e2 {Z : ia_Z} {V : ia_H} {Q : ia_O → ia_Z → ia_H → Prop} {σ : Nat → Int} {μ : Nat → Int} {m : Int} (e : Int) (hZ : ZI Z) (hP : PI V) (hI : SI σ m) (h99 : V 99 = μ) (h100 : V 100 = σ) (he : 0 ≤ e ∧ e < σ 0) (q1 : Q (.inl (some (0, (prt σ e.toNat)))) Z V) : ia_K yX8_e cX8_e 3 (some .int) [(4, ((99 : Nat) : Int)), (0, e), (0, 2)] Z V 1 0 0 Q := by
  refine ia_start RX8 "e" ⟨by decide, rfl, rfl⟩ (Nat.le_of_ble_eq_true rfl) (ia_tg rfl) (fun X F M => ?_)
  show ia_G X 0 0 0 [(4, ((99 : Nat) : Int)), (0, e), (0, 2)] [] Z V
  obtain ⟨s0, s1, s2, s3, s4, s5, s6, s7, s18, sb, sw, se, sp⟩ := id hI
  refine ia_aload_n (pc := 0) F dX8_e_0 rfl ?_
  refine jg (pc := 1) F (z99 hZ) cls11 f11_0 (hP 99 0 100 rfl) il_RX8_7 dX8_e_1 ?_
  refine ia_bipush (pc := 4) F dX8_e_4 (by decide) ?_
  refine ia_iconst (pc := 6) F dX8_e_6 ?_
  refine ia_iload_n (pc := 7) F dX8_e_7 rfl ?_
  refine ia_imul (pc := 8) F dX8_e_8 ?_
  refine ia_iadd (pc := 9) F dX8_e_9 ?_
  refine ia_iload_n (pc := 10) F dX8_e_10 rfl ?_
  refine ia_iadd (pc := 11) F dX8_e_11 ?_
  have r_1 := se e.toNat (by omega)
  refine ja (pc := 12) F (v := prt σ e.toNat) (z100 hZ) (20 + 4 * e.toNat + 2) (by omega) (by omega) (congrFun h100 (20 + 4 * e.toNat + 2)) dX8_e_12 ?_
  refine ia_ireturn (pc := 13) F M (by decide) (by decide) dX8_e_13 ?_
  exact q1 
set_option maxRecDepth 100000 in
theorem c_X8_isEdition {Z : ia_Z} {V : ia_H} {Q : ia_O → ia_Z → ia_H → Prop} {σ : Nat → Int} {μ : Nat → Int} {m : Int} (e : Int) (hZ : ZI Z) (hP : PI V) (hI : SI σ m) (h99 : V 99 = μ) (h100 : V 100 = σ) (re : -2147483648 ≤ e ∧ e ≤ 2147483647) (q1 : (0 ≤ e ∧ e < σ 0) → Q (.inl (some (0, 1))) Z V) (q2 : (¬ (0 ≤ e ∧ e < σ 0)) → Q (.inl (some (0, 0))) Z V) : ia_K yX8_isEdition cX8_isEdition 2 (some .boolean) [(4, ((99 : Nat) : Int)), (0, e)] Z V 2 0 0 Q := by
  refine ia_start RX8 "isEdition" ⟨by decide, rfl, rfl⟩ (Nat.le_of_ble_eq_true rfl) (ia_tg rfl) (fun X F M => ?_)
  show ia_G X 0 0 0 [(4, ((99 : Nat) : Int)), (0, e)] [] Z V
  obtain ⟨s0, s1, s2, s3, s4, s5, s6, s7, s18, sb, sw, se, sp⟩ := id hI
  refine ia_iload_n (pc := 0) F dX8_isEdition_0 rfl ?_
  refine ia_iconst (pc := 1) F dX8_isEdition_1 ?_
  refine ia_aload_n (pc := 2) F dX8_isEdition_2 rfl ?_
  refine jg (pc := 3) F (z99 hZ) cls11 f11_0 (hP 99 0 100 rfl) il_RX8_7 dX8_isEdition_3 ?_
  refine ia_iconst (pc := 6) F dX8_isEdition_6 ?_
  refine ja (pc := 7) F (v := σ 0) (z100 hZ) 0 rfl (by omega) (congrFun h100 0) dX8_isEdition_7 ?_
  refine ia_iconst (pc := 8) F dX8_isEdition_8 ?_
  refine ia_isub (pc := 9) F dX8_isEdition_9 ?_
  refine jS (pc := 10) F 0 0 (c_X8_in e 0 (σ 0 - 1) (by omega) (by omega) (by omega) (fun h_1 => ?_) (fun h_2 => ?_)) rfl ⟨k_X8_in, il_RX8_91, it_X8_in, ii_RX8⟩ rfl 3 rfl hd_X8_in ⟨by decide, by decide, by decide, by decide, Nat.le_of_ble_eq_true rfl⟩ dX8_isEdition_10
  · refine j1 ?_
    refine ia_zreturn (pc := 13) F M (Or.inr rfl) (by decide) (by decide) dX8_isEdition_13 ?_
    first | exact q1 (by omega) | (exfalso; omega)
  · refine j1 ?_
    refine ia_zreturn (pc := 13) F M (Or.inl rfl) (by decide) (by decide) dX8_isEdition_13 ?_
    first | exact q2 (by omega) | (exfalso; omega)
set_option maxRecDepth 100000 in
theorem c_X8_missing {Z : ia_Z} {V : ia_H} {Q : ia_O → ia_Z → ia_H → Prop} {σ : Nat → Int} {μ : Nat → Int} {m : Int} (e : Int) (hZ : ZI Z) (hP : PI V) (hI : SI σ m) (h99 : V 99 = μ) (h100 : V 100 = σ) (he : 0 ≤ e ∧ e < σ 0) (q1 : Q (.inl (some (0, (miss σ e.toNat)))) Z V) : ia_K yX8_missing cX8_missing 2 (some .int) [(4, ((99 : Nat) : Int)), (0, e)] Z V 2 0 0 Q := by
  refine ia_start RX8 "missing" ⟨by decide, rfl, rfl⟩ (Nat.le_of_ble_eq_true rfl) (ia_tg rfl) (fun X F M => ?_)
  show ia_G X 0 0 0 [(4, ((99 : Nat) : Int)), (0, e)] [] Z V
  obtain ⟨s0, s1, s2, s3, s4, s5, s6, s7, s18, sb, sw, se, sp⟩ := id hI
  refine ia_aload_n (pc := 0) F dX8_missing_0 rfl ?_
  refine ia_iload_n (pc := 1) F dX8_missing_1 rfl ?_
  refine ia_iconst (pc := 2) F dX8_missing_2 ?_
  refine jV (pc := 3) F 0 0 (z99 hZ) cls11.1 (c_X8_e1 e hZ hP hI h99 h100 (by omega) ?_) rfl ⟨k_X8_e, il_RX8_138, im_X8_e, is_X8_e, ii_RX8⟩ 2 rfl hd_X8_e ⟨by decide, by decide, by decide, by decide, Nat.le_of_ble_eq_true rfl⟩ dX8_missing_3
  refine j1 ?_
  refine ia_aload_n (pc := 6) F dX8_missing_6 rfl ?_
  refine ia_iload_n (pc := 7) F dX8_missing_7 rfl ?_
  refine ia_iconst (pc := 8) F dX8_missing_8 ?_
  refine jV (pc := 9) F 0 0 (z99 hZ) cls11.1 (c_X8_e2 e hZ hP hI h99 h100 (by omega) ?_) rfl ⟨k_X8_e, il_RX8_138, im_X8_e, is_X8_e, ii_RX8⟩ 2 rfl hd_X8_e ⟨by decide, by decide, by decide, by decide, Nat.le_of_ble_eq_true rfl⟩ dX8_missing_9
  refine j1 ?_
  refine ia_isub (pc := 12) F dX8_missing_12 ?_
  refine ia_ireturn (pc := 13) F M (by decide) (by decide) dX8_missing_13 ?_
  exact q1 
set_option maxRecDepth 100000 in
theorem c_X8_cannotAdd {Z : ia_Z} {V : ia_H} {Q : ia_O → ia_Z → ia_H → Prop} {σ : Nat → Int} {μ : Nat → Int} {m : Int} (c : Int) (u : Int) (hZ : ZI Z) (hP : PI V) (hI : SI σ m) (h99 : V 99 = μ) (h100 : V 100 = σ) (rc : -2147483648 ≤ c ∧ c ≤ 2147483647) (ru : -2147483648 ≤ u ∧ u ≤ 2147483647) (q1 : (¬ ((0 ≤ c ∧ c ≤ 9) ∧ 1 ≤ u ∧ u ≤ 50)) → Q (.inl (some (0, 1))) Z V) (q2 : ((0 ≤ c ∧ c ≤ 9) ∧ 1 ≤ u ∧ u ≤ 50) → (σ 0 = 7) → Q (.inl (some (0, 2))) Z V) (q3 : ((0 ≤ c ∧ c ≤ 9) ∧ 1 ≤ u ∧ u ≤ 50) → (¬ σ 0 = 7) → Q (.inl (some (0, 0))) Z V) : ia_K yX8_cannotAdd cX8_cannotAdd 3 (some .int) [(4, ((99 : Nat) : Int)), (0, c), (0, u)] Z V 3 0 0 Q := by
  refine ia_start RX8 "cannotAdd" ⟨by decide, rfl, rfl⟩ (Nat.le_of_ble_eq_true rfl) (ia_tg rfl) (fun X F M => ?_)
  show ia_G X 0 0 0 [(4, ((99 : Nat) : Int)), (0, c), (0, u)] [] Z V
  obtain ⟨s0, s1, s2, s3, s4, s5, s6, s7, s18, sb, sw, se, sp⟩ := id hI
  refine ia_iload_n (pc := 0) F dX8_cannotAdd_0 rfl ?_
  refine jS (pc := 1) F 0 0 (c_X8_isColour c (by omega) (fun h_1 => ?_) (fun h_2 => ?_)) rfl ⟨k_X8_isColour, il_RX8_95, it_X8_isColour, ii_RX8⟩ rfl 1 rfl hd_X8_isColour ⟨by decide, by decide, by decide, by decide, Nat.le_of_ble_eq_true rfl⟩ dX8_cannotAdd_1
  · refine j1 ?_
    refine ia_if_eq (pc := 4) F 17 dX8_cannotAdd_4 rfl (by omega) (fun h9 => absurd h9 (by omega)) (fun _ => ?_)
    refine ia_iload_n (pc := 7) F dX8_cannotAdd_7 rfl ?_
    refine ia_iconst (pc := 8) F dX8_cannotAdd_8 ?_
    refine ia_bipush (pc := 9) F dX8_cannotAdd_9 (by decide) ?_
    refine jS (pc := 11) F 0 0 (c_X8_in u 1 50 (by omega) (by omega) (by omega) (fun h_3 => ?_) (fun h_4 => ?_)) rfl ⟨k_X8_in, il_RX8_91, it_X8_in, ii_RX8⟩ rfl 3 rfl hd_X8_in ⟨by decide, by decide, by decide, by decide, Nat.le_of_ble_eq_true rfl⟩ dX8_cannotAdd_11
    · refine j1 ?_
      refine ia_if_ne (pc := 14) F 21 dX8_cannotAdd_14 rfl (by omega) (fun _ => ?_) (fun h9 => absurd h9 (by omega))
      refine ia_aload_n (pc := 21) F dX8_cannotAdd_21 rfl ?_
      refine jg (pc := 22) F (z99 hZ) cls11 f11_0 (hP 99 0 100 rfl) il_RX8_7 dX8_cannotAdd_22 ?_
      refine ia_iconst (pc := 25) F dX8_cannotAdd_25 ?_
      refine ja (pc := 26) F (v := σ 0) (z100 hZ) 0 rfl (by omega) (congrFun h100 0) dX8_cannotAdd_26 ?_
      refine ia_bipush (pc := 27) F dX8_cannotAdd_27 (by decide) ?_
      refine ia_icmp_ne (pc := 29) F 36 dX8_cannotAdd_29 rfl (by omega) (by omega) (fun h_5 => ?_) (fun h_5 => ?_)
      · refine ia_iconst (pc := 36) F dX8_cannotAdd_36 ?_
        refine ia_ireturn (pc := 37) F M (by decide) (by decide) dX8_cannotAdd_37 ?_
        first | exact q3 (by omega) (by omega) | (exfalso; omega)
      · refine ia_iconst (pc := 32) F dX8_cannotAdd_32 ?_
        refine ia_goto (pc := 33) F 37 dX8_cannotAdd_33 rfl ?_
        refine ia_ireturn (pc := 37) F M (by decide) (by decide) dX8_cannotAdd_37 ?_
        first | exact q2 (by omega) (by omega) | (exfalso; omega)
    · refine j1 ?_
      refine ia_if_ne (pc := 14) F 21 dX8_cannotAdd_14 rfl (by omega) (fun h9 => absurd h9 (by omega)) (fun _ => ?_)
      refine ia_iconst (pc := 17) F dX8_cannotAdd_17 ?_
      refine ia_goto (pc := 18) F 37 dX8_cannotAdd_18 rfl ?_
      refine ia_ireturn (pc := 37) F M (by decide) (by decide) dX8_cannotAdd_37 ?_
      first | exact q1 (by omega) | (exfalso; omega)
  · refine j1 ?_
    refine ia_if_eq (pc := 4) F 17 dX8_cannotAdd_4 rfl (by omega) (fun _ => ?_) (fun h9 => absurd h9 (by omega))
    refine ia_iconst (pc := 17) F dX8_cannotAdd_17 ?_
    refine ia_goto (pc := 18) F 37 dX8_cannotAdd_18 rfl ?_
    refine ia_ireturn (pc := 37) F M (by decide) (by decide) dX8_cannotAdd_37 ?_
    first | exact q1 (by omega) | (exfalso; omega)
set_option maxRecDepth 100000 in
theorem c_X8_adds {Z : ia_Z} {V : ia_H} {Q : ia_O → ia_Z → ia_H → Prop} {σ : Nat → Int} {μ : Nat → Int} {m : Int} (c : Int) (u : Int) (hZ : ZI Z) (hP : PI V) (hI : SI σ m) (h99 : V 99 = μ) (h100 : V 100 = σ) (h7 : σ 0 < 7) (q1 : ∀ (V1 : ia_H), PI V1 → (V1 100 = s_add σ c u) → (∀ pp, pp ∉ ([100] : List Nat) → V1 pp = V pp) → Q (.inl (some (0, (σ 0 + 1 - 1)))) Z V1) : ia_K yX8_adds cX8_adds 4 (some .int) [(4, ((99 : Nat) : Int)), (0, c), (0, u)] Z V 1 0 0 Q := by
  refine ia_start RX8 "adds" ⟨by decide, rfl, rfl⟩ (Nat.le_of_ble_eq_true rfl) (ia_tg rfl) (fun X F M => ?_)
  show ia_G X 0 0 0 [(4, ((99 : Nat) : Int)), (0, c), (0, u), (9, 0)] [] Z V
  obtain ⟨s0, s1, s2, s3, s4, s5, s6, s7, s18, sb, sw, se, sp⟩ := id hI
  refine ia_bipush (pc := 0) F dX8_adds_0 (by decide) ?_
  refine ia_iconst (pc := 2) F dX8_adds_2 ?_
  refine ia_aload_n (pc := 3) F dX8_adds_3 rfl ?_
  refine jg (pc := 4) F (z99 hZ) cls11 f11_0 (hP 99 0 100 rfl) il_RX8_7 dX8_adds_4 ?_
  refine ia_iconst (pc := 7) F dX8_adds_7 ?_
  refine ja (pc := 8) F (v := σ 0) (z100 hZ) 0 rfl (by omega) (congrFun h100 0) dX8_adds_8 ?_
  refine ia_imul (pc := 9) F dX8_adds_9 ?_
  refine ia_iadd (pc := 10) F dX8_adds_10 ?_
  refine ia_istore_n (pc := 11) F (ls' := [(4, ((99 : Nat) : Int)), (0, c), (0, u), (0, (20 + (4 * σ 0)))]) dX8_adds_11 (Nat.le_of_ble_eq_true rfl) rfl rfl ?_
  refine ia_aload_n (pc := 12) F dX8_adds_12 rfl ?_
  refine jg (pc := 13) F (z99 hZ) cls11 f11_0 (hP 99 0 100 rfl) il_RX8_7 dX8_adds_13 ?_
  refine ia_iload_n (pc := 16) F dX8_adds_16 rfl ?_
  refine ia_iconst (pc := 17) F dX8_adds_17 ?_
  refine ia_iadd (pc := 18) F dX8_adds_18 ?_
  refine ia_iload_n (pc := 19) F dX8_adds_19 rfl ?_
  refine js (pc := 20) F (z100 hZ) (20 + 4 * ((σ 0).toNat) + 0) (by omega) (by omega) dX8_adds_20 ?_
  refine ia_aload_n (pc := 21) F dX8_adds_21 rfl ?_
  refine jg (pc := 22) F (z99 hZ) cls11 f11_0 ((PI_u hP rfl) 99 0 100 rfl) il_RX8_7 dX8_adds_22 ?_
  refine ia_iload_n (pc := 25) F dX8_adds_25 rfl ?_
  refine ia_iconst (pc := 26) F dX8_adds_26 ?_
  refine ia_iadd (pc := 27) F dX8_adds_27 ?_
  refine ia_iload_n (pc := 28) F dX8_adds_28 rfl ?_
  refine js (pc := 29) F (z100 hZ) (20 + 4 * ((σ 0).toNat) + 1) (by omega) (by omega) dX8_adds_29 ?_
  refine ia_aload_n (pc := 30) F dX8_adds_30 rfl ?_
  refine jg (pc := 31) F (z99 hZ) cls11 f11_0 ((PI_u (PI_u hP rfl) rfl) 99 0 100 rfl) il_RX8_7 dX8_adds_31 ?_
  refine ia_iload_n (pc := 34) F dX8_adds_34 rfl ?_
  refine ia_iconst (pc := 35) F dX8_adds_35 ?_
  refine ia_iadd (pc := 36) F dX8_adds_36 ?_
  refine ia_iconst (pc := 37) F dX8_adds_37 ?_
  refine js (pc := 38) F (z100 hZ) (20 + 4 * ((σ 0).toNat) + 2) (by omega) (by omega) dX8_adds_38 ?_
  refine ia_aload_n (pc := 39) F dX8_adds_39 rfl ?_
  refine jg (pc := 40) F (z99 hZ) cls11 f11_0 ((PI_u (PI_u (PI_u hP rfl) rfl) rfl) 99 0 100 rfl) il_RX8_7 dX8_adds_40 ?_
  refine ia_iconst (pc := 43) F dX8_adds_43 ?_
  refine ia_dup2 (pc := 44) F dX8_adds_44 (Or.inl rfl) (Or.inr (Or.inr rfl)) ?_
  refine ja (pc := 45) F (v := σ 0) (z100 hZ) 0 rfl (by omega) ((((congrFun (rowU (rowU (rowU h100))) 0).trans (up_ne (by omega))).trans (up_ne (by omega))).trans (up_ne (by omega))) dX8_adds_45 ?_
  refine ia_iconst (pc := 46) F dX8_adds_46 ?_
  refine ia_iadd (pc := 47) F dX8_adds_47 ?_
  refine js (pc := 48) F (z100 hZ) 0 rfl (by omega) dX8_adds_48 ?_
  refine ia_aload_n (pc := 49) F dX8_adds_49 rfl ?_
  refine jg (pc := 50) F (z99 hZ) cls11 f11_0 ((PI_u (PI_u (PI_u (PI_u hP rfl) rfl) rfl) rfl) 99 0 100 rfl) il_RX8_7 dX8_adds_50 ?_
  refine ia_iconst (pc := 53) F dX8_adds_53 ?_
  refine ja (pc := 54) F (v := (σ 0 + 1)) (z100 hZ) 0 rfl (by omega) ((congrFun (rowU (rowU (rowU (rowU h100)))) 0).trans (up_self _ _ _)) dX8_adds_54 ?_
  refine ia_iconst (pc := 55) F dX8_adds_55 ?_
  refine ia_isub (pc := 56) F dX8_adds_56 ?_
  refine ia_ireturn (pc := 57) F M (by decide) (by decide) dX8_adds_57 ?_
  exact q1 _ (PI_u (PI_u (PI_u (PI_u hP rfl) rfl) rfl) rfl) (rowU (rowU (rowU (rowU h100)))) (Fr_u (Fr_u (Fr_u (Fr_u (Fr_0 (V := V) (S := [100])) (by decide)) (by decide)) (by decide)) (by decide))
set_option maxRecDepth 100000 in
theorem c_X8_removes {Z : ia_Z} {V : ia_H} {Q : ia_O → ia_Z → ia_H → Prop} {σ : Nat → Int} {μ : Nat → Int} {m : Int} (e : Int) (hZ : ZI Z) (hP : PI V) (hI : SI σ m) (h99 : V 99 = μ) (h100 : V 100 = σ) (he : 0 ≤ e ∧ e < σ 0) (q1 : ∀ (V1 : ia_H), PI V1 → (V1 100 = s_rem σ e.toNat) → (∀ pp, pp ∉ ([100] : List Nat) → V1 pp = V pp) → Q (.inl (some (0, (σ 0 - 1)))) Z V1) : ia_K yX8_removes cX8_removes 3 (some .int) [(4, ((99 : Nat) : Int)), (0, e)] Z V 1 0 0 Q := by
  refine ia_start RX8 "removes" ⟨by decide, rfl, rfl⟩ (Nat.le_of_ble_eq_true rfl) (ia_tg rfl) (fun X F M => ?_)
  show ia_G X 0 0 0 [(4, ((99 : Nat) : Int)), (0, e), (9, 0)] [] Z V
  obtain ⟨s0, s1, s2, s3, s4, s5, s6, s7, s18, sb, sw, se, sp⟩ := id hI
  refine ia_aload_n (pc := 0) F dX8_removes_0 rfl ?_
  refine jg (pc := 1) F (z99 hZ) cls11 f11_0 (hP 99 0 100 rfl) il_RX8_7 dX8_removes_1 ?_
  refine ia_iconst (pc := 4) F dX8_removes_4 ?_
  refine ia_dup2 (pc := 5) F dX8_removes_5 (Or.inl rfl) (Or.inr (Or.inr rfl)) ?_
  refine ja (pc := 6) F (v := σ 0) (z100 hZ) 0 rfl (by omega) (congrFun h100 0) dX8_removes_6 ?_
  refine ia_iconst (pc := 7) F dX8_removes_7 ?_
  refine ia_isub (pc := 8) F dX8_removes_8 ?_
  refine js (pc := 9) F (z100 hZ) 0 rfl (by omega) dX8_removes_9 ?_
  refine ia_bipush (pc := 10) F dX8_removes_10 (by decide) ?_
  refine ia_iconst (pc := 12) F dX8_removes_12 ?_
  refine ia_iload_n (pc := 13) F dX8_removes_13 rfl ?_
  refine ia_imul (pc := 14) F dX8_removes_14 ?_
  refine ia_iadd (pc := 15) F dX8_removes_15 ?_
  refine ia_istore_n (pc := 16) F (ls' := [(4, ((99 : Nat) : Int)), (0, e), (0, (20 + (4 * e)))]) dX8_removes_16 (Nat.le_of_ble_eq_true rfl) rfl rfl ?_
  have L17 : ∀ (fu : Nat) (i : Nat) (x : Int) (V2 : ia_H), (400 - i < fu) → (x = (i : Int)) → (20 + 4 * e.toNat ≤ i ∧ (i : Int) ≤ 20 + 4 * (σ 0 - 1)) → (PI V2) → (V2 100 = gapt (up σ 0 (σ 0 - 1)) (20 + 4 * e.toNat) i 4) → (∀ pp, pp ∉ ([100] : List Nat) → V2 pp = V pp) → ia_G X 0 0 17 [(4, ((99 : Nat) : Int)), (0, e), (0, x)] [] Z V2 := by
    intro fu
    induction fu with
    | zero => intro i x V2 hm; exact absurd hm (Nat.not_lt_zero _)
    | succ fu ih =>
      intro i x V2 hm hx hi hP2 w2_100 hF2
      have ih17 := ih
      refine ia_iload_n (pc := 17) F dX8_removes_17 rfl ?_
      refine ia_bipush (pc := 18) F dX8_removes_18 (by decide) ?_
      refine ia_iconst (pc := 20) F dX8_removes_20 ?_
      refine ia_aload_n (pc := 21) F dX8_removes_21 rfl ?_
      refine jg (pc := 22) F (z99 hZ) cls11 f11_0 (hP2 99 0 100 rfl) il_RX8_7 dX8_removes_22 ?_
      refine ia_iconst (pc := 25) F dX8_removes_25 ?_
      refine ja (pc := 26) F (v := (σ 0 - 1)) (z100 hZ) 0 rfl (by omega) ((congrFun w2_100 0).trans ((gapt_lo (by omega)).trans (up_self _ _ _))) dX8_removes_26 ?_
      refine ia_imul (pc := 27) F dX8_removes_27 ?_
      refine ia_iadd (pc := 28) F dX8_removes_28 ?_
      refine ia_icmp_ge (pc := 29) F 52 dX8_removes_29 rfl (by omega) (by omega) (fun h_1 => ?_) (fun h_1 => ?_)
      · have ei : i = 20 + 4 * (σ 0 - 1).toNat := by omega
        subst ei
        refine ia_aload_n (pc := 52) F dX8_removes_52 rfl ?_
        refine jg (pc := 53) F (z99 hZ) cls11 f11_0 (hP2 99 0 100 rfl) il_RX8_7 dX8_removes_53 ?_
        refine ia_iconst (pc := 56) F dX8_removes_56 ?_
        refine ja (pc := 57) F (v := (σ 0 - 1)) (z100 hZ) 0 rfl (by omega) ((congrFun w2_100 0).trans ((gapt_lo (by omega)).trans (up_self _ _ _))) dX8_removes_57 ?_
        refine ia_ireturn (pc := 58) F M (by decide) (by decide) dX8_removes_58 ?_
        first | exact q1 _ hP2 w2_100 hF2 | (exfalso; omega)
      · refine ia_aload_n (pc := 32) F dX8_removes_32 rfl ?_
        refine jg (pc := 33) F (z99 hZ) cls11 f11_0 (hP2 99 0 100 rfl) il_RX8_7 dX8_removes_33 ?_
        refine ia_iload_n (pc := 36) F dX8_removes_36 rfl ?_
        refine ia_aload_n (pc := 37) F dX8_removes_37 rfl ?_
        refine jg (pc := 38) F (z99 hZ) cls11 f11_0 (hP2 99 0 100 rfl) il_RX8_7 dX8_removes_38 ?_
        refine ia_iload_n (pc := 41) F dX8_removes_41 rfl ?_
        refine ia_iconst (pc := 42) F dX8_removes_42 ?_
        refine ia_iadd (pc := 43) F dX8_removes_43 ?_
        refine ja (pc := 44) F (v := (up σ 0 (σ 0 - 1)) (i + 4)) (z100 hZ) (i + 4) (by omega) (by omega) ((congrFun w2_100 (i + 4)).trans (gapt_hi (by omega))) dX8_removes_44 ?_
        refine js (pc := 45) F (z100 hZ) i hx (by omega) dX8_removes_45 ?_
        refine ia_iinc (pc := 46) F (ls' := [(4, ((99 : Nat) : Int)), (0, e), (0, (x + 1))]) dX8_removes_46 rfl rfl rfl rfl ?_
        refine ia_goto (pc := 49) F 17 dX8_removes_49 rfl ?_
        exact ih17 (i + 1) _ _ (by omega) (by omega) (by omega) (PI_u hP2 rfl) ((rowU w2_100).trans (gapt_s hi.1)) (Fr_u hF2 (by decide))
  exact L17 (400 - (20 + 4 * e.toNat) + 1) (20 + 4 * e.toNat) _ _ (by omega) (by omega) (by omega) (PI_u hP rfl) ((rowU h100).trans (gapt_0 (Nat.le_refl _)).symm) (Fr_u (Fr_0 (V := V) (S := [100])) (by decide))
set_option maxRecDepth 100000 in
theorem c_X8_change {Z : ia_Z} {V : ia_H} {Q : ia_O → ia_Z → ia_H → Prop} (a : Int) (b : Int)   (ra : 0 ≤ a ∧ a ≤ 9) (rb : 0 ≤ b ∧ b ≤ 9) (q1 : Q (.inl (some (0, (wash a b)))) Z V) : ia_K yX8_change cX8_change 2 (some .int) [(0, a), (0, b)] Z V 1 0 0 Q := by
  refine ia_start RX8 "change" ⟨by decide, rfl, rfl⟩ (Nat.le_of_ble_eq_true rfl) (ia_tg rfl) (fun X F M => ?_)
  show ia_G X 0 0 0 [(0, a), (0, b)] [] Z V
  refine ia_iload_n (pc := 0) F dX8_change_0 rfl ?_
  refine ia_iload_n (pc := 1) F dX8_change_1 rfl ?_
  refine ia_icmp_lt (pc := 2) F 11 dX8_change_2 rfl (by omega) (by omega) (fun h_1 => ?_) (fun h_1 => ?_)
  · refine ia_iconst (pc := 11) F dX8_change_11 ?_
    refine ia_iload_n (pc := 12) F dX8_change_12 rfl ?_
    refine ia_iload_n (pc := 13) F dX8_change_13 rfl ?_
    refine ia_isub (pc := 14) F dX8_change_14 ?_
    refine ia_imul (pc := 15) F dX8_change_15 ?_
    refine ia_iconst (pc := 16) F dX8_change_16 ?_
    refine ia_iadd (pc := 17) F dX8_change_17 ?_
    refine ia_ireturn (pc := 18) F M (by decide) (by decide) dX8_change_18 ?_
    rw [wash_gt (by omega)] at q1
    exact q1
  · refine ia_iload_n (pc := 5) F dX8_change_5 rfl ?_
    refine ia_iload_n (pc := 6) F dX8_change_6 rfl ?_
    refine ia_isub (pc := 7) F dX8_change_7 ?_
    refine ia_goto (pc := 8) F 18 dX8_change_8 rfl ?_
    refine ia_ireturn (pc := 18) F M (by decide) (by decide) dX8_change_18 ?_
    rw [wash_le (by omega)] at q1
    exact q1
set_option maxRecDepth 100000 in
theorem c_X8_ofWell {Z : ia_Z} {V : ia_H} {Q : ia_O → ia_Z → ia_H → Prop} {σ : Nat → Int} {μ : Nat → Int} {m : Int} (e : Int) (hZ : ZI Z) (hP : PI V) (hI : SI σ m) (h99 : V 99 = μ) (h100 : V 100 = σ) (he : 0 ≤ e ∧ e < σ 0) (q1 : Q (.inl (some (0, (wel σ (col σ e.toNat).toNat)))) Z V) : ia_K yX8_ofWell cX8_ofWell 2 (some .int) [(4, ((99 : Nat) : Int)), (0, e)] Z V 2 0 0 Q := by
  refine ia_start RX8 "ofWell" ⟨by decide, rfl, rfl⟩ (Nat.le_of_ble_eq_true rfl) (ia_tg rfl) (fun X F M => ?_)
  show ia_G X 0 0 0 [(4, ((99 : Nat) : Int)), (0, e)] [] Z V
  obtain ⟨s0, s1, s2, s3, s4, s5, s6, s7, s18, sb, sw, se, sp⟩ := id hI
  have r9 := se e.toNat (by omega)
  refine ia_aload_n (pc := 0) F dX8_ofWell_0 rfl ?_
  refine jg (pc := 1) F (z99 hZ) cls11 f11_0 (hP 99 0 100 rfl) il_RX8_7 dX8_ofWell_1 ?_
  refine ia_bipush (pc := 4) F dX8_ofWell_4 (by decide) ?_
  refine ia_aload_n (pc := 6) F dX8_ofWell_6 rfl ?_
  refine ia_iload_n (pc := 7) F dX8_ofWell_7 rfl ?_
  refine ia_iconst (pc := 8) F dX8_ofWell_8 ?_
  refine jV (pc := 9) F 0 0 (z99 hZ) cls11.1 (c_X8_e0 e hZ hP hI h99 h100 (by omega) ?_) rfl ⟨k_X8_e, il_RX8_138, im_X8_e, is_X8_e, ii_RX8⟩ 2 rfl hd_X8_e ⟨by decide, by decide, by decide, by decide, Nat.le_of_ble_eq_true rfl⟩ dX8_ofWell_9
  refine j1 ?_
  refine ia_iadd (pc := 12) F dX8_ofWell_12 ?_
  have r_1 := sw ((col σ e.toNat).toNat) (by omega)
  refine ja (pc := 13) F (v := wel σ ((col σ e.toNat).toNat)) (z100 hZ) (8 + (col σ e.toNat).toNat) (by omega) (by omega) (congrFun h100 (8 + (col σ e.toNat).toNat)) dX8_ofWell_13 ?_
  refine ia_ireturn (pc := 14) F M (by decide) (by decide) dX8_ofWell_14 ?_
  exact q1 
set_option maxRecDepth 100000 in
theorem c_X8_prints {Z : ia_Z} {V : ia_H} {Q : ia_O → ia_Z → ia_H → Prop} {σ : Nat → Int} {μ : Nat → Int} {m : Int} (e : Int) (n : Int) (hZ : ZI Z) (hP : PI V) (hI : SI σ m) (h99 : V 99 = μ) (h100 : V 100 = σ) (he : 0 ≤ e ∧ e < σ 0) (q1 : ∀ (V1 : ia_H), PI V1 → (V1 100 = s_print σ e.toNat n) → (∀ pp, pp ∉ ([100] : List Nat) → V1 pp = V pp) → Q (.inl (some (0, n))) Z V1) : ia_K yX8_prints cX8_prints 4 (some .int) [(4, ((99 : Nat) : Int)), (0, e), (0, n)] Z V 2 0 0 Q := by
  refine ia_start RX8 "prints" ⟨by decide, rfl, rfl⟩ (Nat.le_of_ble_eq_true rfl) (ia_tg rfl) (fun X F M => ?_)
  show ia_G X 0 0 0 [(4, ((99 : Nat) : Int)), (0, e), (0, n), (9, 0)] [] Z V
  obtain ⟨s0, s1, s2, s3, s4, s5, s6, s7, s18, sb, sw, se, sp⟩ := id hI
  have r9 := se e.toNat (by omega)
  refine ia_aload_n (pc := 0) F dX8_prints_0 rfl ?_
  refine ia_iload_n (pc := 1) F dX8_prints_1 rfl ?_
  refine ia_iconst (pc := 2) F dX8_prints_2 ?_
  refine jV (pc := 3) F 0 0 (z99 hZ) cls11.1 (c_X8_e0 e hZ hP hI h99 h100 (by omega) ?_) rfl ⟨k_X8_e, il_RX8_138, im_X8_e, is_X8_e, ii_RX8⟩ 2 rfl hd_X8_e ⟨by decide, by decide, by decide, by decide, Nat.le_of_ble_eq_true rfl⟩ dX8_prints_3
  refine j1 ?_
  refine ia_istore_n (pc := 6) F (ls' := [(4, ((99 : Nat) : Int)), (0, e), (0, n), (0, (col σ e.toNat))]) dX8_prints_6 (Nat.le_of_ble_eq_true rfl) rfl rfl ?_
  refine ia_aload_n (pc := 7) F dX8_prints_7 rfl ?_
  refine jg (pc := 8) F (z99 hZ) cls11 f11_0 (hP 99 0 100 rfl) il_RX8_7 dX8_prints_8 ?_
  refine ia_iconst (pc := 11) F dX8_prints_11 ?_
  refine ia_dup2 (pc := 12) F dX8_prints_12 (Or.inl rfl) (Or.inr (Or.inr rfl)) ?_
  refine ja (pc := 13) F (v := σ 5) (z100 hZ) 5 rfl (by omega) (congrFun h100 5) dX8_prints_13 ?_
  refine ia_aload_n (pc := 14) F dX8_prints_14 rfl ?_
  refine jg (pc := 15) F (z99 hZ) cls11 f11_0 (hP 99 0 100 rfl) il_RX8_7 dX8_prints_15 ?_
  refine ia_iconst (pc := 18) F dX8_prints_18 ?_
  refine ja (pc := 19) F (v := σ 4) (z100 hZ) 4 rfl (by omega) (congrFun h100 4) dX8_prints_19 ?_
  refine ia_iload_n (pc := 20) F dX8_prints_20 rfl ?_
  refine jS (pc := 21) F 0 0 (c_X8_change (σ 4) (col σ e.toNat) (by omega) (by omega) ?_) rfl ⟨k_X8_change, il_RX8_153, it_X8_change, ii_RX8⟩ rfl 2 rfl hd_X8_change ⟨by decide, by decide, by decide, by decide, Nat.le_of_ble_eq_true rfl⟩ dX8_prints_21
  refine j1 ?_
  refine ia_iload_n (pc := 24) F dX8_prints_24 rfl ?_
  refine ia_iadd (pc := 25) F dX8_prints_25 ?_
  refine ia_iadd (pc := 26) F dX8_prints_26 ?_
  refine js (pc := 27) F (z100 hZ) 5 rfl (by omega) dX8_prints_27 ?_
  refine ia_aload_n (pc := 28) F dX8_prints_28 rfl ?_
  refine jg (pc := 29) F (z99 hZ) cls11 f11_0 ((PI_u hP rfl) 99 0 100 rfl) il_RX8_7 dX8_prints_29 ?_
  refine ia_iconst (pc := 32) F dX8_prints_32 ?_
  refine ia_iload_n (pc := 33) F dX8_prints_33 rfl ?_
  refine js (pc := 34) F (z100 hZ) 4 rfl (by omega) dX8_prints_34 ?_
  refine ia_aload_n (pc := 35) F dX8_prints_35 rfl ?_
  refine jg (pc := 36) F (z99 hZ) cls11 f11_0 ((PI_u (PI_u hP rfl) rfl) 99 0 100 rfl) il_RX8_7 dX8_prints_36 ?_
  refine ia_iconst (pc := 39) F dX8_prints_39 ?_
  refine ia_dup2 (pc := 40) F dX8_prints_40 (Or.inl rfl) (Or.inr (Or.inr rfl)) ?_
  refine ja (pc := 41) F (v := σ 2) (z100 hZ) 2 rfl (by omega) (((congrFun (rowU (rowU h100)) 2).trans (up_ne (by decide))).trans (up_ne (by decide))) dX8_prints_41 ?_
  refine ia_iload_n (pc := 42) F dX8_prints_42 rfl ?_
  refine ia_isub (pc := 43) F dX8_prints_43 ?_
  refine js (pc := 44) F (z100 hZ) 2 rfl (by omega) dX8_prints_44 ?_
  refine ia_aload_n (pc := 45) F dX8_prints_45 rfl ?_
  refine jg (pc := 46) F (z99 hZ) cls11 f11_0 ((PI_u (PI_u (PI_u hP rfl) rfl) rfl) 99 0 100 rfl) il_RX8_7 dX8_prints_46 ?_
  refine ia_bipush (pc := 49) F dX8_prints_49 (by decide) ?_
  refine ia_iload_n (pc := 51) F dX8_prints_51 rfl ?_
  refine ia_iadd (pc := 52) F dX8_prints_52 ?_
  refine ia_dup2 (pc := 53) F dX8_prints_53 (Or.inl rfl) (Or.inr (Or.inr rfl)) ?_
  have r_1 := sw ((col σ e.toNat).toNat) (by omega)
  refine ja (pc := 54) F (v := wel σ ((col σ e.toNat).toNat)) (z100 hZ) (8 + (col σ e.toNat).toNat) (by omega) (by omega) ((((congrFun (rowU (rowU (rowU h100))) (8 + (col σ e.toNat).toNat)).trans (up_ne (by omega))).trans (up_ne (by omega))).trans (up_ne (by omega))) dX8_prints_54 ?_
  refine ia_iload_n (pc := 55) F dX8_prints_55 rfl ?_
  refine ia_isub (pc := 56) F dX8_prints_56 ?_
  refine js (pc := 57) F (z100 hZ) (8 + (col σ e.toNat).toNat) (by omega) (by omega) dX8_prints_57 ?_
  refine ia_aload_n (pc := 58) F dX8_prints_58 rfl ?_
  refine jg (pc := 59) F (z99 hZ) cls11 f11_0 ((PI_u (PI_u (PI_u (PI_u hP rfl) rfl) rfl) rfl) 99 0 100 rfl) il_RX8_7 dX8_prints_59 ?_
  refine ia_bipush (pc := 62) F dX8_prints_62 (by decide) ?_
  refine ia_dup2 (pc := 64) F dX8_prints_64 (Or.inl rfl) (Or.inr (Or.inr rfl)) ?_
  refine ja (pc := 65) F (v := σ 7) (z100 hZ) 7 rfl (by omega) (((((congrFun (rowU (rowU (rowU (rowU h100)))) 7).trans (up_ne (by omega))).trans (up_ne (by decide))).trans (up_ne (by decide))).trans (up_ne (by decide))) dX8_prints_65 ?_
  refine ia_iload_n (pc := 66) F dX8_prints_66 rfl ?_
  refine ia_iadd (pc := 67) F dX8_prints_67 ?_
  refine js (pc := 68) F (z100 hZ) 7 rfl (by omega) dX8_prints_68 ?_
  refine ia_aload_n (pc := 69) F dX8_prints_69 rfl ?_
  refine jg (pc := 70) F (z99 hZ) cls11 f11_0 ((PI_u (PI_u (PI_u (PI_u (PI_u hP rfl) rfl) rfl) rfl) rfl) 99 0 100 rfl) il_RX8_7 dX8_prints_70 ?_
  refine ia_bipush (pc := 73) F dX8_prints_73 (by decide) ?_
  refine ia_iconst (pc := 75) F dX8_prints_75 ?_
  refine ia_iload_n (pc := 76) F dX8_prints_76 rfl ?_
  refine ia_imul (pc := 77) F dX8_prints_77 ?_
  refine ia_iadd (pc := 78) F dX8_prints_78 ?_
  refine ia_iconst (pc := 79) F dX8_prints_79 ?_
  refine ia_iadd (pc := 80) F dX8_prints_80 ?_
  refine ia_dup2 (pc := 81) F dX8_prints_81 (Or.inl rfl) (Or.inr (Or.inr rfl)) ?_
  have r_2 := se e.toNat (by omega)
  refine ja (pc := 82) F (v := prt σ e.toNat) (z100 hZ) (20 + 4 * e.toNat + 2) (by omega) (by omega) ((((((congrFun (rowU (rowU (rowU (rowU (rowU h100))))) (20 + 4 * e.toNat + 2)).trans (up_ne (by omega))).trans (up_ne (by omega))).trans (up_ne (by omega))).trans (up_ne (by omega))).trans (up_ne (by omega))) dX8_prints_82 ?_
  refine ia_iload_n (pc := 83) F dX8_prints_83 rfl ?_
  refine ia_iadd (pc := 84) F dX8_prints_84 ?_
  refine js (pc := 85) F (z100 hZ) (20 + 4 * e.toNat + 2) (by omega) (by omega) dX8_prints_85 ?_
  refine ia_iload_n (pc := 86) F dX8_prints_86 rfl ?_
  refine ia_ireturn (pc := 87) F M (by decide) (by decide) dX8_prints_87 ?_
  exact q1 _ (PI_u (PI_u (PI_u (PI_u (PI_u (PI_u hP rfl) rfl) rfl) rfl) rfl) rfl) (rowU (rowU (rowU (rowU (rowU (rowU h100)))))) (Fr_u (Fr_u (Fr_u (Fr_u (Fr_u (Fr_u (Fr_0 (V := V) (S := [100])) (by decide)) (by decide)) (by decide)) (by decide)) (by decide)) (by decide))
set_option maxRecDepth 100000 in
theorem c_X8_cannotPrint {Z : ia_Z} {V : ia_H} {Q : ia_O → ia_Z → ia_H → Prop} {σ : Nat → Int} {μ : Nat → Int} {m : Int} (e : Int) (hZ : ZI Z) (hP : PI V) (hI : SI σ m) (h99 : V 99 = μ) (h100 : V 100 = σ) (re : -2147483648 ≤ e ∧ e ≤ 2147483647) (q1 : (¬ (0 ≤ e ∧ e < σ 0)) → Q (.inl (some (0, 1))) Z V) (q2 : (0 ≤ e ∧ e < σ 0) → (miss σ e.toNat = 0) → Q (.inl (some (0, 2))) Z V) (q3 : (0 ≤ e ∧ e < σ 0) → (¬ miss σ e.toNat = 0) → (σ 2 = 0 ∨ wel σ (col σ e.toNat).toNat = 0) → Q (.inl (some (0, 3))) Z V) (q4 : (0 ≤ e ∧ e < σ 0) → (¬ miss σ e.toNat = 0) → (¬ (σ 2 = 0 ∨ wel σ (col σ e.toNat).toNat = 0)) → Q (.inl (some (0, 0))) Z V) : ia_K yX8_cannotPrint cX8_cannotPrint 2 (some .int) [(4, ((99 : Nat) : Int)), (0, e)] Z V 3 0 0 Q := by
  refine ia_start RX8 "cannotPrint" ⟨by decide, rfl, rfl⟩ (Nat.le_of_ble_eq_true rfl) (ia_tg rfl) (fun X F M => ?_)
  show ia_G X 0 0 0 [(4, ((99 : Nat) : Int)), (0, e)] [] Z V
  obtain ⟨s0, s1, s2, s3, s4, s5, s6, s7, s18, sb, sw, se, sp⟩ := id hI
  refine ia_aload_n (pc := 0) F dX8_cannotPrint_0 rfl ?_
  refine ia_iload_n (pc := 1) F dX8_cannotPrint_1 rfl ?_
  refine jV (pc := 2) F 0 0 (z99 hZ) cls11.1 (c_X8_isEdition e hZ hP hI h99 h100 (by omega) (fun h_1 => ?_) (fun h_2 => ?_)) rfl ⟨k_X8_isEdition, il_RX8_147, im_X8_isEdition, is_X8_isEdition, ii_RX8⟩ 1 rfl hd_X8_isEdition ⟨by decide, by decide, by decide, by decide, Nat.le_of_ble_eq_true rfl⟩ dX8_cannotPrint_2
  · refine j1 ?_
    refine ia_if_ne (pc := 5) F 10 dX8_cannotPrint_5 rfl (by omega) (fun _ => ?_) (fun h9 => absurd h9 (by omega))
    have r9 := se e.toNat (by omega)
    have r8 := sw (col σ e.toNat).toNat (by omega)
    have r7 : miss σ e.toNat = run σ e.toNat - prt σ e.toNat := rfl
    refine ia_aload_n (pc := 10) F dX8_cannotPrint_10 rfl ?_
    refine ia_iload_n (pc := 11) F dX8_cannotPrint_11 rfl ?_
    refine jV (pc := 12) F 0 0 (z99 hZ) cls11.1 (c_X8_missing e hZ hP hI h99 h100 (by omega) ?_) rfl ⟨k_X8_missing, il_RX8_156, im_X8_missing, is_X8_missing, ii_RX8⟩ 1 rfl hd_X8_missing ⟨by decide, by decide, by decide, by decide, Nat.le_of_ble_eq_true rfl⟩ dX8_cannotPrint_12
    refine j1 ?_
    refine ia_if_ne (pc := 15) F 22 dX8_cannotPrint_15 rfl (by omega) (fun h_3 => ?_) (fun h_3 => ?_)
    · refine ia_aload_n (pc := 22) F dX8_cannotPrint_22 rfl ?_
      refine jg (pc := 23) F (z99 hZ) cls11 f11_0 (hP 99 0 100 rfl) il_RX8_7 dX8_cannotPrint_23 ?_
      refine ia_iconst (pc := 26) F dX8_cannotPrint_26 ?_
      refine ja (pc := 27) F (v := σ 2) (z100 hZ) 2 rfl (by omega) (congrFun h100 2) dX8_cannotPrint_27 ?_
      refine ia_if_eq (pc := 28) F 39 dX8_cannotPrint_28 rfl (by omega) (fun h_4 => ?_) (fun h_4 => ?_)
      · refine ia_iconst (pc := 39) F dX8_cannotPrint_39 ?_
        refine ia_goto (pc := 40) F 44 dX8_cannotPrint_40 rfl ?_
        refine ia_ireturn (pc := 44) F M (by decide) (by decide) dX8_cannotPrint_44 ?_
        first | exact q3 (by omega) (by omega) (by omega) | (exfalso; omega)
      · refine ia_aload_n (pc := 31) F dX8_cannotPrint_31 rfl ?_
        refine ia_iload_n (pc := 32) F dX8_cannotPrint_32 rfl ?_
        refine jV (pc := 33) F 0 0 (z99 hZ) cls11.1 (c_X8_ofWell e hZ hP hI h99 h100 (by omega) ?_) rfl ⟨k_X8_ofWell, il_RX8_159, im_X8_ofWell, is_X8_ofWell, ii_RX8⟩ 1 rfl hd_X8_ofWell ⟨by decide, by decide, by decide, by decide, Nat.le_of_ble_eq_true rfl⟩ dX8_cannotPrint_33
        refine j1 ?_
        refine ia_if_ne (pc := 36) F 43 dX8_cannotPrint_36 rfl (by omega) (fun h_5 => ?_) (fun h_5 => ?_)
        · refine ia_iconst (pc := 43) F dX8_cannotPrint_43 ?_
          refine ia_ireturn (pc := 44) F M (by decide) (by decide) dX8_cannotPrint_44 ?_
          first | exact q4 (by omega) (by omega) (by omega) | (exfalso; omega)
        · refine ia_iconst (pc := 39) F dX8_cannotPrint_39 ?_
          refine ia_goto (pc := 40) F 44 dX8_cannotPrint_40 rfl ?_
          refine ia_ireturn (pc := 44) F M (by decide) (by decide) dX8_cannotPrint_44 ?_
          first | exact q3 (by omega) (by omega) (by omega) | (exfalso; omega)
    · refine ia_iconst (pc := 18) F dX8_cannotPrint_18 ?_
      refine ia_goto (pc := 19) F 44 dX8_cannotPrint_19 rfl ?_
      refine ia_ireturn (pc := 44) F M (by decide) (by decide) dX8_cannotPrint_44 ?_
      first | exact q2 (by omega) (by omega) | (exfalso; omega)
  · refine j1 ?_
    refine ia_if_ne (pc := 5) F 10 dX8_cannotPrint_5 rfl (by omega) (fun h9 => absurd h9 (by omega)) (fun _ => ?_)
    refine ia_iconst (pc := 8) F dX8_cannotPrint_8 ?_
    refine ia_ireturn (pc := 9) F M (by decide) (by decide) dX8_cannotPrint_9 ?_
    first | exact q1 (by omega) | (exfalso; omega)
set_option maxRecDepth 100000 in
theorem c_X8_printsOne {Z : ia_Z} {V : ia_H} {Q : ia_O → ia_Z → ia_H → Prop} {σ : Nat → Int} {μ : Nat → Int} {m : Int} (e : Int) (hZ : ZI Z) (hP : PI V) (hI : SI σ m) (h99 : V 99 = μ) (h100 : V 100 = σ) (he : 0 ≤ e ∧ e < σ 0) (q1 : ∀ (n : Int) (V1 : ia_H), (n = min (miss σ e.toNat) (min (σ 2) (wel σ (col σ e.toNat).toNat))) → PI V1 → (V1 100 = s_print σ e.toNat n) → (∀ pp, pp ∉ ([100] : List Nat) → V1 pp = V pp) → Q (.inl (some (0, n))) Z V1) : ia_K yX8_printsOne cX8_printsOne 2 (some .int) [(4, ((99 : Nat) : Int)), (0, e)] Z V 3 0 0 Q := by
  refine ia_start RX8 "printsOne" ⟨by decide, rfl, rfl⟩ (Nat.le_of_ble_eq_true rfl) (ia_tg rfl) (fun X F M => ?_)
  show ia_G X 0 0 0 [(4, ((99 : Nat) : Int)), (0, e)] [] Z V
  obtain ⟨s0, s1, s2, s3, s4, s5, s6, s7, s18, sb, sw, se, sp⟩ := id hI
  have r9 := se e.toNat (by omega)
  have r8 := sw (col σ e.toNat).toNat (by omega)
  have r7 : miss σ e.toNat = run σ e.toNat - prt σ e.toNat := rfl
  refine ia_aload_n (pc := 0) F dX8_printsOne_0 rfl ?_
  refine ia_iload_n (pc := 1) F dX8_printsOne_1 rfl ?_
  refine ia_aload_n (pc := 2) F dX8_printsOne_2 rfl ?_
  refine ia_iload_n (pc := 3) F dX8_printsOne_3 rfl ?_
  refine jV (pc := 4) F 0 0 (z99 hZ) cls11.1 (c_X8_missing e hZ hP hI h99 h100 (by omega) ?_) rfl ⟨k_X8_missing, il_RX8_156, im_X8_missing, is_X8_missing, ii_RX8⟩ 1 rfl hd_X8_missing ⟨by decide, by decide, by decide, by decide, Nat.le_of_ble_eq_true rfl⟩ dX8_printsOne_4
  refine j1 ?_
  refine ia_aload_n (pc := 7) F dX8_printsOne_7 rfl ?_
  refine jg (pc := 8) F (z99 hZ) cls11 f11_0 (hP 99 0 100 rfl) il_RX8_7 dX8_printsOne_8 ?_
  refine ia_iconst (pc := 11) F dX8_printsOne_11 ?_
  refine ja (pc := 12) F (v := σ 2) (z100 hZ) 2 rfl (by omega) (congrFun h100 2) dX8_printsOne_12 ?_
  refine ia_aload_n (pc := 13) F dX8_printsOne_13 rfl ?_
  refine ia_iload_n (pc := 14) F dX8_printsOne_14 rfl ?_
  refine jV (pc := 15) F 0 0 (z99 hZ) cls11.1 (c_X8_ofWell e hZ hP hI h99 h100 (by omega) ?_) rfl ⟨k_X8_ofWell, il_RX8_159, im_X8_ofWell, is_X8_ofWell, ii_RX8⟩ 1 rfl hd_X8_ofWell ⟨by decide, by decide, by decide, by decide, Nat.le_of_ble_eq_true rfl⟩ dX8_printsOne_15
  refine j1 ?_
  refine jS (pc := 18) F 0 0 (c_X8_less (σ 2) (wel σ (col σ e.toNat).toNat) (by omega) (by omega) (fun h_1 => ?_) (fun h_2 => ?_)) rfl ⟨k_X8_less, il_RX8_162, it_X8_less, ii_RX8⟩ rfl 2 rfl hd_X8_less ⟨by decide, by decide, by decide, by decide, Nat.le_of_ble_eq_true rfl⟩ dX8_printsOne_18
  · refine j1 ?_
    refine jS (pc := 21) F 0 0 (c_X8_less (miss σ e.toNat) (σ 2) (by omega) (by omega) (fun h_3 => ?_) (fun h_4 => ?_)) rfl ⟨k_X8_less, il_RX8_162, it_X8_less, ii_RX8⟩ rfl 2 rfl hd_X8_less ⟨by decide, by decide, by decide, by decide, Nat.le_of_ble_eq_true rfl⟩ dX8_printsOne_21
    · refine j1 ?_
      refine jV (pc := 24) F 0 0 (z99 hZ) cls11.1 (c_X8_prints e (miss σ e.toNat) hZ hP hI h99 h100 (by omega) (fun V_5 p_6 w_7 f_8 => ?_)) rfl ⟨k_X8_prints, il_RX8_165, im_X8_prints, is_X8_prints, ii_RX8⟩ 2 rfl hd_X8_prints ⟨by decide, by decide, by decide, by decide, Nat.le_of_ble_eq_true rfl⟩ dX8_printsOne_24
      refine j1 ?_
      refine ia_ireturn (pc := 27) F M (by decide) (by decide) dX8_printsOne_27 ?_
      exact q1 _ _ (by omega) p_6 w_7 (Fr_c (Fr_0 (V := V) (S := [100])) f_8 (by decide))
    · refine j1 ?_
      refine jV (pc := 24) F 0 0 (z99 hZ) cls11.1 (c_X8_prints e (σ 2) hZ hP hI h99 h100 (by omega) (fun V_9 p_10 w_11 f_12 => ?_)) rfl ⟨k_X8_prints, il_RX8_165, im_X8_prints, is_X8_prints, ii_RX8⟩ 2 rfl hd_X8_prints ⟨by decide, by decide, by decide, by decide, Nat.le_of_ble_eq_true rfl⟩ dX8_printsOne_24
      refine j1 ?_
      refine ia_ireturn (pc := 27) F M (by decide) (by decide) dX8_printsOne_27 ?_
      exact q1 _ _ (by omega) p_10 w_11 (Fr_c (Fr_0 (V := V) (S := [100])) f_12 (by decide))
  · refine j1 ?_
    refine jS (pc := 21) F 0 0 (c_X8_less (miss σ e.toNat) (wel σ (col σ e.toNat).toNat) (by omega) (by omega) (fun h_13 => ?_) (fun h_14 => ?_)) rfl ⟨k_X8_less, il_RX8_162, it_X8_less, ii_RX8⟩ rfl 2 rfl hd_X8_less ⟨by decide, by decide, by decide, by decide, Nat.le_of_ble_eq_true rfl⟩ dX8_printsOne_21
    · refine j1 ?_
      refine jV (pc := 24) F 0 0 (z99 hZ) cls11.1 (c_X8_prints e (miss σ e.toNat) hZ hP hI h99 h100 (by omega) (fun V_15 p_16 w_17 f_18 => ?_)) rfl ⟨k_X8_prints, il_RX8_165, im_X8_prints, is_X8_prints, ii_RX8⟩ 2 rfl hd_X8_prints ⟨by decide, by decide, by decide, by decide, Nat.le_of_ble_eq_true rfl⟩ dX8_printsOne_24
      refine j1 ?_
      refine ia_ireturn (pc := 27) F M (by decide) (by decide) dX8_printsOne_27 ?_
      exact q1 _ _ (by omega) p_16 w_17 (Fr_c (Fr_0 (V := V) (S := [100])) f_18 (by decide))
    · refine j1 ?_
      refine jV (pc := 24) F 0 0 (z99 hZ) cls11.1 (c_X8_prints e (wel σ (col σ e.toNat).toNat) hZ hP hI h99 h100 (by omega) (fun V_19 p_20 w_21 f_22 => ?_)) rfl ⟨k_X8_prints, il_RX8_165, im_X8_prints, is_X8_prints, ii_RX8⟩ 2 rfl hd_X8_prints ⟨by decide, by decide, by decide, by decide, Nat.le_of_ble_eq_true rfl⟩ dX8_printsOne_24
      refine j1 ?_
      refine ia_ireturn (pc := 27) F M (by decide) (by decide) dX8_printsOne_27 ?_
      exact q1 _ _ (by omega) p_20 w_21 (Fr_c (Fr_0 (V := V) (S := [100])) f_22 (by decide))
set_option maxRecDepth 100000 in
theorem c_X8_p0 {Z : ia_Z} {V : ia_H} {Q : ia_O → ia_Z → ia_H → Prop} {σ : Nat → Int} {μ : Nat → Int} {m : Int} (p : Int) (hZ : ZI Z) (hP : PI V) (hI : SI σ m) (h99 : V 99 = μ) (h100 : V 100 = σ) (hp9 : 0 ≤ p ∧ p < σ 1) (q1 : Q (.inl (some (0, (mrk σ p.toNat)))) Z V) : ia_K yX8_p cX8_p 3 (some .int) [(4, ((99 : Nat) : Int)), (0, p), (0, 0)] Z V 1 0 0 Q := by
  refine ia_start RX8 "p" ⟨by decide, rfl, rfl⟩ (Nat.le_of_ble_eq_true rfl) (ia_tg rfl) (fun X F M => ?_)
  show ia_G X 0 0 0 [(4, ((99 : Nat) : Int)), (0, p), (0, 0)] [] Z V
  obtain ⟨s0, s1, s2, s3, s4, s5, s6, s7, s18, sb, sw, se, sp⟩ := id hI
  refine ia_aload_n (pc := 0) F dX8_p_0 rfl ?_
  refine jg (pc := 1) F (z99 hZ) cls11 f11_0 (hP 99 0 100 rfl) il_RX8_7 dX8_p_1 ?_
  refine ia_bipush (pc := 4) F dX8_p_4 (by decide) ?_
  refine ia_iconst (pc := 6) F dX8_p_6 ?_
  refine ia_iload_n (pc := 7) F dX8_p_7 rfl ?_
  refine ia_imul (pc := 8) F dX8_p_8 ?_
  refine ia_iadd (pc := 9) F dX8_p_9 ?_
  refine ia_iload_n (pc := 10) F dX8_p_10 rfl ?_
  refine ia_iadd (pc := 11) F dX8_p_11 ?_
  have r_1 := sp p.toNat (by omega)
  refine ja (pc := 12) F (v := mrk σ p.toNat) (z100 hZ) (48 + 2 * p.toNat + 0) (by omega) (by omega) (congrFun h100 (48 + 2 * p.toNat + 0)) dX8_p_12 ?_
  refine ia_ireturn (pc := 13) F M (by decide) (by decide) dX8_p_13 ?_
  exact q1 
set_option maxRecDepth 100000 in
theorem c_X8_p1 {Z : ia_Z} {V : ia_H} {Q : ia_O → ia_Z → ia_H → Prop} {σ : Nat → Int} {μ : Nat → Int} {m : Int} (p : Int) (hZ : ZI Z) (hP : PI V) (hI : SI σ m) (h99 : V 99 = μ) (h100 : V 100 = σ) (hp9 : 0 ≤ p ∧ p < σ 1) (q1 : Q (.inl (some (0, (mad σ p.toNat)))) Z V) : ia_K yX8_p cX8_p 3 (some .int) [(4, ((99 : Nat) : Int)), (0, p), (0, 1)] Z V 1 0 0 Q := by
  refine ia_start RX8 "p" ⟨by decide, rfl, rfl⟩ (Nat.le_of_ble_eq_true rfl) (ia_tg rfl) (fun X F M => ?_)
  show ia_G X 0 0 0 [(4, ((99 : Nat) : Int)), (0, p), (0, 1)] [] Z V
  obtain ⟨s0, s1, s2, s3, s4, s5, s6, s7, s18, sb, sw, se, sp⟩ := id hI
  refine ia_aload_n (pc := 0) F dX8_p_0 rfl ?_
  refine jg (pc := 1) F (z99 hZ) cls11 f11_0 (hP 99 0 100 rfl) il_RX8_7 dX8_p_1 ?_
  refine ia_bipush (pc := 4) F dX8_p_4 (by decide) ?_
  refine ia_iconst (pc := 6) F dX8_p_6 ?_
  refine ia_iload_n (pc := 7) F dX8_p_7 rfl ?_
  refine ia_imul (pc := 8) F dX8_p_8 ?_
  refine ia_iadd (pc := 9) F dX8_p_9 ?_
  refine ia_iload_n (pc := 10) F dX8_p_10 rfl ?_
  refine ia_iadd (pc := 11) F dX8_p_11 ?_
  have r_1 := sp p.toNat (by omega)
  refine ja (pc := 12) F (v := mad σ p.toNat) (z100 hZ) (48 + 2 * p.toNat + 1) (by omega) (by omega) (congrFun h100 (48 + 2 * p.toNat + 1)) dX8_p_12 ?_
  refine ia_ireturn (pc := 13) F M (by decide) (by decide) dX8_p_13 ?_
  exact q1 
set_option maxRecDepth 100000 in
theorem c_X8_isProof {Z : ia_Z} {V : ia_H} {Q : ia_O → ia_Z → ia_H → Prop} {σ : Nat → Int} {μ : Nat → Int} {m : Int} (p : Int) (hZ : ZI Z) (hP : PI V) (hI : SI σ m) (h99 : V 99 = μ) (h100 : V 100 = σ) (rp : -2147483648 ≤ p ∧ p ≤ 2147483647) (q1 : (0 ≤ p ∧ p < σ 1) → Q (.inl (some (0, 1))) Z V) (q2 : (¬ (0 ≤ p ∧ p < σ 1)) → Q (.inl (some (0, 0))) Z V) : ia_K yX8_isProof cX8_isProof 2 (some .boolean) [(4, ((99 : Nat) : Int)), (0, p)] Z V 2 0 0 Q := by
  refine ia_start RX8 "isProof" ⟨by decide, rfl, rfl⟩ (Nat.le_of_ble_eq_true rfl) (ia_tg rfl) (fun X F M => ?_)
  show ia_G X 0 0 0 [(4, ((99 : Nat) : Int)), (0, p)] [] Z V
  obtain ⟨s0, s1, s2, s3, s4, s5, s6, s7, s18, sb, sw, se, sp⟩ := id hI
  refine ia_iload_n (pc := 0) F dX8_isProof_0 rfl ?_
  refine ia_iconst (pc := 1) F dX8_isProof_1 ?_
  refine ia_aload_n (pc := 2) F dX8_isProof_2 rfl ?_
  refine jg (pc := 3) F (z99 hZ) cls11 f11_0 (hP 99 0 100 rfl) il_RX8_7 dX8_isProof_3 ?_
  refine ia_iconst (pc := 6) F dX8_isProof_6 ?_
  refine ja (pc := 7) F (v := σ 1) (z100 hZ) 1 rfl (by omega) (congrFun h100 1) dX8_isProof_7 ?_
  refine ia_iconst (pc := 8) F dX8_isProof_8 ?_
  refine ia_isub (pc := 9) F dX8_isProof_9 ?_
  refine jS (pc := 10) F 0 0 (c_X8_in p 0 (σ 1 - 1) (by omega) (by omega) (by omega) (fun h_1 => ?_) (fun h_2 => ?_)) rfl ⟨k_X8_in, il_RX8_91, it_X8_in, ii_RX8⟩ rfl 3 rfl hd_X8_in ⟨by decide, by decide, by decide, by decide, Nat.le_of_ble_eq_true rfl⟩ dX8_isProof_10
  · refine j1 ?_
    refine ia_zreturn (pc := 13) F M (Or.inr rfl) (by decide) (by decide) dX8_isProof_13 ?_
    first | exact q1 (by omega) | (exfalso; omega)
  · refine j1 ?_
    refine ia_zreturn (pc := 13) F M (Or.inl rfl) (by decide) (by decide) dX8_isProof_13 ?_
    first | exact q2 (by omega) | (exfalso; omega)
set_option maxRecDepth 100000 in
theorem c_X8_cannotProve {Z : ia_Z} {V : ia_H} {Q : ia_O → ia_Z → ia_H → Prop} {σ : Nat → Int} {μ : Nat → Int} {m : Int} (u : Int) (hZ : ZI Z) (hP : PI V) (hI : SI σ m) (h99 : V 99 = μ) (h100 : V 100 = σ) (ru : -2147483648 ≤ u ∧ u ≤ 2147483647) (q1 : (¬ (0 ≤ u ∧ u ≤ 99)) → Q (.inl (some (0, 1))) Z V) (q2 : (0 ≤ u ∧ u ≤ 99) → (σ 1 = 12) → Q (.inl (some (0, 2))) Z V) (q3 : (0 ≤ u ∧ u ≤ 99) → (¬ σ 1 = 12) → Q (.inl (some (0, 0))) Z V) : ia_K yX8_cannotProve cX8_cannotProve 2 (some .int) [(4, ((99 : Nat) : Int)), (0, u)] Z V 2 0 0 Q := by
  refine ia_start RX8 "cannotProve" ⟨by decide, rfl, rfl⟩ (Nat.le_of_ble_eq_true rfl) (ia_tg rfl) (fun X F M => ?_)
  show ia_G X 0 0 0 [(4, ((99 : Nat) : Int)), (0, u)] [] Z V
  obtain ⟨s0, s1, s2, s3, s4, s5, s6, s7, s18, sb, sw, se, sp⟩ := id hI
  refine ia_iload_n (pc := 0) F dX8_cannotProve_0 rfl ?_
  refine ia_iconst (pc := 1) F dX8_cannotProve_1 ?_
  refine ia_bipush (pc := 2) F dX8_cannotProve_2 (by decide) ?_
  refine jS (pc := 4) F 0 0 (c_X8_in u 0 99 (by omega) (by omega) (by omega) (fun h_1 => ?_) (fun h_2 => ?_)) rfl ⟨k_X8_in, il_RX8_91, it_X8_in, ii_RX8⟩ rfl 3 rfl hd_X8_in ⟨by decide, by decide, by decide, by decide, Nat.le_of_ble_eq_true rfl⟩ dX8_cannotProve_4
  · refine j1 ?_
    refine ia_if_ne (pc := 7) F 14 dX8_cannotProve_7 rfl (by omega) (fun _ => ?_) (fun h9 => absurd h9 (by omega))
    refine ia_aload_n (pc := 14) F dX8_cannotProve_14 rfl ?_
    refine jg (pc := 15) F (z99 hZ) cls11 f11_0 (hP 99 0 100 rfl) il_RX8_7 dX8_cannotProve_15 ?_
    refine ia_iconst (pc := 18) F dX8_cannotProve_18 ?_
    refine ja (pc := 19) F (v := σ 1) (z100 hZ) 1 rfl (by omega) (congrFun h100 1) dX8_cannotProve_19 ?_
    refine ia_bipush (pc := 20) F dX8_cannotProve_20 (by decide) ?_
    refine ia_icmp_ne (pc := 22) F 29 dX8_cannotProve_22 rfl (by omega) (by omega) (fun h_3 => ?_) (fun h_3 => ?_)
    · refine ia_iconst (pc := 29) F dX8_cannotProve_29 ?_
      refine ia_ireturn (pc := 30) F M (by decide) (by decide) dX8_cannotProve_30 ?_
      first | exact q3 (by omega) (by omega) | (exfalso; omega)
    · refine ia_iconst (pc := 25) F dX8_cannotProve_25 ?_
      refine ia_goto (pc := 26) F 30 dX8_cannotProve_26 rfl ?_
      refine ia_ireturn (pc := 30) F M (by decide) (by decide) dX8_cannotProve_30 ?_
      first | exact q2 (by omega) (by omega) | (exfalso; omega)
  · refine j1 ?_
    refine ia_if_ne (pc := 7) F 14 dX8_cannotProve_7 rfl (by omega) (fun h9 => absurd h9 (by omega)) (fun _ => ?_)
    refine ia_iconst (pc := 10) F dX8_cannotProve_10 ?_
    refine ia_goto (pc := 11) F 30 dX8_cannotProve_11 rfl ?_
    refine ia_ireturn (pc := 30) F M (by decide) (by decide) dX8_cannotProve_30 ?_
    first | exact q1 (by omega) | (exfalso; omega)
set_option maxRecDepth 100000 in
theorem c_X8_proves {Z : ia_Z} {V : ia_H} {Q : ia_O → ia_Z → ia_H → Prop} {σ : Nat → Int} {μ : Nat → Int} {m : Int} (u : Int) (hZ : ZI Z) (hP : PI V) (hI : SI σ m) (h99 : V 99 = μ) (h100 : V 100 = σ) (h7 : σ 1 < 12) (q1 : ∀ (V1 : ia_H), PI V1 → (V1 100 = s_prove σ u) → (∀ pp, pp ∉ ([100] : List Nat) → V1 pp = V pp) → Q (.inl (some (0, (σ 1 + 1 - 1)))) Z V1) : ia_K yX8_proves cX8_proves 2 (some .int) [(4, ((99 : Nat) : Int)), (0, u)] Z V 1 0 0 Q := by
  refine ia_start RX8 "proves" ⟨by decide, rfl, rfl⟩ (Nat.le_of_ble_eq_true rfl) (ia_tg rfl) (fun X F M => ?_)
  show ia_G X 0 0 0 [(4, ((99 : Nat) : Int)), (0, u)] [] Z V
  obtain ⟨s0, s1, s2, s3, s4, s5, s6, s7, s18, sb, sw, se, sp⟩ := id hI
  refine ia_aload_n (pc := 0) F dX8_proves_0 rfl ?_
  refine jg (pc := 1) F (z99 hZ) cls11 f11_0 (hP 99 0 100 rfl) il_RX8_7 dX8_proves_1 ?_
  refine ia_bipush (pc := 4) F dX8_proves_4 (by decide) ?_
  refine ia_iconst (pc := 6) F dX8_proves_6 ?_
  refine ia_aload_n (pc := 7) F dX8_proves_7 rfl ?_
  refine jg (pc := 8) F (z99 hZ) cls11 f11_0 (hP 99 0 100 rfl) il_RX8_7 dX8_proves_8 ?_
  refine ia_iconst (pc := 11) F dX8_proves_11 ?_
  refine ja (pc := 12) F (v := σ 1) (z100 hZ) 1 rfl (by omega) (congrFun h100 1) dX8_proves_12 ?_
  refine ia_imul (pc := 13) F dX8_proves_13 ?_
  refine ia_iadd (pc := 14) F dX8_proves_14 ?_
  refine ia_iconst (pc := 15) F dX8_proves_15 ?_
  refine ia_iadd (pc := 16) F dX8_proves_16 ?_
  refine ia_iload_n (pc := 17) F dX8_proves_17 rfl ?_
  refine js (pc := 18) F (z100 hZ) (48 + 2 * ((σ 1).toNat) + 0) (by omega) (by omega) dX8_proves_18 ?_
  refine ia_aload_n (pc := 19) F dX8_proves_19 rfl ?_
  refine jg (pc := 20) F (z99 hZ) cls11 f11_0 ((PI_u hP rfl) 99 0 100 rfl) il_RX8_7 dX8_proves_20 ?_
  refine ia_bipush (pc := 23) F dX8_proves_23 (by decide) ?_
  refine ia_iconst (pc := 25) F dX8_proves_25 ?_
  refine ia_aload_n (pc := 26) F dX8_proves_26 rfl ?_
  refine jg (pc := 27) F (z99 hZ) cls11 f11_0 ((PI_u hP rfl) 99 0 100 rfl) il_RX8_7 dX8_proves_27 ?_
  refine ia_iconst (pc := 30) F dX8_proves_30 ?_
  refine ja (pc := 31) F (v := σ 1) (z100 hZ) 1 rfl (by omega) ((congrFun (rowU h100) 1).trans (up_ne (by omega))) dX8_proves_31 ?_
  refine ia_imul (pc := 32) F dX8_proves_32 ?_
  refine ia_iadd (pc := 33) F dX8_proves_33 ?_
  refine ia_iconst (pc := 34) F dX8_proves_34 ?_
  refine ia_iadd (pc := 35) F dX8_proves_35 ?_
  refine ia_aload_n (pc := 36) F dX8_proves_36 rfl ?_
  refine jg (pc := 37) F (z99 hZ) cls11 f11_0 ((PI_u hP rfl) 99 0 100 rfl) il_RX8_7 dX8_proves_37 ?_
  refine ia_iconst (pc := 40) F dX8_proves_40 ?_
  refine ja (pc := 41) F (v := σ 3) (z100 hZ) 3 rfl (by omega) ((congrFun (rowU h100) 3).trans (up_ne (by omega))) dX8_proves_41 ?_
  refine js (pc := 42) F (z100 hZ) (48 + 2 * ((σ 1).toNat) + 1) (by omega) (by omega) dX8_proves_42 ?_
  refine ia_aload_n (pc := 43) F dX8_proves_43 rfl ?_
  refine jg (pc := 44) F (z99 hZ) cls11 f11_0 ((PI_u (PI_u hP rfl) rfl) 99 0 100 rfl) il_RX8_7 dX8_proves_44 ?_
  refine ia_iconst (pc := 47) F dX8_proves_47 ?_
  refine ia_dup2 (pc := 48) F dX8_proves_48 (Or.inl rfl) (Or.inr (Or.inr rfl)) ?_
  refine ja (pc := 49) F (v := σ 1) (z100 hZ) 1 rfl (by omega) (((congrFun (rowU (rowU h100)) 1).trans (up_ne (by omega))).trans (up_ne (by omega))) dX8_proves_49 ?_
  refine ia_iconst (pc := 50) F dX8_proves_50 ?_
  refine ia_iadd (pc := 51) F dX8_proves_51 ?_
  refine js (pc := 52) F (z100 hZ) 1 rfl (by omega) dX8_proves_52 ?_
  refine ia_aload_n (pc := 53) F dX8_proves_53 rfl ?_
  refine jg (pc := 54) F (z99 hZ) cls11 f11_0 ((PI_u (PI_u (PI_u hP rfl) rfl) rfl) 99 0 100 rfl) il_RX8_7 dX8_proves_54 ?_
  refine ia_iconst (pc := 57) F dX8_proves_57 ?_
  refine ja (pc := 58) F (v := (σ 1 + 1)) (z100 hZ) 1 rfl (by omega) ((congrFun (rowU (rowU (rowU h100))) 1).trans (up_self _ _ _)) dX8_proves_58 ?_
  refine ia_iconst (pc := 59) F dX8_proves_59 ?_
  refine ia_isub (pc := 60) F dX8_proves_60 ?_
  refine ia_ireturn (pc := 61) F M (by decide) (by decide) dX8_proves_61 ?_
  exact q1 _ (PI_u (PI_u (PI_u hP rfl) rfl) rfl) (rowU (rowU (rowU h100))) (Fr_u (Fr_u (Fr_u (Fr_0 (V := V) (S := [100])) (by decide)) (by decide)) (by decide))
set_option maxRecDepth 100000 in
theorem c_X8_drops {Z : ia_Z} {V : ia_H} {Q : ia_O → ia_Z → ia_H → Prop} {σ : Nat → Int} {μ : Nat → Int} {m : Int} (p : Int) (hZ : ZI Z) (hP : PI V) (hI : SI σ m) (h99 : V 99 = μ) (h100 : V 100 = σ) (hp9 : 0 ≤ p ∧ p < σ 1) (q1 : ∀ (V1 : ia_H), PI V1 → (V1 100 = s_drop σ p.toNat) → (∀ pp, pp ∉ ([100] : List Nat) → V1 pp = V pp) → Q (.inl (some (0, (σ 1 - 1)))) Z V1) : ia_K yX8_drops cX8_drops 3 (some .int) [(4, ((99 : Nat) : Int)), (0, p)] Z V 1 0 0 Q := by
  refine ia_start RX8 "drops" ⟨by decide, rfl, rfl⟩ (Nat.le_of_ble_eq_true rfl) (ia_tg rfl) (fun X F M => ?_)
  show ia_G X 0 0 0 [(4, ((99 : Nat) : Int)), (0, p), (9, 0)] [] Z V
  obtain ⟨s0, s1, s2, s3, s4, s5, s6, s7, s18, sb, sw, se, sp⟩ := id hI
  refine ia_aload_n (pc := 0) F dX8_drops_0 rfl ?_
  refine jg (pc := 1) F (z99 hZ) cls11 f11_0 (hP 99 0 100 rfl) il_RX8_7 dX8_drops_1 ?_
  refine ia_iconst (pc := 4) F dX8_drops_4 ?_
  refine ia_dup2 (pc := 5) F dX8_drops_5 (Or.inl rfl) (Or.inr (Or.inr rfl)) ?_
  refine ja (pc := 6) F (v := σ 1) (z100 hZ) 1 rfl (by omega) (congrFun h100 1) dX8_drops_6 ?_
  refine ia_iconst (pc := 7) F dX8_drops_7 ?_
  refine ia_isub (pc := 8) F dX8_drops_8 ?_
  refine js (pc := 9) F (z100 hZ) 1 rfl (by omega) dX8_drops_9 ?_
  refine ia_bipush (pc := 10) F dX8_drops_10 (by decide) ?_
  refine ia_iconst (pc := 12) F dX8_drops_12 ?_
  refine ia_iload_n (pc := 13) F dX8_drops_13 rfl ?_
  refine ia_imul (pc := 14) F dX8_drops_14 ?_
  refine ia_iadd (pc := 15) F dX8_drops_15 ?_
  refine ia_istore_n (pc := 16) F (ls' := [(4, ((99 : Nat) : Int)), (0, p), (0, (48 + (2 * p)))]) dX8_drops_16 (Nat.le_of_ble_eq_true rfl) rfl rfl ?_
  have L17 : ∀ (fu : Nat) (i : Nat) (x : Int) (V2 : ia_H), (400 - i < fu) → (x = (i : Int)) → (48 + 2 * p.toNat ≤ i ∧ (i : Int) ≤ 48 + 2 * (σ 1 - 1)) → (PI V2) → (V2 100 = gapt (up σ 1 (σ 1 - 1)) (48 + 2 * p.toNat) i 2) → (∀ pp, pp ∉ ([100] : List Nat) → V2 pp = V pp) → ia_G X 0 0 17 [(4, ((99 : Nat) : Int)), (0, p), (0, x)] [] Z V2 := by
    intro fu
    induction fu with
    | zero => intro i x V2 hm; exact absurd hm (Nat.not_lt_zero _)
    | succ fu ih =>
      intro i x V2 hm hx hi hP2 w2_100 hF2
      have ih17 := ih
      refine ia_iload_n (pc := 17) F dX8_drops_17 rfl ?_
      refine ia_bipush (pc := 18) F dX8_drops_18 (by decide) ?_
      refine ia_iconst (pc := 20) F dX8_drops_20 ?_
      refine ia_aload_n (pc := 21) F dX8_drops_21 rfl ?_
      refine jg (pc := 22) F (z99 hZ) cls11 f11_0 (hP2 99 0 100 rfl) il_RX8_7 dX8_drops_22 ?_
      refine ia_iconst (pc := 25) F dX8_drops_25 ?_
      refine ja (pc := 26) F (v := (σ 1 - 1)) (z100 hZ) 1 rfl (by omega) ((congrFun w2_100 1).trans ((gapt_lo (by omega)).trans (up_self _ _ _))) dX8_drops_26 ?_
      refine ia_imul (pc := 27) F dX8_drops_27 ?_
      refine ia_iadd (pc := 28) F dX8_drops_28 ?_
      refine ia_icmp_ge (pc := 29) F 52 dX8_drops_29 rfl (by omega) (by omega) (fun h_1 => ?_) (fun h_1 => ?_)
      · have ei : i = 48 + 2 * (σ 1 - 1).toNat := by omega
        subst ei
        refine ia_aload_n (pc := 52) F dX8_drops_52 rfl ?_
        refine jg (pc := 53) F (z99 hZ) cls11 f11_0 (hP2 99 0 100 rfl) il_RX8_7 dX8_drops_53 ?_
        refine ia_iconst (pc := 56) F dX8_drops_56 ?_
        refine ja (pc := 57) F (v := (σ 1 - 1)) (z100 hZ) 1 rfl (by omega) ((congrFun w2_100 1).trans ((gapt_lo (by omega)).trans (up_self _ _ _))) dX8_drops_57 ?_
        refine ia_ireturn (pc := 58) F M (by decide) (by decide) dX8_drops_58 ?_
        first | exact q1 _ hP2 w2_100 hF2 | (exfalso; omega)
      · refine ia_aload_n (pc := 32) F dX8_drops_32 rfl ?_
        refine jg (pc := 33) F (z99 hZ) cls11 f11_0 (hP2 99 0 100 rfl) il_RX8_7 dX8_drops_33 ?_
        refine ia_iload_n (pc := 36) F dX8_drops_36 rfl ?_
        refine ia_aload_n (pc := 37) F dX8_drops_37 rfl ?_
        refine jg (pc := 38) F (z99 hZ) cls11 f11_0 (hP2 99 0 100 rfl) il_RX8_7 dX8_drops_38 ?_
        refine ia_iload_n (pc := 41) F dX8_drops_41 rfl ?_
        refine ia_iconst (pc := 42) F dX8_drops_42 ?_
        refine ia_iadd (pc := 43) F dX8_drops_43 ?_
        refine ja (pc := 44) F (v := (up σ 1 (σ 1 - 1)) (i + 2)) (z100 hZ) (i + 2) (by omega) (by omega) ((congrFun w2_100 (i + 2)).trans (gapt_hi (by omega))) dX8_drops_44 ?_
        refine js (pc := 45) F (z100 hZ) i hx (by omega) dX8_drops_45 ?_
        refine ia_iinc (pc := 46) F (ls' := [(4, ((99 : Nat) : Int)), (0, p), (0, (x + 1))]) dX8_drops_46 rfl rfl rfl rfl ?_
        refine ia_goto (pc := 49) F 17 dX8_drops_49 rfl ?_
        exact ih17 (i + 1) _ _ (by omega) (by omega) (by omega) (PI_u hP2 rfl) ((rowU w2_100).trans (gapt_s hi.1)) (Fr_u hF2 (by decide))
  exact L17 (400 - (48 + 2 * p.toNat) + 1) (48 + 2 * p.toNat) _ _ (by omega) (by omega) (by omega) (PI_u hP rfl) ((rowU h100).trans (gapt_0 (Nat.le_refl _)).symm) (Fr_u (Fr_0 (V := V) (S := [100])) (by decide))
