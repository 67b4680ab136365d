/-! the model: its methods (made by wip/whole/m2.py) -/
set_option maxRecDepth 100000 in
theorem c_X8_addInk {Z : ia_Z} {V : ia_H} {Q : ia_O → ia_Z → ia_H → Prop} {σ : Nat → Int} {μ : Nat → Int} {β : Nat → Int} {η : Nat → Int} {m : Int} (c : Int) (u : Int) (hZ : ZI Z) (hP : PI V) (hI : SI σ m) (h99 : V 99 = μ) (h100 : V 100 = σ) (h101 : V 101 = β) (h103 : V 103 = η) (rc : -2147483648 ≤ c ∧ c ≤ 2147483647) (ru : -2147483648 ≤ u ∧ u ≤ 2147483647) (hd : 0 ≤ μ 10 ∧ μ 10 ≤ 8) (q1 : ∀ (V1 : ia_H), (¬ ((0 ≤ c ∧ c ≤ 9) ∧ 1 ≤ u ∧ u ≤ 999)) → PI V1 → (V1 99 = (up (up μ 9 0) 9 1)) → (V1 100 = σ) → (V1 101 = cpy σ β 0 0 72) → (V1 103 = η) → (∀ pp, pp ∉ ([99, 100, 101, 103] : List Nat) → V1 pp = V pp) → Q (.inl (some (0, 0))) Z V1) (q2 : ∀ (V1 : ia_H), ((0 ≤ c ∧ c ≤ 9) ∧ 1 ≤ u ∧ u ≤ 999) → (999 < wel σ c.toNat + u) → PI V1 → (V1 99 = (up (up μ 9 0) 9 2)) → (V1 100 = σ) → (V1 101 = cpy σ β 0 0 72) → (V1 103 = η) → (∀ pp, pp ∉ ([99, 100, 101, 103] : List Nat) → V1 pp = V pp) → Q (.inl (some (0, 0))) Z V1) (q3 : ∀ (V1 : ia_H), ((0 ≤ c ∧ c ≤ 9) ∧ 1 ≤ u ∧ u ≤ 999) → (wel σ c.toNat + u ≤ 999) → PI V1 → (V1 99 = (up (up μ 9 0) 10 (hdep ((up μ 9 0) 10)))) → (V1 100 = s_pour σ c.toNat u) → (V1 101 = cpy σ β 0 0 72) → (V1 103 = s_hist (cpy σ β 0 0 72) η ((up μ 9 0) 10)) → (∀ pp, pp ∉ ([99, 100, 101, 103] : List Nat) → V1 pp = V pp) → Q (.inl (some (0, (wel σ c.toNat + u)))) Z V1) : ia_K yX8_addInk cX8_addInk 4 (some .int) [(4, ((99 : Nat) : Int)), (0, c), (0, u)] Z V 6 0 0 Q := by
  refine ia_start RX8 "addInk" ⟨by decide, rfl, rfl⟩ (Nat.le_of_ble_eq_true rfl) (ia_tg rfl) (fun X F M => ?_)
  show ia_G X 0 0 0 [(4, ((99 : Nat) : Int)), (0, c), (0, u), (9, 0)] [] Z V
  obtain ⟨s0, s1, s2, s3, s4, s5, s6, s7, s18, sb, sw, se, sp⟩ := id hI
  refine ia_aload_n (pc := 0) F dX8_addInk_0 rfl ?_
  refine jV (pc := 1) F 0 0 (z99 hZ) cls11.1 (c_X8_begin hZ hP h99 h100 h101 (fun V_1 p_2 w_3 w_4 f_5 => ?_)) rfl ⟨k_X8_begin, il_RX8_99, im_X8_begin, is_X8_begin, ii_RX8⟩ 0 rfl hd_X8_begin ⟨by decide, by decide, by decide, by decide, Nat.le_of_ble_eq_true rfl⟩ dX8_addInk_1
  refine j0 ?_
  refine ia_aload_n (pc := 4) F dX8_addInk_4 rfl ?_
  refine ia_iload_n (pc := 5) F dX8_addInk_5 rfl ?_
  refine ia_iload_n (pc := 6) F dX8_addInk_6 rfl ?_
  refine jV (pc := 7) F 0 0 (z99 hZ) cls11.1 (c_X8_cannotPour c u hZ p_2 hI w_3 ((f_5 100 (by decide)).trans h100) (by omega) (by omega) (fun h_6 => ?_) (fun h_7 h_8 => ?_) (fun h_9 h_10 => ?_)) rfl ⟨k_X8_cannotPour, il_RX8_102, im_X8_cannotPour, is_X8_cannotPour, ii_RX8⟩ 2 rfl hd_X8_cannotPour ⟨by decide, by decide, by decide, by decide, Nat.le_of_ble_eq_true rfl⟩ dX8_addInk_7
  · refine j1 ?_
    refine ia_istore_n (pc := 10) F (ls' := [(4, ((99 : Nat) : Int)), (0, c), (0, u), (0, 1)]) dX8_addInk_10 (Nat.le_of_ble_eq_true rfl) rfl rfl ?_
    refine ia_iload_n (pc := 11) F dX8_addInk_11 rfl ?_
    refine ia_if_le (pc := 12) F 23 dX8_addInk_12 rfl (by omega) (fun h9 => absurd h9 (by omega)) (fun _ => ?_)
    refine ia_aload_n (pc := 15) F dX8_addInk_15 rfl ?_
    refine ia_iload_n (pc := 16) F dX8_addInk_16 rfl ?_
    refine jV (pc := 17) F 0 0 (z99 hZ) cls11.1 (c_X8_fail 1 hZ p_2 w_3 ((f_5 100 (by decide)).trans h100) (fun V_11 p_12 w_13 f_14 => ?_)) rfl ⟨k_X8_fail, il_RX8_106, im_X8_fail, is_X8_fail, ii_RX8⟩ 1 rfl hd_X8_fail ⟨by decide, by decide, by decide, by decide, Nat.le_of_ble_eq_true rfl⟩ dX8_addInk_17
    refine j1 ?_
    refine ia_goto (pc := 20) F 33 dX8_addInk_20 rfl ?_
    refine ia_ireturn (pc := 33) F M (by decide) (by decide) dX8_addInk_33 ?_
    exact q1 _ h_6 p_12 w_13 ((f_14 100 (by decide)).trans ((f_5 100 (by decide)).trans h100)) ((f_14 101 (by decide)).trans w_4) ((f_14 103 (by decide)).trans ((f_5 103 (by decide)).trans h103)) (Fr_c (Fr_c (Fr_0 (V := V) (S := [99, 100, 101, 103])) f_5 (by decide)) f_14 (by decide))
  · refine j1 ?_
    refine ia_istore_n (pc := 10) F (ls' := [(4, ((99 : Nat) : Int)), (0, c), (0, u), (0, 2)]) dX8_addInk_10 (Nat.le_of_ble_eq_true rfl) rfl rfl ?_
    refine ia_iload_n (pc := 11) F dX8_addInk_11 rfl ?_
    refine ia_if_le (pc := 12) F 23 dX8_addInk_12 rfl (by omega) (fun h9 => absurd h9 (by omega)) (fun _ => ?_)
    refine ia_aload_n (pc := 15) F dX8_addInk_15 rfl ?_
    refine ia_iload_n (pc := 16) F dX8_addInk_16 rfl ?_
    refine jV (pc := 17) F 0 0 (z99 hZ) cls11.1 (c_X8_fail 2 hZ p_2 w_3 ((f_5 100 (by decide)).trans h100) (fun V_15 p_16 w_17 f_18 => ?_)) rfl ⟨k_X8_fail, il_RX8_106, im_X8_fail, is_X8_fail, ii_RX8⟩ 1 rfl hd_X8_fail ⟨by decide, by decide, by decide, by decide, Nat.le_of_ble_eq_true rfl⟩ dX8_addInk_17
    refine j1 ?_
    refine ia_goto (pc := 20) F 33 dX8_addInk_20 rfl ?_
    refine ia_ireturn (pc := 33) F M (by decide) (by decide) dX8_addInk_33 ?_
    exact q2 _ h_7 h_8 p_16 w_17 ((f_18 100 (by decide)).trans ((f_5 100 (by decide)).trans h100)) ((f_18 101 (by decide)).trans w_4) ((f_18 103 (by decide)).trans ((f_5 103 (by decide)).trans h103)) (Fr_c (Fr_c (Fr_0 (V := V) (S := [99, 100, 101, 103])) f_5 (by decide)) f_18 (by decide))
  · refine j1 ?_
    refine ia_istore_n (pc := 10) F (ls' := [(4, ((99 : Nat) : Int)), (0, c), (0, u), (0, 0)]) dX8_addInk_10 (Nat.le_of_ble_eq_true rfl) rfl rfl ?_
    refine ia_iload_n (pc := 11) F dX8_addInk_11 rfl ?_
    refine ia_if_le (pc := 12) F 23 dX8_addInk_12 rfl (by omega) (fun _ => ?_) (fun h9 => absurd h9 (by omega))
    refine ia_aload_n (pc := 23) F dX8_addInk_23 rfl ?_
    refine ia_aload_n (pc := 24) F dX8_addInk_24 rfl ?_
    refine ia_iload_n (pc := 25) F dX8_addInk_25 rfl ?_
    refine ia_iload_n (pc := 26) F dX8_addInk_26 rfl ?_
    refine jV (pc := 27) F 0 0 (z99 hZ) cls11.1 (c_X8_pours c u hZ p_2 hI w_3 ((f_5 100 (by decide)).trans h100) (by omega) (fun V_19 p_20 w_21 f_22 => ?_)) rfl ⟨k_X8_pours, il_RX8_110, im_X8_pours, is_X8_pours, ii_RX8⟩ 2 rfl hd_X8_pours ⟨by decide, by decide, by decide, by decide, Nat.le_of_ble_eq_true rfl⟩ dX8_addInk_27
    refine j1 ?_
    refine jV (pc := 30) F 0 0 (z99 hZ) cls11.1 (c_X8_commit (wel σ c.toNat + u) hZ p_20 ((f_22 99 (by decide)).trans w_3) w_21 ((f_22 101 (by decide)).trans w_4) ((f_22 103 (by decide)).trans ((f_5 103 (by decide)).trans h103)) (show 0 ≤ up μ 9 0 10 ∧ up μ 9 0 10 ≤ 8 from by rw [up_ne (by decide)]; exact hd) (fun V_23 p_24 w_25 w_26 f_27 => ?_)) rfl ⟨k_X8_commit, il_RX8_113, im_X8_commit, is_X8_commit, ii_RX8⟩ 1 rfl hd_X8_commit ⟨by decide, by decide, by decide, by decide, Nat.le_of_ble_eq_true rfl⟩ dX8_addInk_30
    refine j1 ?_
    refine ia_ireturn (pc := 33) F M (by decide) (by decide) dX8_addInk_33 ?_
    exact q3 _ h_9 h_10 p_24 w_25 ((f_27 100 (by decide)).trans w_21) ((f_27 101 (by decide)).trans ((f_22 101 (by decide)).trans w_4)) w_26 (Fr_c (Fr_c (Fr_c (Fr_0 (V := V) (S := [99, 100, 101, 103])) f_5 (by decide)) f_22 (by decide)) f_27 (by decide))
set_option maxRecDepth 100000 in
theorem c_X8_addPaper {Z : ia_Z} {V : ia_H} {Q : ia_O → ia_Z → ia_H → Prop} {σ : Nat → Int} {μ : Nat → Int} {β : Nat → Int} {η : Nat → Int} {m : Int} (u : Int) (hZ : ZI Z) (hP : PI V) (hI : SI σ m) (h99 : V 99 = μ) (h100 : V 100 = σ) (h101 : V 101 = β) (h103 : V 103 = η) (ru : -2147483648 ≤ u ∧ u ≤ 2147483647) (hd : 0 ≤ μ 10 ∧ μ 10 ≤ 8) (q1 : ∀ (V1 : ia_H), (¬ (1 ≤ u ∧ u ≤ 999)) → PI V1 → (V1 99 = (up (up μ 9 0) 9 1)) → (V1 100 = σ) → (V1 101 = cpy σ β 0 0 72) → (V1 103 = η) → (∀ pp, pp ∉ ([99, 100, 101, 103] : List Nat) → V1 pp = V pp) → Q (.inl (some (0, 0))) Z V1) (q2 : ∀ (V1 : ia_H), (1 ≤ u ∧ u ≤ 999) → (9999 < σ 2 + u) → PI V1 → (V1 99 = (up (up μ 9 0) 9 2)) → (V1 100 = σ) → (V1 101 = cpy σ β 0 0 72) → (V1 103 = η) → (∀ pp, pp ∉ ([99, 100, 101, 103] : List Nat) → V1 pp = V pp) → Q (.inl (some (0, 0))) Z V1) (q3 : ∀ (V1 : ia_H), (1 ≤ u ∧ u ≤ 999) → (σ 2 + u ≤ 9999) → PI V1 → (V1 99 = (up (up μ 9 0) 10 (hdep ((up μ 9 0) 10)))) → (V1 100 = s_buy σ u) → (V1 101 = cpy σ β 0 0 72) → (V1 103 = s_hist (cpy σ β 0 0 72) η ((up μ 9 0) 10)) → (∀ pp, pp ∉ ([99, 100, 101, 103] : List Nat) → V1 pp = V pp) → Q (.inl (some (0, (σ 2 + u)))) Z V1) : ia_K yX8_addPaper cX8_addPaper 3 (some .int) [(4, ((99 : Nat) : Int)), (0, u)] Z V 6 0 0 Q := by
  refine ia_start RX8 "addPaper" ⟨by decide, rfl, rfl⟩ (Nat.le_of_ble_eq_true rfl) (ia_tg rfl) (fun X F M => ?_)
  show ia_G X 0 0 0 [(4, ((99 : Nat) : Int)), (0, u), (9, 0)] [] Z V
  obtain ⟨s0, s1, s2, s3, s4, s5, s6, s7, s18, sb, sw, se, sp⟩ := id hI
  refine ia_aload_n (pc := 0) F dX8_addPaper_0 rfl ?_
  refine jV (pc := 1) F 0 0 (z99 hZ) cls11.1 (c_X8_begin hZ hP h99 h100 h101 (fun V_1 p_2 w_3 w_4 f_5 => ?_)) rfl ⟨k_X8_begin, il_RX8_99, im_X8_begin, is_X8_begin, ii_RX8⟩ 0 rfl hd_X8_begin ⟨by decide, by decide, by decide, by decide, Nat.le_of_ble_eq_true rfl⟩ dX8_addPaper_1
  refine j0 ?_
  refine ia_aload_n (pc := 4) F dX8_addPaper_4 rfl ?_
  refine ia_iload_n (pc := 5) F dX8_addPaper_5 rfl ?_
  refine jV (pc := 6) F 0 0 (z99 hZ) cls11.1 (c_X8_cannotBuy u hZ p_2 hI w_3 ((f_5 100 (by decide)).trans h100) (by omega) (fun h_6 => ?_) (fun h_7 h_8 => ?_) (fun h_9 h_10 => ?_)) rfl ⟨k_X8_cannotBuy, il_RX8_116, im_X8_cannotBuy, is_X8_cannotBuy, ii_RX8⟩ 1 rfl hd_X8_cannotBuy ⟨by decide, by decide, by decide, by decide, Nat.le_of_ble_eq_true rfl⟩ dX8_addPaper_6
  · refine j1 ?_
    refine ia_istore_n (pc := 9) F (ls' := [(4, ((99 : Nat) : Int)), (0, u), (0, 1)]) dX8_addPaper_9 (Nat.le_of_ble_eq_true rfl) rfl rfl ?_
    refine ia_iload_n (pc := 10) F dX8_addPaper_10 rfl ?_
    refine ia_if_le (pc := 11) F 22 dX8_addPaper_11 rfl (by omega) (fun h9 => absurd h9 (by omega)) (fun _ => ?_)
    refine ia_aload_n (pc := 14) F dX8_addPaper_14 rfl ?_
    refine ia_iload_n (pc := 15) F dX8_addPaper_15 rfl ?_
    refine jV (pc := 16) F 0 0 (z99 hZ) cls11.1 (c_X8_fail 1 hZ p_2 w_3 ((f_5 100 (by decide)).trans h100) (fun V_11 p_12 w_13 f_14 => ?_)) rfl ⟨k_X8_fail, il_RX8_106, im_X8_fail, is_X8_fail, ii_RX8⟩ 1 rfl hd_X8_fail ⟨by decide, by decide, by decide, by decide, Nat.le_of_ble_eq_true rfl⟩ dX8_addPaper_16
    refine j1 ?_
    refine ia_goto (pc := 19) F 31 dX8_addPaper_19 rfl ?_
    refine ia_ireturn (pc := 31) F M (by decide) (by decide) dX8_addPaper_31 ?_
    exact q1 _ h_6 p_12 w_13 ((f_14 100 (by decide)).trans ((f_5 100 (by decide)).trans h100)) ((f_14 101 (by decide)).trans w_4) ((f_14 103 (by decide)).trans ((f_5 103 (by decide)).trans h103)) (Fr_c (Fr_c (Fr_0 (V := V) (S := [99, 100, 101, 103])) f_5 (by decide)) f_14 (by decide))
  · refine j1 ?_
    refine ia_istore_n (pc := 9) F (ls' := [(4, ((99 : Nat) : Int)), (0, u), (0, 2)]) dX8_addPaper_9 (Nat.le_of_ble_eq_true rfl) rfl rfl ?_
    refine ia_iload_n (pc := 10) F dX8_addPaper_10 rfl ?_
    refine ia_if_le (pc := 11) F 22 dX8_addPaper_11 rfl (by omega) (fun h9 => absurd h9 (by omega)) (fun _ => ?_)
    refine ia_aload_n (pc := 14) F dX8_addPaper_14 rfl ?_
    refine ia_iload_n (pc := 15) F dX8_addPaper_15 rfl ?_
    refine jV (pc := 16) F 0 0 (z99 hZ) cls11.1 (c_X8_fail 2 hZ p_2 w_3 ((f_5 100 (by decide)).trans h100) (fun V_15 p_16 w_17 f_18 => ?_)) rfl ⟨k_X8_fail, il_RX8_106, im_X8_fail, is_X8_fail, ii_RX8⟩ 1 rfl hd_X8_fail ⟨by decide, by decide, by decide, by decide, Nat.le_of_ble_eq_true rfl⟩ dX8_addPaper_16
    refine j1 ?_
    refine ia_goto (pc := 19) F 31 dX8_addPaper_19 rfl ?_
    refine ia_ireturn (pc := 31) F M (by decide) (by decide) dX8_addPaper_31 ?_
    exact q2 _ h_7 h_8 p_16 w_17 ((f_18 100 (by decide)).trans ((f_5 100 (by decide)).trans h100)) ((f_18 101 (by decide)).trans w_4) ((f_18 103 (by decide)).trans ((f_5 103 (by decide)).trans h103)) (Fr_c (Fr_c (Fr_0 (V := V) (S := [99, 100, 101, 103])) f_5 (by decide)) f_18 (by decide))
  · refine j1 ?_
    refine ia_istore_n (pc := 9) F (ls' := [(4, ((99 : Nat) : Int)), (0, u), (0, 0)]) dX8_addPaper_9 (Nat.le_of_ble_eq_true rfl) rfl rfl ?_
    refine ia_iload_n (pc := 10) F dX8_addPaper_10 rfl ?_
    refine ia_if_le (pc := 11) F 22 dX8_addPaper_11 rfl (by omega) (fun _ => ?_) (fun h9 => absurd h9 (by omega))
    refine ia_aload_n (pc := 22) F dX8_addPaper_22 rfl ?_
    refine ia_aload_n (pc := 23) F dX8_addPaper_23 rfl ?_
    refine ia_iload_n (pc := 24) F dX8_addPaper_24 rfl ?_
    refine jV (pc := 25) F 0 0 (z99 hZ) cls11.1 (c_X8_buys u hZ p_2 hI w_3 ((f_5 100 (by decide)).trans h100) (fun V_19 p_20 w_21 f_22 => ?_)) rfl ⟨k_X8_buys, il_RX8_119, im_X8_buys, is_X8_buys, ii_RX8⟩ 1 rfl hd_X8_buys ⟨by decide, by decide, by decide, by decide, Nat.le_of_ble_eq_true rfl⟩ dX8_addPaper_25
    refine j1 ?_
    refine jV (pc := 28) F 0 0 (z99 hZ) cls11.1 (c_X8_commit (σ 2 + u) hZ p_20 ((f_22 99 (by decide)).trans w_3) w_21 ((f_22 101 (by decide)).trans w_4) ((f_22 103 (by decide)).trans ((f_5 103 (by decide)).trans h103)) (show 0 ≤ up μ 9 0 10 ∧ up μ 9 0 10 ≤ 8 from by rw [up_ne (by decide)]; exact hd) (fun V_23 p_24 w_25 w_26 f_27 => ?_)) rfl ⟨k_X8_commit, il_RX8_113, im_X8_commit, is_X8_commit, ii_RX8⟩ 1 rfl hd_X8_commit ⟨by decide, by decide, by decide, by decide, Nat.le_of_ble_eq_true rfl⟩ dX8_addPaper_28
    refine j1 ?_
    refine ia_ireturn (pc := 31) F M (by decide) (by decide) dX8_addPaper_31 ?_
    exact q3 _ h_9 h_10 p_24 w_25 ((f_27 100 (by decide)).trans w_21) ((f_27 101 (by decide)).trans ((f_22 101 (by decide)).trans w_4)) w_26 (Fr_c (Fr_c (Fr_c (Fr_0 (V := V) (S := [99, 100, 101, 103])) f_5 (by decide)) f_22 (by decide)) f_27 (by decide))
set_option maxRecDepth 100000 in
theorem c_X8_pass {Z : ia_Z} {V : ia_H} {Q : ia_O → ia_Z → ia_H → Prop} {σ : Nat → Int} {μ : Nat → Int} {β : Nat → Int} {η : Nat → Int} {m : Int} (h : Int) (hZ : ZI Z) (hP : PI V) (hI : SI σ m) (h99 : V 99 = μ) (h100 : V 100 = σ) (h101 : V 101 = β) (h103 : V 103 = η) (rh : -2147483648 ≤ h ∧ h ≤ 2147483647) (hd : 0 ≤ μ 10 ∧ μ 10 ≤ 8) (q1 : ∀ (V1 : ia_H), (1 ≤ h ∧ h ≤ 48) → PI V1 → (V1 99 = (up (up μ 9 0) 10 (hdep ((up μ 9 0) 10)))) → (V1 100 = s_pass σ h.toNat) → (V1 101 = cpy σ β 0 0 72) → (V1 103 = s_hist (cpy σ β 0 0 72) η ((up μ 9 0) 10)) → (∀ pp, pp ∉ ([99, 100, 101, 103] : List Nat) → V1 pp = V pp) → Q (.inl (some (0, (lostN σ h.toNat)))) Z V1) (q2 : ∀ (V1 : ia_H), (¬ (1 ≤ h ∧ h ≤ 48)) → PI V1 → (V1 99 = (up (up μ 9 0) 9 1)) → (V1 100 = σ) → (V1 101 = cpy σ β 0 0 72) → (V1 103 = η) → (∀ pp, pp ∉ ([99, 100, 101, 103] : List Nat) → V1 pp = V pp) → Q (.inl (some (0, 0))) Z V1) : ia_K yX8_pass cX8_pass 2 (some .int) [(4, ((99 : Nat) : Int)), (0, h)] Z V 6 0 0 Q := by
  refine ia_start RX8 "pass" ⟨by decide, rfl, rfl⟩ (Nat.le_of_ble_eq_true rfl) (ia_tg rfl) (fun X F M => ?_)
  show ia_G X 0 0 0 [(4, ((99 : Nat) : Int)), (0, h)] [] Z V
  obtain ⟨s0, s1, s2, s3, s4, s5, s6, s7, s18, sb, sw, se, sp⟩ := id hI
  refine ia_aload_n (pc := 0) F dX8_pass_0 rfl ?_
  refine jV (pc := 1) F 0 0 (z99 hZ) cls11.1 (c_X8_begin hZ hP h99 h100 h101 (fun V_1 p_2 w_3 w_4 f_5 => ?_)) rfl ⟨k_X8_begin, il_RX8_99, im_X8_begin, is_X8_begin, ii_RX8⟩ 0 rfl hd_X8_begin ⟨by decide, by decide, by decide, by decide, Nat.le_of_ble_eq_true rfl⟩ dX8_pass_1
  refine j0 ?_
  refine ia_iload_n (pc := 4) F dX8_pass_4 rfl ?_
  refine ia_iconst (pc := 5) F dX8_pass_5 ?_
  refine ia_bipush (pc := 6) F dX8_pass_6 (by decide) ?_
  refine jS (pc := 8) F 0 0 (c_X8_in h 1 48 (by omega) (by omega) (by omega) (fun h_6 => ?_) (fun h_7 => ?_)) rfl ⟨k_X8_in, il_RX8_91, it_X8_in, ii_RX8⟩ rfl 3 rfl hd_X8_in ⟨by decide, by decide, by decide, by decide, Nat.le_of_ble_eq_true rfl⟩ dX8_pass_8
  · refine j1 ?_
    refine ia_if_eq (pc := 11) F 26 dX8_pass_11 rfl (by omega) (fun h9 => absurd h9 (by omega)) (fun _ => ?_)
    refine ia_aload_n (pc := 14) F dX8_pass_14 rfl ?_
    refine ia_aload_n (pc := 15) F dX8_pass_15 rfl ?_
    refine ia_iload_n (pc := 16) F dX8_pass_16 rfl ?_
    refine jV (pc := 17) F 0 0 (z99 hZ) cls11.1 (c_X8_passes h hZ p_2 hI w_3 ((f_5 100 (by decide)).trans h100) (by omega) (fun V_8 p_9 w_10 f_11 => ?_)) rfl ⟨k_X8_passes, il_RX8_122, im_X8_passes, is_X8_passes, ii_RX8⟩ 1 rfl hd_X8_passes ⟨by decide, by decide, by decide, by decide, Nat.le_of_ble_eq_true rfl⟩ dX8_pass_17
    refine j1 ?_
    refine jV (pc := 20) F 0 0 (z99 hZ) cls11.1 (c_X8_commit (lostN σ h.toNat) hZ p_9 ((f_11 99 (by decide)).trans w_3) w_10 ((f_11 101 (by decide)).trans w_4) ((f_11 103 (by decide)).trans ((f_5 103 (by decide)).trans h103)) (show 0 ≤ up μ 9 0 10 ∧ up μ 9 0 10 ≤ 8 from by rw [up_ne (by decide)]; exact hd) (fun V_12 p_13 w_14 w_15 f_16 => ?_)) rfl ⟨k_X8_commit, il_RX8_113, im_X8_commit, is_X8_commit, ii_RX8⟩ 1 rfl hd_X8_commit ⟨by decide, by decide, by decide, by decide, Nat.le_of_ble_eq_true rfl⟩ dX8_pass_20
    refine j1 ?_
    refine ia_goto (pc := 23) F 31 dX8_pass_23 rfl ?_
    refine ia_ireturn (pc := 31) F M (by decide) (by decide) dX8_pass_31 ?_
    exact q1 _ h_6 p_13 w_14 ((f_16 100 (by decide)).trans w_10) ((f_16 101 (by decide)).trans ((f_11 101 (by decide)).trans w_4)) w_15 (Fr_c (Fr_c (Fr_c (Fr_0 (V := V) (S := [99, 100, 101, 103])) f_5 (by decide)) f_11 (by decide)) f_16 (by decide))
  · refine j1 ?_
    refine ia_if_eq (pc := 11) F 26 dX8_pass_11 rfl (by omega) (fun _ => ?_) (fun h9 => absurd h9 (by omega))
    refine ia_aload_n (pc := 26) F dX8_pass_26 rfl ?_
    refine ia_iconst (pc := 27) F dX8_pass_27 ?_
    refine jV (pc := 28) F 0 0 (z99 hZ) cls11.1 (c_X8_fail 1 hZ p_2 w_3 ((f_5 100 (by decide)).trans h100) (fun V_17 p_18 w_19 f_20 => ?_)) rfl ⟨k_X8_fail, il_RX8_106, im_X8_fail, is_X8_fail, ii_RX8⟩ 1 rfl hd_X8_fail ⟨by decide, by decide, by decide, by decide, Nat.le_of_ble_eq_true rfl⟩ dX8_pass_28
    refine j1 ?_
    refine ia_ireturn (pc := 31) F M (by decide) (by decide) dX8_pass_31 ?_
    exact q2 _ h_7 p_18 w_19 ((f_20 100 (by decide)).trans ((f_5 100 (by decide)).trans h100)) ((f_20 101 (by decide)).trans w_4) ((f_20 103 (by decide)).trans ((f_5 103 (by decide)).trans h103)) (Fr_c (Fr_c (Fr_0 (V := V) (S := [99, 100, 101, 103])) f_5 (by decide)) f_20 (by decide))
set_option maxRecDepth 100000 in
theorem c_X8_addEdition {Z : ia_Z} {V : ia_H} {Q : ia_O → ia_Z → ia_H → Prop} {σ : Nat → Int} {μ : Nat → Int} {β : Nat → Int} {η : Nat → Int} {m : Int} (c : Int) (u : Int) (hZ : ZI Z) (hP : PI V) (hI : SI σ m) (h99 : V 99 = μ) (h100 : V 100 = σ) (h101 : V 101 = β) (h103 : V 103 = η) (rc : -2147483648 ≤ c ∧ c ≤ 2147483647) (ru : -2147483648 ≤ u ∧ u ≤ 2147483647) (hd : 0 ≤ μ 10 ∧ μ 10 ≤ 8) (q1 : ∀ (V1 : ia_H), (¬ ((0 ≤ c ∧ c ≤ 9) ∧ 1 ≤ u ∧ u ≤ 50)) → PI V1 → (V1 99 = (up (up μ 9 0) 9 1)) → (V1 100 = σ) → (V1 101 = cpy σ β 0 0 72) → (V1 103 = η) → (∀ pp, pp ∉ ([99, 100, 101, 103] : List Nat) → V1 pp = V pp) → Q (.inl (some (0, 0))) Z V1) (q2 : ∀ (V1 : ia_H), ((0 ≤ c ∧ c ≤ 9) ∧ 1 ≤ u ∧ u ≤ 50) → (σ 0 = 7) → PI V1 → (V1 99 = (up (up μ 9 0) 9 2)) → (V1 100 = σ) → (V1 101 = cpy σ β 0 0 72) → (V1 103 = η) → (∀ pp, pp ∉ ([99, 100, 101, 103] : List Nat) → V1 pp = V pp) → Q (.inl (some (0, 0))) Z V1) (q3 : ∀ (V1 : ia_H), ((0 ≤ c ∧ c ≤ 9) ∧ 1 ≤ u ∧ u ≤ 50) → (¬ σ 0 = 7) → PI V1 → (V1 99 = (up (up μ 9 0) 10 (hdep ((up μ 9 0) 10)))) → (V1 100 = s_add σ c u) → (V1 101 = cpy σ β 0 0 72) → (V1 103 = s_hist (cpy σ β 0 0 72) η ((up μ 9 0) 10)) → (∀ pp, pp ∉ ([99, 100, 101, 103] : List Nat) → V1 pp = V pp) → Q (.inl (some (0, (σ 0 + 1 - 1)))) Z V1) : ia_K yX8_addEdition cX8_addEdition 4 (some .int) [(4, ((99 : Nat) : Int)), (0, c), (0, u)] Z V 6 0 0 Q := by
  refine ia_start RX8 "addEdition" ⟨by decide, rfl, rfl⟩ (Nat.le_of_ble_eq_true rfl) (ia_tg rfl) (fun X F M => ?_)
  show ia_G X 0 0 0 [(4, ((99 : Nat) : Int)), (0, c), (0, u), (9, 0)] [] Z V
  obtain ⟨s0, s1, s2, s3, s4, s5, s6, s7, s18, sb, sw, se, sp⟩ := id hI
  refine ia_aload_n (pc := 0) F dX8_addEdition_0 rfl ?_
  refine jV (pc := 1) F 0 0 (z99 hZ) cls11.1 (c_X8_begin hZ hP h99 h100 h101 (fun V_1 p_2 w_3 w_4 f_5 => ?_)) rfl ⟨k_X8_begin, il_RX8_99, im_X8_begin, is_X8_begin, ii_RX8⟩ 0 rfl hd_X8_begin ⟨by decide, by decide, by decide, by decide, Nat.le_of_ble_eq_true rfl⟩ dX8_addEdition_1
  refine j0 ?_
  refine ia_aload_n (pc := 4) F dX8_addEdition_4 rfl ?_
  refine ia_iload_n (pc := 5) F dX8_addEdition_5 rfl ?_
  refine ia_iload_n (pc := 6) F dX8_addEdition_6 rfl ?_
  refine jV (pc := 7) F 0 0 (z99 hZ) cls11.1 (c_X8_cannotAdd c u hZ p_2 hI w_3 ((f_5 100 (by decide)).trans h100) (by omega) (by omega) (fun h_6 => ?_) (fun h_7 h_8 => ?_) (fun h_9 h_10 => ?_)) rfl ⟨k_X8_cannotAdd, il_RX8_141, im_X8_cannotAdd, is_X8_cannotAdd, ii_RX8⟩ 2 rfl hd_X8_cannotAdd ⟨by decide, by decide, by decide, by decide, Nat.le_of_ble_eq_true rfl⟩ dX8_addEdition_7
  · refine j1 ?_
    refine ia_istore_n (pc := 10) F (ls' := [(4, ((99 : Nat) : Int)), (0, c), (0, u), (0, 1)]) dX8_addEdition_10 (Nat.le_of_ble_eq_true rfl) rfl rfl ?_
    refine ia_iload_n (pc := 11) F dX8_addEdition_11 rfl ?_
    refine ia_if_le (pc := 12) F 23 dX8_addEdition_12 rfl (by omega) (fun h9 => absurd h9 (by omega)) (fun _ => ?_)
    refine ia_aload_n (pc := 15) F dX8_addEdition_15 rfl ?_
    refine ia_iload_n (pc := 16) F dX8_addEdition_16 rfl ?_
    refine jV (pc := 17) F 0 0 (z99 hZ) cls11.1 (c_X8_fail 1 hZ p_2 w_3 ((f_5 100 (by decide)).trans h100) (fun V_11 p_12 w_13 f_14 => ?_)) rfl ⟨k_X8_fail, il_RX8_106, im_X8_fail, is_X8_fail, ii_RX8⟩ 1 rfl hd_X8_fail ⟨by decide, by decide, by decide, by decide, Nat.le_of_ble_eq_true rfl⟩ dX8_addEdition_17
    refine j1 ?_
    refine ia_goto (pc := 20) F 33 dX8_addEdition_20 rfl ?_
    refine ia_ireturn (pc := 33) F M (by decide) (by decide) dX8_addEdition_33 ?_
    exact q1 _ h_6 p_12 w_13 ((f_14 100 (by decide)).trans ((f_5 100 (by decide)).trans h100)) ((f_14 101 (by decide)).trans w_4) ((f_14 103 (by decide)).trans ((f_5 103 (by decide)).trans h103)) (Fr_c (Fr_c (Fr_0 (V := V) (S := [99, 100, 101, 103])) f_5 (by decide)) f_14 (by decide))
  · refine j1 ?_
    refine ia_istore_n (pc := 10) F (ls' := [(4, ((99 : Nat) : Int)), (0, c), (0, u), (0, 2)]) dX8_addEdition_10 (Nat.le_of_ble_eq_true rfl) rfl rfl ?_
    refine ia_iload_n (pc := 11) F dX8_addEdition_11 rfl ?_
    refine ia_if_le (pc := 12) F 23 dX8_addEdition_12 rfl (by omega) (fun h9 => absurd h9 (by omega)) (fun _ => ?_)
    refine ia_aload_n (pc := 15) F dX8_addEdition_15 rfl ?_
    refine ia_iload_n (pc := 16) F dX8_addEdition_16 rfl ?_
    refine jV (pc := 17) F 0 0 (z99 hZ) cls11.1 (c_X8_fail 2 hZ p_2 w_3 ((f_5 100 (by decide)).trans h100) (fun V_15 p_16 w_17 f_18 => ?_)) rfl ⟨k_X8_fail, il_RX8_106, im_X8_fail, is_X8_fail, ii_RX8⟩ 1 rfl hd_X8_fail ⟨by decide, by decide, by decide, by decide, Nat.le_of_ble_eq_true rfl⟩ dX8_addEdition_17
    refine j1 ?_
    refine ia_goto (pc := 20) F 33 dX8_addEdition_20 rfl ?_
    refine ia_ireturn (pc := 33) F M (by decide) (by decide) dX8_addEdition_33 ?_
    exact q2 _ h_7 h_8 p_16 w_17 ((f_18 100 (by decide)).trans ((f_5 100 (by decide)).trans h100)) ((f_18 101 (by decide)).trans w_4) ((f_18 103 (by decide)).trans ((f_5 103 (by decide)).trans h103)) (Fr_c (Fr_c (Fr_0 (V := V) (S := [99, 100, 101, 103])) f_5 (by decide)) f_18 (by decide))
  · refine j1 ?_
    refine ia_istore_n (pc := 10) F (ls' := [(4, ((99 : Nat) : Int)), (0, c), (0, u), (0, 0)]) dX8_addEdition_10 (Nat.le_of_ble_eq_true rfl) rfl rfl ?_
    refine ia_iload_n (pc := 11) F dX8_addEdition_11 rfl ?_
    refine ia_if_le (pc := 12) F 23 dX8_addEdition_12 rfl (by omega) (fun _ => ?_) (fun h9 => absurd h9 (by omega))
    refine ia_aload_n (pc := 23) F dX8_addEdition_23 rfl ?_
    refine ia_aload_n (pc := 24) F dX8_addEdition_24 rfl ?_
    refine ia_iload_n (pc := 25) F dX8_addEdition_25 rfl ?_
    refine ia_iload_n (pc := 26) F dX8_addEdition_26 rfl ?_
    refine jV (pc := 27) F 0 0 (z99 hZ) cls11.1 (c_X8_adds c u hZ p_2 hI w_3 ((f_5 100 (by decide)).trans h100) (by omega) (fun V_19 p_20 w_21 f_22 => ?_)) rfl ⟨k_X8_adds, il_RX8_144, im_X8_adds, is_X8_adds, ii_RX8⟩ 2 rfl hd_X8_adds ⟨by decide, by decide, by decide, by decide, Nat.le_of_ble_eq_true rfl⟩ dX8_addEdition_27
    refine j1 ?_
    refine jV (pc := 30) F 0 0 (z99 hZ) cls11.1 (c_X8_commit (σ 0 + 1 - 1) hZ p_20 ((f_22 99 (by decide)).trans w_3) w_21 ((f_22 101 (by decide)).trans w_4) ((f_22 103 (by decide)).trans ((f_5 103 (by decide)).trans h103)) (show 0 ≤ up μ 9 0 10 ∧ up μ 9 0 10 ≤ 8 from by rw [up_ne (by decide)]; exact hd) (fun V_23 p_24 w_25 w_26 f_27 => ?_)) rfl ⟨k_X8_commit, il_RX8_113, im_X8_commit, is_X8_commit, ii_RX8⟩ 1 rfl hd_X8_commit ⟨by decide, by decide, by decide, by decide, Nat.le_of_ble_eq_true rfl⟩ dX8_addEdition_30
    refine j1 ?_
    refine ia_ireturn (pc := 33) F M (by decide) (by decide) dX8_addEdition_33 ?_
    exact q3 _ h_9 h_10 p_24 w_25 ((f_27 100 (by decide)).trans w_21) ((f_27 101 (by decide)).trans ((f_22 101 (by decide)).trans w_4)) w_26 (Fr_c (Fr_c (Fr_c (Fr_0 (V := V) (S := [99, 100, 101, 103])) f_5 (by decide)) f_22 (by decide)) f_27 (by decide))
set_option maxRecDepth 100000 in
theorem c_X8_removeEdition {Z : ia_Z} {V : ia_H} {Q : ia_O → ia_Z → ia_H → Prop} {σ : Nat → Int} {μ : Nat → Int} {β : Nat → Int} {η : Nat → Int} {m : Int} (e : Int) (hZ : ZI Z) (hP : PI V) (hI : SI σ m) (h99 : V 99 = μ) (h100 : V 100 = σ) (h101 : V 101 = β) (h103 : V 103 = η) (re : -2147483648 ≤ e ∧ e ≤ 2147483647) (hd : 0 ≤ μ 10 ∧ μ 10 ≤ 8) (q1 : ∀ (V1 : ia_H), (0 ≤ e ∧ e < σ 0) → PI V1 → (V1 99 = (up (up μ 9 0) 10 (hdep ((up μ 9 0) 10)))) → (V1 100 = s_rem σ e.toNat) → (V1 101 = cpy σ β 0 0 72) → (V1 103 = s_hist (cpy σ β 0 0 72) η ((up μ 9 0) 10)) → (∀ pp, pp ∉ ([99, 100, 101, 103] : List Nat) → V1 pp = V pp) → Q (.inl (some (0, (σ 0 - 1)))) Z V1) (q2 : ∀ (V1 : ia_H), (¬ (0 ≤ e ∧ e < σ 0)) → PI V1 → (V1 99 = (up (up μ 9 0) 9 1)) → (V1 100 = σ) → (V1 101 = cpy σ β 0 0 72) → (V1 103 = η) → (∀ pp, pp ∉ ([99, 100, 101, 103] : List Nat) → V1 pp = V pp) → Q (.inl (some (0, 0))) Z V1) : ia_K yX8_removeEdition cX8_removeEdition 2 (some .int) [(4, ((99 : Nat) : Int)), (0, e)] Z V 6 0 0 Q := by
  refine ia_start RX8 "removeEdition" ⟨by decide, rfl, rfl⟩ (Nat.le_of_ble_eq_true rfl) (ia_tg rfl) (fun X F M => ?_)
  show ia_G X 0 0 0 [(4, ((99 : Nat) : Int)), (0, e)] [] Z V
  obtain ⟨s0, s1, s2, s3, s4, s5, s6, s7, s18, sb, sw, se, sp⟩ := id hI
  refine ia_aload_n (pc := 0) F dX8_removeEdition_0 rfl ?_
  refine jV (pc := 1) F 0 0 (z99 hZ) cls11.1 (c_X8_begin hZ hP h99 h100 h101 (fun V_1 p_2 w_3 w_4 f_5 => ?_)) rfl ⟨k_X8_begin, il_RX8_99, im_X8_begin, is_X8_begin, ii_RX8⟩ 0 rfl hd_X8_begin ⟨by decide, by decide, by decide, by decide, Nat.le_of_ble_eq_true rfl⟩ dX8_removeEdition_1
  refine j0 ?_
  refine ia_aload_n (pc := 4) F dX8_removeEdition_4 rfl ?_
  refine ia_iload_n (pc := 5) F dX8_removeEdition_5 rfl ?_
  refine jV (pc := 6) F 0 0 (z99 hZ) cls11.1 (c_X8_isEdition e hZ p_2 hI w_3 ((f_5 100 (by decide)).trans h100) (by omega) (fun h_6 => ?_) (fun h_7 => ?_)) rfl ⟨k_X8_isEdition, il_RX8_147, im_X8_isEdition, is_X8_isEdition, ii_RX8⟩ 1 rfl hd_X8_isEdition ⟨by decide, by decide, by decide, by decide, Nat.le_of_ble_eq_true rfl⟩ dX8_removeEdition_6
  · refine j1 ?_
    refine ia_if_eq (pc := 9) F 24 dX8_removeEdition_9 rfl (by omega) (fun h9 => absurd h9 (by omega)) (fun _ => ?_)
    refine ia_aload_n (pc := 12) F dX8_removeEdition_12 rfl ?_
    refine ia_aload_n (pc := 13) F dX8_removeEdition_13 rfl ?_
    refine ia_iload_n (pc := 14) F dX8_removeEdition_14 rfl ?_
    refine jV (pc := 15) F 0 0 (z99 hZ) cls11.1 (c_X8_removes e hZ p_2 hI w_3 ((f_5 100 (by decide)).trans h100) (by omega) (fun V_8 p_9 w_10 f_11 => ?_)) rfl ⟨k_X8_removes, il_RX8_150, im_X8_removes, is_X8_removes, ii_RX8⟩ 1 rfl hd_X8_removes ⟨by decide, by decide, by decide, by decide, Nat.le_of_ble_eq_true rfl⟩ dX8_removeEdition_15
    refine j1 ?_
    refine jV (pc := 18) F 0 0 (z99 hZ) cls11.1 (c_X8_commit (σ 0 - 1) hZ p_9 ((f_11 99 (by decide)).trans w_3) w_10 ((f_11 101 (by decide)).trans w_4) ((f_11 103 (by decide)).trans ((f_5 103 (by decide)).trans h103)) (show 0 ≤ up μ 9 0 10 ∧ up μ 9 0 10 ≤ 8 from by rw [up_ne (by decide)]; exact hd) (fun V_12 p_13 w_14 w_15 f_16 => ?_)) rfl ⟨k_X8_commit, il_RX8_113, im_X8_commit, is_X8_commit, ii_RX8⟩ 1 rfl hd_X8_commit ⟨by decide, by decide, by decide, by decide, Nat.le_of_ble_eq_true rfl⟩ dX8_removeEdition_18
    refine j1 ?_
    refine ia_goto (pc := 21) F 29 dX8_removeEdition_21 rfl ?_
    refine ia_ireturn (pc := 29) F M (by decide) (by decide) dX8_removeEdition_29 ?_
    exact q1 _ h_6 p_13 w_14 ((f_16 100 (by decide)).trans w_10) ((f_16 101 (by decide)).trans ((f_11 101 (by decide)).trans w_4)) w_15 (Fr_c (Fr_c (Fr_c (Fr_0 (V := V) (S := [99, 100, 101, 103])) f_5 (by decide)) f_11 (by decide)) f_16 (by decide))
  · refine j1 ?_
    refine ia_if_eq (pc := 9) F 24 dX8_removeEdition_9 rfl (by omega) (fun _ => ?_) (fun h9 => absurd h9 (by omega))
    refine ia_aload_n (pc := 24) F dX8_removeEdition_24 rfl ?_
    refine ia_iconst (pc := 25) F dX8_removeEdition_25 ?_
    refine jV (pc := 26) F 0 0 (z99 hZ) cls11.1 (c_X8_fail 1 hZ p_2 w_3 ((f_5 100 (by decide)).trans h100) (fun V_17 p_18 w_19 f_20 => ?_)) rfl ⟨k_X8_fail, il_RX8_106, im_X8_fail, is_X8_fail, ii_RX8⟩ 1 rfl hd_X8_fail ⟨by decide, by decide, by decide, by decide, Nat.le_of_ble_eq_true rfl⟩ dX8_removeEdition_26
    refine j1 ?_
    refine ia_ireturn (pc := 29) F M (by decide) (by decide) dX8_removeEdition_29 ?_
    exact q2 _ h_7 p_18 w_19 ((f_20 100 (by decide)).trans ((f_5 100 (by decide)).trans h100)) ((f_20 101 (by decide)).trans w_4) ((f_20 103 (by decide)).trans ((f_5 103 (by decide)).trans h103)) (Fr_c (Fr_c (Fr_0 (V := V) (S := [99, 100, 101, 103])) f_5 (by decide)) f_20 (by decide))
set_option maxRecDepth 100000 in
theorem c_X8_print {Z : ia_Z} {V : ia_H} {Q : ia_O → ia_Z → ia_H → Prop} {σ : Nat → Int} {μ : Nat → Int} {β : Nat → Int} {η : Nat → Int} {m : Int} (e : Int) (hZ : ZI Z) (hP : PI V) (hI : SI σ m) (h99 : V 99 = μ) (h100 : V 100 = σ) (h101 : V 101 = β) (h103 : V 103 = η) (re : -2147483648 ≤ e ∧ e ≤ 2147483647) (hd : 0 ≤ μ 10 ∧ μ 10 ≤ 8) (q1 : ∀ (V1 : ia_H), (¬ (0 ≤ e ∧ e < σ 0)) → PI V1 → (V1 99 = (up (up μ 9 0) 9 1)) → (V1 100 = σ) → (V1 101 = cpy σ β 0 0 72) → (V1 103 = η) → (∀ pp, pp ∉ ([99, 100, 101, 103] : List Nat) → V1 pp = V pp) → Q (.inl (some (0, 0))) Z V1) (q2 : ∀ (V1 : ia_H), (0 ≤ e ∧ e < σ 0) → (miss σ e.toNat = 0) → PI V1 → (V1 99 = (up (up μ 9 0) 9 2)) → (V1 100 = σ) → (V1 101 = cpy σ β 0 0 72) → (V1 103 = η) → (∀ pp, pp ∉ ([99, 100, 101, 103] : List Nat) → V1 pp = V pp) → Q (.inl (some (0, 0))) Z V1) (q3 : ∀ (V1 : ia_H), (0 ≤ e ∧ e < σ 0) → (¬ miss σ e.toNat = 0) → (σ 2 = 0 ∨ wel σ (col σ e.toNat).toNat = 0) → PI V1 → (V1 99 = (up (up μ 9 0) 9 3)) → (V1 100 = σ) → (V1 101 = cpy σ β 0 0 72) → (V1 103 = η) → (∀ pp, pp ∉ ([99, 100, 101, 103] : List Nat) → V1 pp = V pp) → Q (.inl (some (0, 0))) Z V1) (q4 : ∀ (n_27 : Int) (V1 : ia_H), (0 ≤ e ∧ e < σ 0) → (¬ miss σ e.toNat = 0) → (¬ (σ 2 = 0 ∨ wel σ (col σ e.toNat).toNat = 0)) → (n_27 = min (miss σ e.toNat) (min (σ 2) (wel σ (col σ e.toNat).toNat))) → PI V1 → (V1 99 = (up (up μ 9 0) 10 (hdep ((up μ 9 0) 10)))) → (V1 100 = s_print σ e.toNat n_27) → (V1 101 = cpy σ β 0 0 72) → (V1 103 = s_hist (cpy σ β 0 0 72) η ((up μ 9 0) 10)) → (∀ pp, pp ∉ ([99, 100, 101, 103] : List Nat) → V1 pp = V pp) → Q (.inl (some (0, n_27))) Z V1) : ia_K yX8_print cX8_print 3 (some .int) [(4, ((99 : Nat) : Int)), (0, e)] Z V 6 0 0 Q := by
  refine ia_start RX8 "print" ⟨by decide, rfl, rfl⟩ (Nat.le_of_ble_eq_true rfl) (ia_tg rfl) (fun X F M => ?_)
  show ia_G X 0 0 0 [(4, ((99 : Nat) : Int)), (0, e), (9, 0)] [] Z V
  obtain ⟨s0, s1, s2, s3, s4, s5, s6, s7, s18, sb, sw, se, sp⟩ := id hI
  refine ia_aload_n (pc := 0) F dX8_print_0 rfl ?_
  refine jV (pc := 1) F 0 0 (z99 hZ) cls11.1 (c_X8_begin hZ hP h99 h100 h101 (fun V_1 p_2 w_3 w_4 f_5 => ?_)) rfl ⟨k_X8_begin, il_RX8_99, im_X8_begin, is_X8_begin, ii_RX8⟩ 0 rfl hd_X8_begin ⟨by decide, by decide, by decide, by decide, Nat.le_of_ble_eq_true rfl⟩ dX8_print_1
  refine j0 ?_
  refine ia_aload_n (pc := 4) F dX8_print_4 rfl ?_
  refine ia_iload_n (pc := 5) F dX8_print_5 rfl ?_
  refine jV (pc := 6) F 0 0 (z99 hZ) cls11.1 (c_X8_cannotPrint e hZ p_2 hI w_3 ((f_5 100 (by decide)).trans h100) (by omega) (fun h_6 => ?_) (fun h_7 h_8 => ?_) (fun h_9 h_10 h_11 => ?_) (fun h_12 h_13 h_14 => ?_)) rfl ⟨k_X8_cannotPrint, il_RX8_168, im_X8_cannotPrint, is_X8_cannotPrint, ii_RX8⟩ 1 rfl hd_X8_cannotPrint ⟨by decide, by decide, by decide, by decide, Nat.le_of_ble_eq_true rfl⟩ dX8_print_6
  · refine j1 ?_
    refine ia_istore_n (pc := 9) F (ls' := [(4, ((99 : Nat) : Int)), (0, e), (0, 1)]) dX8_print_9 (Nat.le_of_ble_eq_true rfl) rfl rfl ?_
    refine ia_iload_n (pc := 10) F dX8_print_10 rfl ?_
    refine ia_if_le (pc := 11) F 22 dX8_print_11 rfl (by omega) (fun h9 => absurd h9 (by omega)) (fun _ => ?_)
    refine ia_aload_n (pc := 14) F dX8_print_14 rfl ?_
    refine ia_iload_n (pc := 15) F dX8_print_15 rfl ?_
    refine jV (pc := 16) F 0 0 (z99 hZ) cls11.1 (c_X8_fail 1 hZ p_2 w_3 ((f_5 100 (by decide)).trans h100) (fun V_15 p_16 w_17 f_18 => ?_)) rfl ⟨k_X8_fail, il_RX8_106, im_X8_fail, is_X8_fail, ii_RX8⟩ 1 rfl hd_X8_fail ⟨by decide, by decide, by decide, by decide, Nat.le_of_ble_eq_true rfl⟩ dX8_print_16
    refine j1 ?_
    refine ia_goto (pc := 19) F 31 dX8_print_19 rfl ?_
    refine ia_ireturn (pc := 31) F M (by decide) (by decide) dX8_print_31 ?_
    exact q1 _ h_6 p_16 w_17 ((f_18 100 (by decide)).trans ((f_5 100 (by decide)).trans h100)) ((f_18 101 (by decide)).trans w_4) ((f_18 103 (by decide)).trans ((f_5 103 (by decide)).trans h103)) (Fr_c (Fr_c (Fr_0 (V := V) (S := [99, 100, 101, 103])) f_5 (by decide)) f_18 (by decide))
  · refine j1 ?_
    refine ia_istore_n (pc := 9) F (ls' := [(4, ((99 : Nat) : Int)), (0, e), (0, 2)]) dX8_print_9 (Nat.le_of_ble_eq_true rfl) rfl rfl ?_
    refine ia_iload_n (pc := 10) F dX8_print_10 rfl ?_
    refine ia_if_le (pc := 11) F 22 dX8_print_11 rfl (by omega) (fun h9 => absurd h9 (by omega)) (fun _ => ?_)
    refine ia_aload_n (pc := 14) F dX8_print_14 rfl ?_
    refine ia_iload_n (pc := 15) F dX8_print_15 rfl ?_
    refine jV (pc := 16) F 0 0 (z99 hZ) cls11.1 (c_X8_fail 2 hZ p_2 w_3 ((f_5 100 (by decide)).trans h100) (fun V_19 p_20 w_21 f_22 => ?_)) rfl ⟨k_X8_fail, il_RX8_106, im_X8_fail, is_X8_fail, ii_RX8⟩ 1 rfl hd_X8_fail ⟨by decide, by decide, by decide, by decide, Nat.le_of_ble_eq_true rfl⟩ dX8_print_16
    refine j1 ?_
    refine ia_goto (pc := 19) F 31 dX8_print_19 rfl ?_
    refine ia_ireturn (pc := 31) F M (by decide) (by decide) dX8_print_31 ?_
    exact q2 _ h_7 h_8 p_20 w_21 ((f_22 100 (by decide)).trans ((f_5 100 (by decide)).trans h100)) ((f_22 101 (by decide)).trans w_4) ((f_22 103 (by decide)).trans ((f_5 103 (by decide)).trans h103)) (Fr_c (Fr_c (Fr_0 (V := V) (S := [99, 100, 101, 103])) f_5 (by decide)) f_22 (by decide))
  · refine j1 ?_
    refine ia_istore_n (pc := 9) F (ls' := [(4, ((99 : Nat) : Int)), (0, e), (0, 3)]) dX8_print_9 (Nat.le_of_ble_eq_true rfl) rfl rfl ?_
    refine ia_iload_n (pc := 10) F dX8_print_10 rfl ?_
    refine ia_if_le (pc := 11) F 22 dX8_print_11 rfl (by omega) (fun h9 => absurd h9 (by omega)) (fun _ => ?_)
    refine ia_aload_n (pc := 14) F dX8_print_14 rfl ?_
    refine ia_iload_n (pc := 15) F dX8_print_15 rfl ?_
    refine jV (pc := 16) F 0 0 (z99 hZ) cls11.1 (c_X8_fail 3 hZ p_2 w_3 ((f_5 100 (by decide)).trans h100) (fun V_23 p_24 w_25 f_26 => ?_)) rfl ⟨k_X8_fail, il_RX8_106, im_X8_fail, is_X8_fail, ii_RX8⟩ 1 rfl hd_X8_fail ⟨by decide, by decide, by decide, by decide, Nat.le_of_ble_eq_true rfl⟩ dX8_print_16
    refine j1 ?_
    refine ia_goto (pc := 19) F 31 dX8_print_19 rfl ?_
    refine ia_ireturn (pc := 31) F M (by decide) (by decide) dX8_print_31 ?_
    exact q3 _ h_9 h_10 h_11 p_24 w_25 ((f_26 100 (by decide)).trans ((f_5 100 (by decide)).trans h100)) ((f_26 101 (by decide)).trans w_4) ((f_26 103 (by decide)).trans ((f_5 103 (by decide)).trans h103)) (Fr_c (Fr_c (Fr_0 (V := V) (S := [99, 100, 101, 103])) f_5 (by decide)) f_26 (by decide))
  · refine j1 ?_
    refine ia_istore_n (pc := 9) F (ls' := [(4, ((99 : Nat) : Int)), (0, e), (0, 0)]) dX8_print_9 (Nat.le_of_ble_eq_true rfl) rfl rfl ?_
    refine ia_iload_n (pc := 10) F dX8_print_10 rfl ?_
    refine ia_if_le (pc := 11) F 22 dX8_print_11 rfl (by omega) (fun _ => ?_) (fun h9 => absurd h9 (by omega))
    refine ia_aload_n (pc := 22) F dX8_print_22 rfl ?_
    refine ia_aload_n (pc := 23) F dX8_print_23 rfl ?_
    refine ia_iload_n (pc := 24) F dX8_print_24 rfl ?_
    refine jV (pc := 25) F 0 0 (z99 hZ) cls11.1 (c_X8_printsOne e hZ p_2 hI w_3 ((f_5 100 (by decide)).trans h100) (by omega) (fun n_27 V_28 h_29 p_30 w_31 f_32 => ?_)) rfl ⟨k_X8_printsOne, il_RX8_171, im_X8_printsOne, is_X8_printsOne, ii_RX8⟩ 1 rfl hd_X8_printsOne ⟨by decide, by decide, by decide, by decide, Nat.le_of_ble_eq_true rfl⟩ dX8_print_25
    refine j1 ?_
    refine jV (pc := 28) F 0 0 (z99 hZ) cls11.1 (c_X8_commit n_27 hZ p_30 ((f_32 99 (by decide)).trans w_3) w_31 ((f_32 101 (by decide)).trans w_4) ((f_32 103 (by decide)).trans ((f_5 103 (by decide)).trans h103)) (show 0 ≤ up μ 9 0 10 ∧ up μ 9 0 10 ≤ 8 from by rw [up_ne (by decide)]; exact hd) (fun V_33 p_34 w_35 w_36 f_37 => ?_)) rfl ⟨k_X8_commit, il_RX8_113, im_X8_commit, is_X8_commit, ii_RX8⟩ 1 rfl hd_X8_commit ⟨by decide, by decide, by decide, by decide, Nat.le_of_ble_eq_true rfl⟩ dX8_print_28
    refine j1 ?_
    refine ia_ireturn (pc := 31) F M (by decide) (by decide) dX8_print_31 ?_
    exact q4 n_27 _ h_12 h_13 h_14 h_29 p_34 w_35 ((f_37 100 (by decide)).trans w_31) ((f_37 101 (by decide)).trans ((f_32 101 (by decide)).trans w_4)) w_36 (Fr_c (Fr_c (Fr_c (Fr_0 (V := V) (S := [99, 100, 101, 103])) f_5 (by decide)) f_32 (by decide)) f_37 (by decide))
set_option maxRecDepth 100000 in
theorem c_X8_addProof {Z : ia_Z} {V : ia_H} {Q : ia_O → ia_Z → ia_H → Prop} {σ : Nat → Int} {μ : Nat → Int} {β : Nat → Int} {η : Nat → Int} {m : Int} (u : Int) (hZ : ZI Z) (hP : PI V) (hI : SI σ m) (h99 : V 99 = μ) (h100 : V 100 = σ) (h101 : V 101 = β) (h103 : V 103 = η) (ru : -2147483648 ≤ u ∧ u ≤ 2147483647) (hd : 0 ≤ μ 10 ∧ μ 10 ≤ 8) (q1 : ∀ (V1 : ia_H), (¬ (0 ≤ u ∧ u ≤ 99)) → PI V1 → (V1 99 = (up (up μ 9 0) 9 1)) → (V1 100 = σ) → (V1 101 = cpy σ β 0 0 72) → (V1 103 = η) → (∀ pp, pp ∉ ([99, 100, 101, 103] : List Nat) → V1 pp = V pp) → Q (.inl (some (0, 0))) Z V1) (q2 : ∀ (V1 : ia_H), (0 ≤ u ∧ u ≤ 99) → (σ 1 = 12) → PI V1 → (V1 99 = (up (up μ 9 0) 9 2)) → (V1 100 = σ) → (V1 101 = cpy σ β 0 0 72) → (V1 103 = η) → (∀ pp, pp ∉ ([99, 100, 101, 103] : List Nat) → V1 pp = V pp) → Q (.inl (some (0, 0))) Z V1) (q3 : ∀ (V1 : ia_H), (0 ≤ u ∧ u ≤ 99) → (¬ σ 1 = 12) → PI V1 → (V1 99 = (up (up μ 9 0) 10 (hdep ((up μ 9 0) 10)))) → (V1 100 = s_prove σ u) → (V1 101 = cpy σ β 0 0 72) → (V1 103 = s_hist (cpy σ β 0 0 72) η ((up μ 9 0) 10)) → (∀ pp, pp ∉ ([99, 100, 101, 103] : List Nat) → V1 pp = V pp) → Q (.inl (some (0, (σ 1 + 1 - 1)))) Z V1) : ia_K yX8_addProof cX8_addProof 3 (some .int) [(4, ((99 : Nat) : Int)), (0, u)] Z V 6 0 0 Q := by
  refine ia_start RX8 "addProof" ⟨by decide, rfl, rfl⟩ (Nat.le_of_ble_eq_true rfl) (ia_tg rfl) (fun X F M => ?_)
  show ia_G X 0 0 0 [(4, ((99 : Nat) : Int)), (0, u), (9, 0)] [] Z V
  obtain ⟨s0, s1, s2, s3, s4, s5, s6, s7, s18, sb, sw, se, sp⟩ := id hI
  refine ia_aload_n (pc := 0) F dX8_addProof_0 rfl ?_
  refine jV (pc := 1) F 0 0 (z99 hZ) cls11.1 (c_X8_begin hZ hP h99 h100 h101 (fun V_1 p_2 w_3 w_4 f_5 => ?_)) rfl ⟨k_X8_begin, il_RX8_99, im_X8_begin, is_X8_begin, ii_RX8⟩ 0 rfl hd_X8_begin ⟨by decide, by decide, by decide, by decide, Nat.le_of_ble_eq_true rfl⟩ dX8_addProof_1
  refine j0 ?_
  refine ia_aload_n (pc := 4) F dX8_addProof_4 rfl ?_
  refine ia_iload_n (pc := 5) F dX8_addProof_5 rfl ?_
  refine jV (pc := 6) F 0 0 (z99 hZ) cls11.1 (c_X8_cannotProve u hZ p_2 hI w_3 ((f_5 100 (by decide)).trans h100) (by omega) (fun h_6 => ?_) (fun h_7 h_8 => ?_) (fun h_9 h_10 => ?_)) rfl ⟨k_X8_cannotProve, il_RX8_210, im_X8_cannotProve, is_X8_cannotProve, ii_RX8⟩ 1 rfl hd_X8_cannotProve ⟨by decide, by decide, by decide, by decide, Nat.le_of_ble_eq_true rfl⟩ dX8_addProof_6
  · refine j1 ?_
    refine ia_istore_n (pc := 9) F (ls' := [(4, ((99 : Nat) : Int)), (0, u), (0, 1)]) dX8_addProof_9 (Nat.le_of_ble_eq_true rfl) rfl rfl ?_
    refine ia_iload_n (pc := 10) F dX8_addProof_10 rfl ?_
    refine ia_if_le (pc := 11) F 22 dX8_addProof_11 rfl (by omega) (fun h9 => absurd h9 (by omega)) (fun _ => ?_)
    refine ia_aload_n (pc := 14) F dX8_addProof_14 rfl ?_
    refine ia_iload_n (pc := 15) F dX8_addProof_15 rfl ?_
    refine jV (pc := 16) F 0 0 (z99 hZ) cls11.1 (c_X8_fail 1 hZ p_2 w_3 ((f_5 100 (by decide)).trans h100) (fun V_11 p_12 w_13 f_14 => ?_)) rfl ⟨k_X8_fail, il_RX8_106, im_X8_fail, is_X8_fail, ii_RX8⟩ 1 rfl hd_X8_fail ⟨by decide, by decide, by decide, by decide, Nat.le_of_ble_eq_true rfl⟩ dX8_addProof_16
    refine j1 ?_
    refine ia_goto (pc := 19) F 31 dX8_addProof_19 rfl ?_
    refine ia_ireturn (pc := 31) F M (by decide) (by decide) dX8_addProof_31 ?_
    exact q1 _ h_6 p_12 w_13 ((f_14 100 (by decide)).trans ((f_5 100 (by decide)).trans h100)) ((f_14 101 (by decide)).trans w_4) ((f_14 103 (by decide)).trans ((f_5 103 (by decide)).trans h103)) (Fr_c (Fr_c (Fr_0 (V := V) (S := [99, 100, 101, 103])) f_5 (by decide)) f_14 (by decide))
  · refine j1 ?_
    refine ia_istore_n (pc := 9) F (ls' := [(4, ((99 : Nat) : Int)), (0, u), (0, 2)]) dX8_addProof_9 (Nat.le_of_ble_eq_true rfl) rfl rfl ?_
    refine ia_iload_n (pc := 10) F dX8_addProof_10 rfl ?_
    refine ia_if_le (pc := 11) F 22 dX8_addProof_11 rfl (by omega) (fun h9 => absurd h9 (by omega)) (fun _ => ?_)
    refine ia_aload_n (pc := 14) F dX8_addProof_14 rfl ?_
    refine ia_iload_n (pc := 15) F dX8_addProof_15 rfl ?_
    refine jV (pc := 16) F 0 0 (z99 hZ) cls11.1 (c_X8_fail 2 hZ p_2 w_3 ((f_5 100 (by decide)).trans h100) (fun V_15 p_16 w_17 f_18 => ?_)) rfl ⟨k_X8_fail, il_RX8_106, im_X8_fail, is_X8_fail, ii_RX8⟩ 1 rfl hd_X8_fail ⟨by decide, by decide, by decide, by decide, Nat.le_of_ble_eq_true rfl⟩ dX8_addProof_16
    refine j1 ?_
    refine ia_goto (pc := 19) F 31 dX8_addProof_19 rfl ?_
    refine ia_ireturn (pc := 31) F M (by decide) (by decide) dX8_addProof_31 ?_
    exact q2 _ h_7 h_8 p_16 w_17 ((f_18 100 (by decide)).trans ((f_5 100 (by decide)).trans h100)) ((f_18 101 (by decide)).trans w_4) ((f_18 103 (by decide)).trans ((f_5 103 (by decide)).trans h103)) (Fr_c (Fr_c (Fr_0 (V := V) (S := [99, 100, 101, 103])) f_5 (by decide)) f_18 (by decide))
  · refine j1 ?_
    refine ia_istore_n (pc := 9) F (ls' := [(4, ((99 : Nat) : Int)), (0, u), (0, 0)]) dX8_addProof_9 (Nat.le_of_ble_eq_true rfl) rfl rfl ?_
    refine ia_iload_n (pc := 10) F dX8_addProof_10 rfl ?_
    refine ia_if_le (pc := 11) F 22 dX8_addProof_11 rfl (by omega) (fun _ => ?_) (fun h9 => absurd h9 (by omega))
    refine ia_aload_n (pc := 22) F dX8_addProof_22 rfl ?_
    refine ia_aload_n (pc := 23) F dX8_addProof_23 rfl ?_
    refine ia_iload_n (pc := 24) F dX8_addProof_24 rfl ?_
    refine jV (pc := 25) F 0 0 (z99 hZ) cls11.1 (c_X8_proves u hZ p_2 hI w_3 ((f_5 100 (by decide)).trans h100) (by omega) (fun V_19 p_20 w_21 f_22 => ?_)) rfl ⟨k_X8_proves, il_RX8_213, im_X8_proves, is_X8_proves, ii_RX8⟩ 1 rfl hd_X8_proves ⟨by decide, by decide, by decide, by decide, Nat.le_of_ble_eq_true rfl⟩ dX8_addProof_25
    refine j1 ?_
    refine jV (pc := 28) F 0 0 (z99 hZ) cls11.1 (c_X8_commit (σ 1 + 1 - 1) hZ p_20 ((f_22 99 (by decide)).trans w_3) w_21 ((f_22 101 (by decide)).trans w_4) ((f_22 103 (by decide)).trans ((f_5 103 (by decide)).trans h103)) (show 0 ≤ up μ 9 0 10 ∧ up μ 9 0 10 ≤ 8 from by rw [up_ne (by decide)]; exact hd) (fun V_23 p_24 w_25 w_26 f_27 => ?_)) rfl ⟨k_X8_commit, il_RX8_113, im_X8_commit, is_X8_commit, ii_RX8⟩ 1 rfl hd_X8_commit ⟨by decide, by decide, by decide, by decide, Nat.le_of_ble_eq_true rfl⟩ dX8_addProof_28
    refine j1 ?_
    refine ia_ireturn (pc := 31) F M (by decide) (by decide) dX8_addProof_31 ?_
    exact q3 _ h_9 h_10 p_24 w_25 ((f_27 100 (by decide)).trans w_21) ((f_27 101 (by decide)).trans ((f_22 101 (by decide)).trans w_4)) w_26 (Fr_c (Fr_c (Fr_c (Fr_0 (V := V) (S := [99, 100, 101, 103])) f_5 (by decide)) f_22 (by decide)) f_27 (by decide))
set_option maxRecDepth 100000 in
theorem c_X8_dropProof {Z : ia_Z} {V : ia_H} {Q : ia_O → ia_Z → ia_H → Prop} {σ : Nat → Int} {μ : Nat → Int} {β : Nat → Int} {η : Nat → Int} {m : Int} (p : Int) (hZ : ZI Z) (hP : PI V) (hI : SI σ m) (h99 : V 99 = μ) (h100 : V 100 = σ) (h101 : V 101 = β) (h103 : V 103 = η) (rp : -2147483648 ≤ p ∧ p ≤ 2147483647) (hd : 0 ≤ μ 10 ∧ μ 10 ≤ 8) (q1 : ∀ (V1 : ia_H), (0 ≤ p ∧ p < σ 1) → PI V1 → (V1 99 = (up (up μ 9 0) 10 (hdep ((up μ 9 0) 10)))) → (V1 100 = s_drop σ p.toNat) → (V1 101 = cpy σ β 0 0 72) → (V1 103 = s_hist (cpy σ β 0 0 72) η ((up μ 9 0) 10)) → (∀ pp, pp ∉ ([99, 100, 101, 103] : List Nat) → V1 pp = V pp) → Q (.inl (some (0, (σ 1 - 1)))) Z V1) (q2 : ∀ (V1 : ia_H), (¬ (0 ≤ p ∧ p < σ 1)) → PI V1 → (V1 99 = (up (up μ 9 0) 9 1)) → (V1 100 = σ) → (V1 101 = cpy σ β 0 0 72) → (V1 103 = η) → (∀ pp, pp ∉ ([99, 100, 101, 103] : List Nat) → V1 pp = V pp) → Q (.inl (some (0, 0))) Z V1) : ia_K yX8_dropProof cX8_dropProof 2 (some .int) [(4, ((99 : Nat) : Int)), (0, p)] Z V 6 0 0 Q := by
  refine ia_start RX8 "dropProof" ⟨by decide, rfl, rfl⟩ (Nat.le_of_ble_eq_true rfl) (ia_tg rfl) (fun X F M => ?_)
  show ia_G X 0 0 0 [(4, ((99 : Nat) : Int)), (0, p)] [] Z V
  obtain ⟨s0, s1, s2, s3, s4, s5, s6, s7, s18, sb, sw, se, sp⟩ := id hI
  refine ia_aload_n (pc := 0) F dX8_dropProof_0 rfl ?_
  refine jV (pc := 1) F 0 0 (z99 hZ) cls11.1 (c_X8_begin hZ hP h99 h100 h101 (fun V_1 p_2 w_3 w_4 f_5 => ?_)) rfl ⟨k_X8_begin, il_RX8_99, im_X8_begin, is_X8_begin, ii_RX8⟩ 0 rfl hd_X8_begin ⟨by decide, by decide, by decide, by decide, Nat.le_of_ble_eq_true rfl⟩ dX8_dropProof_1
  refine j0 ?_
  refine ia_aload_n (pc := 4) F dX8_dropProof_4 rfl ?_
  refine ia_iload_n (pc := 5) F dX8_dropProof_5 rfl ?_
  refine jV (pc := 6) F 0 0 (z99 hZ) cls11.1 (c_X8_isProof p hZ p_2 hI w_3 ((f_5 100 (by decide)).trans h100) (by omega) (fun h_6 => ?_) (fun h_7 => ?_)) rfl ⟨k_X8_isProof, il_RX8_216, im_X8_isProof, is_X8_isProof, ii_RX8⟩ 1 rfl hd_X8_isProof ⟨by decide, by decide, by decide, by decide, Nat.le_of_ble_eq_true rfl⟩ dX8_dropProof_6
  · refine j1 ?_
    refine ia_if_eq (pc := 9) F 24 dX8_dropProof_9 rfl (by omega) (fun h9 => absurd h9 (by omega)) (fun _ => ?_)
    refine ia_aload_n (pc := 12) F dX8_dropProof_12 rfl ?_
    refine ia_aload_n (pc := 13) F dX8_dropProof_13 rfl ?_
    refine ia_iload_n (pc := 14) F dX8_dropProof_14 rfl ?_
    refine jV (pc := 15) F 0 0 (z99 hZ) cls11.1 (c_X8_drops p hZ p_2 hI w_3 ((f_5 100 (by decide)).trans h100) (by omega) (fun V_8 p_9 w_10 f_11 => ?_)) rfl ⟨k_X8_drops, il_RX8_219, im_X8_drops, is_X8_drops, ii_RX8⟩ 1 rfl hd_X8_drops ⟨by decide, by decide, by decide, by decide, Nat.le_of_ble_eq_true rfl⟩ dX8_dropProof_15
    refine j1 ?_
    refine jV (pc := 18) F 0 0 (z99 hZ) cls11.1 (c_X8_commit (σ 1 - 1) hZ p_9 ((f_11 99 (by decide)).trans w_3) w_10 ((f_11 101 (by decide)).trans w_4) ((f_11 103 (by decide)).trans ((f_5 103 (by decide)).trans h103)) (show 0 ≤ up μ 9 0 10 ∧ up μ 9 0 10 ≤ 8 from by rw [up_ne (by decide)]; exact hd) (fun V_12 p_13 w_14 w_15 f_16 => ?_)) rfl ⟨k_X8_commit, il_RX8_113, im_X8_commit, is_X8_commit, ii_RX8⟩ 1 rfl hd_X8_commit ⟨by decide, by decide, by decide, by decide, Nat.le_of_ble_eq_true rfl⟩ dX8_dropProof_18
    refine j1 ?_
    refine ia_goto (pc := 21) F 29 dX8_dropProof_21 rfl ?_
    refine ia_ireturn (pc := 29) F M (by decide) (by decide) dX8_dropProof_29 ?_
    exact q1 _ h_6 p_13 w_14 ((f_16 100 (by decide)).trans w_10) ((f_16 101 (by decide)).trans ((f_11 101 (by decide)).trans w_4)) w_15 (Fr_c (Fr_c (Fr_c (Fr_0 (V := V) (S := [99, 100, 101, 103])) f_5 (by decide)) f_11 (by decide)) f_16 (by decide))
  · refine j1 ?_
    refine ia_if_eq (pc := 9) F 24 dX8_dropProof_9 rfl (by omega) (fun _ => ?_) (fun h9 => absurd h9 (by omega))
    refine ia_aload_n (pc := 24) F dX8_dropProof_24 rfl ?_
    refine ia_iconst (pc := 25) F dX8_dropProof_25 ?_
    refine jV (pc := 26) F 0 0 (z99 hZ) cls11.1 (c_X8_fail 1 hZ p_2 w_3 ((f_5 100 (by decide)).trans h100) (fun V_17 p_18 w_19 f_20 => ?_)) rfl ⟨k_X8_fail, il_RX8_106, im_X8_fail, is_X8_fail, ii_RX8⟩ 1 rfl hd_X8_fail ⟨by decide, by decide, by decide, by decide, Nat.le_of_ble_eq_true rfl⟩ dX8_dropProof_26
    refine j1 ?_
    refine ia_ireturn (pc := 29) F M (by decide) (by decide) dX8_dropProof_29 ?_
    exact q2 _ h_7 p_18 w_19 ((f_20 100 (by decide)).trans ((f_5 100 (by decide)).trans h100)) ((f_20 101 (by decide)).trans w_4) ((f_20 103 (by decide)).trans ((f_5 103 (by decide)).trans h103)) (Fr_c (Fr_c (Fr_0 (V := V) (S := [99, 100, 101, 103])) f_5 (by decide)) f_20 (by decide))
set_option maxRecDepth 100000 in
theorem c_X8_printAll {Z : ia_Z} {V : ia_H} {Q : ia_O → ia_Z → ia_H → Prop} {σ : Nat → Int} {μ : Nat → Int} {β : Nat → Int} {η : Nat → Int} {φ : Nat → Int} {ψ : Nat → Int} {ω : Nat → Int} {m : Int} (hZ : ZI Z) (hP : PI V) (hI : SI σ m) (h99 : V 99 = μ) (h100 : V 100 = σ) (h101 : V 101 = β) (h103 : V 103 = η) (h104 : V 104 = φ) (h105 : V 105 = ψ) (h108 : V 108 = ω) (hd : 0 ≤ μ 10 ∧ μ 10 ≤ 8) (hm : m + 1 ≤ 20000) (q1 : ∀ (V1 : ia_H), PI V1 → (V1 99 = up (up μ 9 0) 10 (hdep (μ 10))) → (V1 101 = cpy σ β 0 0 72) → (V1 100 = s_all σ) → (V1 103 = s_hist (cpy σ β 0 0 72) η (μ 10)) → (∀ pp, pp ∉ ([99, 100, 101, 103, 104, 105, 108] : List Nat) → V1 pp = V pp) → Q (.inl (some (0, (n_all σ)))) Z V1) : ia_K yX8_printAll cX8_printAll 1 (some .int) [(4, ((99 : Nat) : Int))] Z V 8 0 0 Q := by
  refine ia_start RX8 "printAll" ⟨by decide, rfl, rfl⟩ (Nat.le_of_ble_eq_true rfl) (ia_tg rfl) (fun X F M => ?_)
  show ia_G X 0 0 0 [(4, ((99 : Nat) : Int))] [] Z V
  obtain ⟨s0, s1, s2, s3, s4, s5, s6, s7, s18, sb, sw, se, sp⟩ := id hI
  refine ia_aload_n (pc := 0) F dX8_printAll_0 rfl ?_
  refine jV (pc := 1) F 0 0 (z99 hZ) cls11.1 (c_X8_begin hZ hP h99 h100 h101 (fun V_1 p_2 w_3 w_4 f_5 => ?_)) rfl ⟨k_X8_begin, il_RX8_99, im_X8_begin, is_X8_begin, ii_RX8⟩ 0 rfl hd_X8_begin ⟨by decide, by decide, by decide, by decide, Nat.le_of_ble_eq_true rfl⟩ dX8_printAll_1
  refine j0 ?_
  refine ia_aload_n (pc := 4) F dX8_printAll_4 rfl ?_
  refine ia_aload_n (pc := 5) F dX8_printAll_5 rfl ?_
  refine jV (pc := 6) F 0 0 (z99 hZ) cls11.1 (c_X8_printsAll hZ p_2 hI w_3 ((f_5 100 (by decide)).trans h100) ((f_5 104 (by decide)).trans h104) ((f_5 105 (by decide)).trans h105) ((f_5 108 (by decide)).trans h108) (by omega) (fun V_6 p_7 w_8 f_9 => ?_)) rfl ⟨k_X8_printsAll, il_RX8_204, im_X8_printsAll, is_X8_printsAll, ii_RX8⟩ 0 rfl hd_X8_printsAll ⟨by decide, by decide, by decide, by decide, Nat.le_of_ble_eq_true rfl⟩ dX8_printAll_6
  refine j1 ?_
  refine jV (pc := 9) F 0 0 (z99 hZ) cls11.1 (c_X8_commit (n_all σ) hZ p_7 ((f_9 99 (by decide)).trans w_3) w_8 ((f_9 101 (by decide)).trans w_4) ((f_9 103 (by decide)).trans ((f_5 103 (by decide)).trans h103)) (show 0 ≤ up μ 9 0 10 ∧ up μ 9 0 10 ≤ 8 from by rw [up_ne (by decide)]; exact hd) (fun V_10 p_11 w_12 w_13 f_14 => ?_)) rfl ⟨k_X8_commit, il_RX8_113, im_X8_commit, is_X8_commit, ii_RX8⟩ 1 rfl hd_X8_commit ⟨by decide, by decide, by decide, by decide, Nat.le_of_ble_eq_true rfl⟩ dX8_printAll_9
  refine j1 ?_
  refine ia_ireturn (pc := 12) F M (by decide) (by decide) dX8_printAll_12 ?_
  exact q1 _ p_11 w_12 ((f_14 101 (by decide)).trans ((f_9 101 (by decide)).trans w_4)) ((f_14 100 (by decide)).trans w_8) w_13 (Fr_c (Fr_c (Fr_c (Fr_0 (V := V) (S := [99, 100, 101, 103, 104, 105, 108])) f_5 (by decide)) f_9 (by decide)) f_14 (by decide))
set_option maxRecDepth 100000 in
theorem c_X8_paper {Z : ia_Z} {V : ia_H} {Q : ia_O → ia_Z → ia_H → Prop} {σ : Nat → Int} {μ : Nat → Int} {m : Int} (hZ : ZI Z) (hP : PI V) (hI : SI σ m) (h99 : V 99 = μ) (h100 : V 100 = σ)  (q1 : ∀ (V1 : ia_H), PI V1 → (V1 99 = (up μ 9 0)) → (∀ pp, pp ∉ ([99] : List Nat) → V1 pp = V pp) → Q (.inl (some (0, (σ 2)))) Z V1) : ia_K yX8_paper cX8_paper 1 (some .int) [(4, ((99 : Nat) : Int))] Z V 3 0 0 Q := by
  refine ia_start RX8 "paper" ⟨by decide, rfl, rfl⟩ (Nat.le_of_ble_eq_true rfl) (ia_tg rfl) (fun X F M => ?_)
  show ia_G X 0 0 0 [(4, ((99 : Nat) : Int))] [] Z V
  obtain ⟨s0, s1, s2, s3, s4, s5, s6, s7, s18, sb, sw, se, sp⟩ := id hI
  refine ia_aload_n (pc := 0) F dX8_paper_0 rfl ?_
  refine ia_aload_n (pc := 1) F dX8_paper_1 rfl ?_
  refine jg (pc := 2) F (z99 hZ) cls11 f11_0 (hP 99 0 100 rfl) il_RX8_7 dX8_paper_2 ?_
  refine ia_iconst (pc := 5) F dX8_paper_5 ?_
  refine ja (pc := 6) F (v := σ 2) (z100 hZ) 2 rfl (by omega) (congrFun h100 2) dX8_paper_6 ?_
  refine jV (pc := 7) F 0 0 (z99 hZ) cls11.1 (c_X8_plain (σ 2) hZ hP h99 h100 (fun V_1 p_2 w_3 f_4 => ?_)) rfl ⟨k_X8_plain, il_RX8_129, im_X8_plain, is_X8_plain, ii_RX8⟩ 1 rfl hd_X8_plain ⟨by decide, by decide, by decide, by decide, Nat.le_of_ble_eq_true rfl⟩ dX8_paper_7
  refine j1 ?_
  refine ia_ireturn (pc := 10) F M (by decide) (by decide) dX8_paper_10 ?_
  exact q1 _ p_2 w_3 (Fr_c (Fr_0 (V := V) (S := [99])) f_4 (by decide))
set_option maxRecDepth 100000 in
theorem c_X8_hour {Z : ia_Z} {V : ia_H} {Q : ia_O → ia_Z → ia_H → Prop} {σ : Nat → Int} {μ : Nat → Int} {m : Int} (hZ : ZI Z) (hP : PI V) (hI : SI σ m) (h99 : V 99 = μ) (h100 : V 100 = σ)  (q1 : ∀ (V1 : ia_H), PI V1 → (V1 99 = (up μ 9 0)) → (∀ pp, pp ∉ ([99] : List Nat) → V1 pp = V pp) → Q (.inl (some (0, (σ 3)))) Z V1) : ia_K yX8_hour cX8_hour 1 (some .int) [(4, ((99 : Nat) : Int))] Z V 3 0 0 Q := by
  refine ia_start RX8 "hour" ⟨by decide, rfl, rfl⟩ (Nat.le_of_ble_eq_true rfl) (ia_tg rfl) (fun X F M => ?_)
  show ia_G X 0 0 0 [(4, ((99 : Nat) : Int))] [] Z V
  obtain ⟨s0, s1, s2, s3, s4, s5, s6, s7, s18, sb, sw, se, sp⟩ := id hI
  refine ia_aload_n (pc := 0) F dX8_hour_0 rfl ?_
  refine ia_aload_n (pc := 1) F dX8_hour_1 rfl ?_
  refine jg (pc := 2) F (z99 hZ) cls11 f11_0 (hP 99 0 100 rfl) il_RX8_7 dX8_hour_2 ?_
  refine ia_iconst (pc := 5) F dX8_hour_5 ?_
  refine ja (pc := 6) F (v := σ 3) (z100 hZ) 3 rfl (by omega) (congrFun h100 3) dX8_hour_6 ?_
  refine jV (pc := 7) F 0 0 (z99 hZ) cls11.1 (c_X8_plain (σ 3) hZ hP h99 h100 (fun V_1 p_2 w_3 f_4 => ?_)) rfl ⟨k_X8_plain, il_RX8_129, im_X8_plain, is_X8_plain, ii_RX8⟩ 1 rfl hd_X8_plain ⟨by decide, by decide, by decide, by decide, Nat.le_of_ble_eq_true rfl⟩ dX8_hour_7
  refine j1 ?_
  refine ia_ireturn (pc := 10) F M (by decide) (by decide) dX8_hour_10 ?_
  exact q1 _ p_2 w_3 (Fr_c (Fr_0 (V := V) (S := [99])) f_4 (by decide))
set_option maxRecDepth 100000 in
theorem c_X8_editionCount {Z : ia_Z} {V : ia_H} {Q : ia_O → ia_Z → ia_H → Prop} {σ : Nat → Int} {μ : Nat → Int} {m : Int} (hZ : ZI Z) (hP : PI V) (hI : SI σ m) (h99 : V 99 = μ) (h100 : V 100 = σ)  (q1 : ∀ (V1 : ia_H), PI V1 → (V1 99 = (up μ 9 0)) → (∀ pp, pp ∉ ([99] : List Nat) → V1 pp = V pp) → Q (.inl (some (0, (σ 0)))) Z V1) : ia_K yX8_editionCount cX8_editionCount 1 (some .int) [(4, ((99 : Nat) : Int))] Z V 3 0 0 Q := by
  refine ia_start RX8 "editionCount" ⟨by decide, rfl, rfl⟩ (Nat.le_of_ble_eq_true rfl) (ia_tg rfl) (fun X F M => ?_)
  show ia_G X 0 0 0 [(4, ((99 : Nat) : Int))] [] Z V
  obtain ⟨s0, s1, s2, s3, s4, s5, s6, s7, s18, sb, sw, se, sp⟩ := id hI
  refine ia_aload_n (pc := 0) F dX8_editionCount_0 rfl ?_
  refine ia_aload_n (pc := 1) F dX8_editionCount_1 rfl ?_
  refine jg (pc := 2) F (z99 hZ) cls11 f11_0 (hP 99 0 100 rfl) il_RX8_7 dX8_editionCount_2 ?_
  refine ia_iconst (pc := 5) F dX8_editionCount_5 ?_
  refine ja (pc := 6) F (v := σ 0) (z100 hZ) 0 rfl (by omega) (congrFun h100 0) dX8_editionCount_6 ?_
  refine jV (pc := 7) F 0 0 (z99 hZ) cls11.1 (c_X8_plain (σ 0) hZ hP h99 h100 (fun V_1 p_2 w_3 f_4 => ?_)) rfl ⟨k_X8_plain, il_RX8_129, im_X8_plain, is_X8_plain, ii_RX8⟩ 1 rfl hd_X8_plain ⟨by decide, by decide, by decide, by decide, Nat.le_of_ble_eq_true rfl⟩ dX8_editionCount_7
  refine j1 ?_
  refine ia_ireturn (pc := 10) F M (by decide) (by decide) dX8_editionCount_10 ?_
  exact q1 _ p_2 w_3 (Fr_c (Fr_0 (V := V) (S := [99])) f_4 (by decide))
set_option maxRecDepth 100000 in
theorem c_X8_proofCount {Z : ia_Z} {V : ia_H} {Q : ia_O → ia_Z → ia_H → Prop} {σ : Nat → Int} {μ : Nat → Int} {m : Int} (hZ : ZI Z) (hP : PI V) (hI : SI σ m) (h99 : V 99 = μ) (h100 : V 100 = σ)  (q1 : ∀ (V1 : ia_H), PI V1 → (V1 99 = (up μ 9 0)) → (∀ pp, pp ∉ ([99] : List Nat) → V1 pp = V pp) → Q (.inl (some (0, (σ 1)))) Z V1) : ia_K yX8_proofCount cX8_proofCount 1 (some .int) [(4, ((99 : Nat) : Int))] Z V 3 0 0 Q := by
  refine ia_start RX8 "proofCount" ⟨by decide, rfl, rfl⟩ (Nat.le_of_ble_eq_true rfl) (ia_tg rfl) (fun X F M => ?_)
  show ia_G X 0 0 0 [(4, ((99 : Nat) : Int))] [] Z V
  obtain ⟨s0, s1, s2, s3, s4, s5, s6, s7, s18, sb, sw, se, sp⟩ := id hI
  refine ia_aload_n (pc := 0) F dX8_proofCount_0 rfl ?_
  refine ia_aload_n (pc := 1) F dX8_proofCount_1 rfl ?_
  refine jg (pc := 2) F (z99 hZ) cls11 f11_0 (hP 99 0 100 rfl) il_RX8_7 dX8_proofCount_2 ?_
  refine ia_iconst (pc := 5) F dX8_proofCount_5 ?_
  refine ja (pc := 6) F (v := σ 1) (z100 hZ) 1 rfl (by omega) (congrFun h100 1) dX8_proofCount_6 ?_
  refine jV (pc := 7) F 0 0 (z99 hZ) cls11.1 (c_X8_plain (σ 1) hZ hP h99 h100 (fun V_1 p_2 w_3 f_4 => ?_)) rfl ⟨k_X8_plain, il_RX8_129, im_X8_plain, is_X8_plain, ii_RX8⟩ 1 rfl hd_X8_plain ⟨by decide, by decide, by decide, by decide, Nat.le_of_ble_eq_true rfl⟩ dX8_proofCount_7
  refine j1 ?_
  refine ia_ireturn (pc := 10) F M (by decide) (by decide) dX8_proofCount_10 ?_
  exact q1 _ p_2 w_3 (Fr_c (Fr_0 (V := V) (S := [99])) f_4 (by decide))
set_option maxRecDepth 100000 in
theorem c_X8_minutes {Z : ia_Z} {V : ia_H} {Q : ia_O → ia_Z → ia_H → Prop} {σ : Nat → Int} {μ : Nat → Int} {m : Int} (hZ : ZI Z) (hP : PI V) (hI : SI σ m) (h99 : V 99 = μ) (h100 : V 100 = σ)  (q1 : ∀ (V1 : ia_H), PI V1 → (V1 99 = (up μ 9 0)) → (∀ pp, pp ∉ ([99] : List Nat) → V1 pp = V pp) → Q (.inl (some (0, (σ 5)))) Z V1) : ia_K yX8_minutes cX8_minutes 1 (some .int) [(4, ((99 : Nat) : Int))] Z V 3 0 0 Q := by
  refine ia_start RX8 "minutes" ⟨by decide, rfl, rfl⟩ (Nat.le_of_ble_eq_true rfl) (ia_tg rfl) (fun X F M => ?_)
  show ia_G X 0 0 0 [(4, ((99 : Nat) : Int))] [] Z V
  obtain ⟨s0, s1, s2, s3, s4, s5, s6, s7, s18, sb, sw, se, sp⟩ := id hI
  refine ia_aload_n (pc := 0) F dX8_minutes_0 rfl ?_
  refine ia_aload_n (pc := 1) F dX8_minutes_1 rfl ?_
  refine jg (pc := 2) F (z99 hZ) cls11 f11_0 (hP 99 0 100 rfl) il_RX8_7 dX8_minutes_2 ?_
  refine ia_iconst (pc := 5) F dX8_minutes_5 ?_
  refine ja (pc := 6) F (v := σ 5) (z100 hZ) 5 rfl (by omega) (congrFun h100 5) dX8_minutes_6 ?_
  refine jV (pc := 7) F 0 0 (z99 hZ) cls11.1 (c_X8_plain (σ 5) hZ hP h99 h100 (fun V_1 p_2 w_3 f_4 => ?_)) rfl ⟨k_X8_plain, il_RX8_129, im_X8_plain, is_X8_plain, ii_RX8⟩ 1 rfl hd_X8_plain ⟨by decide, by decide, by decide, by decide, Nat.le_of_ble_eq_true rfl⟩ dX8_minutes_7
  refine j1 ?_
  refine ia_ireturn (pc := 10) F M (by decide) (by decide) dX8_minutes_10 ?_
  exact q1 _ p_2 w_3 (Fr_c (Fr_0 (V := V) (S := [99])) f_4 (by decide))
set_option maxRecDepth 100000 in
theorem c_X8_poured {Z : ia_Z} {V : ia_H} {Q : ia_O → ia_Z → ia_H → Prop} {σ : Nat → Int} {μ : Nat → Int} {m : Int} (hZ : ZI Z) (hP : PI V) (hI : SI σ m) (h99 : V 99 = μ) (h100 : V 100 = σ)  (q1 : ∀ (V1 : ia_H), PI V1 → (V1 99 = (up μ 9 0)) → (∀ pp, pp ∉ ([99] : List Nat) → V1 pp = V pp) → Q (.inl (some (0, (σ 6)))) Z V1) : ia_K yX8_poured cX8_poured 1 (some .int) [(4, ((99 : Nat) : Int))] Z V 3 0 0 Q := by
  refine ia_start RX8 "poured" ⟨by decide, rfl, rfl⟩ (Nat.le_of_ble_eq_true rfl) (ia_tg rfl) (fun X F M => ?_)
  show ia_G X 0 0 0 [(4, ((99 : Nat) : Int))] [] Z V
  obtain ⟨s0, s1, s2, s3, s4, s5, s6, s7, s18, sb, sw, se, sp⟩ := id hI
  refine ia_aload_n (pc := 0) F dX8_poured_0 rfl ?_
  refine ia_aload_n (pc := 1) F dX8_poured_1 rfl ?_
  refine jg (pc := 2) F (z99 hZ) cls11 f11_0 (hP 99 0 100 rfl) il_RX8_7 dX8_poured_2 ?_
  refine ia_bipush (pc := 5) F dX8_poured_5 (by decide) ?_
  refine ja (pc := 7) F (v := σ 6) (z100 hZ) 6 rfl (by omega) (congrFun h100 6) dX8_poured_7 ?_
  refine jV (pc := 8) F 0 0 (z99 hZ) cls11.1 (c_X8_plain (σ 6) hZ hP h99 h100 (fun V_1 p_2 w_3 f_4 => ?_)) rfl ⟨k_X8_plain, il_RX8_129, im_X8_plain, is_X8_plain, ii_RX8⟩ 1 rfl hd_X8_plain ⟨by decide, by decide, by decide, by decide, Nat.le_of_ble_eq_true rfl⟩ dX8_poured_8
  refine j1 ?_
  refine ia_ireturn (pc := 11) F M (by decide) (by decide) dX8_poured_11 ?_
  exact q1 _ p_2 w_3 (Fr_c (Fr_0 (V := V) (S := [99])) f_4 (by decide))
set_option maxRecDepth 100000 in
theorem c_X8_used {Z : ia_Z} {V : ia_H} {Q : ia_O → ia_Z → ia_H → Prop} {σ : Nat → Int} {μ : Nat → Int} {m : Int} (hZ : ZI Z) (hP : PI V) (hI : SI σ m) (h99 : V 99 = μ) (h100 : V 100 = σ)  (q1 : ∀ (V1 : ia_H), PI V1 → (V1 99 = (up μ 9 0)) → (∀ pp, pp ∉ ([99] : List Nat) → V1 pp = V pp) → Q (.inl (some (0, (σ 7)))) Z V1) : ia_K yX8_used cX8_used 1 (some .int) [(4, ((99 : Nat) : Int))] Z V 3 0 0 Q := by
  refine ia_start RX8 "used" ⟨by decide, rfl, rfl⟩ (Nat.le_of_ble_eq_true rfl) (ia_tg rfl) (fun X F M => ?_)
  show ia_G X 0 0 0 [(4, ((99 : Nat) : Int))] [] Z V
  obtain ⟨s0, s1, s2, s3, s4, s5, s6, s7, s18, sb, sw, se, sp⟩ := id hI
  refine ia_aload_n (pc := 0) F dX8_used_0 rfl ?_
  refine ia_aload_n (pc := 1) F dX8_used_1 rfl ?_
  refine jg (pc := 2) F (z99 hZ) cls11 f11_0 (hP 99 0 100 rfl) il_RX8_7 dX8_used_2 ?_
  refine ia_bipush (pc := 5) F dX8_used_5 (by decide) ?_
  refine ja (pc := 7) F (v := σ 7) (z100 hZ) 7 rfl (by omega) (congrFun h100 7) dX8_used_7 ?_
  refine jV (pc := 8) F 0 0 (z99 hZ) cls11.1 (c_X8_plain (σ 7) hZ hP h99 h100 (fun V_1 p_2 w_3 f_4 => ?_)) rfl ⟨k_X8_plain, il_RX8_129, im_X8_plain, is_X8_plain, ii_RX8⟩ 1 rfl hd_X8_plain ⟨by decide, by decide, by decide, by decide, Nat.le_of_ble_eq_true rfl⟩ dX8_used_8
  refine j1 ?_
  refine ia_ireturn (pc := 11) F M (by decide) (by decide) dX8_used_11 ?_
  exact q1 _ p_2 w_3 (Fr_c (Fr_0 (V := V) (S := [99])) f_4 (by decide))
set_option maxRecDepth 100000 in
theorem c_X8_pressColour {Z : ia_Z} {V : ia_H} {Q : ia_O → ia_Z → ia_H → Prop} {σ : Nat → Int} {μ : Nat → Int} {m : Int} (hZ : ZI Z) (hP : PI V) (hI : SI σ m) (h99 : V 99 = μ) (h100 : V 100 = σ)  (q1 : ∀ (V1 : ia_H), PI V1 → (V1 99 = (up μ 9 0)) → (∀ pp, pp ∉ ([99] : List Nat) → V1 pp = V pp) → Q (.inl (some (0, (σ 4)))) Z V1) : ia_K yX8_pressColour cX8_pressColour 1 (some .int) [(4, ((99 : Nat) : Int))] Z V 3 0 0 Q := by
  refine ia_start RX8 "pressColour" ⟨by decide, rfl, rfl⟩ (Nat.le_of_ble_eq_true rfl) (ia_tg rfl) (fun X F M => ?_)
  show ia_G X 0 0 0 [(4, ((99 : Nat) : Int))] [] Z V
  obtain ⟨s0, s1, s2, s3, s4, s5, s6, s7, s18, sb, sw, se, sp⟩ := id hI
  refine ia_aload_n (pc := 0) F dX8_pressColour_0 rfl ?_
  refine ia_aload_n (pc := 1) F dX8_pressColour_1 rfl ?_
  refine jg (pc := 2) F (z99 hZ) cls11 f11_0 (hP 99 0 100 rfl) il_RX8_7 dX8_pressColour_2 ?_
  refine ia_iconst (pc := 5) F dX8_pressColour_5 ?_
  refine ja (pc := 6) F (v := σ 4) (z100 hZ) 4 rfl (by omega) (congrFun h100 4) dX8_pressColour_6 ?_
  refine jV (pc := 7) F 0 0 (z99 hZ) cls11.1 (c_X8_plain (σ 4) hZ hP h99 h100 (fun V_1 p_2 w_3 f_4 => ?_)) rfl ⟨k_X8_plain, il_RX8_129, im_X8_plain, is_X8_plain, ii_RX8⟩ 1 rfl hd_X8_plain ⟨by decide, by decide, by decide, by decide, Nat.le_of_ble_eq_true rfl⟩ dX8_pressColour_7
  refine j1 ?_
  refine ia_ireturn (pc := 10) F M (by decide) (by decide) dX8_pressColour_10 ?_
  exact q1 _ p_2 w_3 (Fr_c (Fr_0 (V := V) (S := [99])) f_4 (by decide))
set_option maxRecDepth 100000 in
theorem c_X8_ink {Z : ia_Z} {V : ia_H} {Q : ia_O → ia_Z → ia_H → Prop} {σ : Nat → Int} {μ : Nat → Int} {m : Int} (c : Int) (hZ : ZI Z) (hP : PI V) (hI : SI σ m) (h99 : V 99 = μ) (h100 : V 100 = σ) (rc : -2147483648 ≤ c ∧ c ≤ 2147483647) (q1 : ∀ (V1 : ia_H), (0 ≤ c ∧ c ≤ 9) → PI V1 → (V1 99 = (up μ 9 0)) → (∀ pp, pp ∉ ([99] : List Nat) → V1 pp = V pp) → Q (.inl (some (0, wel σ c.toNat))) Z V1) (q2 : ∀ (V1 : ia_H), (¬ (0 ≤ c ∧ c ≤ 9)) → PI V1 → (V1 99 = (up μ 9 1)) → (∀ pp, pp ∉ ([99] : List Nat) → V1 pp = V pp) → Q (.inl (some (0, 0))) Z V1) : ia_K yX8_ink cX8_ink 2 (some .int) [(4, ((99 : Nat) : Int)), (0, c)] Z V 4 0 0 Q := by
  refine ia_start RX8 "ink" ⟨by decide, rfl, rfl⟩ (Nat.le_of_ble_eq_true rfl) (ia_tg rfl) (fun X F M => ?_)
  show ia_G X 0 0 0 [(4, ((99 : Nat) : Int)), (0, c)] [] Z V
  obtain ⟨s0, s1, s2, s3, s4, s5, s6, s7, s18, sb, sw, se, sp⟩ := id hI
  refine ia_aload_n (pc := 0) F dX8_ink_0 rfl ?_
  refine ia_iload_n (pc := 1) F dX8_ink_1 rfl ?_
  refine jS (pc := 2) F 0 0 (c_X8_isColour c (by omega) (fun h_1 => ?_) (fun h_2 => ?_)) rfl ⟨k_X8_isColour, il_RX8_95, it_X8_isColour, ii_RX8⟩ rfl 1 rfl hd_X8_isColour ⟨by decide, by decide, by decide, by decide, Nat.le_of_ble_eq_true rfl⟩ dX8_ink_2
  · refine j1 ?_
    refine jV (pc := 5) F 0 0 (z99 hZ) cls11.1 (c_X8_checked1 hZ hP h99 h100 (fun V_3 p_4 w_5 f_6 => ?_)) rfl ⟨k_X8_checked, il_RX8_125, im_X8_checked, is_X8_checked, ii_RX8⟩ 1 rfl hd_X8_checked ⟨by decide, by decide, by decide, by decide, Nat.le_of_ble_eq_true rfl⟩ dX8_ink_5
    refine j1 ?_
    refine ia_if_le (pc := 8) F 15 dX8_ink_8 rfl (by omega) (fun _ => ?_) (fun h9 => absurd h9 (by omega))
    refine ia_aload_n (pc := 15) F dX8_ink_15 rfl ?_
    refine jg (pc := 16) F (z99 hZ) cls11 f11_0 (p_4 99 0 100 rfl) il_RX8_7 dX8_ink_16 ?_
    refine ia_bipush (pc := 19) F dX8_ink_19 (by decide) ?_
    refine ia_iload_n (pc := 21) F dX8_ink_21 rfl ?_
    refine ia_iadd (pc := 22) F dX8_ink_22 ?_
    have r_7 := sw c.toNat (by omega)
    refine ja (pc := 23) F (v := wel σ c.toNat) (z100 hZ) (8 + c.toNat) (by omega) (by omega) (congrFun ((f_6 100 (by decide)).trans h100) (8 + c.toNat)) dX8_ink_23 ?_
    refine ia_ireturn (pc := 24) F M (by decide) (by decide) dX8_ink_24 ?_
    exact q1 _ h_1 p_4 w_5 (Fr_c (Fr_0 (V := V) (S := [99])) f_6 (by decide))
  · refine j1 ?_
    refine jV (pc := 5) F 0 0 (z99 hZ) cls11.1 (c_X8_checked0 hZ hP h99 h100 (fun V_8 p_9 w_10 f_11 => ?_)) rfl ⟨k_X8_checked, il_RX8_125, im_X8_checked, is_X8_checked, ii_RX8⟩ 1 rfl hd_X8_checked ⟨by decide, by decide, by decide, by decide, Nat.le_of_ble_eq_true rfl⟩ dX8_ink_5
    refine j1 ?_
    refine ia_if_le (pc := 8) F 15 dX8_ink_8 rfl (by omega) (fun h9 => absurd h9 (by omega)) (fun _ => ?_)
    refine ia_iconst (pc := 11) F dX8_ink_11 ?_
    refine ia_goto (pc := 12) F 24 dX8_ink_12 rfl ?_
    refine ia_ireturn (pc := 24) F M (by decide) (by decide) dX8_ink_24 ?_
    exact q2 _ h_2 p_9 w_10 (Fr_c (Fr_0 (V := V) (S := [99])) f_11 (by decide))
set_option maxRecDepth 100000 in
theorem c_X8_after {Z : ia_Z} {V : ia_H} {Q : ia_O → ia_Z → ia_H → Prop} {σ : Nat → Int} {μ : Nat → Int} {m : Int} (c : Int) (h : Int) (hZ : ZI Z) (hP : PI V) (hI : SI σ m) (h99 : V 99 = μ) (h100 : V 100 = σ) (rc : -2147483648 ≤ c ∧ c ≤ 2147483647) (rh : -2147483648 ≤ h ∧ h ≤ 2147483647) (q1 : ∀ (V1 : ia_H), (0 ≤ c ∧ c ≤ 9) → (0 ≤ h ∧ h ≤ 99) → PI V1 → (V1 99 = (up μ 9 0)) → (∀ pp, pp ∉ ([99] : List Nat) → V1 pp = V pp) → Q (.inl (some (0, (la σ c.toNat h.toNat)))) Z V1) (q2 : ∀ (V1 : ia_H), (0 ≤ c ∧ c ≤ 9) → (¬ (0 ≤ h ∧ h ≤ 99)) → PI V1 → (V1 99 = (up μ 9 1)) → (∀ pp, pp ∉ ([99] : List Nat) → V1 pp = V pp) → Q (.inl (some (0, 0))) Z V1) (q3 : ∀ (V1 : ia_H), (¬ (0 ≤ c ∧ c ≤ 9)) → PI V1 → (V1 99 = (up μ 9 1)) → (∀ pp, pp ∉ ([99] : List Nat) → V1 pp = V pp) → Q (.inl (some (0, 0))) Z V1) : ia_K yX8_after cX8_after 3 (some .int) [(4, ((99 : Nat) : Int)), (0, c), (0, h)] Z V 6 0 0 Q := by
  refine ia_start RX8 "after" ⟨by decide, rfl, rfl⟩ (Nat.le_of_ble_eq_true rfl) (ia_tg rfl) (fun X F M => ?_)
  show ia_G X 0 0 0 [(4, ((99 : Nat) : Int)), (0, c), (0, h)] [] Z V
  obtain ⟨s0, s1, s2, s3, s4, s5, s6, s7, s18, sb, sw, se, sp⟩ := id hI
  refine ia_aload_n (pc := 0) F dX8_after_0 rfl ?_
  refine ia_iload_n (pc := 1) F dX8_after_1 rfl ?_
  refine jS (pc := 2) F 0 0 (c_X8_isColour c (by omega) (fun h_1 => ?_) (fun h_2 => ?_)) rfl ⟨k_X8_isColour, il_RX8_95, it_X8_isColour, ii_RX8⟩ rfl 1 rfl hd_X8_isColour ⟨by decide, by decide, by decide, by decide, Nat.le_of_ble_eq_true rfl⟩ dX8_after_2
  · refine j1 ?_
    refine ia_if_eq (pc := 5) F 22 dX8_after_5 rfl (by omega) (fun h9 => absurd h9 (by omega)) (fun _ => ?_)
    refine ia_iload_n (pc := 8) F dX8_after_8 rfl ?_
    refine ia_iconst (pc := 9) F dX8_after_9 ?_
    refine ia_bipush (pc := 10) F dX8_after_10 (by decide) ?_
    refine jS (pc := 12) F 0 0 (c_X8_in h 0 99 (by omega) (by omega) (by omega) (fun h_3 => ?_) (fun h_4 => ?_)) rfl ⟨k_X8_in, il_RX8_91, it_X8_in, ii_RX8⟩ rfl 3 rfl hd_X8_in ⟨by decide, by decide, by decide, by decide, Nat.le_of_ble_eq_true rfl⟩ dX8_after_12
    · refine j1 ?_
      refine ia_if_eq (pc := 15) F 22 dX8_after_15 rfl (by omega) (fun h9 => absurd h9 (by omega)) (fun _ => ?_)
      refine ia_iconst (pc := 18) F dX8_after_18 ?_
      refine ia_goto (pc := 19) F 23 dX8_after_19 rfl ?_
      refine jV (pc := 23) F 0 0 (z99 hZ) cls11.1 (c_X8_checked1 hZ hP h99 h100 (fun V_5 p_6 w_7 f_8 => ?_)) rfl ⟨k_X8_checked, il_RX8_125, im_X8_checked, is_X8_checked, ii_RX8⟩ 1 rfl hd_X8_checked ⟨by decide, by decide, by decide, by decide, Nat.le_of_ble_eq_true rfl⟩ dX8_after_23
      refine j1 ?_
      refine ia_if_le (pc := 26) F 33 dX8_after_26 rfl (by omega) (fun _ => ?_) (fun h9 => absurd h9 (by omega))
      refine ia_aload_n (pc := 33) F dX8_after_33 rfl ?_
      refine ia_iload_n (pc := 34) F dX8_after_34 rfl ?_
      refine ia_iload_n (pc := 35) F dX8_after_35 rfl ?_
      refine jV (pc := 36) F 0 0 (z99 hZ) cls11.1 (c_X8_leftAfter c h hZ p_6 hI w_7 ((f_8 100 (by decide)).trans h100) (by omega) (by omega) ?_) rfl ⟨k_X8_leftAfter, il_RX8_132, im_X8_leftAfter, is_X8_leftAfter, ii_RX8⟩ 2 rfl hd_X8_leftAfter ⟨by decide, by decide, by decide, by decide, Nat.le_of_ble_eq_true rfl⟩ dX8_after_36
      refine j1 ?_
      refine ia_ireturn (pc := 39) F M (by decide) (by decide) dX8_after_39 ?_
      exact q1 _ h_1 h_3 p_6 w_7 (Fr_c (Fr_0 (V := V) (S := [99])) f_8 (by decide))
    · refine j1 ?_
      refine ia_if_eq (pc := 15) F 22 dX8_after_15 rfl (by omega) (fun _ => ?_) (fun h9 => absurd h9 (by omega))
      refine ia_iconst (pc := 22) F dX8_after_22 ?_
      refine jV (pc := 23) F 0 0 (z99 hZ) cls11.1 (c_X8_checked0 hZ hP h99 h100 (fun V_9 p_10 w_11 f_12 => ?_)) rfl ⟨k_X8_checked, il_RX8_125, im_X8_checked, is_X8_checked, ii_RX8⟩ 1 rfl hd_X8_checked ⟨by decide, by decide, by decide, by decide, Nat.le_of_ble_eq_true rfl⟩ dX8_after_23
      refine j1 ?_
      refine ia_if_le (pc := 26) F 33 dX8_after_26 rfl (by omega) (fun h9 => absurd h9 (by omega)) (fun _ => ?_)
      refine ia_iconst (pc := 29) F dX8_after_29 ?_
      refine ia_goto (pc := 30) F 39 dX8_after_30 rfl ?_
      refine ia_ireturn (pc := 39) F M (by decide) (by decide) dX8_after_39 ?_
      exact q2 _ h_1 h_4 p_10 w_11 (Fr_c (Fr_0 (V := V) (S := [99])) f_12 (by decide))
  · refine j1 ?_
    refine ia_if_eq (pc := 5) F 22 dX8_after_5 rfl (by omega) (fun _ => ?_) (fun h9 => absurd h9 (by omega))
    refine ia_iconst (pc := 22) F dX8_after_22 ?_
    refine jV (pc := 23) F 0 0 (z99 hZ) cls11.1 (c_X8_checked0 hZ hP h99 h100 (fun V_13 p_14 w_15 f_16 => ?_)) rfl ⟨k_X8_checked, il_RX8_125, im_X8_checked, is_X8_checked, ii_RX8⟩ 1 rfl hd_X8_checked ⟨by decide, by decide, by decide, by decide, Nat.le_of_ble_eq_true rfl⟩ dX8_after_23
    refine j1 ?_
    refine ia_if_le (pc := 26) F 33 dX8_after_26 rfl (by omega) (fun h9 => absurd h9 (by omega)) (fun _ => ?_)
    refine ia_iconst (pc := 29) F dX8_after_29 ?_
    refine ia_goto (pc := 30) F 39 dX8_after_30 rfl ?_
    refine ia_ireturn (pc := 39) F M (by decide) (by decide) dX8_after_39 ?_
    exact q3 _ h_2 p_14 w_15 (Fr_c (Fr_0 (V := V) (S := [99])) f_16 (by decide))
set_option maxRecDepth 100000 in
theorem c_X8_inkAfter {Z : ia_Z} {V : ia_H} {Q : ia_O → ia_Z → ia_H → Prop} {σ : Nat → Int} {μ : Nat → Int} {m : Int} (c : Int) (h : Int) (hZ : ZI Z) (hP : PI V) (hI : SI σ m) (h99 : V 99 = μ) (h100 : V 100 = σ) (rc : -2147483648 ≤ c ∧ c ≤ 2147483647) (rh : -2147483648 ≤ h ∧ h ≤ 2147483647) (q1 : ∀ (V1 : ia_H), (0 ≤ c ∧ c ≤ 9) → (0 ≤ h ∧ h ≤ 99) → PI V1 → (V1 99 = (up μ 9 0)) → (∀ pp, pp ∉ ([99] : List Nat) → V1 pp = V pp) → Q (.inl (some (0, (la σ c.toNat h.toNat)))) Z V1) (q2 : ∀ (V1 : ia_H), (0 ≤ c ∧ c ≤ 9) → (¬ (0 ≤ h ∧ h ≤ 99)) → PI V1 → (V1 99 = (up μ 9 1)) → (∀ pp, pp ∉ ([99] : List Nat) → V1 pp = V pp) → Q (.inl (some (0, 0))) Z V1) (q3 : ∀ (V1 : ia_H), (¬ (0 ≤ c ∧ c ≤ 9)) → PI V1 → (V1 99 = (up μ 9 1)) → (∀ pp, pp ∉ ([99] : List Nat) → V1 pp = V pp) → Q (.inl (some (0, 0))) Z V1) : ia_K yX8_inkAfter cX8_inkAfter 3 (some .int) [(4, ((99 : Nat) : Int)), (0, c), (0, h)] Z V 7 0 0 Q := by
  refine ia_start RX8 "inkAfter" ⟨by decide, rfl, rfl⟩ (Nat.le_of_ble_eq_true rfl) (ia_tg rfl) (fun X F M => ?_)
  show ia_G X 0 0 0 [(4, ((99 : Nat) : Int)), (0, c), (0, h)] [] Z V
  obtain ⟨s0, s1, s2, s3, s4, s5, s6, s7, s18, sb, sw, se, sp⟩ := id hI
  refine ia_aload_n (pc := 0) F dX8_inkAfter_0 rfl ?_
  refine ia_iload_n (pc := 1) F dX8_inkAfter_1 rfl ?_
  refine ia_iload_n (pc := 2) F dX8_inkAfter_2 rfl ?_
  refine jV (pc := 3) F 0 0 (z99 hZ) cls11.1 (c_X8_after c h hZ hP hI h99 h100 (by omega) (by omega) (fun V_1 h_2 h_3 p_4 w_5 f_6 => ?_) (fun V_7 h_8 h_9 p_10 w_11 f_12 => ?_) (fun V_13 h_14 p_15 w_16 f_17 => ?_)) rfl ⟨k_X8_after, il_RX8_135, im_X8_after, is_X8_after, ii_RX8⟩ 2 rfl hd_X8_after ⟨by decide, by decide, by decide, by decide, Nat.le_of_ble_eq_true rfl⟩ dX8_inkAfter_3
  · refine j1 ?_
    refine ia_ireturn (pc := 6) F M (by decide) (by decide) dX8_inkAfter_6 ?_
    exact q1 _ h_2 h_3 p_4 w_5 (Fr_c (Fr_0 (V := V) (S := [99])) f_6 (by decide))
  · refine j1 ?_
    refine ia_ireturn (pc := 6) F M (by decide) (by decide) dX8_inkAfter_6 ?_
    exact q2 _ h_8 h_9 p_10 w_11 (Fr_c (Fr_0 (V := V) (S := [99])) f_12 (by decide))
  · refine j1 ?_
    refine ia_ireturn (pc := 6) F M (by decide) (by decide) dX8_inkAfter_6 ?_
    exact q3 _ h_14 p_15 w_16 (Fr_c (Fr_0 (V := V) (S := [99])) f_17 (by decide))
set_option maxRecDepth 100000 in
theorem c_X8_inkByHalvings {Z : ia_Z} {V : ia_H} {Q : ia_O → ia_Z → ia_H → Prop} {σ : Nat → Int} {μ : Nat → Int} {m : Int} (c : Int) (h : Int) (hZ : ZI Z) (hP : PI V) (hI : SI σ m) (h99 : V 99 = μ) (h100 : V 100 = σ) (rc : -2147483648 ≤ c ∧ c ≤ 2147483647) (rh : -2147483648 ≤ h ∧ h ≤ 2147483647) (q1 : ∀ (V1 : ia_H), (0 ≤ c ∧ c ≤ 9) → (0 ≤ h ∧ h ≤ 99) → PI V1 → (V1 99 = (up μ 9 0)) → (∀ pp, pp ∉ ([99] : List Nat) → V1 pp = V pp) → Q (.inl (some (0, (la σ c.toNat h.toNat)))) Z V1) (q2 : ∀ (V1 : ia_H), (0 ≤ c ∧ c ≤ 9) → (¬ (0 ≤ h ∧ h ≤ 99)) → PI V1 → (V1 99 = (up μ 9 1)) → (∀ pp, pp ∉ ([99] : List Nat) → V1 pp = V pp) → Q (.inl (some (0, 0))) Z V1) (q3 : ∀ (V1 : ia_H), (¬ (0 ≤ c ∧ c ≤ 9)) → PI V1 → (V1 99 = (up μ 9 1)) → (∀ pp, pp ∉ ([99] : List Nat) → V1 pp = V pp) → Q (.inl (some (0, 0))) Z V1) : ia_K yX8_inkByHalvings cX8_inkByHalvings 3 (some .int) [(4, ((99 : Nat) : Int)), (0, c), (0, h)] Z V 7 0 0 Q := by
  refine ia_start RX8 "inkByHalvings" ⟨by decide, rfl, rfl⟩ (Nat.le_of_ble_eq_true rfl) (ia_tg rfl) (fun X F M => ?_)
  show ia_G X 0 0 0 [(4, ((99 : Nat) : Int)), (0, c), (0, h)] [] Z V
  obtain ⟨s0, s1, s2, s3, s4, s5, s6, s7, s18, sb, sw, se, sp⟩ := id hI
  refine ia_aload_n (pc := 0) F dX8_inkByHalvings_0 rfl ?_
  refine ia_iload_n (pc := 1) F dX8_inkByHalvings_1 rfl ?_
  refine ia_iload_n (pc := 2) F dX8_inkByHalvings_2 rfl ?_
  refine jV (pc := 3) F 0 0 (z99 hZ) cls11.1 (c_X8_after c h hZ hP hI h99 h100 (by omega) (by omega) (fun V_1 h_2 h_3 p_4 w_5 f_6 => ?_) (fun V_7 h_8 h_9 p_10 w_11 f_12 => ?_) (fun V_13 h_14 p_15 w_16 f_17 => ?_)) rfl ⟨k_X8_after, il_RX8_135, im_X8_after, is_X8_after, ii_RX8⟩ 2 rfl hd_X8_after ⟨by decide, by decide, by decide, by decide, Nat.le_of_ble_eq_true rfl⟩ dX8_inkByHalvings_3
  · refine j1 ?_
    refine ia_ireturn (pc := 6) F M (by decide) (by decide) dX8_inkByHalvings_6 ?_
    exact q1 _ h_2 h_3 p_4 w_5 (Fr_c (Fr_0 (V := V) (S := [99])) f_6 (by decide))
  · refine j1 ?_
    refine ia_ireturn (pc := 6) F M (by decide) (by decide) dX8_inkByHalvings_6 ?_
    exact q2 _ h_8 h_9 p_10 w_11 (Fr_c (Fr_0 (V := V) (S := [99])) f_12 (by decide))
  · refine j1 ?_
    refine ia_ireturn (pc := 6) F M (by decide) (by decide) dX8_inkByHalvings_6 ?_
    exact q3 _ h_14 p_15 w_16 (Fr_c (Fr_0 (V := V) (S := [99])) f_17 (by decide))
set_option maxRecDepth 100000 in
theorem c_X8_of0 {Z : ia_Z} {V : ia_H} {Q : ia_O → ia_Z → ia_H → Prop} {σ : Nat → Int} {μ : Nat → Int} {m : Int} (e : Int) (hZ : ZI Z) (hP : PI V) (hI : SI σ m) (h99 : V 99 = μ) (h100 : V 100 = σ) (re : -2147483648 ≤ e ∧ e ≤ 2147483647) (q1 : ∀ (V1 : ia_H), (0 ≤ e ∧ e < σ 0) → PI V1 → (V1 99 = (up μ 9 0)) → (∀ pp, pp ∉ ([99] : List Nat) → V1 pp = V pp) → Q (.inl (some (0, (col σ e.toNat)))) Z V1) (q2 : ∀ (V1 : ia_H), (¬ (0 ≤ e ∧ e < σ 0)) → PI V1 → (V1 99 = (up μ 9 1)) → (∀ pp, pp ∉ ([99] : List Nat) → V1 pp = V pp) → Q (.inl (some (0, 0))) Z V1) : ia_K yX8_of cX8_of 3 (some .int) [(4, ((99 : Nat) : Int)), (0, e), (0, 0)] Z V 4 0 0 Q := by
  refine ia_start RX8 "of" ⟨by decide, rfl, rfl⟩ (Nat.le_of_ble_eq_true rfl) (ia_tg rfl) (fun X F M => ?_)
  show ia_G X 0 0 0 [(4, ((99 : Nat) : Int)), (0, e), (0, 0)] [] Z V
  obtain ⟨s0, s1, s2, s3, s4, s5, s6, s7, s18, sb, sw, se, sp⟩ := id hI
  refine ia_aload_n (pc := 0) F dX8_of_0 rfl ?_
  refine ia_aload_n (pc := 1) F dX8_of_1 rfl ?_
  refine ia_iload_n (pc := 2) F dX8_of_2 rfl ?_
  refine jV (pc := 3) F 0 0 (z99 hZ) cls11.1 (c_X8_isEdition e hZ hP hI h99 h100 (by omega) (fun h_1 => ?_) (fun h_2 => ?_)) rfl ⟨k_X8_isEdition, il_RX8_147, im_X8_isEdition, is_X8_isEdition, ii_RX8⟩ 1 rfl hd_X8_isEdition ⟨by decide, by decide, by decide, by decide, Nat.le_of_ble_eq_true rfl⟩ dX8_of_3
  · refine j1 ?_
    refine jV (pc := 6) F 0 0 (z99 hZ) cls11.1 (c_X8_checked1 hZ hP h99 h100 (fun V_3 p_4 w_5 f_6 => ?_)) rfl ⟨k_X8_checked, il_RX8_125, im_X8_checked, is_X8_checked, ii_RX8⟩ 1 rfl hd_X8_checked ⟨by decide, by decide, by decide, by decide, Nat.le_of_ble_eq_true rfl⟩ dX8_of_6
    refine j1 ?_
    refine ia_if_le (pc := 9) F 16 dX8_of_9 rfl (by omega) (fun _ => ?_) (fun h9 => absurd h9 (by omega))
    refine ia_aload_n (pc := 16) F dX8_of_16 rfl ?_
    refine ia_iload_n (pc := 17) F dX8_of_17 rfl ?_
    refine ia_iload_n (pc := 18) F dX8_of_18 rfl ?_
    refine jV (pc := 19) F 0 0 (z99 hZ) cls11.1 (c_X8_e0 e hZ p_4 hI w_5 ((f_6 100 (by decide)).trans h100) (by omega) ?_) rfl ⟨k_X8_e, il_RX8_138, im_X8_e, is_X8_e, ii_RX8⟩ 2 rfl hd_X8_e ⟨by decide, by decide, by decide, by decide, Nat.le_of_ble_eq_true rfl⟩ dX8_of_19
    refine j1 ?_
    refine ia_ireturn (pc := 22) F M (by decide) (by decide) dX8_of_22 ?_
    exact q1 _ h_1 p_4 w_5 (Fr_c (Fr_0 (V := V) (S := [99])) f_6 (by decide))
  · refine j1 ?_
    refine jV (pc := 6) F 0 0 (z99 hZ) cls11.1 (c_X8_checked0 hZ hP h99 h100 (fun V_7 p_8 w_9 f_10 => ?_)) rfl ⟨k_X8_checked, il_RX8_125, im_X8_checked, is_X8_checked, ii_RX8⟩ 1 rfl hd_X8_checked ⟨by decide, by decide, by decide, by decide, Nat.le_of_ble_eq_true rfl⟩ dX8_of_6
    refine j1 ?_
    refine ia_if_le (pc := 9) F 16 dX8_of_9 rfl (by omega) (fun h9 => absurd h9 (by omega)) (fun _ => ?_)
    refine ia_iconst (pc := 12) F dX8_of_12 ?_
    refine ia_goto (pc := 13) F 22 dX8_of_13 rfl ?_
    refine ia_ireturn (pc := 22) F M (by decide) (by decide) dX8_of_22 ?_
    exact q2 _ h_2 p_8 w_9 (Fr_c (Fr_0 (V := V) (S := [99])) f_10 (by decide))
set_option maxRecDepth 100000 in
theorem c_X8_of1 {Z : ia_Z} {V : ia_H} {Q : ia_O → ia_Z → ia_H → Prop} {σ : Nat → Int} {μ : Nat → Int} {m : Int} (e : Int) (hZ : ZI Z) (hP : PI V) (hI : SI σ m) (h99 : V 99 = μ) (h100 : V 100 = σ) (re : -2147483648 ≤ e ∧ e ≤ 2147483647) (q1 : ∀ (V1 : ia_H), (0 ≤ e ∧ e < σ 0) → PI V1 → (V1 99 = (up μ 9 0)) → (∀ pp, pp ∉ ([99] : List Nat) → V1 pp = V pp) → Q (.inl (some (0, (run σ e.toNat)))) Z V1) (q2 : ∀ (V1 : ia_H), (¬ (0 ≤ e ∧ e < σ 0)) → PI V1 → (V1 99 = (up μ 9 1)) → (∀ pp, pp ∉ ([99] : List Nat) → V1 pp = V pp) → Q (.inl (some (0, 0))) Z V1) : ia_K yX8_of cX8_of 3 (some .int) [(4, ((99 : Nat) : Int)), (0, e), (0, 1)] Z V 4 0 0 Q := by
  refine ia_start RX8 "of" ⟨by decide, rfl, rfl⟩ (Nat.le_of_ble_eq_true rfl) (ia_tg rfl) (fun X F M => ?_)
  show ia_G X 0 0 0 [(4, ((99 : Nat) : Int)), (0, e), (0, 1)] [] Z V
  obtain ⟨s0, s1, s2, s3, s4, s5, s6, s7, s18, sb, sw, se, sp⟩ := id hI
  refine ia_aload_n (pc := 0) F dX8_of_0 rfl ?_
  refine ia_aload_n (pc := 1) F dX8_of_1 rfl ?_
  refine ia_iload_n (pc := 2) F dX8_of_2 rfl ?_
  refine jV (pc := 3) F 0 0 (z99 hZ) cls11.1 (c_X8_isEdition e hZ hP hI h99 h100 (by omega) (fun h_1 => ?_) (fun h_2 => ?_)) rfl ⟨k_X8_isEdition, il_RX8_147, im_X8_isEdition, is_X8_isEdition, ii_RX8⟩ 1 rfl hd_X8_isEdition ⟨by decide, by decide, by decide, by decide, Nat.le_of_ble_eq_true rfl⟩ dX8_of_3
  · refine j1 ?_
    refine jV (pc := 6) F 0 0 (z99 hZ) cls11.1 (c_X8_checked1 hZ hP h99 h100 (fun V_3 p_4 w_5 f_6 => ?_)) rfl ⟨k_X8_checked, il_RX8_125, im_X8_checked, is_X8_checked, ii_RX8⟩ 1 rfl hd_X8_checked ⟨by decide, by decide, by decide, by decide, Nat.le_of_ble_eq_true rfl⟩ dX8_of_6
    refine j1 ?_
    refine ia_if_le (pc := 9) F 16 dX8_of_9 rfl (by omega) (fun _ => ?_) (fun h9 => absurd h9 (by omega))
    refine ia_aload_n (pc := 16) F dX8_of_16 rfl ?_
    refine ia_iload_n (pc := 17) F dX8_of_17 rfl ?_
    refine ia_iload_n (pc := 18) F dX8_of_18 rfl ?_
    refine jV (pc := 19) F 0 0 (z99 hZ) cls11.1 (c_X8_e1 e hZ p_4 hI w_5 ((f_6 100 (by decide)).trans h100) (by omega) ?_) rfl ⟨k_X8_e, il_RX8_138, im_X8_e, is_X8_e, ii_RX8⟩ 2 rfl hd_X8_e ⟨by decide, by decide, by decide, by decide, Nat.le_of_ble_eq_true rfl⟩ dX8_of_19
    refine j1 ?_
    refine ia_ireturn (pc := 22) F M (by decide) (by decide) dX8_of_22 ?_
    exact q1 _ h_1 p_4 w_5 (Fr_c (Fr_0 (V := V) (S := [99])) f_6 (by decide))
  · refine j1 ?_
    refine jV (pc := 6) F 0 0 (z99 hZ) cls11.1 (c_X8_checked0 hZ hP h99 h100 (fun V_7 p_8 w_9 f_10 => ?_)) rfl ⟨k_X8_checked, il_RX8_125, im_X8_checked, is_X8_checked, ii_RX8⟩ 1 rfl hd_X8_checked ⟨by decide, by decide, by decide, by decide, Nat.le_of_ble_eq_true rfl⟩ dX8_of_6
    refine j1 ?_
    refine ia_if_le (pc := 9) F 16 dX8_of_9 rfl (by omega) (fun h9 => absurd h9 (by omega)) (fun _ => ?_)
    refine ia_iconst (pc := 12) F dX8_of_12 ?_
    refine ia_goto (pc := 13) F 22 dX8_of_13 rfl ?_
    refine ia_ireturn (pc := 22) F M (by decide) (by decide) dX8_of_22 ?_
    exact q2 _ h_2 p_8 w_9 (Fr_c (Fr_0 (V := V) (S := [99])) f_10 (by decide))
set_option maxRecDepth 100000 in
theorem c_X8_of2 {Z : ia_Z} {V : ia_H} {Q : ia_O → ia_Z → ia_H → Prop} {σ : Nat → Int} {μ : Nat → Int} {m : Int} (e : Int) (hZ : ZI Z) (hP : PI V) (hI : SI σ m) (h99 : V 99 = μ) (h100 : V 100 = σ) (re : -2147483648 ≤ e ∧ e ≤ 2147483647) (q1 : ∀ (V1 : ia_H), (0 ≤ e ∧ e < σ 0) → PI V1 → (V1 99 = (up μ 9 0)) → (∀ pp, pp ∉ ([99] : List Nat) → V1 pp = V pp) → Q (.inl (some (0, (prt σ e.toNat)))) Z V1) (q2 : ∀ (V1 : ia_H), (¬ (0 ≤ e ∧ e < σ 0)) → PI V1 → (V1 99 = (up μ 9 1)) → (∀ pp, pp ∉ ([99] : List Nat) → V1 pp = V pp) → Q (.inl (some (0, 0))) Z V1) : ia_K yX8_of cX8_of 3 (some .int) [(4, ((99 : Nat) : Int)), (0, e), (0, 2)] Z V 4 0 0 Q := by
  refine ia_start RX8 "of" ⟨by decide, rfl, rfl⟩ (Nat.le_of_ble_eq_true rfl) (ia_tg rfl) (fun X F M => ?_)
  show ia_G X 0 0 0 [(4, ((99 : Nat) : Int)), (0, e), (0, 2)] [] Z V
  obtain ⟨s0, s1, s2, s3, s4, s5, s6, s7, s18, sb, sw, se, sp⟩ := id hI
  refine ia_aload_n (pc := 0) F dX8_of_0 rfl ?_
  refine ia_aload_n (pc := 1) F dX8_of_1 rfl ?_
  refine ia_iload_n (pc := 2) F dX8_of_2 rfl ?_
  refine jV (pc := 3) F 0 0 (z99 hZ) cls11.1 (c_X8_isEdition e hZ hP hI h99 h100 (by omega) (fun h_1 => ?_) (fun h_2 => ?_)) rfl ⟨k_X8_isEdition, il_RX8_147, im_X8_isEdition, is_X8_isEdition, ii_RX8⟩ 1 rfl hd_X8_isEdition ⟨by decide, by decide, by decide, by decide, Nat.le_of_ble_eq_true rfl⟩ dX8_of_3
  · refine j1 ?_
    refine jV (pc := 6) F 0 0 (z99 hZ) cls11.1 (c_X8_checked1 hZ hP h99 h100 (fun V_3 p_4 w_5 f_6 => ?_)) rfl ⟨k_X8_checked, il_RX8_125, im_X8_checked, is_X8_checked, ii_RX8⟩ 1 rfl hd_X8_checked ⟨by decide, by decide, by decide, by decide, Nat.le_of_ble_eq_true rfl⟩ dX8_of_6
    refine j1 ?_
    refine ia_if_le (pc := 9) F 16 dX8_of_9 rfl (by omega) (fun _ => ?_) (fun h9 => absurd h9 (by omega))
    refine ia_aload_n (pc := 16) F dX8_of_16 rfl ?_
    refine ia_iload_n (pc := 17) F dX8_of_17 rfl ?_
    refine ia_iload_n (pc := 18) F dX8_of_18 rfl ?_
    refine jV (pc := 19) F 0 0 (z99 hZ) cls11.1 (c_X8_e2 e hZ p_4 hI w_5 ((f_6 100 (by decide)).trans h100) (by omega) ?_) rfl ⟨k_X8_e, il_RX8_138, im_X8_e, is_X8_e, ii_RX8⟩ 2 rfl hd_X8_e ⟨by decide, by decide, by decide, by decide, Nat.le_of_ble_eq_true rfl⟩ dX8_of_19
    refine j1 ?_
    refine ia_ireturn (pc := 22) F M (by decide) (by decide) dX8_of_22 ?_
    exact q1 _ h_1 p_4 w_5 (Fr_c (Fr_0 (V := V) (S := [99])) f_6 (by decide))
  · refine j1 ?_
    refine jV (pc := 6) F 0 0 (z99 hZ) cls11.1 (c_X8_checked0 hZ hP h99 h100 (fun V_7 p_8 w_9 f_10 => ?_)) rfl ⟨k_X8_checked, il_RX8_125, im_X8_checked, is_X8_checked, ii_RX8⟩ 1 rfl hd_X8_checked ⟨by decide, by decide, by decide, by decide, Nat.le_of_ble_eq_true rfl⟩ dX8_of_6
    refine j1 ?_
    refine ia_if_le (pc := 9) F 16 dX8_of_9 rfl (by omega) (fun h9 => absurd h9 (by omega)) (fun _ => ?_)
    refine ia_iconst (pc := 12) F dX8_of_12 ?_
    refine ia_goto (pc := 13) F 22 dX8_of_13 rfl ?_
    refine ia_ireturn (pc := 22) F M (by decide) (by decide) dX8_of_22 ?_
    exact q2 _ h_2 p_8 w_9 (Fr_c (Fr_0 (V := V) (S := [99])) f_10 (by decide))
set_option maxRecDepth 100000 in
theorem c_X8_colourOf {Z : ia_Z} {V : ia_H} {Q : ia_O → ia_Z → ia_H → Prop} {σ : Nat → Int} {μ : Nat → Int} {m : Int} (e : Int) (hZ : ZI Z) (hP : PI V) (hI : SI σ m) (h99 : V 99 = μ) (h100 : V 100 = σ) (re : -2147483648 ≤ e ∧ e ≤ 2147483647) (q1 : ∀ (V1 : ia_H), (0 ≤ e ∧ e < σ 0) → PI V1 → (V1 99 = (up μ 9 0)) → (∀ pp, pp ∉ ([99] : List Nat) → V1 pp = V pp) → Q (.inl (some (0, (col σ e.toNat)))) Z V1) (q2 : ∀ (V1 : ia_H), (¬ (0 ≤ e ∧ e < σ 0)) → PI V1 → (V1 99 = (up μ 9 1)) → (∀ pp, pp ∉ ([99] : List Nat) → V1 pp = V pp) → Q (.inl (some (0, 0))) Z V1) : ia_K yX8_colourOf cX8_colourOf 2 (some .int) [(4, ((99 : Nat) : Int)), (0, e)] Z V 5 0 0 Q := by
  refine ia_start RX8 "colourOf" ⟨by decide, rfl, rfl⟩ (Nat.le_of_ble_eq_true rfl) (ia_tg rfl) (fun X F M => ?_)
  show ia_G X 0 0 0 [(4, ((99 : Nat) : Int)), (0, e)] [] Z V
  obtain ⟨s0, s1, s2, s3, s4, s5, s6, s7, s18, sb, sw, se, sp⟩ := id hI
  refine ia_aload_n (pc := 0) F dX8_colourOf_0 rfl ?_
  refine ia_iload_n (pc := 1) F dX8_colourOf_1 rfl ?_
  refine ia_iconst (pc := 2) F dX8_colourOf_2 ?_
  refine jV (pc := 3) F 0 0 (z99 hZ) cls11.1 (c_X8_of0 e hZ hP hI h99 h100 (by omega) (fun V_1 h_2 p_3 w_4 f_5 => ?_) (fun V_6 h_7 p_8 w_9 f_10 => ?_)) rfl ⟨k_X8_of, il_RX8_207, im_X8_of, is_X8_of, ii_RX8⟩ 2 rfl hd_X8_of ⟨by decide, by decide, by decide, by decide, Nat.le_of_ble_eq_true rfl⟩ dX8_colourOf_3
  · refine j1 ?_
    refine ia_ireturn (pc := 6) F M (by decide) (by decide) dX8_colourOf_6 ?_
    exact q1 _ h_2 p_3 w_4 (Fr_c (Fr_0 (V := V) (S := [99])) f_5 (by decide))
  · refine j1 ?_
    refine ia_ireturn (pc := 6) F M (by decide) (by decide) dX8_colourOf_6 ?_
    exact q2 _ h_7 p_8 w_9 (Fr_c (Fr_0 (V := V) (S := [99])) f_10 (by decide))
set_option maxRecDepth 100000 in
theorem c_X8_runOf {Z : ia_Z} {V : ia_H} {Q : ia_O → ia_Z → ia_H → Prop} {σ : Nat → Int} {μ : Nat → Int} {m : Int} (e : Int) (hZ : ZI Z) (hP : PI V) (hI : SI σ m) (h99 : V 99 = μ) (h100 : V 100 = σ) (re : -2147483648 ≤ e ∧ e ≤ 2147483647) (q1 : ∀ (V1 : ia_H), (0 ≤ e ∧ e < σ 0) → PI V1 → (V1 99 = (up μ 9 0)) → (∀ pp, pp ∉ ([99] : List Nat) → V1 pp = V pp) → Q (.inl (some (0, (run σ e.toNat)))) Z V1) (q2 : ∀ (V1 : ia_H), (¬ (0 ≤ e ∧ e < σ 0)) → PI V1 → (V1 99 = (up μ 9 1)) → (∀ pp, pp ∉ ([99] : List Nat) → V1 pp = V pp) → Q (.inl (some (0, 0))) Z V1) : ia_K yX8_runOf cX8_runOf 2 (some .int) [(4, ((99 : Nat) : Int)), (0, e)] Z V 5 0 0 Q := by
  refine ia_start RX8 "runOf" ⟨by decide, rfl, rfl⟩ (Nat.le_of_ble_eq_true rfl) (ia_tg rfl) (fun X F M => ?_)
  show ia_G X 0 0 0 [(4, ((99 : Nat) : Int)), (0, e)] [] Z V
  obtain ⟨s0, s1, s2, s3, s4, s5, s6, s7, s18, sb, sw, se, sp⟩ := id hI
  refine ia_aload_n (pc := 0) F dX8_runOf_0 rfl ?_
  refine ia_iload_n (pc := 1) F dX8_runOf_1 rfl ?_
  refine ia_iconst (pc := 2) F dX8_runOf_2 ?_
  refine jV (pc := 3) F 0 0 (z99 hZ) cls11.1 (c_X8_of1 e hZ hP hI h99 h100 (by omega) (fun V_1 h_2 p_3 w_4 f_5 => ?_) (fun V_6 h_7 p_8 w_9 f_10 => ?_)) rfl ⟨k_X8_of, il_RX8_207, im_X8_of, is_X8_of, ii_RX8⟩ 2 rfl hd_X8_of ⟨by decide, by decide, by decide, by decide, Nat.le_of_ble_eq_true rfl⟩ dX8_runOf_3
  · refine j1 ?_
    refine ia_ireturn (pc := 6) F M (by decide) (by decide) dX8_runOf_6 ?_
    exact q1 _ h_2 p_3 w_4 (Fr_c (Fr_0 (V := V) (S := [99])) f_5 (by decide))
  · refine j1 ?_
    refine ia_ireturn (pc := 6) F M (by decide) (by decide) dX8_runOf_6 ?_
    exact q2 _ h_7 p_8 w_9 (Fr_c (Fr_0 (V := V) (S := [99])) f_10 (by decide))
set_option maxRecDepth 100000 in
theorem c_X8_printedOf {Z : ia_Z} {V : ia_H} {Q : ia_O → ia_Z → ia_H → Prop} {σ : Nat → Int} {μ : Nat → Int} {m : Int} (e : Int) (hZ : ZI Z) (hP : PI V) (hI : SI σ m) (h99 : V 99 = μ) (h100 : V 100 = σ) (re : -2147483648 ≤ e ∧ e ≤ 2147483647) (q1 : ∀ (V1 : ia_H), (0 ≤ e ∧ e < σ 0) → PI V1 → (V1 99 = (up μ 9 0)) → (∀ pp, pp ∉ ([99] : List Nat) → V1 pp = V pp) → Q (.inl (some (0, (prt σ e.toNat)))) Z V1) (q2 : ∀ (V1 : ia_H), (¬ (0 ≤ e ∧ e < σ 0)) → PI V1 → (V1 99 = (up μ 9 1)) → (∀ pp, pp ∉ ([99] : List Nat) → V1 pp = V pp) → Q (.inl (some (0, 0))) Z V1) : ia_K yX8_printedOf cX8_printedOf 2 (some .int) [(4, ((99 : Nat) : Int)), (0, e)] Z V 5 0 0 Q := by
  refine ia_start RX8 "printedOf" ⟨by decide, rfl, rfl⟩ (Nat.le_of_ble_eq_true rfl) (ia_tg rfl) (fun X F M => ?_)
  show ia_G X 0 0 0 [(4, ((99 : Nat) : Int)), (0, e)] [] Z V
  obtain ⟨s0, s1, s2, s3, s4, s5, s6, s7, s18, sb, sw, se, sp⟩ := id hI
  refine ia_aload_n (pc := 0) F dX8_printedOf_0 rfl ?_
  refine ia_iload_n (pc := 1) F dX8_printedOf_1 rfl ?_
  refine ia_iconst (pc := 2) F dX8_printedOf_2 ?_
  refine jV (pc := 3) F 0 0 (z99 hZ) cls11.1 (c_X8_of2 e hZ hP hI h99 h100 (by omega) (fun V_1 h_2 p_3 w_4 f_5 => ?_) (fun V_6 h_7 p_8 w_9 f_10 => ?_)) rfl ⟨k_X8_of, il_RX8_207, im_X8_of, is_X8_of, ii_RX8⟩ 2 rfl hd_X8_of ⟨by decide, by decide, by decide, by decide, Nat.le_of_ble_eq_true rfl⟩ dX8_printedOf_3
  · refine j1 ?_
    refine ia_ireturn (pc := 6) F M (by decide) (by decide) dX8_printedOf_6 ?_
    exact q1 _ h_2 p_3 w_4 (Fr_c (Fr_0 (V := V) (S := [99])) f_5 (by decide))
  · refine j1 ?_
    refine ia_ireturn (pc := 6) F M (by decide) (by decide) dX8_printedOf_6 ?_
    exact q2 _ h_7 p_8 w_9 (Fr_c (Fr_0 (V := V) (S := [99])) f_10 (by decide))
set_option maxRecDepth 100000 in
theorem c_X8_isComplete {Z : ia_Z} {V : ia_H} {Q : ia_O → ia_Z → ia_H → Prop} {σ : Nat → Int} {μ : Nat → Int} {m : Int} (e : Int) (hZ : ZI Z) (hP : PI V) (hI : SI σ m) (h99 : V 99 = μ) (h100 : V 100 = σ) (re : -2147483648 ≤ e ∧ e ≤ 2147483647) (q1 : ∀ (V1 : ia_H), (0 ≤ e ∧ e < σ 0) → (¬ (miss σ e.toNat) = 0) → PI V1 → (V1 99 = (up μ 9 0)) → (∀ pp, pp ∉ ([99] : List Nat) → V1 pp = V pp) → Q (.inl (some (0, 0))) Z V1) (q2 : ∀ (V1 : ia_H), (0 ≤ e ∧ e < σ 0) → ((miss σ e.toNat) = 0) → PI V1 → (V1 99 = (up μ 9 0)) → (∀ pp, pp ∉ ([99] : List Nat) → V1 pp = V pp) → Q (.inl (some (0, 1))) Z V1) (q3 : ∀ (V1 : ia_H), (¬ (0 ≤ e ∧ e < σ 0)) → PI V1 → (V1 99 = (up μ 9 1)) → (∀ pp, pp ∉ ([99] : List Nat) → V1 pp = V pp) → Q (.inl (some (0, 0))) Z V1) : ia_K yX8_isComplete cX8_isComplete 2 (some .boolean) [(4, ((99 : Nat) : Int)), (0, e)] Z V 4 0 0 Q := by
  refine ia_start RX8 "isComplete" ⟨by decide, rfl, rfl⟩ (Nat.le_of_ble_eq_true rfl) (ia_tg rfl) (fun X F M => ?_)
  show ia_G X 0 0 0 [(4, ((99 : Nat) : Int)), (0, e)] [] Z V
  obtain ⟨s0, s1, s2, s3, s4, s5, s6, s7, s18, sb, sw, se, sp⟩ := id hI
  refine ia_aload_n (pc := 0) F dX8_isComplete_0 rfl ?_
  refine ia_aload_n (pc := 1) F dX8_isComplete_1 rfl ?_
  refine ia_iload_n (pc := 2) F dX8_isComplete_2 rfl ?_
  refine jV (pc := 3) F 0 0 (z99 hZ) cls11.1 (c_X8_isEdition e hZ hP hI h99 h100 (by omega) (fun h_1 => ?_) (fun h_2 => ?_)) rfl ⟨k_X8_isEdition, il_RX8_147, im_X8_isEdition, is_X8_isEdition, ii_RX8⟩ 1 rfl hd_X8_isEdition ⟨by decide, by decide, by decide, by decide, Nat.le_of_ble_eq_true rfl⟩ dX8_isComplete_3
  · refine j1 ?_
    refine jV (pc := 6) F 0 0 (z99 hZ) cls11.1 (c_X8_checked1 hZ hP h99 h100 (fun V_3 p_4 w_5 f_6 => ?_)) rfl ⟨k_X8_checked, il_RX8_125, im_X8_checked, is_X8_checked, ii_RX8⟩ 1 rfl hd_X8_checked ⟨by decide, by decide, by decide, by decide, Nat.le_of_ble_eq_true rfl⟩ dX8_isComplete_6
    refine j1 ?_
    refine ia_if_ne (pc := 9) F 24 dX8_isComplete_9 rfl (by omega) (fun h9 => absurd h9 (by omega)) (fun _ => ?_)
    refine ia_aload_n (pc := 12) F dX8_isComplete_12 rfl ?_
    refine ia_iload_n (pc := 13) F dX8_isComplete_13 rfl ?_
    refine jV (pc := 14) F 0 0 (z99 hZ) cls11.1 (c_X8_missing e hZ p_4 hI w_5 ((f_6 100 (by decide)).trans h100) (by omega) ?_) rfl ⟨k_X8_missing, il_RX8_156, im_X8_missing, is_X8_missing, ii_RX8⟩ 1 rfl hd_X8_missing ⟨by decide, by decide, by decide, by decide, Nat.le_of_ble_eq_true rfl⟩ dX8_isComplete_14
    refine j1 ?_
    have r9 := se e.toNat (by omega)
    have r8 : miss σ e.toNat = run σ e.toNat - prt σ e.toNat := rfl
    refine ia_if_ne (pc := 17) F 24 dX8_isComplete_17 rfl (by omega) (fun h_7 => ?_) (fun h_7 => ?_)
    · refine ia_iconst (pc := 24) F dX8_isComplete_24 ?_
      refine ia_zreturn (pc := 25) F M (Or.inl rfl) (by decide) (by decide) dX8_isComplete_25 ?_
      exact q1 _ h_1 h_7 p_4 w_5 (Fr_c (Fr_0 (V := V) (S := [99])) f_6 (by decide))
    · refine ia_iconst (pc := 20) F dX8_isComplete_20 ?_
      refine ia_goto (pc := 21) F 25 dX8_isComplete_21 rfl ?_
      refine ia_zreturn (pc := 25) F M (Or.inr rfl) (by decide) (by decide) dX8_isComplete_25 ?_
      exact q2 _ h_1 h_7 p_4 w_5 (Fr_c (Fr_0 (V := V) (S := [99])) f_6 (by decide))
  · refine j1 ?_
    refine jV (pc := 6) F 0 0 (z99 hZ) cls11.1 (c_X8_checked0 hZ hP h99 h100 (fun V_8 p_9 w_10 f_11 => ?_)) rfl ⟨k_X8_checked, il_RX8_125, im_X8_checked, is_X8_checked, ii_RX8⟩ 1 rfl hd_X8_checked ⟨by decide, by decide, by decide, by decide, Nat.le_of_ble_eq_true rfl⟩ dX8_isComplete_6
    refine j1 ?_
    refine ia_if_ne (pc := 9) F 24 dX8_isComplete_9 rfl (by omega) (fun _ => ?_) (fun h9 => absurd h9 (by omega))
    refine ia_iconst (pc := 24) F dX8_isComplete_24 ?_
    refine ia_zreturn (pc := 25) F M (Or.inl rfl) (by decide) (by decide) dX8_isComplete_25 ?_
    exact q3 _ h_2 p_9 w_10 (Fr_c (Fr_0 (V := V) (S := [99])) f_11 (by decide))
set_option maxRecDepth 100000 in
theorem c_X8_marksOf {Z : ia_Z} {V : ia_H} {Q : ia_O → ia_Z → ia_H → Prop} {σ : Nat → Int} {μ : Nat → Int} {m : Int} (p : Int) (hZ : ZI Z) (hP : PI V) (hI : SI σ m) (h99 : V 99 = μ) (h100 : V 100 = σ) (rp : -2147483648 ≤ p ∧ p ≤ 2147483647) (q1 : ∀ (V1 : ia_H), (0 ≤ p ∧ p < σ 1) → PI V1 → (V1 99 = (up μ 9 0)) → (∀ pp, pp ∉ ([99] : List Nat) → V1 pp = V pp) → Q (.inl (some (0, (mrk σ p.toNat)))) Z V1) (q2 : ∀ (V1 : ia_H), (¬ (0 ≤ p ∧ p < σ 1)) → PI V1 → (V1 99 = (up μ 9 1)) → (∀ pp, pp ∉ ([99] : List Nat) → V1 pp = V pp) → Q (.inl (some (0, 0))) Z V1) : ia_K yX8_marksOf cX8_marksOf 2 (some .int) [(4, ((99 : Nat) : Int)), (0, p)] Z V 4 0 0 Q := by
  refine ia_start RX8 "marksOf" ⟨by decide, rfl, rfl⟩ (Nat.le_of_ble_eq_true rfl) (ia_tg rfl) (fun X F M => ?_)
  show ia_G X 0 0 0 [(4, ((99 : Nat) : Int)), (0, p)] [] Z V
  obtain ⟨s0, s1, s2, s3, s4, s5, s6, s7, s18, sb, sw, se, sp⟩ := id hI
  refine ia_aload_n (pc := 0) F dX8_marksOf_0 rfl ?_
  refine ia_aload_n (pc := 1) F dX8_marksOf_1 rfl ?_
  refine ia_iload_n (pc := 2) F dX8_marksOf_2 rfl ?_
  refine jV (pc := 3) F 0 0 (z99 hZ) cls11.1 (c_X8_isProof p hZ hP hI h99 h100 (by omega) (fun h_1 => ?_) (fun h_2 => ?_)) rfl ⟨k_X8_isProof, il_RX8_216, im_X8_isProof, is_X8_isProof, ii_RX8⟩ 1 rfl hd_X8_isProof ⟨by decide, by decide, by decide, by decide, Nat.le_of_ble_eq_true rfl⟩ dX8_marksOf_3
  · refine j1 ?_
    refine jV (pc := 6) F 0 0 (z99 hZ) cls11.1 (c_X8_checked1 hZ hP h99 h100 (fun V_3 p_4 w_5 f_6 => ?_)) rfl ⟨k_X8_checked, il_RX8_125, im_X8_checked, is_X8_checked, ii_RX8⟩ 1 rfl hd_X8_checked ⟨by decide, by decide, by decide, by decide, Nat.le_of_ble_eq_true rfl⟩ dX8_marksOf_6
    refine j1 ?_
    refine ia_if_le (pc := 9) F 16 dX8_marksOf_9 rfl (by omega) (fun _ => ?_) (fun h9 => absurd h9 (by omega))
    refine ia_aload_n (pc := 16) F dX8_marksOf_16 rfl ?_
    refine ia_iload_n (pc := 17) F dX8_marksOf_17 rfl ?_
    refine ia_iconst (pc := 18) F dX8_marksOf_18 ?_
    refine jV (pc := 19) F 0 0 (z99 hZ) cls11.1 (c_X8_p0 p hZ p_4 hI w_5 ((f_6 100 (by decide)).trans h100) (by omega) ?_) rfl ⟨k_X8_p, il_RX8_222, im_X8_p, is_X8_p, ii_RX8⟩ 2 rfl hd_X8_p ⟨by decide, by decide, by decide, by decide, Nat.le_of_ble_eq_true rfl⟩ dX8_marksOf_19
    refine j1 ?_
    refine ia_ireturn (pc := 22) F M (by decide) (by decide) dX8_marksOf_22 ?_
    exact q1 _ h_1 p_4 w_5 (Fr_c (Fr_0 (V := V) (S := [99])) f_6 (by decide))
  · refine j1 ?_
    refine jV (pc := 6) F 0 0 (z99 hZ) cls11.1 (c_X8_checked0 hZ hP h99 h100 (fun V_7 p_8 w_9 f_10 => ?_)) rfl ⟨k_X8_checked, il_RX8_125, im_X8_checked, is_X8_checked, ii_RX8⟩ 1 rfl hd_X8_checked ⟨by decide, by decide, by decide, by decide, Nat.le_of_ble_eq_true rfl⟩ dX8_marksOf_6
    refine j1 ?_
    refine ia_if_le (pc := 9) F 16 dX8_marksOf_9 rfl (by omega) (fun h9 => absurd h9 (by omega)) (fun _ => ?_)
    refine ia_iconst (pc := 12) F dX8_marksOf_12 ?_
    refine ia_goto (pc := 13) F 22 dX8_marksOf_13 rfl ?_
    refine ia_ireturn (pc := 22) F M (by decide) (by decide) dX8_marksOf_22 ?_
    exact q2 _ h_2 p_8 w_9 (Fr_c (Fr_0 (V := V) (S := [99])) f_10 (by decide))
set_option maxRecDepth 100000 in
theorem c_X8_hourOf {Z : ia_Z} {V : ia_H} {Q : ia_O → ia_Z → ia_H → Prop} {σ : Nat → Int} {μ : Nat → Int} {m : Int} (p : Int) (hZ : ZI Z) (hP : PI V) (hI : SI σ m) (h99 : V 99 = μ) (h100 : V 100 = σ) (rp : -2147483648 ≤ p ∧ p ≤ 2147483647) (q1 : ∀ (V1 : ia_H), (0 ≤ p ∧ p < σ 1) → PI V1 → (V1 99 = (up μ 9 0)) → (∀ pp, pp ∉ ([99] : List Nat) → V1 pp = V pp) → Q (.inl (some (0, (mad σ p.toNat)))) Z V1) (q2 : ∀ (V1 : ia_H), (¬ (0 ≤ p ∧ p < σ 1)) → PI V1 → (V1 99 = (up μ 9 1)) → (∀ pp, pp ∉ ([99] : List Nat) → V1 pp = V pp) → Q (.inl (some (0, 0))) Z V1) : ia_K yX8_hourOf cX8_hourOf 2 (some .int) [(4, ((99 : Nat) : Int)), (0, p)] Z V 4 0 0 Q := by
  refine ia_start RX8 "hourOf" ⟨by decide, rfl, rfl⟩ (Nat.le_of_ble_eq_true rfl) (ia_tg rfl) (fun X F M => ?_)
  show ia_G X 0 0 0 [(4, ((99 : Nat) : Int)), (0, p)] [] Z V
  obtain ⟨s0, s1, s2, s3, s4, s5, s6, s7, s18, sb, sw, se, sp⟩ := id hI
  refine ia_aload_n (pc := 0) F dX8_hourOf_0 rfl ?_
  refine ia_aload_n (pc := 1) F dX8_hourOf_1 rfl ?_
  refine ia_iload_n (pc := 2) F dX8_hourOf_2 rfl ?_
  refine jV (pc := 3) F 0 0 (z99 hZ) cls11.1 (c_X8_isProof p hZ hP hI h99 h100 (by omega) (fun h_1 => ?_) (fun h_2 => ?_)) rfl ⟨k_X8_isProof, il_RX8_216, im_X8_isProof, is_X8_isProof, ii_RX8⟩ 1 rfl hd_X8_isProof ⟨by decide, by decide, by decide, by decide, Nat.le_of_ble_eq_true rfl⟩ dX8_hourOf_3
  · refine j1 ?_
    refine jV (pc := 6) F 0 0 (z99 hZ) cls11.1 (c_X8_checked1 hZ hP h99 h100 (fun V_3 p_4 w_5 f_6 => ?_)) rfl ⟨k_X8_checked, il_RX8_125, im_X8_checked, is_X8_checked, ii_RX8⟩ 1 rfl hd_X8_checked ⟨by decide, by decide, by decide, by decide, Nat.le_of_ble_eq_true rfl⟩ dX8_hourOf_6
    refine j1 ?_
    refine ia_if_le (pc := 9) F 16 dX8_hourOf_9 rfl (by omega) (fun _ => ?_) (fun h9 => absurd h9 (by omega))
    refine ia_aload_n (pc := 16) F dX8_hourOf_16 rfl ?_
    refine ia_iload_n (pc := 17) F dX8_hourOf_17 rfl ?_
    refine ia_iconst (pc := 18) F dX8_hourOf_18 ?_
    refine jV (pc := 19) F 0 0 (z99 hZ) cls11.1 (c_X8_p1 p hZ p_4 hI w_5 ((f_6 100 (by decide)).trans h100) (by omega) ?_) rfl ⟨k_X8_p, il_RX8_222, im_X8_p, is_X8_p, ii_RX8⟩ 2 rfl hd_X8_p ⟨by decide, by decide, by decide, by decide, Nat.le_of_ble_eq_true rfl⟩ dX8_hourOf_19
    refine j1 ?_
    refine ia_ireturn (pc := 22) F M (by decide) (by decide) dX8_hourOf_22 ?_
    exact q1 _ h_1 p_4 w_5 (Fr_c (Fr_0 (V := V) (S := [99])) f_6 (by decide))
  · refine j1 ?_
    refine jV (pc := 6) F 0 0 (z99 hZ) cls11.1 (c_X8_checked0 hZ hP h99 h100 (fun V_7 p_8 w_9 f_10 => ?_)) rfl ⟨k_X8_checked, il_RX8_125, im_X8_checked, is_X8_checked, ii_RX8⟩ 1 rfl hd_X8_checked ⟨by decide, by decide, by decide, by decide, Nat.le_of_ble_eq_true rfl⟩ dX8_hourOf_6
    refine j1 ?_
    refine ia_if_le (pc := 9) F 16 dX8_hourOf_9 rfl (by omega) (fun h9 => absurd h9 (by omega)) (fun _ => ?_)
    refine ia_iconst (pc := 12) F dX8_hourOf_12 ?_
    refine ia_goto (pc := 13) F 22 dX8_hourOf_13 rfl ?_
    refine ia_ireturn (pc := 22) F M (by decide) (by decide) dX8_hourOf_22 ?_
    exact q2 _ h_2 p_8 w_9 (Fr_c (Fr_0 (V := V) (S := [99])) f_10 (by decide))
set_option maxRecDepth 100000 in
theorem c_X8_changeMinutes {Z : ia_Z} {V : ia_H} {Q : ia_O → ia_Z → ia_H → Prop} {σ : Nat → Int} {μ : Nat → Int} {m : Int} (a : Int) (b : Int) (hZ : ZI Z) (hP : PI V) (hI : SI σ m) (h99 : V 99 = μ) (h100 : V 100 = σ) (ra : -2147483648 ≤ a ∧ a ≤ 2147483647) (rb : -2147483648 ≤ b ∧ b ≤ 2147483647) (q1 : ∀ (V1 : ia_H), (0 ≤ a ∧ a ≤ 9) → (0 ≤ b ∧ b ≤ 9) → PI V1 → (V1 99 = (up μ 9 0)) → (∀ pp, pp ∉ ([99] : List Nat) → V1 pp = V pp) → Q (.inl (some (0, (wash a b)))) Z V1) (q2 : ∀ (V1 : ia_H), (0 ≤ a ∧ a ≤ 9) → (¬ (0 ≤ b ∧ b ≤ 9)) → PI V1 → (V1 99 = (up μ 9 1)) → (∀ pp, pp ∉ ([99] : List Nat) → V1 pp = V pp) → Q (.inl (some (0, 0))) Z V1) (q3 : ∀ (V1 : ia_H), (¬ (0 ≤ a ∧ a ≤ 9)) → PI V1 → (V1 99 = (up μ 9 1)) → (∀ pp, pp ∉ ([99] : List Nat) → V1 pp = V pp) → Q (.inl (some (0, 0))) Z V1) : ia_K yX8_changeMinutes cX8_changeMinutes 3 (some .int) [(4, ((99 : Nat) : Int)), (0, a), (0, b)] Z V 4 0 0 Q := by
  refine ia_start RX8 "changeMinutes" ⟨by decide, rfl, rfl⟩ (Nat.le_of_ble_eq_true rfl) (ia_tg rfl) (fun X F M => ?_)
  show ia_G X 0 0 0 [(4, ((99 : Nat) : Int)), (0, a), (0, b)] [] Z V
  obtain ⟨s0, s1, s2, s3, s4, s5, s6, s7, s18, sb, sw, se, sp⟩ := id hI
  refine ia_aload_n (pc := 0) F dX8_changeMinutes_0 rfl ?_
  refine ia_iload_n (pc := 1) F dX8_changeMinutes_1 rfl ?_
  refine jS (pc := 2) F 0 0 (c_X8_isColour a (by omega) (fun h_1 => ?_) (fun h_2 => ?_)) rfl ⟨k_X8_isColour, il_RX8_95, it_X8_isColour, ii_RX8⟩ rfl 1 rfl hd_X8_isColour ⟨by decide, by decide, by decide, by decide, Nat.le_of_ble_eq_true rfl⟩ dX8_changeMinutes_2
  · refine j1 ?_
    refine ia_if_eq (pc := 5) F 19 dX8_changeMinutes_5 rfl (by omega) (fun h9 => absurd h9 (by omega)) (fun _ => ?_)
    refine ia_iload_n (pc := 8) F dX8_changeMinutes_8 rfl ?_
    refine jS (pc := 9) F 0 0 (c_X8_isColour b (by omega) (fun h_3 => ?_) (fun h_4 => ?_)) rfl ⟨k_X8_isColour, il_RX8_95, it_X8_isColour, ii_RX8⟩ rfl 1 rfl hd_X8_isColour ⟨by decide, by decide, by decide, by decide, Nat.le_of_ble_eq_true rfl⟩ dX8_changeMinutes_9
    · refine j1 ?_
      refine ia_if_eq (pc := 12) F 19 dX8_changeMinutes_12 rfl (by omega) (fun h9 => absurd h9 (by omega)) (fun _ => ?_)
      refine ia_iconst (pc := 15) F dX8_changeMinutes_15 ?_
      refine ia_goto (pc := 16) F 20 dX8_changeMinutes_16 rfl ?_
      refine jV (pc := 20) F 0 0 (z99 hZ) cls11.1 (c_X8_checked1 hZ hP h99 h100 (fun V_5 p_6 w_7 f_8 => ?_)) rfl ⟨k_X8_checked, il_RX8_125, im_X8_checked, is_X8_checked, ii_RX8⟩ 1 rfl hd_X8_checked ⟨by decide, by decide, by decide, by decide, Nat.le_of_ble_eq_true rfl⟩ dX8_changeMinutes_20
      refine j1 ?_
      refine ia_if_le (pc := 23) F 30 dX8_changeMinutes_23 rfl (by omega) (fun _ => ?_) (fun h9 => absurd h9 (by omega))
      refine ia_iload_n (pc := 30) F dX8_changeMinutes_30 rfl ?_
      refine ia_iload_n (pc := 31) F dX8_changeMinutes_31 rfl ?_
      refine jS (pc := 32) F 0 0 (c_X8_change a b (by omega) (by omega) ?_) rfl ⟨k_X8_change, il_RX8_153, it_X8_change, ii_RX8⟩ rfl 2 rfl hd_X8_change ⟨by decide, by decide, by decide, by decide, Nat.le_of_ble_eq_true rfl⟩ dX8_changeMinutes_32
      refine j1 ?_
      refine ia_ireturn (pc := 35) F M (by decide) (by decide) dX8_changeMinutes_35 ?_
      exact q1 _ h_1 h_3 p_6 w_7 (Fr_c (Fr_0 (V := V) (S := [99])) f_8 (by decide))
    · refine j1 ?_
      refine ia_if_eq (pc := 12) F 19 dX8_changeMinutes_12 rfl (by omega) (fun _ => ?_) (fun h9 => absurd h9 (by omega))
      refine ia_iconst (pc := 19) F dX8_changeMinutes_19 ?_
      refine jV (pc := 20) F 0 0 (z99 hZ) cls11.1 (c_X8_checked0 hZ hP h99 h100 (fun V_9 p_10 w_11 f_12 => ?_)) rfl ⟨k_X8_checked, il_RX8_125, im_X8_checked, is_X8_checked, ii_RX8⟩ 1 rfl hd_X8_checked ⟨by decide, by decide, by decide, by decide, Nat.le_of_ble_eq_true rfl⟩ dX8_changeMinutes_20
      refine j1 ?_
      refine ia_if_le (pc := 23) F 30 dX8_changeMinutes_23 rfl (by omega) (fun h9 => absurd h9 (by omega)) (fun _ => ?_)
      refine ia_iconst (pc := 26) F dX8_changeMinutes_26 ?_
      refine ia_goto (pc := 27) F 35 dX8_changeMinutes_27 rfl ?_
      refine ia_ireturn (pc := 35) F M (by decide) (by decide) dX8_changeMinutes_35 ?_
      exact q2 _ h_1 h_4 p_10 w_11 (Fr_c (Fr_0 (V := V) (S := [99])) f_12 (by decide))
  · refine j1 ?_
    refine ia_if_eq (pc := 5) F 19 dX8_changeMinutes_5 rfl (by omega) (fun _ => ?_) (fun h9 => absurd h9 (by omega))
    refine ia_iconst (pc := 19) F dX8_changeMinutes_19 ?_
    refine jV (pc := 20) F 0 0 (z99 hZ) cls11.1 (c_X8_checked0 hZ hP h99 h100 (fun V_13 p_14 w_15 f_16 => ?_)) rfl ⟨k_X8_checked, il_RX8_125, im_X8_checked, is_X8_checked, ii_RX8⟩ 1 rfl hd_X8_checked ⟨by decide, by decide, by decide, by decide, Nat.le_of_ble_eq_true rfl⟩ dX8_changeMinutes_20
    refine j1 ?_
    refine ia_if_le (pc := 23) F 30 dX8_changeMinutes_23 rfl (by omega) (fun h9 => absurd h9 (by omega)) (fun _ => ?_)
    refine ia_iconst (pc := 26) F dX8_changeMinutes_26 ?_
    refine ia_goto (pc := 27) F 35 dX8_changeMinutes_27 rfl ?_
    refine ia_ireturn (pc := 35) F M (by decide) (by decide) dX8_changeMinutes_35 ?_
    exact q3 _ h_2 p_14 w_15 (Fr_c (Fr_0 (V := V) (S := [99])) f_16 (by decide))
set_option maxRecDepth 100000 in
theorem c_X8_fewestMinutes {Z : ia_Z} {V : ia_H} {Q : ia_O → ia_Z → ia_H → Prop} {σ : Nat → Int} {μ : Nat → Int} {φ : Nat → Int} {m : Int} (hZ : ZI Z) (hP : PI V) (hI : SI σ m) (h99 : V 99 = μ) (h100 : V 100 = σ) (h104 : V 104 = φ)  (q1 : ∀ (V1 : ia_H), PI V1 → (V1 99 = up μ 9 0) → (∀ pp, pp ∉ ([99, 104] : List Nat) → V1 pp = V pp) → Q (.inl (some (0, (mcl (col σ) (σ 4) (lin (opb σ (σ 0).toNat) (σ 0).toNat))))) Z V1) : ia_K yX8_fewestMinutes cX8_fewestMinutes 1 (some .int) [(4, ((99 : Nat) : Int))] Z V 8 0 0 Q := by
  refine ia_start RX8 "fewestMinutes" ⟨by decide, rfl, rfl⟩ (Nat.le_of_ble_eq_true rfl) (ia_tg rfl) (fun X F M => ?_)
  show ia_G X 0 0 0 [(4, ((99 : Nat) : Int))] [] Z V
  obtain ⟨s0, s1, s2, s3, s4, s5, s6, s7, s18, sb, sw, se, sp⟩ := id hI
  refine ia_aload_n (pc := 0) F dX8_fewestMinutes_0 rfl ?_
  refine ia_aload_n (pc := 1) F dX8_fewestMinutes_1 rfl ?_
  refine jV (pc := 2) F 0 0 (z99 hZ) cls11.1 (c_X8_minutesOfBest hZ hP hI h99 h100 h104 (fun f1_1 V_2 p_3 w_4 f_5 => ?_)) rfl ⟨k_X8_minutesOfBest, il_RX8_189, im_X8_minutesOfBest, is_X8_minutesOfBest, ii_RX8⟩ 0 rfl hd_X8_minutesOfBest ⟨by decide, by decide, by decide, by decide, Nat.le_of_ble_eq_true rfl⟩ dX8_fewestMinutes_2
  refine j1 ?_
  refine jV (pc := 5) F 0 0 (z99 hZ) cls11.1 (c_X8_plain (mcl (col σ) (σ 4) (lin (opb σ (σ 0).toNat) (σ 0).toNat)) hZ p_3 ((f_5 99 (by decide)).trans h99) ((f_5 100 (by decide)).trans h100) (fun V_6 p_7 w_8 f_9 => ?_)) rfl ⟨k_X8_plain, il_RX8_129, im_X8_plain, is_X8_plain, ii_RX8⟩ 1 rfl hd_X8_plain ⟨by decide, by decide, by decide, by decide, Nat.le_of_ble_eq_true rfl⟩ dX8_fewestMinutes_5
  refine j1 ?_
  refine ia_ireturn (pc := 8) F M (by decide) (by decide) dX8_fewestMinutes_8 ?_
  exact q1 _ p_7 w_8 (Fr_c (Fr_c (Fr_0 (V := V) (S := [99, 104])) f_5 (by decide)) f_9 (by decide))
set_option maxRecDepth 100000 in
theorem c_X8_minutesByOrders {Z : ia_Z} {V : ia_H} {Q : ia_O → ia_Z → ia_H → Prop} {σ : Nat → Int} {μ : Nat → Int} {φ : Nat → Int} {m : Int} (hZ : ZI Z) (hP : PI V) (hI : SI σ m) (h99 : V 99 = μ) (h100 : V 100 = σ) (h104 : V 104 = φ)  (q1 : ∀ (V1 : ia_H), PI V1 → (V1 99 = up μ 9 0) → (∀ pp, pp ∉ ([99, 104] : List Nat) → V1 pp = V pp) → Q (.inl (some (0, (mcl (col σ) (σ 4) (lin (opb σ (σ 0).toNat) (σ 0).toNat))))) Z V1) : ia_K yX8_minutesByOrders cX8_minutesByOrders 1 (some .int) [(4, ((99 : Nat) : Int))] Z V 8 0 0 Q := by
  refine ia_start RX8 "minutesByOrders" ⟨by decide, rfl, rfl⟩ (Nat.le_of_ble_eq_true rfl) (ia_tg rfl) (fun X F M => ?_)
  show ia_G X 0 0 0 [(4, ((99 : Nat) : Int))] [] Z V
  obtain ⟨s0, s1, s2, s3, s4, s5, s6, s7, s18, sb, sw, se, sp⟩ := id hI
  refine ia_aload_n (pc := 0) F dX8_minutesByOrders_0 rfl ?_
  refine ia_aload_n (pc := 1) F dX8_minutesByOrders_1 rfl ?_
  refine jV (pc := 2) F 0 0 (z99 hZ) cls11.1 (c_X8_minutesOfBest hZ hP hI h99 h100 h104 (fun f1_1 V_2 p_3 w_4 f_5 => ?_)) rfl ⟨k_X8_minutesOfBest, il_RX8_189, im_X8_minutesOfBest, is_X8_minutesOfBest, ii_RX8⟩ 0 rfl hd_X8_minutesOfBest ⟨by decide, by decide, by decide, by decide, Nat.le_of_ble_eq_true rfl⟩ dX8_minutesByOrders_2
  refine j1 ?_
  refine jV (pc := 5) F 0 0 (z99 hZ) cls11.1 (c_X8_plain (mcl (col σ) (σ 4) (lin (opb σ (σ 0).toNat) (σ 0).toNat)) hZ p_3 ((f_5 99 (by decide)).trans h99) ((f_5 100 (by decide)).trans h100) (fun V_6 p_7 w_8 f_9 => ?_)) rfl ⟨k_X8_plain, il_RX8_129, im_X8_plain, is_X8_plain, ii_RX8⟩ 1 rfl hd_X8_plain ⟨by decide, by decide, by decide, by decide, Nat.le_of_ble_eq_true rfl⟩ dX8_minutesByOrders_5
  refine j1 ?_
  refine ia_ireturn (pc := 8) F M (by decide) (by decide) dX8_minutesByOrders_8 ?_
  exact q1 _ p_7 w_8 (Fr_c (Fr_c (Fr_0 (V := V) (S := [99, 104])) f_5 (by decide)) f_9 (by decide))
set_option maxRecDepth 100000 in
theorem c_X8_editionAt {Z : ia_Z} {V : ia_H} {Q : ia_O → ia_Z → ia_H → Prop} {σ : Nat → Int} {μ : Nat → Int} {φ : Nat → Int} {ω : Nat → Int} {m : Int} (q : Int) (hZ : ZI Z) (hP : PI V) (hI : SI σ m) (h99 : V 99 = μ) (h100 : V 100 = σ) (h104 : V 104 = φ) (h108 : V 108 = ω) (rq : -2147483648 ≤ q ∧ q ≤ 2147483647) (q1 : ∀ (V1 : ia_H), (0 ≤ q ∧ q < (((opm σ).length : Nat) : Int)) → PI V1 → (V1 99 = up μ 9 0) → (∀ pp, pp ∉ ([99, 104, 108] : List Nat) → V1 pp = V pp) → Q (.inl (some (0, (((opm σ).getD q.toNat 0 : Nat) : Int)))) Z V1) (q2 : ∀ (V1 : ia_H), (¬ (0 ≤ q ∧ q < (((opm σ).length : Nat) : Int))) → PI V1 → (V1 99 = up μ 9 1) → (∀ pp, pp ∉ ([99, 104, 108] : List Nat) → V1 pp = V pp) → Q (.inl (some (0, 0))) Z V1) : ia_K yX8_editionAt cX8_editionAt 3 (some .int) [(4, ((99 : Nat) : Int)), (0, q)] Z V 8 0 0 Q := by
  refine ia_start RX8 "editionAt" ⟨by decide, rfl, rfl⟩ (Nat.le_of_ble_eq_true rfl) (ia_tg rfl) (fun X F M => ?_)
  show ia_G X 0 0 0 [(4, ((99 : Nat) : Int)), (0, q), (9, 0)] [] Z V
  obtain ⟨s0, s1, s2, s3, s4, s5, s6, s7, s18, sb, sw, se, sp⟩ := id hI
  refine ia_aload_n (pc := 0) F dX8_editionAt_0 rfl ?_
  refine jV (pc := 1) F 0 0 (z99 hZ) cls11.1 (c_X8_laysOrder hZ hP hI h99 h100 h104 h108 (fun f1_1 g_2 V_3 h_4 p_5 w_6 w_7 f_8 => ?_)) rfl ⟨k_X8_laysOrder, il_RX8_192, im_X8_laysOrder, is_X8_laysOrder, ii_RX8⟩ 0 rfl hd_X8_laysOrder ⟨by decide, by decide, by decide, by decide, Nat.le_of_ble_eq_true rfl⟩ dX8_editionAt_1
  refine j1 ?_
  have hol : (lin (opb σ (σ 0).toNat) (σ 0).toNat).length = (opm σ).length := by unfold opm; rw [mol_len]
  rw [hol]
  have hl7 := opm_len (σ := σ) (by omega)
  have hcn7 := oc_le (σ := σ) (σ 0).toNat
  have hO0 := h_4
  rw [hol] at hO0
  refine ia_istore_n (pc := 4) F (ls' := [(4, ((99 : Nat) : Int)), (0, q), (0, (((opm σ).length : Nat) : Int))]) dX8_editionAt_4 (Nat.le_of_ble_eq_true rfl) rfl rfl ?_
  refine ia_aload_n (pc := 5) F dX8_editionAt_5 rfl ?_
  refine ia_iload_n (pc := 6) F dX8_editionAt_6 rfl ?_
  refine ia_iconst (pc := 7) F dX8_editionAt_7 ?_
  refine ia_iload_n (pc := 8) F dX8_editionAt_8 rfl ?_
  refine ia_iconst (pc := 9) F dX8_editionAt_9 ?_
  refine ia_isub (pc := 10) F dX8_editionAt_10 ?_
  refine jS (pc := 11) F 0 0 (c_X8_in q 0 ((((opm σ).length : Nat) : Int) - 1) (by omega) (by omega) (by omega) (fun h_9 => ?_) (fun h_10 => ?_)) rfl ⟨k_X8_in, il_RX8_91, it_X8_in, ii_RX8⟩ rfl 3 rfl hd_X8_in ⟨by decide, by decide, by decide, by decide, Nat.le_of_ble_eq_true rfl⟩ dX8_editionAt_11
  · refine j1 ?_
    refine jV (pc := 14) F 0 0 (z99 hZ) cls11.1 (c_X8_checked1 hZ p_5 ((f_8 99 (by decide)).trans h99) ((f_8 100 (by decide)).trans h100) (fun V_11 p_12 w_13 f_14 => ?_)) rfl ⟨k_X8_checked, il_RX8_125, im_X8_checked, is_X8_checked, ii_RX8⟩ 1 rfl hd_X8_checked ⟨by decide, by decide, by decide, by decide, Nat.le_of_ble_eq_true rfl⟩ dX8_editionAt_14
    refine j1 ?_
    refine ia_if_le (pc := 17) F 24 dX8_editionAt_17 rfl (by omega) (fun _ => ?_) (fun h9 => absurd h9 (by omega))
    refine ia_aload_n (pc := 24) F dX8_editionAt_24 rfl ?_
    refine jg (pc := 25) F (z99 hZ) cls11 f11_8 (p_12 99 8 108 rfl) il_RX8_34 dX8_editionAt_25 ?_
    refine ia_iload_n (pc := 28) F dX8_editionAt_28 rfl ?_
    refine ja (pc := 29) F (v := g_2 q.toNat) (z108 hZ) q.toNat (by omega) (by omega) (congrFun ((f_14 108 (by decide)).trans w_7) q.toNat) dX8_editionAt_29 ?_
    refine ia_ireturn (pc := 30) F M (by decide) (by decide) dX8_editionAt_30 ?_
    have e9 := hO0 q.toNat (by omega)
    rw [show mol (col σ) (σ 4) (lin (opb σ (σ 0).toNat) (σ 0).toNat) = opm σ from rfl] at e9
    rw [← e9] at q1
    exact q1 _ (by omega) p_12 w_13 (Fr_c (Fr_c (Fr_0 (V := V) (S := [99, 104, 108])) f_8 (by decide)) f_14 (by decide))
  · refine j1 ?_
    refine jV (pc := 14) F 0 0 (z99 hZ) cls11.1 (c_X8_checked0 hZ p_5 ((f_8 99 (by decide)).trans h99) ((f_8 100 (by decide)).trans h100) (fun V_15 p_16 w_17 f_18 => ?_)) rfl ⟨k_X8_checked, il_RX8_125, im_X8_checked, is_X8_checked, ii_RX8⟩ 1 rfl hd_X8_checked ⟨by decide, by decide, by decide, by decide, Nat.le_of_ble_eq_true rfl⟩ dX8_editionAt_14
    refine j1 ?_
    refine ia_if_le (pc := 17) F 24 dX8_editionAt_17 rfl (by omega) (fun h9 => absurd h9 (by omega)) (fun _ => ?_)
    refine ia_iconst (pc := 20) F dX8_editionAt_20 ?_
    refine ia_goto (pc := 21) F 30 dX8_editionAt_21 rfl ?_
    refine ia_ireturn (pc := 30) F M (by decide) (by decide) dX8_editionAt_30 ?_
    exact q2 _ (by omega) p_16 w_17 (Fr_c (Fr_c (Fr_0 (V := V) (S := [99, 104, 108])) f_8 (by decide)) f_18 (by decide))
set_option maxRecDepth 100000 in
theorem c_X8_sharing {Z : ia_Z} {V : ia_H} {Q : ia_O → ia_Z → ia_H → Prop} {σ : Nat → Int} {μ : Nat → Int} {ψ : Nat → Int} {m : Int} (e : Int) (hZ : ZI Z) (hP : PI V) (hI : SI σ m) (h99 : V 99 = μ) (h100 : V 100 = σ) (h105 : V 105 = ψ) (re : -2147483648 ≤ e ∧ e ≤ 2147483647) (q1 : ∀ (V1 : ia_H), (0 ≤ e ∧ e < σ 0) → PI V1 → (V1 99 = up μ 9 0) → (∀ pp, pp ∉ ([99, 105] : List Nat) → V1 pp = V pp) → Q (.inl (some (0, (shA σ e.toNat)))) Z V1) (q2 : ∀ (V1 : ia_H), (¬ (0 ≤ e ∧ e < σ 0)) → PI V1 → (V1 99 = up μ 9 1) → (∀ pp, pp ∉ ([99, 105] : List Nat) → V1 pp = V pp) → Q (.inl (some (0, 0))) Z V1) : ia_K yX8_sharing cX8_sharing 2 (some .int) [(4, ((99 : Nat) : Int)), (0, e)] Z V 7 0 0 Q := by
  refine ia_start RX8 "sharing" ⟨by decide, rfl, rfl⟩ (Nat.le_of_ble_eq_true rfl) (ia_tg rfl) (fun X F M => ?_)
  show ia_G X 0 0 0 [(4, ((99 : Nat) : Int)), (0, e)] [] Z V
  obtain ⟨s0, s1, s2, s3, s4, s5, s6, s7, s18, sb, sw, se, sp⟩ := id hI
  refine ia_aload_n (pc := 0) F dX8_sharing_0 rfl ?_
  refine ia_aload_n (pc := 1) F dX8_sharing_1 rfl ?_
  refine ia_iload_n (pc := 2) F dX8_sharing_2 rfl ?_
  refine jV (pc := 3) F 0 0 (z99 hZ) cls11.1 (c_X8_isEdition e hZ hP hI h99 h100 (by omega) (fun h_1 => ?_) (fun h_2 => ?_)) rfl ⟨k_X8_isEdition, il_RX8_147, im_X8_isEdition, is_X8_isEdition, ii_RX8⟩ 1 rfl hd_X8_isEdition ⟨by decide, by decide, by decide, by decide, Nat.le_of_ble_eq_true rfl⟩ dX8_sharing_3
  · refine j1 ?_
    refine jV (pc := 6) F 0 0 (z99 hZ) cls11.1 (c_X8_checked1 hZ hP h99 h100 (fun V_3 p_4 w_5 f_6 => ?_)) rfl ⟨k_X8_checked, il_RX8_125, im_X8_checked, is_X8_checked, ii_RX8⟩ 1 rfl hd_X8_checked ⟨by decide, by decide, by decide, by decide, Nat.le_of_ble_eq_true rfl⟩ dX8_sharing_6
    refine j1 ?_
    refine ia_if_le (pc := 9) F 14 dX8_sharing_9 rfl (by omega) (fun _ => ?_) (fun h9 => absurd h9 (by omega))
    refine ia_aload_n (pc := 14) F dX8_sharing_14 rfl ?_
    refine jV (pc := 15) F 0 0 (z99 hZ) cls11.1 (c_X8_share hZ p_4 hI w_5 ((f_6 100 (by decide)).trans h100) ((f_6 105 (by decide)).trans h105) (fun V_7 p_8 w_9 f_10 => ?_)) rfl ⟨k_X8_share, il_RX8_198, im_X8_share, is_X8_share, ii_RX8⟩ 0 rfl hd_X8_share ⟨by decide, by decide, by decide, by decide, Nat.le_of_ble_eq_true rfl⟩ dX8_sharing_15
    refine j0 ?_
    refine ia_aload_n (pc := 18) F dX8_sharing_18 rfl ?_
    refine jg (pc := 19) F (z99 hZ) cls11 f11_5 (p_8 99 5 105 rfl) il_RX8_25 dX8_sharing_19 ?_
    refine ia_iload_n (pc := 22) F dX8_sharing_22 rfl ?_
    refine ja (pc := 23) F (v := mgk 7 (shs σ (σ 2).toNat) ψ e.toNat) (z105 hZ) e.toNat (by omega) (by omega) (congrFun w_9 e.toNat) dX8_sharing_23 ?_
    refine ia_ireturn (pc := 24) F M (by decide) (by decide) dX8_sharing_24 ?_
    rw [mgk_lt (by omega)]
    exact q1 _ (by omega) p_8 ((f_10 99 (by decide)).trans w_5) (Fr_c (Fr_c (Fr_0 (V := V) (S := [99, 105])) f_6 (by decide)) f_10 (by decide))
  · refine j1 ?_
    refine jV (pc := 6) F 0 0 (z99 hZ) cls11.1 (c_X8_checked0 hZ hP h99 h100 (fun V_11 p_12 w_13 f_14 => ?_)) rfl ⟨k_X8_checked, il_RX8_125, im_X8_checked, is_X8_checked, ii_RX8⟩ 1 rfl hd_X8_checked ⟨by decide, by decide, by decide, by decide, Nat.le_of_ble_eq_true rfl⟩ dX8_sharing_6
    refine j1 ?_
    refine ia_if_le (pc := 9) F 14 dX8_sharing_9 rfl (by omega) (fun h9 => absurd h9 (by omega)) (fun _ => ?_)
    refine ia_iconst (pc := 12) F dX8_sharing_12 ?_
    refine ia_ireturn (pc := 13) F M (by decide) (by decide) dX8_sharing_13 ?_
    exact q2 _ (by omega) p_12 w_13 (Fr_c (Fr_0 (V := V) (S := [99, 105])) f_14 (by decide))
set_option maxRecDepth 100000 in
theorem c_X8_shareOf {Z : ia_Z} {V : ia_H} {Q : ia_O → ia_Z → ia_H → Prop} {σ : Nat → Int} {μ : Nat → Int} {ψ : Nat → Int} {m : Int} (e : Int) (hZ : ZI Z) (hP : PI V) (hI : SI σ m) (h99 : V 99 = μ) (h100 : V 100 = σ) (h105 : V 105 = ψ) (re : -2147483648 ≤ e ∧ e ≤ 2147483647) (q1 : ∀ (V1 : ia_H), (0 ≤ e ∧ e < σ 0) → PI V1 → (V1 99 = up μ 9 0) → (∀ pp, pp ∉ ([99, 105] : List Nat) → V1 pp = V pp) → Q (.inl (some (0, (shA σ e.toNat)))) Z V1) (q2 : ∀ (V1 : ia_H), (¬ (0 ≤ e ∧ e < σ 0)) → PI V1 → (V1 99 = up μ 9 1) → (∀ pp, pp ∉ ([99, 105] : List Nat) → V1 pp = V pp) → Q (.inl (some (0, 0))) Z V1) : ia_K yX8_shareOf cX8_shareOf 2 (some .int) [(4, ((99 : Nat) : Int)), (0, e)] Z V 8 0 0 Q := by
  refine ia_start RX8 "shareOf" ⟨by decide, rfl, rfl⟩ (Nat.le_of_ble_eq_true rfl) (ia_tg rfl) (fun X F M => ?_)
  show ia_G X 0 0 0 [(4, ((99 : Nat) : Int)), (0, e)] [] Z V
  obtain ⟨s0, s1, s2, s3, s4, s5, s6, s7, s18, sb, sw, se, sp⟩ := id hI
  refine ia_aload_n (pc := 0) F dX8_shareOf_0 rfl ?_
  refine ia_iload_n (pc := 1) F dX8_shareOf_1 rfl ?_
  refine jV (pc := 2) F 0 0 (z99 hZ) cls11.1 (c_X8_sharing e hZ hP hI h99 h100 h105 (by omega) (fun V_1 h_2 p_3 w_4 f_5 => ?_) (fun V_6 h_7 p_8 w_9 f_10 => ?_)) rfl ⟨k_X8_sharing, il_RX8_201, im_X8_sharing, is_X8_sharing, ii_RX8⟩ 1 rfl hd_X8_sharing ⟨by decide, by decide, by decide, by decide, Nat.le_of_ble_eq_true rfl⟩ dX8_shareOf_2
  · refine j1 ?_
    refine ia_ireturn (pc := 5) F M (by decide) (by decide) dX8_shareOf_5 ?_
    exact q1 _ (by omega) p_3 w_4 (Fr_c (Fr_0 (V := V) (S := [99, 105])) f_5 (by decide))
  · refine j1 ?_
    refine ia_ireturn (pc := 5) F M (by decide) (by decide) dX8_shareOf_5 ?_
    exact q2 _ (by omega) p_8 w_9 (Fr_c (Fr_0 (V := V) (S := [99, 105])) f_10 (by decide))
set_option maxRecDepth 100000 in
theorem c_X8_shareByLevel {Z : ia_Z} {V : ia_H} {Q : ia_O → ia_Z → ia_H → Prop} {σ : Nat → Int} {μ : Nat → Int} {ψ : Nat → Int} {m : Int} (e : Int) (hZ : ZI Z) (hP : PI V) (hI : SI σ m) (h99 : V 99 = μ) (h100 : V 100 = σ) (h105 : V 105 = ψ) (re : -2147483648 ≤ e ∧ e ≤ 2147483647) (q1 : ∀ (V1 : ia_H), (0 ≤ e ∧ e < σ 0) → PI V1 → (V1 99 = up μ 9 0) → (∀ pp, pp ∉ ([99, 105] : List Nat) → V1 pp = V pp) → Q (.inl (some (0, (shA σ e.toNat)))) Z V1) (q2 : ∀ (V1 : ia_H), (¬ (0 ≤ e ∧ e < σ 0)) → PI V1 → (V1 99 = up μ 9 1) → (∀ pp, pp ∉ ([99, 105] : List Nat) → V1 pp = V pp) → Q (.inl (some (0, 0))) Z V1) : ia_K yX8_shareByLevel cX8_shareByLevel 2 (some .int) [(4, ((99 : Nat) : Int)), (0, e)] Z V 8 0 0 Q := by
  refine ia_start RX8 "shareByLevel" ⟨by decide, rfl, rfl⟩ (Nat.le_of_ble_eq_true rfl) (ia_tg rfl) (fun X F M => ?_)
  show ia_G X 0 0 0 [(4, ((99 : Nat) : Int)), (0, e)] [] Z V
  obtain ⟨s0, s1, s2, s3, s4, s5, s6, s7, s18, sb, sw, se, sp⟩ := id hI
  refine ia_aload_n (pc := 0) F dX8_shareByLevel_0 rfl ?_
  refine ia_iload_n (pc := 1) F dX8_shareByLevel_1 rfl ?_
  refine jV (pc := 2) F 0 0 (z99 hZ) cls11.1 (c_X8_sharing e hZ hP hI h99 h100 h105 (by omega) (fun V_1 h_2 p_3 w_4 f_5 => ?_) (fun V_6 h_7 p_8 w_9 f_10 => ?_)) rfl ⟨k_X8_sharing, il_RX8_201, im_X8_sharing, is_X8_sharing, ii_RX8⟩ 1 rfl hd_X8_sharing ⟨by decide, by decide, by decide, by decide, Nat.le_of_ble_eq_true rfl⟩ dX8_shareByLevel_2
  · refine j1 ?_
    refine ia_ireturn (pc := 5) F M (by decide) (by decide) dX8_shareByLevel_5 ?_
    exact q1 _ (by omega) p_3 w_4 (Fr_c (Fr_0 (V := V) (S := [99, 105])) f_5 (by decide))
  · refine j1 ?_
    refine ia_ireturn (pc := 5) F M (by decide) (by decide) dX8_shareByLevel_5 ?_
    exact q2 _ (by omega) p_8 w_9 (Fr_c (Fr_0 (V := V) (S := [99, 105])) f_10 (by decide))
set_option maxRecDepth 100000 in
theorem c_X8_longestRise {Z : ia_Z} {V : ia_H} {Q : ia_O → ia_Z → ia_H → Prop} {σ : Nat → Int} {μ : Nat → Int} {θ1 : Nat → Int} {θ2 : Nat → Int} {m : Int} (hZ : ZI Z) (hP : PI V) (hI : SI σ m) (h99 : V 99 = μ) (h100 : V 100 = σ) (h106 : V 106 = θ1) (h107 : V 107 = θ2)  (q1 : ∀ (V1 : ia_H), PI V1 → (V1 99 = (up μ 9 0)) → (V1 106 = mgk (σ 1).toNat (rtb σ (σ 1).toNat).1 θ1) → (V1 107 = mgk (σ 1).toNat (rtb σ (σ 1).toNat).2 θ2) → (∀ pp, pp ∉ ([99, 106, 107] : List Nat) → V1 pp = V pp) → Q (.inl (some (0, (rmx σ (σ 1).toNat)))) Z V1) : ia_K yX8_longestRise cX8_longestRise 1 (some .int) [(4, ((99 : Nat) : Int))] Z V 5 0 0 Q := by
  refine ia_start RX8 "longestRise" ⟨by decide, rfl, rfl⟩ (Nat.le_of_ble_eq_true rfl) (ia_tg rfl) (fun X F M => ?_)
  show ia_G X 0 0 0 [(4, ((99 : Nat) : Int))] [] Z V
  obtain ⟨s0, s1, s2, s3, s4, s5, s6, s7, s18, sb, sw, se, sp⟩ := id hI
  refine ia_aload_n (pc := 0) F dX8_longestRise_0 rfl ?_
  refine ia_aload_n (pc := 1) F dX8_longestRise_1 rfl ?_
  refine jV (pc := 2) F 0 0 (z99 hZ) cls11.1 (c_X8_rises hZ hP hI h99 h100 h106 h107 (fun V_1 p_2 w_3 w_4 f_5 => ?_)) rfl ⟨k_X8_rises, il_RX8_225, im_X8_rises, is_X8_rises, ii_RX8⟩ 0 rfl hd_X8_rises ⟨by decide, by decide, by decide, by decide, Nat.le_of_ble_eq_true rfl⟩ dX8_longestRise_2
  refine j1 ?_
  refine jV (pc := 5) F 0 0 (z99 hZ) cls11.1 (c_X8_plain (rmx σ (σ 1).toNat) hZ p_2 ((f_5 99 (by decide)).trans h99) ((f_5 100 (by decide)).trans h100) (fun V_6 p_7 w_8 f_9 => ?_)) rfl ⟨k_X8_plain, il_RX8_129, im_X8_plain, is_X8_plain, ii_RX8⟩ 1 rfl hd_X8_plain ⟨by decide, by decide, by decide, by decide, Nat.le_of_ble_eq_true rfl⟩ dX8_longestRise_5
  refine j1 ?_
  refine ia_ireturn (pc := 8) F M (by decide) (by decide) dX8_longestRise_8 ?_
  exact q1 _ p_7 w_8 ((f_9 106 (by decide)).trans w_3) ((f_9 107 (by decide)).trans w_4) (Fr_c (Fr_c (Fr_0 (V := V) (S := [99, 106, 107])) f_5 (by decide)) f_9 (by decide))
set_option maxRecDepth 100000 in
theorem c_X8_riseByEnds {Z : ia_Z} {V : ia_H} {Q : ia_O → ia_Z → ia_H → Prop} {σ : Nat → Int} {μ : Nat → Int} {θ1 : Nat → Int} {θ2 : Nat → Int} {m : Int} (hZ : ZI Z) (hP : PI V) (hI : SI σ m) (h99 : V 99 = μ) (h100 : V 100 = σ) (h106 : V 106 = θ1) (h107 : V 107 = θ2)  (q1 : ∀ (V1 : ia_H), PI V1 → (V1 99 = (up μ 9 0)) → (V1 106 = mgk (σ 1).toNat (rtb σ (σ 1).toNat).1 θ1) → (V1 107 = mgk (σ 1).toNat (rtb σ (σ 1).toNat).2 θ2) → (∀ pp, pp ∉ ([99, 106, 107] : List Nat) → V1 pp = V pp) → Q (.inl (some (0, (rmx σ (σ 1).toNat)))) Z V1) : ia_K yX8_riseByEnds cX8_riseByEnds 1 (some .int) [(4, ((99 : Nat) : Int))] Z V 5 0 0 Q := by
  refine ia_start RX8 "riseByEnds" ⟨by decide, rfl, rfl⟩ (Nat.le_of_ble_eq_true rfl) (ia_tg rfl) (fun X F M => ?_)
  show ia_G X 0 0 0 [(4, ((99 : Nat) : Int))] [] Z V
  obtain ⟨s0, s1, s2, s3, s4, s5, s6, s7, s18, sb, sw, se, sp⟩ := id hI
  refine ia_aload_n (pc := 0) F dX8_riseByEnds_0 rfl ?_
  refine ia_aload_n (pc := 1) F dX8_riseByEnds_1 rfl ?_
  refine jV (pc := 2) F 0 0 (z99 hZ) cls11.1 (c_X8_rises hZ hP hI h99 h100 h106 h107 (fun V_1 p_2 w_3 w_4 f_5 => ?_)) rfl ⟨k_X8_rises, il_RX8_225, im_X8_rises, is_X8_rises, ii_RX8⟩ 0 rfl hd_X8_rises ⟨by decide, by decide, by decide, by decide, Nat.le_of_ble_eq_true rfl⟩ dX8_riseByEnds_2
  refine j1 ?_
  refine jV (pc := 5) F 0 0 (z99 hZ) cls11.1 (c_X8_plain (rmx σ (σ 1).toNat) hZ p_2 ((f_5 99 (by decide)).trans h99) ((f_5 100 (by decide)).trans h100) (fun V_6 p_7 w_8 f_9 => ?_)) rfl ⟨k_X8_plain, il_RX8_129, im_X8_plain, is_X8_plain, ii_RX8⟩ 1 rfl hd_X8_plain ⟨by decide, by decide, by decide, by decide, Nat.le_of_ble_eq_true rfl⟩ dX8_riseByEnds_5
  refine j1 ?_
  refine ia_ireturn (pc := 8) F M (by decide) (by decide) dX8_riseByEnds_8 ?_
  exact q1 _ p_7 w_8 ((f_9 106 (by decide)).trans w_3) ((f_9 107 (by decide)).trans w_4) (Fr_c (Fr_c (Fr_0 (V := V) (S := [99, 106, 107])) f_5 (by decide)) f_9 (by decide))
