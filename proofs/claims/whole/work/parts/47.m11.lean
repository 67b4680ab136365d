/-! the model: why and does (made by wip/whole/m2.py) -/
set_option maxRecDepth 100000 in
theorem c_X8_why_0 {Z : ia_Z} {V : ia_H} {Q : ia_O → ia_Z → ia_H → Prop} {σ : Nat → Int} {μ : Nat → Int} {m : Int} (c : Int) (u : Int) (hZ : ZI Z) (hP : PI V) (hI : SI σ m) (h99 : V 99 = μ) (h100 : V 100 = σ) (rc : -2147483648 ≤ c ∧ c ≤ 2147483647) (ru : -2147483648 ≤ u ∧ u ≤ 2147483647) (q1 : (¬ ((0 ≤ c ∧ c ≤ 9) ∧ 1 ≤ u ∧ u ≤ 999)) → Q (.inl (some (0, 1))) Z V) (q2 : ((0 ≤ c ∧ c ≤ 9) ∧ 1 ≤ u ∧ u ≤ 999) → (999 < wel σ c.toNat + u) → Q (.inl (some (0, 2))) Z V) (q3 : ((0 ≤ c ∧ c ≤ 9) ∧ 1 ≤ u ∧ u ≤ 999) → (wel σ c.toNat + u ≤ 999) → Q (.inl (some (0, 0))) Z V) : ia_K yX8_why cX8_why 4 (some .int) [(4, ((99 : Nat) : Int)), (0, 0), (0, c), (0, u)] Z V 5 0 0 Q := by
  refine ia_start RX8 "why" ⟨by decide, rfl, rfl⟩ (Nat.le_of_ble_eq_true rfl) (ia_tg rfl) (fun X F M => ?_)
  show ia_G X 0 0 0 [(4, ((99 : Nat) : Int)), (0, 0), (0, c), (0, u)] [] Z V
  obtain ⟨s0, s1, s2, s3, s4, s5, s6, s7, s18, sb, sw, se, sp⟩ := id hI
  refine ia_iload_n (pc := 0) F dX8_why_0 rfl ?_
  refine ia_sw (pc := 1) F 48 0 dX8_why_1 (by omega) (by omega) (by omega) rfl rfl ?_
  refine ia_aload_n (pc := 48) F dX8_why_48 rfl ?_
  refine ia_iload_n (pc := 49) F dX8_why_49 rfl ?_
  refine ia_iload_n (pc := 50) F dX8_why_50 rfl ?_
  refine jV (pc := 51) F 0 0 (z99 hZ) cls11.1 (c_X8_cannotPour c u hZ hP hI h99 h100 (by omega) (by omega) (fun h_1 => ?_) (fun h_2 h_3 => ?_) (fun h_4 h_5 => ?_)) rfl ⟨k_X8_cannotPour, il_RX8_102, im_X8_cannotPour, is_X8_cannotPour, ii_RX8⟩ 2 rfl hd_X8_cannotPour ⟨by decide, by decide, by decide, by decide, Nat.le_of_ble_eq_true rfl⟩ dX8_why_51
  · refine j1 ?_
    refine ia_ireturn (pc := 54) F M (by decide) (by decide) dX8_why_54 ?_
    exact q1 h_1
  · refine j1 ?_
    refine ia_ireturn (pc := 54) F M (by decide) (by decide) dX8_why_54 ?_
    exact q2 h_2 h_3
  · refine j1 ?_
    refine ia_ireturn (pc := 54) F M (by decide) (by decide) dX8_why_54 ?_
    exact q3 h_4 h_5
set_option maxRecDepth 100000 in
theorem c_X8_why_1 {Z : ia_Z} {V : ia_H} {Q : ia_O → ia_Z → ia_H → Prop} {σ : Nat → Int} {μ : Nat → Int} {m : Int} (u : Int) (v2 : Int) (hZ : ZI Z) (hP : PI V) (hI : SI σ m) (h99 : V 99 = μ) (h100 : V 100 = σ) (ru : -2147483648 ≤ u ∧ u ≤ 2147483647) (q1 : (¬ (1 ≤ u ∧ u ≤ 999)) → Q (.inl (some (0, 1))) Z V) (q2 : (1 ≤ u ∧ u ≤ 999) → (9999 < σ 2 + u) → Q (.inl (some (0, 2))) Z V) (q3 : (1 ≤ u ∧ u ≤ 999) → (σ 2 + u ≤ 9999) → Q (.inl (some (0, 0))) Z V) : ia_K yX8_why cX8_why 4 (some .int) [(4, ((99 : Nat) : Int)), (0, 1), (0, u), (0, v2)] Z V 5 0 0 Q := by
  refine ia_start RX8 "why" ⟨by decide, rfl, rfl⟩ (Nat.le_of_ble_eq_true rfl) (ia_tg rfl) (fun X F M => ?_)
  show ia_G X 0 0 0 [(4, ((99 : Nat) : Int)), (0, 1), (0, u), (0, v2)] [] Z V
  obtain ⟨s0, s1, s2, s3, s4, s5, s6, s7, s18, sb, sw, se, sp⟩ := id hI
  refine ia_iload_n (pc := 0) F dX8_why_0 rfl ?_
  refine ia_sw (pc := 1) F 55 1 dX8_why_1 (by omega) (by omega) (by omega) rfl rfl ?_
  refine ia_aload_n (pc := 55) F dX8_why_55 rfl ?_
  refine ia_iload_n (pc := 56) F dX8_why_56 rfl ?_
  refine jV (pc := 57) F 0 0 (z99 hZ) cls11.1 (c_X8_cannotBuy u hZ hP hI h99 h100 (by omega) (fun h_1 => ?_) (fun h_2 h_3 => ?_) (fun h_4 h_5 => ?_)) rfl ⟨k_X8_cannotBuy, il_RX8_116, im_X8_cannotBuy, is_X8_cannotBuy, ii_RX8⟩ 1 rfl hd_X8_cannotBuy ⟨by decide, by decide, by decide, by decide, Nat.le_of_ble_eq_true rfl⟩ dX8_why_57
  · refine j1 ?_
    refine ia_ireturn (pc := 60) F M (by decide) (by decide) dX8_why_60 ?_
    exact q1 h_1
  · refine j1 ?_
    refine ia_ireturn (pc := 60) F M (by decide) (by decide) dX8_why_60 ?_
    exact q2 h_2 h_3
  · refine j1 ?_
    refine ia_ireturn (pc := 60) F M (by decide) (by decide) dX8_why_60 ?_
    exact q3 h_4 h_5
set_option maxRecDepth 100000 in
theorem c_X8_why_2 {Z : ia_Z} {V : ia_H} {Q : ia_O → ia_Z → ia_H → Prop} {σ : Nat → Int} {μ : Nat → Int} {m : Int} (c : Int) (u : Int) (hZ : ZI Z) (hP : PI V) (hI : SI σ m) (h99 : V 99 = μ) (h100 : V 100 = σ) (rc : -2147483648 ≤ c ∧ c ≤ 2147483647) (ru : -2147483648 ≤ u ∧ u ≤ 2147483647) (q1 : (¬ ((0 ≤ c ∧ c ≤ 9) ∧ 1 ≤ u ∧ u ≤ 50)) → Q (.inl (some (0, 1))) Z V) (q2 : ((0 ≤ c ∧ c ≤ 9) ∧ 1 ≤ u ∧ u ≤ 50) → (σ 0 = 7) → Q (.inl (some (0, 2))) Z V) (q3 : ((0 ≤ c ∧ c ≤ 9) ∧ 1 ≤ u ∧ u ≤ 50) → (¬ σ 0 = 7) → Q (.inl (some (0, 0))) Z V) : ia_K yX8_why cX8_why 4 (some .int) [(4, ((99 : Nat) : Int)), (0, 2), (0, c), (0, u)] Z V 5 0 0 Q := by
  refine ia_start RX8 "why" ⟨by decide, rfl, rfl⟩ (Nat.le_of_ble_eq_true rfl) (ia_tg rfl) (fun X F M => ?_)
  show ia_G X 0 0 0 [(4, ((99 : Nat) : Int)), (0, 2), (0, c), (0, u)] [] Z V
  obtain ⟨s0, s1, s2, s3, s4, s5, s6, s7, s18, sb, sw, se, sp⟩ := id hI
  refine ia_iload_n (pc := 0) F dX8_why_0 rfl ?_
  refine ia_sw (pc := 1) F 61 2 dX8_why_1 (by omega) (by omega) (by omega) rfl rfl ?_
  refine ia_aload_n (pc := 61) F dX8_why_61 rfl ?_
  refine ia_iload_n (pc := 62) F dX8_why_62 rfl ?_
  refine ia_iload_n (pc := 63) F dX8_why_63 rfl ?_
  refine jV (pc := 64) F 0 0 (z99 hZ) cls11.1 (c_X8_cannotAdd c u hZ hP hI h99 h100 (by omega) (by omega) (fun h_1 => ?_) (fun h_2 h_3 => ?_) (fun h_4 h_5 => ?_)) rfl ⟨k_X8_cannotAdd, il_RX8_141, im_X8_cannotAdd, is_X8_cannotAdd, ii_RX8⟩ 2 rfl hd_X8_cannotAdd ⟨by decide, by decide, by decide, by decide, Nat.le_of_ble_eq_true rfl⟩ dX8_why_64
  · refine j1 ?_
    refine ia_ireturn (pc := 67) F M (by decide) (by decide) dX8_why_67 ?_
    exact q1 h_1
  · refine j1 ?_
    refine ia_ireturn (pc := 67) F M (by decide) (by decide) dX8_why_67 ?_
    exact q2 h_2 h_3
  · refine j1 ?_
    refine ia_ireturn (pc := 67) F M (by decide) (by decide) dX8_why_67 ?_
    exact q3 h_4 h_5
set_option maxRecDepth 100000 in
theorem c_X8_why_3 {Z : ia_Z} {V : ia_H} {Q : ia_O → ia_Z → ia_H → Prop} {σ : Nat → Int} {μ : Nat → Int} {m : Int} (e : Int) (v2 : Int) (hZ : ZI Z) (hP : PI V) (hI : SI σ m) (h99 : V 99 = μ) (h100 : V 100 = σ) (re : -2147483648 ≤ e ∧ e ≤ 2147483647) (q1 : (0 ≤ e ∧ e < σ 0) → Q (.inl (some (0, 0))) Z V) (q2 : (¬ (0 ≤ e ∧ e < σ 0)) → Q (.inl (some (0, 1))) Z V) : ia_K yX8_why cX8_why 4 (some .int) [(4, ((99 : Nat) : Int)), (0, 3), (0, e), (0, v2)] Z V 5 0 0 Q := by
  refine ia_start RX8 "why" ⟨by decide, rfl, rfl⟩ (Nat.le_of_ble_eq_true rfl) (ia_tg rfl) (fun X F M => ?_)
  show ia_G X 0 0 0 [(4, ((99 : Nat) : Int)), (0, 3), (0, e), (0, v2)] [] Z V
  obtain ⟨s0, s1, s2, s3, s4, s5, s6, s7, s18, sb, sw, se, sp⟩ := id hI
  refine ia_iload_n (pc := 0) F dX8_why_0 rfl ?_
  refine ia_sw (pc := 1) F 68 3 dX8_why_1 (by omega) (by omega) (by omega) rfl rfl ?_
  refine ia_aload_n (pc := 68) F dX8_why_68 rfl ?_
  refine ia_iload_n (pc := 69) F dX8_why_69 rfl ?_
  refine jV (pc := 70) F 0 0 (z99 hZ) cls11.1 (c_X8_isEdition e hZ hP hI h99 h100 (by omega) (fun h_1 => ?_) (fun h_2 => ?_)) rfl ⟨k_X8_isEdition, il_RX8_147, im_X8_isEdition, is_X8_isEdition, ii_RX8⟩ 1 rfl hd_X8_isEdition ⟨by decide, by decide, by decide, by decide, Nat.le_of_ble_eq_true rfl⟩ dX8_why_70
  · refine j1 ?_
    refine ia_if_eq (pc := 73) F 80 dX8_why_73 rfl (by omega) (fun h9 => absurd h9 (by omega)) (fun _ => ?_)
    refine ia_iconst (pc := 76) F dX8_why_76 ?_
    refine ia_goto (pc := 77) F 81 dX8_why_77 rfl ?_
    refine ia_ireturn (pc := 81) F M (by decide) (by decide) dX8_why_81 ?_
    exact q1 h_1
  · refine j1 ?_
    refine ia_if_eq (pc := 73) F 80 dX8_why_73 rfl (by omega) (fun _ => ?_) (fun h9 => absurd h9 (by omega))
    refine ia_iconst (pc := 80) F dX8_why_80 ?_
    refine ia_ireturn (pc := 81) F M (by decide) (by decide) dX8_why_81 ?_
    exact q2 h_2
set_option maxRecDepth 100000 in
theorem c_X8_why_4 {Z : ia_Z} {V : ia_H} {Q : ia_O → ia_Z → ia_H → Prop} {σ : Nat → Int} {μ : Nat → Int} {m : Int} (e : Int) (v2 : Int) (hZ : ZI Z) (hP : PI V) (hI : SI σ m) (h99 : V 99 = μ) (h100 : V 100 = σ) (re : -2147483648 ≤ e ∧ e ≤ 2147483647) (q1 : (¬ (0 ≤ e ∧ e < σ 0)) → Q (.inl (some (0, 1))) Z V) (q2 : (0 ≤ e ∧ e < σ 0) → (miss σ e.toNat = 0) → Q (.inl (some (0, 2))) Z V) (q3 : (0 ≤ e ∧ e < σ 0) → (¬ miss σ e.toNat = 0) → (σ 2 = 0 ∨ wel σ (col σ e.toNat).toNat = 0) → Q (.inl (some (0, 3))) Z V) (q4 : (0 ≤ e ∧ e < σ 0) → (¬ miss σ e.toNat = 0) → (¬ (σ 2 = 0 ∨ wel σ (col σ e.toNat).toNat = 0)) → Q (.inl (some (0, 0))) Z V) : ia_K yX8_why cX8_why 4 (some .int) [(4, ((99 : Nat) : Int)), (0, 4), (0, e), (0, v2)] Z V 5 0 0 Q := by
  refine ia_start RX8 "why" ⟨by decide, rfl, rfl⟩ (Nat.le_of_ble_eq_true rfl) (ia_tg rfl) (fun X F M => ?_)
  show ia_G X 0 0 0 [(4, ((99 : Nat) : Int)), (0, 4), (0, e), (0, v2)] [] Z V
  obtain ⟨s0, s1, s2, s3, s4, s5, s6, s7, s18, sb, sw, se, sp⟩ := id hI
  refine ia_iload_n (pc := 0) F dX8_why_0 rfl ?_
  refine ia_sw (pc := 1) F 82 4 dX8_why_1 (by omega) (by omega) (by omega) rfl rfl ?_
  refine ia_aload_n (pc := 82) F dX8_why_82 rfl ?_
  refine ia_iload_n (pc := 83) F dX8_why_83 rfl ?_
  refine jV (pc := 84) F 0 0 (z99 hZ) cls11.1 (c_X8_cannotPrint e hZ hP hI h99 h100 (by omega) (fun h_1 => ?_) (fun h_2 h_3 => ?_) (fun h_4 h_5 h_6 => ?_) (fun h_7 h_8 h_9 => ?_)) rfl ⟨k_X8_cannotPrint, il_RX8_168, im_X8_cannotPrint, is_X8_cannotPrint, ii_RX8⟩ 1 rfl hd_X8_cannotPrint ⟨by decide, by decide, by decide, by decide, Nat.le_of_ble_eq_true rfl⟩ dX8_why_84
  · refine j1 ?_
    refine ia_ireturn (pc := 87) F M (by decide) (by decide) dX8_why_87 ?_
    exact q1 h_1
  · refine j1 ?_
    refine ia_ireturn (pc := 87) F M (by decide) (by decide) dX8_why_87 ?_
    exact q2 h_2 h_3
  · refine j1 ?_
    refine ia_ireturn (pc := 87) F M (by decide) (by decide) dX8_why_87 ?_
    exact q3 h_4 h_5 h_6
  · refine j1 ?_
    refine ia_ireturn (pc := 87) F M (by decide) (by decide) dX8_why_87 ?_
    exact q4 h_7 h_8 h_9
set_option maxRecDepth 100000 in
theorem c_X8_why_5 {Z : ia_Z} {V : ia_H} {Q : ia_O → ia_Z → ia_H → Prop} {σ : Nat → Int} {μ : Nat → Int} {m : Int} (v1 : Int) (v2 : Int) (hZ : ZI Z) (hP : PI V) (hI : SI σ m) (h99 : V 99 = μ) (h100 : V 100 = σ)  (q1 : Q (.inl (some (0, 0))) Z V) : ia_K yX8_why cX8_why 4 (some .int) [(4, ((99 : Nat) : Int)), (0, 5), (0, v1), (0, v2)] Z V 5 0 0 Q := by
  refine ia_start RX8 "why" ⟨by decide, rfl, rfl⟩ (Nat.le_of_ble_eq_true rfl) (ia_tg rfl) (fun X F M => ?_)
  show ia_G X 0 0 0 [(4, ((99 : Nat) : Int)), (0, 5), (0, v1), (0, v2)] [] Z V
  obtain ⟨s0, s1, s2, s3, s4, s5, s6, s7, s18, sb, sw, se, sp⟩ := id hI
  refine ia_iload_n (pc := 0) F dX8_why_0 rfl ?_
  refine ia_sw (pc := 1) F 88 5 dX8_why_1 (by omega) (by omega) (by omega) rfl rfl ?_
  refine ia_iconst (pc := 88) F dX8_why_88 ?_
  refine ia_ireturn (pc := 89) F M (by decide) (by decide) dX8_why_89 ?_
  exact q1 
set_option maxRecDepth 100000 in
theorem c_X8_why_6 {Z : ia_Z} {V : ia_H} {Q : ia_O → ia_Z → ia_H → Prop} {σ : Nat → Int} {μ : Nat → Int} {m : Int} (h : Int) (v2 : Int) (hZ : ZI Z) (hP : PI V) (hI : SI σ m) (h99 : V 99 = μ) (h100 : V 100 = σ) (rh : -2147483648 ≤ h ∧ h ≤ 2147483647) (q1 : (1 ≤ h ∧ h ≤ 48) → Q (.inl (some (0, 0))) Z V) (q2 : (¬ (1 ≤ h ∧ h ≤ 48)) → Q (.inl (some (0, 1))) Z V) : ia_K yX8_why cX8_why 4 (some .int) [(4, ((99 : Nat) : Int)), (0, 6), (0, h), (0, v2)] Z V 5 0 0 Q := by
  refine ia_start RX8 "why" ⟨by decide, rfl, rfl⟩ (Nat.le_of_ble_eq_true rfl) (ia_tg rfl) (fun X F M => ?_)
  show ia_G X 0 0 0 [(4, ((99 : Nat) : Int)), (0, 6), (0, h), (0, v2)] [] Z V
  obtain ⟨s0, s1, s2, s3, s4, s5, s6, s7, s18, sb, sw, se, sp⟩ := id hI
  refine ia_iload_n (pc := 0) F dX8_why_0 rfl ?_
  refine ia_sw (pc := 1) F 90 6 dX8_why_1 (by omega) (by omega) (by omega) rfl rfl ?_
  refine ia_iload_n (pc := 90) F dX8_why_90 rfl ?_
  refine ia_iconst (pc := 91) F dX8_why_91 ?_
  refine ia_bipush (pc := 92) F dX8_why_92 (by decide) ?_
  refine jS (pc := 94) F 0 0 (c_X8_in h 1 48 (by omega) (by omega) (by omega) (fun h_1 => ?_) (fun h_2 => ?_)) rfl ⟨k_X8_in, il_RX8_91, it_X8_in, ii_RX8⟩ rfl 3 rfl hd_X8_in ⟨by decide, by decide, by decide, by decide, Nat.le_of_ble_eq_true rfl⟩ dX8_why_94
  · refine j1 ?_
    refine ia_if_eq (pc := 97) F 104 dX8_why_97 rfl (by omega) (fun h9 => absurd h9 (by omega)) (fun _ => ?_)
    refine ia_iconst (pc := 100) F dX8_why_100 ?_
    refine ia_goto (pc := 101) F 105 dX8_why_101 rfl ?_
    refine ia_ireturn (pc := 105) F M (by decide) (by decide) dX8_why_105 ?_
    exact q1 h_1
  · refine j1 ?_
    refine ia_if_eq (pc := 97) F 104 dX8_why_97 rfl (by omega) (fun _ => ?_) (fun h9 => absurd h9 (by omega))
    refine ia_iconst (pc := 104) F dX8_why_104 ?_
    refine ia_ireturn (pc := 105) F M (by decide) (by decide) dX8_why_105 ?_
    exact q2 h_2
set_option maxRecDepth 100000 in
theorem c_X8_why_7 {Z : ia_Z} {V : ia_H} {Q : ia_O → ia_Z → ia_H → Prop} {σ : Nat → Int} {μ : Nat → Int} {m : Int} (u : Int) (v2 : Int) (hZ : ZI Z) (hP : PI V) (hI : SI σ m) (h99 : V 99 = μ) (h100 : V 100 = σ) (ru : -2147483648 ≤ u ∧ u ≤ 2147483647) (q1 : (¬ (0 ≤ u ∧ u ≤ 99)) → Q (.inl (some (0, 1))) Z V) (q2 : (0 ≤ u ∧ u ≤ 99) → (σ 1 = 12) → Q (.inl (some (0, 2))) Z V) (q3 : (0 ≤ u ∧ u ≤ 99) → (¬ σ 1 = 12) → Q (.inl (some (0, 0))) Z V) : ia_K yX8_why cX8_why 4 (some .int) [(4, ((99 : Nat) : Int)), (0, 7), (0, u), (0, v2)] Z V 5 0 0 Q := by
  refine ia_start RX8 "why" ⟨by decide, rfl, rfl⟩ (Nat.le_of_ble_eq_true rfl) (ia_tg rfl) (fun X F M => ?_)
  show ia_G X 0 0 0 [(4, ((99 : Nat) : Int)), (0, 7), (0, u), (0, v2)] [] Z V
  obtain ⟨s0, s1, s2, s3, s4, s5, s6, s7, s18, sb, sw, se, sp⟩ := id hI
  refine ia_iload_n (pc := 0) F dX8_why_0 rfl ?_
  refine ia_sw (pc := 1) F 106 7 dX8_why_1 (by omega) (by omega) (by omega) rfl rfl ?_
  refine ia_aload_n (pc := 106) F dX8_why_106 rfl ?_
  refine ia_iload_n (pc := 107) F dX8_why_107 rfl ?_
  refine jV (pc := 108) F 0 0 (z99 hZ) cls11.1 (c_X8_cannotProve u hZ hP hI h99 h100 (by omega) (fun h_1 => ?_) (fun h_2 h_3 => ?_) (fun h_4 h_5 => ?_)) rfl ⟨k_X8_cannotProve, il_RX8_210, im_X8_cannotProve, is_X8_cannotProve, ii_RX8⟩ 1 rfl hd_X8_cannotProve ⟨by decide, by decide, by decide, by decide, Nat.le_of_ble_eq_true rfl⟩ dX8_why_108
  · refine j1 ?_
    refine ia_ireturn (pc := 111) F M (by decide) (by decide) dX8_why_111 ?_
    exact q1 h_1
  · refine j1 ?_
    refine ia_ireturn (pc := 111) F M (by decide) (by decide) dX8_why_111 ?_
    exact q2 h_2 h_3
  · refine j1 ?_
    refine ia_ireturn (pc := 111) F M (by decide) (by decide) dX8_why_111 ?_
    exact q3 h_4 h_5
set_option maxRecDepth 100000 in
theorem c_X8_why_8 {Z : ia_Z} {V : ia_H} {Q : ia_O → ia_Z → ia_H → Prop} {σ : Nat → Int} {μ : Nat → Int} {m : Int} (p : Int) (v2 : Int) (hZ : ZI Z) (hP : PI V) (hI : SI σ m) (h99 : V 99 = μ) (h100 : V 100 = σ) (rp : -2147483648 ≤ p ∧ p ≤ 2147483647) (q1 : (0 ≤ p ∧ p < σ 1) → Q (.inl (some (0, 0))) Z V) (q2 : (¬ (0 ≤ p ∧ p < σ 1)) → Q (.inl (some (0, 1))) Z V) : ia_K yX8_why cX8_why 4 (some .int) [(4, ((99 : Nat) : Int)), (0, 8), (0, p), (0, v2)] Z V 5 0 0 Q := by
  refine ia_start RX8 "why" ⟨by decide, rfl, rfl⟩ (Nat.le_of_ble_eq_true rfl) (ia_tg rfl) (fun X F M => ?_)
  show ia_G X 0 0 0 [(4, ((99 : Nat) : Int)), (0, 8), (0, p), (0, v2)] [] Z V
  obtain ⟨s0, s1, s2, s3, s4, s5, s6, s7, s18, sb, sw, se, sp⟩ := id hI
  refine ia_iload_n (pc := 0) F dX8_why_0 rfl ?_
  refine ia_swo (pc := 1) F 112 dX8_why_1 (by omega) (by omega) rfl ?_
  refine ia_aload_n (pc := 112) F dX8_why_112 rfl ?_
  refine ia_iload_n (pc := 113) F dX8_why_113 rfl ?_
  refine jV (pc := 114) F 0 0 (z99 hZ) cls11.1 (c_X8_isProof p hZ hP hI h99 h100 (by omega) (fun h_1 => ?_) (fun h_2 => ?_)) rfl ⟨k_X8_isProof, il_RX8_216, im_X8_isProof, is_X8_isProof, ii_RX8⟩ 1 rfl hd_X8_isProof ⟨by decide, by decide, by decide, by decide, Nat.le_of_ble_eq_true rfl⟩ dX8_why_114
  · refine j1 ?_
    refine ia_if_eq (pc := 117) F 124 dX8_why_117 rfl (by omega) (fun h9 => absurd h9 (by omega)) (fun _ => ?_)
    refine ia_iconst (pc := 120) F dX8_why_120 ?_
    refine ia_goto (pc := 121) F 125 dX8_why_121 rfl ?_
    refine ia_ireturn (pc := 125) F M (by decide) (by decide) dX8_why_125 ?_
    exact q1 h_1
  · refine j1 ?_
    refine ia_if_eq (pc := 117) F 124 dX8_why_117 rfl (by omega) (fun _ => ?_) (fun h9 => absurd h9 (by omega))
    refine ia_iconst (pc := 124) F dX8_why_124 ?_
    refine ia_ireturn (pc := 125) F M (by decide) (by decide) dX8_why_125 ?_
    exact q2 h_2
set_option maxRecDepth 100000 in
theorem c_X8_does_0 {Z : ia_Z} {V : ia_H} {Q : ia_O → ia_Z → ia_H → Prop} {σ : Nat → Int} {μ : Nat → Int} {m : Int} (c : Int) (u : Int) (hZ : ZI Z) (hP : PI V) (hI : SI σ m) (h99 : V 99 = μ) (h100 : V 100 = σ) (hc : 0 ≤ c ∧ c ≤ 9) (q1 : ∀ (V1 : ia_H), PI V1 → (V1 100 = s_pour σ c.toNat u) → (∀ pp, pp ∉ ([100] : List Nat) → V1 pp = V pp) → Q (.inl (some (0, (wel σ c.toNat + u)))) Z V1) : ia_K yX8_does cX8_does 4 (some .int) [(4, ((99 : Nat) : Int)), (0, 0), (0, c), (0, u)] Z V 8 0 0 Q := by
  refine ia_start RX8 "does" ⟨by decide, rfl, rfl⟩ (Nat.le_of_ble_eq_true rfl) (ia_tg rfl) (fun X F M => ?_)
  show ia_G X 0 0 0 [(4, ((99 : Nat) : Int)), (0, 0), (0, c), (0, u)] [] Z V
  obtain ⟨s0, s1, s2, s3, s4, s5, s6, s7, s18, sb, sw, se, sp⟩ := id hI
  refine ia_iload_n (pc := 0) F dX8_does_0 rfl ?_
  refine ia_sw (pc := 1) F 48 0 dX8_does_1 (by omega) (by omega) (by omega) rfl rfl ?_
  refine ia_aload_n (pc := 48) F dX8_does_48 rfl ?_
  refine ia_iload_n (pc := 49) F dX8_does_49 rfl ?_
  refine ia_iload_n (pc := 50) F dX8_does_50 rfl ?_
  refine jV (pc := 51) F 0 0 (z99 hZ) cls11.1 (c_X8_pours c u hZ hP hI h99 h100 (by omega) (fun V_1 p_2 w_3 f_4 => ?_)) rfl ⟨k_X8_pours, il_RX8_110, im_X8_pours, is_X8_pours, ii_RX8⟩ 2 rfl hd_X8_pours ⟨by decide, by decide, by decide, by decide, Nat.le_of_ble_eq_true rfl⟩ dX8_does_51
  refine j1 ?_
  refine ia_ireturn (pc := 54) F M (by decide) (by decide) dX8_does_54 ?_
  exact q1 _ p_2 w_3 (Fr_c (Fr_0 (V := V) (S := [100])) f_4 (by decide))
set_option maxRecDepth 100000 in
theorem c_X8_does_1 {Z : ia_Z} {V : ia_H} {Q : ia_O → ia_Z → ia_H → Prop} {σ : Nat → Int} {μ : Nat → Int} {m : Int} (u : Int) (v2 : Int) (hZ : ZI Z) (hP : PI V) (hI : SI σ m) (h99 : V 99 = μ) (h100 : V 100 = σ)  (q1 : ∀ (V1 : ia_H), PI V1 → (V1 100 = s_buy σ u) → (∀ pp, pp ∉ ([100] : List Nat) → V1 pp = V pp) → Q (.inl (some (0, (σ 2 + u)))) Z V1) : ia_K yX8_does cX8_does 4 (some .int) [(4, ((99 : Nat) : Int)), (0, 1), (0, u), (0, v2)] Z V 8 0 0 Q := by
  refine ia_start RX8 "does" ⟨by decide, rfl, rfl⟩ (Nat.le_of_ble_eq_true rfl) (ia_tg rfl) (fun X F M => ?_)
  show ia_G X 0 0 0 [(4, ((99 : Nat) : Int)), (0, 1), (0, u), (0, v2)] [] Z V
  obtain ⟨s0, s1, s2, s3, s4, s5, s6, s7, s18, sb, sw, se, sp⟩ := id hI
  refine ia_iload_n (pc := 0) F dX8_does_0 rfl ?_
  refine ia_sw (pc := 1) F 55 1 dX8_does_1 (by omega) (by omega) (by omega) rfl rfl ?_
  refine ia_aload_n (pc := 55) F dX8_does_55 rfl ?_
  refine ia_iload_n (pc := 56) F dX8_does_56 rfl ?_
  refine jV (pc := 57) F 0 0 (z99 hZ) cls11.1 (c_X8_buys u hZ hP hI h99 h100 (fun V_1 p_2 w_3 f_4 => ?_)) rfl ⟨k_X8_buys, il_RX8_119, im_X8_buys, is_X8_buys, ii_RX8⟩ 1 rfl hd_X8_buys ⟨by decide, by decide, by decide, by decide, Nat.le_of_ble_eq_true rfl⟩ dX8_does_57
  refine j1 ?_
  refine ia_ireturn (pc := 60) F M (by decide) (by decide) dX8_does_60 ?_
  exact q1 _ p_2 w_3 (Fr_c (Fr_0 (V := V) (S := [100])) f_4 (by decide))
set_option maxRecDepth 100000 in
theorem c_X8_does_2 {Z : ia_Z} {V : ia_H} {Q : ia_O → ia_Z → ia_H → Prop} {σ : Nat → Int} {μ : Nat → Int} {m : Int} (c : Int) (u : Int) (hZ : ZI Z) (hP : PI V) (hI : SI σ m) (h99 : V 99 = μ) (h100 : V 100 = σ) (h7 : σ 0 < 7) (q1 : ∀ (V1 : ia_H), PI V1 → (V1 100 = s_add σ c u) → (∀ pp, pp ∉ ([100] : List Nat) → V1 pp = V pp) → Q (.inl (some (0, (σ 0 + 1 - 1)))) Z V1) : ia_K yX8_does cX8_does 4 (some .int) [(4, ((99 : Nat) : Int)), (0, 2), (0, c), (0, u)] Z V 8 0 0 Q := by
  refine ia_start RX8 "does" ⟨by decide, rfl, rfl⟩ (Nat.le_of_ble_eq_true rfl) (ia_tg rfl) (fun X F M => ?_)
  show ia_G X 0 0 0 [(4, ((99 : Nat) : Int)), (0, 2), (0, c), (0, u)] [] Z V
  obtain ⟨s0, s1, s2, s3, s4, s5, s6, s7, s18, sb, sw, se, sp⟩ := id hI
  refine ia_iload_n (pc := 0) F dX8_does_0 rfl ?_
  refine ia_sw (pc := 1) F 61 2 dX8_does_1 (by omega) (by omega) (by omega) rfl rfl ?_
  refine ia_aload_n (pc := 61) F dX8_does_61 rfl ?_
  refine ia_iload_n (pc := 62) F dX8_does_62 rfl ?_
  refine ia_iload_n (pc := 63) F dX8_does_63 rfl ?_
  refine jV (pc := 64) F 0 0 (z99 hZ) cls11.1 (c_X8_adds c u hZ hP hI h99 h100 (by omega) (fun V_1 p_2 w_3 f_4 => ?_)) rfl ⟨k_X8_adds, il_RX8_144, im_X8_adds, is_X8_adds, ii_RX8⟩ 2 rfl hd_X8_adds ⟨by decide, by decide, by decide, by decide, Nat.le_of_ble_eq_true rfl⟩ dX8_does_64
  refine j1 ?_
  refine ia_ireturn (pc := 67) F M (by decide) (by decide) dX8_does_67 ?_
  exact q1 _ p_2 w_3 (Fr_c (Fr_0 (V := V) (S := [100])) f_4 (by decide))
set_option maxRecDepth 100000 in
theorem c_X8_does_3 {Z : ia_Z} {V : ia_H} {Q : ia_O → ia_Z → ia_H → Prop} {σ : Nat → Int} {μ : Nat → Int} {m : Int} (e : Int) (v2 : Int) (hZ : ZI Z) (hP : PI V) (hI : SI σ m) (h99 : V 99 = μ) (h100 : V 100 = σ) (he : 0 ≤ e ∧ e < σ 0) (q1 : ∀ (V1 : ia_H), PI V1 → (V1 100 = s_rem σ e.toNat) → (∀ pp, pp ∉ ([100] : List Nat) → V1 pp = V pp) → Q (.inl (some (0, (σ 0 - 1)))) Z V1) : ia_K yX8_does cX8_does 4 (some .int) [(4, ((99 : Nat) : Int)), (0, 3), (0, e), (0, v2)] Z V 8 0 0 Q := by
  refine ia_start RX8 "does" ⟨by decide, rfl, rfl⟩ (Nat.le_of_ble_eq_true rfl) (ia_tg rfl) (fun X F M => ?_)
  show ia_G X 0 0 0 [(4, ((99 : Nat) : Int)), (0, 3), (0, e), (0, v2)] [] Z V
  obtain ⟨s0, s1, s2, s3, s4, s5, s6, s7, s18, sb, sw, se, sp⟩ := id hI
  refine ia_iload_n (pc := 0) F dX8_does_0 rfl ?_
  refine ia_sw (pc := 1) F 68 3 dX8_does_1 (by omega) (by omega) (by omega) rfl rfl ?_
  refine ia_aload_n (pc := 68) F dX8_does_68 rfl ?_
  refine ia_iload_n (pc := 69) F dX8_does_69 rfl ?_
  refine jV (pc := 70) F 0 0 (z99 hZ) cls11.1 (c_X8_removes e hZ hP hI h99 h100 (by omega) (fun V_1 p_2 w_3 f_4 => ?_)) rfl ⟨k_X8_removes, il_RX8_150, im_X8_removes, is_X8_removes, ii_RX8⟩ 1 rfl hd_X8_removes ⟨by decide, by decide, by decide, by decide, Nat.le_of_ble_eq_true rfl⟩ dX8_does_70
  refine j1 ?_
  refine ia_ireturn (pc := 73) F M (by decide) (by decide) dX8_does_73 ?_
  exact q1 _ p_2 w_3 (Fr_c (Fr_0 (V := V) (S := [100])) f_4 (by decide))
set_option maxRecDepth 100000 in
theorem c_X8_does_4 {Z : ia_Z} {V : ia_H} {Q : ia_O → ia_Z → ia_H → Prop} {σ : Nat → Int} {μ : Nat → Int} {m : Int} (e : Int) (v2 : Int) (hZ : ZI Z) (hP : PI V) (hI : SI σ m) (h99 : V 99 = μ) (h100 : V 100 = σ) (he : 0 ≤ e ∧ e < σ 0) (q1 : ∀ (n : Int) (V1 : ia_H), (n = min (miss σ e.toNat) (min (σ 2) (wel σ (col σ e.toNat).toNat))) → PI V1 → (V1 100 = s_print σ e.toNat n) → (∀ pp, pp ∉ ([100] : List Nat) → V1 pp = V pp) → Q (.inl (some (0, n))) Z V1) : ia_K yX8_does cX8_does 4 (some .int) [(4, ((99 : Nat) : Int)), (0, 4), (0, e), (0, v2)] Z V 8 0 0 Q := by
  refine ia_start RX8 "does" ⟨by decide, rfl, rfl⟩ (Nat.le_of_ble_eq_true rfl) (ia_tg rfl) (fun X F M => ?_)
  show ia_G X 0 0 0 [(4, ((99 : Nat) : Int)), (0, 4), (0, e), (0, v2)] [] Z V
  obtain ⟨s0, s1, s2, s3, s4, s5, s6, s7, s18, sb, sw, se, sp⟩ := id hI
  refine ia_iload_n (pc := 0) F dX8_does_0 rfl ?_
  refine ia_sw (pc := 1) F 74 4 dX8_does_1 (by omega) (by omega) (by omega) rfl rfl ?_
  refine ia_aload_n (pc := 74) F dX8_does_74 rfl ?_
  refine ia_iload_n (pc := 75) F dX8_does_75 rfl ?_
  refine jV (pc := 76) F 0 0 (z99 hZ) cls11.1 (c_X8_printsOne e hZ hP hI h99 h100 (by omega) (fun n_1 V_2 h_3 p_4 w_5 f_6 => ?_)) rfl ⟨k_X8_printsOne, il_RX8_171, im_X8_printsOne, is_X8_printsOne, ii_RX8⟩ 1 rfl hd_X8_printsOne ⟨by decide, by decide, by decide, by decide, Nat.le_of_ble_eq_true rfl⟩ dX8_does_76
  refine j1 ?_
  refine ia_ireturn (pc := 79) F M (by decide) (by decide) dX8_does_79 ?_
  exact q1 n_1 _ h_3 p_4 w_5 (Fr_c (Fr_0 (V := V) (S := [100])) f_6 (by decide))
set_option maxRecDepth 100000 in
theorem c_X8_does_5 {Z : ia_Z} {V : ia_H} {Q : ia_O → ia_Z → ia_H → Prop} {σ : Nat → Int} {μ : Nat → Int} {φ : Nat → Int} {ψ : Nat → Int} {ω : Nat → Int} {m : Int} (v1 : Int) (v2 : Int) (hZ : ZI Z) (hP : PI V) (hI : SI σ m) (h99 : V 99 = μ) (h100 : V 100 = σ) (h104 : V 104 = φ) (h105 : V 105 = ψ) (h108 : V 108 = ω) (hm : m + 1 ≤ 20000) (q1 : ∀ (V1 : ia_H), PI V1 → (V1 100 = s_all σ) → (∀ pp, pp ∉ ([100, 104, 105, 108] : List Nat) → V1 pp = V pp) → Q (.inl (some (0, (n_all σ)))) Z V1) : ia_K yX8_does cX8_does 4 (some .int) [(4, ((99 : Nat) : Int)), (0, 5), (0, v1), (0, v2)] Z V 8 0 0 Q := by
  refine ia_start RX8 "does" ⟨by decide, rfl, rfl⟩ (Nat.le_of_ble_eq_true rfl) (ia_tg rfl) (fun X F M => ?_)
  show ia_G X 0 0 0 [(4, ((99 : Nat) : Int)), (0, 5), (0, v1), (0, v2)] [] Z V
  obtain ⟨s0, s1, s2, s3, s4, s5, s6, s7, s18, sb, sw, se, sp⟩ := id hI
  refine ia_iload_n (pc := 0) F dX8_does_0 rfl ?_
  refine ia_sw (pc := 1) F 80 5 dX8_does_1 (by omega) (by omega) (by omega) rfl rfl ?_
  refine ia_aload_n (pc := 80) F dX8_does_80 rfl ?_
  refine jV (pc := 81) F 0 0 (z99 hZ) cls11.1 (c_X8_printsAll hZ hP hI h99 h100 h104 h105 h108 (by omega) (fun V_1 p_2 w_3 f_4 => ?_)) rfl ⟨k_X8_printsAll, il_RX8_204, im_X8_printsAll, is_X8_printsAll, ii_RX8⟩ 0 rfl hd_X8_printsAll ⟨by decide, by decide, by decide, by decide, Nat.le_of_ble_eq_true rfl⟩ dX8_does_81
  refine j1 ?_
  refine ia_ireturn (pc := 84) F M (by decide) (by decide) dX8_does_84 ?_
  exact q1 _ p_2 w_3 (Fr_c (Fr_0 (V := V) (S := [100, 104, 105, 108])) f_4 (by decide))
set_option maxRecDepth 100000 in
theorem c_X8_does_6 {Z : ia_Z} {V : ia_H} {Q : ia_O → ia_Z → ia_H → Prop} {σ : Nat → Int} {μ : Nat → Int} {m : Int} (h : Int) (v2 : Int) (hZ : ZI Z) (hP : PI V) (hI : SI σ m) (h99 : V 99 = μ) (h100 : V 100 = σ) (hh : 0 ≤ h ∧ h ≤ 48) (q1 : ∀ (V1 : ia_H), PI V1 → (V1 100 = s_pass σ h.toNat) → (∀ pp, pp ∉ ([100] : List Nat) → V1 pp = V pp) → Q (.inl (some (0, (lostN σ h.toNat)))) Z V1) : ia_K yX8_does cX8_does 4 (some .int) [(4, ((99 : Nat) : Int)), (0, 6), (0, h), (0, v2)] Z V 8 0 0 Q := by
  refine ia_start RX8 "does" ⟨by decide, rfl, rfl⟩ (Nat.le_of_ble_eq_true rfl) (ia_tg rfl) (fun X F M => ?_)
  show ia_G X 0 0 0 [(4, ((99 : Nat) : Int)), (0, 6), (0, h), (0, v2)] [] Z V
  obtain ⟨s0, s1, s2, s3, s4, s5, s6, s7, s18, sb, sw, se, sp⟩ := id hI
  refine ia_iload_n (pc := 0) F dX8_does_0 rfl ?_
  refine ia_sw (pc := 1) F 85 6 dX8_does_1 (by omega) (by omega) (by omega) rfl rfl ?_
  refine ia_aload_n (pc := 85) F dX8_does_85 rfl ?_
  refine ia_iload_n (pc := 86) F dX8_does_86 rfl ?_
  refine jV (pc := 87) F 0 0 (z99 hZ) cls11.1 (c_X8_passes h hZ hP hI h99 h100 (by omega) (fun V_1 p_2 w_3 f_4 => ?_)) rfl ⟨k_X8_passes, il_RX8_122, im_X8_passes, is_X8_passes, ii_RX8⟩ 1 rfl hd_X8_passes ⟨by decide, by decide, by decide, by decide, Nat.le_of_ble_eq_true rfl⟩ dX8_does_87
  refine j1 ?_
  refine ia_ireturn (pc := 90) F M (by decide) (by decide) dX8_does_90 ?_
  exact q1 _ p_2 w_3 (Fr_c (Fr_0 (V := V) (S := [100])) f_4 (by decide))
set_option maxRecDepth 100000 in
theorem c_X8_does_7 {Z : ia_Z} {V : ia_H} {Q : ia_O → ia_Z → ia_H → Prop} {σ : Nat → Int} {μ : Nat → Int} {m : Int} (u : Int) (v2 : Int) (hZ : ZI Z) (hP : PI V) (hI : SI σ m) (h99 : V 99 = μ) (h100 : V 100 = σ) (h7 : σ 1 < 12) (q1 : ∀ (V1 : ia_H), PI V1 → (V1 100 = s_prove σ u) → (∀ pp, pp ∉ ([100] : List Nat) → V1 pp = V pp) → Q (.inl (some (0, (σ 1 + 1 - 1)))) Z V1) : ia_K yX8_does cX8_does 4 (some .int) [(4, ((99 : Nat) : Int)), (0, 7), (0, u), (0, v2)] Z V 8 0 0 Q := by
  refine ia_start RX8 "does" ⟨by decide, rfl, rfl⟩ (Nat.le_of_ble_eq_true rfl) (ia_tg rfl) (fun X F M => ?_)
  show ia_G X 0 0 0 [(4, ((99 : Nat) : Int)), (0, 7), (0, u), (0, v2)] [] Z V
  obtain ⟨s0, s1, s2, s3, s4, s5, s6, s7, s18, sb, sw, se, sp⟩ := id hI
  refine ia_iload_n (pc := 0) F dX8_does_0 rfl ?_
  refine ia_sw (pc := 1) F 91 7 dX8_does_1 (by omega) (by omega) (by omega) rfl rfl ?_
  refine ia_aload_n (pc := 91) F dX8_does_91 rfl ?_
  refine ia_iload_n (pc := 92) F dX8_does_92 rfl ?_
  refine jV (pc := 93) F 0 0 (z99 hZ) cls11.1 (c_X8_proves u hZ hP hI h99 h100 (by omega) (fun V_1 p_2 w_3 f_4 => ?_)) rfl ⟨k_X8_proves, il_RX8_213, im_X8_proves, is_X8_proves, ii_RX8⟩ 1 rfl hd_X8_proves ⟨by decide, by decide, by decide, by decide, Nat.le_of_ble_eq_true rfl⟩ dX8_does_93
  refine j1 ?_
  refine ia_ireturn (pc := 96) F M (by decide) (by decide) dX8_does_96 ?_
  exact q1 _ p_2 w_3 (Fr_c (Fr_0 (V := V) (S := [100])) f_4 (by decide))
set_option maxRecDepth 100000 in
theorem c_X8_does_8 {Z : ia_Z} {V : ia_H} {Q : ia_O → ia_Z → ia_H → Prop} {σ : Nat → Int} {μ : Nat → Int} {m : Int} (p : Int) (v2 : Int) (hZ : ZI Z) (hP : PI V) (hI : SI σ m) (h99 : V 99 = μ) (h100 : V 100 = σ) (hp9 : 0 ≤ p ∧ p < σ 1) (q1 : ∀ (V1 : ia_H), PI V1 → (V1 100 = s_drop σ p.toNat) → (∀ pp, pp ∉ ([100] : List Nat) → V1 pp = V pp) → Q (.inl (some (0, (σ 1 - 1)))) Z V1) : ia_K yX8_does cX8_does 4 (some .int) [(4, ((99 : Nat) : Int)), (0, 8), (0, p), (0, v2)] Z V 8 0 0 Q := by
  refine ia_start RX8 "does" ⟨by decide, rfl, rfl⟩ (Nat.le_of_ble_eq_true rfl) (ia_tg rfl) (fun X F M => ?_)
  show ia_G X 0 0 0 [(4, ((99 : Nat) : Int)), (0, 8), (0, p), (0, v2)] [] Z V
  obtain ⟨s0, s1, s2, s3, s4, s5, s6, s7, s18, sb, sw, se, sp⟩ := id hI
  refine ia_iload_n (pc := 0) F dX8_does_0 rfl ?_
  refine ia_swo (pc := 1) F 97 dX8_does_1 (by omega) (by omega) rfl ?_
  refine ia_aload_n (pc := 97) F dX8_does_97 rfl ?_
  refine ia_iload_n (pc := 98) F dX8_does_98 rfl ?_
  refine jV (pc := 99) F 0 0 (z99 hZ) cls11.1 (c_X8_drops p hZ hP hI h99 h100 (by omega) (fun V_1 p_2 w_3 f_4 => ?_)) rfl ⟨k_X8_drops, il_RX8_219, im_X8_drops, is_X8_drops, ii_RX8⟩ 1 rfl hd_X8_drops ⟨by decide, by decide, by decide, by decide, Nat.le_of_ble_eq_true rfl⟩ dX8_does_99
  refine j1 ?_
  refine ia_ireturn (pc := 102) F M (by decide) (by decide) dX8_does_102 ?_
  exact q1 _ p_2 w_3 (Fr_c (Fr_0 (V := V) (S := [100])) f_4 (by decide))
