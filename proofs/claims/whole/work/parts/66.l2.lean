/-! lines: the model (made by wip/whole/lines.py) -/
set_option maxRecDepth 100000 in
theorem c_X8_writeT {Z : ia_Z} {V : ia_H} {Q : ia_O → ia_Z → ia_H → Prop} {σ : Nat → Int} {μ : Nat → Int} {κ : Nat → Int} (n : Nat) (c : Int) (hZ : ZI Z) (hP : PI V) (h99 : V 99 = μ) (h100 : V 100 = σ) (h109 : V 109 = κ) (h15 : μ 15 = (n : Int)) (hn : n ≤ 79) (q1 : ∀ (V1 : ia_H), PI V1 → (V1 99 = up μ 15 ((n + 1 : Nat) : Int)) → (V1 109 = up κ n c) → (∀ pp, pp ∉ ([99, 109] : List Nat) → V1 pp = V pp) → Q (.inl none) Z V1) : ia_K yX8_write cX8_write 2 none [(4, ((99 : Nat) : Int)), (0, c)] Z V 2 0 0 Q := by
  refine ia_start RX8 "write" ⟨by decide, rfl, rfl⟩ (Nat.le_of_ble_eq_true rfl) (ia_tg rfl) (fun X F M => ?_)
  show ia_G X 0 0 0 [(4, ((99 : Nat) : Int)), (0, c)] [] Z V
  refine ia_aload_n (pc := 0) F dX8_write_0 rfl ?_
  refine jg (pc := 1) F (z99 hZ) cls11 f11_14 (hP 99 14 109 rfl) il_RX8_54 dX8_write_1 ?_
  refine ia_aload_n (pc := 4) F dX8_write_4 rfl ?_
  refine jg (pc := 5) F (x := (n : Int)) (z99 hZ) cls11 f11_15 ((congrFun h99 15).trans h15) il_RX8_57 dX8_write_5 ?_
  refine ia_iload_n (pc := 8) F dX8_write_8 rfl ?_
  refine js (pc := 9) F (z109 hZ) n rfl (by omega) dX8_write_9 ?_
  refine ia_aload_n (pc := 10) F dX8_write_10 rfl ?_
  refine ia_dup (pc := 11) F dX8_write_11 (Or.inr (Or.inr rfl)) ?_
  refine jg (pc := 12) F (x := (n : Int)) (z99 hZ) cls11 f11_15 ((congrFun ((rowN (by decide)).trans h99) 15).trans h15) il_RX8_57 dX8_write_12 ?_
  refine ia_iconst (pc := 15) F dX8_write_15 ?_
  refine ia_iadd (pc := 16) F dX8_write_16 ?_
  refine jp (pc := 17) F (z99 hZ) cls11 f11_15 rfl (ia_nI rfl _) il_RX8_57 dX8_write_17 ?_
  refine ia_return (pc := 20) F M (by decide) (by decide) dX8_write_20 ?_
  exact q1 _ (PI_u (PI_u hP rfl) rfl) ((rowU ((rowN (by decide)).trans h99)).trans rfl) ((rowN (by decide)).trans (rowU h109)) (Fr_u (Fr_u (Fr_0 (V := V) (S := [99, 109])) (by decide)) (by decide))
set_option maxRecDepth 100000 in
set_option maxHeartbeats 2000000 in
theorem c_X8_writeNumber {Z : ia_Z} {V : ia_H} {Q : ia_O → ia_Z → ia_H → Prop} {σ : Nat → Int} {μ : Nat → Int} {κ : Nat → Int} (n : Nat) (v : Int) (hZ : ZI Z) (hP : PI V) (h99 : V 99 = μ) (h100 : V 100 = σ) (h109 : V 109 = κ) (h15 : μ 15 = (n : Int)) (hv : 0 ≤ v ∧ v ≤ 999) (hn : n ≤ 76) (q1 : ∀ (V1 : ia_H), PI V1 → (V1 99 = up μ 15 ((n + wd_n v : Nat) : Int)) → (V1 109 = wd_a κ n v) → (∀ pp, pp ∉ ([99, 109] : List Nat) → V1 pp = V pp) → Q (.inl none) Z V1) : ia_K yX8_writeNumber cX8_writeNumber 3 none [(4, ((99 : Nat) : Int)), (0, v)] Z V 3 0 0 Q := by
  refine ia_start RX8 "writeNumber" ⟨by decide, rfl, rfl⟩ (Nat.le_of_ble_eq_true rfl) (ia_tg rfl) (fun X F M => ?_)
  show ia_G X 0 0 0 [(4, ((99 : Nat) : Int)), (0, v), (9, 0)] [] Z V
  rcases (show v < 10 ∨ (10 ≤ v ∧ v < 100) ∨ 100 ≤ v by omega) with hd | hd | hd
  · have hk : wd_n v = 1 := wd_n1 hd
    refine ia_iconst (pc := 0) F dX8_writeNumber_0 ?_
    refine ia_istore_n (pc := 1) F (ls' := [(4, ((99 : Nat) : Int)), (0, v), (0, 1)]) dX8_writeNumber_1 (Nat.le_of_ble_eq_true rfl) rfl rfl ?_
    refine ia_iload_n (pc := 2) F dX8_writeNumber_2 rfl ?_
    refine ia_iload_n (pc := 3) F dX8_writeNumber_3 rfl ?_
    refine ia_idiv (pc := 4) F dX8_writeNumber_4 (by omega) (by omega) ?_
    refine ia_bipush (pc := 5) F dX8_writeNumber_5 (by decide) ?_
    refine ia_icmp_le (pc := 7) F 18 dX8_writeNumber_7 rfl (by omega) (by omega) (fun _ => ?_) (fun h9 => absurd h9 (by omega))
    refine ia_iload_n (pc := 18) F dX8_writeNumber_18 rfl ?_
    refine ia_if_le (pc := 19) F 43 dX8_writeNumber_19 rfl (by omega) (fun h9 => absurd h9 (by omega)) (fun _ => ?_)
    refine ia_aload_n (pc := 22) F dX8_writeNumber_22 rfl ?_
    refine ia_bipush (pc := 23) F dX8_writeNumber_23 (by decide) ?_
    refine ia_iload_n (pc := 25) F dX8_writeNumber_25 rfl ?_
    refine ia_iload_n (pc := 26) F dX8_writeNumber_26 rfl ?_
    refine ia_idiv (pc := 27) F dX8_writeNumber_27 (by omega) (by omega) ?_
    refine ia_bipush (pc := 28) F dX8_writeNumber_28 (by decide) ?_
    refine ia_irem (pc := 30) F dX8_writeNumber_30 (by omega) (by omega) ?_
    refine ia_iadd (pc := 31) F dX8_writeNumber_31 ?_
    refine jV (pc := 32) F 0 0 (z99 hZ) cls11.1 (c_X8_writeT n (48 + ((v / 1) % 10)) hZ hP h99 h100 h109 ((rfl : μ 15 = μ 15).trans h15) (by omega) (fun V_1 p_2 w_3 w_4 f_5 => ?_)) rfl ⟨k_X8_write, il_RX8_228, im_X8_write, is_X8_write, ii_RX8⟩ 1 rfl hd_X8_write ⟨by decide, by decide, by decide, by decide, Nat.le_of_ble_eq_true rfl⟩ dX8_writeNumber_32
    refine j0 ?_
    refine ia_iload_n (pc := 35) F dX8_writeNumber_35 rfl ?_
    refine ia_bipush (pc := 36) F dX8_writeNumber_36 (by decide) ?_
    refine ia_idiv (pc := 38) F dX8_writeNumber_38 (by omega) (by omega) ?_
    rw [show ((1 : Int) / 10) = 0 from by decide]
    refine ia_istore_n (pc := 39) F (ls' := [(4, ((99 : Nat) : Int)), (0, v), (0, 0)]) dX8_writeNumber_39 (Nat.le_of_ble_eq_true rfl) rfl rfl ?_
    refine ia_goto (pc := 40) F 18 dX8_writeNumber_40 rfl ?_
    refine ia_iload_n (pc := 18) F dX8_writeNumber_18 rfl ?_
    refine ia_if_le (pc := 19) F 43 dX8_writeNumber_19 rfl (by omega) (fun _ => ?_) (fun h9 => absurd h9 (by omega))
    refine ia_return (pc := 43) F M (by decide) (by decide) dX8_writeNumber_43 ?_
    exact q1 _ p_2 (w_3.trans (by rw [hk])) (w_4.trans (wd_b1 (by omega))) (Fr_c (Fr_0 (V := V) (S := [99, 109])) f_5 (by decide))
  · have hk : wd_n v = 2 := wd_n2 hd.1 hd.2
    refine ia_iconst (pc := 0) F dX8_writeNumber_0 ?_
    refine ia_istore_n (pc := 1) F (ls' := [(4, ((99 : Nat) : Int)), (0, v), (0, 1)]) dX8_writeNumber_1 (Nat.le_of_ble_eq_true rfl) rfl rfl ?_
    refine ia_iload_n (pc := 2) F dX8_writeNumber_2 rfl ?_
    refine ia_iload_n (pc := 3) F dX8_writeNumber_3 rfl ?_
    refine ia_idiv (pc := 4) F dX8_writeNumber_4 (by omega) (by omega) ?_
    refine ia_bipush (pc := 5) F dX8_writeNumber_5 (by decide) ?_
    refine ia_icmp_le (pc := 7) F 18 dX8_writeNumber_7 rfl (by omega) (by omega) (fun h9 => absurd h9 (by omega)) (fun _ => ?_)
    refine ia_iload_n (pc := 10) F dX8_writeNumber_10 rfl ?_
    refine ia_bipush (pc := 11) F dX8_writeNumber_11 (by decide) ?_
    refine ia_imul (pc := 13) F dX8_writeNumber_13 ?_
    rw [show ((1 * 10) : Int) = 10 from by decide]
    refine ia_istore_n (pc := 14) F (ls' := [(4, ((99 : Nat) : Int)), (0, v), (0, 10)]) dX8_writeNumber_14 (Nat.le_of_ble_eq_true rfl) rfl rfl ?_
    refine ia_goto (pc := 15) F 2 dX8_writeNumber_15 rfl ?_
    refine ia_iload_n (pc := 2) F dX8_writeNumber_2 rfl ?_
    refine ia_iload_n (pc := 3) F dX8_writeNumber_3 rfl ?_
    refine ia_idiv (pc := 4) F dX8_writeNumber_4 (by omega) (by omega) ?_
    refine ia_bipush (pc := 5) F dX8_writeNumber_5 (by decide) ?_
    refine ia_icmp_le (pc := 7) F 18 dX8_writeNumber_7 rfl (by omega) (by omega) (fun _ => ?_) (fun h9 => absurd h9 (by omega))
    refine ia_iload_n (pc := 18) F dX8_writeNumber_18 rfl ?_
    refine ia_if_le (pc := 19) F 43 dX8_writeNumber_19 rfl (by omega) (fun h9 => absurd h9 (by omega)) (fun _ => ?_)
    refine ia_aload_n (pc := 22) F dX8_writeNumber_22 rfl ?_
    refine ia_bipush (pc := 23) F dX8_writeNumber_23 (by decide) ?_
    refine ia_iload_n (pc := 25) F dX8_writeNumber_25 rfl ?_
    refine ia_iload_n (pc := 26) F dX8_writeNumber_26 rfl ?_
    refine ia_idiv (pc := 27) F dX8_writeNumber_27 (by omega) (by omega) ?_
    refine ia_bipush (pc := 28) F dX8_writeNumber_28 (by decide) ?_
    refine ia_irem (pc := 30) F dX8_writeNumber_30 (by omega) (by omega) ?_
    refine ia_iadd (pc := 31) F dX8_writeNumber_31 ?_
    refine jV (pc := 32) F 0 0 (z99 hZ) cls11.1 (c_X8_writeT n (48 + ((v / 10) % 10)) hZ hP h99 h100 h109 ((rfl : μ 15 = μ 15).trans h15) (by omega) (fun V_6 p_7 w_8 w_9 f_10 => ?_)) rfl ⟨k_X8_write, il_RX8_228, im_X8_write, is_X8_write, ii_RX8⟩ 1 rfl hd_X8_write ⟨by decide, by decide, by decide, by decide, Nat.le_of_ble_eq_true rfl⟩ dX8_writeNumber_32
    refine j0 ?_
    refine ia_iload_n (pc := 35) F dX8_writeNumber_35 rfl ?_
    refine ia_bipush (pc := 36) F dX8_writeNumber_36 (by decide) ?_
    refine ia_idiv (pc := 38) F dX8_writeNumber_38 (by omega) (by omega) ?_
    rw [show ((10 : Int) / 10) = 1 from by decide]
    refine ia_istore_n (pc := 39) F (ls' := [(4, ((99 : Nat) : Int)), (0, v), (0, 1)]) dX8_writeNumber_39 (Nat.le_of_ble_eq_true rfl) rfl rfl ?_
    refine ia_goto (pc := 40) F 18 dX8_writeNumber_40 rfl ?_
    refine ia_iload_n (pc := 18) F dX8_writeNumber_18 rfl ?_
    refine ia_if_le (pc := 19) F 43 dX8_writeNumber_19 rfl (by omega) (fun h9 => absurd h9 (by omega)) (fun _ => ?_)
    refine ia_aload_n (pc := 22) F dX8_writeNumber_22 rfl ?_
    refine ia_bipush (pc := 23) F dX8_writeNumber_23 (by decide) ?_
    refine ia_iload_n (pc := 25) F dX8_writeNumber_25 rfl ?_
    refine ia_iload_n (pc := 26) F dX8_writeNumber_26 rfl ?_
    refine ia_idiv (pc := 27) F dX8_writeNumber_27 (by omega) (by omega) ?_
    refine ia_bipush (pc := 28) F dX8_writeNumber_28 (by decide) ?_
    refine ia_irem (pc := 30) F dX8_writeNumber_30 (by omega) (by omega) ?_
    refine ia_iadd (pc := 31) F dX8_writeNumber_31 ?_
    refine jV (pc := 32) F 0 0 (z99 hZ) cls11.1 (c_X8_writeT (n + 1) (48 + ((v / 1) % 10)) hZ p_7 w_8 ((f_10 100 (by decide)).trans h100) w_9 ((rfl : (up μ 15 ((n + 1 : Nat) : Int)) 15 = (up μ 15 ((n + 1 : Nat) : Int)) 15).trans (up_self _ _ _)) (by omega) (fun V_11 p_12 w_13 w_14 f_15 => ?_)) rfl ⟨k_X8_write, il_RX8_228, im_X8_write, is_X8_write, ii_RX8⟩ 1 rfl hd_X8_write ⟨by decide, by decide, by decide, by decide, Nat.le_of_ble_eq_true rfl⟩ dX8_writeNumber_32
    refine j0 ?_
    refine ia_iload_n (pc := 35) F dX8_writeNumber_35 rfl ?_
    refine ia_bipush (pc := 36) F dX8_writeNumber_36 (by decide) ?_
    refine ia_idiv (pc := 38) F dX8_writeNumber_38 (by omega) (by omega) ?_
    rw [show ((1 : Int) / 10) = 0 from by decide]
    refine ia_istore_n (pc := 39) F (ls' := [(4, ((99 : Nat) : Int)), (0, v), (0, 0)]) dX8_writeNumber_39 (Nat.le_of_ble_eq_true rfl) rfl rfl ?_
    refine ia_goto (pc := 40) F 18 dX8_writeNumber_40 rfl ?_
    refine ia_iload_n (pc := 18) F dX8_writeNumber_18 rfl ?_
    refine ia_if_le (pc := 19) F 43 dX8_writeNumber_19 rfl (by omega) (fun _ => ?_) (fun h9 => absurd h9 (by omega))
    refine ia_return (pc := 43) F M (by decide) (by decide) dX8_writeNumber_43 ?_
    exact q1 _ p_12 ((w_13.trans up_up).trans (by rw [hk])) (w_14.trans (wd_b2 (by omega))) (Fr_c (Fr_c (Fr_0 (V := V) (S := [99, 109])) f_10 (by decide)) f_15 (by decide))
  · have hk : wd_n v = 3 := wd_n3 hd
    refine ia_iconst (pc := 0) F dX8_writeNumber_0 ?_
    refine ia_istore_n (pc := 1) F (ls' := [(4, ((99 : Nat) : Int)), (0, v), (0, 1)]) dX8_writeNumber_1 (Nat.le_of_ble_eq_true rfl) rfl rfl ?_
    refine ia_iload_n (pc := 2) F dX8_writeNumber_2 rfl ?_
    refine ia_iload_n (pc := 3) F dX8_writeNumber_3 rfl ?_
    refine ia_idiv (pc := 4) F dX8_writeNumber_4 (by omega) (by omega) ?_
    refine ia_bipush (pc := 5) F dX8_writeNumber_5 (by decide) ?_
    refine ia_icmp_le (pc := 7) F 18 dX8_writeNumber_7 rfl (by omega) (by omega) (fun h9 => absurd h9 (by omega)) (fun _ => ?_)
    refine ia_iload_n (pc := 10) F dX8_writeNumber_10 rfl ?_
    refine ia_bipush (pc := 11) F dX8_writeNumber_11 (by decide) ?_
    refine ia_imul (pc := 13) F dX8_writeNumber_13 ?_
    rw [show ((1 * 10) : Int) = 10 from by decide]
    refine ia_istore_n (pc := 14) F (ls' := [(4, ((99 : Nat) : Int)), (0, v), (0, 10)]) dX8_writeNumber_14 (Nat.le_of_ble_eq_true rfl) rfl rfl ?_
    refine ia_goto (pc := 15) F 2 dX8_writeNumber_15 rfl ?_
    refine ia_iload_n (pc := 2) F dX8_writeNumber_2 rfl ?_
    refine ia_iload_n (pc := 3) F dX8_writeNumber_3 rfl ?_
    refine ia_idiv (pc := 4) F dX8_writeNumber_4 (by omega) (by omega) ?_
    refine ia_bipush (pc := 5) F dX8_writeNumber_5 (by decide) ?_
    refine ia_icmp_le (pc := 7) F 18 dX8_writeNumber_7 rfl (by omega) (by omega) (fun h9 => absurd h9 (by omega)) (fun _ => ?_)
    refine ia_iload_n (pc := 10) F dX8_writeNumber_10 rfl ?_
    refine ia_bipush (pc := 11) F dX8_writeNumber_11 (by decide) ?_
    refine ia_imul (pc := 13) F dX8_writeNumber_13 ?_
    rw [show ((10 * 10) : Int) = 100 from by decide]
    refine ia_istore_n (pc := 14) F (ls' := [(4, ((99 : Nat) : Int)), (0, v), (0, 100)]) dX8_writeNumber_14 (Nat.le_of_ble_eq_true rfl) rfl rfl ?_
    refine ia_goto (pc := 15) F 2 dX8_writeNumber_15 rfl ?_
    refine ia_iload_n (pc := 2) F dX8_writeNumber_2 rfl ?_
    refine ia_iload_n (pc := 3) F dX8_writeNumber_3 rfl ?_
    refine ia_idiv (pc := 4) F dX8_writeNumber_4 (by omega) (by omega) ?_
    refine ia_bipush (pc := 5) F dX8_writeNumber_5 (by decide) ?_
    refine ia_icmp_le (pc := 7) F 18 dX8_writeNumber_7 rfl (by omega) (by omega) (fun _ => ?_) (fun h9 => absurd h9 (by omega))
    refine ia_iload_n (pc := 18) F dX8_writeNumber_18 rfl ?_
    refine ia_if_le (pc := 19) F 43 dX8_writeNumber_19 rfl (by omega) (fun h9 => absurd h9 (by omega)) (fun _ => ?_)
    refine ia_aload_n (pc := 22) F dX8_writeNumber_22 rfl ?_
    refine ia_bipush (pc := 23) F dX8_writeNumber_23 (by decide) ?_
    refine ia_iload_n (pc := 25) F dX8_writeNumber_25 rfl ?_
    refine ia_iload_n (pc := 26) F dX8_writeNumber_26 rfl ?_
    refine ia_idiv (pc := 27) F dX8_writeNumber_27 (by omega) (by omega) ?_
    refine ia_bipush (pc := 28) F dX8_writeNumber_28 (by decide) ?_
    refine ia_irem (pc := 30) F dX8_writeNumber_30 (by omega) (by omega) ?_
    refine ia_iadd (pc := 31) F dX8_writeNumber_31 ?_
    refine jV (pc := 32) F 0 0 (z99 hZ) cls11.1 (c_X8_writeT n (48 + ((v / 100) % 10)) hZ hP h99 h100 h109 ((rfl : μ 15 = μ 15).trans h15) (by omega) (fun V_16 p_17 w_18 w_19 f_20 => ?_)) rfl ⟨k_X8_write, il_RX8_228, im_X8_write, is_X8_write, ii_RX8⟩ 1 rfl hd_X8_write ⟨by decide, by decide, by decide, by decide, Nat.le_of_ble_eq_true rfl⟩ dX8_writeNumber_32
    refine j0 ?_
    refine ia_iload_n (pc := 35) F dX8_writeNumber_35 rfl ?_
    refine ia_bipush (pc := 36) F dX8_writeNumber_36 (by decide) ?_
    refine ia_idiv (pc := 38) F dX8_writeNumber_38 (by omega) (by omega) ?_
    rw [show ((100 : Int) / 10) = 10 from by decide]
    refine ia_istore_n (pc := 39) F (ls' := [(4, ((99 : Nat) : Int)), (0, v), (0, 10)]) dX8_writeNumber_39 (Nat.le_of_ble_eq_true rfl) rfl rfl ?_
    refine ia_goto (pc := 40) F 18 dX8_writeNumber_40 rfl ?_
    refine ia_iload_n (pc := 18) F dX8_writeNumber_18 rfl ?_
    refine ia_if_le (pc := 19) F 43 dX8_writeNumber_19 rfl (by omega) (fun h9 => absurd h9 (by omega)) (fun _ => ?_)
    refine ia_aload_n (pc := 22) F dX8_writeNumber_22 rfl ?_
    refine ia_bipush (pc := 23) F dX8_writeNumber_23 (by decide) ?_
    refine ia_iload_n (pc := 25) F dX8_writeNumber_25 rfl ?_
    refine ia_iload_n (pc := 26) F dX8_writeNumber_26 rfl ?_
    refine ia_idiv (pc := 27) F dX8_writeNumber_27 (by omega) (by omega) ?_
    refine ia_bipush (pc := 28) F dX8_writeNumber_28 (by decide) ?_
    refine ia_irem (pc := 30) F dX8_writeNumber_30 (by omega) (by omega) ?_
    refine ia_iadd (pc := 31) F dX8_writeNumber_31 ?_
    refine jV (pc := 32) F 0 0 (z99 hZ) cls11.1 (c_X8_writeT (n + 1) (48 + ((v / 10) % 10)) hZ p_17 w_18 ((f_20 100 (by decide)).trans h100) w_19 ((rfl : (up μ 15 ((n + 1 : Nat) : Int)) 15 = (up μ 15 ((n + 1 : Nat) : Int)) 15).trans (up_self _ _ _)) (by omega) (fun V_21 p_22 w_23 w_24 f_25 => ?_)) rfl ⟨k_X8_write, il_RX8_228, im_X8_write, is_X8_write, ii_RX8⟩ 1 rfl hd_X8_write ⟨by decide, by decide, by decide, by decide, Nat.le_of_ble_eq_true rfl⟩ dX8_writeNumber_32
    refine j0 ?_
    refine ia_iload_n (pc := 35) F dX8_writeNumber_35 rfl ?_
    refine ia_bipush (pc := 36) F dX8_writeNumber_36 (by decide) ?_
    refine ia_idiv (pc := 38) F dX8_writeNumber_38 (by omega) (by omega) ?_
    rw [show ((10 : Int) / 10) = 1 from by decide]
    refine ia_istore_n (pc := 39) F (ls' := [(4, ((99 : Nat) : Int)), (0, v), (0, 1)]) dX8_writeNumber_39 (Nat.le_of_ble_eq_true rfl) rfl rfl ?_
    refine ia_goto (pc := 40) F 18 dX8_writeNumber_40 rfl ?_
    refine ia_iload_n (pc := 18) F dX8_writeNumber_18 rfl ?_
    refine ia_if_le (pc := 19) F 43 dX8_writeNumber_19 rfl (by omega) (fun h9 => absurd h9 (by omega)) (fun _ => ?_)
    refine ia_aload_n (pc := 22) F dX8_writeNumber_22 rfl ?_
    refine ia_bipush (pc := 23) F dX8_writeNumber_23 (by decide) ?_
    refine ia_iload_n (pc := 25) F dX8_writeNumber_25 rfl ?_
    refine ia_iload_n (pc := 26) F dX8_writeNumber_26 rfl ?_
    refine ia_idiv (pc := 27) F dX8_writeNumber_27 (by omega) (by omega) ?_
    refine ia_bipush (pc := 28) F dX8_writeNumber_28 (by decide) ?_
    refine ia_irem (pc := 30) F dX8_writeNumber_30 (by omega) (by omega) ?_
    refine ia_iadd (pc := 31) F dX8_writeNumber_31 ?_
    refine jV (pc := 32) F 0 0 (z99 hZ) cls11.1 (c_X8_writeT ((n + 1) + 1) (48 + ((v / 1) % 10)) hZ p_22 (w_23.trans up_up) ((f_25 100 (by decide)).trans ((f_20 100 (by decide)).trans h100)) w_24 ((rfl : (up μ 15 (((n + 1) + 1 : Nat) : Int)) 15 = (up μ 15 (((n + 1) + 1 : Nat) : Int)) 15).trans (up_self _ _ _)) (by omega) (fun V_26 p_27 w_28 w_29 f_30 => ?_)) rfl ⟨k_X8_write, il_RX8_228, im_X8_write, is_X8_write, ii_RX8⟩ 1 rfl hd_X8_write ⟨by decide, by decide, by decide, by decide, Nat.le_of_ble_eq_true rfl⟩ dX8_writeNumber_32
    refine j0 ?_
    refine ia_iload_n (pc := 35) F dX8_writeNumber_35 rfl ?_
    refine ia_bipush (pc := 36) F dX8_writeNumber_36 (by decide) ?_
    refine ia_idiv (pc := 38) F dX8_writeNumber_38 (by omega) (by omega) ?_
    rw [show ((1 : Int) / 10) = 0 from by decide]
    refine ia_istore_n (pc := 39) F (ls' := [(4, ((99 : Nat) : Int)), (0, v), (0, 0)]) dX8_writeNumber_39 (Nat.le_of_ble_eq_true rfl) rfl rfl ?_
    refine ia_goto (pc := 40) F 18 dX8_writeNumber_40 rfl ?_
    refine ia_iload_n (pc := 18) F dX8_writeNumber_18 rfl ?_
    refine ia_if_le (pc := 19) F 43 dX8_writeNumber_19 rfl (by omega) (fun _ => ?_) (fun h9 => absurd h9 (by omega))
    refine ia_return (pc := 43) F M (by decide) (by decide) dX8_writeNumber_43 ?_
    exact q1 _ p_27 ((w_28.trans up_up).trans (by rw [hk])) (w_29.trans (wd_b3 (by omega))) (Fr_c (Fr_c (Fr_c (Fr_0 (V := V) (S := [99, 109])) f_20 (by decide)) f_25 (by decide)) f_30 (by decide))
set_option maxRecDepth 100000 in
set_option maxHeartbeats 4000000 in
theorem c_X8_writeEdition {Z : ia_Z} {V : ia_H} {Q : ia_O → ia_Z → ia_H → Prop} {σ : Nat → Int} {μ : Nat → Int} {κ : Nat → Int} {m : Int} (e : Int) (hZ : ZI Z) (hP : PI V) (hI : SI σ m) (h99 : V 99 = μ) (h100 : V 100 = σ) (h109 : V 109 = κ) (re : -2147483648 ≤ e ∧ e ≤ 2147483647) (q1 : ∀ (V1 : ia_H), (0 ≤ e ∧ e < σ 0) → PI V1 → (V1 99 = up (up μ 9 0) 15 ((ln_en σ e : Nat) : Int)) → (V1 109 = ln_et κ σ e) → (∀ pp, pp ∉ ([99, 109] : List Nat) → V1 pp = V pp) → Q (.inl (some (0, ((ln_en σ e : Nat) : Int)))) Z V1) (q2 : ∀ (V1 : ia_H), (¬ (0 ≤ e ∧ e < σ 0)) → PI V1 → (V1 99 = up μ 9 1) → (V1 109 = κ) → (∀ pp, pp ∉ ([99, 109] : List Nat) → V1 pp = V pp) → Q (.inl (some (0, 0))) Z V1) : ia_K yX8_writeEdition cX8_writeEdition 2 (some .int) [(4, ((99 : Nat) : Int)), (0, e)] Z V 5 0 0 Q := by
  refine ia_start RX8 "writeEdition" ⟨by decide, rfl, rfl⟩ (Nat.le_of_ble_eq_true rfl) (ia_tg rfl) (fun X F M => ?_)
  show ia_G X 0 0 0 [(4, ((99 : Nat) : Int)), (0, e)] [] Z V
  obtain ⟨s0, s1, s2, s3, s4, s5, s6, s7, s18, sb, sw, se, sp⟩ := id hI
  have d0 := wd_n_rng (v := e)
  have d2 := wd_n_rng (v := (col σ e.toNat))
  have d4 := wd_n_rng (v := (prt σ e.toNat))
  have d6 := wd_n_rng (v := (run σ e.toNat))
  refine ia_aload_n (pc := 0) F dX8_writeEdition_0 rfl ?_
  refine ia_aload_n (pc := 1) F dX8_writeEdition_1 rfl ?_
  refine ia_iload_n (pc := 2) F dX8_writeEdition_2 rfl ?_
  refine jV (pc := 3) F 0 0 (z99 hZ) cls11.1 (c_X8_isEdition e hZ hP hI h99 h100 (by omega) (fun h_1 => ?_) (fun h_2 => ?_)) rfl ⟨k_X8_isEdition, il_RX8_147, im_X8_isEdition, is_X8_isEdition, ii_RX8⟩ 1 rfl hd_X8_isEdition ⟨by decide, by decide, by decide, by decide, Nat.le_of_ble_eq_true rfl⟩ dX8_writeEdition_3
  · refine j1 ?_
    refine jV (pc := 6) F 0 0 (z99 hZ) cls11.1 (c_X8_checked1 hZ hP h99 h100 (fun V_3 p_4 w_5 f_6 => ?_)) rfl ⟨k_X8_checked, il_RX8_125, im_X8_checked, is_X8_checked, ii_RX8⟩ 1 rfl hd_X8_checked ⟨by decide, by decide, by decide, by decide, Nat.le_of_ble_eq_true rfl⟩ dX8_writeEdition_6
    refine j1 ?_
    refine ia_if_le (pc := 9) F 14 dX8_writeEdition_9 rfl (by omega) (fun _ => ?_) (fun h9 => absurd h9 (by omega))
    have r9 := se e.toNat (by omega)
    refine ia_aload_n (pc := 14) F dX8_writeEdition_14 rfl ?_
    refine ia_iconst (pc := 15) F dX8_writeEdition_15 ?_
    refine jp (pc := 16) F (z99 hZ) cls11 f11_15 rfl (ia_nI rfl _) il_RX8_57 dX8_writeEdition_16 ?_
    refine ia_aload_n (pc := 19) F dX8_writeEdition_19 rfl ?_
    refine ia_iload_n (pc := 20) F dX8_writeEdition_20 rfl ?_
    refine jV (pc := 21) F 0 0 (z99 hZ) cls11.1 (c_X8_writeNumber 0 e hZ (PI_u p_4 rfl) (rowU w_5) ((rowN (by decide)).trans ((f_6 100 (by decide)).trans h100)) ((rowN (by decide)).trans ((f_6 109 (by decide)).trans h109)) ((rfl : (up (up μ 9 0) 15 0) 15 = (up (up μ 9 0) 15 0) 15).trans (up_self _ _ _)) (by omega) (by omega) (fun V_7 p_8 w_9 w_10 f_11 => ?_)) rfl ⟨k_X8_writeNumber, il_RX8_232, im_X8_writeNumber, is_X8_writeNumber, ii_RX8⟩ 1 rfl hd_X8_writeNumber ⟨by decide, by decide, by decide, by decide, Nat.le_of_ble_eq_true rfl⟩ dX8_writeEdition_21
    refine j0 ?_
    refine ia_aload_n (pc := 24) F dX8_writeEdition_24 rfl ?_
    refine ia_bipush (pc := 25) F dX8_writeEdition_25 (by decide) ?_
    refine jV (pc := 27) F 0 0 (z99 hZ) cls11.1 (c_X8_writeT (0 + wd_n e) 99 hZ p_8 (w_9.trans up_up) ((f_11 100 (by decide)).trans ((rowN (by decide)).trans ((f_6 100 (by decide)).trans h100))) w_10 ((rfl : (up (up μ 9 0) 15 ((0 + wd_n e : Nat) : Int)) 15 = (up (up μ 9 0) 15 ((0 + wd_n e : Nat) : Int)) 15).trans (up_self _ _ _)) (by omega) (fun V_12 p_13 w_14 w_15 f_16 => ?_)) rfl ⟨k_X8_write, il_RX8_228, im_X8_write, is_X8_write, ii_RX8⟩ 1 rfl hd_X8_write ⟨by decide, by decide, by decide, by decide, Nat.le_of_ble_eq_true rfl⟩ dX8_writeEdition_27
    refine j0 ?_
    refine ia_aload_n (pc := 30) F dX8_writeEdition_30 rfl ?_
    refine ia_aload_n (pc := 31) F dX8_writeEdition_31 rfl ?_
    refine ia_iload_n (pc := 32) F dX8_writeEdition_32 rfl ?_
    refine ia_iconst (pc := 33) F dX8_writeEdition_33 ?_
    refine jV (pc := 34) F 0 0 (z99 hZ) cls11.1 (c_X8_e0 e hZ p_13 hI (w_14.trans up_up) ((f_16 100 (by decide)).trans ((f_11 100 (by decide)).trans ((rowN (by decide)).trans ((f_6 100 (by decide)).trans h100)))) (by omega) ?_) rfl ⟨k_X8_e, il_RX8_138, im_X8_e, is_X8_e, ii_RX8⟩ 2 rfl hd_X8_e ⟨by decide, by decide, by decide, by decide, Nat.le_of_ble_eq_true rfl⟩ dX8_writeEdition_34
    refine j1 ?_
    refine jV (pc := 37) F 0 0 (z99 hZ) cls11.1 (c_X8_writeNumber ((0 + wd_n e) + 1) (col σ e.toNat) hZ p_13 (w_14.trans up_up) ((f_16 100 (by decide)).trans ((f_11 100 (by decide)).trans ((rowN (by decide)).trans ((f_6 100 (by decide)).trans h100)))) w_15 ((rfl : (up (up μ 9 0) 15 (((0 + wd_n e) + 1 : Nat) : Int)) 15 = (up (up μ 9 0) 15 (((0 + wd_n e) + 1 : Nat) : Int)) 15).trans (up_self _ _ _)) (by omega) (by omega) (fun V_17 p_18 w_19 w_20 f_21 => ?_)) rfl ⟨k_X8_writeNumber, il_RX8_232, im_X8_writeNumber, is_X8_writeNumber, ii_RX8⟩ 1 rfl hd_X8_writeNumber ⟨by decide, by decide, by decide, by decide, Nat.le_of_ble_eq_true rfl⟩ dX8_writeEdition_37
    refine j0 ?_
    refine ia_aload_n (pc := 40) F dX8_writeEdition_40 rfl ?_
    refine ia_bipush (pc := 41) F dX8_writeEdition_41 (by decide) ?_
    refine jV (pc := 43) F 0 0 (z99 hZ) cls11.1 (c_X8_writeT (((0 + wd_n e) + 1) + wd_n (col σ e.toNat)) 58 hZ p_18 (w_19.trans up_up) ((f_21 100 (by decide)).trans ((f_16 100 (by decide)).trans ((f_11 100 (by decide)).trans ((rowN (by decide)).trans ((f_6 100 (by decide)).trans h100))))) w_20 ((rfl : (up (up μ 9 0) 15 ((((0 + wd_n e) + 1) + wd_n (col σ e.toNat) : Nat) : Int)) 15 = (up (up μ 9 0) 15 ((((0 + wd_n e) + 1) + wd_n (col σ e.toNat) : Nat) : Int)) 15).trans (up_self _ _ _)) (by omega) (fun V_22 p_23 w_24 w_25 f_26 => ?_)) rfl ⟨k_X8_write, il_RX8_228, im_X8_write, is_X8_write, ii_RX8⟩ 1 rfl hd_X8_write ⟨by decide, by decide, by decide, by decide, Nat.le_of_ble_eq_true rfl⟩ dX8_writeEdition_43
    refine j0 ?_
    refine ia_aload_n (pc := 46) F dX8_writeEdition_46 rfl ?_
    refine ia_aload_n (pc := 47) F dX8_writeEdition_47 rfl ?_
    refine ia_iload_n (pc := 48) F dX8_writeEdition_48 rfl ?_
    refine ia_iconst (pc := 49) F dX8_writeEdition_49 ?_
    refine jV (pc := 50) F 0 0 (z99 hZ) cls11.1 (c_X8_e2 e hZ p_23 hI (w_24.trans up_up) ((f_26 100 (by decide)).trans ((f_21 100 (by decide)).trans ((f_16 100 (by decide)).trans ((f_11 100 (by decide)).trans ((rowN (by decide)).trans ((f_6 100 (by decide)).trans h100)))))) (by omega) ?_) rfl ⟨k_X8_e, il_RX8_138, im_X8_e, is_X8_e, ii_RX8⟩ 2 rfl hd_X8_e ⟨by decide, by decide, by decide, by decide, Nat.le_of_ble_eq_true rfl⟩ dX8_writeEdition_50
    refine j1 ?_
    refine jV (pc := 53) F 0 0 (z99 hZ) cls11.1 (c_X8_writeNumber ((((0 + wd_n e) + 1) + wd_n (col σ e.toNat)) + 1) (prt σ e.toNat) hZ p_23 (w_24.trans up_up) ((f_26 100 (by decide)).trans ((f_21 100 (by decide)).trans ((f_16 100 (by decide)).trans ((f_11 100 (by decide)).trans ((rowN (by decide)).trans ((f_6 100 (by decide)).trans h100)))))) w_25 ((rfl : (up (up μ 9 0) 15 (((((0 + wd_n e) + 1) + wd_n (col σ e.toNat)) + 1 : Nat) : Int)) 15 = (up (up μ 9 0) 15 (((((0 + wd_n e) + 1) + wd_n (col σ e.toNat)) + 1 : Nat) : Int)) 15).trans (up_self _ _ _)) (by omega) (by omega) (fun V_27 p_28 w_29 w_30 f_31 => ?_)) rfl ⟨k_X8_writeNumber, il_RX8_232, im_X8_writeNumber, is_X8_writeNumber, ii_RX8⟩ 1 rfl hd_X8_writeNumber ⟨by decide, by decide, by decide, by decide, Nat.le_of_ble_eq_true rfl⟩ dX8_writeEdition_53
    refine j0 ?_
    refine ia_aload_n (pc := 56) F dX8_writeEdition_56 rfl ?_
    refine ia_bipush (pc := 57) F dX8_writeEdition_57 (by decide) ?_
    refine jV (pc := 59) F 0 0 (z99 hZ) cls11.1 (c_X8_writeT (((((0 + wd_n e) + 1) + wd_n (col σ e.toNat)) + 1) + wd_n (prt σ e.toNat)) 47 hZ p_28 (w_29.trans up_up) ((f_31 100 (by decide)).trans ((f_26 100 (by decide)).trans ((f_21 100 (by decide)).trans ((f_16 100 (by decide)).trans ((f_11 100 (by decide)).trans ((rowN (by decide)).trans ((f_6 100 (by decide)).trans h100))))))) w_30 ((rfl : (up (up μ 9 0) 15 ((((((0 + wd_n e) + 1) + wd_n (col σ e.toNat)) + 1) + wd_n (prt σ e.toNat) : Nat) : Int)) 15 = (up (up μ 9 0) 15 ((((((0 + wd_n e) + 1) + wd_n (col σ e.toNat)) + 1) + wd_n (prt σ e.toNat) : Nat) : Int)) 15).trans (up_self _ _ _)) (by omega) (fun V_32 p_33 w_34 w_35 f_36 => ?_)) rfl ⟨k_X8_write, il_RX8_228, im_X8_write, is_X8_write, ii_RX8⟩ 1 rfl hd_X8_write ⟨by decide, by decide, by decide, by decide, Nat.le_of_ble_eq_true rfl⟩ dX8_writeEdition_59
    refine j0 ?_
    refine ia_aload_n (pc := 62) F dX8_writeEdition_62 rfl ?_
    refine ia_aload_n (pc := 63) F dX8_writeEdition_63 rfl ?_
    refine ia_iload_n (pc := 64) F dX8_writeEdition_64 rfl ?_
    refine ia_iconst (pc := 65) F dX8_writeEdition_65 ?_
    refine jV (pc := 66) F 0 0 (z99 hZ) cls11.1 (c_X8_e1 e hZ p_33 hI (w_34.trans up_up) ((f_36 100 (by decide)).trans ((f_31 100 (by decide)).trans ((f_26 100 (by decide)).trans ((f_21 100 (by decide)).trans ((f_16 100 (by decide)).trans ((f_11 100 (by decide)).trans ((rowN (by decide)).trans ((f_6 100 (by decide)).trans h100)))))))) (by omega) ?_) rfl ⟨k_X8_e, il_RX8_138, im_X8_e, is_X8_e, ii_RX8⟩ 2 rfl hd_X8_e ⟨by decide, by decide, by decide, by decide, Nat.le_of_ble_eq_true rfl⟩ dX8_writeEdition_66
    refine j1 ?_
    refine jV (pc := 69) F 0 0 (z99 hZ) cls11.1 (c_X8_writeNumber ((((((0 + wd_n e) + 1) + wd_n (col σ e.toNat)) + 1) + wd_n (prt σ e.toNat)) + 1) (run σ e.toNat) hZ p_33 (w_34.trans up_up) ((f_36 100 (by decide)).trans ((f_31 100 (by decide)).trans ((f_26 100 (by decide)).trans ((f_21 100 (by decide)).trans ((f_16 100 (by decide)).trans ((f_11 100 (by decide)).trans ((rowN (by decide)).trans ((f_6 100 (by decide)).trans h100)))))))) w_35 ((rfl : (up (up μ 9 0) 15 (((((((0 + wd_n e) + 1) + wd_n (col σ e.toNat)) + 1) + wd_n (prt σ e.toNat)) + 1 : Nat) : Int)) 15 = (up (up μ 9 0) 15 (((((((0 + wd_n e) + 1) + wd_n (col σ e.toNat)) + 1) + wd_n (prt σ e.toNat)) + 1 : Nat) : Int)) 15).trans (up_self _ _ _)) (by omega) (by omega) (fun V_37 p_38 w_39 w_40 f_41 => ?_)) rfl ⟨k_X8_writeNumber, il_RX8_232, im_X8_writeNumber, is_X8_writeNumber, ii_RX8⟩ 1 rfl hd_X8_writeNumber ⟨by decide, by decide, by decide, by decide, Nat.le_of_ble_eq_true rfl⟩ dX8_writeEdition_69
    refine j0 ?_
    refine ia_aload_n (pc := 72) F dX8_writeEdition_72 rfl ?_
    refine jg (pc := 73) F (x := ((((((((0 + wd_n e) + 1) + wd_n (col σ e.toNat)) + 1) + wd_n (prt σ e.toNat)) + 1) + wd_n (run σ e.toNat) : Nat) : Int)) (z99 hZ) cls11 f11_15 ((congrFun (w_39.trans up_up) 15).trans (up_self _ _ _)) il_RX8_57 dX8_writeEdition_73 ?_
    refine ia_ireturn (pc := 76) F M (by decide) (by decide) dX8_writeEdition_76 ?_
    exact q1 _ (by omega) p_38 (w_39.trans up_up) w_40 (Fr_c (Fr_c (Fr_c (Fr_c (Fr_c (Fr_c (Fr_c (Fr_u (Fr_c (Fr_0 (V := V) (S := [99, 109])) f_6 (by decide)) (by decide)) f_11 (by decide)) f_16 (by decide)) f_21 (by decide)) f_26 (by decide)) f_31 (by decide)) f_36 (by decide)) f_41 (by decide))
  · refine j1 ?_
    refine jV (pc := 6) F 0 0 (z99 hZ) cls11.1 (c_X8_checked0 hZ hP h99 h100 (fun V_42 p_43 w_44 f_45 => ?_)) rfl ⟨k_X8_checked, il_RX8_125, im_X8_checked, is_X8_checked, ii_RX8⟩ 1 rfl hd_X8_checked ⟨by decide, by decide, by decide, by decide, Nat.le_of_ble_eq_true rfl⟩ dX8_writeEdition_6
    refine j1 ?_
    refine ia_if_le (pc := 9) F 14 dX8_writeEdition_9 rfl (by omega) (fun h9 => absurd h9 (by omega)) (fun _ => ?_)
    refine ia_iconst (pc := 12) F dX8_writeEdition_12 ?_
    refine ia_ireturn (pc := 13) F M (by decide) (by decide) dX8_writeEdition_13 ?_
    exact q2 _ (by omega) p_43 w_44 ((f_45 109 (by decide)).trans h109) (Fr_c (Fr_0 (V := V) (S := [99, 109])) f_45 (by decide))
set_option maxRecDepth 100000 in
set_option maxHeartbeats 8000000 in
theorem c_X8_writeWells {Z : ia_Z} {V : ia_H} {Q : ia_O → ia_Z → ia_H → Prop} {σ : Nat → Int} {μ : Nat → Int} {κ : Nat → Int} {m : Int} (hZ : ZI Z) (hP : PI V) (hI : SI σ m) (h99 : V 99 = μ) (h100 : V 100 = σ) (h109 : V 109 = κ)  (q1 : ∀ (V1 : ia_H), PI V1 → (V1 99 = up (up μ 9 0) 15 ((ln_wn σ : Nat) : Int)) → (V1 109 = ln_wt κ σ) → (∀ pp, pp ∉ ([99, 109] : List Nat) → V1 pp = V pp) → Q (.inl (some (0, ((ln_wn σ : Nat) : Int)))) Z V1) : ia_K yX8_writeWells cX8_writeWells 2 (some .int) [(4, ((99 : Nat) : Int))] Z V 5 0 0 Q := by
  refine ia_start RX8 "writeWells" ⟨by decide, rfl, rfl⟩ (Nat.le_of_ble_eq_true rfl) (ia_tg rfl) (fun X F M => ?_)
  show ia_G X 0 0 0 [(4, ((99 : Nat) : Int)), (9, 0)] [] Z V
  obtain ⟨s0, s1, s2, s3, s4, s5, s6, s7, s18, sb, sw, se, sp⟩ := id hI
  have d0 := wd_n_rng (v := (wel σ 0))
  have d2 := wd_n_rng (v := (wel σ 1))
  have d4 := wd_n_rng (v := (wel σ 2))
  have d6 := wd_n_rng (v := (wel σ 3))
  have d8 := wd_n_rng (v := (wel σ 4))
  have d10 := wd_n_rng (v := (wel σ 5))
  have d12 := wd_n_rng (v := (wel σ 6))
  have d14 := wd_n_rng (v := (wel σ 7))
  have d16 := wd_n_rng (v := (wel σ 8))
  have d18 := wd_n_rng (v := (wel σ 9))
  have v0 := sw 0 (by omega)
  have v1 := sw 1 (by omega)
  have v2 := sw 2 (by omega)
  have v3 := sw 3 (by omega)
  have v4 := sw 4 (by omega)
  have v5 := sw 5 (by omega)
  have v6 := sw 6 (by omega)
  have v7 := sw 7 (by omega)
  have v8 := sw 8 (by omega)
  have v9 := sw 9 (by omega)
  refine ia_aload_n (pc := 0) F dX8_writeWells_0 rfl ?_
  refine ia_iconst (pc := 1) F dX8_writeWells_1 ?_
  refine jp (pc := 2) F (z99 hZ) cls11 f11_9 rfl (ia_nI rfl _) il_RX8_37 dX8_writeWells_2 ?_
  refine ia_aload_n (pc := 5) F dX8_writeWells_5 rfl ?_
  refine ia_iconst (pc := 6) F dX8_writeWells_6 ?_
  refine jp (pc := 7) F (z99 hZ) cls11 f11_15 rfl (ia_nI rfl _) il_RX8_57 dX8_writeWells_7 ?_
  refine ia_iconst (pc := 10) F dX8_writeWells_10 ?_
  refine ia_istore_n (pc := 11) F (ls' := [(4, ((99 : Nat) : Int)), (0, 0)]) dX8_writeWells_11 (Nat.le_of_ble_eq_true rfl) rfl rfl ?_
  refine ia_iload_n (pc := 12) F dX8_writeWells_12 rfl ?_
  refine ia_bipush (pc := 13) F dX8_writeWells_13 (by decide) ?_
  refine ia_icmp_ge (pc := 15) F 47 dX8_writeWells_15 rfl (by omega) (by omega) (fun h9 => absurd h9 (by omega)) (fun _ => ?_)
  refine ia_iload_n (pc := 18) F dX8_writeWells_18 rfl ?_
  refine ia_if_le (pc := 19) F 28 dX8_writeWells_19 rfl (by omega) (fun _ => ?_) (fun h9 => absurd h9 (by omega))
  refine ia_aload_n (pc := 28) F dX8_writeWells_28 rfl ?_
  refine ia_aload_n (pc := 29) F dX8_writeWells_29 rfl ?_
  refine jg (pc := 30) F (z99 hZ) cls11 f11_0 ((PI_u (PI_u hP rfl) rfl) 99 0 100 rfl) il_RX8_7 dX8_writeWells_30 ?_
  refine ia_bipush (pc := 33) F dX8_writeWells_33 (by decide) ?_
  refine ia_iload_n (pc := 35) F dX8_writeWells_35 rfl ?_
  refine ia_iadd (pc := 36) F dX8_writeWells_36 ?_
  have r_1 := sw 0 (by omega)
  refine ja (pc := 37) F (v := wel σ 0) (z100 hZ) (8 + 0) rfl (by omega) (congrFun ((rowN (by decide)).trans ((rowN (by decide)).trans h100)) (8 + 0)) dX8_writeWells_37 ?_
  refine jV (pc := 38) F 0 0 (z99 hZ) cls11.1 (c_X8_writeNumber 0 (wel σ 0) hZ (PI_u (PI_u hP rfl) rfl) (rowU (rowU h99)) ((rowN (by decide)).trans ((rowN (by decide)).trans h100)) ((rowN (by decide)).trans ((rowN (by decide)).trans h109)) ((rfl : (up (up μ 9 0) 15 0) 15 = (up (up μ 9 0) 15 0) 15).trans (up_self _ _ _)) (by omega) (by omega) (fun V_2 p_3 w_4 w_5 f_6 => ?_)) rfl ⟨k_X8_writeNumber, il_RX8_232, im_X8_writeNumber, is_X8_writeNumber, ii_RX8⟩ 1 rfl hd_X8_writeNumber ⟨by decide, by decide, by decide, by decide, Nat.le_of_ble_eq_true rfl⟩ dX8_writeWells_38
  refine j0 ?_
  refine ia_iinc (pc := 41) F (ls' := [(4, ((99 : Nat) : Int)), (0, 1)]) dX8_writeWells_41 rfl (by decide) rfl rfl ?_
  refine ia_goto (pc := 44) F 12 dX8_writeWells_44 rfl ?_
  refine ia_iload_n (pc := 12) F dX8_writeWells_12 rfl ?_
  refine ia_bipush (pc := 13) F dX8_writeWells_13 (by decide) ?_
  refine ia_icmp_ge (pc := 15) F 47 dX8_writeWells_15 rfl (by omega) (by omega) (fun h9 => absurd h9 (by omega)) (fun _ => ?_)
  refine ia_iload_n (pc := 18) F dX8_writeWells_18 rfl ?_
  refine ia_if_le (pc := 19) F 28 dX8_writeWells_19 rfl (by omega) (fun h9 => absurd h9 (by omega)) (fun _ => ?_)
  refine ia_aload_n (pc := 22) F dX8_writeWells_22 rfl ?_
  refine ia_bipush (pc := 23) F dX8_writeWells_23 (by decide) ?_
  refine jV (pc := 25) F 0 0 (z99 hZ) cls11.1 (c_X8_writeT (0 + wd_n (wel σ 0)) 32 hZ p_3 (w_4.trans up_up) ((f_6 100 (by decide)).trans ((rowN (by decide)).trans ((rowN (by decide)).trans h100))) w_5 ((rfl : (up (up μ 9 0) 15 ((0 + wd_n (wel σ 0) : Nat) : Int)) 15 = (up (up μ 9 0) 15 ((0 + wd_n (wel σ 0) : Nat) : Int)) 15).trans (up_self _ _ _)) (by omega) (fun V_7 p_8 w_9 w_10 f_11 => ?_)) rfl ⟨k_X8_write, il_RX8_228, im_X8_write, is_X8_write, ii_RX8⟩ 1 rfl hd_X8_write ⟨by decide, by decide, by decide, by decide, Nat.le_of_ble_eq_true rfl⟩ dX8_writeWells_25
  refine j0 ?_
  refine ia_aload_n (pc := 28) F dX8_writeWells_28 rfl ?_
  refine ia_aload_n (pc := 29) F dX8_writeWells_29 rfl ?_
  refine jg (pc := 30) F (z99 hZ) cls11 f11_0 (p_8 99 0 100 rfl) il_RX8_7 dX8_writeWells_30 ?_
  refine ia_bipush (pc := 33) F dX8_writeWells_33 (by decide) ?_
  refine ia_iload_n (pc := 35) F dX8_writeWells_35 rfl ?_
  refine ia_iadd (pc := 36) F dX8_writeWells_36 ?_
  have r_12 := sw 1 (by omega)
  refine ja (pc := 37) F (v := wel σ 1) (z100 hZ) (8 + 1) rfl (by omega) (congrFun ((f_11 100 (by decide)).trans ((f_6 100 (by decide)).trans ((rowN (by decide)).trans ((rowN (by decide)).trans h100)))) (8 + 1)) dX8_writeWells_37 ?_
  refine jV (pc := 38) F 0 0 (z99 hZ) cls11.1 (c_X8_writeNumber ((0 + wd_n (wel σ 0)) + 1) (wel σ 1) hZ p_8 (w_9.trans up_up) ((f_11 100 (by decide)).trans ((f_6 100 (by decide)).trans ((rowN (by decide)).trans ((rowN (by decide)).trans h100)))) w_10 ((rfl : (up (up μ 9 0) 15 (((0 + wd_n (wel σ 0)) + 1 : Nat) : Int)) 15 = (up (up μ 9 0) 15 (((0 + wd_n (wel σ 0)) + 1 : Nat) : Int)) 15).trans (up_self _ _ _)) (by omega) (by omega) (fun V_13 p_14 w_15 w_16 f_17 => ?_)) rfl ⟨k_X8_writeNumber, il_RX8_232, im_X8_writeNumber, is_X8_writeNumber, ii_RX8⟩ 1 rfl hd_X8_writeNumber ⟨by decide, by decide, by decide, by decide, Nat.le_of_ble_eq_true rfl⟩ dX8_writeWells_38
  refine j0 ?_
  refine ia_iinc (pc := 41) F (ls' := [(4, ((99 : Nat) : Int)), (0, 2)]) dX8_writeWells_41 rfl (by decide) rfl rfl ?_
  refine ia_goto (pc := 44) F 12 dX8_writeWells_44 rfl ?_
  refine ia_iload_n (pc := 12) F dX8_writeWells_12 rfl ?_
  refine ia_bipush (pc := 13) F dX8_writeWells_13 (by decide) ?_
  refine ia_icmp_ge (pc := 15) F 47 dX8_writeWells_15 rfl (by omega) (by omega) (fun h9 => absurd h9 (by omega)) (fun _ => ?_)
  refine ia_iload_n (pc := 18) F dX8_writeWells_18 rfl ?_
  refine ia_if_le (pc := 19) F 28 dX8_writeWells_19 rfl (by omega) (fun h9 => absurd h9 (by omega)) (fun _ => ?_)
  refine ia_aload_n (pc := 22) F dX8_writeWells_22 rfl ?_
  refine ia_bipush (pc := 23) F dX8_writeWells_23 (by decide) ?_
  refine jV (pc := 25) F 0 0 (z99 hZ) cls11.1 (c_X8_writeT (((0 + wd_n (wel σ 0)) + 1) + wd_n (wel σ 1)) 32 hZ p_14 (w_15.trans up_up) ((f_17 100 (by decide)).trans ((f_11 100 (by decide)).trans ((f_6 100 (by decide)).trans ((rowN (by decide)).trans ((rowN (by decide)).trans h100))))) w_16 ((rfl : (up (up μ 9 0) 15 ((((0 + wd_n (wel σ 0)) + 1) + wd_n (wel σ 1) : Nat) : Int)) 15 = (up (up μ 9 0) 15 ((((0 + wd_n (wel σ 0)) + 1) + wd_n (wel σ 1) : Nat) : Int)) 15).trans (up_self _ _ _)) (by omega) (fun V_18 p_19 w_20 w_21 f_22 => ?_)) rfl ⟨k_X8_write, il_RX8_228, im_X8_write, is_X8_write, ii_RX8⟩ 1 rfl hd_X8_write ⟨by decide, by decide, by decide, by decide, Nat.le_of_ble_eq_true rfl⟩ dX8_writeWells_25
  refine j0 ?_
  refine ia_aload_n (pc := 28) F dX8_writeWells_28 rfl ?_
  refine ia_aload_n (pc := 29) F dX8_writeWells_29 rfl ?_
  refine jg (pc := 30) F (z99 hZ) cls11 f11_0 (p_19 99 0 100 rfl) il_RX8_7 dX8_writeWells_30 ?_
  refine ia_bipush (pc := 33) F dX8_writeWells_33 (by decide) ?_
  refine ia_iload_n (pc := 35) F dX8_writeWells_35 rfl ?_
  refine ia_iadd (pc := 36) F dX8_writeWells_36 ?_
  have r_23 := sw 2 (by omega)
  refine ja (pc := 37) F (v := wel σ 2) (z100 hZ) (8 + 2) rfl (by omega) (congrFun ((f_22 100 (by decide)).trans ((f_17 100 (by decide)).trans ((f_11 100 (by decide)).trans ((f_6 100 (by decide)).trans ((rowN (by decide)).trans ((rowN (by decide)).trans h100)))))) (8 + 2)) dX8_writeWells_37 ?_
  refine jV (pc := 38) F 0 0 (z99 hZ) cls11.1 (c_X8_writeNumber ((((0 + wd_n (wel σ 0)) + 1) + wd_n (wel σ 1)) + 1) (wel σ 2) hZ p_19 (w_20.trans up_up) ((f_22 100 (by decide)).trans ((f_17 100 (by decide)).trans ((f_11 100 (by decide)).trans ((f_6 100 (by decide)).trans ((rowN (by decide)).trans ((rowN (by decide)).trans h100)))))) w_21 ((rfl : (up (up μ 9 0) 15 (((((0 + wd_n (wel σ 0)) + 1) + wd_n (wel σ 1)) + 1 : Nat) : Int)) 15 = (up (up μ 9 0) 15 (((((0 + wd_n (wel σ 0)) + 1) + wd_n (wel σ 1)) + 1 : Nat) : Int)) 15).trans (up_self _ _ _)) (by omega) (by omega) (fun V_24 p_25 w_26 w_27 f_28 => ?_)) rfl ⟨k_X8_writeNumber, il_RX8_232, im_X8_writeNumber, is_X8_writeNumber, ii_RX8⟩ 1 rfl hd_X8_writeNumber ⟨by decide, by decide, by decide, by decide, Nat.le_of_ble_eq_true rfl⟩ dX8_writeWells_38
  refine j0 ?_
  refine ia_iinc (pc := 41) F (ls' := [(4, ((99 : Nat) : Int)), (0, 3)]) dX8_writeWells_41 rfl (by decide) rfl rfl ?_
  refine ia_goto (pc := 44) F 12 dX8_writeWells_44 rfl ?_
  refine ia_iload_n (pc := 12) F dX8_writeWells_12 rfl ?_
  refine ia_bipush (pc := 13) F dX8_writeWells_13 (by decide) ?_
  refine ia_icmp_ge (pc := 15) F 47 dX8_writeWells_15 rfl (by omega) (by omega) (fun h9 => absurd h9 (by omega)) (fun _ => ?_)
  refine ia_iload_n (pc := 18) F dX8_writeWells_18 rfl ?_
  refine ia_if_le (pc := 19) F 28 dX8_writeWells_19 rfl (by omega) (fun h9 => absurd h9 (by omega)) (fun _ => ?_)
  refine ia_aload_n (pc := 22) F dX8_writeWells_22 rfl ?_
  refine ia_bipush (pc := 23) F dX8_writeWells_23 (by decide) ?_
  refine jV (pc := 25) F 0 0 (z99 hZ) cls11.1 (c_X8_writeT (((((0 + wd_n (wel σ 0)) + 1) + wd_n (wel σ 1)) + 1) + wd_n (wel σ 2)) 32 hZ p_25 (w_26.trans up_up) ((f_28 100 (by decide)).trans ((f_22 100 (by decide)).trans ((f_17 100 (by decide)).trans ((f_11 100 (by decide)).trans ((f_6 100 (by decide)).trans ((rowN (by decide)).trans ((rowN (by decide)).trans h100))))))) w_27 ((rfl : (up (up μ 9 0) 15 ((((((0 + wd_n (wel σ 0)) + 1) + wd_n (wel σ 1)) + 1) + wd_n (wel σ 2) : Nat) : Int)) 15 = (up (up μ 9 0) 15 ((((((0 + wd_n (wel σ 0)) + 1) + wd_n (wel σ 1)) + 1) + wd_n (wel σ 2) : Nat) : Int)) 15).trans (up_self _ _ _)) (by omega) (fun V_29 p_30 w_31 w_32 f_33 => ?_)) rfl ⟨k_X8_write, il_RX8_228, im_X8_write, is_X8_write, ii_RX8⟩ 1 rfl hd_X8_write ⟨by decide, by decide, by decide, by decide, Nat.le_of_ble_eq_true rfl⟩ dX8_writeWells_25
  refine j0 ?_
  refine ia_aload_n (pc := 28) F dX8_writeWells_28 rfl ?_
  refine ia_aload_n (pc := 29) F dX8_writeWells_29 rfl ?_
  refine jg (pc := 30) F (z99 hZ) cls11 f11_0 (p_30 99 0 100 rfl) il_RX8_7 dX8_writeWells_30 ?_
  refine ia_bipush (pc := 33) F dX8_writeWells_33 (by decide) ?_
  refine ia_iload_n (pc := 35) F dX8_writeWells_35 rfl ?_
  refine ia_iadd (pc := 36) F dX8_writeWells_36 ?_
  have r_34 := sw 3 (by omega)
  refine ja (pc := 37) F (v := wel σ 3) (z100 hZ) (8 + 3) rfl (by omega) (congrFun ((f_33 100 (by decide)).trans ((f_28 100 (by decide)).trans ((f_22 100 (by decide)).trans ((f_17 100 (by decide)).trans ((f_11 100 (by decide)).trans ((f_6 100 (by decide)).trans ((rowN (by decide)).trans ((rowN (by decide)).trans h100)))))))) (8 + 3)) dX8_writeWells_37 ?_
  refine jV (pc := 38) F 0 0 (z99 hZ) cls11.1 (c_X8_writeNumber ((((((0 + wd_n (wel σ 0)) + 1) + wd_n (wel σ 1)) + 1) + wd_n (wel σ 2)) + 1) (wel σ 3) hZ p_30 (w_31.trans up_up) ((f_33 100 (by decide)).trans ((f_28 100 (by decide)).trans ((f_22 100 (by decide)).trans ((f_17 100 (by decide)).trans ((f_11 100 (by decide)).trans ((f_6 100 (by decide)).trans ((rowN (by decide)).trans ((rowN (by decide)).trans h100)))))))) w_32 ((rfl : (up (up μ 9 0) 15 (((((((0 + wd_n (wel σ 0)) + 1) + wd_n (wel σ 1)) + 1) + wd_n (wel σ 2)) + 1 : Nat) : Int)) 15 = (up (up μ 9 0) 15 (((((((0 + wd_n (wel σ 0)) + 1) + wd_n (wel σ 1)) + 1) + wd_n (wel σ 2)) + 1 : Nat) : Int)) 15).trans (up_self _ _ _)) (by omega) (by omega) (fun V_35 p_36 w_37 w_38 f_39 => ?_)) rfl ⟨k_X8_writeNumber, il_RX8_232, im_X8_writeNumber, is_X8_writeNumber, ii_RX8⟩ 1 rfl hd_X8_writeNumber ⟨by decide, by decide, by decide, by decide, Nat.le_of_ble_eq_true rfl⟩ dX8_writeWells_38
  refine j0 ?_
  refine ia_iinc (pc := 41) F (ls' := [(4, ((99 : Nat) : Int)), (0, 4)]) dX8_writeWells_41 rfl (by decide) rfl rfl ?_
  refine ia_goto (pc := 44) F 12 dX8_writeWells_44 rfl ?_
  refine ia_iload_n (pc := 12) F dX8_writeWells_12 rfl ?_
  refine ia_bipush (pc := 13) F dX8_writeWells_13 (by decide) ?_
  refine ia_icmp_ge (pc := 15) F 47 dX8_writeWells_15 rfl (by omega) (by omega) (fun h9 => absurd h9 (by omega)) (fun _ => ?_)
  refine ia_iload_n (pc := 18) F dX8_writeWells_18 rfl ?_
  refine ia_if_le (pc := 19) F 28 dX8_writeWells_19 rfl (by omega) (fun h9 => absurd h9 (by omega)) (fun _ => ?_)
  refine ia_aload_n (pc := 22) F dX8_writeWells_22 rfl ?_
  refine ia_bipush (pc := 23) F dX8_writeWells_23 (by decide) ?_
  refine jV (pc := 25) F 0 0 (z99 hZ) cls11.1 (c_X8_writeT (((((((0 + wd_n (wel σ 0)) + 1) + wd_n (wel σ 1)) + 1) + wd_n (wel σ 2)) + 1) + wd_n (wel σ 3)) 32 hZ p_36 (w_37.trans up_up) ((f_39 100 (by decide)).trans ((f_33 100 (by decide)).trans ((f_28 100 (by decide)).trans ((f_22 100 (by decide)).trans ((f_17 100 (by decide)).trans ((f_11 100 (by decide)).trans ((f_6 100 (by decide)).trans ((rowN (by decide)).trans ((rowN (by decide)).trans h100))))))))) w_38 ((rfl : (up (up μ 9 0) 15 ((((((((0 + wd_n (wel σ 0)) + 1) + wd_n (wel σ 1)) + 1) + wd_n (wel σ 2)) + 1) + wd_n (wel σ 3) : Nat) : Int)) 15 = (up (up μ 9 0) 15 ((((((((0 + wd_n (wel σ 0)) + 1) + wd_n (wel σ 1)) + 1) + wd_n (wel σ 2)) + 1) + wd_n (wel σ 3) : Nat) : Int)) 15).trans (up_self _ _ _)) (by omega) (fun V_40 p_41 w_42 w_43 f_44 => ?_)) rfl ⟨k_X8_write, il_RX8_228, im_X8_write, is_X8_write, ii_RX8⟩ 1 rfl hd_X8_write ⟨by decide, by decide, by decide, by decide, Nat.le_of_ble_eq_true rfl⟩ dX8_writeWells_25
  refine j0 ?_
  refine ia_aload_n (pc := 28) F dX8_writeWells_28 rfl ?_
  refine ia_aload_n (pc := 29) F dX8_writeWells_29 rfl ?_
  refine jg (pc := 30) F (z99 hZ) cls11 f11_0 (p_41 99 0 100 rfl) il_RX8_7 dX8_writeWells_30 ?_
  refine ia_bipush (pc := 33) F dX8_writeWells_33 (by decide) ?_
  refine ia_iload_n (pc := 35) F dX8_writeWells_35 rfl ?_
  refine ia_iadd (pc := 36) F dX8_writeWells_36 ?_
  have r_45 := sw 4 (by omega)
  refine ja (pc := 37) F (v := wel σ 4) (z100 hZ) (8 + 4) rfl (by omega) (congrFun ((f_44 100 (by decide)).trans ((f_39 100 (by decide)).trans ((f_33 100 (by decide)).trans ((f_28 100 (by decide)).trans ((f_22 100 (by decide)).trans ((f_17 100 (by decide)).trans ((f_11 100 (by decide)).trans ((f_6 100 (by decide)).trans ((rowN (by decide)).trans ((rowN (by decide)).trans h100)))))))))) (8 + 4)) dX8_writeWells_37 ?_
  refine jV (pc := 38) F 0 0 (z99 hZ) cls11.1 (c_X8_writeNumber ((((((((0 + wd_n (wel σ 0)) + 1) + wd_n (wel σ 1)) + 1) + wd_n (wel σ 2)) + 1) + wd_n (wel σ 3)) + 1) (wel σ 4) hZ p_41 (w_42.trans up_up) ((f_44 100 (by decide)).trans ((f_39 100 (by decide)).trans ((f_33 100 (by decide)).trans ((f_28 100 (by decide)).trans ((f_22 100 (by decide)).trans ((f_17 100 (by decide)).trans ((f_11 100 (by decide)).trans ((f_6 100 (by decide)).trans ((rowN (by decide)).trans ((rowN (by decide)).trans h100)))))))))) w_43 ((rfl : (up (up μ 9 0) 15 (((((((((0 + wd_n (wel σ 0)) + 1) + wd_n (wel σ 1)) + 1) + wd_n (wel σ 2)) + 1) + wd_n (wel σ 3)) + 1 : Nat) : Int)) 15 = (up (up μ 9 0) 15 (((((((((0 + wd_n (wel σ 0)) + 1) + wd_n (wel σ 1)) + 1) + wd_n (wel σ 2)) + 1) + wd_n (wel σ 3)) + 1 : Nat) : Int)) 15).trans (up_self _ _ _)) (by omega) (by omega) (fun V_46 p_47 w_48 w_49 f_50 => ?_)) rfl ⟨k_X8_writeNumber, il_RX8_232, im_X8_writeNumber, is_X8_writeNumber, ii_RX8⟩ 1 rfl hd_X8_writeNumber ⟨by decide, by decide, by decide, by decide, Nat.le_of_ble_eq_true rfl⟩ dX8_writeWells_38
  refine j0 ?_
  refine ia_iinc (pc := 41) F (ls' := [(4, ((99 : Nat) : Int)), (0, 5)]) dX8_writeWells_41 rfl (by decide) rfl rfl ?_
  refine ia_goto (pc := 44) F 12 dX8_writeWells_44 rfl ?_
  refine ia_iload_n (pc := 12) F dX8_writeWells_12 rfl ?_
  refine ia_bipush (pc := 13) F dX8_writeWells_13 (by decide) ?_
  refine ia_icmp_ge (pc := 15) F 47 dX8_writeWells_15 rfl (by omega) (by omega) (fun h9 => absurd h9 (by omega)) (fun _ => ?_)
  refine ia_iload_n (pc := 18) F dX8_writeWells_18 rfl ?_
  refine ia_if_le (pc := 19) F 28 dX8_writeWells_19 rfl (by omega) (fun h9 => absurd h9 (by omega)) (fun _ => ?_)
  refine ia_aload_n (pc := 22) F dX8_writeWells_22 rfl ?_
  refine ia_bipush (pc := 23) F dX8_writeWells_23 (by decide) ?_
  refine jV (pc := 25) F 0 0 (z99 hZ) cls11.1 (c_X8_writeT (((((((((0 + wd_n (wel σ 0)) + 1) + wd_n (wel σ 1)) + 1) + wd_n (wel σ 2)) + 1) + wd_n (wel σ 3)) + 1) + wd_n (wel σ 4)) 32 hZ p_47 (w_48.trans up_up) ((f_50 100 (by decide)).trans ((f_44 100 (by decide)).trans ((f_39 100 (by decide)).trans ((f_33 100 (by decide)).trans ((f_28 100 (by decide)).trans ((f_22 100 (by decide)).trans ((f_17 100 (by decide)).trans ((f_11 100 (by decide)).trans ((f_6 100 (by decide)).trans ((rowN (by decide)).trans ((rowN (by decide)).trans h100))))))))))) w_49 ((rfl : (up (up μ 9 0) 15 ((((((((((0 + wd_n (wel σ 0)) + 1) + wd_n (wel σ 1)) + 1) + wd_n (wel σ 2)) + 1) + wd_n (wel σ 3)) + 1) + wd_n (wel σ 4) : Nat) : Int)) 15 = (up (up μ 9 0) 15 ((((((((((0 + wd_n (wel σ 0)) + 1) + wd_n (wel σ 1)) + 1) + wd_n (wel σ 2)) + 1) + wd_n (wel σ 3)) + 1) + wd_n (wel σ 4) : Nat) : Int)) 15).trans (up_self _ _ _)) (by omega) (fun V_51 p_52 w_53 w_54 f_55 => ?_)) rfl ⟨k_X8_write, il_RX8_228, im_X8_write, is_X8_write, ii_RX8⟩ 1 rfl hd_X8_write ⟨by decide, by decide, by decide, by decide, Nat.le_of_ble_eq_true rfl⟩ dX8_writeWells_25
  refine j0 ?_
  refine ia_aload_n (pc := 28) F dX8_writeWells_28 rfl ?_
  refine ia_aload_n (pc := 29) F dX8_writeWells_29 rfl ?_
  refine jg (pc := 30) F (z99 hZ) cls11 f11_0 (p_52 99 0 100 rfl) il_RX8_7 dX8_writeWells_30 ?_
  refine ia_bipush (pc := 33) F dX8_writeWells_33 (by decide) ?_
  refine ia_iload_n (pc := 35) F dX8_writeWells_35 rfl ?_
  refine ia_iadd (pc := 36) F dX8_writeWells_36 ?_
  have r_56 := sw 5 (by omega)
  refine ja (pc := 37) F (v := wel σ 5) (z100 hZ) (8 + 5) rfl (by omega) (congrFun ((f_55 100 (by decide)).trans ((f_50 100 (by decide)).trans ((f_44 100 (by decide)).trans ((f_39 100 (by decide)).trans ((f_33 100 (by decide)).trans ((f_28 100 (by decide)).trans ((f_22 100 (by decide)).trans ((f_17 100 (by decide)).trans ((f_11 100 (by decide)).trans ((f_6 100 (by decide)).trans ((rowN (by decide)).trans ((rowN (by decide)).trans h100)))))))))))) (8 + 5)) dX8_writeWells_37 ?_
  refine jV (pc := 38) F 0 0 (z99 hZ) cls11.1 (c_X8_writeNumber ((((((((((0 + wd_n (wel σ 0)) + 1) + wd_n (wel σ 1)) + 1) + wd_n (wel σ 2)) + 1) + wd_n (wel σ 3)) + 1) + wd_n (wel σ 4)) + 1) (wel σ 5) hZ p_52 (w_53.trans up_up) ((f_55 100 (by decide)).trans ((f_50 100 (by decide)).trans ((f_44 100 (by decide)).trans ((f_39 100 (by decide)).trans ((f_33 100 (by decide)).trans ((f_28 100 (by decide)).trans ((f_22 100 (by decide)).trans ((f_17 100 (by decide)).trans ((f_11 100 (by decide)).trans ((f_6 100 (by decide)).trans ((rowN (by decide)).trans ((rowN (by decide)).trans h100)))))))))))) w_54 ((rfl : (up (up μ 9 0) 15 (((((((((((0 + wd_n (wel σ 0)) + 1) + wd_n (wel σ 1)) + 1) + wd_n (wel σ 2)) + 1) + wd_n (wel σ 3)) + 1) + wd_n (wel σ 4)) + 1 : Nat) : Int)) 15 = (up (up μ 9 0) 15 (((((((((((0 + wd_n (wel σ 0)) + 1) + wd_n (wel σ 1)) + 1) + wd_n (wel σ 2)) + 1) + wd_n (wel σ 3)) + 1) + wd_n (wel σ 4)) + 1 : Nat) : Int)) 15).trans (up_self _ _ _)) (by omega) (by omega) (fun V_57 p_58 w_59 w_60 f_61 => ?_)) rfl ⟨k_X8_writeNumber, il_RX8_232, im_X8_writeNumber, is_X8_writeNumber, ii_RX8⟩ 1 rfl hd_X8_writeNumber ⟨by decide, by decide, by decide, by decide, Nat.le_of_ble_eq_true rfl⟩ dX8_writeWells_38
  refine j0 ?_
  refine ia_iinc (pc := 41) F (ls' := [(4, ((99 : Nat) : Int)), (0, 6)]) dX8_writeWells_41 rfl (by decide) rfl rfl ?_
  refine ia_goto (pc := 44) F 12 dX8_writeWells_44 rfl ?_
  refine ia_iload_n (pc := 12) F dX8_writeWells_12 rfl ?_
  refine ia_bipush (pc := 13) F dX8_writeWells_13 (by decide) ?_
  refine ia_icmp_ge (pc := 15) F 47 dX8_writeWells_15 rfl (by omega) (by omega) (fun h9 => absurd h9 (by omega)) (fun _ => ?_)
  refine ia_iload_n (pc := 18) F dX8_writeWells_18 rfl ?_
  refine ia_if_le (pc := 19) F 28 dX8_writeWells_19 rfl (by omega) (fun h9 => absurd h9 (by omega)) (fun _ => ?_)
  refine ia_aload_n (pc := 22) F dX8_writeWells_22 rfl ?_
  refine ia_bipush (pc := 23) F dX8_writeWells_23 (by decide) ?_
  refine jV (pc := 25) F 0 0 (z99 hZ) cls11.1 (c_X8_writeT (((((((((((0 + wd_n (wel σ 0)) + 1) + wd_n (wel σ 1)) + 1) + wd_n (wel σ 2)) + 1) + wd_n (wel σ 3)) + 1) + wd_n (wel σ 4)) + 1) + wd_n (wel σ 5)) 32 hZ p_58 (w_59.trans up_up) ((f_61 100 (by decide)).trans ((f_55 100 (by decide)).trans ((f_50 100 (by decide)).trans ((f_44 100 (by decide)).trans ((f_39 100 (by decide)).trans ((f_33 100 (by decide)).trans ((f_28 100 (by decide)).trans ((f_22 100 (by decide)).trans ((f_17 100 (by decide)).trans ((f_11 100 (by decide)).trans ((f_6 100 (by decide)).trans ((rowN (by decide)).trans ((rowN (by decide)).trans h100))))))))))))) w_60 ((rfl : (up (up μ 9 0) 15 ((((((((((((0 + wd_n (wel σ 0)) + 1) + wd_n (wel σ 1)) + 1) + wd_n (wel σ 2)) + 1) + wd_n (wel σ 3)) + 1) + wd_n (wel σ 4)) + 1) + wd_n (wel σ 5) : Nat) : Int)) 15 = (up (up μ 9 0) 15 ((((((((((((0 + wd_n (wel σ 0)) + 1) + wd_n (wel σ 1)) + 1) + wd_n (wel σ 2)) + 1) + wd_n (wel σ 3)) + 1) + wd_n (wel σ 4)) + 1) + wd_n (wel σ 5) : Nat) : Int)) 15).trans (up_self _ _ _)) (by omega) (fun V_62 p_63 w_64 w_65 f_66 => ?_)) rfl ⟨k_X8_write, il_RX8_228, im_X8_write, is_X8_write, ii_RX8⟩ 1 rfl hd_X8_write ⟨by decide, by decide, by decide, by decide, Nat.le_of_ble_eq_true rfl⟩ dX8_writeWells_25
  refine j0 ?_
  refine ia_aload_n (pc := 28) F dX8_writeWells_28 rfl ?_
  refine ia_aload_n (pc := 29) F dX8_writeWells_29 rfl ?_
  refine jg (pc := 30) F (z99 hZ) cls11 f11_0 (p_63 99 0 100 rfl) il_RX8_7 dX8_writeWells_30 ?_
  refine ia_bipush (pc := 33) F dX8_writeWells_33 (by decide) ?_
  refine ia_iload_n (pc := 35) F dX8_writeWells_35 rfl ?_
  refine ia_iadd (pc := 36) F dX8_writeWells_36 ?_
  have r_67 := sw 6 (by omega)
  refine ja (pc := 37) F (v := wel σ 6) (z100 hZ) (8 + 6) rfl (by omega) (congrFun ((f_66 100 (by decide)).trans ((f_61 100 (by decide)).trans ((f_55 100 (by decide)).trans ((f_50 100 (by decide)).trans ((f_44 100 (by decide)).trans ((f_39 100 (by decide)).trans ((f_33 100 (by decide)).trans ((f_28 100 (by decide)).trans ((f_22 100 (by decide)).trans ((f_17 100 (by decide)).trans ((f_11 100 (by decide)).trans ((f_6 100 (by decide)).trans ((rowN (by decide)).trans ((rowN (by decide)).trans h100)))))))))))))) (8 + 6)) dX8_writeWells_37 ?_
  refine jV (pc := 38) F 0 0 (z99 hZ) cls11.1 (c_X8_writeNumber ((((((((((((0 + wd_n (wel σ 0)) + 1) + wd_n (wel σ 1)) + 1) + wd_n (wel σ 2)) + 1) + wd_n (wel σ 3)) + 1) + wd_n (wel σ 4)) + 1) + wd_n (wel σ 5)) + 1) (wel σ 6) hZ p_63 (w_64.trans up_up) ((f_66 100 (by decide)).trans ((f_61 100 (by decide)).trans ((f_55 100 (by decide)).trans ((f_50 100 (by decide)).trans ((f_44 100 (by decide)).trans ((f_39 100 (by decide)).trans ((f_33 100 (by decide)).trans ((f_28 100 (by decide)).trans ((f_22 100 (by decide)).trans ((f_17 100 (by decide)).trans ((f_11 100 (by decide)).trans ((f_6 100 (by decide)).trans ((rowN (by decide)).trans ((rowN (by decide)).trans h100)))))))))))))) w_65 ((rfl : (up (up μ 9 0) 15 (((((((((((((0 + wd_n (wel σ 0)) + 1) + wd_n (wel σ 1)) + 1) + wd_n (wel σ 2)) + 1) + wd_n (wel σ 3)) + 1) + wd_n (wel σ 4)) + 1) + wd_n (wel σ 5)) + 1 : Nat) : Int)) 15 = (up (up μ 9 0) 15 (((((((((((((0 + wd_n (wel σ 0)) + 1) + wd_n (wel σ 1)) + 1) + wd_n (wel σ 2)) + 1) + wd_n (wel σ 3)) + 1) + wd_n (wel σ 4)) + 1) + wd_n (wel σ 5)) + 1 : Nat) : Int)) 15).trans (up_self _ _ _)) (by omega) (by omega) (fun V_68 p_69 w_70 w_71 f_72 => ?_)) rfl ⟨k_X8_writeNumber, il_RX8_232, im_X8_writeNumber, is_X8_writeNumber, ii_RX8⟩ 1 rfl hd_X8_writeNumber ⟨by decide, by decide, by decide, by decide, Nat.le_of_ble_eq_true rfl⟩ dX8_writeWells_38
  refine j0 ?_
  refine ia_iinc (pc := 41) F (ls' := [(4, ((99 : Nat) : Int)), (0, 7)]) dX8_writeWells_41 rfl (by decide) rfl rfl ?_
  refine ia_goto (pc := 44) F 12 dX8_writeWells_44 rfl ?_
  refine ia_iload_n (pc := 12) F dX8_writeWells_12 rfl ?_
  refine ia_bipush (pc := 13) F dX8_writeWells_13 (by decide) ?_
  refine ia_icmp_ge (pc := 15) F 47 dX8_writeWells_15 rfl (by omega) (by omega) (fun h9 => absurd h9 (by omega)) (fun _ => ?_)
  refine ia_iload_n (pc := 18) F dX8_writeWells_18 rfl ?_
  refine ia_if_le (pc := 19) F 28 dX8_writeWells_19 rfl (by omega) (fun h9 => absurd h9 (by omega)) (fun _ => ?_)
  refine ia_aload_n (pc := 22) F dX8_writeWells_22 rfl ?_
  refine ia_bipush (pc := 23) F dX8_writeWells_23 (by decide) ?_
  refine jV (pc := 25) F 0 0 (z99 hZ) cls11.1 (c_X8_writeT (((((((((((((0 + wd_n (wel σ 0)) + 1) + wd_n (wel σ 1)) + 1) + wd_n (wel σ 2)) + 1) + wd_n (wel σ 3)) + 1) + wd_n (wel σ 4)) + 1) + wd_n (wel σ 5)) + 1) + wd_n (wel σ 6)) 32 hZ p_69 (w_70.trans up_up) ((f_72 100 (by decide)).trans ((f_66 100 (by decide)).trans ((f_61 100 (by decide)).trans ((f_55 100 (by decide)).trans ((f_50 100 (by decide)).trans ((f_44 100 (by decide)).trans ((f_39 100 (by decide)).trans ((f_33 100 (by decide)).trans ((f_28 100 (by decide)).trans ((f_22 100 (by decide)).trans ((f_17 100 (by decide)).trans ((f_11 100 (by decide)).trans ((f_6 100 (by decide)).trans ((rowN (by decide)).trans ((rowN (by decide)).trans h100))))))))))))))) w_71 ((rfl : (up (up μ 9 0) 15 ((((((((((((((0 + wd_n (wel σ 0)) + 1) + wd_n (wel σ 1)) + 1) + wd_n (wel σ 2)) + 1) + wd_n (wel σ 3)) + 1) + wd_n (wel σ 4)) + 1) + wd_n (wel σ 5)) + 1) + wd_n (wel σ 6) : Nat) : Int)) 15 = (up (up μ 9 0) 15 ((((((((((((((0 + wd_n (wel σ 0)) + 1) + wd_n (wel σ 1)) + 1) + wd_n (wel σ 2)) + 1) + wd_n (wel σ 3)) + 1) + wd_n (wel σ 4)) + 1) + wd_n (wel σ 5)) + 1) + wd_n (wel σ 6) : Nat) : Int)) 15).trans (up_self _ _ _)) (by omega) (fun V_73 p_74 w_75 w_76 f_77 => ?_)) rfl ⟨k_X8_write, il_RX8_228, im_X8_write, is_X8_write, ii_RX8⟩ 1 rfl hd_X8_write ⟨by decide, by decide, by decide, by decide, Nat.le_of_ble_eq_true rfl⟩ dX8_writeWells_25
  refine j0 ?_
  refine ia_aload_n (pc := 28) F dX8_writeWells_28 rfl ?_
  refine ia_aload_n (pc := 29) F dX8_writeWells_29 rfl ?_
  refine jg (pc := 30) F (z99 hZ) cls11 f11_0 (p_74 99 0 100 rfl) il_RX8_7 dX8_writeWells_30 ?_
  refine ia_bipush (pc := 33) F dX8_writeWells_33 (by decide) ?_
  refine ia_iload_n (pc := 35) F dX8_writeWells_35 rfl ?_
  refine ia_iadd (pc := 36) F dX8_writeWells_36 ?_
  have r_78 := sw 7 (by omega)
  refine ja (pc := 37) F (v := wel σ 7) (z100 hZ) (8 + 7) rfl (by omega) (congrFun ((f_77 100 (by decide)).trans ((f_72 100 (by decide)).trans ((f_66 100 (by decide)).trans ((f_61 100 (by decide)).trans ((f_55 100 (by decide)).trans ((f_50 100 (by decide)).trans ((f_44 100 (by decide)).trans ((f_39 100 (by decide)).trans ((f_33 100 (by decide)).trans ((f_28 100 (by decide)).trans ((f_22 100 (by decide)).trans ((f_17 100 (by decide)).trans ((f_11 100 (by decide)).trans ((f_6 100 (by decide)).trans ((rowN (by decide)).trans ((rowN (by decide)).trans h100)))))))))))))))) (8 + 7)) dX8_writeWells_37 ?_
  refine jV (pc := 38) F 0 0 (z99 hZ) cls11.1 (c_X8_writeNumber ((((((((((((((0 + wd_n (wel σ 0)) + 1) + wd_n (wel σ 1)) + 1) + wd_n (wel σ 2)) + 1) + wd_n (wel σ 3)) + 1) + wd_n (wel σ 4)) + 1) + wd_n (wel σ 5)) + 1) + wd_n (wel σ 6)) + 1) (wel σ 7) hZ p_74 (w_75.trans up_up) ((f_77 100 (by decide)).trans ((f_72 100 (by decide)).trans ((f_66 100 (by decide)).trans ((f_61 100 (by decide)).trans ((f_55 100 (by decide)).trans ((f_50 100 (by decide)).trans ((f_44 100 (by decide)).trans ((f_39 100 (by decide)).trans ((f_33 100 (by decide)).trans ((f_28 100 (by decide)).trans ((f_22 100 (by decide)).trans ((f_17 100 (by decide)).trans ((f_11 100 (by decide)).trans ((f_6 100 (by decide)).trans ((rowN (by decide)).trans ((rowN (by decide)).trans h100)))))))))))))))) w_76 ((rfl : (up (up μ 9 0) 15 (((((((((((((((0 + wd_n (wel σ 0)) + 1) + wd_n (wel σ 1)) + 1) + wd_n (wel σ 2)) + 1) + wd_n (wel σ 3)) + 1) + wd_n (wel σ 4)) + 1) + wd_n (wel σ 5)) + 1) + wd_n (wel σ 6)) + 1 : Nat) : Int)) 15 = (up (up μ 9 0) 15 (((((((((((((((0 + wd_n (wel σ 0)) + 1) + wd_n (wel σ 1)) + 1) + wd_n (wel σ 2)) + 1) + wd_n (wel σ 3)) + 1) + wd_n (wel σ 4)) + 1) + wd_n (wel σ 5)) + 1) + wd_n (wel σ 6)) + 1 : Nat) : Int)) 15).trans (up_self _ _ _)) (by omega) (by omega) (fun V_79 p_80 w_81 w_82 f_83 => ?_)) rfl ⟨k_X8_writeNumber, il_RX8_232, im_X8_writeNumber, is_X8_writeNumber, ii_RX8⟩ 1 rfl hd_X8_writeNumber ⟨by decide, by decide, by decide, by decide, Nat.le_of_ble_eq_true rfl⟩ dX8_writeWells_38
  refine j0 ?_
  refine ia_iinc (pc := 41) F (ls' := [(4, ((99 : Nat) : Int)), (0, 8)]) dX8_writeWells_41 rfl (by decide) rfl rfl ?_
  refine ia_goto (pc := 44) F 12 dX8_writeWells_44 rfl ?_
  refine ia_iload_n (pc := 12) F dX8_writeWells_12 rfl ?_
  refine ia_bipush (pc := 13) F dX8_writeWells_13 (by decide) ?_
  refine ia_icmp_ge (pc := 15) F 47 dX8_writeWells_15 rfl (by omega) (by omega) (fun h9 => absurd h9 (by omega)) (fun _ => ?_)
  refine ia_iload_n (pc := 18) F dX8_writeWells_18 rfl ?_
  refine ia_if_le (pc := 19) F 28 dX8_writeWells_19 rfl (by omega) (fun h9 => absurd h9 (by omega)) (fun _ => ?_)
  refine ia_aload_n (pc := 22) F dX8_writeWells_22 rfl ?_
  refine ia_bipush (pc := 23) F dX8_writeWells_23 (by decide) ?_
  refine jV (pc := 25) F 0 0 (z99 hZ) cls11.1 (c_X8_writeT (((((((((((((((0 + wd_n (wel σ 0)) + 1) + wd_n (wel σ 1)) + 1) + wd_n (wel σ 2)) + 1) + wd_n (wel σ 3)) + 1) + wd_n (wel σ 4)) + 1) + wd_n (wel σ 5)) + 1) + wd_n (wel σ 6)) + 1) + wd_n (wel σ 7)) 32 hZ p_80 (w_81.trans up_up) ((f_83 100 (by decide)).trans ((f_77 100 (by decide)).trans ((f_72 100 (by decide)).trans ((f_66 100 (by decide)).trans ((f_61 100 (by decide)).trans ((f_55 100 (by decide)).trans ((f_50 100 (by decide)).trans ((f_44 100 (by decide)).trans ((f_39 100 (by decide)).trans ((f_33 100 (by decide)).trans ((f_28 100 (by decide)).trans ((f_22 100 (by decide)).trans ((f_17 100 (by decide)).trans ((f_11 100 (by decide)).trans ((f_6 100 (by decide)).trans ((rowN (by decide)).trans ((rowN (by decide)).trans h100))))))))))))))))) w_82 ((rfl : (up (up μ 9 0) 15 ((((((((((((((((0 + wd_n (wel σ 0)) + 1) + wd_n (wel σ 1)) + 1) + wd_n (wel σ 2)) + 1) + wd_n (wel σ 3)) + 1) + wd_n (wel σ 4)) + 1) + wd_n (wel σ 5)) + 1) + wd_n (wel σ 6)) + 1) + wd_n (wel σ 7) : Nat) : Int)) 15 = (up (up μ 9 0) 15 ((((((((((((((((0 + wd_n (wel σ 0)) + 1) + wd_n (wel σ 1)) + 1) + wd_n (wel σ 2)) + 1) + wd_n (wel σ 3)) + 1) + wd_n (wel σ 4)) + 1) + wd_n (wel σ 5)) + 1) + wd_n (wel σ 6)) + 1) + wd_n (wel σ 7) : Nat) : Int)) 15).trans (up_self _ _ _)) (by omega) (fun V_84 p_85 w_86 w_87 f_88 => ?_)) rfl ⟨k_X8_write, il_RX8_228, im_X8_write, is_X8_write, ii_RX8⟩ 1 rfl hd_X8_write ⟨by decide, by decide, by decide, by decide, Nat.le_of_ble_eq_true rfl⟩ dX8_writeWells_25
  refine j0 ?_
  refine ia_aload_n (pc := 28) F dX8_writeWells_28 rfl ?_
  refine ia_aload_n (pc := 29) F dX8_writeWells_29 rfl ?_
  refine jg (pc := 30) F (z99 hZ) cls11 f11_0 (p_85 99 0 100 rfl) il_RX8_7 dX8_writeWells_30 ?_
  refine ia_bipush (pc := 33) F dX8_writeWells_33 (by decide) ?_
  refine ia_iload_n (pc := 35) F dX8_writeWells_35 rfl ?_
  refine ia_iadd (pc := 36) F dX8_writeWells_36 ?_
  have r_89 := sw 8 (by omega)
  refine ja (pc := 37) F (v := wel σ 8) (z100 hZ) (8 + 8) rfl (by omega) (congrFun ((f_88 100 (by decide)).trans ((f_83 100 (by decide)).trans ((f_77 100 (by decide)).trans ((f_72 100 (by decide)).trans ((f_66 100 (by decide)).trans ((f_61 100 (by decide)).trans ((f_55 100 (by decide)).trans ((f_50 100 (by decide)).trans ((f_44 100 (by decide)).trans ((f_39 100 (by decide)).trans ((f_33 100 (by decide)).trans ((f_28 100 (by decide)).trans ((f_22 100 (by decide)).trans ((f_17 100 (by decide)).trans ((f_11 100 (by decide)).trans ((f_6 100 (by decide)).trans ((rowN (by decide)).trans ((rowN (by decide)).trans h100)))))))))))))))))) (8 + 8)) dX8_writeWells_37 ?_
  refine jV (pc := 38) F 0 0 (z99 hZ) cls11.1 (c_X8_writeNumber ((((((((((((((((0 + wd_n (wel σ 0)) + 1) + wd_n (wel σ 1)) + 1) + wd_n (wel σ 2)) + 1) + wd_n (wel σ 3)) + 1) + wd_n (wel σ 4)) + 1) + wd_n (wel σ 5)) + 1) + wd_n (wel σ 6)) + 1) + wd_n (wel σ 7)) + 1) (wel σ 8) hZ p_85 (w_86.trans up_up) ((f_88 100 (by decide)).trans ((f_83 100 (by decide)).trans ((f_77 100 (by decide)).trans ((f_72 100 (by decide)).trans ((f_66 100 (by decide)).trans ((f_61 100 (by decide)).trans ((f_55 100 (by decide)).trans ((f_50 100 (by decide)).trans ((f_44 100 (by decide)).trans ((f_39 100 (by decide)).trans ((f_33 100 (by decide)).trans ((f_28 100 (by decide)).trans ((f_22 100 (by decide)).trans ((f_17 100 (by decide)).trans ((f_11 100 (by decide)).trans ((f_6 100 (by decide)).trans ((rowN (by decide)).trans ((rowN (by decide)).trans h100)))))))))))))))))) w_87 ((rfl : (up (up μ 9 0) 15 (((((((((((((((((0 + wd_n (wel σ 0)) + 1) + wd_n (wel σ 1)) + 1) + wd_n (wel σ 2)) + 1) + wd_n (wel σ 3)) + 1) + wd_n (wel σ 4)) + 1) + wd_n (wel σ 5)) + 1) + wd_n (wel σ 6)) + 1) + wd_n (wel σ 7)) + 1 : Nat) : Int)) 15 = (up (up μ 9 0) 15 (((((((((((((((((0 + wd_n (wel σ 0)) + 1) + wd_n (wel σ 1)) + 1) + wd_n (wel σ 2)) + 1) + wd_n (wel σ 3)) + 1) + wd_n (wel σ 4)) + 1) + wd_n (wel σ 5)) + 1) + wd_n (wel σ 6)) + 1) + wd_n (wel σ 7)) + 1 : Nat) : Int)) 15).trans (up_self _ _ _)) (by omega) (by omega) (fun V_90 p_91 w_92 w_93 f_94 => ?_)) rfl ⟨k_X8_writeNumber, il_RX8_232, im_X8_writeNumber, is_X8_writeNumber, ii_RX8⟩ 1 rfl hd_X8_writeNumber ⟨by decide, by decide, by decide, by decide, Nat.le_of_ble_eq_true rfl⟩ dX8_writeWells_38
  refine j0 ?_
  refine ia_iinc (pc := 41) F (ls' := [(4, ((99 : Nat) : Int)), (0, 9)]) dX8_writeWells_41 rfl (by decide) rfl rfl ?_
  refine ia_goto (pc := 44) F 12 dX8_writeWells_44 rfl ?_
  refine ia_iload_n (pc := 12) F dX8_writeWells_12 rfl ?_
  refine ia_bipush (pc := 13) F dX8_writeWells_13 (by decide) ?_
  refine ia_icmp_ge (pc := 15) F 47 dX8_writeWells_15 rfl (by omega) (by omega) (fun h9 => absurd h9 (by omega)) (fun _ => ?_)
  refine ia_iload_n (pc := 18) F dX8_writeWells_18 rfl ?_
  refine ia_if_le (pc := 19) F 28 dX8_writeWells_19 rfl (by omega) (fun h9 => absurd h9 (by omega)) (fun _ => ?_)
  refine ia_aload_n (pc := 22) F dX8_writeWells_22 rfl ?_
  refine ia_bipush (pc := 23) F dX8_writeWells_23 (by decide) ?_
  refine jV (pc := 25) F 0 0 (z99 hZ) cls11.1 (c_X8_writeT (((((((((((((((((0 + wd_n (wel σ 0)) + 1) + wd_n (wel σ 1)) + 1) + wd_n (wel σ 2)) + 1) + wd_n (wel σ 3)) + 1) + wd_n (wel σ 4)) + 1) + wd_n (wel σ 5)) + 1) + wd_n (wel σ 6)) + 1) + wd_n (wel σ 7)) + 1) + wd_n (wel σ 8)) 32 hZ p_91 (w_92.trans up_up) ((f_94 100 (by decide)).trans ((f_88 100 (by decide)).trans ((f_83 100 (by decide)).trans ((f_77 100 (by decide)).trans ((f_72 100 (by decide)).trans ((f_66 100 (by decide)).trans ((f_61 100 (by decide)).trans ((f_55 100 (by decide)).trans ((f_50 100 (by decide)).trans ((f_44 100 (by decide)).trans ((f_39 100 (by decide)).trans ((f_33 100 (by decide)).trans ((f_28 100 (by decide)).trans ((f_22 100 (by decide)).trans ((f_17 100 (by decide)).trans ((f_11 100 (by decide)).trans ((f_6 100 (by decide)).trans ((rowN (by decide)).trans ((rowN (by decide)).trans h100))))))))))))))))))) w_93 ((rfl : (up (up μ 9 0) 15 ((((((((((((((((((0 + wd_n (wel σ 0)) + 1) + wd_n (wel σ 1)) + 1) + wd_n (wel σ 2)) + 1) + wd_n (wel σ 3)) + 1) + wd_n (wel σ 4)) + 1) + wd_n (wel σ 5)) + 1) + wd_n (wel σ 6)) + 1) + wd_n (wel σ 7)) + 1) + wd_n (wel σ 8) : Nat) : Int)) 15 = (up (up μ 9 0) 15 ((((((((((((((((((0 + wd_n (wel σ 0)) + 1) + wd_n (wel σ 1)) + 1) + wd_n (wel σ 2)) + 1) + wd_n (wel σ 3)) + 1) + wd_n (wel σ 4)) + 1) + wd_n (wel σ 5)) + 1) + wd_n (wel σ 6)) + 1) + wd_n (wel σ 7)) + 1) + wd_n (wel σ 8) : Nat) : Int)) 15).trans (up_self _ _ _)) (by omega) (fun V_95 p_96 w_97 w_98 f_99 => ?_)) rfl ⟨k_X8_write, il_RX8_228, im_X8_write, is_X8_write, ii_RX8⟩ 1 rfl hd_X8_write ⟨by decide, by decide, by decide, by decide, Nat.le_of_ble_eq_true rfl⟩ dX8_writeWells_25
  refine j0 ?_
  refine ia_aload_n (pc := 28) F dX8_writeWells_28 rfl ?_
  refine ia_aload_n (pc := 29) F dX8_writeWells_29 rfl ?_
  refine jg (pc := 30) F (z99 hZ) cls11 f11_0 (p_96 99 0 100 rfl) il_RX8_7 dX8_writeWells_30 ?_
  refine ia_bipush (pc := 33) F dX8_writeWells_33 (by decide) ?_
  refine ia_iload_n (pc := 35) F dX8_writeWells_35 rfl ?_
  refine ia_iadd (pc := 36) F dX8_writeWells_36 ?_
  have r_100 := sw 9 (by omega)
  refine ja (pc := 37) F (v := wel σ 9) (z100 hZ) (8 + 9) rfl (by omega) (congrFun ((f_99 100 (by decide)).trans ((f_94 100 (by decide)).trans ((f_88 100 (by decide)).trans ((f_83 100 (by decide)).trans ((f_77 100 (by decide)).trans ((f_72 100 (by decide)).trans ((f_66 100 (by decide)).trans ((f_61 100 (by decide)).trans ((f_55 100 (by decide)).trans ((f_50 100 (by decide)).trans ((f_44 100 (by decide)).trans ((f_39 100 (by decide)).trans ((f_33 100 (by decide)).trans ((f_28 100 (by decide)).trans ((f_22 100 (by decide)).trans ((f_17 100 (by decide)).trans ((f_11 100 (by decide)).trans ((f_6 100 (by decide)).trans ((rowN (by decide)).trans ((rowN (by decide)).trans h100)))))))))))))))))))) (8 + 9)) dX8_writeWells_37 ?_
  refine jV (pc := 38) F 0 0 (z99 hZ) cls11.1 (c_X8_writeNumber ((((((((((((((((((0 + wd_n (wel σ 0)) + 1) + wd_n (wel σ 1)) + 1) + wd_n (wel σ 2)) + 1) + wd_n (wel σ 3)) + 1) + wd_n (wel σ 4)) + 1) + wd_n (wel σ 5)) + 1) + wd_n (wel σ 6)) + 1) + wd_n (wel σ 7)) + 1) + wd_n (wel σ 8)) + 1) (wel σ 9) hZ p_96 (w_97.trans up_up) ((f_99 100 (by decide)).trans ((f_94 100 (by decide)).trans ((f_88 100 (by decide)).trans ((f_83 100 (by decide)).trans ((f_77 100 (by decide)).trans ((f_72 100 (by decide)).trans ((f_66 100 (by decide)).trans ((f_61 100 (by decide)).trans ((f_55 100 (by decide)).trans ((f_50 100 (by decide)).trans ((f_44 100 (by decide)).trans ((f_39 100 (by decide)).trans ((f_33 100 (by decide)).trans ((f_28 100 (by decide)).trans ((f_22 100 (by decide)).trans ((f_17 100 (by decide)).trans ((f_11 100 (by decide)).trans ((f_6 100 (by decide)).trans ((rowN (by decide)).trans ((rowN (by decide)).trans h100)))))))))))))))))))) w_98 ((rfl : (up (up μ 9 0) 15 (((((((((((((((((((0 + wd_n (wel σ 0)) + 1) + wd_n (wel σ 1)) + 1) + wd_n (wel σ 2)) + 1) + wd_n (wel σ 3)) + 1) + wd_n (wel σ 4)) + 1) + wd_n (wel σ 5)) + 1) + wd_n (wel σ 6)) + 1) + wd_n (wel σ 7)) + 1) + wd_n (wel σ 8)) + 1 : Nat) : Int)) 15 = (up (up μ 9 0) 15 (((((((((((((((((((0 + wd_n (wel σ 0)) + 1) + wd_n (wel σ 1)) + 1) + wd_n (wel σ 2)) + 1) + wd_n (wel σ 3)) + 1) + wd_n (wel σ 4)) + 1) + wd_n (wel σ 5)) + 1) + wd_n (wel σ 6)) + 1) + wd_n (wel σ 7)) + 1) + wd_n (wel σ 8)) + 1 : Nat) : Int)) 15).trans (up_self _ _ _)) (by omega) (by omega) (fun V_101 p_102 w_103 w_104 f_105 => ?_)) rfl ⟨k_X8_writeNumber, il_RX8_232, im_X8_writeNumber, is_X8_writeNumber, ii_RX8⟩ 1 rfl hd_X8_writeNumber ⟨by decide, by decide, by decide, by decide, Nat.le_of_ble_eq_true rfl⟩ dX8_writeWells_38
  refine j0 ?_
  refine ia_iinc (pc := 41) F (ls' := [(4, ((99 : Nat) : Int)), (0, 10)]) dX8_writeWells_41 rfl (by decide) rfl rfl ?_
  refine ia_goto (pc := 44) F 12 dX8_writeWells_44 rfl ?_
  refine ia_iload_n (pc := 12) F dX8_writeWells_12 rfl ?_
  refine ia_bipush (pc := 13) F dX8_writeWells_13 (by decide) ?_
  refine ia_icmp_ge (pc := 15) F 47 dX8_writeWells_15 rfl (by omega) (by omega) (fun _ => ?_) (fun h9 => absurd h9 (by omega))
  refine ia_aload_n (pc := 47) F dX8_writeWells_47 rfl ?_
  refine jg (pc := 48) F (x := ((((((((((((((((((((0 + wd_n (wel σ 0)) + 1) + wd_n (wel σ 1)) + 1) + wd_n (wel σ 2)) + 1) + wd_n (wel σ 3)) + 1) + wd_n (wel σ 4)) + 1) + wd_n (wel σ 5)) + 1) + wd_n (wel σ 6)) + 1) + wd_n (wel σ 7)) + 1) + wd_n (wel σ 8)) + 1) + wd_n (wel σ 9) : Nat) : Int)) (z99 hZ) cls11 f11_15 ((congrFun (w_103.trans up_up) 15).trans (up_self _ _ _)) il_RX8_57 dX8_writeWells_48 ?_
  refine ia_ireturn (pc := 51) F M (by decide) (by decide) dX8_writeWells_51 ?_
  exact q1 _ p_102 (w_103.trans up_up) w_104 (Fr_c (Fr_c (Fr_c (Fr_c (Fr_c (Fr_c (Fr_c (Fr_c (Fr_c (Fr_c (Fr_c (Fr_c (Fr_c (Fr_c (Fr_c (Fr_c (Fr_c (Fr_c (Fr_c (Fr_u (Fr_u (Fr_0 (V := V) (S := [99, 109])) (by decide)) (by decide)) f_6 (by decide)) f_11 (by decide)) f_17 (by decide)) f_22 (by decide)) f_28 (by decide)) f_33 (by decide)) f_39 (by decide)) f_44 (by decide)) f_50 (by decide)) f_55 (by decide)) f_61 (by decide)) f_66 (by decide)) f_72 (by decide)) f_77 (by decide)) f_83 (by decide)) f_88 (by decide)) f_94 (by decide)) f_99 (by decide)) f_105 (by decide))
set_option maxRecDepth 100000 in
theorem c_X8_lineAt {Z : ia_Z} {V : ia_H} {Q : ia_O → ia_Z → ia_H → Prop} {σ : Nat → Int} {μ : Nat → Int} {κ : Nat → Int} (n : Nat) (i : Int) (hZ : ZI Z) (hP : PI V) (h99 : V 99 = μ) (h100 : V 100 = σ) (h109 : V 109 = κ) (ri : -2147483648 ≤ i ∧ i ≤ 2147483647) (h15 : μ 15 = (n : Int)) (hn : n ≤ 79) (ht : ∀ i : Nat, i < n → 0 ≤ κ i ∧ κ i ≤ 126) (q1 : ∀ (V1 : ia_H), (0 ≤ i ∧ i < (n : Int)) → PI V1 → (V1 99 = up μ 9 0) → (∀ pp, pp ∉ ([99] : List Nat) → V1 pp = V pp) → Q (.inl (some (0, (κ i.toNat)))) Z V1) (q2 : ∀ (V1 : ia_H), (¬ (0 ≤ i ∧ i < (n : Int))) → PI V1 → (V1 99 = up μ 9 1) → (∀ pp, pp ∉ ([99] : List Nat) → V1 pp = V pp) → Q (.inl (some (0, 32))) Z V1) : ia_K yX8_lineAt cX8_lineAt 2 (some .char) [(4, ((99 : Nat) : Int)), (0, i)] Z V 3 0 0 Q := by
  refine ia_start RX8 "lineAt" ⟨by decide, rfl, rfl⟩ (Nat.le_of_ble_eq_true rfl) (ia_tg rfl) (fun X F M => ?_)
  show ia_G X 0 0 0 [(4, ((99 : Nat) : Int)), (0, i)] [] Z V
  refine ia_aload_n (pc := 0) F dX8_lineAt_0 rfl ?_
  refine ia_iload_n (pc := 1) F dX8_lineAt_1 rfl ?_
  refine ia_iconst (pc := 2) F dX8_lineAt_2 ?_
  refine ia_aload_n (pc := 3) F dX8_lineAt_3 rfl ?_
  refine jg (pc := 4) F (x := (n : Int)) (z99 hZ) cls11 f11_15 ((congrFun h99 15).trans h15) il_RX8_57 dX8_lineAt_4 ?_
  refine ia_iconst (pc := 7) F dX8_lineAt_7 ?_
  refine ia_isub (pc := 8) F dX8_lineAt_8 ?_
  refine jS (pc := 9) F 0 0 (c_X8_in i 0 ((n : Int) - 1) (by omega) (by omega) (by omega) (fun h_1 => ?_) (fun h_2 => ?_)) rfl ⟨k_X8_in, il_RX8_91, it_X8_in, ii_RX8⟩ rfl 3 rfl hd_X8_in ⟨by decide, by decide, by decide, by decide, Nat.le_of_ble_eq_true rfl⟩ dX8_lineAt_9
  · refine j1 ?_
    refine jV (pc := 12) F 0 0 (z99 hZ) cls11.1 (c_X8_checked1 hZ hP h99 h100 (fun V_3 p_4 w_5 f_6 => ?_)) rfl ⟨k_X8_checked, il_RX8_125, im_X8_checked, is_X8_checked, ii_RX8⟩ 1 rfl hd_X8_checked ⟨by decide, by decide, by decide, by decide, Nat.le_of_ble_eq_true rfl⟩ dX8_lineAt_12
    refine j1 ?_
    refine ia_if_le (pc := 15) F 23 dX8_lineAt_15 rfl (by omega) (fun _ => ?_) (fun h9 => absurd h9 (by omega))
    have r9 := ht i.toNat (by omega)
    refine ia_aload_n (pc := 23) F dX8_lineAt_23 rfl ?_
    refine jg (pc := 24) F (z99 hZ) cls11 f11_14 (p_4 99 14 109 rfl) il_RX8_54 dX8_lineAt_24 ?_
    refine ia_iload_n (pc := 27) F dX8_lineAt_27 rfl ?_
    refine ja (pc := 28) F (v := κ i.toNat) (z109 hZ) i.toNat (by omega) (by omega) (congrFun ((f_6 109 (by decide)).trans h109) i.toNat) dX8_lineAt_28 ?_
    refine ia_i2c (pc := 29) F dX8_lineAt_29 ?_
    rw [show (κ i.toNat) % 65536 = κ i.toNat from by omega]
    refine ia_creturnI (pc := 30) F M (by omega) (by decide) (by decide) dX8_lineAt_30 ?_
    exact q1 _ (by omega) p_4 w_5 (Fr_c (Fr_0 (V := V) (S := [99])) f_6 (by decide))
  · refine j1 ?_
    refine jV (pc := 12) F 0 0 (z99 hZ) cls11.1 (c_X8_checked0 hZ hP h99 h100 (fun V_7 p_8 w_9 f_10 => ?_)) rfl ⟨k_X8_checked, il_RX8_125, im_X8_checked, is_X8_checked, ii_RX8⟩ 1 rfl hd_X8_checked ⟨by decide, by decide, by decide, by decide, Nat.le_of_ble_eq_true rfl⟩ dX8_lineAt_12
    refine j1 ?_
    refine ia_if_le (pc := 15) F 23 dX8_lineAt_15 rfl (by omega) (fun h9 => absurd h9 (by omega)) (fun _ => ?_)
    refine ia_bipush (pc := 18) F dX8_lineAt_18 (by decide) ?_
    refine ia_goto (pc := 20) F 30 dX8_lineAt_20 rfl ?_
    refine ia_creturnI (pc := 30) F M (by omega) (by decide) (by decide) dX8_lineAt_30 ?_
    exact q2 _ (by omega) p_8 w_9 (Fr_c (Fr_0 (V := V) (S := [99])) f_10 (by decide))
