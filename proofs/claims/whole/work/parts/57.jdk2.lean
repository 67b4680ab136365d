/-! numbers into the builder (made by wip/whole/jdk.py) -/
theorem BX_qr {b k q : Nat} {Z Z' : ia_Z} {V V' V2 : ia_H} (h : BX b k Z V Z' V') (h0 : V' b 0 = (q : Int)) (hbq : b ≠ q) (hF : ∀ p, p ≠ q → V2 p = V' p) : BX b k Z V Z' V2 := by
  obtain ⟨a1, a2, a3, a4⟩ := h
  refine ⟨a1, a2, fun p hp hb hq => ?_, ?_⟩
  · rw [hF p (by omega)]
    exact a3 p hp hb hq
  · rw [hF b hbq]
    exact a4
theorem SB_eq {b n q L : Nat} {Z : ia_Z} {V V' : ia_H} {t : Nat → Int} (h : SB b Z V n t q L) (hb : V' b = V b) (hq : V' q = V q) : SB b Z V' n t q L := by
  unfold SB
  rw [hb, hq]
  exact h
theorem SB_u {b n q L p k : Nat} {Z : ia_Z} {V : ia_H} {t : Nat → Int} {x : Int} (h : SB b Z V n t q L) (hp : p < 116) (hb : p ≠ b ∧ p ≠ b + 1) : SB b Z (ia_u V p k x) n t q L := by
  have hq := h.2.2.2.2.2.2.2.2
  exact SB_eq h (rowN (fun e => hb.1 e.symm)) (rowN (by omega))
theorem SB_fr {b n q L : Nat} {Z : ia_Z} {V V' : ia_H} {t : Nat → Int} {S : List Nat} (h : SB b Z V n t q L) (hF : ∀ p, p ∉ S → V' p = V p) (hS : ∀ x ∈ S, x < 116) (hb : b ∉ S ∧ b + 1 ∉ S) : SB b Z V' n t q L := by
  have hq := h.2.2.2.2.2.2.2.2
  refine SB_eq h (hF b hb.1) (hF q (fun e => ?_))
  rcases hq with e2 | e2
  · rw [e2] at e; exact hb.2 e
  · have := hS q e; omega
set_option maxRecDepth 100000 in
theorem c_J6_size1 {Z : ia_Z} {V : ia_H} {Q : ia_O → ia_Z → ia_H → Prop} (v : Int)   (hv : 0 ≤ v ∧ v < 10) (q1 : Q (.inl (some (0, 1))) Z V) : ia_K yJ6_stringSize_0f7a4 cJ6_stringSize_0f7a4 4 (some .int) [(0, v)] Z V 1 0 0 Q := by
  refine ia_start RJ6 "stringSize" ⟨by decide, rfl, rfl⟩ (Nat.le_of_ble_eq_true rfl) (ia_tg rfl) (fun X F M => ?_)
  show ia_G X 0 0 0 [(0, v), (9, 0), (9, 0), (9, 0)] [] Z V
  refine ia_iconst (pc := 0) F dJ6_stringSize_0f7a4_0 ?_
  refine ia_istore_n (pc := 1) F (ls' := [(0, v), (0, 1), (9, 0), (9, 0)]) dJ6_stringSize_0f7a4_1 (Nat.le_of_ble_eq_true rfl) rfl rfl ?_
  refine ia_iload_n (pc := 2) F dJ6_stringSize_0f7a4_2 rfl ?_
  refine ia_if_lt (pc := 3) F 11 dJ6_stringSize_0f7a4_3 rfl (by omega) (fun h9 => absurd h9 (by omega)) (fun _ => ?_)
  refine ia_iconst (pc := 6) F dJ6_stringSize_0f7a4_6 ?_
  refine ia_istore_n (pc := 7) F (ls' := [(0, v), (0, 0), (9, 0), (9, 0)]) dJ6_stringSize_0f7a4_7 (Nat.le_of_ble_eq_true rfl) rfl rfl ?_
  refine ia_iload_n (pc := 8) F dJ6_stringSize_0f7a4_8 rfl ?_
  refine ia_ineg (pc := 9) F dJ6_stringSize_0f7a4_9 ?_
  refine ia_istore_n (pc := 10) F (ls' := [(0, (-v)), (0, 0), (9, 0), (9, 0)]) dJ6_stringSize_0f7a4_10 (Nat.le_of_ble_eq_true rfl) rfl rfl ?_
  refine ia_bipush (pc := 11) F dJ6_stringSize_0f7a4_11 (by decide) ?_
  refine ia_istore_n (pc := 13) F (ls' := [(0, (-v)), (0, 0), (0, (-10)), (9, 0)]) dJ6_stringSize_0f7a4_13 (Nat.le_of_ble_eq_true rfl) rfl rfl ?_
  refine ia_iconst (pc := 14) F dJ6_stringSize_0f7a4_14 ?_
  refine ia_istore_n (pc := 15) F (ls' := [(0, (-v)), (0, 0), (0, (-10)), (0, 1)]) dJ6_stringSize_0f7a4_15 (Nat.le_of_ble_eq_true rfl) rfl rfl ?_
  refine ia_iload_n (pc := 16) F dJ6_stringSize_0f7a4_16 rfl ?_
  refine ia_bipush (pc := 17) F dJ6_stringSize_0f7a4_17 (by decide) ?_
  refine ia_icmp_ge (pc := 19) F 42 dJ6_stringSize_0f7a4_19 rfl (by omega) (by omega) (fun h9 => absurd h9 (by omega)) (fun _ => ?_)
  refine ia_iload_n (pc := 22) F dJ6_stringSize_0f7a4_22 rfl ?_
  refine ia_iload_n (pc := 23) F dJ6_stringSize_0f7a4_23 rfl ?_
  refine ia_icmp_le (pc := 24) F 31 dJ6_stringSize_0f7a4_24 rfl (by omega) (by omega) (fun h9 => absurd h9 (by omega)) (fun _ => ?_)
  refine ia_iload_n (pc := 27) F dJ6_stringSize_0f7a4_27 rfl ?_
  refine ia_iload_n (pc := 28) F dJ6_stringSize_0f7a4_28 rfl ?_
  refine ia_iadd (pc := 29) F dJ6_stringSize_0f7a4_29 ?_
  refine ia_ireturn (pc := 30) F M (by decide) (by decide) dJ6_stringSize_0f7a4_30 ?_
  exact q1
set_option maxRecDepth 100000 in
theorem c_J6_size2 {Z : ia_Z} {V : ia_H} {Q : ia_O → ia_Z → ia_H → Prop} (v : Int)   (hv : 10 ≤ v ∧ v < 100) (q1 : Q (.inl (some (0, 2))) Z V) : ia_K yJ6_stringSize_0f7a4 cJ6_stringSize_0f7a4 4 (some .int) [(0, v)] Z V 1 0 0 Q := by
  refine ia_start RJ6 "stringSize" ⟨by decide, rfl, rfl⟩ (Nat.le_of_ble_eq_true rfl) (ia_tg rfl) (fun X F M => ?_)
  show ia_G X 0 0 0 [(0, v), (9, 0), (9, 0), (9, 0)] [] Z V
  refine ia_iconst (pc := 0) F dJ6_stringSize_0f7a4_0 ?_
  refine ia_istore_n (pc := 1) F (ls' := [(0, v), (0, 1), (9, 0), (9, 0)]) dJ6_stringSize_0f7a4_1 (Nat.le_of_ble_eq_true rfl) rfl rfl ?_
  refine ia_iload_n (pc := 2) F dJ6_stringSize_0f7a4_2 rfl ?_
  refine ia_if_lt (pc := 3) F 11 dJ6_stringSize_0f7a4_3 rfl (by omega) (fun h9 => absurd h9 (by omega)) (fun _ => ?_)
  refine ia_iconst (pc := 6) F dJ6_stringSize_0f7a4_6 ?_
  refine ia_istore_n (pc := 7) F (ls' := [(0, v), (0, 0), (9, 0), (9, 0)]) dJ6_stringSize_0f7a4_7 (Nat.le_of_ble_eq_true rfl) rfl rfl ?_
  refine ia_iload_n (pc := 8) F dJ6_stringSize_0f7a4_8 rfl ?_
  refine ia_ineg (pc := 9) F dJ6_stringSize_0f7a4_9 ?_
  refine ia_istore_n (pc := 10) F (ls' := [(0, (-v)), (0, 0), (9, 0), (9, 0)]) dJ6_stringSize_0f7a4_10 (Nat.le_of_ble_eq_true rfl) rfl rfl ?_
  refine ia_bipush (pc := 11) F dJ6_stringSize_0f7a4_11 (by decide) ?_
  refine ia_istore_n (pc := 13) F (ls' := [(0, (-v)), (0, 0), (0, (-10)), (9, 0)]) dJ6_stringSize_0f7a4_13 (Nat.le_of_ble_eq_true rfl) rfl rfl ?_
  refine ia_iconst (pc := 14) F dJ6_stringSize_0f7a4_14 ?_
  refine ia_istore_n (pc := 15) F (ls' := [(0, (-v)), (0, 0), (0, (-10)), (0, 1)]) dJ6_stringSize_0f7a4_15 (Nat.le_of_ble_eq_true rfl) rfl rfl ?_
  refine ia_iload_n (pc := 16) F dJ6_stringSize_0f7a4_16 rfl ?_
  refine ia_bipush (pc := 17) F dJ6_stringSize_0f7a4_17 (by decide) ?_
  refine ia_icmp_ge (pc := 19) F 42 dJ6_stringSize_0f7a4_19 rfl (by omega) (by omega) (fun h9 => absurd h9 (by omega)) (fun _ => ?_)
  refine ia_iload_n (pc := 22) F dJ6_stringSize_0f7a4_22 rfl ?_
  refine ia_iload_n (pc := 23) F dJ6_stringSize_0f7a4_23 rfl ?_
  refine ia_icmp_le (pc := 24) F 31 dJ6_stringSize_0f7a4_24 rfl (by omega) (by omega) (fun _ => ?_) (fun h9 => absurd h9 (by omega))
  refine ia_bipush (pc := 31) F dJ6_stringSize_0f7a4_31 (by decide) ?_
  refine ia_iload_n (pc := 33) F dJ6_stringSize_0f7a4_33 rfl ?_
  refine ia_imul (pc := 34) F dJ6_stringSize_0f7a4_34 ?_
  refine ia_istore_n (pc := 35) F (ls' := [(0, (-v)), (0, 0), (0, (10 * (-10))), (0, 1)]) dJ6_stringSize_0f7a4_35 (Nat.le_of_ble_eq_true rfl) rfl rfl ?_
  refine ia_iinc (pc := 36) F (ls' := [(0, (-v)), (0, 0), (0, (10 * (-10))), (0, 2)]) dJ6_stringSize_0f7a4_36 rfl (by decide) rfl rfl ?_
  refine ia_goto (pc := 39) F 16 dJ6_stringSize_0f7a4_39 rfl ?_
  refine ia_iload_n (pc := 16) F dJ6_stringSize_0f7a4_16 rfl ?_
  refine ia_bipush (pc := 17) F dJ6_stringSize_0f7a4_17 (by decide) ?_
  refine ia_icmp_ge (pc := 19) F 42 dJ6_stringSize_0f7a4_19 rfl (by omega) (by omega) (fun h9 => absurd h9 (by omega)) (fun _ => ?_)
  refine ia_iload_n (pc := 22) F dJ6_stringSize_0f7a4_22 rfl ?_
  refine ia_iload_n (pc := 23) F dJ6_stringSize_0f7a4_23 rfl ?_
  refine ia_icmp_le (pc := 24) F 31 dJ6_stringSize_0f7a4_24 rfl (by omega) (by omega) (fun h9 => absurd h9 (by omega)) (fun _ => ?_)
  refine ia_iload_n (pc := 27) F dJ6_stringSize_0f7a4_27 rfl ?_
  refine ia_iload_n (pc := 28) F dJ6_stringSize_0f7a4_28 rfl ?_
  refine ia_iadd (pc := 29) F dJ6_stringSize_0f7a4_29 ?_
  refine ia_ireturn (pc := 30) F M (by decide) (by decide) dJ6_stringSize_0f7a4_30 ?_
  exact q1
set_option maxRecDepth 100000 in
theorem c_J6_size3 {Z : ia_Z} {V : ia_H} {Q : ia_O → ia_Z → ia_H → Prop} (v : Int)   (hv : 100 ≤ v ∧ v ≤ 999) (q1 : Q (.inl (some (0, 3))) Z V) : ia_K yJ6_stringSize_0f7a4 cJ6_stringSize_0f7a4 4 (some .int) [(0, v)] Z V 1 0 0 Q := by
  refine ia_start RJ6 "stringSize" ⟨by decide, rfl, rfl⟩ (Nat.le_of_ble_eq_true rfl) (ia_tg rfl) (fun X F M => ?_)
  show ia_G X 0 0 0 [(0, v), (9, 0), (9, 0), (9, 0)] [] Z V
  refine ia_iconst (pc := 0) F dJ6_stringSize_0f7a4_0 ?_
  refine ia_istore_n (pc := 1) F (ls' := [(0, v), (0, 1), (9, 0), (9, 0)]) dJ6_stringSize_0f7a4_1 (Nat.le_of_ble_eq_true rfl) rfl rfl ?_
  refine ia_iload_n (pc := 2) F dJ6_stringSize_0f7a4_2 rfl ?_
  refine ia_if_lt (pc := 3) F 11 dJ6_stringSize_0f7a4_3 rfl (by omega) (fun h9 => absurd h9 (by omega)) (fun _ => ?_)
  refine ia_iconst (pc := 6) F dJ6_stringSize_0f7a4_6 ?_
  refine ia_istore_n (pc := 7) F (ls' := [(0, v), (0, 0), (9, 0), (9, 0)]) dJ6_stringSize_0f7a4_7 (Nat.le_of_ble_eq_true rfl) rfl rfl ?_
  refine ia_iload_n (pc := 8) F dJ6_stringSize_0f7a4_8 rfl ?_
  refine ia_ineg (pc := 9) F dJ6_stringSize_0f7a4_9 ?_
  refine ia_istore_n (pc := 10) F (ls' := [(0, (-v)), (0, 0), (9, 0), (9, 0)]) dJ6_stringSize_0f7a4_10 (Nat.le_of_ble_eq_true rfl) rfl rfl ?_
  refine ia_bipush (pc := 11) F dJ6_stringSize_0f7a4_11 (by decide) ?_
  refine ia_istore_n (pc := 13) F (ls' := [(0, (-v)), (0, 0), (0, (-10)), (9, 0)]) dJ6_stringSize_0f7a4_13 (Nat.le_of_ble_eq_true rfl) rfl rfl ?_
  refine ia_iconst (pc := 14) F dJ6_stringSize_0f7a4_14 ?_
  refine ia_istore_n (pc := 15) F (ls' := [(0, (-v)), (0, 0), (0, (-10)), (0, 1)]) dJ6_stringSize_0f7a4_15 (Nat.le_of_ble_eq_true rfl) rfl rfl ?_
  refine ia_iload_n (pc := 16) F dJ6_stringSize_0f7a4_16 rfl ?_
  refine ia_bipush (pc := 17) F dJ6_stringSize_0f7a4_17 (by decide) ?_
  refine ia_icmp_ge (pc := 19) F 42 dJ6_stringSize_0f7a4_19 rfl (by omega) (by omega) (fun h9 => absurd h9 (by omega)) (fun _ => ?_)
  refine ia_iload_n (pc := 22) F dJ6_stringSize_0f7a4_22 rfl ?_
  refine ia_iload_n (pc := 23) F dJ6_stringSize_0f7a4_23 rfl ?_
  refine ia_icmp_le (pc := 24) F 31 dJ6_stringSize_0f7a4_24 rfl (by omega) (by omega) (fun _ => ?_) (fun h9 => absurd h9 (by omega))
  refine ia_bipush (pc := 31) F dJ6_stringSize_0f7a4_31 (by decide) ?_
  refine ia_iload_n (pc := 33) F dJ6_stringSize_0f7a4_33 rfl ?_
  refine ia_imul (pc := 34) F dJ6_stringSize_0f7a4_34 ?_
  refine ia_istore_n (pc := 35) F (ls' := [(0, (-v)), (0, 0), (0, (10 * (-10))), (0, 1)]) dJ6_stringSize_0f7a4_35 (Nat.le_of_ble_eq_true rfl) rfl rfl ?_
  refine ia_iinc (pc := 36) F (ls' := [(0, (-v)), (0, 0), (0, (10 * (-10))), (0, 2)]) dJ6_stringSize_0f7a4_36 rfl (by decide) rfl rfl ?_
  refine ia_goto (pc := 39) F 16 dJ6_stringSize_0f7a4_39 rfl ?_
  refine ia_iload_n (pc := 16) F dJ6_stringSize_0f7a4_16 rfl ?_
  refine ia_bipush (pc := 17) F dJ6_stringSize_0f7a4_17 (by decide) ?_
  refine ia_icmp_ge (pc := 19) F 42 dJ6_stringSize_0f7a4_19 rfl (by omega) (by omega) (fun h9 => absurd h9 (by omega)) (fun _ => ?_)
  refine ia_iload_n (pc := 22) F dJ6_stringSize_0f7a4_22 rfl ?_
  refine ia_iload_n (pc := 23) F dJ6_stringSize_0f7a4_23 rfl ?_
  refine ia_icmp_le (pc := 24) F 31 dJ6_stringSize_0f7a4_24 rfl (by omega) (by omega) (fun _ => ?_) (fun h9 => absurd h9 (by omega))
  refine ia_bipush (pc := 31) F dJ6_stringSize_0f7a4_31 (by decide) ?_
  refine ia_iload_n (pc := 33) F dJ6_stringSize_0f7a4_33 rfl ?_
  refine ia_imul (pc := 34) F dJ6_stringSize_0f7a4_34 ?_
  refine ia_istore_n (pc := 35) F (ls' := [(0, (-v)), (0, 0), (0, (10 * (10 * (-10)))), (0, 2)]) dJ6_stringSize_0f7a4_35 (Nat.le_of_ble_eq_true rfl) rfl rfl ?_
  refine ia_iinc (pc := 36) F (ls' := [(0, (-v)), (0, 0), (0, (10 * (10 * (-10)))), (0, 3)]) dJ6_stringSize_0f7a4_36 rfl (by decide) rfl rfl ?_
  refine ia_goto (pc := 39) F 16 dJ6_stringSize_0f7a4_39 rfl ?_
  refine ia_iload_n (pc := 16) F dJ6_stringSize_0f7a4_16 rfl ?_
  refine ia_bipush (pc := 17) F dJ6_stringSize_0f7a4_17 (by decide) ?_
  refine ia_icmp_ge (pc := 19) F 42 dJ6_stringSize_0f7a4_19 rfl (by omega) (by omega) (fun h9 => absurd h9 (by omega)) (fun _ => ?_)
  refine ia_iload_n (pc := 22) F dJ6_stringSize_0f7a4_22 rfl ?_
  refine ia_iload_n (pc := 23) F dJ6_stringSize_0f7a4_23 rfl ?_
  refine ia_icmp_le (pc := 24) F 31 dJ6_stringSize_0f7a4_24 rfl (by omega) (by omega) (fun h9 => absurd h9 (by omega)) (fun _ => ?_)
  refine ia_iload_n (pc := 27) F dJ6_stringSize_0f7a4_27 rfl ?_
  refine ia_iload_n (pc := 28) F dJ6_stringSize_0f7a4_28 rfl ?_
  refine ia_iadd (pc := 29) F dJ6_stringSize_0f7a4_29 ?_
  refine ia_ireturn (pc := 30) F M (by decide) (by decide) dJ6_stringSize_0f7a4_30 ?_
  exact q1
set_option maxRecDepth 100000 in
theorem c_J6_chars1 {Z : ia_Z} {V : ia_H} {Q : ia_O → ia_Z → ia_H → Prop} (n e q L : Nat) (v : Int)   (hv : 0 ≤ v ∧ v < 10) (he : e = n + 1) (zq : q < Z.2.2 ∧ Z.1 q = 3 ∧ Z.2.1 q = L) (hl : n + 1 ≤ L ∧ L ≤ 1000) (q1 : ∀ (V1 : ia_H), (V1 q = wd_a (V q) n v) → (∀ p, p ≠ q → V1 p = V p) → Q (.inl (some (0, (n : Int)))) Z V1) : ia_K yJ6_getChars_ba4f3 cJ6_getChars_ba4f3 7 (some .int) [(0, v), (0, (e : Int)), (4, ((q : Nat) : Int))] Z V 1 0 0 Q := by
  refine ia_start RJ6 "getChars" ⟨by decide, rfl, rfl⟩ (Nat.le_of_ble_eq_true rfl) (ia_tg rfl) (fun X F M => ?_)
  show ia_G X 0 0 0 [(0, v), (0, (e : Int)), (4, ((q : Nat) : Int)), (9, 0), (9, 0), (9, 0), (9, 0)] [] Z V
  subst he
  refine ia_iload_n (pc := 0) F dJ6_getChars_ba4f3_0 rfl ?_
  refine ia_istore (pc := 1) F (ls' := [(0, v), (0, ((n + 1 : Nat) : Int)), (4, ((q : Nat) : Int)), (9, 0), (9, 0), (0, ((n + 1 : Nat) : Int)), (9, 0)]) dJ6_getChars_ba4f3_1 (Nat.le_of_ble_eq_true rfl) rfl rfl ?_
  refine ia_iload_n (pc := 3) F dJ6_getChars_ba4f3_3 rfl ?_
  refine ia_if_ge (pc := 4) F 11 dJ6_getChars_ba4f3_4 rfl (by omega) (fun _ => ?_) (fun h9 => absurd h9 (by omega))
  refine ia_iconst (pc := 11) F dJ6_getChars_ba4f3_11 ?_
  refine ia_istore (pc := 12) F (ls' := [(0, v), (0, ((n + 1 : Nat) : Int)), (4, ((q : Nat) : Int)), (9, 0), (9, 0), (0, ((n + 1 : Nat) : Int)), (0, 0)]) dJ6_getChars_ba4f3_12 (Nat.le_of_ble_eq_true rfl) rfl rfl ?_
  refine ia_iload (pc := 14) F dJ6_getChars_ba4f3_14 rfl ?_
  refine ia_if_ne (pc := 16) F 22 dJ6_getChars_ba4f3_16 rfl (by omega) (fun h9 => absurd h9 (by omega)) (fun _ => ?_)
  refine ia_iload_n (pc := 19) F dJ6_getChars_ba4f3_19 rfl ?_
  refine ia_ineg (pc := 20) F dJ6_getChars_ba4f3_20 ?_
  refine ia_istore_n (pc := 21) F (ls' := [(0, (-v)), (0, ((n + 1 : Nat) : Int)), (4, ((q : Nat) : Int)), (9, 0), (9, 0), (0, ((n + 1 : Nat) : Int)), (0, 0)]) dJ6_getChars_ba4f3_21 (Nat.le_of_ble_eq_true rfl) rfl rfl ?_
  refine ia_iload_n (pc := 22) F dJ6_getChars_ba4f3_22 rfl ?_
  refine ia_bipush (pc := 23) F dJ6_getChars_ba4f3_23 (by decide) ?_
  refine ia_icmp_gt (pc := 25) F 72 dJ6_getChars_ba4f3_25 rfl (by omega) (by omega) (fun _ => ?_) (fun h9 => absurd h9 (by omega))
  refine ia_aload_n (pc := 72) F dJ6_getChars_ba4f3_72 rfl ?_
  refine ia_iinc (pc := 73) F (ls' := [(0, (-v)), (0, ((n + 1 : Nat) : Int)), (4, ((q : Nat) : Int)), (9, 0), (9, 0), (0, (n : Int)), (0, 0)]) dJ6_getChars_ba4f3_73 rfl (by omega) rfl rfl ?_
  refine ia_iload (pc := 76) F dJ6_getChars_ba4f3_76 rfl ?_
  refine ia_getOnes (pc := 78) F il_RJ6_83 dJ6_getChars_ba4f3_78 ?_
  refine ia_iload_n (pc := 81) F dJ6_getChars_ba4f3_81 rfl ?_
  refine ia_ineg (pc := 82) F dJ6_getChars_ba4f3_82 ?_
  refine ia_atOnes (pc := 83) F ((-(-v)).toNat) (by omega) (by omega) dJ6_getChars_ba4f3_83 ?_
  refine jsb (pc := 84) F zq n rfl (by omega) (by omega) dJ6_getChars_ba4f3_84 ?_
  refine ia_iload_n (pc := 85) F dJ6_getChars_ba4f3_85 rfl ?_
  refine ia_bipush (pc := 86) F dJ6_getChars_ba4f3_86 (by decide) ?_
  refine ia_icmp_ge (pc := 88) F 104 dJ6_getChars_ba4f3_88 rfl (by omega) (by omega) (fun _ => ?_) (fun h9 => absurd h9 (by omega))
  refine ia_iload (pc := 104) F dJ6_getChars_ba4f3_104 rfl ?_
  refine ia_if_eq (pc := 106) F 118 dJ6_getChars_ba4f3_106 rfl (by omega) (fun _ => ?_) (fun h9 => absurd h9 (by omega))
  refine ia_iload (pc := 118) F dJ6_getChars_ba4f3_118 rfl ?_
  refine ia_ireturn (pc := 120) F M (by decide) (by decide) dJ6_getChars_ba4f3_120 ?_
  have w9 : (ia_u V q n ((48 + (-(-v)).toNat % 10 : Nat) : Int)) q = (up (V q) (n) (48 + v)) := (rowU (rfl : V q = V q)).trans (by rw [show ((48 + (-(-v)).toNat % 10 : Nat) : Int) = (48 + v) from by omega])
  rw [wd_a1 (by omega)] at w9
  exact q1 _ w9 (fun p hp => by rw [rowN hp])
set_option maxRecDepth 100000 in
theorem c_J6_chars2 {Z : ia_Z} {V : ia_H} {Q : ia_O → ia_Z → ia_H → Prop} (n e q L : Nat) (v : Int)   (hv : 10 ≤ v ∧ v < 100) (he : e = n + 2) (zq : q < Z.2.2 ∧ Z.1 q = 3 ∧ Z.2.1 q = L) (hl : n + 2 ≤ L ∧ L ≤ 1000) (q1 : ∀ (V1 : ia_H), (V1 q = wd_a (V q) n v) → (∀ p, p ≠ q → V1 p = V p) → Q (.inl (some (0, (n : Int)))) Z V1) : ia_K yJ6_getChars_ba4f3 cJ6_getChars_ba4f3 7 (some .int) [(0, v), (0, (e : Int)), (4, ((q : Nat) : Int))] Z V 1 0 0 Q := by
  refine ia_start RJ6 "getChars" ⟨by decide, rfl, rfl⟩ (Nat.le_of_ble_eq_true rfl) (ia_tg rfl) (fun X F M => ?_)
  show ia_G X 0 0 0 [(0, v), (0, (e : Int)), (4, ((q : Nat) : Int)), (9, 0), (9, 0), (9, 0), (9, 0)] [] Z V
  subst he
  refine ia_iload_n (pc := 0) F dJ6_getChars_ba4f3_0 rfl ?_
  refine ia_istore (pc := 1) F (ls' := [(0, v), (0, ((n + 2 : Nat) : Int)), (4, ((q : Nat) : Int)), (9, 0), (9, 0), (0, ((n + 2 : Nat) : Int)), (9, 0)]) dJ6_getChars_ba4f3_1 (Nat.le_of_ble_eq_true rfl) rfl rfl ?_
  refine ia_iload_n (pc := 3) F dJ6_getChars_ba4f3_3 rfl ?_
  refine ia_if_ge (pc := 4) F 11 dJ6_getChars_ba4f3_4 rfl (by omega) (fun _ => ?_) (fun h9 => absurd h9 (by omega))
  refine ia_iconst (pc := 11) F dJ6_getChars_ba4f3_11 ?_
  refine ia_istore (pc := 12) F (ls' := [(0, v), (0, ((n + 2 : Nat) : Int)), (4, ((q : Nat) : Int)), (9, 0), (9, 0), (0, ((n + 2 : Nat) : Int)), (0, 0)]) dJ6_getChars_ba4f3_12 (Nat.le_of_ble_eq_true rfl) rfl rfl ?_
  refine ia_iload (pc := 14) F dJ6_getChars_ba4f3_14 rfl ?_
  refine ia_if_ne (pc := 16) F 22 dJ6_getChars_ba4f3_16 rfl (by omega) (fun h9 => absurd h9 (by omega)) (fun _ => ?_)
  refine ia_iload_n (pc := 19) F dJ6_getChars_ba4f3_19 rfl ?_
  refine ia_ineg (pc := 20) F dJ6_getChars_ba4f3_20 ?_
  refine ia_istore_n (pc := 21) F (ls' := [(0, (-v)), (0, ((n + 2 : Nat) : Int)), (4, ((q : Nat) : Int)), (9, 0), (9, 0), (0, ((n + 2 : Nat) : Int)), (0, 0)]) dJ6_getChars_ba4f3_21 (Nat.le_of_ble_eq_true rfl) rfl rfl ?_
  refine ia_iload_n (pc := 22) F dJ6_getChars_ba4f3_22 rfl ?_
  refine ia_bipush (pc := 23) F dJ6_getChars_ba4f3_23 (by decide) ?_
  refine ia_icmp_gt (pc := 25) F 72 dJ6_getChars_ba4f3_25 rfl (by omega) (by omega) (fun _ => ?_) (fun h9 => absurd h9 (by omega))
  refine ia_aload_n (pc := 72) F dJ6_getChars_ba4f3_72 rfl ?_
  refine ia_iinc (pc := 73) F (ls' := [(0, (-v)), (0, ((n + 2 : Nat) : Int)), (4, ((q : Nat) : Int)), (9, 0), (9, 0), (0, ((n + 1 : Nat) : Int)), (0, 0)]) dJ6_getChars_ba4f3_73 rfl (by omega) rfl rfl ?_
  refine ia_iload (pc := 76) F dJ6_getChars_ba4f3_76 rfl ?_
  refine ia_getOnes (pc := 78) F il_RJ6_83 dJ6_getChars_ba4f3_78 ?_
  refine ia_iload_n (pc := 81) F dJ6_getChars_ba4f3_81 rfl ?_
  refine ia_ineg (pc := 82) F dJ6_getChars_ba4f3_82 ?_
  refine ia_atOnes (pc := 83) F ((-(-v)).toNat) (by omega) (by omega) dJ6_getChars_ba4f3_83 ?_
  refine jsb (pc := 84) F zq (n + 1) rfl (by omega) (by omega) dJ6_getChars_ba4f3_84 ?_
  refine ia_iload_n (pc := 85) F dJ6_getChars_ba4f3_85 rfl ?_
  refine ia_bipush (pc := 86) F dJ6_getChars_ba4f3_86 (by decide) ?_
  refine ia_icmp_ge (pc := 88) F 104 dJ6_getChars_ba4f3_88 rfl (by omega) (by omega) (fun h9 => absurd h9 (by omega)) (fun _ => ?_)
  refine ia_aload_n (pc := 91) F dJ6_getChars_ba4f3_91 rfl ?_
  refine ia_iinc (pc := 92) F (ls' := [(0, (-v)), (0, ((n + 2 : Nat) : Int)), (4, ((q : Nat) : Int)), (9, 0), (9, 0), (0, (n : Int)), (0, 0)]) dJ6_getChars_ba4f3_92 rfl (by omega) rfl rfl ?_
  refine ia_iload (pc := 95) F dJ6_getChars_ba4f3_95 rfl ?_
  refine ia_getTens (pc := 97) F il_RJ6_87 dJ6_getChars_ba4f3_97 ?_
  refine ia_iload_n (pc := 100) F dJ6_getChars_ba4f3_100 rfl ?_
  refine ia_ineg (pc := 101) F dJ6_getChars_ba4f3_101 ?_
  refine ia_atTens (pc := 102) F ((-(-v)).toNat) (by omega) (by omega) dJ6_getChars_ba4f3_102 ?_
  refine jsb (pc := 103) F zq n rfl (by omega) (by omega) dJ6_getChars_ba4f3_103 ?_
  refine ia_iload (pc := 104) F dJ6_getChars_ba4f3_104 rfl ?_
  refine ia_if_eq (pc := 106) F 118 dJ6_getChars_ba4f3_106 rfl (by omega) (fun _ => ?_) (fun h9 => absurd h9 (by omega))
  refine ia_iload (pc := 118) F dJ6_getChars_ba4f3_118 rfl ?_
  refine ia_ireturn (pc := 120) F M (by decide) (by decide) dJ6_getChars_ba4f3_120 ?_
  have w9 : (ia_u (ia_u V q (n + 1) ((48 + (-(-v)).toNat % 10 : Nat) : Int)) q n ((48 + (-(-v)).toNat / 10 : Nat) : Int)) q = (up (up (V q) (n + 1) (48 + v % 10)) (n) (48 + v / 10)) := (rowU (rowU (rfl : V q = V q))).trans (by rw [show ((48 + (-(-v)).toNat % 10 : Nat) : Int) = (48 + v % 10) from by omega, show ((48 + (-(-v)).toNat / 10 : Nat) : Int) = (48 + v / 10) from by omega])
  rw [wd_a2 (by omega)] at w9
  exact q1 _ w9 (fun p hp => by rw [rowN hp, rowN hp])
set_option maxRecDepth 100000 in
theorem c_J6_chars3 {Z : ia_Z} {V : ia_H} {Q : ia_O → ia_Z → ia_H → Prop} (n e q L : Nat) (v : Int)   (hv : 100 ≤ v ∧ v ≤ 999) (he : e = n + 3) (zq : q < Z.2.2 ∧ Z.1 q = 3 ∧ Z.2.1 q = L) (hl : n + 3 ≤ L ∧ L ≤ 1000) (q1 : ∀ (V1 : ia_H), (V1 q = wd_a (V q) n v) → (∀ p, p ≠ q → V1 p = V p) → Q (.inl (some (0, (n : Int)))) Z V1) : ia_K yJ6_getChars_ba4f3 cJ6_getChars_ba4f3 7 (some .int) [(0, v), (0, (e : Int)), (4, ((q : Nat) : Int))] Z V 1 0 0 Q := by
  refine ia_start RJ6 "getChars" ⟨by decide, rfl, rfl⟩ (Nat.le_of_ble_eq_true rfl) (ia_tg rfl) (fun X F M => ?_)
  show ia_G X 0 0 0 [(0, v), (0, (e : Int)), (4, ((q : Nat) : Int)), (9, 0), (9, 0), (9, 0), (9, 0)] [] Z V
  subst he
  refine ia_iload_n (pc := 0) F dJ6_getChars_ba4f3_0 rfl ?_
  refine ia_istore (pc := 1) F (ls' := [(0, v), (0, ((n + 3 : Nat) : Int)), (4, ((q : Nat) : Int)), (9, 0), (9, 0), (0, ((n + 3 : Nat) : Int)), (9, 0)]) dJ6_getChars_ba4f3_1 (Nat.le_of_ble_eq_true rfl) rfl rfl ?_
  refine ia_iload_n (pc := 3) F dJ6_getChars_ba4f3_3 rfl ?_
  refine ia_if_ge (pc := 4) F 11 dJ6_getChars_ba4f3_4 rfl (by omega) (fun _ => ?_) (fun h9 => absurd h9 (by omega))
  refine ia_iconst (pc := 11) F dJ6_getChars_ba4f3_11 ?_
  refine ia_istore (pc := 12) F (ls' := [(0, v), (0, ((n + 3 : Nat) : Int)), (4, ((q : Nat) : Int)), (9, 0), (9, 0), (0, ((n + 3 : Nat) : Int)), (0, 0)]) dJ6_getChars_ba4f3_12 (Nat.le_of_ble_eq_true rfl) rfl rfl ?_
  refine ia_iload (pc := 14) F dJ6_getChars_ba4f3_14 rfl ?_
  refine ia_if_ne (pc := 16) F 22 dJ6_getChars_ba4f3_16 rfl (by omega) (fun h9 => absurd h9 (by omega)) (fun _ => ?_)
  refine ia_iload_n (pc := 19) F dJ6_getChars_ba4f3_19 rfl ?_
  refine ia_ineg (pc := 20) F dJ6_getChars_ba4f3_20 ?_
  refine ia_istore_n (pc := 21) F (ls' := [(0, (-v)), (0, ((n + 3 : Nat) : Int)), (4, ((q : Nat) : Int)), (9, 0), (9, 0), (0, ((n + 3 : Nat) : Int)), (0, 0)]) dJ6_getChars_ba4f3_21 (Nat.le_of_ble_eq_true rfl) rfl rfl ?_
  refine ia_iload_n (pc := 22) F dJ6_getChars_ba4f3_22 rfl ?_
  refine ia_bipush (pc := 23) F dJ6_getChars_ba4f3_23 (by decide) ?_
  refine ia_icmp_gt (pc := 25) F 72 dJ6_getChars_ba4f3_25 rfl (by omega) (by omega) (fun h9 => absurd h9 (by omega)) (fun _ => ?_)
  refine ia_iload_n (pc := 28) F dJ6_getChars_ba4f3_28 rfl ?_
  refine ia_bipush (pc := 29) F dJ6_getChars_ba4f3_29 (by decide) ?_
  refine ia_idivN (pc := 31) F dJ6_getChars_ba4f3_31 (by omega) ?_
  refine ia_istore_n (pc := 32) F (ls' := [(0, (-v)), (0, ((n + 3 : Nat) : Int)), (4, ((q : Nat) : Int)), (0, (-(v / 100))), (9, 0), (0, ((n + 3 : Nat) : Int)), (0, 0)]) dJ6_getChars_ba4f3_32 (Nat.le_of_ble_eq_true rfl) rfl rfl ?_
  refine ia_iload_n (pc := 33) F dJ6_getChars_ba4f3_33 rfl ?_
  refine ia_bipush (pc := 34) F dJ6_getChars_ba4f3_34 (by decide) ?_
  refine ia_imul (pc := 36) F dJ6_getChars_ba4f3_36 ?_
  refine ia_iload_n (pc := 37) F dJ6_getChars_ba4f3_37 rfl ?_
  refine ia_isub (pc := 38) F dJ6_getChars_ba4f3_38 ?_
  refine ia_istore (pc := 39) F (ls' := [(0, (-v)), (0, ((n + 3 : Nat) : Int)), (4, ((q : Nat) : Int)), (0, (-(v / 100))), (0, (((-(v / 100)) * 100) - (-v))), (0, ((n + 3 : Nat) : Int)), (0, 0)]) dJ6_getChars_ba4f3_39 (Nat.le_of_ble_eq_true rfl) rfl rfl ?_
  refine ia_iload_n (pc := 41) F dJ6_getChars_ba4f3_41 rfl ?_
  refine ia_istore_n (pc := 42) F (ls' := [(0, (-(v / 100))), (0, ((n + 3 : Nat) : Int)), (4, ((q : Nat) : Int)), (0, (-(v / 100))), (0, (((-(v / 100)) * 100) - (-v))), (0, ((n + 3 : Nat) : Int)), (0, 0)]) dJ6_getChars_ba4f3_42 (Nat.le_of_ble_eq_true rfl) rfl rfl ?_
  refine ia_aload_n (pc := 43) F dJ6_getChars_ba4f3_43 rfl ?_
  refine ia_iinc (pc := 44) F (ls' := [(0, (-(v / 100))), (0, ((n + 3 : Nat) : Int)), (4, ((q : Nat) : Int)), (0, (-(v / 100))), (0, (((-(v / 100)) * 100) - (-v))), (0, ((n + 2 : Nat) : Int)), (0, 0)]) dJ6_getChars_ba4f3_44 rfl (by omega) rfl rfl ?_
  refine ia_iload (pc := 47) F dJ6_getChars_ba4f3_47 rfl ?_
  refine ia_getOnes (pc := 49) F il_RJ6_83 dJ6_getChars_ba4f3_49 ?_
  refine ia_iload (pc := 52) F dJ6_getChars_ba4f3_52 rfl ?_
  refine ia_atOnes (pc := 54) F ((((-(v / 100)) * 100) - (-v)).toNat) (by omega) (by omega) dJ6_getChars_ba4f3_54 ?_
  refine jsb (pc := 55) F zq (n + 2) rfl (by omega) (by omega) dJ6_getChars_ba4f3_55 ?_
  refine ia_aload_n (pc := 56) F dJ6_getChars_ba4f3_56 rfl ?_
  refine ia_iinc (pc := 57) F (ls' := [(0, (-(v / 100))), (0, ((n + 3 : Nat) : Int)), (4, ((q : Nat) : Int)), (0, (-(v / 100))), (0, (((-(v / 100)) * 100) - (-v))), (0, ((n + 1 : Nat) : Int)), (0, 0)]) dJ6_getChars_ba4f3_57 rfl (by omega) rfl rfl ?_
  refine ia_iload (pc := 60) F dJ6_getChars_ba4f3_60 rfl ?_
  refine ia_getTens (pc := 62) F il_RJ6_87 dJ6_getChars_ba4f3_62 ?_
  refine ia_iload (pc := 65) F dJ6_getChars_ba4f3_65 rfl ?_
  refine ia_atTens (pc := 67) F ((((-(v / 100)) * 100) - (-v)).toNat) (by omega) (by omega) dJ6_getChars_ba4f3_67 ?_
  refine jsb (pc := 68) F zq (n + 1) rfl (by omega) (by omega) dJ6_getChars_ba4f3_68 ?_
  refine ia_goto (pc := 69) F 22 dJ6_getChars_ba4f3_69 rfl ?_
  refine ia_iload_n (pc := 22) F dJ6_getChars_ba4f3_22 rfl ?_
  refine ia_bipush (pc := 23) F dJ6_getChars_ba4f3_23 (by decide) ?_
  refine ia_icmp_gt (pc := 25) F 72 dJ6_getChars_ba4f3_25 rfl (by omega) (by omega) (fun _ => ?_) (fun h9 => absurd h9 (by omega))
  refine ia_aload_n (pc := 72) F dJ6_getChars_ba4f3_72 rfl ?_
  refine ia_iinc (pc := 73) F (ls' := [(0, (-(v / 100))), (0, ((n + 3 : Nat) : Int)), (4, ((q : Nat) : Int)), (0, (-(v / 100))), (0, (((-(v / 100)) * 100) - (-v))), (0, (n : Int)), (0, 0)]) dJ6_getChars_ba4f3_73 rfl (by omega) rfl rfl ?_
  refine ia_iload (pc := 76) F dJ6_getChars_ba4f3_76 rfl ?_
  refine ia_getOnes (pc := 78) F il_RJ6_83 dJ6_getChars_ba4f3_78 ?_
  refine ia_iload_n (pc := 81) F dJ6_getChars_ba4f3_81 rfl ?_
  refine ia_ineg (pc := 82) F dJ6_getChars_ba4f3_82 ?_
  refine ia_atOnes (pc := 83) F ((-(-(v / 100))).toNat) (by omega) (by omega) dJ6_getChars_ba4f3_83 ?_
  refine jsb (pc := 84) F zq n rfl (by omega) (by omega) dJ6_getChars_ba4f3_84 ?_
  refine ia_iload_n (pc := 85) F dJ6_getChars_ba4f3_85 rfl ?_
  refine ia_bipush (pc := 86) F dJ6_getChars_ba4f3_86 (by decide) ?_
  refine ia_icmp_ge (pc := 88) F 104 dJ6_getChars_ba4f3_88 rfl (by omega) (by omega) (fun _ => ?_) (fun h9 => absurd h9 (by omega))
  refine ia_iload (pc := 104) F dJ6_getChars_ba4f3_104 rfl ?_
  refine ia_if_eq (pc := 106) F 118 dJ6_getChars_ba4f3_106 rfl (by omega) (fun _ => ?_) (fun h9 => absurd h9 (by omega))
  refine ia_iload (pc := 118) F dJ6_getChars_ba4f3_118 rfl ?_
  refine ia_ireturn (pc := 120) F M (by decide) (by decide) dJ6_getChars_ba4f3_120 ?_
  have w9 : (ia_u (ia_u (ia_u V q (n + 2) ((48 + ((((-(v / 100)) * 100) - (-v)).toNat) % 10 : Nat) : Int)) q (n + 1) ((48 + ((((-(v / 100)) * 100) - (-v)).toNat) / 10 : Nat) : Int)) q n ((48 + ((-(-(v / 100))).toNat) % 10 : Nat) : Int)) q = (up (up (up (V q) (n + 2) (48 + v % 10)) (n + 1) (48 + v / 10 % 10)) (n) (48 + v / 100)) := (rowU (rowU (rowU (rfl : V q = V q)))).trans (by rw [show ((48 + ((((-(v / 100)) * 100) - (-v)).toNat) % 10 : Nat) : Int) = (48 + v % 10) from by omega, show ((48 + ((((-(v / 100)) * 100) - (-v)).toNat) / 10 : Nat) : Int) = (48 + v / 10 % 10) from by omega, show ((48 + ((-(-(v / 100))).toNat) % 10 : Nat) : Int) = (48 + v / 100) from by omega])
  rw [wd_a3 (by omega)] at w9
  exact q1 _ w9 (fun p hp => by rw [rowN hp, rowN hp, rowN hp])
set_option maxRecDepth 100000 in
theorem c_J5_appendI {Z : ia_Z} {V : ia_H} {Q : ia_O → ia_Z → ia_H → Prop} (b q n L : Nat) (t : Nat → Int) (v : Int)   (hB : SB b Z V n t q L) (hv : 0 ≤ v ∧ v ≤ 999) (hn : n ≤ 90) (hz : 116 ≤ Z.2.2 ∧ Z.2.2 < 900000) (q1 : ∀ (Z1 : ia_Z) (V1 : ia_H) (q1 L1 : Nat), (SB b Z1 V1 (n + wd_n v) (wd_a t n v) q1 L1) → (BX b 1 Z V Z1 V1) → Q (.inl (some (4, ((b : Nat) : Int)))) Z1 V1) : ia_K yJ5_append_c97b9 cJ5_append_c97b9 4 (some (.object "java/lang/AbstractStringBuilder")) [(4, ((b : Nat) : Int)), (0, v)] Z V 5 1 300 Q := by
  refine ia_start RJ5 "append" ⟨by decide, rfl, rfl⟩ (Nat.le_of_ble_eq_true rfl) (ia_tg rfl) (fun X F M => ?_)
  show ia_G X 0 0 0 [(4, ((b : Nat) : Int)), (0, v), (9, 0), (9, 0)] [] Z V
  obtain ⟨zb, zq, e0, e1, e3, hnL, ht, hr, hqq⟩ := id hB
  have hbq : b ≠ q := fun e => by have h1 := zb.2.1; have h2 := zq.2.1; rw [e] at h1; omega
  refine ia_aload_n (pc := 0) F dJ5_append_c97b9_0 rfl ?_
  refine jg (pc := 1) F (x := (n : Int)) zb cls1 f1_3 e3 il_RJ5_79 dJ5_append_c97b9_1 ?_
  refine ia_istore_n (pc := 4) F (ls' := [(4, ((b : Nat) : Int)), (0, v), (0, (n : Int)), (9, 0)]) dJ5_append_c97b9_4 (Nat.le_of_ble_eq_true rfl) rfl rfl ?_
  refine ia_iload_n (pc := 5) F dJ5_append_c97b9_5 rfl ?_
  refine ia_iload_n (pc := 6) F dJ5_append_c97b9_6 rfl ?_
  rcases (show v < 10 ∨ (10 ≤ v ∧ v < 100) ∨ 100 ≤ v by omega) with hd | hd | hd
  · have hk : wd_n v = 1 := wd_n1 hd
    refine jS2 (pc := 7) F 0 0 (c_J6_size1 v (by omega) ?_) rfl ⟨k_J6_stringSize_0f7a4, il_RJ5_245, it_J6_stringSize_0f7a4, ii_RJ6⟩ 1 rfl hd_J6_stringSize_0f7a4 ⟨by decide, by decide, by decide, by decide, Nat.le_of_ble_eq_true rfl⟩ dJ5_append_c97b9_7
    refine j1 ?_
    refine ia_iadd (pc := 10) F dJ5_append_c97b9_10 ?_
    refine ia_istore_n (pc := 11) F (ls' := [(4, ((b : Nat) : Int)), (0, v), (0, (n : Int)), (0, ((n : Int) + 1))]) dJ5_append_c97b9_11 (Nat.le_of_ble_eq_true rfl) rfl rfl ?_
    refine ia_aload_n (pc := 12) F dJ5_append_c97b9_12 rfl ?_
    refine ia_iload_n (pc := 13) F dJ5_append_c97b9_13 rfl ?_
    refine jU (pc := 14) F 1 300 zb cls1.1 (c_J5_ensureCapacityInternal b q n L t ((n : Int) + 1) hB (by omega) (by omega) (fun h_1 => ?_) (fun Z1_2 V1_3 q1_4 L1_5 h_6 h_7 h_8 h_9 => ?_)) rfl ⟨k_J5_ensureCapacityInternal_d00df, il_RJ5_100, im_J5_ensureCapacityInternal_d00df, ii_RJ5⟩ (jse_ens F) 1 rfl hd_J5_ensureCapacityInternal_d00df ⟨by decide, by decide, by decide, by decide, Nat.le_of_ble_eq_true rfl⟩ dJ5_append_c97b9_14
    · refine j0 ?_
      refine ia_aload_n (pc := 17) F dJ5_append_c97b9_17 rfl ?_
      refine jU (pc := 18) F 1 300 zb cls1.1 (c_J5_isLatin1 b q n L t hB ?_) rfl ⟨k_J5_isLatin1_aae02, il_RJ5_83, im_J5_isLatin1_aae02, ii_RJ5⟩ (jse_lat F) 0 rfl hd_J5_isLatin1_aae02 ⟨by decide, by decide, by decide, by decide, Nat.le_of_ble_eq_true rfl⟩ dJ5_append_c97b9_18
      refine j1 ?_
      refine ia_if_eq (pc := 21) F 37 dJ5_append_c97b9_21 rfl (by omega) (fun h9 => absurd h9 (by omega)) (fun _ => ?_)
      refine ia_iload_n (pc := 24) F dJ5_append_c97b9_24 rfl ?_
      refine ia_iload_n (pc := 25) F dJ5_append_c97b9_25 rfl ?_
      refine ia_aload_n (pc := 26) F dJ5_append_c97b9_26 rfl ?_
      refine jg (pc := 27) F zb cls1 f1_0 e0 il_RJ5_15 dJ5_append_c97b9_27 ?_
      refine jS2 (pc := 30) F 1 300 (c_J6_chars1 n (n + 1) q L v (by omega) rfl zq (by omega) (fun V1_10 h_11 h_12 => ?_)) rfl ⟨k_J6_getChars_ba4f3, il_RJ5_248, it_J6_getChars_ba4f3, ii_RJ6⟩ 3 rfl hd_J6_getChars_ba4f3 ⟨by decide, by decide, by decide, by decide, Nat.le_of_ble_eq_true rfl⟩ dJ5_append_c97b9_30
      refine j1 ?_
      refine ia_pop (pc := 33) F dJ5_append_c97b9_33 (Or.inl rfl) ?_
      refine ia_goto (pc := 34) F 48 dJ5_append_c97b9_34 rfl ?_
      refine ia_aload_n (pc := 48) F dJ5_append_c97b9_48 rfl ?_
      refine ia_iload_n (pc := 49) F dJ5_append_c97b9_49 rfl ?_
      refine jp (pc := 50) F zb cls1 f1_3 rfl (ia_nI rfl _) il_RJ5_79 dJ5_append_c97b9_50 ?_
      refine ia_aload_n (pc := 53) F dJ5_append_c97b9_53 rfl ?_
      refine ia_areturn (pc := 54) F M (Or.inl ⟨_, rfl⟩) (by decide) (by decide) dJ5_append_c97b9_54 ?_
      exact q1 _ _ _ _ (SB_num hB (by omega) ((ia_u_ne (Or.inr (by decide))).trans ((congrFun (h_12 b hbq) 0).trans e0)) ((ia_u_ne (Or.inr (by decide))).trans ((congrFun (h_12 b hbq) 1).trans e1)) ((ia_u_self _ _ _ _).trans (by rw [hk] <;> omega)) ((rowN (by first | assumption | omega)).trans h_11)) (BX_le (BX_ub (BX_qr BX_rf e0 hbq h_12) (by decide)) (by decide))
    · obtain ⟨zb, zq, e0, e1, e3, hnL, ht, hr, hqq⟩ := id h_7
      have hbq : b ≠ q1_4 := fun e => by have h1 := zb.2.1; have h2 := zq.2.1; rw [e] at h1; omega
      refine j0 ?_
      refine ia_aload_n (pc := 17) F dJ5_append_c97b9_17 rfl ?_
      refine jU (pc := 18) F 1 300 zb cls1.1 (c_J5_isLatin1 b q1_4 n L1_5 t h_7 ?_) rfl ⟨k_J5_isLatin1_aae02, il_RJ5_83, im_J5_isLatin1_aae02, ii_RJ5⟩ (jse_lat F) 0 rfl hd_J5_isLatin1_aae02 ⟨by decide, by decide, by decide, by decide, Nat.le_of_ble_eq_true rfl⟩ dJ5_append_c97b9_18
      refine j1 ?_
      refine ia_if_eq (pc := 21) F 37 dJ5_append_c97b9_21 rfl (by omega) (fun h9 => absurd h9 (by omega)) (fun _ => ?_)
      refine ia_iload_n (pc := 24) F dJ5_append_c97b9_24 rfl ?_
      refine ia_iload_n (pc := 25) F dJ5_append_c97b9_25 rfl ?_
      refine ia_aload_n (pc := 26) F dJ5_append_c97b9_26 rfl ?_
      refine jg (pc := 27) F zb cls1 f1_0 e0 il_RJ5_15 dJ5_append_c97b9_27 ?_
      refine jS2 (pc := 30) F 1 300 (c_J6_chars1 n (n + 1) q1_4 L1_5 v (by omega) rfl zq (by omega) (fun V1_13 h_14 h_15 => ?_)) rfl ⟨k_J6_getChars_ba4f3, il_RJ5_248, it_J6_getChars_ba4f3, ii_RJ6⟩ 3 rfl hd_J6_getChars_ba4f3 ⟨by decide, by decide, by decide, by decide, Nat.le_of_ble_eq_true rfl⟩ dJ5_append_c97b9_30
      refine j1 ?_
      refine ia_pop (pc := 33) F dJ5_append_c97b9_33 (Or.inl rfl) ?_
      refine ia_goto (pc := 34) F 48 dJ5_append_c97b9_34 rfl ?_
      refine ia_aload_n (pc := 48) F dJ5_append_c97b9_48 rfl ?_
      refine ia_iload_n (pc := 49) F dJ5_append_c97b9_49 rfl ?_
      refine jp (pc := 50) F zb cls1 f1_3 rfl (ia_nI rfl _) il_RJ5_79 dJ5_append_c97b9_50 ?_
      refine ia_aload_n (pc := 53) F dJ5_append_c97b9_53 rfl ?_
      refine ia_areturn (pc := 54) F M (Or.inl ⟨_, rfl⟩) (by decide) (by decide) dJ5_append_c97b9_54 ?_
      exact q1 _ _ _ _ (SB_num h_7 (by omega) ((ia_u_ne (Or.inr (by decide))).trans ((congrFun (h_15 b hbq) 0).trans e0)) ((ia_u_ne (Or.inr (by decide))).trans ((congrFun (h_15 b hbq) 1).trans e1)) ((ia_u_self _ _ _ _).trans (by rw [hk] <;> omega)) ((rowN (by first | assumption | omega)).trans h_14)) (BX_ub (BX_qr (BX_trans BX_rf h_8) e0 hbq h_15) (by decide))
  · have hk : wd_n v = 2 := wd_n2 hd.1 hd.2
    refine jS2 (pc := 7) F 0 0 (c_J6_size2 v (by omega) ?_) rfl ⟨k_J6_stringSize_0f7a4, il_RJ5_245, it_J6_stringSize_0f7a4, ii_RJ6⟩ 1 rfl hd_J6_stringSize_0f7a4 ⟨by decide, by decide, by decide, by decide, Nat.le_of_ble_eq_true rfl⟩ dJ5_append_c97b9_7
    refine j1 ?_
    refine ia_iadd (pc := 10) F dJ5_append_c97b9_10 ?_
    refine ia_istore_n (pc := 11) F (ls' := [(4, ((b : Nat) : Int)), (0, v), (0, (n : Int)), (0, ((n : Int) + 2))]) dJ5_append_c97b9_11 (Nat.le_of_ble_eq_true rfl) rfl rfl ?_
    refine ia_aload_n (pc := 12) F dJ5_append_c97b9_12 rfl ?_
    refine ia_iload_n (pc := 13) F dJ5_append_c97b9_13 rfl ?_
    refine jU (pc := 14) F 1 300 zb cls1.1 (c_J5_ensureCapacityInternal b q n L t ((n : Int) + 2) hB (by omega) (by omega) (fun h_16 => ?_) (fun Z1_17 V1_18 q1_19 L1_20 h_21 h_22 h_23 h_24 => ?_)) rfl ⟨k_J5_ensureCapacityInternal_d00df, il_RJ5_100, im_J5_ensureCapacityInternal_d00df, ii_RJ5⟩ (jse_ens F) 1 rfl hd_J5_ensureCapacityInternal_d00df ⟨by decide, by decide, by decide, by decide, Nat.le_of_ble_eq_true rfl⟩ dJ5_append_c97b9_14
    · refine j0 ?_
      refine ia_aload_n (pc := 17) F dJ5_append_c97b9_17 rfl ?_
      refine jU (pc := 18) F 1 300 zb cls1.1 (c_J5_isLatin1 b q n L t hB ?_) rfl ⟨k_J5_isLatin1_aae02, il_RJ5_83, im_J5_isLatin1_aae02, ii_RJ5⟩ (jse_lat F) 0 rfl hd_J5_isLatin1_aae02 ⟨by decide, by decide, by decide, by decide, Nat.le_of_ble_eq_true rfl⟩ dJ5_append_c97b9_18
      refine j1 ?_
      refine ia_if_eq (pc := 21) F 37 dJ5_append_c97b9_21 rfl (by omega) (fun h9 => absurd h9 (by omega)) (fun _ => ?_)
      refine ia_iload_n (pc := 24) F dJ5_append_c97b9_24 rfl ?_
      refine ia_iload_n (pc := 25) F dJ5_append_c97b9_25 rfl ?_
      refine ia_aload_n (pc := 26) F dJ5_append_c97b9_26 rfl ?_
      refine jg (pc := 27) F zb cls1 f1_0 e0 il_RJ5_15 dJ5_append_c97b9_27 ?_
      refine jS2 (pc := 30) F 1 300 (c_J6_chars2 n (n + 2) q L v (by omega) rfl zq (by omega) (fun V1_25 h_26 h_27 => ?_)) rfl ⟨k_J6_getChars_ba4f3, il_RJ5_248, it_J6_getChars_ba4f3, ii_RJ6⟩ 3 rfl hd_J6_getChars_ba4f3 ⟨by decide, by decide, by decide, by decide, Nat.le_of_ble_eq_true rfl⟩ dJ5_append_c97b9_30
      refine j1 ?_
      refine ia_pop (pc := 33) F dJ5_append_c97b9_33 (Or.inl rfl) ?_
      refine ia_goto (pc := 34) F 48 dJ5_append_c97b9_34 rfl ?_
      refine ia_aload_n (pc := 48) F dJ5_append_c97b9_48 rfl ?_
      refine ia_iload_n (pc := 49) F dJ5_append_c97b9_49 rfl ?_
      refine jp (pc := 50) F zb cls1 f1_3 rfl (ia_nI rfl _) il_RJ5_79 dJ5_append_c97b9_50 ?_
      refine ia_aload_n (pc := 53) F dJ5_append_c97b9_53 rfl ?_
      refine ia_areturn (pc := 54) F M (Or.inl ⟨_, rfl⟩) (by decide) (by decide) dJ5_append_c97b9_54 ?_
      exact q1 _ _ _ _ (SB_num hB (by omega) ((ia_u_ne (Or.inr (by decide))).trans ((congrFun (h_27 b hbq) 0).trans e0)) ((ia_u_ne (Or.inr (by decide))).trans ((congrFun (h_27 b hbq) 1).trans e1)) ((ia_u_self _ _ _ _).trans (by rw [hk] <;> omega)) ((rowN (by first | assumption | omega)).trans h_26)) (BX_le (BX_ub (BX_qr BX_rf e0 hbq h_27) (by decide)) (by decide))
    · obtain ⟨zb, zq, e0, e1, e3, hnL, ht, hr, hqq⟩ := id h_22
      have hbq : b ≠ q1_19 := fun e => by have h1 := zb.2.1; have h2 := zq.2.1; rw [e] at h1; omega
      refine j0 ?_
      refine ia_aload_n (pc := 17) F dJ5_append_c97b9_17 rfl ?_
      refine jU (pc := 18) F 1 300 zb cls1.1 (c_J5_isLatin1 b q1_19 n L1_20 t h_22 ?_) rfl ⟨k_J5_isLatin1_aae02, il_RJ5_83, im_J5_isLatin1_aae02, ii_RJ5⟩ (jse_lat F) 0 rfl hd_J5_isLatin1_aae02 ⟨by decide, by decide, by decide, by decide, Nat.le_of_ble_eq_true rfl⟩ dJ5_append_c97b9_18
      refine j1 ?_
      refine ia_if_eq (pc := 21) F 37 dJ5_append_c97b9_21 rfl (by omega) (fun h9 => absurd h9 (by omega)) (fun _ => ?_)
      refine ia_iload_n (pc := 24) F dJ5_append_c97b9_24 rfl ?_
      refine ia_iload_n (pc := 25) F dJ5_append_c97b9_25 rfl ?_
      refine ia_aload_n (pc := 26) F dJ5_append_c97b9_26 rfl ?_
      refine jg (pc := 27) F zb cls1 f1_0 e0 il_RJ5_15 dJ5_append_c97b9_27 ?_
      refine jS2 (pc := 30) F 1 300 (c_J6_chars2 n (n + 2) q1_19 L1_20 v (by omega) rfl zq (by omega) (fun V1_28 h_29 h_30 => ?_)) rfl ⟨k_J6_getChars_ba4f3, il_RJ5_248, it_J6_getChars_ba4f3, ii_RJ6⟩ 3 rfl hd_J6_getChars_ba4f3 ⟨by decide, by decide, by decide, by decide, Nat.le_of_ble_eq_true rfl⟩ dJ5_append_c97b9_30
      refine j1 ?_
      refine ia_pop (pc := 33) F dJ5_append_c97b9_33 (Or.inl rfl) ?_
      refine ia_goto (pc := 34) F 48 dJ5_append_c97b9_34 rfl ?_
      refine ia_aload_n (pc := 48) F dJ5_append_c97b9_48 rfl ?_
      refine ia_iload_n (pc := 49) F dJ5_append_c97b9_49 rfl ?_
      refine jp (pc := 50) F zb cls1 f1_3 rfl (ia_nI rfl _) il_RJ5_79 dJ5_append_c97b9_50 ?_
      refine ia_aload_n (pc := 53) F dJ5_append_c97b9_53 rfl ?_
      refine ia_areturn (pc := 54) F M (Or.inl ⟨_, rfl⟩) (by decide) (by decide) dJ5_append_c97b9_54 ?_
      exact q1 _ _ _ _ (SB_num h_22 (by omega) ((ia_u_ne (Or.inr (by decide))).trans ((congrFun (h_30 b hbq) 0).trans e0)) ((ia_u_ne (Or.inr (by decide))).trans ((congrFun (h_30 b hbq) 1).trans e1)) ((ia_u_self _ _ _ _).trans (by rw [hk] <;> omega)) ((rowN (by first | assumption | omega)).trans h_29)) (BX_ub (BX_qr (BX_trans BX_rf h_23) e0 hbq h_30) (by decide))
  · have hk : wd_n v = 3 := wd_n3 hd
    refine jS2 (pc := 7) F 0 0 (c_J6_size3 v (by omega) ?_) rfl ⟨k_J6_stringSize_0f7a4, il_RJ5_245, it_J6_stringSize_0f7a4, ii_RJ6⟩ 1 rfl hd_J6_stringSize_0f7a4 ⟨by decide, by decide, by decide, by decide, Nat.le_of_ble_eq_true rfl⟩ dJ5_append_c97b9_7
    refine j1 ?_
    refine ia_iadd (pc := 10) F dJ5_append_c97b9_10 ?_
    refine ia_istore_n (pc := 11) F (ls' := [(4, ((b : Nat) : Int)), (0, v), (0, (n : Int)), (0, ((n : Int) + 3))]) dJ5_append_c97b9_11 (Nat.le_of_ble_eq_true rfl) rfl rfl ?_
    refine ia_aload_n (pc := 12) F dJ5_append_c97b9_12 rfl ?_
    refine ia_iload_n (pc := 13) F dJ5_append_c97b9_13 rfl ?_
    refine jU (pc := 14) F 1 300 zb cls1.1 (c_J5_ensureCapacityInternal b q n L t ((n : Int) + 3) hB (by omega) (by omega) (fun h_31 => ?_) (fun Z1_32 V1_33 q1_34 L1_35 h_36 h_37 h_38 h_39 => ?_)) rfl ⟨k_J5_ensureCapacityInternal_d00df, il_RJ5_100, im_J5_ensureCapacityInternal_d00df, ii_RJ5⟩ (jse_ens F) 1 rfl hd_J5_ensureCapacityInternal_d00df ⟨by decide, by decide, by decide, by decide, Nat.le_of_ble_eq_true rfl⟩ dJ5_append_c97b9_14
    · refine j0 ?_
      refine ia_aload_n (pc := 17) F dJ5_append_c97b9_17 rfl ?_
      refine jU (pc := 18) F 1 300 zb cls1.1 (c_J5_isLatin1 b q n L t hB ?_) rfl ⟨k_J5_isLatin1_aae02, il_RJ5_83, im_J5_isLatin1_aae02, ii_RJ5⟩ (jse_lat F) 0 rfl hd_J5_isLatin1_aae02 ⟨by decide, by decide, by decide, by decide, Nat.le_of_ble_eq_true rfl⟩ dJ5_append_c97b9_18
      refine j1 ?_
      refine ia_if_eq (pc := 21) F 37 dJ5_append_c97b9_21 rfl (by omega) (fun h9 => absurd h9 (by omega)) (fun _ => ?_)
      refine ia_iload_n (pc := 24) F dJ5_append_c97b9_24 rfl ?_
      refine ia_iload_n (pc := 25) F dJ5_append_c97b9_25 rfl ?_
      refine ia_aload_n (pc := 26) F dJ5_append_c97b9_26 rfl ?_
      refine jg (pc := 27) F zb cls1 f1_0 e0 il_RJ5_15 dJ5_append_c97b9_27 ?_
      refine jS2 (pc := 30) F 1 300 (c_J6_chars3 n (n + 3) q L v (by omega) rfl zq (by omega) (fun V1_40 h_41 h_42 => ?_)) rfl ⟨k_J6_getChars_ba4f3, il_RJ5_248, it_J6_getChars_ba4f3, ii_RJ6⟩ 3 rfl hd_J6_getChars_ba4f3 ⟨by decide, by decide, by decide, by decide, Nat.le_of_ble_eq_true rfl⟩ dJ5_append_c97b9_30
      refine j1 ?_
      refine ia_pop (pc := 33) F dJ5_append_c97b9_33 (Or.inl rfl) ?_
      refine ia_goto (pc := 34) F 48 dJ5_append_c97b9_34 rfl ?_
      refine ia_aload_n (pc := 48) F dJ5_append_c97b9_48 rfl ?_
      refine ia_iload_n (pc := 49) F dJ5_append_c97b9_49 rfl ?_
      refine jp (pc := 50) F zb cls1 f1_3 rfl (ia_nI rfl _) il_RJ5_79 dJ5_append_c97b9_50 ?_
      refine ia_aload_n (pc := 53) F dJ5_append_c97b9_53 rfl ?_
      refine ia_areturn (pc := 54) F M (Or.inl ⟨_, rfl⟩) (by decide) (by decide) dJ5_append_c97b9_54 ?_
      exact q1 _ _ _ _ (SB_num hB (by omega) ((ia_u_ne (Or.inr (by decide))).trans ((congrFun (h_42 b hbq) 0).trans e0)) ((ia_u_ne (Or.inr (by decide))).trans ((congrFun (h_42 b hbq) 1).trans e1)) ((ia_u_self _ _ _ _).trans (by rw [hk] <;> omega)) ((rowN (by first | assumption | omega)).trans h_41)) (BX_le (BX_ub (BX_qr BX_rf e0 hbq h_42) (by decide)) (by decide))
    · obtain ⟨zb, zq, e0, e1, e3, hnL, ht, hr, hqq⟩ := id h_37
      have hbq : b ≠ q1_34 := fun e => by have h1 := zb.2.1; have h2 := zq.2.1; rw [e] at h1; omega
      refine j0 ?_
      refine ia_aload_n (pc := 17) F dJ5_append_c97b9_17 rfl ?_
      refine jU (pc := 18) F 1 300 zb cls1.1 (c_J5_isLatin1 b q1_34 n L1_35 t h_37 ?_) rfl ⟨k_J5_isLatin1_aae02, il_RJ5_83, im_J5_isLatin1_aae02, ii_RJ5⟩ (jse_lat F) 0 rfl hd_J5_isLatin1_aae02 ⟨by decide, by decide, by decide, by decide, Nat.le_of_ble_eq_true rfl⟩ dJ5_append_c97b9_18
      refine j1 ?_
      refine ia_if_eq (pc := 21) F 37 dJ5_append_c97b9_21 rfl (by omega) (fun h9 => absurd h9 (by omega)) (fun _ => ?_)
      refine ia_iload_n (pc := 24) F dJ5_append_c97b9_24 rfl ?_
      refine ia_iload_n (pc := 25) F dJ5_append_c97b9_25 rfl ?_
      refine ia_aload_n (pc := 26) F dJ5_append_c97b9_26 rfl ?_
      refine jg (pc := 27) F zb cls1 f1_0 e0 il_RJ5_15 dJ5_append_c97b9_27 ?_
      refine jS2 (pc := 30) F 1 300 (c_J6_chars3 n (n + 3) q1_34 L1_35 v (by omega) rfl zq (by omega) (fun V1_43 h_44 h_45 => ?_)) rfl ⟨k_J6_getChars_ba4f3, il_RJ5_248, it_J6_getChars_ba4f3, ii_RJ6⟩ 3 rfl hd_J6_getChars_ba4f3 ⟨by decide, by decide, by decide, by decide, Nat.le_of_ble_eq_true rfl⟩ dJ5_append_c97b9_30
      refine j1 ?_
      refine ia_pop (pc := 33) F dJ5_append_c97b9_33 (Or.inl rfl) ?_
      refine ia_goto (pc := 34) F 48 dJ5_append_c97b9_34 rfl ?_
      refine ia_aload_n (pc := 48) F dJ5_append_c97b9_48 rfl ?_
      refine ia_iload_n (pc := 49) F dJ5_append_c97b9_49 rfl ?_
      refine jp (pc := 50) F zb cls1 f1_3 rfl (ia_nI rfl _) il_RJ5_79 dJ5_append_c97b9_50 ?_
      refine ia_aload_n (pc := 53) F dJ5_append_c97b9_53 rfl ?_
      refine ia_areturn (pc := 54) F M (Or.inl ⟨_, rfl⟩) (by decide) (by decide) dJ5_append_c97b9_54 ?_
      exact q1 _ _ _ _ (SB_num h_37 (by omega) ((ia_u_ne (Or.inr (by decide))).trans ((congrFun (h_45 b hbq) 0).trans e0)) ((ia_u_ne (Or.inr (by decide))).trans ((congrFun (h_45 b hbq) 1).trans e1)) ((ia_u_self _ _ _ _).trans (by rw [hk] <;> omega)) ((rowN (by first | assumption | omega)).trans h_44)) (BX_ub (BX_qr (BX_trans BX_rf h_38) e0 hbq h_45) (by decide))
set_option maxRecDepth 100000 in
theorem c_J4_appendI {Z : ia_Z} {V : ia_H} {Q : ia_O → ia_Z → ia_H → Prop} (b q n L : Nat) (t : Nat → Int) (v : Int)   (hB : SB b Z V n t q L) (hv : 0 ≤ v ∧ v ≤ 999) (hn : n ≤ 90) (hz : 116 ≤ Z.2.2 ∧ Z.2.2 < 900000) (q1 : ∀ (Z1 : ia_Z) (V1 : ia_H) (q1 L1 : Nat), (SB b Z1 V1 (n + wd_n v) (wd_a t n v) q1 L1) → (BX b 1 Z V Z1 V1) → Q (.inl (some (4, ((b : Nat) : Int)))) Z1 V1) : ia_K yJ4_append_bf812 cJ4_append_bf812 2 (some (.object "java/lang/StringBuilder")) [(4, ((b : Nat) : Int)), (0, v)] Z V 6 1 300 Q := by
  refine ia_start RJ4 "append" ⟨by decide, rfl, rfl⟩ (Nat.le_of_ble_eq_true rfl) (ia_tg rfl) (fun X F M => ?_)
  show ia_G X 0 0 0 [(4, ((b : Nat) : Int)), (0, v)] [] Z V
  obtain ⟨zb, zq, e0, e1, e3, hnL, ht, hr, hqq⟩ := id hB
  have hbq : b ≠ q := fun e => by have h1 := zb.2.1; have h2 := zq.2.1; rw [e] at h1; omega
  refine ia_aload_n (pc := 0) F dJ4_append_bf812_0 rfl ?_
  refine ia_iload_n (pc := 1) F dJ4_append_bf812_1 rfl ?_
  refine jSU (pc := 2) F 1 300 zb cls1.1 (c_J5_appendI b q n L t v hB (by omega) (by omega) (by omega) (fun Z1_1 V1_2 q1_3 L1_4 h_5 h_6 => ?_)) rfl ⟨k_J5_append_c97b9, il_RJ4_53, im_J5_append_c97b9, ii_RJ5⟩ ⟨ism_J5_append_c97b9, isup_J4, by decide⟩ 1 rfl hd_J5_append_c97b9 ⟨by decide, by decide, by decide, by decide, Nat.le_of_ble_eq_true rfl⟩ dJ4_append_bf812_2
  obtain ⟨zb, zq, e0, e1, e3, hnL, ht, hr, hqq⟩ := id h_5
  have hbq : b ≠ q1_3 := fun e => by have h1 := zb.2.1; have h2 := zq.2.1; rw [e] at h1; omega
  refine j1 ?_
  refine ia_pop (pc := 5) F dJ4_append_bf812_5 (Or.inr (Or.inr rfl)) ?_
  refine ia_aload_n (pc := 6) F dJ4_append_bf812_6 rfl ?_
  refine ia_areturn (pc := 7) F M (Or.inl ⟨_, rfl⟩) (by decide) (by decide) dJ4_append_bf812_7 ?_
  exact q1 _ _ _ _ h_5 h_6
