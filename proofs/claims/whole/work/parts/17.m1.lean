/-! the model, its smallest methods (made by wip/whole/m1.py) -/
set_option maxRecDepth 100000 in
theorem c_X8_thrown {Z : ia_Z} {V : ia_H} {Q : ia_O → ia_Z → ia_H → Prop} {σ : Nat → Int} {μ : Nat → Int} (hZ : ZI Z) (hP : PI V) (h99 : V 99 = μ) (h100 : V 100 = σ)  (q1 : Q (.inl (some (0, μ 9))) Z V) : ia_K yX8_thrown cX8_thrown 1 (some .int) [(4, ((99 : Nat) : Int))] Z V 1 0 0 Q := by
  refine ia_start RX8 "thrown" ⟨by decide, rfl, rfl⟩ (Nat.le_of_ble_eq_true rfl) (ia_tg rfl) (fun X F M => ?_)
  show ia_G X 0 0 0 [(4, ((99 : Nat) : Int))] [] Z V
  refine ia_aload_n (pc := 0) F dX8_thrown_0 rfl ?_
  refine jg (pc := 1) F (x := μ 9) (z99 hZ) cls11 f11_9 (congrFun h99 9) il_RX8_37 dX8_thrown_1 ?_
  refine ia_ireturn (pc := 4) F M (by decide) (by decide) dX8_thrown_4 ?_
  exact q1 
set_option maxRecDepth 100000 in
theorem c_X8_in {Z : ia_Z} {V : ia_H} {Q : ia_O → ia_Z → ia_H → Prop} (v : Int) (lo : Int) (hi : Int)   (rv : -2147483648 ≤ v ∧ v ≤ 2147483647) (rlo : -2147483648 ≤ lo ∧ lo ≤ 2147483647) (rhi : -2147483648 ≤ hi ∧ hi ≤ 2147483647) (q1 : (lo ≤ v ∧ v ≤ hi) → Q (.inl (some (0, 1))) Z V) (q2 : (¬ (lo ≤ v ∧ v ≤ hi)) → Q (.inl (some (0, 0))) Z V) : ia_K yX8_in cX8_in 3 (some .boolean) [(0, v), (0, lo), (0, hi)] Z V 1 0 0 Q := by
  refine ia_start RX8 "in" ⟨by decide, rfl, rfl⟩ (Nat.le_of_ble_eq_true rfl) (ia_tg rfl) (fun X F M => ?_)
  show ia_G X 0 0 0 [(0, v), (0, lo), (0, hi)] [] Z V
  refine ia_iload_n (pc := 0) F dX8_in_0 rfl ?_
  refine ia_iload_n (pc := 1) F dX8_in_1 rfl ?_
  refine ia_icmp_lt (pc := 2) F 14 dX8_in_2 rfl (by omega) (by omega) (fun h_1 => ?_) (fun h_1 => ?_)
  · refine ia_iconst (pc := 14) F dX8_in_14 ?_
    refine ia_zreturn (pc := 15) F M (Or.inl rfl) (by decide) (by decide) dX8_in_15 ?_
    first | exact q2 (by omega) | (exfalso; omega)
  · refine ia_iload_n (pc := 5) F dX8_in_5 rfl ?_
    refine ia_iload_n (pc := 6) F dX8_in_6 rfl ?_
    refine ia_icmp_gt (pc := 7) F 14 dX8_in_7 rfl (by omega) (by omega) (fun h_2 => ?_) (fun h_2 => ?_)
    · refine ia_iconst (pc := 14) F dX8_in_14 ?_
      refine ia_zreturn (pc := 15) F M (Or.inl rfl) (by decide) (by decide) dX8_in_15 ?_
      first | exact q2 (by omega) | (exfalso; omega)
    · refine ia_iconst (pc := 10) F dX8_in_10 ?_
      refine ia_goto (pc := 11) F 15 dX8_in_11 rfl ?_
      refine ia_zreturn (pc := 15) F M (Or.inr rfl) (by decide) (by decide) dX8_in_15 ?_
      first | exact q1 (by omega) | (exfalso; omega)
set_option maxRecDepth 100000 in
theorem c_X8_less {Z : ia_Z} {V : ia_H} {Q : ia_O → ia_Z → ia_H → Prop} (a : Int) (b : Int)   (ra : -2147483648 ≤ a ∧ a ≤ 2147483647) (rb : -2147483648 ≤ b ∧ b ≤ 2147483647) (q1 : (a < b) → Q (.inl (some (0, a))) Z V) (q2 : (¬ a < b) → Q (.inl (some (0, b))) Z V) : ia_K yX8_less cX8_less 2 (some .int) [(0, a), (0, b)] Z V 1 0 0 Q := by
  refine ia_start RX8 "less" ⟨by decide, rfl, rfl⟩ (Nat.le_of_ble_eq_true rfl) (ia_tg rfl) (fun X F M => ?_)
  show ia_G X 0 0 0 [(0, a), (0, b)] [] Z V
  refine ia_iload_n (pc := 0) F dX8_less_0 rfl ?_
  refine ia_iload_n (pc := 1) F dX8_less_1 rfl ?_
  refine ia_icmp_ge (pc := 2) F 9 dX8_less_2 rfl (by omega) (by omega) (fun h_1 => ?_) (fun h_1 => ?_)
  · refine ia_iload_n (pc := 9) F dX8_less_9 rfl ?_
    refine ia_ireturn (pc := 10) F M (by decide) (by decide) dX8_less_10 ?_
    first | exact q1 (by omega) | exact q2 (by omega) | (exfalso; omega)
  · refine ia_iload_n (pc := 5) F dX8_less_5 rfl ?_
    refine ia_goto (pc := 6) F 10 dX8_less_6 rfl ?_
    refine ia_ireturn (pc := 10) F M (by decide) (by decide) dX8_less_10 ?_
    first | exact q1 (by omega) | exact q2 (by omega) | (exfalso; omega)
set_option maxRecDepth 100000 in
theorem c_X8_fail {Z : ia_Z} {V : ia_H} {Q : ia_O → ia_Z → ia_H → Prop} {σ : Nat → Int} {μ : Nat → Int} (a : Int) (hZ : ZI Z) (hP : PI V) (h99 : V 99 = μ) (h100 : V 100 = σ)  (q1 : ∀ (V1 : ia_H), PI V1 → (V1 99 = (up μ 9 a)) → (∀ pp, pp ∉ ([99] : List Nat) → V1 pp = V pp) → Q (.inl (some (0, 0))) Z V1) : ia_K yX8_fail cX8_fail 2 (some .int) [(4, ((99 : Nat) : Int)), (0, a)] Z V 1 0 0 Q := by
  refine ia_start RX8 "fail" ⟨by decide, rfl, rfl⟩ (Nat.le_of_ble_eq_true rfl) (ia_tg rfl) (fun X F M => ?_)
  show ia_G X 0 0 0 [(4, ((99 : Nat) : Int)), (0, a)] [] Z V
  refine ia_aload_n (pc := 0) F dX8_fail_0 rfl ?_
  refine ia_iload_n (pc := 1) F dX8_fail_1 rfl ?_
  refine jp (pc := 2) F (z99 hZ) cls11 f11_9 rfl (ia_nI rfl _) il_RX8_37 dX8_fail_2 ?_
  refine ia_iconst (pc := 5) F dX8_fail_5 ?_
  refine ia_ireturn (pc := 6) F M (by decide) (by decide) dX8_fail_6 ?_
  exact q1 _ (PI_u hP rfl) (rowU h99) (Fr_u (Fr_0 (V := V) (S := [99])) (by decide))
set_option maxRecDepth 100000 in
theorem c_X8_plain {Z : ia_Z} {V : ia_H} {Q : ia_O → ia_Z → ia_H → Prop} {σ : Nat → Int} {μ : Nat → Int} (a : Int) (hZ : ZI Z) (hP : PI V) (h99 : V 99 = μ) (h100 : V 100 = σ)  (q1 : ∀ (V1 : ia_H), PI V1 → (V1 99 = (up μ 9 0)) → (∀ pp, pp ∉ ([99] : List Nat) → V1 pp = V pp) → Q (.inl (some (0, a))) Z V1) : ia_K yX8_plain cX8_plain 2 (some .int) [(4, ((99 : Nat) : Int)), (0, a)] Z V 1 0 0 Q := by
  refine ia_start RX8 "plain" ⟨by decide, rfl, rfl⟩ (Nat.le_of_ble_eq_true rfl) (ia_tg rfl) (fun X F M => ?_)
  show ia_G X 0 0 0 [(4, ((99 : Nat) : Int)), (0, a)] [] Z V
  refine ia_aload_n (pc := 0) F dX8_plain_0 rfl ?_
  refine ia_iconst (pc := 1) F dX8_plain_1 ?_
  refine jp (pc := 2) F (z99 hZ) cls11 f11_9 rfl (ia_nI rfl _) il_RX8_37 dX8_plain_2 ?_
  refine ia_iload_n (pc := 5) F dX8_plain_5 rfl ?_
  refine ia_ireturn (pc := 6) F M (by decide) (by decide) dX8_plain_6 ?_
  exact q1 _ (PI_u hP rfl) (rowU h99) (Fr_u (Fr_0 (V := V) (S := [99])) (by decide))
set_option maxRecDepth 100000 in
theorem c_X8_checked1 {Z : ia_Z} {V : ia_H} {Q : ia_O → ia_Z → ia_H → Prop} {σ : Nat → Int} {μ : Nat → Int} (hZ : ZI Z) (hP : PI V) (h99 : V 99 = μ) (h100 : V 100 = σ)  (q1 : ∀ (V1 : ia_H), PI V1 → (V1 99 = (up μ 9 0)) → (∀ pp, pp ∉ ([99] : List Nat) → V1 pp = V pp) → Q (.inl (some (0, 0))) Z V1) : ia_K yX8_checked cX8_checked 2 (some .int) [(4, ((99 : Nat) : Int)), (0, 1)] Z V 1 0 0 Q := by
  refine ia_start RX8 "checked" ⟨by decide, rfl, rfl⟩ (Nat.le_of_ble_eq_true rfl) (ia_tg rfl) (fun X F M => ?_)
  show ia_G X 0 0 0 [(4, ((99 : Nat) : Int)), (0, 1)] [] Z V
  refine ia_aload_n (pc := 0) F dX8_checked_0 rfl ?_
  refine ia_iload_n (pc := 1) F dX8_checked_1 rfl ?_
  refine ia_if_eq (pc := 2) F 9 dX8_checked_2 rfl (by omega) (fun h9 => absurd h9 (by omega)) (fun _ => ?_)
  refine ia_iconst (pc := 5) F dX8_checked_5 ?_
  refine ia_goto (pc := 6) F 10 dX8_checked_6 rfl ?_
  refine jp (pc := 10) F (z99 hZ) cls11 f11_9 rfl (ia_nI rfl _) il_RX8_37 dX8_checked_10 ?_
  refine ia_aload_n (pc := 13) F dX8_checked_13 rfl ?_
  refine jg (pc := 14) F (x := 0) (z99 hZ) cls11 f11_9 ((congrFun (rowU h99) 9).trans (up_self _ _ _)) il_RX8_37 dX8_checked_14 ?_
  refine ia_ireturn (pc := 17) F M (by decide) (by decide) dX8_checked_17 ?_
  exact q1 _ (PI_u hP rfl) (rowU h99) (Fr_u (Fr_0 (V := V) (S := [99])) (by decide))
set_option maxRecDepth 100000 in
theorem c_X8_checked0 {Z : ia_Z} {V : ia_H} {Q : ia_O → ia_Z → ia_H → Prop} {σ : Nat → Int} {μ : Nat → Int} (hZ : ZI Z) (hP : PI V) (h99 : V 99 = μ) (h100 : V 100 = σ)  (q1 : ∀ (V1 : ia_H), PI V1 → (V1 99 = (up μ 9 1)) → (∀ pp, pp ∉ ([99] : List Nat) → V1 pp = V pp) → Q (.inl (some (0, 1))) Z V1) : ia_K yX8_checked cX8_checked 2 (some .int) [(4, ((99 : Nat) : Int)), (0, 0)] Z V 1 0 0 Q := by
  refine ia_start RX8 "checked" ⟨by decide, rfl, rfl⟩ (Nat.le_of_ble_eq_true rfl) (ia_tg rfl) (fun X F M => ?_)
  show ia_G X 0 0 0 [(4, ((99 : Nat) : Int)), (0, 0)] [] Z V
  refine ia_aload_n (pc := 0) F dX8_checked_0 rfl ?_
  refine ia_iload_n (pc := 1) F dX8_checked_1 rfl ?_
  refine ia_if_eq (pc := 2) F 9 dX8_checked_2 rfl (by omega) (fun _ => ?_) (fun h9 => absurd h9 (by omega))
  refine ia_iconst (pc := 9) F dX8_checked_9 ?_
  refine jp (pc := 10) F (z99 hZ) cls11 f11_9 rfl (ia_nI rfl _) il_RX8_37 dX8_checked_10 ?_
  refine ia_aload_n (pc := 13) F dX8_checked_13 rfl ?_
  refine jg (pc := 14) F (x := 1) (z99 hZ) cls11 f11_9 ((congrFun (rowU h99) 9).trans (up_self _ _ _)) il_RX8_37 dX8_checked_14 ?_
  refine ia_ireturn (pc := 17) F M (by decide) (by decide) dX8_checked_17 ?_
  exact q1 _ (PI_u hP rfl) (rowU h99) (Fr_u (Fr_0 (V := V) (S := [99])) (by decide))
set_option maxRecDepth 100000 in
theorem c_X8_isColour {Z : ia_Z} {V : ia_H} {Q : ia_O → ia_Z → ia_H → Prop} (c : Int)   (rc : -2147483648 ≤ c ∧ c ≤ 2147483647) (q1 : (0 ≤ c ∧ c ≤ 9) → Q (.inl (some (0, 1))) Z V) (q2 : (¬ (0 ≤ c ∧ c ≤ 9)) → Q (.inl (some (0, 0))) Z V) : ia_K yX8_isColour cX8_isColour 1 (some .boolean) [(0, c)] Z V 2 0 0 Q := by
  refine ia_start RX8 "isColour" ⟨by decide, rfl, rfl⟩ (Nat.le_of_ble_eq_true rfl) (ia_tg rfl) (fun X F M => ?_)
  show ia_G X 0 0 0 [(0, c)] [] Z V
  refine ia_iload_n (pc := 0) F dX8_isColour_0 rfl ?_
  refine ia_iconst (pc := 1) F dX8_isColour_1 ?_
  refine ia_bipush (pc := 2) F dX8_isColour_2 (by decide) ?_
  refine jS (pc := 4) F 0 0 (c_X8_in c 0 9 (by omega) (by omega) (by omega) (fun h_1 => ?_) (fun h_2 => ?_)) rfl ⟨k_X8_in, il_RX8_91, it_X8_in, ii_RX8⟩ rfl 3 rfl hd_X8_in ⟨by decide, by decide, by decide, by decide, Nat.le_of_ble_eq_true rfl⟩ dX8_isColour_4
  · refine j1 ?_
    refine ia_zreturn (pc := 7) F M (Or.inr rfl) (by decide) (by decide) dX8_isColour_7 ?_
    first | exact q1 (by omega) | (exfalso; omega)
  · refine j1 ?_
    refine ia_zreturn (pc := 7) F M (Or.inl rfl) (by decide) (by decide) dX8_isColour_7 ?_
    first | exact q2 (by omega) | (exfalso; omega)
set_option maxRecDepth 100000 in
theorem c_X8_copy {Z : ia_Z} {V : ia_H} {Q : ia_O → ia_Z → ia_H → Prop} {f : Nat → Int} {g : Nat → Int} (p q fi ti L1 L2 : Nat) (hZ : ZI Z) (hP : PI V) (hp : V p = f) (hq : V q = g) (zp : p < Z.2.2 ∧ Z.1 p = 0 ∧ Z.2.1 p = L1) (zq : q < Z.2.2 ∧ Z.1 q = 0 ∧ Z.2.1 q = L2) (nqq : ∀ k : Nat, ptr q k = none) (npq : p ≠ q) (hl : fi + 72 ≤ L1 ∧ ti + 72 ≤ L2) (q1 : ∀ (V1 : ia_H), PI V1 → (V1 q = cpy f g fi ti 72) → (∀ pp, pp ∉ ([q] : List Nat) → V1 pp = V pp) → Q (.inl none) Z V1) : ia_K yX8_copy cX8_copy 5 none [(4, ((p : Nat) : Int)), (0, (fi : Int)), (4, ((q : Nat) : Int)), (0, (ti : Int))] Z V 1 0 0 Q := by
  refine ia_start RX8 "copy" ⟨by decide, rfl, rfl⟩ (Nat.le_of_ble_eq_true rfl) (ia_tg rfl) (fun X F M => ?_)
  show ia_G X 0 0 0 [(4, ((p : Nat) : Int)), (0, (fi : Int)), (4, ((q : Nat) : Int)), (0, (ti : Int)), (9, 0)] [] Z V
  refine ia_iconst (pc := 0) F dX8_copy_0 ?_
  refine ia_istore (pc := 1) F (ls' := [(4, ((p : Nat) : Int)), (0, (fi : Int)), (4, ((q : Nat) : Int)), (0, (ti : Int)), (0, 0)]) dX8_copy_1 (Nat.le_of_ble_eq_true rfl) rfl rfl ?_
  have L3 : ∀ (fu : Nat) (k : Nat) (V2 : ia_H), (72 - k < fu) → (k ≤ 72) → (PI V2) → (V2 q = cpy f g fi ti k) → (∀ pp, pp ∉ ([q] : List Nat) → V2 pp = V pp) → ia_G X 0 0 3 [(4, ((p : Nat) : Int)), (0, (fi : Int)), (4, ((q : Nat) : Int)), (0, (ti : Int)), (0, (k : Int))] [] Z V2 := by
    intro fu
    induction fu with
    | zero => intro k V2 hm; exact absurd hm (Nat.not_lt_zero _)
    | succ fu ih =>
      intro k V2 hm hk hP2 w2_q hF2
      have ih3 := ih
      refine ia_iload (pc := 3) F dX8_copy_3 rfl ?_
      refine ia_bipush (pc := 5) F dX8_copy_5 (by decide) ?_
      refine ia_icmp_ge (pc := 7) F 28 dX8_copy_7 rfl (by omega) (by omega) (fun h_1 => ?_) (fun h_1 => ?_)
      · refine ia_return (pc := 28) F M (by decide) (by decide) dX8_copy_28 ?_
        have e72 : k = 72 := by omega
        subst e72
        exact q1 _ hP2 w2_q hF2
      · refine ia_aload_n (pc := 10) F dX8_copy_10 rfl ?_
        refine ia_iload_n (pc := 11) F dX8_copy_11 rfl ?_
        refine ia_iload (pc := 12) F dX8_copy_12 rfl ?_
        refine ia_iadd (pc := 14) F dX8_copy_14 ?_
        refine ia_aload_n (pc := 15) F dX8_copy_15 rfl ?_
        refine ia_iload_n (pc := 16) F dX8_copy_16 rfl ?_
        refine ia_iload (pc := 17) F dX8_copy_17 rfl ?_
        refine ia_iadd (pc := 19) F dX8_copy_19 ?_
        refine ja (pc := 20) F (v := f (fi + k)) zp (fi + k) rfl (by omega) (congrFun ((hF2 p (by simp; exact npq)).trans hp) (fi + k)) dX8_copy_20 ?_
        refine js (pc := 21) F zq (ti + k) rfl (by omega) dX8_copy_21 ?_
        refine ia_iinc (pc := 22) F (ls' := [(4, ((p : Nat) : Int)), (0, (fi : Int)), (4, ((q : Nat) : Int)), (0, (ti : Int)), (0, ((k + 1 : Nat) : Int))]) dX8_copy_22 rfl rfl rfl rfl ?_
        refine ia_goto (pc := 25) F 3 dX8_copy_25 rfl ?_
        exact ih3 (k + 1) _ (by omega) (by omega) (PI_u hP2 (nqq _)) ((rowU w2_q).trans cpy_s) (Fr_u hF2 (by simp))
  exact L3 (72 + 1) 0 _ (by omega) (by omega) hP (hq.trans cpy_0.symm) (Fr_0 (V := V) (S := [q]))
set_option maxRecDepth 100000 in
theorem c_X8_copyS {Z : ia_Z} {V : ia_H} {Q : ia_O → ia_Z → ia_H → Prop} {g : Nat → Int} (q fi ti L2 : Nat) (hZ : ZI Z) (hP : PI V) (hq : V q = g) (zq : q < Z.2.2 ∧ Z.1 q = 0 ∧ Z.2.1 q = L2) (nqq : ∀ k : Nat, ptr q k = none) (hl : fi + 72 ≤ L2 ∧ ti + 72 ≤ fi) (q1 : ∀ (V1 : ia_H), PI V1 → (V1 q = cpy g g fi ti 72) → (∀ pp, pp ∉ ([q] : List Nat) → V1 pp = V pp) → Q (.inl none) Z V1) : ia_K yX8_copy cX8_copy 5 none [(4, ((q : Nat) : Int)), (0, (fi : Int)), (4, ((q : Nat) : Int)), (0, (ti : Int))] Z V 1 0 0 Q := by
  refine ia_start RX8 "copy" ⟨by decide, rfl, rfl⟩ (Nat.le_of_ble_eq_true rfl) (ia_tg rfl) (fun X F M => ?_)
  show ia_G X 0 0 0 [(4, ((q : Nat) : Int)), (0, (fi : Int)), (4, ((q : Nat) : Int)), (0, (ti : Int)), (9, 0)] [] Z V
  refine ia_iconst (pc := 0) F dX8_copy_0 ?_
  refine ia_istore (pc := 1) F (ls' := [(4, ((q : Nat) : Int)), (0, (fi : Int)), (4, ((q : Nat) : Int)), (0, (ti : Int)), (0, 0)]) dX8_copy_1 (Nat.le_of_ble_eq_true rfl) rfl rfl ?_
  have L3 : ∀ (fu : Nat) (k : Nat) (V2 : ia_H), (72 - k < fu) → (k ≤ 72) → (PI V2) → (V2 q = cpy g g fi ti k) → (∀ pp, pp ∉ ([q] : List Nat) → V2 pp = V pp) → ia_G X 0 0 3 [(4, ((q : Nat) : Int)), (0, (fi : Int)), (4, ((q : Nat) : Int)), (0, (ti : Int)), (0, (k : Int))] [] Z V2 := by
    intro fu
    induction fu with
    | zero => intro k V2 hm; exact absurd hm (Nat.not_lt_zero _)
    | succ fu ih =>
      intro k V2 hm hk hP2 w2_q hF2
      have ih3 := ih
      refine ia_iload (pc := 3) F dX8_copy_3 rfl ?_
      refine ia_bipush (pc := 5) F dX8_copy_5 (by decide) ?_
      refine ia_icmp_ge (pc := 7) F 28 dX8_copy_7 rfl (by omega) (by omega) (fun h_1 => ?_) (fun h_1 => ?_)
      · refine ia_return (pc := 28) F M (by decide) (by decide) dX8_copy_28 ?_
        have e72 : k = 72 := by omega
        subst e72
        exact q1 _ hP2 w2_q hF2
      · refine ia_aload_n (pc := 10) F dX8_copy_10 rfl ?_
        refine ia_iload_n (pc := 11) F dX8_copy_11 rfl ?_
        refine ia_iload (pc := 12) F dX8_copy_12 rfl ?_
        refine ia_iadd (pc := 14) F dX8_copy_14 ?_
        refine ia_aload_n (pc := 15) F dX8_copy_15 rfl ?_
        refine ia_iload_n (pc := 16) F dX8_copy_16 rfl ?_
        refine ia_iload (pc := 17) F dX8_copy_17 rfl ?_
        refine ia_iadd (pc := 19) F dX8_copy_19 ?_
        refine ja (pc := 20) F (v := g (fi + k)) zq (fi + k) rfl (by omega) ((congrFun w2_q (fi + k)).trans (cpy_out (by omega))) dX8_copy_20 ?_
        refine js (pc := 21) F zq (ti + k) rfl (by omega) dX8_copy_21 ?_
        refine ia_iinc (pc := 22) F (ls' := [(4, ((q : Nat) : Int)), (0, (fi : Int)), (4, ((q : Nat) : Int)), (0, (ti : Int)), (0, ((k + 1 : Nat) : Int))]) dX8_copy_22 rfl rfl rfl rfl ?_
        refine ia_goto (pc := 25) F 3 dX8_copy_25 rfl ?_
        exact ih3 (k + 1) _ (by omega) (by omega) (PI_u hP2 (nqq _)) ((rowU w2_q).trans cpy_s) (Fr_u hF2 (by simp))
  exact L3 (72 + 1) 0 _ (by omega) (by omega) hP (hq.trans cpy_0.symm) (Fr_0 (V := V) (S := [q]))
set_option maxRecDepth 100000 in
theorem c_X8_begin {Z : ia_Z} {V : ia_H} {Q : ia_O → ia_Z → ia_H → Prop} {σ : Nat → Int} {μ : Nat → Int} {β : Nat → Int} (hZ : ZI Z) (hP : PI V) (h99 : V 99 = μ) (h100 : V 100 = σ) (h101 : V 101 = β)  (q1 : ∀ (V1 : ia_H), PI V1 → (V1 99 = (up μ 9 0)) → (V1 101 = cpy σ β 0 0 72) → (∀ pp, pp ∉ ([99, 101] : List Nat) → V1 pp = V pp) → Q (.inl none) Z V1) : ia_K yX8_begin cX8_begin 1 none [(4, ((99 : Nat) : Int))] Z V 2 0 0 Q := by
  refine ia_start RX8 "begin" ⟨by decide, rfl, rfl⟩ (Nat.le_of_ble_eq_true rfl) (ia_tg rfl) (fun X F M => ?_)
  show ia_G X 0 0 0 [(4, ((99 : Nat) : Int))] [] Z V
  refine ia_aload_n (pc := 0) F dX8_begin_0 rfl ?_
  refine ia_iconst (pc := 1) F dX8_begin_1 ?_
  refine jp (pc := 2) F (z99 hZ) cls11 f11_9 rfl (ia_nI rfl _) il_RX8_37 dX8_begin_2 ?_
  refine ia_aload_n (pc := 5) F dX8_begin_5 rfl ?_
  refine jg (pc := 6) F (z99 hZ) cls11 f11_0 ((PI_u hP rfl) 99 0 100 rfl) il_RX8_7 dX8_begin_6 ?_
  refine ia_iconst (pc := 9) F dX8_begin_9 ?_
  refine ia_aload_n (pc := 10) F dX8_begin_10 rfl ?_
  refine jg (pc := 11) F (z99 hZ) cls11 f11_1 ((PI_u hP rfl) 99 1 101 rfl) il_RX8_13 dX8_begin_11 ?_
  refine ia_iconst (pc := 14) F dX8_begin_14 ?_
  refine jS (pc := 15) F 0 0 (c_X8_copy 100 101 0 0 72 72 hZ (PI_u hP rfl) ((rowN (by decide)).trans h100) ((rowN (by decide)).trans h101) (z100 hZ) (z101 hZ) (fun _ => rfl) (by omega) (by omega) (fun V_1 p_2 w_3 f_4 => ?_)) rfl ⟨k_X8_copy, il_RX8_87, it_X8_copy, ii_RX8⟩ rfl 4 rfl hd_X8_copy ⟨by decide, by decide, by decide, by decide, Nat.le_of_ble_eq_true rfl⟩ dX8_begin_15
  refine j0 ?_
  refine ia_return (pc := 18) F M (by decide) (by decide) dX8_begin_18 ?_
  exact q1 _ p_2 ((f_4 99 (by decide)).trans (rowU h99)) w_3 (Fr_c (Fr_u (Fr_0 (V := V) (S := [99, 101])) (by decide)) f_4 (by decide))
set_option maxRecDepth 100000 in
theorem c_X8_commit {Z : ia_Z} {V : ia_H} {Q : ia_O → ia_Z → ia_H → Prop} {σ : Nat → Int} {μ : Nat → Int} {β : Nat → Int} {η : Nat → Int} (r : Int) (hZ : ZI Z) (hP : PI V) (h99 : V 99 = μ) (h100 : V 100 = σ) (h101 : V 101 = β) (h103 : V 103 = η) (hd : 0 ≤ μ 10 ∧ μ 10 ≤ 8) (q1 : ∀ (V1 : ia_H), PI V1 → (V1 99 = up μ 10 (hdep (μ 10))) → (V1 103 = s_hist β η (μ 10)) → (∀ pp, pp ∉ ([99, 103] : List Nat) → V1 pp = V pp) → Q (.inl (some (0, r))) Z V1) : ia_K yX8_commit cX8_commit 3 (some .int) [(4, ((99 : Nat) : Int)), (0, r)] Z V 2 0 0 Q := by
  refine ia_start RX8 "commit" ⟨by decide, rfl, rfl⟩ (Nat.le_of_ble_eq_true rfl) (ia_tg rfl) (fun X F M => ?_)
  show ia_G X 0 0 0 [(4, ((99 : Nat) : Int)), (0, r), (9, 0)] [] Z V
  refine ia_aload_n (pc := 0) F dX8_commit_0 rfl ?_
  refine jg (pc := 1) F (x := μ 10) (z99 hZ) cls11 f11_10 (congrFun h99 10) il_RX8_41 dX8_commit_1 ?_
  refine ia_bipush (pc := 4) F dX8_commit_4 (by decide) ?_
  refine ia_icmp_ne (pc := 6) F 54 dX8_commit_6 rfl (by omega) (by omega) (fun h_1 => ?_) (fun h_1 => ?_)
  · refine ia_aload_n (pc := 54) F dX8_commit_54 rfl ?_
    refine jg (pc := 55) F (z99 hZ) cls11 f11_1 (hP 99 1 101 rfl) il_RX8_13 dX8_commit_55 ?_
    refine ia_iconst (pc := 58) F dX8_commit_58 ?_
    refine ia_aload_n (pc := 59) F dX8_commit_59 rfl ?_
    refine jg (pc := 60) F (z99 hZ) cls11 f11_3 (hP 99 3 103 rfl) il_RX8_19 dX8_commit_60 ?_
    refine ia_bipush (pc := 63) F dX8_commit_63 (by decide) ?_
    refine ia_aload_n (pc := 65) F dX8_commit_65 rfl ?_
    refine jg (pc := 66) F (x := μ 10) (z99 hZ) cls11 f11_10 (congrFun h99 10) il_RX8_41 dX8_commit_66 ?_
    refine ia_imul (pc := 69) F dX8_commit_69 ?_
    rw [show (72 * μ 10) = ((72 * ((μ 10).toNat) : Nat) : Int) from by omega]
    refine jS (pc := 70) F 0 0 (c_X8_copy 101 103 0 (72 * ((μ 10).toNat)) 72 576 hZ hP h101 h103 (z101 hZ) (z103 hZ) (fun _ => rfl) (by decide) (by omega) (fun V_2 p_3 w_4 f_5 => ?_)) rfl ⟨k_X8_copy, il_RX8_87, it_X8_copy, ii_RX8⟩ rfl 4 rfl hd_X8_copy ⟨by decide, by decide, by decide, by decide, Nat.le_of_ble_eq_true rfl⟩ dX8_commit_70
    refine j0 ?_
    refine ia_aload_n (pc := 73) F dX8_commit_73 rfl ?_
    refine ia_dup (pc := 74) F dX8_commit_74 (Or.inr (Or.inr rfl)) ?_
    refine jg (pc := 75) F (x := μ 10) (z99 hZ) cls11 f11_10 (congrFun ((f_5 99 (by decide)).trans h99) 10) il_RX8_41 dX8_commit_75 ?_
    refine ia_iconst (pc := 78) F dX8_commit_78 ?_
    refine ia_iadd (pc := 79) F dX8_commit_79 ?_
    refine jp (pc := 80) F (z99 hZ) cls11 f11_10 rfl (ia_nI rfl _) il_RX8_41 dX8_commit_80 ?_
    refine ia_iload_n (pc := 83) F dX8_commit_83 rfl ?_
    refine ia_ireturn (pc := 84) F M (by decide) (by decide) dX8_commit_84 ?_
    exact q1 _ (PI_u p_3 rfl) ((rowU ((f_5 99 (by decide)).trans h99)).trans (hdep_n h_1)) (((rowN (by decide)).trans w_4).trans (hist_n h_1)) (Fr_u (Fr_c (Fr_0 (V := V) (S := [99, 103])) f_5 (by decide)) (by decide))
  · refine ia_iconst (pc := 9) F dX8_commit_9 ?_
    refine ia_istore_n (pc := 10) F (ls' := [(4, ((99 : Nat) : Int)), (0, r), (0, 1)]) dX8_commit_10 (Nat.le_of_ble_eq_true rfl) rfl rfl ?_
    have L11 : ∀ (fu : Nat) (k : Nat) (V2 : ia_H), (7 - k < fu) → (k ≤ 7) → (PI V2) → (V2 99 = μ) → (V2 103 = shk η k) → (∀ pp, pp ∉ ([99, 103] : List Nat) → V2 pp = V pp) → ia_G X 0 0 11 [(4, ((99 : Nat) : Int)), (0, r), (0, ((k + 1 : Nat) : Int))] [] Z V2 := by
      intro fu
      induction fu with
      | zero => intro k V2 hm; exact absurd hm (Nat.not_lt_zero _)
      | succ fu ih =>
        intro k V2 hm hk hP2 w2_99 w2_103 hF2
        have ih11 := ih
        refine ia_iload_n (pc := 11) F dX8_commit_11 rfl ?_
        refine ia_bipush (pc := 12) F dX8_commit_12 (by decide) ?_
        refine ia_icmp_ge (pc := 14) F 44 dX8_commit_14 rfl (by omega) (by omega) (fun h_6 => ?_) (fun h_6 => ?_)
        · have e7 : k = 7 := by omega
          subst e7
          refine ia_aload_n (pc := 44) F dX8_commit_44 rfl ?_
          refine ia_dup (pc := 45) F dX8_commit_45 (Or.inr (Or.inr rfl)) ?_
          refine jg (pc := 46) F (x := μ 10) (z99 hZ) cls11 f11_10 (congrFun w2_99 10) il_RX8_41 dX8_commit_46 ?_
          refine ia_iconst (pc := 49) F dX8_commit_49 ?_
          refine ia_isub (pc := 50) F dX8_commit_50 ?_
          refine jp (pc := 51) F (z99 hZ) cls11 f11_10 rfl (ia_nI rfl _) il_RX8_41 dX8_commit_51 ?_
          refine ia_aload_n (pc := 54) F dX8_commit_54 rfl ?_
          refine jg (pc := 55) F (z99 hZ) cls11 f11_1 ((PI_u hP2 rfl) 99 1 101 rfl) il_RX8_13 dX8_commit_55 ?_
          refine ia_iconst (pc := 58) F dX8_commit_58 ?_
          refine ia_aload_n (pc := 59) F dX8_commit_59 rfl ?_
          refine jg (pc := 60) F (z99 hZ) cls11 f11_3 ((PI_u hP2 rfl) 99 3 103 rfl) il_RX8_19 dX8_commit_60 ?_
          refine ia_bipush (pc := 63) F dX8_commit_63 (by decide) ?_
          refine ia_aload_n (pc := 65) F dX8_commit_65 rfl ?_
          refine jg (pc := 66) F (x := (μ 10 - 1)) (z99 hZ) cls11 f11_10 ((congrFun (rowU w2_99) 10).trans (up_self _ _ _)) il_RX8_41 dX8_commit_66 ?_
          refine ia_imul (pc := 69) F dX8_commit_69 ?_
          rw [show (72 * (μ 10 - 1)) = ((72 * ((μ 10 - 1).toNat) : Nat) : Int) from by omega]
          refine jS (pc := 70) F 0 0 (c_X8_copy 101 103 0 (72 * ((μ 10 - 1).toNat)) 72 576 hZ (PI_u hP2 rfl) ((rowN (by decide)).trans ((hF2 101 (by decide)).trans h101)) ((rowN (by decide)).trans w2_103) (z101 hZ) (z103 hZ) (fun _ => rfl) (by decide) (by omega) (fun V_7 p_8 w_9 f_10 => ?_)) rfl ⟨k_X8_copy, il_RX8_87, it_X8_copy, ii_RX8⟩ rfl 4 rfl hd_X8_copy ⟨by decide, by decide, by decide, by decide, Nat.le_of_ble_eq_true rfl⟩ dX8_commit_70
          refine j0 ?_
          refine ia_aload_n (pc := 73) F dX8_commit_73 rfl ?_
          refine ia_dup (pc := 74) F dX8_commit_74 (Or.inr (Or.inr rfl)) ?_
          refine jg (pc := 75) F (x := (μ 10 - 1)) (z99 hZ) cls11 f11_10 ((congrFun ((f_10 99 (by decide)).trans (rowU w2_99)) 10).trans (up_self _ _ _)) il_RX8_41 dX8_commit_75 ?_
          refine ia_iconst (pc := 78) F dX8_commit_78 ?_
          refine ia_iadd (pc := 79) F dX8_commit_79 ?_
          refine jp (pc := 80) F (z99 hZ) cls11 f11_10 rfl (ia_nI rfl _) il_RX8_41 dX8_commit_80 ?_
          refine ia_iload_n (pc := 83) F dX8_commit_83 rfl ?_
          refine ia_ireturn (pc := 84) F M (by decide) (by decide) dX8_commit_84 ?_
          exact q1 _ (PI_u p_8 rfl) ((rowU ((f_10 99 (by decide)).trans (rowU w2_99))).trans (hdep_8 h_1)) (((rowN (by decide)).trans w_9).trans (hist_8 h_1)) (Fr_u (Fr_c (Fr_u hF2 (by decide)) f_10 (by decide)) (by decide))
        · refine ia_aload_n (pc := 17) F dX8_commit_17 rfl ?_
          refine jg (pc := 18) F (z99 hZ) cls11 f11_3 (hP2 99 3 103 rfl) il_RX8_19 dX8_commit_18 ?_
          refine ia_bipush (pc := 21) F dX8_commit_21 (by decide) ?_
          refine ia_iload_n (pc := 23) F dX8_commit_23 rfl ?_
          refine ia_imul (pc := 24) F dX8_commit_24 ?_
          refine ia_aload_n (pc := 25) F dX8_commit_25 rfl ?_
          refine jg (pc := 26) F (z99 hZ) cls11 f11_3 (hP2 99 3 103 rfl) il_RX8_19 dX8_commit_26 ?_
          refine ia_bipush (pc := 29) F dX8_commit_29 (by decide) ?_
          refine ia_iload_n (pc := 31) F dX8_commit_31 rfl ?_
          refine ia_iconst (pc := 32) F dX8_commit_32 ?_
          refine ia_isub (pc := 33) F dX8_commit_33 ?_
          rw [show (((k + 1 : Nat) : Int) - 1) = ((k : Nat) : Int) from by omega]
          refine ia_imul (pc := 34) F dX8_commit_34 ?_
          refine jS (pc := 35) F 0 0 (c_X8_copyS 103 (72 * (k + 1)) (72 * k) 576 hZ hP2 w2_103 (z103 hZ) (fun _ => rfl) (by omega) (fun V_11 p_12 w_13 f_14 => ?_)) rfl ⟨k_X8_copy, il_RX8_87, it_X8_copy, ii_RX8⟩ rfl 4 rfl hd_X8_copy ⟨by decide, by decide, by decide, by decide, Nat.le_of_ble_eq_true rfl⟩ dX8_commit_35
          refine j0 ?_
          refine ia_iinc (pc := 38) F (ls' := [(4, ((99 : Nat) : Int)), (0, r), (0, ((k + 1 + 1 : Nat) : Int))]) dX8_commit_38 rfl rfl rfl rfl ?_
          refine ia_goto (pc := 41) F 11 dX8_commit_41 rfl ?_
          exact ih11 (k + 1) _ (by omega) (by omega) p_12 ((f_14 99 (by decide)).trans w2_99) (w_13.trans shk_s) (Fr_c hF2 f_14 (by decide))
    exact L11 (7 + 1) 0 _ (by omega) (by omega) hP h99 (h103.trans shk_0.symm) (Fr_0 (V := V) (S := [99, 103]))
