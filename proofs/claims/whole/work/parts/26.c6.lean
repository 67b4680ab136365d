/-! the class: by all orders (made by wip/whole/c1.py) -/
set_option maxRecDepth 100000 in
theorem c_X0_swap {Z : ia_Z} {V : ia_H} {Q : ia_O → ia_Z → ia_H → Prop} {f : Nat → Int} (q i j L1 : Nat) (hZ : ZI Z) (hP : PI V) (hq : V q = f) (zq : q < Z.2.2 ∧ Z.1 q = 0 ∧ Z.2.1 q = L1) (nqq : ∀ k : Nat, ptr q k = none) (hl : i < L1 ∧ j < L1 ∧ L1 ≤ 100) (q1 : ∀ (V1 : ia_H), PI V1 → (V1 q = swp f i j) → (∀ pp, pp ∉ ([q] : List Nat) → V1 pp = V pp) → Q (.inl none) Z V1) : ia_K yX0_swap cX0_swap 4 none [(4, ((q : Nat) : Int)), (0, (i : Int)), (0, (j : Int))] Z V 1 0 0 Q := by
  refine ia_start RX0 "swap" ⟨by decide, rfl, rfl⟩ (Nat.le_of_ble_eq_true rfl) (ia_tg rfl) (fun X F M => ?_)
  show ia_G X 0 0 0 [(4, ((q : Nat) : Int)), (0, (i : Int)), (0, (j : Int)), (9, 0)] [] Z V
  refine ia_aload_n (pc := 0) F dX0_swap_0 rfl ?_
  refine ia_iload_n (pc := 1) F dX0_swap_1 rfl ?_
  refine ja (pc := 2) F (v := f i) zq i rfl (by omega) (congrFun hq i) dX0_swap_2 ?_
  refine ia_istore_n (pc := 3) F (ls' := [(4, ((q : Nat) : Int)), (0, (i : Int)), (0, (j : Int)), (0, f i)]) dX0_swap_3 (Nat.le_of_ble_eq_true rfl) rfl rfl ?_
  refine ia_aload_n (pc := 4) F dX0_swap_4 rfl ?_
  refine ia_iload_n (pc := 5) F dX0_swap_5 rfl ?_
  refine ia_aload_n (pc := 6) F dX0_swap_6 rfl ?_
  refine ia_iload_n (pc := 7) F dX0_swap_7 rfl ?_
  refine ja (pc := 8) F (v := f j) zq j rfl (by omega) (congrFun hq j) dX0_swap_8 ?_
  refine js (pc := 9) F zq i rfl (by omega) dX0_swap_9 ?_
  refine ia_aload_n (pc := 10) F dX0_swap_10 rfl ?_
  refine ia_iload_n (pc := 11) F dX0_swap_11 rfl ?_
  refine ia_iload_n (pc := 12) F dX0_swap_12 rfl ?_
  refine js (pc := 13) F zq j rfl (by omega) dX0_swap_13 ?_
  refine ia_return (pc := 14) F M (by decide) (by decide) dX0_swap_14 ?_
  exact q1 _ (PI_u (PI_u hP (nqq _)) (nqq _)) (rowU (rowU hq)) (Fr_u (Fr_u (Fr_0 (V := V) (S := [q])) (by simp)) (by simp))
set_option maxRecDepth 100000 in
theorem c_X0_fo0 {Z : ia_Z} {V : ia_H} {Q : ia_O → ia_Z → ia_H → Prop} {f : Nat → Int} (q a b L1 : Nat) (p : Int) (hZ : ZI Z) (hP : PI V) (hq : V q = f) (zq : q < Z.2.2 ∧ Z.1 q = 0 ∧ Z.2.1 q = L1) (nqq : ∀ k : Nat, ptr q k = none) (hb : b = a + 0) (hl : b ≤ L1 ∧ L1 ≤ 100) (hr : ∀ k : Nat, k < b → 0 ≤ f k ∧ f k ≤ 9) (hp9 : 0 ≤ p ∧ p ≤ 9) (q1 : ∀ (V1 : ia_H), PI V1 → (V1 q = f) → (∀ pp, pp ∉ ([q] : List Nat) → V1 pp = V pp) → Q (.inl (some (0, (kr 0 f a p)))) Z V1) : ia_K yX0_fewestOfOrders cX0_fewestOfOrders 8 (some .int) [(4, ((q : Nat) : Int)), (0, (b : Int)), (0, (a : Int)), (0, p)] Z V 2 0 0 Q := by
  refine ia_start RX0 "fewestOfOrders" ⟨by decide, rfl, rfl⟩ (Nat.le_of_ble_eq_true rfl) (ia_tg rfl) (fun X F M => ?_)
  show ia_G X 0 0 0 [(4, ((q : Nat) : Int)), (0, (b : Int)), (0, (a : Int)), (0, p), (9, 0), (9, 0), (9, 0), (9, 0)] [] Z V
  refine ia_iload_n (pc := 0) F dX0_fewestOfOrders_0 rfl ?_
  refine ia_iload_n (pc := 1) F dX0_fewestOfOrders_1 rfl ?_
  refine ia_icmp_lt (pc := 2) F 7 dX0_fewestOfOrders_2 rfl (by omega) (by omega) (fun h9 => absurd h9 (by omega)) (fun _ => ?_)
  refine ia_iconst (pc := 5) F dX0_fewestOfOrders_5 ?_
  refine ia_ireturn (pc := 6) F M (by decide) (by decide) dX0_fewestOfOrders_6 ?_
  exact q1 _ hP hq (Fr_0 (V := V) (S := [q]))
set_option maxRecDepth 100000 in
theorem c_X0_fo1 {Z : ia_Z} {V : ia_H} {Q : ia_O → ia_Z → ia_H → Prop} {f : Nat → Int} (q a b L1 : Nat) (p : Int) (hZ : ZI Z) (hP : PI V) (hq : V q = f) (zq : q < Z.2.2 ∧ Z.1 q = 0 ∧ Z.2.1 q = L1) (nqq : ∀ k : Nat, ptr q k = none) (hb : b = a + 1) (hl : b ≤ L1 ∧ L1 ≤ 100) (hr : ∀ k : Nat, k < b → 0 ≤ f k ∧ f k ≤ 9) (hp9 : 0 ≤ p ∧ p ≤ 9) (q1 : ∀ (V1 : ia_H), PI V1 → (V1 q = f) → (∀ pp, pp ∉ ([q] : List Nat) → V1 pp = V pp) → Q (.inl (some (0, (kr 1 f a p)))) Z V1) : ia_K yX0_fewestOfOrders cX0_fewestOfOrders 8 (some .int) [(4, ((q : Nat) : Int)), (0, (b : Int)), (0, (a : Int)), (0, p)] Z V 3 0 0 Q := by
  refine ia_start RX0 "fewestOfOrders" ⟨by decide, rfl, rfl⟩ (Nat.le_of_ble_eq_true rfl) (ia_tg rfl) (fun X F M => ?_)
  show ia_G X 0 0 0 [(4, ((q : Nat) : Int)), (0, (b : Int)), (0, (a : Int)), (0, p), (9, 0), (9, 0), (9, 0), (9, 0)] [] Z V
  refine ia_iload_n (pc := 0) F dX0_fewestOfOrders_0 rfl ?_
  refine ia_iload_n (pc := 1) F dX0_fewestOfOrders_1 rfl ?_
  refine ia_icmp_lt (pc := 2) F 7 dX0_fewestOfOrders_2 rfl (by omega) (by omega) (fun _ => ?_) (fun h9 => absurd h9 (by omega))
  refine ia_sipush (pc := 7) F dX0_fewestOfOrders_7 (by decide) ?_
  refine ia_istore (pc := 10) F (ls' := [(4, ((q : Nat) : Int)), (0, (b : Int)), (0, (a : Int)), (0, p), (0, 1000), (9, 0), (9, 0), (9, 0)]) dX0_fewestOfOrders_10 (Nat.le_of_ble_eq_true rfl) rfl rfl ?_
  refine ia_iload_n (pc := 12) F dX0_fewestOfOrders_12 rfl ?_
  refine ia_istore (pc := 13) F (ls' := [(4, ((q : Nat) : Int)), (0, (b : Int)), (0, (a : Int)), (0, p), (0, 1000), (0, (a : Int)), (9, 0), (9, 0)]) dX0_fewestOfOrders_13 (Nat.le_of_ble_eq_true rfl) rfl rfl ?_
  have L15 : ∀ (fu : Nat) (i : Nat) (V2 : ia_H), (1 - i < fu) → (i ≤ 1) → (PI V2) → (V2 q = f) → (∀ pp, pp ∉ ([q] : List Nat) → V2 pp = V pp) → ia_G X 0 0 15 [(4, ((q : Nat) : Int)), (0, (b : Int)), (0, (a : Int)), (0, p), (0, (fmn (fun i => wash p (f (a + i)) + kr 0 (swp f a (a + i)) (a + 1) (f (a + i))) i)), (0, ((a + i : Nat) : Int)), (9, 0), (9, 0)] [] Z V2 := by
    intro fu
    induction fu with
    | zero => intro i V2 hm; exact absurd hm (Nat.not_lt_zero _)
    | succ fu ih =>
      intro i V2 hm hi hP2 w2_q hF2
      have ih15 := ih
      refine ia_iload (pc := 15) F dX0_fewestOfOrders_15 rfl ?_
      refine ia_iload_n (pc := 17) F dX0_fewestOfOrders_17 rfl ?_
      refine ia_icmp_ge (pc := 18) F 74 dX0_fewestOfOrders_18 rfl (by omega) (by omega) (fun h_1 => ?_) (fun h_1 => ?_)
      · refine ia_iload (pc := 74) F dX0_fewestOfOrders_74 rfl ?_
        refine ia_ireturn (pc := 76) F M (by decide) (by decide) dX0_fewestOfOrders_76 ?_
        have e9 : i = 1 := by omega
        subst e9
        exact q1 _ hP2 w2_q hF2
      · have r9 := hr (a + i) (by omega)
        have r8 := kr_rng (b := b) 0 (swp f a (a + i)) (a + 1) (f (a + i)) (by omega) (swp_rng (by omega) (by omega) hr) r9
        have r7 := wash_rng hp9 r9
        have r6 := fmn_rng (g := (fun i => wash p (f (a + i)) + kr 0 (swp f a (a + i)) (a + 1) (f (a + i)))) i (fun j hj => by have w9 := wash_rng hp9 (hr (a + j) (by omega)); have k9 := kr_rng (b := b) 0 (swp f a (a + j)) (a + 1) (f (a + j)) (by omega) (swp_rng (by omega) (by omega) hr) (hr (a + j) (by omega)); show 0 ≤ wash p (f (a + j)) + _; omega)
        refine ia_aload_n (pc := 21) F dX0_fewestOfOrders_21 rfl ?_
        refine ia_iload_n (pc := 22) F dX0_fewestOfOrders_22 rfl ?_
        refine ia_iload (pc := 23) F dX0_fewestOfOrders_23 rfl ?_
        refine jS (pc := 25) F 0 0 (c_X0_swap q a (a + i) L1 hZ hP2 w2_q zq nqq (by omega) (fun V_2 p_3 w_4 f_5 => ?_)) rfl ⟨k_X0_swap, il_RX0_72, it_X0_swap, ii_RX0⟩ rfl 3 rfl hd_X0_swap ⟨by decide, by decide, by decide, by decide, Nat.le_of_ble_eq_true rfl⟩ dX0_fewestOfOrders_25
        refine j0 ?_
        refine ia_aload_n (pc := 28) F dX0_fewestOfOrders_28 rfl ?_
        refine ia_iload_n (pc := 29) F dX0_fewestOfOrders_29 rfl ?_
        refine ja (pc := 30) F (v := f (a + i)) zq a rfl (by omega) ((congrFun w_4 a).trans swp_l) dX0_fewestOfOrders_30 ?_
        refine ia_istore (pc := 31) F (ls' := [(4, ((q : Nat) : Int)), (0, (b : Int)), (0, (a : Int)), (0, p), (0, (fmn (fun i => wash p (f (a + i)) + kr 0 (swp f a (a + i)) (a + 1) (f (a + i))) i)), (0, ((a + i : Nat) : Int)), (0, f (a + i)), (9, 0)]) dX0_fewestOfOrders_31 (Nat.le_of_ble_eq_true rfl) rfl rfl ?_
        refine ia_aload_n (pc := 33) F dX0_fewestOfOrders_33 rfl ?_
        refine ia_iload_n (pc := 34) F dX0_fewestOfOrders_34 rfl ?_
        refine ia_iload_n (pc := 35) F dX0_fewestOfOrders_35 rfl ?_
        refine ia_iconst (pc := 36) F dX0_fewestOfOrders_36 ?_
        refine ia_iadd (pc := 37) F dX0_fewestOfOrders_37 ?_
        refine ia_iload (pc := 38) F dX0_fewestOfOrders_38 rfl ?_
        refine jS (pc := 40) F 0 0 (c_X0_fo0 q (a + 1) b L1 (f (a + i)) hZ p_3 w_4 zq nqq (by omega) (by omega) (swp_rng (by omega) (by omega) hr) (by omega) (fun V_6 p_7 w_8 f_9 => ?_)) rfl ⟨k_X0_fewestOfOrders, il_RX0_68, it_X0_fewestOfOrders, ii_RX0⟩ rfl 4 rfl hd_X0_fewestOfOrders ⟨by decide, by decide, by decide, by decide, Nat.le_of_ble_eq_true rfl⟩ dX0_fewestOfOrders_40
        refine j1 ?_
        refine ia_istore (pc := 43) F (ls' := [(4, ((q : Nat) : Int)), (0, (b : Int)), (0, (a : Int)), (0, p), (0, (fmn (fun i => wash p (f (a + i)) + kr 0 (swp f a (a + i)) (a + 1) (f (a + i))) i)), (0, ((a + i : Nat) : Int)), (0, f (a + i)), (0, (kr 0 (swp f a (a + i)) (a + 1) (f (a + i))))]) dX0_fewestOfOrders_43 (Nat.le_of_ble_eq_true rfl) rfl rfl ?_
        refine ia_iload (pc := 45) F dX0_fewestOfOrders_45 rfl ?_
        refine ia_iload_n (pc := 47) F dX0_fewestOfOrders_47 rfl ?_
        refine ia_iload (pc := 48) F dX0_fewestOfOrders_48 rfl ?_
        refine jSN (pc := 50) F 0 0 (c_X7_washMinutes p (f (a + i)) (by omega) (by omega) ?_) rfl ⟨k_X7_washMinutes, il_RX0_65, it_X7_washMinutes, ii_RX7⟩ 2 rfl hd_X7_washMinutes ⟨by decide, by decide, by decide, by decide, Nat.le_of_ble_eq_true rfl⟩ dX0_fewestOfOrders_50
        refine j1 ?_
        refine ia_iload (pc := 53) F dX0_fewestOfOrders_53 rfl ?_
        refine ia_iadd (pc := 55) F dX0_fewestOfOrders_55 ?_
        refine ia_min (pc := 56) F (by omega) (by omega) ⟨il_RX0_76, it_mmin, ii_RJ9, k_mmin⟩ ⟨by decide, Nat.le_of_ble_eq_true rfl, by decide, by decide⟩ dX0_fewestOfOrders_56 ?_
        rw [ia_minE (fmn (fun i => wash p (f (a + i)) + kr 0 (swp f a (a + i)) (a + 1) (f (a + i))) i) ((wash p (f (a + i))) + (kr 0 (swp f a (a + i)) (a + 1) (f (a + i))))]
        refine ia_istore (pc := 59) F (ls' := [(4, ((q : Nat) : Int)), (0, (b : Int)), (0, (a : Int)), (0, p), (0, (min (fmn (fun i => wash p (f (a + i)) + kr 0 (swp f a (a + i)) (a + 1) (f (a + i))) i) ((wash p (f (a + i))) + (kr 0 (swp f a (a + i)) (a + 1) (f (a + i)))))), (0, ((a + i : Nat) : Int)), (0, f (a + i)), (0, (kr 0 (swp f a (a + i)) (a + 1) (f (a + i))))]) dX0_fewestOfOrders_59 (Nat.le_of_ble_eq_true rfl) rfl rfl ?_
        refine ia_aload_n (pc := 61) F dX0_fewestOfOrders_61 rfl ?_
        refine ia_iload_n (pc := 62) F dX0_fewestOfOrders_62 rfl ?_
        refine ia_iload (pc := 63) F dX0_fewestOfOrders_63 rfl ?_
        refine jS (pc := 65) F 0 0 (c_X0_swap q a (a + i) L1 hZ p_7 w_8 zq nqq (by omega) (fun V_10 p_11 w_12 f_13 => ?_)) rfl ⟨k_X0_swap, il_RX0_72, it_X0_swap, ii_RX0⟩ rfl 3 rfl hd_X0_swap ⟨by decide, by decide, by decide, by decide, Nat.le_of_ble_eq_true rfl⟩ dX0_fewestOfOrders_65
        refine j0 ?_
        refine ia_iinc (pc := 68) F (ls' := [(4, ((q : Nat) : Int)), (0, (b : Int)), (0, (a : Int)), (0, p), (0, (min (fmn (fun i => wash p (f (a + i)) + kr 0 (swp f a (a + i)) (a + 1) (f (a + i))) i) ((wash p (f (a + i))) + (kr 0 (swp f a (a + i)) (a + 1) (f (a + i)))))), (0, (((a + i) + 1 : Nat) : Int)), (0, f (a + i)), (0, (kr 0 (swp f a (a + i)) (a + 1) (f (a + i))))]) dX0_fewestOfOrders_68 rfl rfl rfl rfl ?_
        refine ia_goto (pc := 71) F 15 dX0_fewestOfOrders_71 rfl ?_
        refine jw (ls' := [(4, ((q : Nat) : Int)), (0, (b : Int)), (0, (a : Int)), (0, p), (0, (min (fmn (fun i => wash p (f (a + i)) + kr 0 (swp f a (a + i)) (a + 1) (f (a + i))) i) ((wash p (f (a + i))) + (kr 0 (swp f a (a + i)) (a + 1) (f (a + i)))))), (0, (((a + i) + 1 : Nat) : Int)), (9, 0), (9, 0)]) [false, false, false, false, false, false, true, true] rfl ?_
        exact ih15 (i + 1) _ (by omega) (by omega) p_11 (w_12.trans swp_swp) (Fr_c (Fr_c (Fr_c hF2 f_5 (by simp)) f_9 (by simp)) f_13 (by simp))
  exact L15 (1 + 1) 0 _ (by omega) (by omega) hP hq (Fr_0 (V := V) (S := [q]))
set_option maxRecDepth 100000 in
theorem c_X0_fo2 {Z : ia_Z} {V : ia_H} {Q : ia_O → ia_Z → ia_H → Prop} {f : Nat → Int} (q a b L1 : Nat) (p : Int) (hZ : ZI Z) (hP : PI V) (hq : V q = f) (zq : q < Z.2.2 ∧ Z.1 q = 0 ∧ Z.2.1 q = L1) (nqq : ∀ k : Nat, ptr q k = none) (hb : b = a + 2) (hl : b ≤ L1 ∧ L1 ≤ 100) (hr : ∀ k : Nat, k < b → 0 ≤ f k ∧ f k ≤ 9) (hp9 : 0 ≤ p ∧ p ≤ 9) (q1 : ∀ (V1 : ia_H), PI V1 → (V1 q = f) → (∀ pp, pp ∉ ([q] : List Nat) → V1 pp = V pp) → Q (.inl (some (0, (kr 2 f a p)))) Z V1) : ia_K yX0_fewestOfOrders cX0_fewestOfOrders 8 (some .int) [(4, ((q : Nat) : Int)), (0, (b : Int)), (0, (a : Int)), (0, p)] Z V 4 0 0 Q := by
  refine ia_start RX0 "fewestOfOrders" ⟨by decide, rfl, rfl⟩ (Nat.le_of_ble_eq_true rfl) (ia_tg rfl) (fun X F M => ?_)
  show ia_G X 0 0 0 [(4, ((q : Nat) : Int)), (0, (b : Int)), (0, (a : Int)), (0, p), (9, 0), (9, 0), (9, 0), (9, 0)] [] Z V
  refine ia_iload_n (pc := 0) F dX0_fewestOfOrders_0 rfl ?_
  refine ia_iload_n (pc := 1) F dX0_fewestOfOrders_1 rfl ?_
  refine ia_icmp_lt (pc := 2) F 7 dX0_fewestOfOrders_2 rfl (by omega) (by omega) (fun _ => ?_) (fun h9 => absurd h9 (by omega))
  refine ia_sipush (pc := 7) F dX0_fewestOfOrders_7 (by decide) ?_
  refine ia_istore (pc := 10) F (ls' := [(4, ((q : Nat) : Int)), (0, (b : Int)), (0, (a : Int)), (0, p), (0, 1000), (9, 0), (9, 0), (9, 0)]) dX0_fewestOfOrders_10 (Nat.le_of_ble_eq_true rfl) rfl rfl ?_
  refine ia_iload_n (pc := 12) F dX0_fewestOfOrders_12 rfl ?_
  refine ia_istore (pc := 13) F (ls' := [(4, ((q : Nat) : Int)), (0, (b : Int)), (0, (a : Int)), (0, p), (0, 1000), (0, (a : Int)), (9, 0), (9, 0)]) dX0_fewestOfOrders_13 (Nat.le_of_ble_eq_true rfl) rfl rfl ?_
  have L15 : ∀ (fu : Nat) (i : Nat) (V2 : ia_H), (2 - i < fu) → (i ≤ 2) → (PI V2) → (V2 q = f) → (∀ pp, pp ∉ ([q] : List Nat) → V2 pp = V pp) → ia_G X 0 0 15 [(4, ((q : Nat) : Int)), (0, (b : Int)), (0, (a : Int)), (0, p), (0, (fmn (fun i => wash p (f (a + i)) + kr 1 (swp f a (a + i)) (a + 1) (f (a + i))) i)), (0, ((a + i : Nat) : Int)), (9, 0), (9, 0)] [] Z V2 := by
    intro fu
    induction fu with
    | zero => intro i V2 hm; exact absurd hm (Nat.not_lt_zero _)
    | succ fu ih =>
      intro i V2 hm hi hP2 w2_q hF2
      have ih15 := ih
      refine ia_iload (pc := 15) F dX0_fewestOfOrders_15 rfl ?_
      refine ia_iload_n (pc := 17) F dX0_fewestOfOrders_17 rfl ?_
      refine ia_icmp_ge (pc := 18) F 74 dX0_fewestOfOrders_18 rfl (by omega) (by omega) (fun h_1 => ?_) (fun h_1 => ?_)
      · refine ia_iload (pc := 74) F dX0_fewestOfOrders_74 rfl ?_
        refine ia_ireturn (pc := 76) F M (by decide) (by decide) dX0_fewestOfOrders_76 ?_
        have e9 : i = 2 := by omega
        subst e9
        exact q1 _ hP2 w2_q hF2
      · have r9 := hr (a + i) (by omega)
        have r8 := kr_rng (b := b) 1 (swp f a (a + i)) (a + 1) (f (a + i)) (by omega) (swp_rng (by omega) (by omega) hr) r9
        have r7 := wash_rng hp9 r9
        have r6 := fmn_rng (g := (fun i => wash p (f (a + i)) + kr 1 (swp f a (a + i)) (a + 1) (f (a + i)))) i (fun j hj => by have w9 := wash_rng hp9 (hr (a + j) (by omega)); have k9 := kr_rng (b := b) 1 (swp f a (a + j)) (a + 1) (f (a + j)) (by omega) (swp_rng (by omega) (by omega) hr) (hr (a + j) (by omega)); show 0 ≤ wash p (f (a + j)) + _; omega)
        refine ia_aload_n (pc := 21) F dX0_fewestOfOrders_21 rfl ?_
        refine ia_iload_n (pc := 22) F dX0_fewestOfOrders_22 rfl ?_
        refine ia_iload (pc := 23) F dX0_fewestOfOrders_23 rfl ?_
        refine jS (pc := 25) F 0 0 (c_X0_swap q a (a + i) L1 hZ hP2 w2_q zq nqq (by omega) (fun V_2 p_3 w_4 f_5 => ?_)) rfl ⟨k_X0_swap, il_RX0_72, it_X0_swap, ii_RX0⟩ rfl 3 rfl hd_X0_swap ⟨by decide, by decide, by decide, by decide, Nat.le_of_ble_eq_true rfl⟩ dX0_fewestOfOrders_25
        refine j0 ?_
        refine ia_aload_n (pc := 28) F dX0_fewestOfOrders_28 rfl ?_
        refine ia_iload_n (pc := 29) F dX0_fewestOfOrders_29 rfl ?_
        refine ja (pc := 30) F (v := f (a + i)) zq a rfl (by omega) ((congrFun w_4 a).trans swp_l) dX0_fewestOfOrders_30 ?_
        refine ia_istore (pc := 31) F (ls' := [(4, ((q : Nat) : Int)), (0, (b : Int)), (0, (a : Int)), (0, p), (0, (fmn (fun i => wash p (f (a + i)) + kr 1 (swp f a (a + i)) (a + 1) (f (a + i))) i)), (0, ((a + i : Nat) : Int)), (0, f (a + i)), (9, 0)]) dX0_fewestOfOrders_31 (Nat.le_of_ble_eq_true rfl) rfl rfl ?_
        refine ia_aload_n (pc := 33) F dX0_fewestOfOrders_33 rfl ?_
        refine ia_iload_n (pc := 34) F dX0_fewestOfOrders_34 rfl ?_
        refine ia_iload_n (pc := 35) F dX0_fewestOfOrders_35 rfl ?_
        refine ia_iconst (pc := 36) F dX0_fewestOfOrders_36 ?_
        refine ia_iadd (pc := 37) F dX0_fewestOfOrders_37 ?_
        refine ia_iload (pc := 38) F dX0_fewestOfOrders_38 rfl ?_
        refine jS (pc := 40) F 0 0 (c_X0_fo1 q (a + 1) b L1 (f (a + i)) hZ p_3 w_4 zq nqq (by omega) (by omega) (swp_rng (by omega) (by omega) hr) (by omega) (fun V_6 p_7 w_8 f_9 => ?_)) rfl ⟨k_X0_fewestOfOrders, il_RX0_68, it_X0_fewestOfOrders, ii_RX0⟩ rfl 4 rfl hd_X0_fewestOfOrders ⟨by decide, by decide, by decide, by decide, Nat.le_of_ble_eq_true rfl⟩ dX0_fewestOfOrders_40
        refine j1 ?_
        refine ia_istore (pc := 43) F (ls' := [(4, ((q : Nat) : Int)), (0, (b : Int)), (0, (a : Int)), (0, p), (0, (fmn (fun i => wash p (f (a + i)) + kr 1 (swp f a (a + i)) (a + 1) (f (a + i))) i)), (0, ((a + i : Nat) : Int)), (0, f (a + i)), (0, (kr 1 (swp f a (a + i)) (a + 1) (f (a + i))))]) dX0_fewestOfOrders_43 (Nat.le_of_ble_eq_true rfl) rfl rfl ?_
        refine ia_iload (pc := 45) F dX0_fewestOfOrders_45 rfl ?_
        refine ia_iload_n (pc := 47) F dX0_fewestOfOrders_47 rfl ?_
        refine ia_iload (pc := 48) F dX0_fewestOfOrders_48 rfl ?_
        refine jSN (pc := 50) F 0 0 (c_X7_washMinutes p (f (a + i)) (by omega) (by omega) ?_) rfl ⟨k_X7_washMinutes, il_RX0_65, it_X7_washMinutes, ii_RX7⟩ 2 rfl hd_X7_washMinutes ⟨by decide, by decide, by decide, by decide, Nat.le_of_ble_eq_true rfl⟩ dX0_fewestOfOrders_50
        refine j1 ?_
        refine ia_iload (pc := 53) F dX0_fewestOfOrders_53 rfl ?_
        refine ia_iadd (pc := 55) F dX0_fewestOfOrders_55 ?_
        refine ia_min (pc := 56) F (by omega) (by omega) ⟨il_RX0_76, it_mmin, ii_RJ9, k_mmin⟩ ⟨by decide, Nat.le_of_ble_eq_true rfl, by decide, by decide⟩ dX0_fewestOfOrders_56 ?_
        rw [ia_minE (fmn (fun i => wash p (f (a + i)) + kr 1 (swp f a (a + i)) (a + 1) (f (a + i))) i) ((wash p (f (a + i))) + (kr 1 (swp f a (a + i)) (a + 1) (f (a + i))))]
        refine ia_istore (pc := 59) F (ls' := [(4, ((q : Nat) : Int)), (0, (b : Int)), (0, (a : Int)), (0, p), (0, (min (fmn (fun i => wash p (f (a + i)) + kr 1 (swp f a (a + i)) (a + 1) (f (a + i))) i) ((wash p (f (a + i))) + (kr 1 (swp f a (a + i)) (a + 1) (f (a + i)))))), (0, ((a + i : Nat) : Int)), (0, f (a + i)), (0, (kr 1 (swp f a (a + i)) (a + 1) (f (a + i))))]) dX0_fewestOfOrders_59 (Nat.le_of_ble_eq_true rfl) rfl rfl ?_
        refine ia_aload_n (pc := 61) F dX0_fewestOfOrders_61 rfl ?_
        refine ia_iload_n (pc := 62) F dX0_fewestOfOrders_62 rfl ?_
        refine ia_iload (pc := 63) F dX0_fewestOfOrders_63 rfl ?_
        refine jS (pc := 65) F 0 0 (c_X0_swap q a (a + i) L1 hZ p_7 w_8 zq nqq (by omega) (fun V_10 p_11 w_12 f_13 => ?_)) rfl ⟨k_X0_swap, il_RX0_72, it_X0_swap, ii_RX0⟩ rfl 3 rfl hd_X0_swap ⟨by decide, by decide, by decide, by decide, Nat.le_of_ble_eq_true rfl⟩ dX0_fewestOfOrders_65
        refine j0 ?_
        refine ia_iinc (pc := 68) F (ls' := [(4, ((q : Nat) : Int)), (0, (b : Int)), (0, (a : Int)), (0, p), (0, (min (fmn (fun i => wash p (f (a + i)) + kr 1 (swp f a (a + i)) (a + 1) (f (a + i))) i) ((wash p (f (a + i))) + (kr 1 (swp f a (a + i)) (a + 1) (f (a + i)))))), (0, (((a + i) + 1 : Nat) : Int)), (0, f (a + i)), (0, (kr 1 (swp f a (a + i)) (a + 1) (f (a + i))))]) dX0_fewestOfOrders_68 rfl rfl rfl rfl ?_
        refine ia_goto (pc := 71) F 15 dX0_fewestOfOrders_71 rfl ?_
        refine jw (ls' := [(4, ((q : Nat) : Int)), (0, (b : Int)), (0, (a : Int)), (0, p), (0, (min (fmn (fun i => wash p (f (a + i)) + kr 1 (swp f a (a + i)) (a + 1) (f (a + i))) i) ((wash p (f (a + i))) + (kr 1 (swp f a (a + i)) (a + 1) (f (a + i)))))), (0, (((a + i) + 1 : Nat) : Int)), (9, 0), (9, 0)]) [false, false, false, false, false, false, true, true] rfl ?_
        exact ih15 (i + 1) _ (by omega) (by omega) p_11 (w_12.trans swp_swp) (Fr_c (Fr_c (Fr_c hF2 f_5 (by simp)) f_9 (by simp)) f_13 (by simp))
  exact L15 (2 + 1) 0 _ (by omega) (by omega) hP hq (Fr_0 (V := V) (S := [q]))
set_option maxRecDepth 100000 in
theorem c_X0_fo3 {Z : ia_Z} {V : ia_H} {Q : ia_O → ia_Z → ia_H → Prop} {f : Nat → Int} (q a b L1 : Nat) (p : Int) (hZ : ZI Z) (hP : PI V) (hq : V q = f) (zq : q < Z.2.2 ∧ Z.1 q = 0 ∧ Z.2.1 q = L1) (nqq : ∀ k : Nat, ptr q k = none) (hb : b = a + 3) (hl : b ≤ L1 ∧ L1 ≤ 100) (hr : ∀ k : Nat, k < b → 0 ≤ f k ∧ f k ≤ 9) (hp9 : 0 ≤ p ∧ p ≤ 9) (q1 : ∀ (V1 : ia_H), PI V1 → (V1 q = f) → (∀ pp, pp ∉ ([q] : List Nat) → V1 pp = V pp) → Q (.inl (some (0, (kr 3 f a p)))) Z V1) : ia_K yX0_fewestOfOrders cX0_fewestOfOrders 8 (some .int) [(4, ((q : Nat) : Int)), (0, (b : Int)), (0, (a : Int)), (0, p)] Z V 5 0 0 Q := by
  refine ia_start RX0 "fewestOfOrders" ⟨by decide, rfl, rfl⟩ (Nat.le_of_ble_eq_true rfl) (ia_tg rfl) (fun X F M => ?_)
  show ia_G X 0 0 0 [(4, ((q : Nat) : Int)), (0, (b : Int)), (0, (a : Int)), (0, p), (9, 0), (9, 0), (9, 0), (9, 0)] [] Z V
  refine ia_iload_n (pc := 0) F dX0_fewestOfOrders_0 rfl ?_
  refine ia_iload_n (pc := 1) F dX0_fewestOfOrders_1 rfl ?_
  refine ia_icmp_lt (pc := 2) F 7 dX0_fewestOfOrders_2 rfl (by omega) (by omega) (fun _ => ?_) (fun h9 => absurd h9 (by omega))
  refine ia_sipush (pc := 7) F dX0_fewestOfOrders_7 (by decide) ?_
  refine ia_istore (pc := 10) F (ls' := [(4, ((q : Nat) : Int)), (0, (b : Int)), (0, (a : Int)), (0, p), (0, 1000), (9, 0), (9, 0), (9, 0)]) dX0_fewestOfOrders_10 (Nat.le_of_ble_eq_true rfl) rfl rfl ?_
  refine ia_iload_n (pc := 12) F dX0_fewestOfOrders_12 rfl ?_
  refine ia_istore (pc := 13) F (ls' := [(4, ((q : Nat) : Int)), (0, (b : Int)), (0, (a : Int)), (0, p), (0, 1000), (0, (a : Int)), (9, 0), (9, 0)]) dX0_fewestOfOrders_13 (Nat.le_of_ble_eq_true rfl) rfl rfl ?_
  have L15 : ∀ (fu : Nat) (i : Nat) (V2 : ia_H), (3 - i < fu) → (i ≤ 3) → (PI V2) → (V2 q = f) → (∀ pp, pp ∉ ([q] : List Nat) → V2 pp = V pp) → ia_G X 0 0 15 [(4, ((q : Nat) : Int)), (0, (b : Int)), (0, (a : Int)), (0, p), (0, (fmn (fun i => wash p (f (a + i)) + kr 2 (swp f a (a + i)) (a + 1) (f (a + i))) i)), (0, ((a + i : Nat) : Int)), (9, 0), (9, 0)] [] Z V2 := by
    intro fu
    induction fu with
    | zero => intro i V2 hm; exact absurd hm (Nat.not_lt_zero _)
    | succ fu ih =>
      intro i V2 hm hi hP2 w2_q hF2
      have ih15 := ih
      refine ia_iload (pc := 15) F dX0_fewestOfOrders_15 rfl ?_
      refine ia_iload_n (pc := 17) F dX0_fewestOfOrders_17 rfl ?_
      refine ia_icmp_ge (pc := 18) F 74 dX0_fewestOfOrders_18 rfl (by omega) (by omega) (fun h_1 => ?_) (fun h_1 => ?_)
      · refine ia_iload (pc := 74) F dX0_fewestOfOrders_74 rfl ?_
        refine ia_ireturn (pc := 76) F M (by decide) (by decide) dX0_fewestOfOrders_76 ?_
        have e9 : i = 3 := by omega
        subst e9
        exact q1 _ hP2 w2_q hF2
      · have r9 := hr (a + i) (by omega)
        have r8 := kr_rng (b := b) 2 (swp f a (a + i)) (a + 1) (f (a + i)) (by omega) (swp_rng (by omega) (by omega) hr) r9
        have r7 := wash_rng hp9 r9
        have r6 := fmn_rng (g := (fun i => wash p (f (a + i)) + kr 2 (swp f a (a + i)) (a + 1) (f (a + i)))) i (fun j hj => by have w9 := wash_rng hp9 (hr (a + j) (by omega)); have k9 := kr_rng (b := b) 2 (swp f a (a + j)) (a + 1) (f (a + j)) (by omega) (swp_rng (by omega) (by omega) hr) (hr (a + j) (by omega)); show 0 ≤ wash p (f (a + j)) + _; omega)
        refine ia_aload_n (pc := 21) F dX0_fewestOfOrders_21 rfl ?_
        refine ia_iload_n (pc := 22) F dX0_fewestOfOrders_22 rfl ?_
        refine ia_iload (pc := 23) F dX0_fewestOfOrders_23 rfl ?_
        refine jS (pc := 25) F 0 0 (c_X0_swap q a (a + i) L1 hZ hP2 w2_q zq nqq (by omega) (fun V_2 p_3 w_4 f_5 => ?_)) rfl ⟨k_X0_swap, il_RX0_72, it_X0_swap, ii_RX0⟩ rfl 3 rfl hd_X0_swap ⟨by decide, by decide, by decide, by decide, Nat.le_of_ble_eq_true rfl⟩ dX0_fewestOfOrders_25
        refine j0 ?_
        refine ia_aload_n (pc := 28) F dX0_fewestOfOrders_28 rfl ?_
        refine ia_iload_n (pc := 29) F dX0_fewestOfOrders_29 rfl ?_
        refine ja (pc := 30) F (v := f (a + i)) zq a rfl (by omega) ((congrFun w_4 a).trans swp_l) dX0_fewestOfOrders_30 ?_
        refine ia_istore (pc := 31) F (ls' := [(4, ((q : Nat) : Int)), (0, (b : Int)), (0, (a : Int)), (0, p), (0, (fmn (fun i => wash p (f (a + i)) + kr 2 (swp f a (a + i)) (a + 1) (f (a + i))) i)), (0, ((a + i : Nat) : Int)), (0, f (a + i)), (9, 0)]) dX0_fewestOfOrders_31 (Nat.le_of_ble_eq_true rfl) rfl rfl ?_
        refine ia_aload_n (pc := 33) F dX0_fewestOfOrders_33 rfl ?_
        refine ia_iload_n (pc := 34) F dX0_fewestOfOrders_34 rfl ?_
        refine ia_iload_n (pc := 35) F dX0_fewestOfOrders_35 rfl ?_
        refine ia_iconst (pc := 36) F dX0_fewestOfOrders_36 ?_
        refine ia_iadd (pc := 37) F dX0_fewestOfOrders_37 ?_
        refine ia_iload (pc := 38) F dX0_fewestOfOrders_38 rfl ?_
        refine jS (pc := 40) F 0 0 (c_X0_fo2 q (a + 1) b L1 (f (a + i)) hZ p_3 w_4 zq nqq (by omega) (by omega) (swp_rng (by omega) (by omega) hr) (by omega) (fun V_6 p_7 w_8 f_9 => ?_)) rfl ⟨k_X0_fewestOfOrders, il_RX0_68, it_X0_fewestOfOrders, ii_RX0⟩ rfl 4 rfl hd_X0_fewestOfOrders ⟨by decide, by decide, by decide, by decide, Nat.le_of_ble_eq_true rfl⟩ dX0_fewestOfOrders_40
        refine j1 ?_
        refine ia_istore (pc := 43) F (ls' := [(4, ((q : Nat) : Int)), (0, (b : Int)), (0, (a : Int)), (0, p), (0, (fmn (fun i => wash p (f (a + i)) + kr 2 (swp f a (a + i)) (a + 1) (f (a + i))) i)), (0, ((a + i : Nat) : Int)), (0, f (a + i)), (0, (kr 2 (swp f a (a + i)) (a + 1) (f (a + i))))]) dX0_fewestOfOrders_43 (Nat.le_of_ble_eq_true rfl) rfl rfl ?_
        refine ia_iload (pc := 45) F dX0_fewestOfOrders_45 rfl ?_
        refine ia_iload_n (pc := 47) F dX0_fewestOfOrders_47 rfl ?_
        refine ia_iload (pc := 48) F dX0_fewestOfOrders_48 rfl ?_
        refine jSN (pc := 50) F 0 0 (c_X7_washMinutes p (f (a + i)) (by omega) (by omega) ?_) rfl ⟨k_X7_washMinutes, il_RX0_65, it_X7_washMinutes, ii_RX7⟩ 2 rfl hd_X7_washMinutes ⟨by decide, by decide, by decide, by decide, Nat.le_of_ble_eq_true rfl⟩ dX0_fewestOfOrders_50
        refine j1 ?_
        refine ia_iload (pc := 53) F dX0_fewestOfOrders_53 rfl ?_
        refine ia_iadd (pc := 55) F dX0_fewestOfOrders_55 ?_
        refine ia_min (pc := 56) F (by omega) (by omega) ⟨il_RX0_76, it_mmin, ii_RJ9, k_mmin⟩ ⟨by decide, Nat.le_of_ble_eq_true rfl, by decide, by decide⟩ dX0_fewestOfOrders_56 ?_
        rw [ia_minE (fmn (fun i => wash p (f (a + i)) + kr 2 (swp f a (a + i)) (a + 1) (f (a + i))) i) ((wash p (f (a + i))) + (kr 2 (swp f a (a + i)) (a + 1) (f (a + i))))]
        refine ia_istore (pc := 59) F (ls' := [(4, ((q : Nat) : Int)), (0, (b : Int)), (0, (a : Int)), (0, p), (0, (min (fmn (fun i => wash p (f (a + i)) + kr 2 (swp f a (a + i)) (a + 1) (f (a + i))) i) ((wash p (f (a + i))) + (kr 2 (swp f a (a + i)) (a + 1) (f (a + i)))))), (0, ((a + i : Nat) : Int)), (0, f (a + i)), (0, (kr 2 (swp f a (a + i)) (a + 1) (f (a + i))))]) dX0_fewestOfOrders_59 (Nat.le_of_ble_eq_true rfl) rfl rfl ?_
        refine ia_aload_n (pc := 61) F dX0_fewestOfOrders_61 rfl ?_
        refine ia_iload_n (pc := 62) F dX0_fewestOfOrders_62 rfl ?_
        refine ia_iload (pc := 63) F dX0_fewestOfOrders_63 rfl ?_
        refine jS (pc := 65) F 0 0 (c_X0_swap q a (a + i) L1 hZ p_7 w_8 zq nqq (by omega) (fun V_10 p_11 w_12 f_13 => ?_)) rfl ⟨k_X0_swap, il_RX0_72, it_X0_swap, ii_RX0⟩ rfl 3 rfl hd_X0_swap ⟨by decide, by decide, by decide, by decide, Nat.le_of_ble_eq_true rfl⟩ dX0_fewestOfOrders_65
        refine j0 ?_
        refine ia_iinc (pc := 68) F (ls' := [(4, ((q : Nat) : Int)), (0, (b : Int)), (0, (a : Int)), (0, p), (0, (min (fmn (fun i => wash p (f (a + i)) + kr 2 (swp f a (a + i)) (a + 1) (f (a + i))) i) ((wash p (f (a + i))) + (kr 2 (swp f a (a + i)) (a + 1) (f (a + i)))))), (0, (((a + i) + 1 : Nat) : Int)), (0, f (a + i)), (0, (kr 2 (swp f a (a + i)) (a + 1) (f (a + i))))]) dX0_fewestOfOrders_68 rfl rfl rfl rfl ?_
        refine ia_goto (pc := 71) F 15 dX0_fewestOfOrders_71 rfl ?_
        refine jw (ls' := [(4, ((q : Nat) : Int)), (0, (b : Int)), (0, (a : Int)), (0, p), (0, (min (fmn (fun i => wash p (f (a + i)) + kr 2 (swp f a (a + i)) (a + 1) (f (a + i))) i) ((wash p (f (a + i))) + (kr 2 (swp f a (a + i)) (a + 1) (f (a + i)))))), (0, (((a + i) + 1 : Nat) : Int)), (9, 0), (9, 0)]) [false, false, false, false, false, false, true, true] rfl ?_
        exact ih15 (i + 1) _ (by omega) (by omega) p_11 (w_12.trans swp_swp) (Fr_c (Fr_c (Fr_c hF2 f_5 (by simp)) f_9 (by simp)) f_13 (by simp))
  exact L15 (3 + 1) 0 _ (by omega) (by omega) hP hq (Fr_0 (V := V) (S := [q]))
set_option maxRecDepth 100000 in
theorem c_X0_fo4 {Z : ia_Z} {V : ia_H} {Q : ia_O → ia_Z → ia_H → Prop} {f : Nat → Int} (q a b L1 : Nat) (p : Int) (hZ : ZI Z) (hP : PI V) (hq : V q = f) (zq : q < Z.2.2 ∧ Z.1 q = 0 ∧ Z.2.1 q = L1) (nqq : ∀ k : Nat, ptr q k = none) (hb : b = a + 4) (hl : b ≤ L1 ∧ L1 ≤ 100) (hr : ∀ k : Nat, k < b → 0 ≤ f k ∧ f k ≤ 9) (hp9 : 0 ≤ p ∧ p ≤ 9) (q1 : ∀ (V1 : ia_H), PI V1 → (V1 q = f) → (∀ pp, pp ∉ ([q] : List Nat) → V1 pp = V pp) → Q (.inl (some (0, (kr 4 f a p)))) Z V1) : ia_K yX0_fewestOfOrders cX0_fewestOfOrders 8 (some .int) [(4, ((q : Nat) : Int)), (0, (b : Int)), (0, (a : Int)), (0, p)] Z V 6 0 0 Q := by
  refine ia_start RX0 "fewestOfOrders" ⟨by decide, rfl, rfl⟩ (Nat.le_of_ble_eq_true rfl) (ia_tg rfl) (fun X F M => ?_)
  show ia_G X 0 0 0 [(4, ((q : Nat) : Int)), (0, (b : Int)), (0, (a : Int)), (0, p), (9, 0), (9, 0), (9, 0), (9, 0)] [] Z V
  refine ia_iload_n (pc := 0) F dX0_fewestOfOrders_0 rfl ?_
  refine ia_iload_n (pc := 1) F dX0_fewestOfOrders_1 rfl ?_
  refine ia_icmp_lt (pc := 2) F 7 dX0_fewestOfOrders_2 rfl (by omega) (by omega) (fun _ => ?_) (fun h9 => absurd h9 (by omega))
  refine ia_sipush (pc := 7) F dX0_fewestOfOrders_7 (by decide) ?_
  refine ia_istore (pc := 10) F (ls' := [(4, ((q : Nat) : Int)), (0, (b : Int)), (0, (a : Int)), (0, p), (0, 1000), (9, 0), (9, 0), (9, 0)]) dX0_fewestOfOrders_10 (Nat.le_of_ble_eq_true rfl) rfl rfl ?_
  refine ia_iload_n (pc := 12) F dX0_fewestOfOrders_12 rfl ?_
  refine ia_istore (pc := 13) F (ls' := [(4, ((q : Nat) : Int)), (0, (b : Int)), (0, (a : Int)), (0, p), (0, 1000), (0, (a : Int)), (9, 0), (9, 0)]) dX0_fewestOfOrders_13 (Nat.le_of_ble_eq_true rfl) rfl rfl ?_
  have L15 : ∀ (fu : Nat) (i : Nat) (V2 : ia_H), (4 - i < fu) → (i ≤ 4) → (PI V2) → (V2 q = f) → (∀ pp, pp ∉ ([q] : List Nat) → V2 pp = V pp) → ia_G X 0 0 15 [(4, ((q : Nat) : Int)), (0, (b : Int)), (0, (a : Int)), (0, p), (0, (fmn (fun i => wash p (f (a + i)) + kr 3 (swp f a (a + i)) (a + 1) (f (a + i))) i)), (0, ((a + i : Nat) : Int)), (9, 0), (9, 0)] [] Z V2 := by
    intro fu
    induction fu with
    | zero => intro i V2 hm; exact absurd hm (Nat.not_lt_zero _)
    | succ fu ih =>
      intro i V2 hm hi hP2 w2_q hF2
      have ih15 := ih
      refine ia_iload (pc := 15) F dX0_fewestOfOrders_15 rfl ?_
      refine ia_iload_n (pc := 17) F dX0_fewestOfOrders_17 rfl ?_
      refine ia_icmp_ge (pc := 18) F 74 dX0_fewestOfOrders_18 rfl (by omega) (by omega) (fun h_1 => ?_) (fun h_1 => ?_)
      · refine ia_iload (pc := 74) F dX0_fewestOfOrders_74 rfl ?_
        refine ia_ireturn (pc := 76) F M (by decide) (by decide) dX0_fewestOfOrders_76 ?_
        have e9 : i = 4 := by omega
        subst e9
        exact q1 _ hP2 w2_q hF2
      · have r9 := hr (a + i) (by omega)
        have r8 := kr_rng (b := b) 3 (swp f a (a + i)) (a + 1) (f (a + i)) (by omega) (swp_rng (by omega) (by omega) hr) r9
        have r7 := wash_rng hp9 r9
        have r6 := fmn_rng (g := (fun i => wash p (f (a + i)) + kr 3 (swp f a (a + i)) (a + 1) (f (a + i)))) i (fun j hj => by have w9 := wash_rng hp9 (hr (a + j) (by omega)); have k9 := kr_rng (b := b) 3 (swp f a (a + j)) (a + 1) (f (a + j)) (by omega) (swp_rng (by omega) (by omega) hr) (hr (a + j) (by omega)); show 0 ≤ wash p (f (a + j)) + _; omega)
        refine ia_aload_n (pc := 21) F dX0_fewestOfOrders_21 rfl ?_
        refine ia_iload_n (pc := 22) F dX0_fewestOfOrders_22 rfl ?_
        refine ia_iload (pc := 23) F dX0_fewestOfOrders_23 rfl ?_
        refine jS (pc := 25) F 0 0 (c_X0_swap q a (a + i) L1 hZ hP2 w2_q zq nqq (by omega) (fun V_2 p_3 w_4 f_5 => ?_)) rfl ⟨k_X0_swap, il_RX0_72, it_X0_swap, ii_RX0⟩ rfl 3 rfl hd_X0_swap ⟨by decide, by decide, by decide, by decide, Nat.le_of_ble_eq_true rfl⟩ dX0_fewestOfOrders_25
        refine j0 ?_
        refine ia_aload_n (pc := 28) F dX0_fewestOfOrders_28 rfl ?_
        refine ia_iload_n (pc := 29) F dX0_fewestOfOrders_29 rfl ?_
        refine ja (pc := 30) F (v := f (a + i)) zq a rfl (by omega) ((congrFun w_4 a).trans swp_l) dX0_fewestOfOrders_30 ?_
        refine ia_istore (pc := 31) F (ls' := [(4, ((q : Nat) : Int)), (0, (b : Int)), (0, (a : Int)), (0, p), (0, (fmn (fun i => wash p (f (a + i)) + kr 3 (swp f a (a + i)) (a + 1) (f (a + i))) i)), (0, ((a + i : Nat) : Int)), (0, f (a + i)), (9, 0)]) dX0_fewestOfOrders_31 (Nat.le_of_ble_eq_true rfl) rfl rfl ?_
        refine ia_aload_n (pc := 33) F dX0_fewestOfOrders_33 rfl ?_
        refine ia_iload_n (pc := 34) F dX0_fewestOfOrders_34 rfl ?_
        refine ia_iload_n (pc := 35) F dX0_fewestOfOrders_35 rfl ?_
        refine ia_iconst (pc := 36) F dX0_fewestOfOrders_36 ?_
        refine ia_iadd (pc := 37) F dX0_fewestOfOrders_37 ?_
        refine ia_iload (pc := 38) F dX0_fewestOfOrders_38 rfl ?_
        refine jS (pc := 40) F 0 0 (c_X0_fo3 q (a + 1) b L1 (f (a + i)) hZ p_3 w_4 zq nqq (by omega) (by omega) (swp_rng (by omega) (by omega) hr) (by omega) (fun V_6 p_7 w_8 f_9 => ?_)) rfl ⟨k_X0_fewestOfOrders, il_RX0_68, it_X0_fewestOfOrders, ii_RX0⟩ rfl 4 rfl hd_X0_fewestOfOrders ⟨by decide, by decide, by decide, by decide, Nat.le_of_ble_eq_true rfl⟩ dX0_fewestOfOrders_40
        refine j1 ?_
        refine ia_istore (pc := 43) F (ls' := [(4, ((q : Nat) : Int)), (0, (b : Int)), (0, (a : Int)), (0, p), (0, (fmn (fun i => wash p (f (a + i)) + kr 3 (swp f a (a + i)) (a + 1) (f (a + i))) i)), (0, ((a + i : Nat) : Int)), (0, f (a + i)), (0, (kr 3 (swp f a (a + i)) (a + 1) (f (a + i))))]) dX0_fewestOfOrders_43 (Nat.le_of_ble_eq_true rfl) rfl rfl ?_
        refine ia_iload (pc := 45) F dX0_fewestOfOrders_45 rfl ?_
        refine ia_iload_n (pc := 47) F dX0_fewestOfOrders_47 rfl ?_
        refine ia_iload (pc := 48) F dX0_fewestOfOrders_48 rfl ?_
        refine jSN (pc := 50) F 0 0 (c_X7_washMinutes p (f (a + i)) (by omega) (by omega) ?_) rfl ⟨k_X7_washMinutes, il_RX0_65, it_X7_washMinutes, ii_RX7⟩ 2 rfl hd_X7_washMinutes ⟨by decide, by decide, by decide, by decide, Nat.le_of_ble_eq_true rfl⟩ dX0_fewestOfOrders_50
        refine j1 ?_
        refine ia_iload (pc := 53) F dX0_fewestOfOrders_53 rfl ?_
        refine ia_iadd (pc := 55) F dX0_fewestOfOrders_55 ?_
        refine ia_min (pc := 56) F (by omega) (by omega) ⟨il_RX0_76, it_mmin, ii_RJ9, k_mmin⟩ ⟨by decide, Nat.le_of_ble_eq_true rfl, by decide, by decide⟩ dX0_fewestOfOrders_56 ?_
        rw [ia_minE (fmn (fun i => wash p (f (a + i)) + kr 3 (swp f a (a + i)) (a + 1) (f (a + i))) i) ((wash p (f (a + i))) + (kr 3 (swp f a (a + i)) (a + 1) (f (a + i))))]
        refine ia_istore (pc := 59) F (ls' := [(4, ((q : Nat) : Int)), (0, (b : Int)), (0, (a : Int)), (0, p), (0, (min (fmn (fun i => wash p (f (a + i)) + kr 3 (swp f a (a + i)) (a + 1) (f (a + i))) i) ((wash p (f (a + i))) + (kr 3 (swp f a (a + i)) (a + 1) (f (a + i)))))), (0, ((a + i : Nat) : Int)), (0, f (a + i)), (0, (kr 3 (swp f a (a + i)) (a + 1) (f (a + i))))]) dX0_fewestOfOrders_59 (Nat.le_of_ble_eq_true rfl) rfl rfl ?_
        refine ia_aload_n (pc := 61) F dX0_fewestOfOrders_61 rfl ?_
        refine ia_iload_n (pc := 62) F dX0_fewestOfOrders_62 rfl ?_
        refine ia_iload (pc := 63) F dX0_fewestOfOrders_63 rfl ?_
        refine jS (pc := 65) F 0 0 (c_X0_swap q a (a + i) L1 hZ p_7 w_8 zq nqq (by omega) (fun V_10 p_11 w_12 f_13 => ?_)) rfl ⟨k_X0_swap, il_RX0_72, it_X0_swap, ii_RX0⟩ rfl 3 rfl hd_X0_swap ⟨by decide, by decide, by decide, by decide, Nat.le_of_ble_eq_true rfl⟩ dX0_fewestOfOrders_65
        refine j0 ?_
        refine ia_iinc (pc := 68) F (ls' := [(4, ((q : Nat) : Int)), (0, (b : Int)), (0, (a : Int)), (0, p), (0, (min (fmn (fun i => wash p (f (a + i)) + kr 3 (swp f a (a + i)) (a + 1) (f (a + i))) i) ((wash p (f (a + i))) + (kr 3 (swp f a (a + i)) (a + 1) (f (a + i)))))), (0, (((a + i) + 1 : Nat) : Int)), (0, f (a + i)), (0, (kr 3 (swp f a (a + i)) (a + 1) (f (a + i))))]) dX0_fewestOfOrders_68 rfl rfl rfl rfl ?_
        refine ia_goto (pc := 71) F 15 dX0_fewestOfOrders_71 rfl ?_
        refine jw (ls' := [(4, ((q : Nat) : Int)), (0, (b : Int)), (0, (a : Int)), (0, p), (0, (min (fmn (fun i => wash p (f (a + i)) + kr 3 (swp f a (a + i)) (a + 1) (f (a + i))) i) ((wash p (f (a + i))) + (kr 3 (swp f a (a + i)) (a + 1) (f (a + i)))))), (0, (((a + i) + 1 : Nat) : Int)), (9, 0), (9, 0)]) [false, false, false, false, false, false, true, true] rfl ?_
        exact ih15 (i + 1) _ (by omega) (by omega) p_11 (w_12.trans swp_swp) (Fr_c (Fr_c (Fr_c hF2 f_5 (by simp)) f_9 (by simp)) f_13 (by simp))
  exact L15 (4 + 1) 0 _ (by omega) (by omega) hP hq (Fr_0 (V := V) (S := [q]))
set_option maxRecDepth 100000 in
theorem c_X0_fo5 {Z : ia_Z} {V : ia_H} {Q : ia_O → ia_Z → ia_H → Prop} {f : Nat → Int} (q a b L1 : Nat) (p : Int) (hZ : ZI Z) (hP : PI V) (hq : V q = f) (zq : q < Z.2.2 ∧ Z.1 q = 0 ∧ Z.2.1 q = L1) (nqq : ∀ k : Nat, ptr q k = none) (hb : b = a + 5) (hl : b ≤ L1 ∧ L1 ≤ 100) (hr : ∀ k : Nat, k < b → 0 ≤ f k ∧ f k ≤ 9) (hp9 : 0 ≤ p ∧ p ≤ 9) (q1 : ∀ (V1 : ia_H), PI V1 → (V1 q = f) → (∀ pp, pp ∉ ([q] : List Nat) → V1 pp = V pp) → Q (.inl (some (0, (kr 5 f a p)))) Z V1) : ia_K yX0_fewestOfOrders cX0_fewestOfOrders 8 (some .int) [(4, ((q : Nat) : Int)), (0, (b : Int)), (0, (a : Int)), (0, p)] Z V 7 0 0 Q := by
  refine ia_start RX0 "fewestOfOrders" ⟨by decide, rfl, rfl⟩ (Nat.le_of_ble_eq_true rfl) (ia_tg rfl) (fun X F M => ?_)
  show ia_G X 0 0 0 [(4, ((q : Nat) : Int)), (0, (b : Int)), (0, (a : Int)), (0, p), (9, 0), (9, 0), (9, 0), (9, 0)] [] Z V
  refine ia_iload_n (pc := 0) F dX0_fewestOfOrders_0 rfl ?_
  refine ia_iload_n (pc := 1) F dX0_fewestOfOrders_1 rfl ?_
  refine ia_icmp_lt (pc := 2) F 7 dX0_fewestOfOrders_2 rfl (by omega) (by omega) (fun _ => ?_) (fun h9 => absurd h9 (by omega))
  refine ia_sipush (pc := 7) F dX0_fewestOfOrders_7 (by decide) ?_
  refine ia_istore (pc := 10) F (ls' := [(4, ((q : Nat) : Int)), (0, (b : Int)), (0, (a : Int)), (0, p), (0, 1000), (9, 0), (9, 0), (9, 0)]) dX0_fewestOfOrders_10 (Nat.le_of_ble_eq_true rfl) rfl rfl ?_
  refine ia_iload_n (pc := 12) F dX0_fewestOfOrders_12 rfl ?_
  refine ia_istore (pc := 13) F (ls' := [(4, ((q : Nat) : Int)), (0, (b : Int)), (0, (a : Int)), (0, p), (0, 1000), (0, (a : Int)), (9, 0), (9, 0)]) dX0_fewestOfOrders_13 (Nat.le_of_ble_eq_true rfl) rfl rfl ?_
  have L15 : ∀ (fu : Nat) (i : Nat) (V2 : ia_H), (5 - i < fu) → (i ≤ 5) → (PI V2) → (V2 q = f) → (∀ pp, pp ∉ ([q] : List Nat) → V2 pp = V pp) → ia_G X 0 0 15 [(4, ((q : Nat) : Int)), (0, (b : Int)), (0, (a : Int)), (0, p), (0, (fmn (fun i => wash p (f (a + i)) + kr 4 (swp f a (a + i)) (a + 1) (f (a + i))) i)), (0, ((a + i : Nat) : Int)), (9, 0), (9, 0)] [] Z V2 := by
    intro fu
    induction fu with
    | zero => intro i V2 hm; exact absurd hm (Nat.not_lt_zero _)
    | succ fu ih =>
      intro i V2 hm hi hP2 w2_q hF2
      have ih15 := ih
      refine ia_iload (pc := 15) F dX0_fewestOfOrders_15 rfl ?_
      refine ia_iload_n (pc := 17) F dX0_fewestOfOrders_17 rfl ?_
      refine ia_icmp_ge (pc := 18) F 74 dX0_fewestOfOrders_18 rfl (by omega) (by omega) (fun h_1 => ?_) (fun h_1 => ?_)
      · refine ia_iload (pc := 74) F dX0_fewestOfOrders_74 rfl ?_
        refine ia_ireturn (pc := 76) F M (by decide) (by decide) dX0_fewestOfOrders_76 ?_
        have e9 : i = 5 := by omega
        subst e9
        exact q1 _ hP2 w2_q hF2
      · have r9 := hr (a + i) (by omega)
        have r8 := kr_rng (b := b) 4 (swp f a (a + i)) (a + 1) (f (a + i)) (by omega) (swp_rng (by omega) (by omega) hr) r9
        have r7 := wash_rng hp9 r9
        have r6 := fmn_rng (g := (fun i => wash p (f (a + i)) + kr 4 (swp f a (a + i)) (a + 1) (f (a + i)))) i (fun j hj => by have w9 := wash_rng hp9 (hr (a + j) (by omega)); have k9 := kr_rng (b := b) 4 (swp f a (a + j)) (a + 1) (f (a + j)) (by omega) (swp_rng (by omega) (by omega) hr) (hr (a + j) (by omega)); show 0 ≤ wash p (f (a + j)) + _; omega)
        refine ia_aload_n (pc := 21) F dX0_fewestOfOrders_21 rfl ?_
        refine ia_iload_n (pc := 22) F dX0_fewestOfOrders_22 rfl ?_
        refine ia_iload (pc := 23) F dX0_fewestOfOrders_23 rfl ?_
        refine jS (pc := 25) F 0 0 (c_X0_swap q a (a + i) L1 hZ hP2 w2_q zq nqq (by omega) (fun V_2 p_3 w_4 f_5 => ?_)) rfl ⟨k_X0_swap, il_RX0_72, it_X0_swap, ii_RX0⟩ rfl 3 rfl hd_X0_swap ⟨by decide, by decide, by decide, by decide, Nat.le_of_ble_eq_true rfl⟩ dX0_fewestOfOrders_25
        refine j0 ?_
        refine ia_aload_n (pc := 28) F dX0_fewestOfOrders_28 rfl ?_
        refine ia_iload_n (pc := 29) F dX0_fewestOfOrders_29 rfl ?_
        refine ja (pc := 30) F (v := f (a + i)) zq a rfl (by omega) ((congrFun w_4 a).trans swp_l) dX0_fewestOfOrders_30 ?_
        refine ia_istore (pc := 31) F (ls' := [(4, ((q : Nat) : Int)), (0, (b : Int)), (0, (a : Int)), (0, p), (0, (fmn (fun i => wash p (f (a + i)) + kr 4 (swp f a (a + i)) (a + 1) (f (a + i))) i)), (0, ((a + i : Nat) : Int)), (0, f (a + i)), (9, 0)]) dX0_fewestOfOrders_31 (Nat.le_of_ble_eq_true rfl) rfl rfl ?_
        refine ia_aload_n (pc := 33) F dX0_fewestOfOrders_33 rfl ?_
        refine ia_iload_n (pc := 34) F dX0_fewestOfOrders_34 rfl ?_
        refine ia_iload_n (pc := 35) F dX0_fewestOfOrders_35 rfl ?_
        refine ia_iconst (pc := 36) F dX0_fewestOfOrders_36 ?_
        refine ia_iadd (pc := 37) F dX0_fewestOfOrders_37 ?_
        refine ia_iload (pc := 38) F dX0_fewestOfOrders_38 rfl ?_
        refine jS (pc := 40) F 0 0 (c_X0_fo4 q (a + 1) b L1 (f (a + i)) hZ p_3 w_4 zq nqq (by omega) (by omega) (swp_rng (by omega) (by omega) hr) (by omega) (fun V_6 p_7 w_8 f_9 => ?_)) rfl ⟨k_X0_fewestOfOrders, il_RX0_68, it_X0_fewestOfOrders, ii_RX0⟩ rfl 4 rfl hd_X0_fewestOfOrders ⟨by decide, by decide, by decide, by decide, Nat.le_of_ble_eq_true rfl⟩ dX0_fewestOfOrders_40
        refine j1 ?_
        refine ia_istore (pc := 43) F (ls' := [(4, ((q : Nat) : Int)), (0, (b : Int)), (0, (a : Int)), (0, p), (0, (fmn (fun i => wash p (f (a + i)) + kr 4 (swp f a (a + i)) (a + 1) (f (a + i))) i)), (0, ((a + i : Nat) : Int)), (0, f (a + i)), (0, (kr 4 (swp f a (a + i)) (a + 1) (f (a + i))))]) dX0_fewestOfOrders_43 (Nat.le_of_ble_eq_true rfl) rfl rfl ?_
        refine ia_iload (pc := 45) F dX0_fewestOfOrders_45 rfl ?_
        refine ia_iload_n (pc := 47) F dX0_fewestOfOrders_47 rfl ?_
        refine ia_iload (pc := 48) F dX0_fewestOfOrders_48 rfl ?_
        refine jSN (pc := 50) F 0 0 (c_X7_washMinutes p (f (a + i)) (by omega) (by omega) ?_) rfl ⟨k_X7_washMinutes, il_RX0_65, it_X7_washMinutes, ii_RX7⟩ 2 rfl hd_X7_washMinutes ⟨by decide, by decide, by decide, by decide, Nat.le_of_ble_eq_true rfl⟩ dX0_fewestOfOrders_50
        refine j1 ?_
        refine ia_iload (pc := 53) F dX0_fewestOfOrders_53 rfl ?_
        refine ia_iadd (pc := 55) F dX0_fewestOfOrders_55 ?_
        refine ia_min (pc := 56) F (by omega) (by omega) ⟨il_RX0_76, it_mmin, ii_RJ9, k_mmin⟩ ⟨by decide, Nat.le_of_ble_eq_true rfl, by decide, by decide⟩ dX0_fewestOfOrders_56 ?_
        rw [ia_minE (fmn (fun i => wash p (f (a + i)) + kr 4 (swp f a (a + i)) (a + 1) (f (a + i))) i) ((wash p (f (a + i))) + (kr 4 (swp f a (a + i)) (a + 1) (f (a + i))))]
        refine ia_istore (pc := 59) F (ls' := [(4, ((q : Nat) : Int)), (0, (b : Int)), (0, (a : Int)), (0, p), (0, (min (fmn (fun i => wash p (f (a + i)) + kr 4 (swp f a (a + i)) (a + 1) (f (a + i))) i) ((wash p (f (a + i))) + (kr 4 (swp f a (a + i)) (a + 1) (f (a + i)))))), (0, ((a + i : Nat) : Int)), (0, f (a + i)), (0, (kr 4 (swp f a (a + i)) (a + 1) (f (a + i))))]) dX0_fewestOfOrders_59 (Nat.le_of_ble_eq_true rfl) rfl rfl ?_
        refine ia_aload_n (pc := 61) F dX0_fewestOfOrders_61 rfl ?_
        refine ia_iload_n (pc := 62) F dX0_fewestOfOrders_62 rfl ?_
        refine ia_iload (pc := 63) F dX0_fewestOfOrders_63 rfl ?_
        refine jS (pc := 65) F 0 0 (c_X0_swap q a (a + i) L1 hZ p_7 w_8 zq nqq (by omega) (fun V_10 p_11 w_12 f_13 => ?_)) rfl ⟨k_X0_swap, il_RX0_72, it_X0_swap, ii_RX0⟩ rfl 3 rfl hd_X0_swap ⟨by decide, by decide, by decide, by decide, Nat.le_of_ble_eq_true rfl⟩ dX0_fewestOfOrders_65
        refine j0 ?_
        refine ia_iinc (pc := 68) F (ls' := [(4, ((q : Nat) : Int)), (0, (b : Int)), (0, (a : Int)), (0, p), (0, (min (fmn (fun i => wash p (f (a + i)) + kr 4 (swp f a (a + i)) (a + 1) (f (a + i))) i) ((wash p (f (a + i))) + (kr 4 (swp f a (a + i)) (a + 1) (f (a + i)))))), (0, (((a + i) + 1 : Nat) : Int)), (0, f (a + i)), (0, (kr 4 (swp f a (a + i)) (a + 1) (f (a + i))))]) dX0_fewestOfOrders_68 rfl rfl rfl rfl ?_
        refine ia_goto (pc := 71) F 15 dX0_fewestOfOrders_71 rfl ?_
        refine jw (ls' := [(4, ((q : Nat) : Int)), (0, (b : Int)), (0, (a : Int)), (0, p), (0, (min (fmn (fun i => wash p (f (a + i)) + kr 4 (swp f a (a + i)) (a + 1) (f (a + i))) i) ((wash p (f (a + i))) + (kr 4 (swp f a (a + i)) (a + 1) (f (a + i)))))), (0, (((a + i) + 1 : Nat) : Int)), (9, 0), (9, 0)]) [false, false, false, false, false, false, true, true] rfl ?_
        exact ih15 (i + 1) _ (by omega) (by omega) p_11 (w_12.trans swp_swp) (Fr_c (Fr_c (Fr_c hF2 f_5 (by simp)) f_9 (by simp)) f_13 (by simp))
  exact L15 (5 + 1) 0 _ (by omega) (by omega) hP hq (Fr_0 (V := V) (S := [q]))
set_option maxRecDepth 100000 in
theorem c_X0_fo6 {Z : ia_Z} {V : ia_H} {Q : ia_O → ia_Z → ia_H → Prop} {f : Nat → Int} (q a b L1 : Nat) (p : Int) (hZ : ZI Z) (hP : PI V) (hq : V q = f) (zq : q < Z.2.2 ∧ Z.1 q = 0 ∧ Z.2.1 q = L1) (nqq : ∀ k : Nat, ptr q k = none) (hb : b = a + 6) (hl : b ≤ L1 ∧ L1 ≤ 100) (hr : ∀ k : Nat, k < b → 0 ≤ f k ∧ f k ≤ 9) (hp9 : 0 ≤ p ∧ p ≤ 9) (q1 : ∀ (V1 : ia_H), PI V1 → (V1 q = f) → (∀ pp, pp ∉ ([q] : List Nat) → V1 pp = V pp) → Q (.inl (some (0, (kr 6 f a p)))) Z V1) : ia_K yX0_fewestOfOrders cX0_fewestOfOrders 8 (some .int) [(4, ((q : Nat) : Int)), (0, (b : Int)), (0, (a : Int)), (0, p)] Z V 8 0 0 Q := by
  refine ia_start RX0 "fewestOfOrders" ⟨by decide, rfl, rfl⟩ (Nat.le_of_ble_eq_true rfl) (ia_tg rfl) (fun X F M => ?_)
  show ia_G X 0 0 0 [(4, ((q : Nat) : Int)), (0, (b : Int)), (0, (a : Int)), (0, p), (9, 0), (9, 0), (9, 0), (9, 0)] [] Z V
  refine ia_iload_n (pc := 0) F dX0_fewestOfOrders_0 rfl ?_
  refine ia_iload_n (pc := 1) F dX0_fewestOfOrders_1 rfl ?_
  refine ia_icmp_lt (pc := 2) F 7 dX0_fewestOfOrders_2 rfl (by omega) (by omega) (fun _ => ?_) (fun h9 => absurd h9 (by omega))
  refine ia_sipush (pc := 7) F dX0_fewestOfOrders_7 (by decide) ?_
  refine ia_istore (pc := 10) F (ls' := [(4, ((q : Nat) : Int)), (0, (b : Int)), (0, (a : Int)), (0, p), (0, 1000), (9, 0), (9, 0), (9, 0)]) dX0_fewestOfOrders_10 (Nat.le_of_ble_eq_true rfl) rfl rfl ?_
  refine ia_iload_n (pc := 12) F dX0_fewestOfOrders_12 rfl ?_
  refine ia_istore (pc := 13) F (ls' := [(4, ((q : Nat) : Int)), (0, (b : Int)), (0, (a : Int)), (0, p), (0, 1000), (0, (a : Int)), (9, 0), (9, 0)]) dX0_fewestOfOrders_13 (Nat.le_of_ble_eq_true rfl) rfl rfl ?_
  have L15 : ∀ (fu : Nat) (i : Nat) (V2 : ia_H), (6 - i < fu) → (i ≤ 6) → (PI V2) → (V2 q = f) → (∀ pp, pp ∉ ([q] : List Nat) → V2 pp = V pp) → ia_G X 0 0 15 [(4, ((q : Nat) : Int)), (0, (b : Int)), (0, (a : Int)), (0, p), (0, (fmn (fun i => wash p (f (a + i)) + kr 5 (swp f a (a + i)) (a + 1) (f (a + i))) i)), (0, ((a + i : Nat) : Int)), (9, 0), (9, 0)] [] Z V2 := by
    intro fu
    induction fu with
    | zero => intro i V2 hm; exact absurd hm (Nat.not_lt_zero _)
    | succ fu ih =>
      intro i V2 hm hi hP2 w2_q hF2
      have ih15 := ih
      refine ia_iload (pc := 15) F dX0_fewestOfOrders_15 rfl ?_
      refine ia_iload_n (pc := 17) F dX0_fewestOfOrders_17 rfl ?_
      refine ia_icmp_ge (pc := 18) F 74 dX0_fewestOfOrders_18 rfl (by omega) (by omega) (fun h_1 => ?_) (fun h_1 => ?_)
      · refine ia_iload (pc := 74) F dX0_fewestOfOrders_74 rfl ?_
        refine ia_ireturn (pc := 76) F M (by decide) (by decide) dX0_fewestOfOrders_76 ?_
        have e9 : i = 6 := by omega
        subst e9
        exact q1 _ hP2 w2_q hF2
      · have r9 := hr (a + i) (by omega)
        have r8 := kr_rng (b := b) 5 (swp f a (a + i)) (a + 1) (f (a + i)) (by omega) (swp_rng (by omega) (by omega) hr) r9
        have r7 := wash_rng hp9 r9
        have r6 := fmn_rng (g := (fun i => wash p (f (a + i)) + kr 5 (swp f a (a + i)) (a + 1) (f (a + i)))) i (fun j hj => by have w9 := wash_rng hp9 (hr (a + j) (by omega)); have k9 := kr_rng (b := b) 5 (swp f a (a + j)) (a + 1) (f (a + j)) (by omega) (swp_rng (by omega) (by omega) hr) (hr (a + j) (by omega)); show 0 ≤ wash p (f (a + j)) + _; omega)
        refine ia_aload_n (pc := 21) F dX0_fewestOfOrders_21 rfl ?_
        refine ia_iload_n (pc := 22) F dX0_fewestOfOrders_22 rfl ?_
        refine ia_iload (pc := 23) F dX0_fewestOfOrders_23 rfl ?_
        refine jS (pc := 25) F 0 0 (c_X0_swap q a (a + i) L1 hZ hP2 w2_q zq nqq (by omega) (fun V_2 p_3 w_4 f_5 => ?_)) rfl ⟨k_X0_swap, il_RX0_72, it_X0_swap, ii_RX0⟩ rfl 3 rfl hd_X0_swap ⟨by decide, by decide, by decide, by decide, Nat.le_of_ble_eq_true rfl⟩ dX0_fewestOfOrders_25
        refine j0 ?_
        refine ia_aload_n (pc := 28) F dX0_fewestOfOrders_28 rfl ?_
        refine ia_iload_n (pc := 29) F dX0_fewestOfOrders_29 rfl ?_
        refine ja (pc := 30) F (v := f (a + i)) zq a rfl (by omega) ((congrFun w_4 a).trans swp_l) dX0_fewestOfOrders_30 ?_
        refine ia_istore (pc := 31) F (ls' := [(4, ((q : Nat) : Int)), (0, (b : Int)), (0, (a : Int)), (0, p), (0, (fmn (fun i => wash p (f (a + i)) + kr 5 (swp f a (a + i)) (a + 1) (f (a + i))) i)), (0, ((a + i : Nat) : Int)), (0, f (a + i)), (9, 0)]) dX0_fewestOfOrders_31 (Nat.le_of_ble_eq_true rfl) rfl rfl ?_
        refine ia_aload_n (pc := 33) F dX0_fewestOfOrders_33 rfl ?_
        refine ia_iload_n (pc := 34) F dX0_fewestOfOrders_34 rfl ?_
        refine ia_iload_n (pc := 35) F dX0_fewestOfOrders_35 rfl ?_
        refine ia_iconst (pc := 36) F dX0_fewestOfOrders_36 ?_
        refine ia_iadd (pc := 37) F dX0_fewestOfOrders_37 ?_
        refine ia_iload (pc := 38) F dX0_fewestOfOrders_38 rfl ?_
        refine jS (pc := 40) F 0 0 (c_X0_fo5 q (a + 1) b L1 (f (a + i)) hZ p_3 w_4 zq nqq (by omega) (by omega) (swp_rng (by omega) (by omega) hr) (by omega) (fun V_6 p_7 w_8 f_9 => ?_)) rfl ⟨k_X0_fewestOfOrders, il_RX0_68, it_X0_fewestOfOrders, ii_RX0⟩ rfl 4 rfl hd_X0_fewestOfOrders ⟨by decide, by decide, by decide, by decide, Nat.le_of_ble_eq_true rfl⟩ dX0_fewestOfOrders_40
        refine j1 ?_
        refine ia_istore (pc := 43) F (ls' := [(4, ((q : Nat) : Int)), (0, (b : Int)), (0, (a : Int)), (0, p), (0, (fmn (fun i => wash p (f (a + i)) + kr 5 (swp f a (a + i)) (a + 1) (f (a + i))) i)), (0, ((a + i : Nat) : Int)), (0, f (a + i)), (0, (kr 5 (swp f a (a + i)) (a + 1) (f (a + i))))]) dX0_fewestOfOrders_43 (Nat.le_of_ble_eq_true rfl) rfl rfl ?_
        refine ia_iload (pc := 45) F dX0_fewestOfOrders_45 rfl ?_
        refine ia_iload_n (pc := 47) F dX0_fewestOfOrders_47 rfl ?_
        refine ia_iload (pc := 48) F dX0_fewestOfOrders_48 rfl ?_
        refine jSN (pc := 50) F 0 0 (c_X7_washMinutes p (f (a + i)) (by omega) (by omega) ?_) rfl ⟨k_X7_washMinutes, il_RX0_65, it_X7_washMinutes, ii_RX7⟩ 2 rfl hd_X7_washMinutes ⟨by decide, by decide, by decide, by decide, Nat.le_of_ble_eq_true rfl⟩ dX0_fewestOfOrders_50
        refine j1 ?_
        refine ia_iload (pc := 53) F dX0_fewestOfOrders_53 rfl ?_
        refine ia_iadd (pc := 55) F dX0_fewestOfOrders_55 ?_
        refine ia_min (pc := 56) F (by omega) (by omega) ⟨il_RX0_76, it_mmin, ii_RJ9, k_mmin⟩ ⟨by decide, Nat.le_of_ble_eq_true rfl, by decide, by decide⟩ dX0_fewestOfOrders_56 ?_
        rw [ia_minE (fmn (fun i => wash p (f (a + i)) + kr 5 (swp f a (a + i)) (a + 1) (f (a + i))) i) ((wash p (f (a + i))) + (kr 5 (swp f a (a + i)) (a + 1) (f (a + i))))]
        refine ia_istore (pc := 59) F (ls' := [(4, ((q : Nat) : Int)), (0, (b : Int)), (0, (a : Int)), (0, p), (0, (min (fmn (fun i => wash p (f (a + i)) + kr 5 (swp f a (a + i)) (a + 1) (f (a + i))) i) ((wash p (f (a + i))) + (kr 5 (swp f a (a + i)) (a + 1) (f (a + i)))))), (0, ((a + i : Nat) : Int)), (0, f (a + i)), (0, (kr 5 (swp f a (a + i)) (a + 1) (f (a + i))))]) dX0_fewestOfOrders_59 (Nat.le_of_ble_eq_true rfl) rfl rfl ?_
        refine ia_aload_n (pc := 61) F dX0_fewestOfOrders_61 rfl ?_
        refine ia_iload_n (pc := 62) F dX0_fewestOfOrders_62 rfl ?_
        refine ia_iload (pc := 63) F dX0_fewestOfOrders_63 rfl ?_
        refine jS (pc := 65) F 0 0 (c_X0_swap q a (a + i) L1 hZ p_7 w_8 zq nqq (by omega) (fun V_10 p_11 w_12 f_13 => ?_)) rfl ⟨k_X0_swap, il_RX0_72, it_X0_swap, ii_RX0⟩ rfl 3 rfl hd_X0_swap ⟨by decide, by decide, by decide, by decide, Nat.le_of_ble_eq_true rfl⟩ dX0_fewestOfOrders_65
        refine j0 ?_
        refine ia_iinc (pc := 68) F (ls' := [(4, ((q : Nat) : Int)), (0, (b : Int)), (0, (a : Int)), (0, p), (0, (min (fmn (fun i => wash p (f (a + i)) + kr 5 (swp f a (a + i)) (a + 1) (f (a + i))) i) ((wash p (f (a + i))) + (kr 5 (swp f a (a + i)) (a + 1) (f (a + i)))))), (0, (((a + i) + 1 : Nat) : Int)), (0, f (a + i)), (0, (kr 5 (swp f a (a + i)) (a + 1) (f (a + i))))]) dX0_fewestOfOrders_68 rfl rfl rfl rfl ?_
        refine ia_goto (pc := 71) F 15 dX0_fewestOfOrders_71 rfl ?_
        refine jw (ls' := [(4, ((q : Nat) : Int)), (0, (b : Int)), (0, (a : Int)), (0, p), (0, (min (fmn (fun i => wash p (f (a + i)) + kr 5 (swp f a (a + i)) (a + 1) (f (a + i))) i) ((wash p (f (a + i))) + (kr 5 (swp f a (a + i)) (a + 1) (f (a + i)))))), (0, (((a + i) + 1 : Nat) : Int)), (9, 0), (9, 0)]) [false, false, false, false, false, false, true, true] rfl ?_
        exact ih15 (i + 1) _ (by omega) (by omega) p_11 (w_12.trans swp_swp) (Fr_c (Fr_c (Fr_c hF2 f_5 (by simp)) f_9 (by simp)) f_13 (by simp))
  exact L15 (6 + 1) 0 _ (by omega) (by omega) hP hq (Fr_0 (V := V) (S := [q]))
set_option maxRecDepth 100000 in
theorem c_X0_fo7 {Z : ia_Z} {V : ia_H} {Q : ia_O → ia_Z → ia_H → Prop} {f : Nat → Int} (q a b L1 : Nat) (p : Int) (hZ : ZI Z) (hP : PI V) (hq : V q = f) (zq : q < Z.2.2 ∧ Z.1 q = 0 ∧ Z.2.1 q = L1) (nqq : ∀ k : Nat, ptr q k = none) (hb : b = a + 7) (hl : b ≤ L1 ∧ L1 ≤ 100) (hr : ∀ k : Nat, k < b → 0 ≤ f k ∧ f k ≤ 9) (hp9 : 0 ≤ p ∧ p ≤ 9) (q1 : ∀ (V1 : ia_H), PI V1 → (V1 q = f) → (∀ pp, pp ∉ ([q] : List Nat) → V1 pp = V pp) → Q (.inl (some (0, (kr 7 f a p)))) Z V1) : ia_K yX0_fewestOfOrders cX0_fewestOfOrders 8 (some .int) [(4, ((q : Nat) : Int)), (0, (b : Int)), (0, (a : Int)), (0, p)] Z V 9 0 0 Q := by
  refine ia_start RX0 "fewestOfOrders" ⟨by decide, rfl, rfl⟩ (Nat.le_of_ble_eq_true rfl) (ia_tg rfl) (fun X F M => ?_)
  show ia_G X 0 0 0 [(4, ((q : Nat) : Int)), (0, (b : Int)), (0, (a : Int)), (0, p), (9, 0), (9, 0), (9, 0), (9, 0)] [] Z V
  refine ia_iload_n (pc := 0) F dX0_fewestOfOrders_0 rfl ?_
  refine ia_iload_n (pc := 1) F dX0_fewestOfOrders_1 rfl ?_
  refine ia_icmp_lt (pc := 2) F 7 dX0_fewestOfOrders_2 rfl (by omega) (by omega) (fun _ => ?_) (fun h9 => absurd h9 (by omega))
  refine ia_sipush (pc := 7) F dX0_fewestOfOrders_7 (by decide) ?_
  refine ia_istore (pc := 10) F (ls' := [(4, ((q : Nat) : Int)), (0, (b : Int)), (0, (a : Int)), (0, p), (0, 1000), (9, 0), (9, 0), (9, 0)]) dX0_fewestOfOrders_10 (Nat.le_of_ble_eq_true rfl) rfl rfl ?_
  refine ia_iload_n (pc := 12) F dX0_fewestOfOrders_12 rfl ?_
  refine ia_istore (pc := 13) F (ls' := [(4, ((q : Nat) : Int)), (0, (b : Int)), (0, (a : Int)), (0, p), (0, 1000), (0, (a : Int)), (9, 0), (9, 0)]) dX0_fewestOfOrders_13 (Nat.le_of_ble_eq_true rfl) rfl rfl ?_
  have L15 : ∀ (fu : Nat) (i : Nat) (V2 : ia_H), (7 - i < fu) → (i ≤ 7) → (PI V2) → (V2 q = f) → (∀ pp, pp ∉ ([q] : List Nat) → V2 pp = V pp) → ia_G X 0 0 15 [(4, ((q : Nat) : Int)), (0, (b : Int)), (0, (a : Int)), (0, p), (0, (fmn (fun i => wash p (f (a + i)) + kr 6 (swp f a (a + i)) (a + 1) (f (a + i))) i)), (0, ((a + i : Nat) : Int)), (9, 0), (9, 0)] [] Z V2 := by
    intro fu
    induction fu with
    | zero => intro i V2 hm; exact absurd hm (Nat.not_lt_zero _)
    | succ fu ih =>
      intro i V2 hm hi hP2 w2_q hF2
      have ih15 := ih
      refine ia_iload (pc := 15) F dX0_fewestOfOrders_15 rfl ?_
      refine ia_iload_n (pc := 17) F dX0_fewestOfOrders_17 rfl ?_
      refine ia_icmp_ge (pc := 18) F 74 dX0_fewestOfOrders_18 rfl (by omega) (by omega) (fun h_1 => ?_) (fun h_1 => ?_)
      · refine ia_iload (pc := 74) F dX0_fewestOfOrders_74 rfl ?_
        refine ia_ireturn (pc := 76) F M (by decide) (by decide) dX0_fewestOfOrders_76 ?_
        have e9 : i = 7 := by omega
        subst e9
        exact q1 _ hP2 w2_q hF2
      · have r9 := hr (a + i) (by omega)
        have r8 := kr_rng (b := b) 6 (swp f a (a + i)) (a + 1) (f (a + i)) (by omega) (swp_rng (by omega) (by omega) hr) r9
        have r7 := wash_rng hp9 r9
        have r6 := fmn_rng (g := (fun i => wash p (f (a + i)) + kr 6 (swp f a (a + i)) (a + 1) (f (a + i)))) i (fun j hj => by have w9 := wash_rng hp9 (hr (a + j) (by omega)); have k9 := kr_rng (b := b) 6 (swp f a (a + j)) (a + 1) (f (a + j)) (by omega) (swp_rng (by omega) (by omega) hr) (hr (a + j) (by omega)); show 0 ≤ wash p (f (a + j)) + _; omega)
        refine ia_aload_n (pc := 21) F dX0_fewestOfOrders_21 rfl ?_
        refine ia_iload_n (pc := 22) F dX0_fewestOfOrders_22 rfl ?_
        refine ia_iload (pc := 23) F dX0_fewestOfOrders_23 rfl ?_
        refine jS (pc := 25) F 0 0 (c_X0_swap q a (a + i) L1 hZ hP2 w2_q zq nqq (by omega) (fun V_2 p_3 w_4 f_5 => ?_)) rfl ⟨k_X0_swap, il_RX0_72, it_X0_swap, ii_RX0⟩ rfl 3 rfl hd_X0_swap ⟨by decide, by decide, by decide, by decide, Nat.le_of_ble_eq_true rfl⟩ dX0_fewestOfOrders_25
        refine j0 ?_
        refine ia_aload_n (pc := 28) F dX0_fewestOfOrders_28 rfl ?_
        refine ia_iload_n (pc := 29) F dX0_fewestOfOrders_29 rfl ?_
        refine ja (pc := 30) F (v := f (a + i)) zq a rfl (by omega) ((congrFun w_4 a).trans swp_l) dX0_fewestOfOrders_30 ?_
        refine ia_istore (pc := 31) F (ls' := [(4, ((q : Nat) : Int)), (0, (b : Int)), (0, (a : Int)), (0, p), (0, (fmn (fun i => wash p (f (a + i)) + kr 6 (swp f a (a + i)) (a + 1) (f (a + i))) i)), (0, ((a + i : Nat) : Int)), (0, f (a + i)), (9, 0)]) dX0_fewestOfOrders_31 (Nat.le_of_ble_eq_true rfl) rfl rfl ?_
        refine ia_aload_n (pc := 33) F dX0_fewestOfOrders_33 rfl ?_
        refine ia_iload_n (pc := 34) F dX0_fewestOfOrders_34 rfl ?_
        refine ia_iload_n (pc := 35) F dX0_fewestOfOrders_35 rfl ?_
        refine ia_iconst (pc := 36) F dX0_fewestOfOrders_36 ?_
        refine ia_iadd (pc := 37) F dX0_fewestOfOrders_37 ?_
        refine ia_iload (pc := 38) F dX0_fewestOfOrders_38 rfl ?_
        refine jS (pc := 40) F 0 0 (c_X0_fo6 q (a + 1) b L1 (f (a + i)) hZ p_3 w_4 zq nqq (by omega) (by omega) (swp_rng (by omega) (by omega) hr) (by omega) (fun V_6 p_7 w_8 f_9 => ?_)) rfl ⟨k_X0_fewestOfOrders, il_RX0_68, it_X0_fewestOfOrders, ii_RX0⟩ rfl 4 rfl hd_X0_fewestOfOrders ⟨by decide, by decide, by decide, by decide, Nat.le_of_ble_eq_true rfl⟩ dX0_fewestOfOrders_40
        refine j1 ?_
        refine ia_istore (pc := 43) F (ls' := [(4, ((q : Nat) : Int)), (0, (b : Int)), (0, (a : Int)), (0, p), (0, (fmn (fun i => wash p (f (a + i)) + kr 6 (swp f a (a + i)) (a + 1) (f (a + i))) i)), (0, ((a + i : Nat) : Int)), (0, f (a + i)), (0, (kr 6 (swp f a (a + i)) (a + 1) (f (a + i))))]) dX0_fewestOfOrders_43 (Nat.le_of_ble_eq_true rfl) rfl rfl ?_
        refine ia_iload (pc := 45) F dX0_fewestOfOrders_45 rfl ?_
        refine ia_iload_n (pc := 47) F dX0_fewestOfOrders_47 rfl ?_
        refine ia_iload (pc := 48) F dX0_fewestOfOrders_48 rfl ?_
        refine jSN (pc := 50) F 0 0 (c_X7_washMinutes p (f (a + i)) (by omega) (by omega) ?_) rfl ⟨k_X7_washMinutes, il_RX0_65, it_X7_washMinutes, ii_RX7⟩ 2 rfl hd_X7_washMinutes ⟨by decide, by decide, by decide, by decide, Nat.le_of_ble_eq_true rfl⟩ dX0_fewestOfOrders_50
        refine j1 ?_
        refine ia_iload (pc := 53) F dX0_fewestOfOrders_53 rfl ?_
        refine ia_iadd (pc := 55) F dX0_fewestOfOrders_55 ?_
        refine ia_min (pc := 56) F (by omega) (by omega) ⟨il_RX0_76, it_mmin, ii_RJ9, k_mmin⟩ ⟨by decide, Nat.le_of_ble_eq_true rfl, by decide, by decide⟩ dX0_fewestOfOrders_56 ?_
        rw [ia_minE (fmn (fun i => wash p (f (a + i)) + kr 6 (swp f a (a + i)) (a + 1) (f (a + i))) i) ((wash p (f (a + i))) + (kr 6 (swp f a (a + i)) (a + 1) (f (a + i))))]
        refine ia_istore (pc := 59) F (ls' := [(4, ((q : Nat) : Int)), (0, (b : Int)), (0, (a : Int)), (0, p), (0, (min (fmn (fun i => wash p (f (a + i)) + kr 6 (swp f a (a + i)) (a + 1) (f (a + i))) i) ((wash p (f (a + i))) + (kr 6 (swp f a (a + i)) (a + 1) (f (a + i)))))), (0, ((a + i : Nat) : Int)), (0, f (a + i)), (0, (kr 6 (swp f a (a + i)) (a + 1) (f (a + i))))]) dX0_fewestOfOrders_59 (Nat.le_of_ble_eq_true rfl) rfl rfl ?_
        refine ia_aload_n (pc := 61) F dX0_fewestOfOrders_61 rfl ?_
        refine ia_iload_n (pc := 62) F dX0_fewestOfOrders_62 rfl ?_
        refine ia_iload (pc := 63) F dX0_fewestOfOrders_63 rfl ?_
        refine jS (pc := 65) F 0 0 (c_X0_swap q a (a + i) L1 hZ p_7 w_8 zq nqq (by omega) (fun V_10 p_11 w_12 f_13 => ?_)) rfl ⟨k_X0_swap, il_RX0_72, it_X0_swap, ii_RX0⟩ rfl 3 rfl hd_X0_swap ⟨by decide, by decide, by decide, by decide, Nat.le_of_ble_eq_true rfl⟩ dX0_fewestOfOrders_65
        refine j0 ?_
        refine ia_iinc (pc := 68) F (ls' := [(4, ((q : Nat) : Int)), (0, (b : Int)), (0, (a : Int)), (0, p), (0, (min (fmn (fun i => wash p (f (a + i)) + kr 6 (swp f a (a + i)) (a + 1) (f (a + i))) i) ((wash p (f (a + i))) + (kr 6 (swp f a (a + i)) (a + 1) (f (a + i)))))), (0, (((a + i) + 1 : Nat) : Int)), (0, f (a + i)), (0, (kr 6 (swp f a (a + i)) (a + 1) (f (a + i))))]) dX0_fewestOfOrders_68 rfl rfl rfl rfl ?_
        refine ia_goto (pc := 71) F 15 dX0_fewestOfOrders_71 rfl ?_
        refine jw (ls' := [(4, ((q : Nat) : Int)), (0, (b : Int)), (0, (a : Int)), (0, p), (0, (min (fmn (fun i => wash p (f (a + i)) + kr 6 (swp f a (a + i)) (a + 1) (f (a + i))) i) ((wash p (f (a + i))) + (kr 6 (swp f a (a + i)) (a + 1) (f (a + i)))))), (0, (((a + i) + 1 : Nat) : Int)), (9, 0), (9, 0)]) [false, false, false, false, false, false, true, true] rfl ?_
        exact ih15 (i + 1) _ (by omega) (by omega) p_11 (w_12.trans swp_swp) (Fr_c (Fr_c (Fr_c hF2 f_5 (by simp)) f_9 (by simp)) f_13 (by simp))
  exact L15 (7 + 1) 0 _ (by omega) (by omega) hP hq (Fr_0 (V := V) (S := [q]))
set_option maxRecDepth 100000 in
theorem c_X0_minutesOfAllOrders {Z : ia_Z} {V : ia_H} {Q : ia_O → ia_Z → ia_H → Prop} {σ : Nat → Int} {ρ : Nat → Int} {α1 : Nat → Int} {α2 : Nat → Int} {m : Int} (hZ : ZI Z) (hP : PI V) (hS : Sh 1 V σ) (hI : SI σ m) (h80 : V 80 = ρ) (h81 : V 81 = α1) (h82 : V 82 = α2)  (q1 : ∀ (V1 : ia_H), PI V1 → (V1 80 = up ρ 4 ((oc σ (σ 0).toNat : Nat) : Int)) → (V1 81 = mgk (oc σ (σ 0).toNat) (oO σ (σ 0).toNat) α1) → (V1 82 = mgk (oc σ (σ 0).toNat) (oC σ (σ 0).toNat) α2) → (∀ pp, pp ∉ ([80, 81, 82] : List Nat) → V1 pp = V pp) → Q (.inl (some (0, (kr (oc σ (σ 0).toNat) (oC σ (σ 0).toNat) 0 (σ 4))))) Z V1) : ia_K yX0_minutesOfAllOrders cX0_minutesOfAllOrders 2 (some .int) [(4, ((80 : Nat) : Int)), (4, ((1 : Nat) : Int))] Z V 11 0 0 Q := by
  refine ia_start RX0 "minutesOfAllOrders" ⟨by decide, rfl, rfl⟩ (Nat.le_of_ble_eq_true rfl) (ia_tg rfl) (fun X F M => ?_)
  show ia_G X 0 0 0 [(4, ((80 : Nat) : Int)), (4, ((1 : Nat) : Int))] [] Z V
  obtain ⟨s0, s1, s2, s3, s4, s5, s6, s7, s18, sb, sw, se, sp⟩ := id hI
  refine ia_aload_n (pc := 0) F dX0_minutesOfAllOrders_0 rfl ?_
  refine ia_aload_n (pc := 1) F dX0_minutesOfAllOrders_1 rfl ?_
  refine jV (pc := 2) F 0 0 (z80 hZ) cls4.1 (c_X0_listOpen hZ hP hS hI h80 h81 h82 (fun V_1 p_2 w_3 w_4 w_5 f_6 => ?_)) rfl ⟨k_X0_listOpen, il_RX0_34, im_X0_listOpen, is_X0_listOpen, ii_RX0⟩ 1 rfl hd_X0_listOpen ⟨by decide, by decide, by decide, by decide, Nat.le_of_ble_eq_true rfl⟩ dX0_minutesOfAllOrders_2
  refine j0 ?_
  refine ia_aload_n (pc := 5) F dX0_minutesOfAllOrders_5 rfl ?_
  refine jg (pc := 6) F (z80 hZ) cls4 f4_1 (p_2 80 1 82 rfl) il_RX0_15 dX0_minutesOfAllOrders_6 ?_
  refine ia_aload_n (pc := 9) F dX0_minutesOfAllOrders_9 rfl ?_
  refine jg (pc := 10) F (x := ((oc σ (σ 0).toNat : Nat) : Int)) (z80 hZ) cls4 f4_4 ((congrFun w_3 4).trans (up_self _ _ _)) il_RX0_24 dX0_minutesOfAllOrders_10 ?_
  refine ia_iconst (pc := 13) F dX0_minutesOfAllOrders_13 ?_
  refine ia_aload_n (pc := 14) F dX0_minutesOfAllOrders_14 rfl ?_
  refine jg (pc := 15) F (x := σ 4) (z1 hZ) cls9 f9_10 (Sh_fr hS f_6 (by decide)).f10 il_RX0_46 dX0_minutesOfAllOrders_15 ?_
  have hcn7 := oc_le (σ := σ) (σ 0).toNat
  have hAr : ∀ x : Nat, x < oc σ (σ 0).toNat → 0 ≤ mgk (oc σ (σ 0).toNat) (oC σ (σ 0).toNat) α2 x ∧ mgk (oc σ (σ 0).toNat) (oC σ (σ 0).toNat) α2 x ≤ 9 := fun x hx => by rw [mgk_lt hx]; obtain ⟨e9, g1, g2, g3, g4⟩ := oO_spec (σ := σ) (σ 0).toNat x hx; rw [g3]; exact (se e9 (by omega)).1
  rcases (show oc σ (σ 0).toNat = 0 ∨ oc σ (σ 0).toNat = 1 ∨ oc σ (σ 0).toNat = 2 ∨ oc σ (σ 0).toNat = 3 ∨ oc σ (σ 0).toNat = 4 ∨ oc σ (σ 0).toNat = 5 ∨ oc σ (σ 0).toNat = 6 ∨ oc σ (σ 0).toNat = 7 by omega) with hcn | hcn | hcn | hcn | hcn | hcn | hcn | hcn
  · refine jS (pc := 18) F 0 0 (c_X0_fo0 82 0 (oc σ (σ 0).toNat) 7 (σ 4) hZ p_2 w_5 (z82 hZ) (fun _ => rfl) (by omega) (by omega) hAr (by omega) (fun V_7 p_8 w_9 f_10 => ?_)) rfl ⟨k_X0_fewestOfOrders, il_RX0_68, it_X0_fewestOfOrders, ii_RX0⟩ rfl 4 rfl hd_X0_fewestOfOrders ⟨by decide, by decide, by decide, by decide, Nat.le_of_ble_eq_true rfl⟩ dX0_minutesOfAllOrders_18
    refine j1 ?_
    refine ia_ireturn (pc := 21) F M (by decide) (by decide) dX0_minutesOfAllOrders_21 ?_
    rw [← kr_ext (b := oc σ (σ 0).toNat) (oc σ (σ 0).toNat) (mgk (oc σ (σ 0).toNat) (oC σ (σ 0).toNat) α2) (oC σ (σ 0).toNat) 0 (σ 4) (by omega) (fun k hk => mgk_lt hk)] at q1
    have q2 := q1 _ p_8 ((f_10 80 (by decide)).trans w_3) ((f_10 81 (by decide)).trans w_4) w_9 (Fr_c (Fr_c (Fr_0 (V := V) (S := [80, 81, 82])) f_6 (by decide)) f_10 (by decide))
    rw [show kr (oc σ (σ 0).toNat) = kr 0 from congrArg kr hcn] at q2
    exact q2
  · refine jS (pc := 18) F 0 0 (c_X0_fo1 82 0 (oc σ (σ 0).toNat) 7 (σ 4) hZ p_2 w_5 (z82 hZ) (fun _ => rfl) (by omega) (by omega) hAr (by omega) (fun V_11 p_12 w_13 f_14 => ?_)) rfl ⟨k_X0_fewestOfOrders, il_RX0_68, it_X0_fewestOfOrders, ii_RX0⟩ rfl 4 rfl hd_X0_fewestOfOrders ⟨by decide, by decide, by decide, by decide, Nat.le_of_ble_eq_true rfl⟩ dX0_minutesOfAllOrders_18
    refine j1 ?_
    refine ia_ireturn (pc := 21) F M (by decide) (by decide) dX0_minutesOfAllOrders_21 ?_
    rw [← kr_ext (b := oc σ (σ 0).toNat) (oc σ (σ 0).toNat) (mgk (oc σ (σ 0).toNat) (oC σ (σ 0).toNat) α2) (oC σ (σ 0).toNat) 0 (σ 4) (by omega) (fun k hk => mgk_lt hk)] at q1
    have q2 := q1 _ p_12 ((f_14 80 (by decide)).trans w_3) ((f_14 81 (by decide)).trans w_4) w_13 (Fr_c (Fr_c (Fr_0 (V := V) (S := [80, 81, 82])) f_6 (by decide)) f_14 (by decide))
    rw [show kr (oc σ (σ 0).toNat) = kr 1 from congrArg kr hcn] at q2
    exact q2
  · refine jS (pc := 18) F 0 0 (c_X0_fo2 82 0 (oc σ (σ 0).toNat) 7 (σ 4) hZ p_2 w_5 (z82 hZ) (fun _ => rfl) (by omega) (by omega) hAr (by omega) (fun V_15 p_16 w_17 f_18 => ?_)) rfl ⟨k_X0_fewestOfOrders, il_RX0_68, it_X0_fewestOfOrders, ii_RX0⟩ rfl 4 rfl hd_X0_fewestOfOrders ⟨by decide, by decide, by decide, by decide, Nat.le_of_ble_eq_true rfl⟩ dX0_minutesOfAllOrders_18
    refine j1 ?_
    refine ia_ireturn (pc := 21) F M (by decide) (by decide) dX0_minutesOfAllOrders_21 ?_
    rw [← kr_ext (b := oc σ (σ 0).toNat) (oc σ (σ 0).toNat) (mgk (oc σ (σ 0).toNat) (oC σ (σ 0).toNat) α2) (oC σ (σ 0).toNat) 0 (σ 4) (by omega) (fun k hk => mgk_lt hk)] at q1
    have q2 := q1 _ p_16 ((f_18 80 (by decide)).trans w_3) ((f_18 81 (by decide)).trans w_4) w_17 (Fr_c (Fr_c (Fr_0 (V := V) (S := [80, 81, 82])) f_6 (by decide)) f_18 (by decide))
    rw [show kr (oc σ (σ 0).toNat) = kr 2 from congrArg kr hcn] at q2
    exact q2
  · refine jS (pc := 18) F 0 0 (c_X0_fo3 82 0 (oc σ (σ 0).toNat) 7 (σ 4) hZ p_2 w_5 (z82 hZ) (fun _ => rfl) (by omega) (by omega) hAr (by omega) (fun V_19 p_20 w_21 f_22 => ?_)) rfl ⟨k_X0_fewestOfOrders, il_RX0_68, it_X0_fewestOfOrders, ii_RX0⟩ rfl 4 rfl hd_X0_fewestOfOrders ⟨by decide, by decide, by decide, by decide, Nat.le_of_ble_eq_true rfl⟩ dX0_minutesOfAllOrders_18
    refine j1 ?_
    refine ia_ireturn (pc := 21) F M (by decide) (by decide) dX0_minutesOfAllOrders_21 ?_
    rw [← kr_ext (b := oc σ (σ 0).toNat) (oc σ (σ 0).toNat) (mgk (oc σ (σ 0).toNat) (oC σ (σ 0).toNat) α2) (oC σ (σ 0).toNat) 0 (σ 4) (by omega) (fun k hk => mgk_lt hk)] at q1
    have q2 := q1 _ p_20 ((f_22 80 (by decide)).trans w_3) ((f_22 81 (by decide)).trans w_4) w_21 (Fr_c (Fr_c (Fr_0 (V := V) (S := [80, 81, 82])) f_6 (by decide)) f_22 (by decide))
    rw [show kr (oc σ (σ 0).toNat) = kr 3 from congrArg kr hcn] at q2
    exact q2
  · refine jS (pc := 18) F 0 0 (c_X0_fo4 82 0 (oc σ (σ 0).toNat) 7 (σ 4) hZ p_2 w_5 (z82 hZ) (fun _ => rfl) (by omega) (by omega) hAr (by omega) (fun V_23 p_24 w_25 f_26 => ?_)) rfl ⟨k_X0_fewestOfOrders, il_RX0_68, it_X0_fewestOfOrders, ii_RX0⟩ rfl 4 rfl hd_X0_fewestOfOrders ⟨by decide, by decide, by decide, by decide, Nat.le_of_ble_eq_true rfl⟩ dX0_minutesOfAllOrders_18
    refine j1 ?_
    refine ia_ireturn (pc := 21) F M (by decide) (by decide) dX0_minutesOfAllOrders_21 ?_
    rw [← kr_ext (b := oc σ (σ 0).toNat) (oc σ (σ 0).toNat) (mgk (oc σ (σ 0).toNat) (oC σ (σ 0).toNat) α2) (oC σ (σ 0).toNat) 0 (σ 4) (by omega) (fun k hk => mgk_lt hk)] at q1
    have q2 := q1 _ p_24 ((f_26 80 (by decide)).trans w_3) ((f_26 81 (by decide)).trans w_4) w_25 (Fr_c (Fr_c (Fr_0 (V := V) (S := [80, 81, 82])) f_6 (by decide)) f_26 (by decide))
    rw [show kr (oc σ (σ 0).toNat) = kr 4 from congrArg kr hcn] at q2
    exact q2
  · refine jS (pc := 18) F 0 0 (c_X0_fo5 82 0 (oc σ (σ 0).toNat) 7 (σ 4) hZ p_2 w_5 (z82 hZ) (fun _ => rfl) (by omega) (by omega) hAr (by omega) (fun V_27 p_28 w_29 f_30 => ?_)) rfl ⟨k_X0_fewestOfOrders, il_RX0_68, it_X0_fewestOfOrders, ii_RX0⟩ rfl 4 rfl hd_X0_fewestOfOrders ⟨by decide, by decide, by decide, by decide, Nat.le_of_ble_eq_true rfl⟩ dX0_minutesOfAllOrders_18
    refine j1 ?_
    refine ia_ireturn (pc := 21) F M (by decide) (by decide) dX0_minutesOfAllOrders_21 ?_
    rw [← kr_ext (b := oc σ (σ 0).toNat) (oc σ (σ 0).toNat) (mgk (oc σ (σ 0).toNat) (oC σ (σ 0).toNat) α2) (oC σ (σ 0).toNat) 0 (σ 4) (by omega) (fun k hk => mgk_lt hk)] at q1
    have q2 := q1 _ p_28 ((f_30 80 (by decide)).trans w_3) ((f_30 81 (by decide)).trans w_4) w_29 (Fr_c (Fr_c (Fr_0 (V := V) (S := [80, 81, 82])) f_6 (by decide)) f_30 (by decide))
    rw [show kr (oc σ (σ 0).toNat) = kr 5 from congrArg kr hcn] at q2
    exact q2
  · refine jS (pc := 18) F 0 0 (c_X0_fo6 82 0 (oc σ (σ 0).toNat) 7 (σ 4) hZ p_2 w_5 (z82 hZ) (fun _ => rfl) (by omega) (by omega) hAr (by omega) (fun V_31 p_32 w_33 f_34 => ?_)) rfl ⟨k_X0_fewestOfOrders, il_RX0_68, it_X0_fewestOfOrders, ii_RX0⟩ rfl 4 rfl hd_X0_fewestOfOrders ⟨by decide, by decide, by decide, by decide, Nat.le_of_ble_eq_true rfl⟩ dX0_minutesOfAllOrders_18
    refine j1 ?_
    refine ia_ireturn (pc := 21) F M (by decide) (by decide) dX0_minutesOfAllOrders_21 ?_
    rw [← kr_ext (b := oc σ (σ 0).toNat) (oc σ (σ 0).toNat) (mgk (oc σ (σ 0).toNat) (oC σ (σ 0).toNat) α2) (oC σ (σ 0).toNat) 0 (σ 4) (by omega) (fun k hk => mgk_lt hk)] at q1
    have q2 := q1 _ p_32 ((f_34 80 (by decide)).trans w_3) ((f_34 81 (by decide)).trans w_4) w_33 (Fr_c (Fr_c (Fr_0 (V := V) (S := [80, 81, 82])) f_6 (by decide)) f_34 (by decide))
    rw [show kr (oc σ (σ 0).toNat) = kr 6 from congrArg kr hcn] at q2
    exact q2
  · refine jS (pc := 18) F 0 0 (c_X0_fo7 82 0 (oc σ (σ 0).toNat) 7 (σ 4) hZ p_2 w_5 (z82 hZ) (fun _ => rfl) (by omega) (by omega) hAr (by omega) (fun V_35 p_36 w_37 f_38 => ?_)) rfl ⟨k_X0_fewestOfOrders, il_RX0_68, it_X0_fewestOfOrders, ii_RX0⟩ rfl 4 rfl hd_X0_fewestOfOrders ⟨by decide, by decide, by decide, by decide, Nat.le_of_ble_eq_true rfl⟩ dX0_minutesOfAllOrders_18
    refine j1 ?_
    refine ia_ireturn (pc := 21) F M (by decide) (by decide) dX0_minutesOfAllOrders_21 ?_
    rw [← kr_ext (b := oc σ (σ 0).toNat) (oc σ (σ 0).toNat) (mgk (oc σ (σ 0).toNat) (oC σ (σ 0).toNat) α2) (oC σ (σ 0).toNat) 0 (σ 4) (by omega) (fun k hk => mgk_lt hk)] at q1
    have q2 := q1 _ p_36 ((f_38 80 (by decide)).trans w_3) ((f_38 81 (by decide)).trans w_4) w_37 (Fr_c (Fr_c (Fr_0 (V := V) (S := [80, 81, 82])) f_6 (by decide)) f_38 (by decide))
    rw [show kr (oc σ (σ 0).toNat) = kr 7 from congrArg kr hcn] at q2
    exact q2
