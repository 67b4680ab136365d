/-! the model: the table of the best order (made by wip/whole/m1.py) -/
set_option maxRecDepth 100000 in
theorem c_X8_open {Z : ia_Z} {V : ia_H} {Q : ia_O → ia_Z → ia_H → Prop} {σ : Nat → Int} {μ : Nat → Int} {m : Int} (hZ : ZI Z) (hP : PI V) (hI : SI σ m) (h99 : V 99 = μ) (h100 : V 100 = σ)  (q1 : Q (.inl (some (0, ((opb σ (σ 0).toNat : Nat) : Int)))) Z V) : ia_K yX8_open cX8_open 3 (some .int) [(4, ((99 : Nat) : Int))] Z V 4 0 0 Q := by
  refine ia_start RX8 "open" ⟨by decide, rfl, rfl⟩ (Nat.le_of_ble_eq_true rfl) (ia_tg rfl) (fun X F M => ?_)
  show ia_G X 0 0 0 [(4, ((99 : Nat) : Int)), (9, 0), (9, 0)] [] Z V
  obtain ⟨s0, s1, s2, s3, s4, s5, s6, s7, s18, sb, sw, se, sp⟩ := id hI
  refine ia_iconst (pc := 0) F dX8_open_0 ?_
  refine ia_istore_n (pc := 1) F (ls' := [(4, ((99 : Nat) : Int)), (0, 0), (9, 0)]) dX8_open_1 (Nat.le_of_ble_eq_true rfl) rfl rfl ?_
  refine ia_iconst (pc := 2) F dX8_open_2 ?_
  refine ia_istore_n (pc := 3) F (ls' := [(4, ((99 : Nat) : Int)), (0, 0), (0, 0)]) dX8_open_3 (Nat.le_of_ble_eq_true rfl) rfl rfl ?_
  have L4 : ∀ (fu : Nat) (k : Nat), (7 - k < fu) → ((k : Int) ≤ σ 0) → ia_G X 0 0 4 [(4, ((99 : Nat) : Int)), (0, ((opb σ k : Nat) : Int)), (0, (k : Int))] [] Z V := by
    intro fu
    induction fu with
    | zero => intro k hm; exact absurd hm (Nat.not_lt_zero _)
    | succ fu ih =>
      intro k hm hk
      have ih4 := ih
      refine ia_iload_n (pc := 4) F dX8_open_4 rfl ?_
      refine ia_aload_n (pc := 5) F dX8_open_5 rfl ?_
      refine jg (pc := 6) F (z99 hZ) cls11 f11_0 (hP 99 0 100 rfl) il_RX8_7 dX8_open_6 ?_
      refine ia_iconst (pc := 9) F dX8_open_9 ?_
      refine ja (pc := 10) F (v := σ 0) (z100 hZ) 0 rfl (by omega) (congrFun h100 0) dX8_open_10 ?_
      refine ia_icmp_ge (pc := 11) F 38 dX8_open_11 rfl (by omega) (by omega) (fun h_1 => ?_) (fun h_1 => ?_)
      · refine ia_iload_n (pc := 38) F dX8_open_38 rfl ?_
        refine ia_ireturn (pc := 39) F M (by decide) (by decide) dX8_open_39 ?_
        rw [show (σ 0).toNat = k by omega] at q1
        exact q1
      · have r8 := se k (by omega)
        have r7 : miss σ k = run σ k - prt σ k := rfl
        have r9 := opb_lt (σ := σ) k (by omega)
        have r6 := pw_le k (by omega)
        refine ia_iload_n (pc := 14) F dX8_open_14 rfl ?_
        refine ia_aload_n (pc := 15) F dX8_open_15 rfl ?_
        refine ia_iload_n (pc := 16) F dX8_open_16 rfl ?_
        refine jV (pc := 17) F 0 0 (z99 hZ) cls11.1 (c_X8_missing (k : Int) hZ hP hI h99 h100 (by omega) ?_) rfl ⟨k_X8_missing, il_RX8_156, im_X8_missing, is_X8_missing, ii_RX8⟩ 1 rfl hd_X8_missing ⟨by decide, by decide, by decide, by decide, Nat.le_of_ble_eq_true rfl⟩ dX8_open_17
        change ia_ct X _ _ (17 + 3) _ _ _ (.inl (some (0, (miss σ k)))) _ _
        refine j1 ?_
        refine ia_if_le (pc := 20) F 29 dX8_open_20 rfl (by omega) (fun h_2 => ?_) (fun h_2 => ?_)
        · refine ia_iconst (pc := 29) F dX8_open_29 ?_
          refine ia_ior (pc := 30) F dX8_open_30 ?_
          rw [bt_or0 (opb σ k) (by omega), ← opb_0 (σ := σ) (k := k) (by omega)]
          refine ia_istore_n (pc := 31) F (ls' := [(4, ((99 : Nat) : Int)), (0, ((opb σ (k + 1) : Nat) : Int)), (0, (k : Int))]) dX8_open_31 (Nat.le_of_ble_eq_true rfl) rfl rfl ?_
          refine ia_iinc (pc := 32) F (ls' := [(4, ((99 : Nat) : Int)), (0, ((opb σ (k + 1) : Nat) : Int)), (0, ((k + 1 : Nat) : Int))]) dX8_open_32 rfl rfl rfl rfl ?_
          refine ia_goto (pc := 35) F 4 dX8_open_35 rfl ?_
          exact ih4 (k + 1) (by omega) (by omega)
        · refine ia_iconst (pc := 23) F dX8_open_23 ?_
          refine ia_iload_n (pc := 24) F dX8_open_24 rfl ?_
          refine ia_ishl (pc := 25) F dX8_open_25 ?_
          refine ia_goto (pc := 26) F 30 dX8_open_26 rfl ?_
          refine ia_ior (pc := 30) F dX8_open_30 ?_
          rw [(bt_or (opb σ k) (by omega) k (by omega)).1, ← opb_1 (σ := σ) (k := k) (by omega)]
          refine ia_istore_n (pc := 31) F (ls' := [(4, ((99 : Nat) : Int)), (0, ((opb σ (k + 1) : Nat) : Int)), (0, (k : Int))]) dX8_open_31 (Nat.le_of_ble_eq_true rfl) rfl rfl ?_
          refine ia_iinc (pc := 32) F (ls' := [(4, ((99 : Nat) : Int)), (0, ((opb σ (k + 1) : Nat) : Int)), (0, ((k + 1 : Nat) : Int))]) dX8_open_32 rfl rfl rfl rfl ?_
          refine ia_goto (pc := 35) F 4 dX8_open_35 rfl ?_
          exact ih4 (k + 1) (by omega) (by omega)
  exact L4 8 0 (by omega) (by omega)
set_option maxRecDepth 100000 in
theorem c_X8_changeTo {Z : ia_Z} {V : ia_H} {Q : ia_O → ia_Z → ia_H → Prop} {σ : Nat → Int} {μ : Nat → Int} {m : Int} (l e : Nat) (hZ : ZI Z) (hP : PI V) (hI : SI σ m) (h99 : V 99 = μ) (h100 : V 100 = σ) (hl : l = 7 ∨ (l : Int) < σ 0) (he : (e : Int) < σ 0) (q1 : Q (.inl (some (0, (wash (lc σ l) (col σ e))))) Z V) : ia_K yX8_changeTo cX8_changeTo 3 (some .int) [(4, ((99 : Nat) : Int)), (0, (l : Int)), (0, (e : Int))] Z V 3 0 0 Q := by
  refine ia_start RX8 "changeTo" ⟨by decide, rfl, rfl⟩ (Nat.le_of_ble_eq_true rfl) (ia_tg rfl) (fun X F M => ?_)
  show ia_G X 0 0 0 [(4, ((99 : Nat) : Int)), (0, (l : Int)), (0, (e : Int))] [] Z V
  obtain ⟨s0, s1, s2, s3, s4, s5, s6, s7, s18, sb, sw, se, sp⟩ := id hI
  have r9 := se e (by omega)
  refine ia_iload_n (pc := 0) F dX8_changeTo_0 rfl ?_
  refine ia_bipush (pc := 1) F dX8_changeTo_1 (by decide) ?_
  refine ia_icmp_ne (pc := 3) F 15 dX8_changeTo_3 rfl (by omega) (by omega) (fun h_1 => ?_) (fun h_1 => ?_)
  · have r8 := se l (by omega)
    refine ia_aload_n (pc := 15) F dX8_changeTo_15 rfl ?_
    refine ia_iload_n (pc := 16) F dX8_changeTo_16 rfl ?_
    refine ia_iconst (pc := 17) F dX8_changeTo_17 ?_
    refine jV (pc := 18) F 0 0 (z99 hZ) cls11.1 (c_X8_e0 (l : Int) hZ hP hI h99 h100 (by omega) ?_) rfl ⟨k_X8_e, il_RX8_138, im_X8_e, is_X8_e, ii_RX8⟩ 2 rfl hd_X8_e ⟨by decide, by decide, by decide, by decide, Nat.le_of_ble_eq_true rfl⟩ dX8_changeTo_18
    change ia_ct X _ _ (18 + 3) _ _ _ (.inl (some (0, (col σ l)))) _ _
    refine j1 ?_
    refine ia_aload_n (pc := 21) F dX8_changeTo_21 rfl ?_
    refine ia_iload_n (pc := 22) F dX8_changeTo_22 rfl ?_
    refine ia_iconst (pc := 23) F dX8_changeTo_23 ?_
    refine jV (pc := 24) F 0 0 (z99 hZ) cls11.1 (c_X8_e0 (e : Int) hZ hP hI h99 h100 (by omega) ?_) rfl ⟨k_X8_e, il_RX8_138, im_X8_e, is_X8_e, ii_RX8⟩ 2 rfl hd_X8_e ⟨by decide, by decide, by decide, by decide, Nat.le_of_ble_eq_true rfl⟩ dX8_changeTo_24
    change ia_ct X _ _ (24 + 3) _ _ _ (.inl (some (0, (col σ e)))) _ _
    refine j1 ?_
    refine jS (pc := 27) F 0 0 (c_X8_change (col σ l) (col σ e) (by omega) (by omega) ?_) rfl ⟨k_X8_change, il_RX8_153, it_X8_change, ii_RX8⟩ rfl 2 rfl hd_X8_change ⟨by decide, by decide, by decide, by decide, Nat.le_of_ble_eq_true rfl⟩ dX8_changeTo_27
    refine j1 ?_
    refine ia_ireturn (pc := 30) F M (by decide) (by decide) dX8_changeTo_30 ?_
    first | (rw [show l = 7 by omega, lc_7] at q1; exact q1) | (rw [lc_e (by omega)] at q1; exact q1)
  · refine ia_aload_n (pc := 6) F dX8_changeTo_6 rfl ?_
    refine jg (pc := 7) F (z99 hZ) cls11 f11_0 (hP 99 0 100 rfl) il_RX8_7 dX8_changeTo_7 ?_
    refine ia_iconst (pc := 10) F dX8_changeTo_10 ?_
    refine ja (pc := 11) F (v := σ 4) (z100 hZ) 4 rfl (by omega) (congrFun h100 4) dX8_changeTo_11 ?_
    refine ia_goto (pc := 12) F 21 dX8_changeTo_12 rfl ?_
    refine ia_aload_n (pc := 21) F dX8_changeTo_21 rfl ?_
    refine ia_iload_n (pc := 22) F dX8_changeTo_22 rfl ?_
    refine ia_iconst (pc := 23) F dX8_changeTo_23 ?_
    refine jV (pc := 24) F 0 0 (z99 hZ) cls11.1 (c_X8_e0 (e : Int) hZ hP hI h99 h100 (by omega) ?_) rfl ⟨k_X8_e, il_RX8_138, im_X8_e, is_X8_e, ii_RX8⟩ 2 rfl hd_X8_e ⟨by decide, by decide, by decide, by decide, Nat.le_of_ble_eq_true rfl⟩ dX8_changeTo_24
    change ia_ct X _ _ (24 + 3) _ _ _ (.inl (some (0, (col σ e)))) _ _
    refine j1 ?_
    refine jS (pc := 27) F 0 0 (c_X8_change (σ 4) (col σ e) (by omega) (by omega) ?_) rfl ⟨k_X8_change, il_RX8_153, it_X8_change, ii_RX8⟩ rfl 2 rfl hd_X8_change ⟨by decide, by decide, by decide, by decide, Nat.le_of_ble_eq_true rfl⟩ dX8_changeTo_27
    refine j1 ?_
    refine ia_ireturn (pc := 30) F M (by decide) (by decide) dX8_changeTo_30 ?_
    first | (rw [show l = 7 by omega, lc_7] at q1; exact q1) | (rw [lc_e (by omega)] at q1; exact q1)
set_option maxRecDepth 100000 in
theorem c_X8_with {Z : ia_Z} {V : ia_H} {Q : ia_O → ia_Z → ia_H → Prop} {σ : Nat → Int} {μ : Nat → Int} {φ : Nat → Int} {m : Int} (S l e : Nat) (hZ : ZI Z) (hP : PI V) (hI : SI σ m) (h99 : V 99 = μ) (h100 : V 100 = σ) (h104 : V 104 = φ) (hS : S < 128) (hl : l = 7 ∨ (l : Int) < σ 0) (he : (e : Int) < σ 0) (q1 : Q (.inl (some (0, (wnf σ φ S l e)))) Z V) : ia_K yX8_with cX8_with 4 (some .int) [(4, ((99 : Nat) : Int)), (0, (S : Int)), (0, (l : Int)), (0, (e : Int))] Z V 4 0 0 Q := by
  refine ia_start RX8 "with" ⟨by decide, rfl, rfl⟩ (Nat.le_of_ble_eq_true rfl) (ia_tg rfl) (fun X F M => ?_)
  show ia_G X 0 0 0 [(4, ((99 : Nat) : Int)), (0, (S : Int)), (0, (l : Int)), (0, (e : Int))] [] Z V
  obtain ⟨s0, s1, s2, s3, s4, s5, s6, s7, s18, sb, sw, se, sp⟩ := id hI
  refine ia_aload_n (pc := 0) F dX8_with_0 rfl ?_
  refine ia_iload_n (pc := 1) F dX8_with_1 rfl ?_
  refine ia_iload_n (pc := 2) F dX8_with_2 rfl ?_
  refine jV (pc := 3) F 0 0 (z99 hZ) cls11.1 (c_X8_changeTo l e hZ hP hI h99 h100 (by omega) (by omega) ?_) rfl ⟨k_X8_changeTo, il_RX8_174, im_X8_changeTo, is_X8_changeTo, ii_RX8⟩ 2 rfl hd_X8_changeTo ⟨by decide, by decide, by decide, by decide, Nat.le_of_ble_eq_true rfl⟩ dX8_with_3
  refine j1 ?_
  refine ia_aload_n (pc := 6) F dX8_with_6 rfl ?_
  refine jg (pc := 7) F (z99 hZ) cls11 f11_4 (hP 99 4 104 rfl) il_RX8_22 dX8_with_7 ?_
  refine ia_sipush (pc := 10) F dX8_with_10 (by decide) ?_
  refine ia_iload_n (pc := 13) F dX8_with_13 rfl ?_
  refine ia_imul (pc := 14) F dX8_with_14 ?_
  refine ia_iload_n (pc := 15) F dX8_with_15 rfl ?_
  refine ia_iconst (pc := 16) F dX8_with_16 ?_
  refine ia_iload_n (pc := 17) F dX8_with_17 rfl ?_
  refine ia_ishl (pc := 18) F dX8_with_18 ?_
  refine ia_iconst (pc := 19) F dX8_with_19 ?_
  refine ia_ixor (pc := 20) F dX8_with_20 ?_
  refine ia_iand (pc := 21) F dX8_with_21 ?_
  have r9 := bt_x S hS e (by omega)
  rw [r9.1]
  refine ia_iadd (pc := 22) F dX8_with_22 ?_
  refine ja (pc := 23) F (v := φ (128 * e + (S &&& (255 - 2 ^ e)))) (z104 hZ) (128 * e + (S &&& (255 - 2 ^ e))) rfl (by omega) (congrFun h104 (128 * e + (S &&& (255 - 2 ^ e)))) dX8_with_23 ?_
  refine ia_iadd (pc := 24) F dX8_with_24 ?_
  refine ia_ireturn (pc := 25) F M (by decide) (by decide) dX8_with_25 ?_
  exact q1 
set_option maxRecDepth 100000 in
theorem c_X8_lay {Z : ia_Z} {V : ia_H} {Q : ia_O → ia_Z → ia_H → Prop} {σ : Nat → Int} {μ : Nat → Int} {φ : Nat → Int} {m : Int} (hZ : ZI Z) (hP : PI V) (hI : SI σ m) (h99 : V 99 = μ) (h100 : V 100 = σ) (h104 : V 104 = φ)  (q1 : ∀ (f1 : Nat → Int) (V1 : ia_H), (LB σ f1 (σ 0).toNat (2 ^ (σ 0).toNat)) → PI V1 → (V1 104 = f1) → (∀ pp, pp ∉ ([104] : List Nat) → V1 pp = V pp) → Q (.inl none) Z V1) : ia_K yX8_lay cX8_lay 5 none [(4, ((99 : Nat) : Int))] Z V 5 0 0 Q := by
  refine ia_start RX8 "lay" ⟨by decide, rfl, rfl⟩ (Nat.le_of_ble_eq_true rfl) (ia_tg rfl) (fun X F M => ?_)
  show ia_G X 0 0 0 [(4, ((99 : Nat) : Int)), (9, 0), (9, 0), (9, 0), (9, 0)] [] Z V
  obtain ⟨s0, s1, s2, s3, s4, s5, s6, s7, s18, sb, sw, se, sp⟩ := id hI
  refine ia_iconst (pc := 0) F dX8_lay_0 ?_
  refine ia_istore_n (pc := 1) F (ls' := [(4, ((99 : Nat) : Int)), (0, 0), (9, 0), (9, 0), (9, 0)]) dX8_lay_1 (Nat.le_of_ble_eq_true rfl) rfl rfl ?_
  have hpo := Nat.two_pow_pos (σ 0).toNat
  have L2 : ∀ (fu : Nat) (T : Nat) (f1 : Nat → Int) (V3 : ia_H), (2 ^ (σ 0).toNat - T < fu) → (T ≤ 2 ^ (σ 0).toNat) → (LB σ f1 (σ 0).toNat T) → (PI V3) → (V3 104 = f1) → (∀ pp, pp ∉ ([104] : List Nat) → V3 pp = V pp) → ia_G X 0 0 2 [(4, ((99 : Nat) : Int)), (0, (T : Int)), (9, 0), (9, 0), (9, 0)] [] Z V3 := by
    intro fu
    induction fu with
    | zero => intro T f1 V3 hm; exact absurd hm (Nat.not_lt_zero _)
    | succ fu ih =>
      intro T f1 V3 hm hT0 hLB hP3 w3_104 hF3
      have ih2 := ih
      refine ia_iload_n (pc := 2) F dX8_lay_2 rfl ?_
      refine ia_iconst (pc := 3) F dX8_lay_3 ?_
      refine ia_aload_n (pc := 4) F dX8_lay_4 rfl ?_
      refine jg (pc := 5) F (z99 hZ) cls11 f11_0 (hP3 99 0 100 rfl) il_RX8_7 dX8_lay_5 ?_
      refine ia_iconst (pc := 8) F dX8_lay_8 ?_
      refine ja (pc := 9) F (v := σ 0) (z100 hZ) 0 rfl (by omega) (congrFun ((hF3 100 (by decide)).trans h100) 0) dX8_lay_9 ?_
      refine ia_ishl (pc := 10) F dX8_lay_10 ?_
      have hpw := pw_le (σ 0).toNat (by omega)
      rw [bt_1i (x := σ 0) (by omega)]
      refine ia_icmp_ge (pc := 11) F 124 dX8_lay_11 rfl (by omega) (by omega) (fun h_1 => ?_) (fun h_1 => ?_)
      · refine ia_return (pc := 124) F M (by decide) (by decide) dX8_lay_124 ?_
        exact q1 _ _ (by rw [show T = 2 ^ (σ 0).toNat by omega] at hLB; exact hLB) hP3 w3_104 hF3
      · have hT : T < 2 ^ (σ 0).toNat := by omega
        refine ia_iconst (pc := 14) F dX8_lay_14 ?_
        refine ia_istore_n (pc := 15) F (ls' := [(4, ((99 : Nat) : Int)), (0, (T : Int)), (0, 0), (9, 0), (9, 0)]) dX8_lay_15 (Nat.le_of_ble_eq_true rfl) rfl rfl ?_
        have L16 : ∀ (fu : Nat) (l : Nat) (f2 : Nat → Int) (V4 : ia_H), (8 - l < fu) → (l ≤ 8) → (LB σ f2 (σ 0).toNat T) → (LC σ f2 (σ 0).toNat T l) → (PI V4) → (V4 104 = f2) → (∀ pp, pp ∉ ([104] : List Nat) → V4 pp = V pp) → ia_G X 0 0 16 [(4, ((99 : Nat) : Int)), (0, (T : Int)), (0, (l : Int)), (9, 0), (9, 0)] [] Z V4 := by
          intro fu
          induction fu with
          | zero => intro l f2 V4 hm; exact absurd hm (Nat.not_lt_zero _)
          | succ fu ih =>
            intro l f2 V4 hm hl8 hLB hLC hP4 w4_104 hF4
            have ih16 := ih
            refine ia_iload_n (pc := 16) F dX8_lay_16 rfl ?_
            refine ia_bipush (pc := 17) F dX8_lay_17 (by decide) ?_
            refine ia_icmp_gt (pc := 19) F 118 dX8_lay_19 rfl (by omega) (by omega) (fun h_2 => ?_) (fun h_2 => ?_)
            · refine ia_iinc (pc := 118) F (ls' := [(4, ((99 : Nat) : Int)), (0, ((T + 1 : Nat) : Int)), (0, (l : Int)), (9, 0), (9, 0)]) dX8_lay_118 rfl rfl rfl rfl ?_
              refine ia_goto (pc := 121) F 2 dX8_lay_121 rfl ?_
              refine jw (ls' := [(4, ((99 : Nat) : Int)), (0, ((T + 1 : Nat) : Int)), (9, 0), (9, 0), (9, 0)]) [false, false, true, false, false] rfl ?_
              exact ih2 (T + 1) f2 _ (by omega) (by omega) (LB_s (by omega) hLB (by rw [show l = 8 by omega] at hLC; exact hLC)) hP4 w4_104 hF4
            · refine ia_iload_n (pc := 22) F dX8_lay_22 rfl ?_
              refine ia_bipush (pc := 23) F dX8_lay_23 (by decide) ?_
              refine ia_icmp_ge (pc := 25) F 41 dX8_lay_25 rfl (by omega) (by omega) (fun h_3 => ?_) (fun h_3 => ?_)
              · have hlc : 0 ≤ lc σ l ∧ lc σ l ≤ 9 := by rcases (show l = 7 ∨ (l : Int) < σ 0 by omega) with g | g; rw [g, lc_7]; omega; rw [lc_e (by omega)]; exact (se l (by omega)).1
                have hbr := bst_rng (f := wnf σ f2 T l) (S := T) (fun x hx => by have hxN : x < (σ 0).toNat := bit_lt hT hx; have r9 := LB_rng hLB (by omega) (by omega) (fun x hx => (se x (by omega)).1) hxN hx; have w9 := wash_rng hlc (se x (by omega)).1; unfold wnf; omega)
                refine ia_iload_n (pc := 41) F dX8_lay_41 rfl ?_
                refine ia_if_ne (pc := 42) F 49 dX8_lay_42 rfl (by omega) (fun h_4 => ?_) (fun h_4 => ?_)
                · refine ia_ldcI (pc := 49) F (v := 1000000) il_RX8_177 dX8_lay_49 ?_
                  refine ia_istore_n (pc := 51) F (ls' := [(4, ((99 : Nat) : Int)), (0, (T : Int)), (0, (l : Int)), (0, 1000000), (9, 0)]) dX8_lay_51 (Nat.le_of_ble_eq_true rfl) rfl rfl ?_
                  refine ia_iconst (pc := 52) F dX8_lay_52 ?_
                  refine ia_istore (pc := 53) F (ls' := [(4, ((99 : Nat) : Int)), (0, (T : Int)), (0, (l : Int)), (0, 1000000), (0, 0)]) dX8_lay_53 (Nat.le_of_ble_eq_true rfl) rfl rfl ?_
                  have L55 : ∀ (fu : Nat) (k : Nat) (v : Int) (V5 : ia_H), (7 - k < fu) → ((k : Int) ≤ σ 0) → (v = bst (wnf σ f2 T l) T k) → (PI V5) → (V5 104 = f2) → (∀ pp, pp ∉ ([104] : List Nat) → V5 pp = V pp) → ia_G X 0 0 55 [(4, ((99 : Nat) : Int)), (0, (T : Int)), (0, (l : Int)), (0, v), (0, (k : Int))] [] Z V5 := by
                    intro fu
                    induction fu with
                    | zero => intro k v V5 hm; exact absurd hm (Nat.not_lt_zero _)
                    | succ fu ih =>
                      intro k v V5 hm hk hv hP5 w5_104 hF5
                      have ih55 := ih
                      refine ia_iload (pc := 55) F dX8_lay_55 rfl ?_
                      refine ia_aload_n (pc := 57) F dX8_lay_57 rfl ?_
                      refine jg (pc := 58) F (z99 hZ) cls11 f11_0 (hP5 99 0 100 rfl) il_RX8_7 dX8_lay_58 ?_
                      refine ia_iconst (pc := 61) F dX8_lay_61 ?_
                      refine ja (pc := 62) F (v := σ 0) (z100 hZ) 0 rfl (by omega) (congrFun ((hF5 100 (by decide)).trans h100) 0) dX8_lay_62 ?_
                      refine ia_icmp_ge (pc := 63) F 99 dX8_lay_63 rfl (by omega) (by omega) (fun h_5 => ?_) (fun h_5 => ?_)
                      · refine ia_aload_n (pc := 99) F dX8_lay_99 rfl ?_
                        refine jg (pc := 100) F (z99 hZ) cls11 f11_4 (hP5 99 4 104 rfl) il_RX8_22 dX8_lay_100 ?_
                        refine ia_sipush (pc := 103) F dX8_lay_103 (by decide) ?_
                        refine ia_iload_n (pc := 106) F dX8_lay_106 rfl ?_
                        refine ia_imul (pc := 107) F dX8_lay_107 ?_
                        refine ia_iload_n (pc := 108) F dX8_lay_108 rfl ?_
                        refine ia_iadd (pc := 109) F dX8_lay_109 ?_
                        refine ia_iload_n (pc := 110) F dX8_lay_110 rfl ?_
                        refine js (pc := 111) F (z104 hZ) (128 * l + T) rfl (by omega) dX8_lay_111 ?_
                        refine ia_iinc (pc := 112) F (ls' := [(4, ((99 : Nat) : Int)), (0, (T : Int)), (0, ((l + 1 : Nat) : Int)), (0, v), (0, (k : Int))]) dX8_lay_112 rfl rfl rfl rfl ?_
                        refine ia_goto (pc := 115) F 16 dX8_lay_115 rfl ?_
                        refine jw (ls' := [(4, ((99 : Nat) : Int)), (0, (T : Int)), (0, ((l + 1 : Nat) : Int)), (9, 0), (9, 0)]) [false, false, false, true, true] rfl ?_
                        exact ih16 (l + 1) (up f2 (128 * l + T) v) _ (by omega) (by omega) (LB_u hLB (by omega)) (LC_u hLC (by rw [hv, show k = (σ 0).toNat by omega]; exact LB_v hLB (by omega) hT (fun x hx => (se x (by omega)).1) hlc)) (PI_u hP5 rfl) (rowU w5_104) (Fr_u hF5 (by decide))
                      · have hvr := hbr k
                        rw [← hv] at hvr
                        refine ia_iload_n (pc := 66) F dX8_lay_66 rfl ?_
                        refine ia_iload (pc := 67) F dX8_lay_67 rfl ?_
                        refine ia_ishr (pc := 69) F dX8_lay_69 ?_
                        refine ia_iconst (pc := 70) F dX8_lay_70 ?_
                        refine ia_iand (pc := 71) F dX8_lay_71 ?_
                        rw [bt_m T (by omega) k (by omega)]
                        by_cases hb : T.testBit k = true
                        · rw [if_pos hb]
                          refine ia_iconst (pc := 72) F dX8_lay_72 ?_
                          refine ia_icmp_ne (pc := 73) F 91 dX8_lay_73 rfl (by omega) (by omega) (fun h9 => absurd h9 (by omega)) (fun _ => ?_)
                          refine ia_iload_n (pc := 76) F dX8_lay_76 rfl ?_
                          refine ia_aload_n (pc := 77) F dX8_lay_77 rfl ?_
                          refine ia_iload_n (pc := 78) F dX8_lay_78 rfl ?_
                          refine ia_iload_n (pc := 79) F dX8_lay_79 rfl ?_
                          refine ia_iload (pc := 80) F dX8_lay_80 rfl ?_
                          refine jV (pc := 82) F 0 0 (z99 hZ) cls11.1 (c_X8_with T l k hZ hP5 hI ((hF5 99 (by decide)).trans h99) ((hF5 100 (by decide)).trans h100) w5_104 (by omega) (by omega) (by omega) ?_) rfl ⟨k_X8_with, il_RX8_178, im_X8_with, is_X8_with, ii_RX8⟩ 3 rfl hd_X8_with ⟨by decide, by decide, by decide, by decide, Nat.le_of_ble_eq_true rfl⟩ dX8_lay_82
                          refine j1 ?_
                          refine jS (pc := 85) F 0 0 (c_X8_less v (wnf σ f2 T l k) (by omega) (by have r9 := LB_rng hLB (by omega) (by omega) (fun x hx => (se x (by omega)).1) (show k < (σ 0).toNat by omega) hb; have w9 := wash_rng hlc (se k (by omega)).1; unfold wnf; omega) (fun h_6 => ?_) (fun h_7 => ?_)) rfl ⟨k_X8_less, il_RX8_162, it_X8_less, ii_RX8⟩ rfl 2 rfl hd_X8_less ⟨by decide, by decide, by decide, by decide, Nat.le_of_ble_eq_true rfl⟩ dX8_lay_85
                          · refine j1 ?_
                            refine ia_goto (pc := 88) F 92 dX8_lay_88 rfl ?_
                            refine ia_istore_n (pc := 92) F (ls' := [(4, ((99 : Nat) : Int)), (0, (T : Int)), (0, (l : Int)), (0, v), (0, (k : Int))]) dX8_lay_92 (Nat.le_of_ble_eq_true rfl) rfl rfl ?_
                            refine ia_iinc (pc := 93) F (ls' := [(4, ((99 : Nat) : Int)), (0, (T : Int)), (0, (l : Int)), (0, v), (0, ((k + 1 : Nat) : Int))]) dX8_lay_93 rfl rfl rfl rfl ?_
                            refine ia_goto (pc := 96) F 55 dX8_lay_96 rfl ?_
                            exact ih55 (k + 1) v _ (by omega) (by omega) (by rw [bst_1 hb, ← hv]; first | rw [if_pos (by omega)] | rw [if_neg (by omega)]) hP5 w5_104 hF5
                          · refine j1 ?_
                            refine ia_goto (pc := 88) F 92 dX8_lay_88 rfl ?_
                            refine ia_istore_n (pc := 92) F (ls' := [(4, ((99 : Nat) : Int)), (0, (T : Int)), (0, (l : Int)), (0, (wnf σ f2 T l k)), (0, (k : Int))]) dX8_lay_92 (Nat.le_of_ble_eq_true rfl) rfl rfl ?_
                            refine ia_iinc (pc := 93) F (ls' := [(4, ((99 : Nat) : Int)), (0, (T : Int)), (0, (l : Int)), (0, (wnf σ f2 T l k)), (0, ((k + 1 : Nat) : Int))]) dX8_lay_93 rfl rfl rfl rfl ?_
                            refine ia_goto (pc := 96) F 55 dX8_lay_96 rfl ?_
                            exact ih55 (k + 1) (wnf σ f2 T l k) _ (by omega) (by omega) (by rw [bst_1 hb, ← hv]; first | rw [if_pos (by omega)] | rw [if_neg (by omega)]) hP5 w5_104 hF5
                        · rw [if_neg hb]
                          refine ia_iconst (pc := 72) F dX8_lay_72 ?_
                          refine ia_icmp_ne (pc := 73) F 91 dX8_lay_73 rfl (by omega) (by omega) (fun _ => ?_) (fun h9 => absurd h9 (by omega))
                          refine ia_iload_n (pc := 91) F dX8_lay_91 rfl ?_
                          refine ia_istore_n (pc := 92) F (ls' := [(4, ((99 : Nat) : Int)), (0, (T : Int)), (0, (l : Int)), (0, v), (0, (k : Int))]) dX8_lay_92 (Nat.le_of_ble_eq_true rfl) rfl rfl ?_
                          refine ia_iinc (pc := 93) F (ls' := [(4, ((99 : Nat) : Int)), (0, (T : Int)), (0, (l : Int)), (0, v), (0, ((k + 1 : Nat) : Int))]) dX8_lay_93 rfl rfl rfl rfl ?_
                          refine ia_goto (pc := 96) F 55 dX8_lay_96 rfl ?_
                          exact ih55 (k + 1) v _ (by omega) (by omega) (by rw [bst_n hb]; exact hv) hP5 w5_104 hF5
                  exact L55 (7 + 1) 0 1000000 _ (by omega) (by omega) (by unfold bst; first | rw [if_pos (by omega)] | rw [if_neg (by omega)]) hP4 w4_104 hF4
                · refine ia_iconst (pc := 45) F dX8_lay_45 ?_
                  refine ia_goto (pc := 46) F 51 dX8_lay_46 rfl ?_
                  refine ia_istore_n (pc := 51) F (ls' := [(4, ((99 : Nat) : Int)), (0, (T : Int)), (0, (l : Int)), (0, 0), (9, 0)]) dX8_lay_51 (Nat.le_of_ble_eq_true rfl) rfl rfl ?_
                  refine ia_iconst (pc := 52) F dX8_lay_52 ?_
                  refine ia_istore (pc := 53) F (ls' := [(4, ((99 : Nat) : Int)), (0, (T : Int)), (0, (l : Int)), (0, 0), (0, 0)]) dX8_lay_53 (Nat.le_of_ble_eq_true rfl) rfl rfl ?_
                  have L55 : ∀ (fu : Nat) (k : Nat) (v : Int) (V5 : ia_H), (7 - k < fu) → ((k : Int) ≤ σ 0) → (v = bst (wnf σ f2 T l) T k) → (PI V5) → (V5 104 = f2) → (∀ pp, pp ∉ ([104] : List Nat) → V5 pp = V pp) → ia_G X 0 0 55 [(4, ((99 : Nat) : Int)), (0, (T : Int)), (0, (l : Int)), (0, v), (0, (k : Int))] [] Z V5 := by
                    intro fu
                    induction fu with
                    | zero => intro k v V5 hm; exact absurd hm (Nat.not_lt_zero _)
                    | succ fu ih =>
                      intro k v V5 hm hk hv hP5 w5_104 hF5
                      have ih55 := ih
                      refine ia_iload (pc := 55) F dX8_lay_55 rfl ?_
                      refine ia_aload_n (pc := 57) F dX8_lay_57 rfl ?_
                      refine jg (pc := 58) F (z99 hZ) cls11 f11_0 (hP5 99 0 100 rfl) il_RX8_7 dX8_lay_58 ?_
                      refine ia_iconst (pc := 61) F dX8_lay_61 ?_
                      refine ja (pc := 62) F (v := σ 0) (z100 hZ) 0 rfl (by omega) (congrFun ((hF5 100 (by decide)).trans h100) 0) dX8_lay_62 ?_
                      refine ia_icmp_ge (pc := 63) F 99 dX8_lay_63 rfl (by omega) (by omega) (fun h_8 => ?_) (fun h_8 => ?_)
                      · refine ia_aload_n (pc := 99) F dX8_lay_99 rfl ?_
                        refine jg (pc := 100) F (z99 hZ) cls11 f11_4 (hP5 99 4 104 rfl) il_RX8_22 dX8_lay_100 ?_
                        refine ia_sipush (pc := 103) F dX8_lay_103 (by decide) ?_
                        refine ia_iload_n (pc := 106) F dX8_lay_106 rfl ?_
                        refine ia_imul (pc := 107) F dX8_lay_107 ?_
                        refine ia_iload_n (pc := 108) F dX8_lay_108 rfl ?_
                        refine ia_iadd (pc := 109) F dX8_lay_109 ?_
                        refine ia_iload_n (pc := 110) F dX8_lay_110 rfl ?_
                        refine js (pc := 111) F (z104 hZ) (128 * l + T) rfl (by omega) dX8_lay_111 ?_
                        refine ia_iinc (pc := 112) F (ls' := [(4, ((99 : Nat) : Int)), (0, (T : Int)), (0, ((l + 1 : Nat) : Int)), (0, v), (0, (k : Int))]) dX8_lay_112 rfl rfl rfl rfl ?_
                        refine ia_goto (pc := 115) F 16 dX8_lay_115 rfl ?_
                        refine jw (ls' := [(4, ((99 : Nat) : Int)), (0, (T : Int)), (0, ((l + 1 : Nat) : Int)), (9, 0), (9, 0)]) [false, false, false, true, true] rfl ?_
                        exact ih16 (l + 1) (up f2 (128 * l + T) v) _ (by omega) (by omega) (LB_u hLB (by omega)) (LC_u hLC (by rw [hv, show k = (σ 0).toNat by omega]; exact LB_v hLB (by omega) hT (fun x hx => (se x (by omega)).1) hlc)) (PI_u hP5 rfl) (rowU w5_104) (Fr_u hF5 (by decide))
                      · have hvr := hbr k
                        rw [← hv] at hvr
                        refine ia_iload_n (pc := 66) F dX8_lay_66 rfl ?_
                        refine ia_iload (pc := 67) F dX8_lay_67 rfl ?_
                        refine ia_ishr (pc := 69) F dX8_lay_69 ?_
                        refine ia_iconst (pc := 70) F dX8_lay_70 ?_
                        refine ia_iand (pc := 71) F dX8_lay_71 ?_
                        rw [bt_m T (by omega) k (by omega)]
                        by_cases hb : T.testBit k = true
                        · rw [if_pos hb]
                          refine ia_iconst (pc := 72) F dX8_lay_72 ?_
                          refine ia_icmp_ne (pc := 73) F 91 dX8_lay_73 rfl (by omega) (by omega) (fun h9 => absurd h9 (by omega)) (fun _ => ?_)
                          refine ia_iload_n (pc := 76) F dX8_lay_76 rfl ?_
                          refine ia_aload_n (pc := 77) F dX8_lay_77 rfl ?_
                          refine ia_iload_n (pc := 78) F dX8_lay_78 rfl ?_
                          refine ia_iload_n (pc := 79) F dX8_lay_79 rfl ?_
                          refine ia_iload (pc := 80) F dX8_lay_80 rfl ?_
                          refine jV (pc := 82) F 0 0 (z99 hZ) cls11.1 (c_X8_with T l k hZ hP5 hI ((hF5 99 (by decide)).trans h99) ((hF5 100 (by decide)).trans h100) w5_104 (by omega) (by omega) (by omega) ?_) rfl ⟨k_X8_with, il_RX8_178, im_X8_with, is_X8_with, ii_RX8⟩ 3 rfl hd_X8_with ⟨by decide, by decide, by decide, by decide, Nat.le_of_ble_eq_true rfl⟩ dX8_lay_82
                          refine j1 ?_
                          refine jS (pc := 85) F 0 0 (c_X8_less v (wnf σ f2 T l k) (by omega) (by have r9 := LB_rng hLB (by omega) (by omega) (fun x hx => (se x (by omega)).1) (show k < (σ 0).toNat by omega) hb; have w9 := wash_rng hlc (se k (by omega)).1; unfold wnf; omega) (fun h_9 => ?_) (fun h_10 => ?_)) rfl ⟨k_X8_less, il_RX8_162, it_X8_less, ii_RX8⟩ rfl 2 rfl hd_X8_less ⟨by decide, by decide, by decide, by decide, Nat.le_of_ble_eq_true rfl⟩ dX8_lay_85
                          · refine j1 ?_
                            refine ia_goto (pc := 88) F 92 dX8_lay_88 rfl ?_
                            refine ia_istore_n (pc := 92) F (ls' := [(4, ((99 : Nat) : Int)), (0, (T : Int)), (0, (l : Int)), (0, v), (0, (k : Int))]) dX8_lay_92 (Nat.le_of_ble_eq_true rfl) rfl rfl ?_
                            refine ia_iinc (pc := 93) F (ls' := [(4, ((99 : Nat) : Int)), (0, (T : Int)), (0, (l : Int)), (0, v), (0, ((k + 1 : Nat) : Int))]) dX8_lay_93 rfl rfl rfl rfl ?_
                            refine ia_goto (pc := 96) F 55 dX8_lay_96 rfl ?_
                            exact ih55 (k + 1) v _ (by omega) (by omega) (by rw [bst_1 hb, ← hv]; first | rw [if_pos (by omega)] | rw [if_neg (by omega)]) hP5 w5_104 hF5
                          · refine j1 ?_
                            refine ia_goto (pc := 88) F 92 dX8_lay_88 rfl ?_
                            refine ia_istore_n (pc := 92) F (ls' := [(4, ((99 : Nat) : Int)), (0, (T : Int)), (0, (l : Int)), (0, (wnf σ f2 T l k)), (0, (k : Int))]) dX8_lay_92 (Nat.le_of_ble_eq_true rfl) rfl rfl ?_
                            refine ia_iinc (pc := 93) F (ls' := [(4, ((99 : Nat) : Int)), (0, (T : Int)), (0, (l : Int)), (0, (wnf σ f2 T l k)), (0, ((k + 1 : Nat) : Int))]) dX8_lay_93 rfl rfl rfl rfl ?_
                            refine ia_goto (pc := 96) F 55 dX8_lay_96 rfl ?_
                            exact ih55 (k + 1) (wnf σ f2 T l k) _ (by omega) (by omega) (by rw [bst_1 hb, ← hv]; first | rw [if_pos (by omega)] | rw [if_neg (by omega)]) hP5 w5_104 hF5
                        · rw [if_neg hb]
                          refine ia_iconst (pc := 72) F dX8_lay_72 ?_
                          refine ia_icmp_ne (pc := 73) F 91 dX8_lay_73 rfl (by omega) (by omega) (fun _ => ?_) (fun h9 => absurd h9 (by omega))
                          refine ia_iload_n (pc := 91) F dX8_lay_91 rfl ?_
                          refine ia_istore_n (pc := 92) F (ls' := [(4, ((99 : Nat) : Int)), (0, (T : Int)), (0, (l : Int)), (0, v), (0, (k : Int))]) dX8_lay_92 (Nat.le_of_ble_eq_true rfl) rfl rfl ?_
                          refine ia_iinc (pc := 93) F (ls' := [(4, ((99 : Nat) : Int)), (0, (T : Int)), (0, (l : Int)), (0, v), (0, ((k + 1 : Nat) : Int))]) dX8_lay_93 rfl rfl rfl rfl ?_
                          refine ia_goto (pc := 96) F 55 dX8_lay_96 rfl ?_
                          exact ih55 (k + 1) v _ (by omega) (by omega) (by rw [bst_n hb]; exact hv) hP5 w5_104 hF5
                  exact L55 (7 + 1) 0 0 _ (by omega) (by omega) (by unfold bst; first | rw [if_pos (by omega)] | rw [if_neg (by omega)]) hP4 w4_104 hF4
              · refine ia_iload_n (pc := 28) F dX8_lay_28 rfl ?_
                refine ia_aload_n (pc := 29) F dX8_lay_29 rfl ?_
                refine jg (pc := 30) F (z99 hZ) cls11 f11_0 (hP4 99 0 100 rfl) il_RX8_7 dX8_lay_30 ?_
                refine ia_iconst (pc := 33) F dX8_lay_33 ?_
                refine ja (pc := 34) F (v := σ 0) (z100 hZ) 0 rfl (by omega) (congrFun ((hF4 100 (by decide)).trans h100) 0) dX8_lay_34 ?_
                refine ia_icmp_lt (pc := 35) F 41 dX8_lay_35 rfl (by omega) (by omega) (fun h_11 => ?_) (fun h_11 => ?_)
                · have hlc : 0 ≤ lc σ l ∧ lc σ l ≤ 9 := by rcases (show l = 7 ∨ (l : Int) < σ 0 by omega) with g | g; rw [g, lc_7]; omega; rw [lc_e (by omega)]; exact (se l (by omega)).1
                  have hbr := bst_rng (f := wnf σ f2 T l) (S := T) (fun x hx => by have hxN : x < (σ 0).toNat := bit_lt hT hx; have r9 := LB_rng hLB (by omega) (by omega) (fun x hx => (se x (by omega)).1) hxN hx; have w9 := wash_rng hlc (se x (by omega)).1; unfold wnf; omega)
                  refine ia_iload_n (pc := 41) F dX8_lay_41 rfl ?_
                  refine ia_if_ne (pc := 42) F 49 dX8_lay_42 rfl (by omega) (fun h_12 => ?_) (fun h_12 => ?_)
                  · refine ia_ldcI (pc := 49) F (v := 1000000) il_RX8_177 dX8_lay_49 ?_
                    refine ia_istore_n (pc := 51) F (ls' := [(4, ((99 : Nat) : Int)), (0, (T : Int)), (0, (l : Int)), (0, 1000000), (9, 0)]) dX8_lay_51 (Nat.le_of_ble_eq_true rfl) rfl rfl ?_
                    refine ia_iconst (pc := 52) F dX8_lay_52 ?_
                    refine ia_istore (pc := 53) F (ls' := [(4, ((99 : Nat) : Int)), (0, (T : Int)), (0, (l : Int)), (0, 1000000), (0, 0)]) dX8_lay_53 (Nat.le_of_ble_eq_true rfl) rfl rfl ?_
                    have L55 : ∀ (fu : Nat) (k : Nat) (v : Int) (V5 : ia_H), (7 - k < fu) → ((k : Int) ≤ σ 0) → (v = bst (wnf σ f2 T l) T k) → (PI V5) → (V5 104 = f2) → (∀ pp, pp ∉ ([104] : List Nat) → V5 pp = V pp) → ia_G X 0 0 55 [(4, ((99 : Nat) : Int)), (0, (T : Int)), (0, (l : Int)), (0, v), (0, (k : Int))] [] Z V5 := by
                      intro fu
                      induction fu with
                      | zero => intro k v V5 hm; exact absurd hm (Nat.not_lt_zero _)
                      | succ fu ih =>
                        intro k v V5 hm hk hv hP5 w5_104 hF5
                        have ih55 := ih
                        refine ia_iload (pc := 55) F dX8_lay_55 rfl ?_
                        refine ia_aload_n (pc := 57) F dX8_lay_57 rfl ?_
                        refine jg (pc := 58) F (z99 hZ) cls11 f11_0 (hP5 99 0 100 rfl) il_RX8_7 dX8_lay_58 ?_
                        refine ia_iconst (pc := 61) F dX8_lay_61 ?_
                        refine ja (pc := 62) F (v := σ 0) (z100 hZ) 0 rfl (by omega) (congrFun ((hF5 100 (by decide)).trans h100) 0) dX8_lay_62 ?_
                        refine ia_icmp_ge (pc := 63) F 99 dX8_lay_63 rfl (by omega) (by omega) (fun h_13 => ?_) (fun h_13 => ?_)
                        · refine ia_aload_n (pc := 99) F dX8_lay_99 rfl ?_
                          refine jg (pc := 100) F (z99 hZ) cls11 f11_4 (hP5 99 4 104 rfl) il_RX8_22 dX8_lay_100 ?_
                          refine ia_sipush (pc := 103) F dX8_lay_103 (by decide) ?_
                          refine ia_iload_n (pc := 106) F dX8_lay_106 rfl ?_
                          refine ia_imul (pc := 107) F dX8_lay_107 ?_
                          refine ia_iload_n (pc := 108) F dX8_lay_108 rfl ?_
                          refine ia_iadd (pc := 109) F dX8_lay_109 ?_
                          refine ia_iload_n (pc := 110) F dX8_lay_110 rfl ?_
                          refine js (pc := 111) F (z104 hZ) (128 * l + T) rfl (by omega) dX8_lay_111 ?_
                          refine ia_iinc (pc := 112) F (ls' := [(4, ((99 : Nat) : Int)), (0, (T : Int)), (0, ((l + 1 : Nat) : Int)), (0, v), (0, (k : Int))]) dX8_lay_112 rfl rfl rfl rfl ?_
                          refine ia_goto (pc := 115) F 16 dX8_lay_115 rfl ?_
                          refine jw (ls' := [(4, ((99 : Nat) : Int)), (0, (T : Int)), (0, ((l + 1 : Nat) : Int)), (9, 0), (9, 0)]) [false, false, false, true, true] rfl ?_
                          exact ih16 (l + 1) (up f2 (128 * l + T) v) _ (by omega) (by omega) (LB_u hLB (by omega)) (LC_u hLC (by rw [hv, show k = (σ 0).toNat by omega]; exact LB_v hLB (by omega) hT (fun x hx => (se x (by omega)).1) hlc)) (PI_u hP5 rfl) (rowU w5_104) (Fr_u hF5 (by decide))
                        · have hvr := hbr k
                          rw [← hv] at hvr
                          refine ia_iload_n (pc := 66) F dX8_lay_66 rfl ?_
                          refine ia_iload (pc := 67) F dX8_lay_67 rfl ?_
                          refine ia_ishr (pc := 69) F dX8_lay_69 ?_
                          refine ia_iconst (pc := 70) F dX8_lay_70 ?_
                          refine ia_iand (pc := 71) F dX8_lay_71 ?_
                          rw [bt_m T (by omega) k (by omega)]
                          by_cases hb : T.testBit k = true
                          · rw [if_pos hb]
                            refine ia_iconst (pc := 72) F dX8_lay_72 ?_
                            refine ia_icmp_ne (pc := 73) F 91 dX8_lay_73 rfl (by omega) (by omega) (fun h9 => absurd h9 (by omega)) (fun _ => ?_)
                            refine ia_iload_n (pc := 76) F dX8_lay_76 rfl ?_
                            refine ia_aload_n (pc := 77) F dX8_lay_77 rfl ?_
                            refine ia_iload_n (pc := 78) F dX8_lay_78 rfl ?_
                            refine ia_iload_n (pc := 79) F dX8_lay_79 rfl ?_
                            refine ia_iload (pc := 80) F dX8_lay_80 rfl ?_
                            refine jV (pc := 82) F 0 0 (z99 hZ) cls11.1 (c_X8_with T l k hZ hP5 hI ((hF5 99 (by decide)).trans h99) ((hF5 100 (by decide)).trans h100) w5_104 (by omega) (by omega) (by omega) ?_) rfl ⟨k_X8_with, il_RX8_178, im_X8_with, is_X8_with, ii_RX8⟩ 3 rfl hd_X8_with ⟨by decide, by decide, by decide, by decide, Nat.le_of_ble_eq_true rfl⟩ dX8_lay_82
                            refine j1 ?_
                            refine jS (pc := 85) F 0 0 (c_X8_less v (wnf σ f2 T l k) (by omega) (by have r9 := LB_rng hLB (by omega) (by omega) (fun x hx => (se x (by omega)).1) (show k < (σ 0).toNat by omega) hb; have w9 := wash_rng hlc (se k (by omega)).1; unfold wnf; omega) (fun h_14 => ?_) (fun h_15 => ?_)) rfl ⟨k_X8_less, il_RX8_162, it_X8_less, ii_RX8⟩ rfl 2 rfl hd_X8_less ⟨by decide, by decide, by decide, by decide, Nat.le_of_ble_eq_true rfl⟩ dX8_lay_85
                            · refine j1 ?_
                              refine ia_goto (pc := 88) F 92 dX8_lay_88 rfl ?_
                              refine ia_istore_n (pc := 92) F (ls' := [(4, ((99 : Nat) : Int)), (0, (T : Int)), (0, (l : Int)), (0, v), (0, (k : Int))]) dX8_lay_92 (Nat.le_of_ble_eq_true rfl) rfl rfl ?_
                              refine ia_iinc (pc := 93) F (ls' := [(4, ((99 : Nat) : Int)), (0, (T : Int)), (0, (l : Int)), (0, v), (0, ((k + 1 : Nat) : Int))]) dX8_lay_93 rfl rfl rfl rfl ?_
                              refine ia_goto (pc := 96) F 55 dX8_lay_96 rfl ?_
                              exact ih55 (k + 1) v _ (by omega) (by omega) (by rw [bst_1 hb, ← hv]; first | rw [if_pos (by omega)] | rw [if_neg (by omega)]) hP5 w5_104 hF5
                            · refine j1 ?_
                              refine ia_goto (pc := 88) F 92 dX8_lay_88 rfl ?_
                              refine ia_istore_n (pc := 92) F (ls' := [(4, ((99 : Nat) : Int)), (0, (T : Int)), (0, (l : Int)), (0, (wnf σ f2 T l k)), (0, (k : Int))]) dX8_lay_92 (Nat.le_of_ble_eq_true rfl) rfl rfl ?_
                              refine ia_iinc (pc := 93) F (ls' := [(4, ((99 : Nat) : Int)), (0, (T : Int)), (0, (l : Int)), (0, (wnf σ f2 T l k)), (0, ((k + 1 : Nat) : Int))]) dX8_lay_93 rfl rfl rfl rfl ?_
                              refine ia_goto (pc := 96) F 55 dX8_lay_96 rfl ?_
                              exact ih55 (k + 1) (wnf σ f2 T l k) _ (by omega) (by omega) (by rw [bst_1 hb, ← hv]; first | rw [if_pos (by omega)] | rw [if_neg (by omega)]) hP5 w5_104 hF5
                          · rw [if_neg hb]
                            refine ia_iconst (pc := 72) F dX8_lay_72 ?_
                            refine ia_icmp_ne (pc := 73) F 91 dX8_lay_73 rfl (by omega) (by omega) (fun _ => ?_) (fun h9 => absurd h9 (by omega))
                            refine ia_iload_n (pc := 91) F dX8_lay_91 rfl ?_
                            refine ia_istore_n (pc := 92) F (ls' := [(4, ((99 : Nat) : Int)), (0, (T : Int)), (0, (l : Int)), (0, v), (0, (k : Int))]) dX8_lay_92 (Nat.le_of_ble_eq_true rfl) rfl rfl ?_
                            refine ia_iinc (pc := 93) F (ls' := [(4, ((99 : Nat) : Int)), (0, (T : Int)), (0, (l : Int)), (0, v), (0, ((k + 1 : Nat) : Int))]) dX8_lay_93 rfl rfl rfl rfl ?_
                            refine ia_goto (pc := 96) F 55 dX8_lay_96 rfl ?_
                            exact ih55 (k + 1) v _ (by omega) (by omega) (by rw [bst_n hb]; exact hv) hP5 w5_104 hF5
                    exact L55 (7 + 1) 0 1000000 _ (by omega) (by omega) (by unfold bst; first | rw [if_pos (by omega)] | rw [if_neg (by omega)]) hP4 w4_104 hF4
                  · refine ia_iconst (pc := 45) F dX8_lay_45 ?_
                    refine ia_goto (pc := 46) F 51 dX8_lay_46 rfl ?_
                    refine ia_istore_n (pc := 51) F (ls' := [(4, ((99 : Nat) : Int)), (0, (T : Int)), (0, (l : Int)), (0, 0), (9, 0)]) dX8_lay_51 (Nat.le_of_ble_eq_true rfl) rfl rfl ?_
                    refine ia_iconst (pc := 52) F dX8_lay_52 ?_
                    refine ia_istore (pc := 53) F (ls' := [(4, ((99 : Nat) : Int)), (0, (T : Int)), (0, (l : Int)), (0, 0), (0, 0)]) dX8_lay_53 (Nat.le_of_ble_eq_true rfl) rfl rfl ?_
                    have L55 : ∀ (fu : Nat) (k : Nat) (v : Int) (V5 : ia_H), (7 - k < fu) → ((k : Int) ≤ σ 0) → (v = bst (wnf σ f2 T l) T k) → (PI V5) → (V5 104 = f2) → (∀ pp, pp ∉ ([104] : List Nat) → V5 pp = V pp) → ia_G X 0 0 55 [(4, ((99 : Nat) : Int)), (0, (T : Int)), (0, (l : Int)), (0, v), (0, (k : Int))] [] Z V5 := by
                      intro fu
                      induction fu with
                      | zero => intro k v V5 hm; exact absurd hm (Nat.not_lt_zero _)
                      | succ fu ih =>
                        intro k v V5 hm hk hv hP5 w5_104 hF5
                        have ih55 := ih
                        refine ia_iload (pc := 55) F dX8_lay_55 rfl ?_
                        refine ia_aload_n (pc := 57) F dX8_lay_57 rfl ?_
                        refine jg (pc := 58) F (z99 hZ) cls11 f11_0 (hP5 99 0 100 rfl) il_RX8_7 dX8_lay_58 ?_
                        refine ia_iconst (pc := 61) F dX8_lay_61 ?_
                        refine ja (pc := 62) F (v := σ 0) (z100 hZ) 0 rfl (by omega) (congrFun ((hF5 100 (by decide)).trans h100) 0) dX8_lay_62 ?_
                        refine ia_icmp_ge (pc := 63) F 99 dX8_lay_63 rfl (by omega) (by omega) (fun h_16 => ?_) (fun h_16 => ?_)
                        · refine ia_aload_n (pc := 99) F dX8_lay_99 rfl ?_
                          refine jg (pc := 100) F (z99 hZ) cls11 f11_4 (hP5 99 4 104 rfl) il_RX8_22 dX8_lay_100 ?_
                          refine ia_sipush (pc := 103) F dX8_lay_103 (by decide) ?_
                          refine ia_iload_n (pc := 106) F dX8_lay_106 rfl ?_
                          refine ia_imul (pc := 107) F dX8_lay_107 ?_
                          refine ia_iload_n (pc := 108) F dX8_lay_108 rfl ?_
                          refine ia_iadd (pc := 109) F dX8_lay_109 ?_
                          refine ia_iload_n (pc := 110) F dX8_lay_110 rfl ?_
                          refine js (pc := 111) F (z104 hZ) (128 * l + T) rfl (by omega) dX8_lay_111 ?_
                          refine ia_iinc (pc := 112) F (ls' := [(4, ((99 : Nat) : Int)), (0, (T : Int)), (0, ((l + 1 : Nat) : Int)), (0, v), (0, (k : Int))]) dX8_lay_112 rfl rfl rfl rfl ?_
                          refine ia_goto (pc := 115) F 16 dX8_lay_115 rfl ?_
                          refine jw (ls' := [(4, ((99 : Nat) : Int)), (0, (T : Int)), (0, ((l + 1 : Nat) : Int)), (9, 0), (9, 0)]) [false, false, false, true, true] rfl ?_
                          exact ih16 (l + 1) (up f2 (128 * l + T) v) _ (by omega) (by omega) (LB_u hLB (by omega)) (LC_u hLC (by rw [hv, show k = (σ 0).toNat by omega]; exact LB_v hLB (by omega) hT (fun x hx => (se x (by omega)).1) hlc)) (PI_u hP5 rfl) (rowU w5_104) (Fr_u hF5 (by decide))
                        · have hvr := hbr k
                          rw [← hv] at hvr
                          refine ia_iload_n (pc := 66) F dX8_lay_66 rfl ?_
                          refine ia_iload (pc := 67) F dX8_lay_67 rfl ?_
                          refine ia_ishr (pc := 69) F dX8_lay_69 ?_
                          refine ia_iconst (pc := 70) F dX8_lay_70 ?_
                          refine ia_iand (pc := 71) F dX8_lay_71 ?_
                          rw [bt_m T (by omega) k (by omega)]
                          by_cases hb : T.testBit k = true
                          · rw [if_pos hb]
                            refine ia_iconst (pc := 72) F dX8_lay_72 ?_
                            refine ia_icmp_ne (pc := 73) F 91 dX8_lay_73 rfl (by omega) (by omega) (fun h9 => absurd h9 (by omega)) (fun _ => ?_)
                            refine ia_iload_n (pc := 76) F dX8_lay_76 rfl ?_
                            refine ia_aload_n (pc := 77) F dX8_lay_77 rfl ?_
                            refine ia_iload_n (pc := 78) F dX8_lay_78 rfl ?_
                            refine ia_iload_n (pc := 79) F dX8_lay_79 rfl ?_
                            refine ia_iload (pc := 80) F dX8_lay_80 rfl ?_
                            refine jV (pc := 82) F 0 0 (z99 hZ) cls11.1 (c_X8_with T l k hZ hP5 hI ((hF5 99 (by decide)).trans h99) ((hF5 100 (by decide)).trans h100) w5_104 (by omega) (by omega) (by omega) ?_) rfl ⟨k_X8_with, il_RX8_178, im_X8_with, is_X8_with, ii_RX8⟩ 3 rfl hd_X8_with ⟨by decide, by decide, by decide, by decide, Nat.le_of_ble_eq_true rfl⟩ dX8_lay_82
                            refine j1 ?_
                            refine jS (pc := 85) F 0 0 (c_X8_less v (wnf σ f2 T l k) (by omega) (by have r9 := LB_rng hLB (by omega) (by omega) (fun x hx => (se x (by omega)).1) (show k < (σ 0).toNat by omega) hb; have w9 := wash_rng hlc (se k (by omega)).1; unfold wnf; omega) (fun h_17 => ?_) (fun h_18 => ?_)) rfl ⟨k_X8_less, il_RX8_162, it_X8_less, ii_RX8⟩ rfl 2 rfl hd_X8_less ⟨by decide, by decide, by decide, by decide, Nat.le_of_ble_eq_true rfl⟩ dX8_lay_85
                            · refine j1 ?_
                              refine ia_goto (pc := 88) F 92 dX8_lay_88 rfl ?_
                              refine ia_istore_n (pc := 92) F (ls' := [(4, ((99 : Nat) : Int)), (0, (T : Int)), (0, (l : Int)), (0, v), (0, (k : Int))]) dX8_lay_92 (Nat.le_of_ble_eq_true rfl) rfl rfl ?_
                              refine ia_iinc (pc := 93) F (ls' := [(4, ((99 : Nat) : Int)), (0, (T : Int)), (0, (l : Int)), (0, v), (0, ((k + 1 : Nat) : Int))]) dX8_lay_93 rfl rfl rfl rfl ?_
                              refine ia_goto (pc := 96) F 55 dX8_lay_96 rfl ?_
                              exact ih55 (k + 1) v _ (by omega) (by omega) (by rw [bst_1 hb, ← hv]; first | rw [if_pos (by omega)] | rw [if_neg (by omega)]) hP5 w5_104 hF5
                            · refine j1 ?_
                              refine ia_goto (pc := 88) F 92 dX8_lay_88 rfl ?_
                              refine ia_istore_n (pc := 92) F (ls' := [(4, ((99 : Nat) : Int)), (0, (T : Int)), (0, (l : Int)), (0, (wnf σ f2 T l k)), (0, (k : Int))]) dX8_lay_92 (Nat.le_of_ble_eq_true rfl) rfl rfl ?_
                              refine ia_iinc (pc := 93) F (ls' := [(4, ((99 : Nat) : Int)), (0, (T : Int)), (0, (l : Int)), (0, (wnf σ f2 T l k)), (0, ((k + 1 : Nat) : Int))]) dX8_lay_93 rfl rfl rfl rfl ?_
                              refine ia_goto (pc := 96) F 55 dX8_lay_96 rfl ?_
                              exact ih55 (k + 1) (wnf σ f2 T l k) _ (by omega) (by omega) (by rw [bst_1 hb, ← hv]; first | rw [if_pos (by omega)] | rw [if_neg (by omega)]) hP5 w5_104 hF5
                          · rw [if_neg hb]
                            refine ia_iconst (pc := 72) F dX8_lay_72 ?_
                            refine ia_icmp_ne (pc := 73) F 91 dX8_lay_73 rfl (by omega) (by omega) (fun _ => ?_) (fun h9 => absurd h9 (by omega))
                            refine ia_iload_n (pc := 91) F dX8_lay_91 rfl ?_
                            refine ia_istore_n (pc := 92) F (ls' := [(4, ((99 : Nat) : Int)), (0, (T : Int)), (0, (l : Int)), (0, v), (0, (k : Int))]) dX8_lay_92 (Nat.le_of_ble_eq_true rfl) rfl rfl ?_
                            refine ia_iinc (pc := 93) F (ls' := [(4, ((99 : Nat) : Int)), (0, (T : Int)), (0, (l : Int)), (0, v), (0, ((k + 1 : Nat) : Int))]) dX8_lay_93 rfl rfl rfl rfl ?_
                            refine ia_goto (pc := 96) F 55 dX8_lay_96 rfl ?_
                            exact ih55 (k + 1) v _ (by omega) (by omega) (by rw [bst_n hb]; exact hv) hP5 w5_104 hF5
                    exact L55 (7 + 1) 0 0 _ (by omega) (by omega) (by unfold bst; first | rw [if_pos (by omega)] | rw [if_neg (by omega)]) hP4 w4_104 hF4
                · refine ia_goto (pc := 38) F 112 dX8_lay_38 rfl ?_
                  refine ia_iinc (pc := 112) F (ls' := [(4, ((99 : Nat) : Int)), (0, (T : Int)), (0, ((l + 1 : Nat) : Int)), (9, 0), (9, 0)]) dX8_lay_112 rfl rfl rfl rfl ?_
                  refine ia_goto (pc := 115) F 16 dX8_lay_115 rfl ?_
                  exact ih16 (l + 1) f2 _ (by omega) (by omega) hLB (LC_n hLC (by omega)) hP4 w4_104 hF4
        exact L16 (8 + 1) 0 f1 _ (by omega) (by omega) hLB (fun i hi => absurd hi (Nat.not_lt_zero _)) hP3 w3_104 hF3
  exact L2 (2 ^ (σ 0).toNat + 1) 0 φ _ (by omega) (Nat.zero_le _) (fun S9 h9 => absurd h9 (Nat.not_lt_zero _)) hP h104 (Fr_0 (V := V) (S := [104]))
set_option maxRecDepth 100000 in
theorem c_X8_minutesOfBest {Z : ia_Z} {V : ia_H} {Q : ia_O → ia_Z → ia_H → Prop} {σ : Nat → Int} {μ : Nat → Int} {φ : Nat → Int} {m : Int} (hZ : ZI Z) (hP : PI V) (hI : SI σ m) (h99 : V 99 = μ) (h100 : V 100 = σ) (h104 : V 104 = φ)  (q1 : ∀ (f1 : Nat → Int) (V1 : ia_H), PI V1 → (V1 104 = f1) → (∀ pp, pp ∉ ([104] : List Nat) → V1 pp = V pp) → Q (.inl (some (0, (mcl (col σ) (σ 4) (lin (opb σ (σ 0).toNat) (σ 0).toNat))))) Z V1) : ia_K yX8_minutesOfBest cX8_minutesOfBest 1 (some .int) [(4, ((99 : Nat) : Int))] Z V 6 0 0 Q := by
  refine ia_start RX8 "minutesOfBest" ⟨by decide, rfl, rfl⟩ (Nat.le_of_ble_eq_true rfl) (ia_tg rfl) (fun X F M => ?_)
  show ia_G X 0 0 0 [(4, ((99 : Nat) : Int))] [] Z V
  obtain ⟨s0, s1, s2, s3, s4, s5, s6, s7, s18, sb, sw, se, sp⟩ := id hI
  refine ia_aload_n (pc := 0) F dX8_minutesOfBest_0 rfl ?_
  refine jV (pc := 1) F 0 0 (z99 hZ) cls11.1 (c_X8_lay hZ hP hI h99 h100 h104 (fun f1_1 V_2 h_3 p_4 w_5 f_6 => ?_)) rfl ⟨k_X8_lay, il_RX8_182, im_X8_lay, is_X8_lay, ii_RX8⟩ 0 rfl hd_X8_lay ⟨by decide, by decide, by decide, by decide, Nat.le_of_ble_eq_true rfl⟩ dX8_minutesOfBest_1
  refine j0 ?_
  refine ia_aload_n (pc := 4) F dX8_minutesOfBest_4 rfl ?_
  refine jg (pc := 5) F (z99 hZ) cls11 f11_4 (p_4 99 4 104 rfl) il_RX8_22 dX8_minutesOfBest_5 ?_
  refine ia_sipush (pc := 8) F dX8_minutesOfBest_8 (by decide) ?_
  refine ia_aload_n (pc := 11) F dX8_minutesOfBest_11 rfl ?_
  refine jV (pc := 12) F 0 0 (z99 hZ) cls11.1 (c_X8_open hZ p_4 hI ((f_6 99 (by decide)).trans h99) ((f_6 100 (by decide)).trans h100) ?_) rfl ⟨k_X8_open, il_RX8_185, im_X8_open, is_X8_open, ii_RX8⟩ 0 rfl hd_X8_open ⟨by decide, by decide, by decide, by decide, Nat.le_of_ble_eq_true rfl⟩ dX8_minutesOfBest_12
  refine j1 ?_
  have r9 := opb_lt (σ := σ) (σ 0).toNat (by omega)
  have r8 := pw_le (σ 0).toNat (by omega)
  refine ia_iadd (pc := 15) F dX8_minutesOfBest_15 ?_
  refine ja (pc := 16) F (v := f1_1 (896 + opb σ (σ 0).toNat)) (z104 hZ) (896 + opb σ (σ 0).toNat) rfl (by omega) (congrFun w_5 (896 + opb σ (σ 0).toNat)) dX8_minutesOfBest_16 ?_
  refine ia_ireturn (pc := 17) F M (by decide) (by decide) dX8_minutesOfBest_17 ?_
  have e9 := h_3 _ r9 7 (Or.inr rfl)
  rw [lc_7] at e9
  rw [← e9] at q1
  exact q1 _ _ p_4 w_5 (Fr_c (Fr_0 (V := V) (S := [104])) f_6 (by decide))
