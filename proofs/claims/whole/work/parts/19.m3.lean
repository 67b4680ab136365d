/-! the model, its searches (made by wip/whole/m1.py) -/
set_option maxRecDepth 100000 in
theorem c_X8_hoursUntilLess {Z : ia_Z} {V : ia_H} {Q : ia_O → ia_Z → ia_H → Prop} {σ : Nat → Int} {μ : Nat → Int} {m : Int} (c : Int) (u : Int) (hZ : ZI Z) (hP : PI V) (hI : SI σ m) (h99 : V 99 = μ) (h100 : V 100 = σ) (rc : -2147483648 ≤ c ∧ c ≤ 2147483647) (ru : -2147483648 ≤ u ∧ u ≤ 2147483647) (q1 : ∀ (V1 : ia_H), (¬ ((0 ≤ c ∧ c ≤ 9) ∧ 1 ≤ u ∧ u ≤ 999)) → PI V1 → (V1 99 = up μ 9 1) → (∀ pp, pp ∉ ([99] : List Nat) → V1 pp = V pp) → Q (.inl (some (0, 0))) Z V1) (q2 : ∀ (k : Nat) (V1 : ia_H), ((0 ≤ c ∧ c ≤ 9) ∧ 1 ≤ u ∧ u ≤ 999) → (k < 101) → (∀ j, j < k → u ≤ la σ c.toNat j) → (la σ c.toNat k < u) → PI V1 → (V1 99 = up μ 9 0) → (∀ pp, pp ∉ ([99] : List Nat) → V1 pp = V pp) → Q (.inl (some (0, (k : Int)))) Z V1) : ia_K yX8_hoursUntilLess cX8_hoursUntilLess 4 (some .int) [(4, ((99 : Nat) : Int)), (0, c), (0, u)] Z V 3 0 0 Q := by
  refine ia_start RX8 "hoursUntilLess" ⟨by decide, rfl, rfl⟩ (Nat.le_of_ble_eq_true rfl) (ia_tg rfl) (fun X F M => ?_)
  show ia_G X 0 0 0 [(4, ((99 : Nat) : Int)), (0, c), (0, u), (9, 0)] [] Z V
  obtain ⟨s0, s1, s2, s3, s4, s5, s6, s7, s18, sb, sw, se, sp⟩ := id hI
  refine ia_aload_n (pc := 0) F dX8_hoursUntilLess_0 rfl ?_
  refine ia_iload_n (pc := 1) F dX8_hoursUntilLess_1 rfl ?_
  refine jS (pc := 2) F 0 0 (c_X8_isColour c (by omega) (fun h_1 => ?_) (fun h_2 => ?_)) rfl ⟨k_X8_isColour, il_RX8_95, it_X8_isColour, ii_RX8⟩ rfl 1 rfl hd_X8_isColour ⟨by decide, by decide, by decide, by decide, Nat.le_of_ble_eq_true rfl⟩ dX8_hoursUntilLess_2
  · refine j1 ?_
    refine ia_if_eq (pc := 5) F 23 dX8_hoursUntilLess_5 rfl (by omega) (fun h9 => absurd h9 (by omega)) (fun _ => ?_)
    refine ia_iload_n (pc := 8) F dX8_hoursUntilLess_8 rfl ?_
    refine ia_iconst (pc := 9) F dX8_hoursUntilLess_9 ?_
    refine ia_sipush (pc := 10) F dX8_hoursUntilLess_10 (by decide) ?_
    refine jS (pc := 13) F 0 0 (c_X8_in u 1 999 (by omega) (by omega) (by omega) (fun h_3 => ?_) (fun h_4 => ?_)) rfl ⟨k_X8_in, il_RX8_91, it_X8_in, ii_RX8⟩ rfl 3 rfl hd_X8_in ⟨by decide, by decide, by decide, by decide, Nat.le_of_ble_eq_true rfl⟩ dX8_hoursUntilLess_13
    · refine j1 ?_
      refine ia_if_eq (pc := 16) F 23 dX8_hoursUntilLess_16 rfl (by omega) (fun h9 => absurd h9 (by omega)) (fun _ => ?_)
      refine ia_iconst (pc := 19) F dX8_hoursUntilLess_19 ?_
      refine ia_goto (pc := 20) F 24 dX8_hoursUntilLess_20 rfl ?_
      refine jV (pc := 24) F 0 0 (z99 hZ) cls11.1 (c_X8_checked1 hZ hP h99 h100 (fun V_5 p_6 w_7 f_8 => ?_)) rfl ⟨k_X8_checked, il_RX8_125, im_X8_checked, is_X8_checked, ii_RX8⟩ 1 rfl hd_X8_checked ⟨by decide, by decide, by decide, by decide, Nat.le_of_ble_eq_true rfl⟩ dX8_hoursUntilLess_24
      refine j1 ?_
      refine ia_if_le (pc := 27) F 32 dX8_hoursUntilLess_27 rfl (by omega) (fun _ => ?_) (fun h9 => absurd h9 (by omega))
      refine ia_iconst (pc := 32) F dX8_hoursUntilLess_32 ?_
      refine ia_istore_n (pc := 33) F (ls' := [(4, ((99 : Nat) : Int)), (0, c), (0, u), (0, 0)]) dX8_hoursUntilLess_33 (Nat.le_of_ble_eq_true rfl) rfl rfl ?_
      have L34 : ∀ (fu : Nat) (k : Nat) (V2 : ia_H), (101 - k < fu) → (k < 101) → (∀ j, j < k → u ≤ la σ c.toNat j) → (PI V2) → (V2 99 = up μ 9 0) → (∀ pp, pp ∉ ([99] : List Nat) → V2 pp = V pp) → ia_G X 0 0 34 [(4, ((99 : Nat) : Int)), (0, c), (0, u), (0, (k : Int))] [] Z V2 := by
        intro fu
        induction fu with
        | zero => intro k V2 hm; exact absurd hm (Nat.not_lt_zero _)
        | succ fu ih =>
          intro k V2 hm hk hj hP2 w2_99 hF2
          have ih34 := ih
          have r9 := la_rng (sw c.toNat (by omega)) k
          refine ia_aload_n (pc := 34) F dX8_hoursUntilLess_34 rfl ?_
          refine ia_iload_n (pc := 35) F dX8_hoursUntilLess_35 rfl ?_
          refine ia_iload_n (pc := 36) F dX8_hoursUntilLess_36 rfl ?_
          refine jV (pc := 37) F 0 0 (z99 hZ) cls11.1 (c_X8_leftAfter c (k : Int) hZ hP2 hI w2_99 ((hF2 100 (by decide)).trans h100) (by omega) (by omega) ?_) rfl ⟨k_X8_leftAfter, il_RX8_132, im_X8_leftAfter, is_X8_leftAfter, ii_RX8⟩ 2 rfl hd_X8_leftAfter ⟨by decide, by decide, by decide, by decide, Nat.le_of_ble_eq_true rfl⟩ dX8_hoursUntilLess_37
          change ia_ct X _ _ (37 + 3) _ _ _ (.inl (some (0, (la σ c.toNat k)))) _ _
          refine j1 ?_
          refine ia_iload_n (pc := 40) F dX8_hoursUntilLess_40 rfl ?_
          refine ia_icmp_lt (pc := 41) F 50 dX8_hoursUntilLess_41 rfl (by omega) (by omega) (fun h_9 => ?_) (fun h_9 => ?_)
          · refine ia_iload_n (pc := 50) F dX8_hoursUntilLess_50 rfl ?_
            refine ia_ireturn (pc := 51) F M (by decide) (by decide) dX8_hoursUntilLess_51 ?_
            exact q2 _ _ (by omega) (by omega) hj (by omega) hP2 w2_99 hF2
          · refine ia_iinc (pc := 44) F (ls' := [(4, ((99 : Nat) : Int)), (0, c), (0, u), (0, ((k + 1 : Nat) : Int))]) dX8_hoursUntilLess_44 rfl rfl rfl rfl ?_
            refine ia_goto (pc := 47) F 34 dX8_hoursUntilLess_47 rfl ?_
            exact ih34 (k + 1) _ (by omega) (by have := la_end (σ := σ) (c := c.toNat) (k := k) (by omega) (sw c.toNat (by omega)) (by omega); omega) (fun j hj9 => by rcases Nat.lt_or_ge j k with g | g; exact hj j g; rw [show j = k by omega]; omega) hP2 w2_99 hF2
      exact L34 (101 + 1) 0 _ (by omega) (by omega) (fun j hj => absurd hj (Nat.not_lt_zero _)) p_6 w_7 (Fr_c (Fr_0 (V := V) (S := [99])) f_8 (by decide))
    · refine j1 ?_
      refine ia_if_eq (pc := 16) F 23 dX8_hoursUntilLess_16 rfl (by omega) (fun _ => ?_) (fun h9 => absurd h9 (by omega))
      refine ia_iconst (pc := 23) F dX8_hoursUntilLess_23 ?_
      refine jV (pc := 24) F 0 0 (z99 hZ) cls11.1 (c_X8_checked0 hZ hP h99 h100 (fun V_10 p_11 w_12 f_13 => ?_)) rfl ⟨k_X8_checked, il_RX8_125, im_X8_checked, is_X8_checked, ii_RX8⟩ 1 rfl hd_X8_checked ⟨by decide, by decide, by decide, by decide, Nat.le_of_ble_eq_true rfl⟩ dX8_hoursUntilLess_24
      refine j1 ?_
      refine ia_if_le (pc := 27) F 32 dX8_hoursUntilLess_27 rfl (by omega) (fun h9 => absurd h9 (by omega)) (fun _ => ?_)
      refine ia_iconst (pc := 30) F dX8_hoursUntilLess_30 ?_
      refine ia_ireturn (pc := 31) F M (by decide) (by decide) dX8_hoursUntilLess_31 ?_
      exact q1 _ (by omega) p_11 w_12 (Fr_c (Fr_0 (V := V) (S := [99])) f_13 (by decide))
  · refine j1 ?_
    refine ia_if_eq (pc := 5) F 23 dX8_hoursUntilLess_5 rfl (by omega) (fun _ => ?_) (fun h9 => absurd h9 (by omega))
    refine ia_iconst (pc := 23) F dX8_hoursUntilLess_23 ?_
    refine jV (pc := 24) F 0 0 (z99 hZ) cls11.1 (c_X8_checked0 hZ hP h99 h100 (fun V_14 p_15 w_16 f_17 => ?_)) rfl ⟨k_X8_checked, il_RX8_125, im_X8_checked, is_X8_checked, ii_RX8⟩ 1 rfl hd_X8_checked ⟨by decide, by decide, by decide, by decide, Nat.le_of_ble_eq_true rfl⟩ dX8_hoursUntilLess_24
    refine j1 ?_
    refine ia_if_le (pc := 27) F 32 dX8_hoursUntilLess_27 rfl (by omega) (fun h9 => absurd h9 (by omega)) (fun _ => ?_)
    refine ia_iconst (pc := 30) F dX8_hoursUntilLess_30 ?_
    refine ia_ireturn (pc := 31) F M (by decide) (by decide) dX8_hoursUntilLess_31 ?_
    exact q1 _ (by omega) p_15 w_16 (Fr_c (Fr_0 (V := V) (S := [99])) f_17 (by decide))
set_option maxRecDepth 100000 in
theorem c_X8_nextShare {Z : ia_Z} {V : ia_H} {Q : ia_O → ia_Z → ia_H → Prop} {σ : Nat → Int} {μ : Nat → Int} {ψ : Nat → Int} {m : Int} (hZ : ZI Z) (hP : PI V) (hI : SI σ m) (h99 : V 99 = μ) (h100 : V 100 = σ) (h105 : V 105 = ψ) (hψ : ∀ j, j < 7 → 0 ≤ ψ j ∧ ψ j ≤ 10000) (q1 : Q (.inl (some (0, (nsh σ ψ (σ 0).toNat)))) Z V) : ia_K yX8_nextShare cX8_nextShare 3 (some .int) [(4, ((99 : Nat) : Int))] Z V 3 0 0 Q := by
  refine ia_start RX8 "nextShare" ⟨by decide, rfl, rfl⟩ (Nat.le_of_ble_eq_true rfl) (ia_tg rfl) (fun X F M => ?_)
  show ia_G X 0 0 0 [(4, ((99 : Nat) : Int)), (9, 0), (9, 0)] [] Z V
  obtain ⟨s0, s1, s2, s3, s4, s5, s6, s7, s18, sb, sw, se, sp⟩ := id hI
  refine ia_iconst (pc := 0) F dX8_nextShare_0 ?_
  refine ia_istore_n (pc := 1) F (ls' := [(4, ((99 : Nat) : Int)), (0, (-1)), (9, 0)]) dX8_nextShare_1 (Nat.le_of_ble_eq_true rfl) rfl rfl ?_
  refine ia_iconst (pc := 2) F dX8_nextShare_2 ?_
  refine ia_istore_n (pc := 3) F (ls' := [(4, ((99 : Nat) : Int)), (0, (-1)), (0, 0)]) dX8_nextShare_3 (Nat.le_of_ble_eq_true rfl) rfl rfl ?_
  have L4 : ∀ (fu : Nat) (k : Nat) (a : Int), (7 - k < fu) → ((k : Int) ≤ σ 0) → (a = nsh σ ψ k) → ia_G X 0 0 4 [(4, ((99 : Nat) : Int)), (0, a), (0, (k : Int))] [] Z V := by
    intro fu
    induction fu with
    | zero => intro k a hm; exact absurd hm (Nat.not_lt_zero _)
    | succ fu ih =>
      intro k a hm hk ha
      have ih4 := ih
      refine ia_iload_n (pc := 4) F dX8_nextShare_4 rfl ?_
      refine ia_aload_n (pc := 5) F dX8_nextShare_5 rfl ?_
      refine jg (pc := 6) F (z99 hZ) cls11 f11_0 (hP 99 0 100 rfl) il_RX8_7 dX8_nextShare_6 ?_
      refine ia_iconst (pc := 9) F dX8_nextShare_9 ?_
      refine ja (pc := 10) F (v := σ 0) (z100 hZ) 0 rfl (by omega) (congrFun h100 0) dX8_nextShare_10 ?_
      refine ia_icmp_ge (pc := 11) F 55 dX8_nextShare_11 rfl (by omega) (by omega) (fun h_1 => ?_) (fun h_1 => ?_)
      · refine ia_iload_n (pc := 55) F dX8_nextShare_55 rfl ?_
        refine ia_ireturn (pc := 56) F M (by decide) (by decide) dX8_nextShare_56 ?_
        rw [show (σ 0).toNat = k by omega, ← ha] at q1
        exact q1
      · have r9 := nsh_rng (σ := σ) (f := ψ) k
        rw [← ha] at r9
        have r8 := se k (by omega)
        have r7 : miss σ k = run σ k - prt σ k := rfl
        have r6 := hψ k (by omega)
        have r5 := fun h => hψ a.toNat h
        refine ia_aload_n (pc := 14) F dX8_nextShare_14 rfl ?_
        refine jg (pc := 15) F (z99 hZ) cls11 f11_5 (hP 99 5 105 rfl) il_RX8_25 dX8_nextShare_15 ?_
        refine ia_iload_n (pc := 18) F dX8_nextShare_18 rfl ?_
        refine ja (pc := 19) F (v := ψ k) (z105 hZ) k rfl (by omega) (congrFun h105 k) dX8_nextShare_19 ?_
        refine ia_aload_n (pc := 20) F dX8_nextShare_20 rfl ?_
        refine ia_iload_n (pc := 21) F dX8_nextShare_21 rfl ?_
        refine jV (pc := 22) F 0 0 (z99 hZ) cls11.1 (c_X8_missing (k : Int) hZ hP hI h99 h100 (by omega) ?_) rfl ⟨k_X8_missing, il_RX8_156, im_X8_missing, is_X8_missing, ii_RX8⟩ 1 rfl hd_X8_missing ⟨by decide, by decide, by decide, by decide, Nat.le_of_ble_eq_true rfl⟩ dX8_nextShare_22
        change ia_ct X _ _ (22 + 3) _ _ _ (.inl (some (0, (miss σ k)))) _ _
        refine j1 ?_
        refine ia_icmp_ge (pc := 25) F 49 dX8_nextShare_25 rfl (by omega) (by omega) (fun h_2 => ?_) (fun h_2 => ?_)
        · refine ia_iinc (pc := 49) F (ls' := [(4, ((99 : Nat) : Int)), (0, a), (0, ((k + 1 : Nat) : Int))]) dX8_nextShare_49 rfl rfl rfl rfl ?_
          refine ia_goto (pc := 52) F 4 dX8_nextShare_52 rfl ?_
          exact ih4 (k + 1) _ (by omega) (by omega) (by unfold nsh; rw [← ha]; first | rw [if_pos ⟨by omega, Or.inl (by omega)⟩] | rw [if_pos ⟨by omega, Or.inr (by omega)⟩] | rw [if_neg (by omega)] | (rw [if_neg (fun e => by have := e.1; omega)]) | (rw [if_neg (fun e => by rcases e.2 with e | e <;> omega)]))
        · refine ia_iload_n (pc := 28) F dX8_nextShare_28 rfl ?_
          refine ia_if_lt (pc := 29) F 47 dX8_nextShare_29 rfl (by omega) (fun h_3 => ?_) (fun h_3 => ?_)
          · refine ia_iload_n (pc := 47) F dX8_nextShare_47 rfl ?_
            refine ia_istore_n (pc := 48) F (ls' := [(4, ((99 : Nat) : Int)), (0, (k : Int)), (0, (k : Int))]) dX8_nextShare_48 (Nat.le_of_ble_eq_true rfl) rfl rfl ?_
            refine ia_iinc (pc := 49) F (ls' := [(4, ((99 : Nat) : Int)), (0, (k : Int)), (0, ((k + 1 : Nat) : Int))]) dX8_nextShare_49 rfl rfl rfl rfl ?_
            refine ia_goto (pc := 52) F 4 dX8_nextShare_52 rfl ?_
            exact ih4 (k + 1) _ (by omega) (by omega) (by unfold nsh; rw [← ha]; first | rw [if_pos ⟨by omega, Or.inl (by omega)⟩] | rw [if_pos ⟨by omega, Or.inr (by omega)⟩] | rw [if_neg (by omega)] | (rw [if_neg (fun e => by have := e.1; omega)]) | (rw [if_neg (fun e => by rcases e.2 with e | e <;> omega)]))
          · refine ia_aload_n (pc := 32) F dX8_nextShare_32 rfl ?_
            refine jg (pc := 33) F (z99 hZ) cls11 f11_5 (hP 99 5 105 rfl) il_RX8_25 dX8_nextShare_33 ?_
            refine ia_iload_n (pc := 36) F dX8_nextShare_36 rfl ?_
            refine ja (pc := 37) F (v := ψ k) (z105 hZ) k rfl (by omega) (congrFun h105 k) dX8_nextShare_37 ?_
            refine ia_aload_n (pc := 38) F dX8_nextShare_38 rfl ?_
            refine jg (pc := 39) F (z99 hZ) cls11 f11_5 (hP 99 5 105 rfl) il_RX8_25 dX8_nextShare_39 ?_
            refine ia_iload_n (pc := 42) F dX8_nextShare_42 rfl ?_
            refine ja (pc := 43) F (v := ψ a.toNat) (z105 hZ) a.toNat (by omega) (by omega) (congrFun h105 a.toNat) dX8_nextShare_43 ?_
            refine ia_icmp_ge (pc := 44) F 49 dX8_nextShare_44 rfl (by omega) (by omega) (fun h_4 => ?_) (fun h_4 => ?_)
            · refine ia_iinc (pc := 49) F (ls' := [(4, ((99 : Nat) : Int)), (0, a), (0, ((k + 1 : Nat) : Int))]) dX8_nextShare_49 rfl rfl rfl rfl ?_
              refine ia_goto (pc := 52) F 4 dX8_nextShare_52 rfl ?_
              exact ih4 (k + 1) _ (by omega) (by omega) (by unfold nsh; rw [← ha]; first | rw [if_pos ⟨by omega, Or.inl (by omega)⟩] | rw [if_pos ⟨by omega, Or.inr (by omega)⟩] | rw [if_neg (by omega)] | (rw [if_neg (fun e => by have := e.1; omega)]) | (rw [if_neg (fun e => by rcases e.2 with e | e <;> omega)]))
            · refine ia_iload_n (pc := 47) F dX8_nextShare_47 rfl ?_
              refine ia_istore_n (pc := 48) F (ls' := [(4, ((99 : Nat) : Int)), (0, (k : Int)), (0, (k : Int))]) dX8_nextShare_48 (Nat.le_of_ble_eq_true rfl) rfl rfl ?_
              refine ia_iinc (pc := 49) F (ls' := [(4, ((99 : Nat) : Int)), (0, (k : Int)), (0, ((k + 1 : Nat) : Int))]) dX8_nextShare_49 rfl rfl rfl rfl ?_
              refine ia_goto (pc := 52) F 4 dX8_nextShare_52 rfl ?_
              exact ih4 (k + 1) _ (by omega) (by omega) (by unfold nsh; rw [← ha]; first | rw [if_pos ⟨by omega, Or.inl (by omega)⟩] | rw [if_pos ⟨by omega, Or.inr (by omega)⟩] | rw [if_neg (by omega)] | (rw [if_neg (fun e => by have := e.1; omega)]) | (rw [if_neg (fun e => by rcases e.2 with e | e <;> omega)]))
  exact L4 8 0 _ (by omega) (by omega) rfl
