/-! means and shares, both sides (made by wip/whole/m2.py) -/
set_option maxRecDepth 100000 in
theorem c_X7_meanRun {Z : ia_Z} {V : ia_H} {Q : ia_O → ia_Z → ia_H → Prop} {σ : Nat → Int} {m : Int} (hZ : ZI Z) (hP : PI V) (hS : Sh 1 V σ) (hI : SI σ m)   (q1 : (0 < σ 0) → Q (.inl (some (3, (ia_ddiv (ia_i2d (psum (run σ) (σ 0).toNat)) (ia_i2d (σ 0)))))) Z V) (q2 : (σ 0 = 0) → Q (.inr "java/lang/ArithmeticException") Z V) : ia_K yX7_meanRun cX7_meanRun 1 (some .double) [(4, ((0 : Nat) : Int))] Z V 8 1 6 Q := by
  refine ia_start RX7 "meanRun" ⟨by decide, rfl, rfl⟩ (Nat.le_of_ble_eq_true rfl) (ia_tg rfl) (fun X F M => ?_)
  show ia_G X 0 0 0 [(4, ((0 : Nat) : Int))] [] Z V
  obtain ⟨s0, s1, s2, s3, s4, s5, s6, s7, s18, sb, sw, se, sp⟩ := id hI
  refine ia_aload_n (pc := 0) F dX7_meanRun_0 rfl ?_
  refine jg (pc := 1) F (z0 hZ) cls10 f10_0 (hP 0 0 1 rfl) il_RX7_12 dX7_meanRun_1 ?_
  refine jg (pc := 4) F (x := σ 0) (z1 hZ) cls9 f9_6 hS.f6 il_RX7_132 dX7_meanRun_4 ?_
  refine ia_if_ne (pc := 7) F 20 dX7_meanRun_7 rfl (by omega) (fun h_1 => ?_) (fun h_1 => ?_)
  · refine ia_aload_n (pc := 20) F dX7_meanRun_20 rfl ?_
    refine jg (pc := 21) F (z0 hZ) cls10 f10_0 (hP 0 0 1 rfl) il_RX7_12 dX7_meanRun_21 ?_
    refine jg (pc := 24) F (z1 hZ) cls9 f9_2 (hP 1 2 4 rfl) il_RX7_144 dX7_meanRun_24 ?_
    refine ia_aload_n (pc := 27) F dX7_meanRun_27 rfl ?_
    refine jg (pc := 28) F (z0 hZ) cls10 f10_0 (hP 0 0 1 rfl) il_RX7_12 dX7_meanRun_28 ?_
    refine jg (pc := 31) F (x := σ 0) (z1 hZ) cls9 f9_6 hS.f6 il_RX7_132 dX7_meanRun_31 ?_
    rw [show (σ 0) = (((σ 0).toNat : Nat) : Int) from by omega]
    refine jS (pc := 34) F 0 0 (c_X7_sumOf 4 ((σ 0).toNat) 7 hZ hP (rfl : V 4 = V 4) (z4 hZ) (by omega) ?_) rfl ⟨k_X7_sumOf, il_RX7_230, it_X7_sumOf, ii_RX7⟩ rfl 2 rfl hd_X7_sumOf ⟨by decide, by decide, by decide, by decide, Nat.le_of_ble_eq_true rfl⟩ dX7_meanRun_34
    refine j1 ?_
    rw [psum_ext (f := V 4) (g := run σ) (fun e he => hS.run e (by omega))]
    refine ia_i2dr (pc := 37) F dX7_meanRun_37 ?_
    refine ia_aload_n (pc := 38) F dX7_meanRun_38 rfl ?_
    refine jg (pc := 39) F (z0 hZ) cls10 f10_0 (hP 0 0 1 rfl) il_RX7_12 dX7_meanRun_39 ?_
    refine jg (pc := 42) F (x := σ 0) (z1 hZ) cls9 f9_6 hS.f6 il_RX7_132 dX7_meanRun_42 ?_
    refine ia_i2dr (pc := 45) F dX7_meanRun_45 ?_
    refine ia_ddivr (pc := 46) F dX7_meanRun_46 (fl_ddiv (by omega)) ?_
    refine ia_dreturn (pc := 47) F M (by decide) (by decide) dX7_meanRun_47 ?_
    exact q1 (by omega)
  · refine th_RX7_234_236_238 (pc := 10) F M dX7_meanRun_10 dX7_meanRun_13 dX7_meanRun_14 dX7_meanRun_16 dX7_meanRun_19 ⟨by decide, by decide, by decide, by decide, by decide⟩ ?_
    exact q2 (by omega)
set_option maxRecDepth 100000 in
theorem c_X7_fadedShare {Z : ia_Z} {V : ia_H} {Q : ia_O → ia_Z → ia_H → Prop} {σ : Nat → Int} {m : Int} (hZ : ZI Z) (hP : PI V) (hS : Sh 1 V σ) (hI : SI σ m)   (q1 : (0 < σ 6) → Q (.inl (some (2, (ia_fdiv (ia_i2f (σ 18)) (ia_i2f (σ 6)))))) Z V) (q2 : (σ 6 = 0) → Q (.inr "java/lang/ArithmeticException") Z V) : ia_K yX7_fadedShare cX7_fadedShare 1 (some .float) [(4, ((0 : Nat) : Int))] Z V 8 1 6 Q := by
  refine ia_start RX7 "fadedShare" ⟨by decide, rfl, rfl⟩ (Nat.le_of_ble_eq_true rfl) (ia_tg rfl) (fun X F M => ?_)
  show ia_G X 0 0 0 [(4, ((0 : Nat) : Int))] [] Z V
  obtain ⟨s0, s1, s2, s3, s4, s5, s6, s7, s18, sb, sw, se, sp⟩ := id hI
  refine ia_aload_n (pc := 0) F dX7_fadedShare_0 rfl ?_
  refine jg (pc := 1) F (z0 hZ) cls10 f10_0 (hP 0 0 1 rfl) il_RX7_12 dX7_fadedShare_1 ?_
  refine jg (pc := 4) F (x := σ 6) (z1 hZ) cls9 f9_12 hS.f12 il_RX7_220 dX7_fadedShare_4 ?_
  refine ia_if_ne (pc := 7) F 20 dX7_fadedShare_7 rfl (by omega) (fun h_1 => ?_) (fun h_1 => ?_)
  · refine ia_aload_n (pc := 20) F dX7_fadedShare_20 rfl ?_
    refine jg (pc := 21) F (z0 hZ) cls10 f10_0 (hP 0 0 1 rfl) il_RX7_12 dX7_fadedShare_21 ?_
    refine jg (pc := 24) F (x := σ 18) (z1 hZ) cls9 f9_14 hS.f14 il_RX7_226 dX7_fadedShare_24 ?_
    refine ia_l2fr (pc := 27) F dX7_fadedShare_27 ?_
    have r9 := psum_le (f := fun _ => (0 : Int)) (g := wel σ) 10 (fun k hk => (sw k hk).1)
    rw [psum_c] at r9
    rw [fl_lf (x := σ 18) (by omega)]
    refine ia_aload_n (pc := 28) F dX7_fadedShare_28 rfl ?_
    refine jg (pc := 29) F (z0 hZ) cls10 f10_0 (hP 0 0 1 rfl) il_RX7_12 dX7_fadedShare_29 ?_
    refine jg (pc := 32) F (x := σ 6) (z1 hZ) cls9 f9_12 hS.f12 il_RX7_220 dX7_fadedShare_32 ?_
    refine ia_i2fr (pc := 35) F dX7_fadedShare_35 ?_
    refine ia_fdivr (pc := 36) F dX7_fadedShare_36 (fl_fdiv (by omega)) ?_
    refine ia_freturn (pc := 37) F M (by decide) (by decide) dX7_fadedShare_37 ?_
    exact q1 (by omega)
  · refine th_RX7_234_241_238 (pc := 10) F M dX7_fadedShare_10 dX7_fadedShare_13 dX7_fadedShare_14 dX7_fadedShare_16 dX7_fadedShare_19 ⟨by decide, by decide, by decide, by decide, by decide⟩ ?_
    exact q2 (by omega)
set_option maxRecDepth 100000 in
theorem c_X8_meanRun {Z : ia_Z} {V : ia_H} {Q : ia_O → ia_Z → ia_H → Prop} {σ : Nat → Int} {μ : Nat → Int} {m : Int} (hZ : ZI Z) (hP : PI V) (hI : SI σ m) (h99 : V 99 = μ) (h100 : V 100 = σ)  (q1 : ∀ (V1 : ia_H), (0 < σ 0) → PI V1 → (V1 99 = up μ 9 0) → (∀ pp, pp ∉ ([99] : List Nat) → V1 pp = V pp) → Q (.inl (some (3, (ia_ddiv (ia_i2d (psum (run σ) (σ 0).toNat)) (ia_i2d (σ 0)))))) Z V1) (q2 : ∀ (V1 : ia_H), (σ 0 = 0) → PI V1 → (V1 99 = up μ 9 1) → (∀ pp, pp ∉ ([99] : List Nat) → V1 pp = V pp) → Q (.inl (some (3, ((FP.dconst0.toNat : Nat) : Int)))) Z V1) : ia_K yX8_meanRun cX8_meanRun 3 (some .double) [(4, ((99 : Nat) : Int))] Z V 4 0 0 Q := by
  refine ia_start RX8 "meanRun" ⟨by decide, rfl, rfl⟩ (Nat.le_of_ble_eq_true rfl) (ia_tg rfl) (fun X F M => ?_)
  show ia_G X 0 0 0 [(4, ((99 : Nat) : Int)), (9, 0), (9, 0)] [] Z V
  obtain ⟨s0, s1, s2, s3, s4, s5, s6, s7, s18, sb, sw, se, sp⟩ := id hI
  refine ia_aload_n (pc := 0) F dX8_meanRun_0 rfl ?_
  refine ia_aload_n (pc := 1) F dX8_meanRun_1 rfl ?_
  refine jg (pc := 2) F (z99 hZ) cls11 f11_0 (hP 99 0 100 rfl) il_RX8_7 dX8_meanRun_2 ?_
  refine ia_iconst (pc := 5) F dX8_meanRun_5 ?_
  refine ja (pc := 6) F (v := σ 0) (z100 hZ) 0 rfl (by omega) (congrFun h100 0) dX8_meanRun_6 ?_
  refine ia_if_le (pc := 7) F 14 dX8_meanRun_7 rfl (by omega) (fun h_1 => ?_) (fun h_1 => ?_)
  · refine ia_iconst (pc := 14) F dX8_meanRun_14 ?_
    refine jV (pc := 15) F 0 0 (z99 hZ) cls11.1 (c_X8_checked0 hZ hP h99 h100 (fun V_2 p_3 w_4 f_5 => ?_)) rfl ⟨k_X8_checked, il_RX8_125, im_X8_checked, is_X8_checked, ii_RX8⟩ 1 rfl hd_X8_checked ⟨by decide, by decide, by decide, by decide, Nat.le_of_ble_eq_true rfl⟩ dX8_meanRun_15
    refine j1 ?_
    refine ia_if_le (pc := 18) F 23 dX8_meanRun_18 rfl (by omega) (fun h9 => absurd h9 (by omega)) (fun _ => ?_)
    refine ia_dconst0 (pc := 21) F dX8_meanRun_21 ?_
    refine ia_dreturn (pc := 22) F M (by decide) (by decide) dX8_meanRun_22 ?_
    exact q2 _ (by omega) p_3 w_4 (Fr_c (Fr_0 (V := V) (S := [99])) f_5 (by decide))
  · refine ia_iconst (pc := 10) F dX8_meanRun_10 ?_
    refine ia_goto (pc := 11) F 15 dX8_meanRun_11 rfl ?_
    refine jV (pc := 15) F 0 0 (z99 hZ) cls11.1 (c_X8_checked1 hZ hP h99 h100 (fun V_6 p_7 w_8 f_9 => ?_)) rfl ⟨k_X8_checked, il_RX8_125, im_X8_checked, is_X8_checked, ii_RX8⟩ 1 rfl hd_X8_checked ⟨by decide, by decide, by decide, by decide, Nat.le_of_ble_eq_true rfl⟩ dX8_meanRun_15
    refine j1 ?_
    refine ia_if_le (pc := 18) F 23 dX8_meanRun_18 rfl (by omega) (fun _ => ?_) (fun h9 => absurd h9 (by omega))
    refine ia_iconst (pc := 23) F dX8_meanRun_23 ?_
    refine ia_istore_n (pc := 24) F (ls' := [(4, ((99 : Nat) : Int)), (0, 0), (9, 0)]) dX8_meanRun_24 (Nat.le_of_ble_eq_true rfl) rfl rfl ?_
    refine ia_iconst (pc := 25) F dX8_meanRun_25 ?_
    refine ia_istore_n (pc := 26) F (ls' := [(4, ((99 : Nat) : Int)), (0, 0), (0, 0)]) dX8_meanRun_26 (Nat.le_of_ble_eq_true rfl) rfl rfl ?_
    have L27 : ∀ (fu : Nat) (j : Nat) (a : Int) (V2 : ia_H), (7 - j < fu) → ((j : Int) ≤ σ 0) → (a = psum (run σ) j) → (0 ≤ a ∧ a ≤ 50 * (j : Int)) → (PI V2) → (V2 99 = up μ 9 0) → (∀ pp, pp ∉ ([99] : List Nat) → V2 pp = V pp) → ia_G X 0 0 27 [(4, ((99 : Nat) : Int)), (0, a), (0, (j : Int))] [] Z V2 := by
      intro fu
      induction fu with
      | zero => intro j a V2 hm; exact absurd hm (Nat.not_lt_zero _)
      | succ fu ih =>
        intro j a V2 hm hj ha hr hP2 w2_99 hF2
        have ih27 := ih
        refine ia_iload_n (pc := 27) F dX8_meanRun_27 rfl ?_
        refine ia_aload_n (pc := 28) F dX8_meanRun_28 rfl ?_
        refine jg (pc := 29) F (z99 hZ) cls11 f11_0 (hP2 99 0 100 rfl) il_RX8_7 dX8_meanRun_29 ?_
        refine ia_iconst (pc := 32) F dX8_meanRun_32 ?_
        refine ja (pc := 33) F (v := σ 0) (z100 hZ) 0 rfl (by omega) (congrFun ((hF2 100 (by decide)).trans h100) 0) dX8_meanRun_33 ?_
        refine ia_icmp_ge (pc := 34) F 52 dX8_meanRun_34 rfl (by omega) (by omega) (fun h_10 => ?_) (fun h_10 => ?_)
        · refine ia_iload_n (pc := 52) F dX8_meanRun_52 rfl ?_
          refine ia_i2dr (pc := 53) F dX8_meanRun_53 ?_
          refine ia_aload_n (pc := 54) F dX8_meanRun_54 rfl ?_
          refine jg (pc := 55) F (z99 hZ) cls11 f11_0 (hP2 99 0 100 rfl) il_RX8_7 dX8_meanRun_55 ?_
          refine ia_iconst (pc := 58) F dX8_meanRun_58 ?_
          refine ja (pc := 59) F (v := σ 0) (z100 hZ) 0 rfl (by omega) (congrFun ((hF2 100 (by decide)).trans h100) 0) dX8_meanRun_59 ?_
          refine ia_i2dr (pc := 60) F dX8_meanRun_60 ?_
          refine ia_ddivr (pc := 61) F dX8_meanRun_61 (fl_ddiv (by omega)) ?_
          refine ia_dreturn (pc := 62) F M (by decide) (by decide) dX8_meanRun_62 ?_
          rw [ha, show j = (σ 0).toNat by omega]
          exact q1 _ (by omega) hP2 w2_99 hF2
        · have r9 := se j (by omega)
          refine ia_iload_n (pc := 37) F dX8_meanRun_37 rfl ?_
          refine ia_aload_n (pc := 38) F dX8_meanRun_38 rfl ?_
          refine ia_iload_n (pc := 39) F dX8_meanRun_39 rfl ?_
          refine ia_iconst (pc := 40) F dX8_meanRun_40 ?_
          refine jV (pc := 41) F 0 0 (z99 hZ) cls11.1 (c_X8_e1 (j : Int) hZ hP2 hI w2_99 ((hF2 100 (by decide)).trans h100) (by omega) ?_) rfl ⟨k_X8_e, il_RX8_138, im_X8_e, is_X8_e, ii_RX8⟩ 2 rfl hd_X8_e ⟨by decide, by decide, by decide, by decide, Nat.le_of_ble_eq_true rfl⟩ dX8_meanRun_41
          change ia_ct X _ _ (41 + 3) _ _ _ (.inl (some (0, (run σ j)))) _ _
          refine j1 ?_
          refine ia_iadd (pc := 44) F dX8_meanRun_44 ?_
          refine ia_istore_n (pc := 45) F (ls' := [(4, ((99 : Nat) : Int)), (0, (a + (run σ j))), (0, (j : Int))]) dX8_meanRun_45 (Nat.le_of_ble_eq_true rfl) rfl rfl ?_
          refine ia_iinc (pc := 46) F (ls' := [(4, ((99 : Nat) : Int)), (0, (a + (run σ j))), (0, ((j + 1 : Nat) : Int))]) dX8_meanRun_46 rfl rfl rfl rfl ?_
          refine ia_goto (pc := 49) F 27 dX8_meanRun_49 rfl ?_
          exact ih27 (j + 1) (a + (run σ j)) _ (by omega) (by omega) (by rw [psum_s, ha]) (by omega) hP2 w2_99 hF2
    exact L27 (7 + 1) 0 0 _ (by omega) (by omega) rfl (by omega) p_7 w_8 (Fr_c (Fr_0 (V := V) (S := [99])) f_9 (by decide))
set_option maxRecDepth 100000 in
theorem c_X8_fadedShare {Z : ia_Z} {V : ia_H} {Q : ia_O → ia_Z → ia_H → Prop} {σ : Nat → Int} {μ : Nat → Int} {m : Int} (hZ : ZI Z) (hP : PI V) (hI : SI σ m) (h99 : V 99 = μ) (h100 : V 100 = σ)  (q1 : ∀ (V1 : ia_H), (0 < σ 6) → PI V1 → (V1 99 = up μ 9 0) → (∀ pp, pp ∉ ([99] : List Nat) → V1 pp = V pp) → Q (.inl (some (2, (ia_fdiv (ia_i2f (σ 18)) (ia_i2f (σ 6)))))) Z V1) (q2 : ∀ (V1 : ia_H), (σ 6 = 0) → PI V1 → (V1 99 = up μ 9 1) → (∀ pp, pp ∉ ([99] : List Nat) → V1 pp = V pp) → Q (.inl (some (2, ((FP.fconst0.toNat : Nat) : Int)))) Z V1) : ia_K yX8_fadedShare cX8_fadedShare 1 (some .float) [(4, ((99 : Nat) : Int))] Z V 4 0 0 Q := by
  refine ia_start RX8 "fadedShare" ⟨by decide, rfl, rfl⟩ (Nat.le_of_ble_eq_true rfl) (ia_tg rfl) (fun X F M => ?_)
  show ia_G X 0 0 0 [(4, ((99 : Nat) : Int))] [] Z V
  obtain ⟨s0, s1, s2, s3, s4, s5, s6, s7, s18, sb, sw, se, sp⟩ := id hI
  refine ia_aload_n (pc := 0) F dX8_fadedShare_0 rfl ?_
  refine ia_aload_n (pc := 1) F dX8_fadedShare_1 rfl ?_
  refine jg (pc := 2) F (z99 hZ) cls11 f11_0 (hP 99 0 100 rfl) il_RX8_7 dX8_fadedShare_2 ?_
  refine ia_bipush (pc := 5) F dX8_fadedShare_5 (by decide) ?_
  refine ja (pc := 7) F (v := σ 6) (z100 hZ) 6 rfl (by omega) (congrFun h100 6) dX8_fadedShare_7 ?_
  refine ia_if_le (pc := 8) F 15 dX8_fadedShare_8 rfl (by omega) (fun h_1 => ?_) (fun h_1 => ?_)
  · refine ia_iconst (pc := 15) F dX8_fadedShare_15 ?_
    refine jV (pc := 16) F 0 0 (z99 hZ) cls11.1 (c_X8_checked0 hZ hP h99 h100 (fun V_2 p_3 w_4 f_5 => ?_)) rfl ⟨k_X8_checked, il_RX8_125, im_X8_checked, is_X8_checked, ii_RX8⟩ 1 rfl hd_X8_checked ⟨by decide, by decide, by decide, by decide, Nat.le_of_ble_eq_true rfl⟩ dX8_fadedShare_16
    refine j1 ?_
    refine ia_if_le (pc := 19) F 26 dX8_fadedShare_19 rfl (by omega) (fun h9 => absurd h9 (by omega)) (fun _ => ?_)
    refine ia_fconst0 (pc := 22) F dX8_fadedShare_22 ?_
    refine ia_goto (pc := 23) F 43 dX8_fadedShare_23 rfl ?_
    refine ia_freturn (pc := 43) F M (by decide) (by decide) dX8_fadedShare_43 ?_
    exact q2 _ (by omega) p_3 w_4 (Fr_c (Fr_0 (V := V) (S := [99])) f_5 (by decide))
  · refine ia_iconst (pc := 11) F dX8_fadedShare_11 ?_
    refine ia_goto (pc := 12) F 16 dX8_fadedShare_12 rfl ?_
    refine jV (pc := 16) F 0 0 (z99 hZ) cls11.1 (c_X8_checked1 hZ hP h99 h100 (fun V_6 p_7 w_8 f_9 => ?_)) rfl ⟨k_X8_checked, il_RX8_125, im_X8_checked, is_X8_checked, ii_RX8⟩ 1 rfl hd_X8_checked ⟨by decide, by decide, by decide, by decide, Nat.le_of_ble_eq_true rfl⟩ dX8_fadedShare_16
    refine j1 ?_
    refine ia_if_le (pc := 19) F 26 dX8_fadedShare_19 rfl (by omega) (fun _ => ?_) (fun h9 => absurd h9 (by omega))
    refine ia_aload_n (pc := 26) F dX8_fadedShare_26 rfl ?_
    refine jg (pc := 27) F (z99 hZ) cls11 f11_0 (p_7 99 0 100 rfl) il_RX8_7 dX8_fadedShare_27 ?_
    refine ia_bipush (pc := 30) F dX8_fadedShare_30 (by decide) ?_
    refine ja (pc := 32) F (v := σ 18) (z100 hZ) 18 rfl (by omega) (congrFun ((f_9 100 (by decide)).trans h100) 18) dX8_fadedShare_32 ?_
    refine ia_i2fr (pc := 33) F dX8_fadedShare_33 ?_
    refine ia_aload_n (pc := 34) F dX8_fadedShare_34 rfl ?_
    refine jg (pc := 35) F (z99 hZ) cls11 f11_0 (p_7 99 0 100 rfl) il_RX8_7 dX8_fadedShare_35 ?_
    refine ia_bipush (pc := 38) F dX8_fadedShare_38 (by decide) ?_
    refine ja (pc := 40) F (v := σ 6) (z100 hZ) 6 rfl (by omega) (congrFun ((f_9 100 (by decide)).trans h100) 6) dX8_fadedShare_40 ?_
    refine ia_i2fr (pc := 41) F dX8_fadedShare_41 ?_
    refine ia_fdivr (pc := 42) F dX8_fadedShare_42 (fl_fdiv (by omega)) ?_
    refine ia_freturn (pc := 43) F M (by decide) (by decide) dX8_fadedShare_43 ?_
    exact q1 _ (by omega) p_7 w_8 (Fr_c (Fr_0 (V := V) (S := [99])) f_9 (by decide))
