/-! the class: the shop, its changes (made by wip/whole/c1.py) -/
set_option maxRecDepth 100000 in
theorem c_X6_closeGap {Z : ia_Z} {V : ia_H} {Q : ia_O → ia_Z → ia_H → Prop} {f : Nat → Int} (p e L1 : Nat) (u : Int) (hZ : ZI Z) (hP : PI V) (hp : V p = f) (zp : p < Z.2.2 ∧ Z.1 p = 0 ∧ Z.2.1 p = L1) (nqp : ∀ k : Nat, ptr p k = none) (hl : (e : Int) < u ∧ u ≤ L1 ∧ L1 ≤ 1000) (q1 : ∀ (V1 : ia_H), PI V1 → (V1 p = gapt f e (u - 1).toNat 1) → (∀ pp, pp ∉ ([p] : List Nat) → V1 pp = V pp) → Q (.inl none) Z V1) : ia_K yX6_closeGap cX6_closeGap 4 none [(4, ((p : Nat) : Int)), (0, (e : Int)), (0, u)] Z V 1 0 0 Q := by
  refine ia_start RX6 "closeGap" ⟨by decide, rfl, rfl⟩ (Nat.le_of_ble_eq_true rfl) (ia_tg rfl) (fun X F M => ?_)
  show ia_G X 0 0 0 [(4, ((p : Nat) : Int)), (0, (e : Int)), (0, u), (9, 0)] [] Z V
  refine ia_iload_n (pc := 0) F dX6_closeGap_0 rfl ?_
  refine ia_istore_n (pc := 1) F (ls' := [(4, ((p : Nat) : Int)), (0, (e : Int)), (0, u), (0, (e : Int))]) dX6_closeGap_1 (Nat.le_of_ble_eq_true rfl) rfl rfl ?_
  have L2 : ∀ (fu : Nat) (i : Nat) (V2 : ia_H), (u.toNat - i < fu) → (e ≤ i ∧ (i : Int) ≤ u - 1) → (PI V2) → (V2 p = gapt f e i 1) → (∀ pp, pp ∉ ([p] : List Nat) → V2 pp = V pp) → ia_G X 0 0 2 [(4, ((p : Nat) : Int)), (0, (e : Int)), (0, u), (0, (i : Int))] [] Z V2 := by
    intro fu
    induction fu with
    | zero => intro i V2 hm; exact absurd hm (Nat.not_lt_zero _)
    | succ fu ih =>
      intro i V2 hm hi hP2 w2_p hF2
      have ih2 := ih
      refine ia_iload_n (pc := 2) F dX6_closeGap_2 rfl ?_
      refine ia_iload_n (pc := 3) F dX6_closeGap_3 rfl ?_
      refine ia_iconst (pc := 4) F dX6_closeGap_4 ?_
      refine ia_isub (pc := 5) F dX6_closeGap_5 ?_
      refine ia_icmp_ge (pc := 6) F 23 dX6_closeGap_6 rfl (by omega) (by omega) (fun h_1 => ?_) (fun h_1 => ?_)
      · refine ia_return (pc := 23) F M (by decide) (by decide) dX6_closeGap_23 ?_
        rw [show (u - 1).toNat = i by omega] at q1
        exact q1 _ hP2 w2_p hF2
      · refine ia_aload_n (pc := 9) F dX6_closeGap_9 rfl ?_
        refine ia_iload_n (pc := 10) F dX6_closeGap_10 rfl ?_
        refine ia_aload_n (pc := 11) F dX6_closeGap_11 rfl ?_
        refine ia_iload_n (pc := 12) F dX6_closeGap_12 rfl ?_
        refine ia_iconst (pc := 13) F dX6_closeGap_13 ?_
        refine ia_iadd (pc := 14) F dX6_closeGap_14 ?_
        refine ja (pc := 15) F (v := f (i + 1)) zp (i + 1) rfl (by omega) ((congrFun w2_p (i + 1)).trans (gapt_hi (by omega))) dX6_closeGap_15 ?_
        refine js (pc := 16) F zp i rfl (by omega) dX6_closeGap_16 ?_
        refine ia_iinc (pc := 17) F (ls' := [(4, ((p : Nat) : Int)), (0, (e : Int)), (0, u), (0, ((i + 1 : Nat) : Int))]) dX6_closeGap_17 rfl rfl rfl rfl ?_
        refine ia_goto (pc := 20) F 2 dX6_closeGap_20 rfl ?_
        exact ih2 (i + 1) _ (by omega) (by omega) (PI_u hP2 (nqp _)) ((rowU w2_p).trans (gapt_s hi.1)) (Fr_u hF2 (by simp))
  exact L2 (u.toNat - e + 1) e _ (by omega) (by omega) hP (hp.trans (gapt_0 (Nat.le_refl _)).symm) (Fr_0 (V := V) (S := [p]))
set_option maxRecDepth 100000 in
theorem c_X6_takeEdition {Z : ia_Z} {V : ia_H} {Q : ia_O → ia_Z → ia_H → Prop} {σ : Nat → Int} {m : Int} (c : Int) (u : Int) (hZ : ZI Z) (hP : PI V) (hS : Sh 1 V σ) (hI : SI σ m)  (rc : -2147483648 ≤ c ∧ c ≤ 2147483647) (ru : -2147483648 ≤ u ∧ u ≤ 2147483647) (q1 : (¬ ((0 ≤ c ∧ c ≤ 9) ∧ 1 ≤ u ∧ u ≤ 50)) → Q (.inl (some (0, (-1)))) Z V) (q2 : ((0 ≤ c ∧ c ≤ 9) ∧ 1 ≤ u ∧ u ≤ 50) → (σ 0 = 7) → Q (.inl (some (0, (-2)))) Z V) (q3 : ∀ (V1 : ia_H), ((0 ≤ c ∧ c ≤ 9) ∧ 1 ≤ u ∧ u ≤ 50) → (¬ σ 0 = 7) → PI V1 → (∀ pp, pp ∉ ([1, 2, 3, 4, 5, 6, 7] : List Nat) → V1 pp = V pp) → (Sh 1 V1 (s_add σ c u)) → Q (.inl (some (0, (σ 0)))) Z V1) : ia_K yX6_takeEdition cX6_takeEdition 4 (some .int) [(4, ((1 : Nat) : Int)), (0, c), (0, u)] Z V 3 0 0 Q := by
  refine ia_start RX6 "takeEdition" ⟨by decide, rfl, rfl⟩ (Nat.le_of_ble_eq_true rfl) (ia_tg rfl) (fun X F M => ?_)
  show ia_G X 0 0 0 [(4, ((1 : Nat) : Int)), (0, c), (0, u), (9, 0)] [] Z V
  obtain ⟨s0, s1, s2, s3, s4, s5, s6, s7, s18, sb, sw, se, sp⟩ := id hI
  refine ia_iload_n (pc := 0) F dX6_takeEdition_0 rfl ?_
  refine jSN (pc := 1) F 0 0 (c_X7_isColour c (by omega) (fun h_1 => ?_) (fun h_2 => ?_)) rfl ⟨k_X7_isColour, il_RX6_65, it_X7_isColour, ii_RX7⟩ 1 rfl hd_X7_isColour ⟨by decide, by decide, by decide, by decide, Nat.le_of_ble_eq_true rfl⟩ dX6_takeEdition_1
  · refine j1 ?_
    refine ia_if_eq (pc := 4) F 17 dX6_takeEdition_4 rfl (by omega) (fun h9 => absurd h9 (by omega)) (fun _ => ?_)
    refine ia_iload_n (pc := 7) F dX6_takeEdition_7 rfl ?_
    refine ia_iconst (pc := 8) F dX6_takeEdition_8 ?_
    refine ia_bipush (pc := 9) F dX6_takeEdition_9 (by decide) ?_
    refine jSN (pc := 11) F 0 0 (c_X7_isWithin u 1 50 (by omega) (by omega) (by omega) (fun h_3 => ?_) (fun h_4 => ?_)) rfl ⟨k_X7_isWithin, il_RX6_69, it_X7_isWithin, ii_RX7⟩ 3 rfl hd_X7_isWithin ⟨by decide, by decide, by decide, by decide, Nat.le_of_ble_eq_true rfl⟩ dX6_takeEdition_11
    · refine j1 ?_
      refine ia_if_ne (pc := 14) F 19 dX6_takeEdition_14 rfl (by omega) (fun _ => ?_) (fun h9 => absurd h9 (by omega))
      refine ia_aload_n (pc := 19) F dX6_takeEdition_19 rfl ?_
      refine jg (pc := 20) F (x := σ 0) (z1 hZ) cls9 f9_6 hS.f6 il_RX6_30 dX6_takeEdition_20 ?_
      refine ia_bipush (pc := 23) F dX6_takeEdition_23 (by decide) ?_
      refine ia_icmp_lt (pc := 25) F 31 dX6_takeEdition_25 rfl (by omega) (by omega) (fun h_5 => ?_) (fun h_5 => ?_)
      · refine ia_aload_n (pc := 31) F dX6_takeEdition_31 rfl ?_
        refine jg (pc := 32) F (x := σ 0) (z1 hZ) cls9 f9_6 hS.f6 il_RX6_30 dX6_takeEdition_32 ?_
        refine ia_istore_n (pc := 35) F (ls' := [(4, ((1 : Nat) : Int)), (0, c), (0, u), (0, σ 0)]) dX6_takeEdition_35 (Nat.le_of_ble_eq_true rfl) rfl rfl ?_
        refine ia_aload_n (pc := 36) F dX6_takeEdition_36 rfl ?_
        refine jg (pc := 37) F (z1 hZ) cls9 f9_1 (hP 1 1 3 rfl) il_RX6_15 dX6_takeEdition_37 ?_
        refine ia_iload_n (pc := 40) F dX6_takeEdition_40 rfl ?_
        refine ia_iload_n (pc := 41) F dX6_takeEdition_41 rfl ?_
        refine js (pc := 42) F (z3 hZ) ((σ 0).toNat) (by omega) (by omega) dX6_takeEdition_42 ?_
        refine ia_aload_n (pc := 43) F dX6_takeEdition_43 rfl ?_
        refine jg (pc := 44) F (z1 hZ) cls9 f9_2 ((PI_u hP rfl) 1 2 4 rfl) il_RX6_18 dX6_takeEdition_44 ?_
        refine ia_iload_n (pc := 47) F dX6_takeEdition_47 rfl ?_
        refine ia_iload_n (pc := 48) F dX6_takeEdition_48 rfl ?_
        refine js (pc := 49) F (z4 hZ) ((σ 0).toNat) (by omega) (by omega) dX6_takeEdition_49 ?_
        refine ia_aload_n (pc := 50) F dX6_takeEdition_50 rfl ?_
        refine jg (pc := 51) F (z1 hZ) cls9 f9_3 ((PI_u (PI_u hP rfl) rfl) 1 3 5 rfl) il_RX6_21 dX6_takeEdition_51 ?_
        refine ia_iload_n (pc := 54) F dX6_takeEdition_54 rfl ?_
        refine ia_iconst (pc := 55) F dX6_takeEdition_55 ?_
        refine js (pc := 56) F (z5 hZ) ((σ 0).toNat) (by omega) (by omega) dX6_takeEdition_56 ?_
        refine ia_aload_n (pc := 57) F dX6_takeEdition_57 rfl ?_
        refine ia_dup (pc := 58) F dX6_takeEdition_58 (Or.inr (Or.inr rfl)) ?_
        refine jg (pc := 59) F (x := σ 0) (z1 hZ) cls9 f9_6 ((((Sh_p (Sh_r (Sh_c hS (by omega)) (by omega)) (by omega)).f6.trans (up_ne (by omega))).trans (up_ne (by omega))).trans (up_ne (by omega))) il_RX6_30 dX6_takeEdition_59 ?_
        refine ia_iconst (pc := 62) F dX6_takeEdition_62 ?_
        refine ia_iadd (pc := 63) F dX6_takeEdition_63 ?_
        refine jp (pc := 64) F (z1 hZ) cls9 f9_6 rfl (ia_nI rfl _) il_RX6_30 dX6_takeEdition_64 ?_
        refine ia_iload_n (pc := 67) F dX6_takeEdition_67 rfl ?_
        refine ia_ireturn (pc := 68) F M (by decide) (by decide) dX6_takeEdition_68 ?_
        exact q3 _ (by omega) (by omega) (PI_u (PI_u (PI_u (PI_u hP rfl) rfl) rfl) rfl) (Fr_u (Fr_u (Fr_u (Fr_u (Fr_0 (V := V) (S := [1, 2, 3, 4, 5, 6, 7])) (by decide)) (by decide)) (by decide)) (by decide)) (Sh_e6 (k := (σ 0).toNat) (Sh_p (Sh_r (Sh_c hS (by omega)) (by omega)) (by omega)) (by simp [up]; omega) (by simp [ia_u, up, col, run, prt]) ⟨by omega, by omega⟩)
      · refine ia_bipush (pc := 28) F dX6_takeEdition_28 (by decide) ?_
        refine ia_ireturn (pc := 30) F M (by decide) (by decide) dX6_takeEdition_30 ?_
        first | exact q2 (by omega) (by omega) | exact q3 _ (by omega) (by omega) hP (Fr_0 (V := V) (S := [1, 2, 3, 4, 5, 6, 7])) hS | (exfalso; omega)
    · refine j1 ?_
      refine ia_if_ne (pc := 14) F 19 dX6_takeEdition_14 rfl (by omega) (fun h9 => absurd h9 (by omega)) (fun _ => ?_)
      refine ia_iconst (pc := 17) F dX6_takeEdition_17 ?_
      refine ia_ireturn (pc := 18) F M (by decide) (by decide) dX6_takeEdition_18 ?_
      first | exact q1 (by omega) | exact q3 _ (by omega) (by omega) hP (Fr_0 (V := V) (S := [1, 2, 3, 4, 5, 6, 7])) hS | (exfalso; omega)
  · refine j1 ?_
    refine ia_if_eq (pc := 4) F 17 dX6_takeEdition_4 rfl (by omega) (fun _ => ?_) (fun h9 => absurd h9 (by omega))
    refine ia_iconst (pc := 17) F dX6_takeEdition_17 ?_
    refine ia_ireturn (pc := 18) F M (by decide) (by decide) dX6_takeEdition_18 ?_
    first | exact q1 (by omega) | exact q3 _ (by omega) (by omega) hP (Fr_0 (V := V) (S := [1, 2, 3, 4, 5, 6, 7])) hS | (exfalso; omega)
set_option maxRecDepth 100000 in
theorem c_X6_strikeEdition {Z : ia_Z} {V : ia_H} {Q : ia_O → ia_Z → ia_H → Prop} {σ : Nat → Int} {m : Int} (e : Int) (hZ : ZI Z) (hP : PI V) (hS : Sh 1 V σ) (hI : SI σ m)  (re : -2147483648 ≤ e ∧ e ≤ 2147483647) (q1 : (¬ (0 ≤ e ∧ e < σ 0)) → Q (.inl (some (0, (-3)))) Z V) (q2 : ∀ (V1 : ia_H), (0 ≤ e ∧ e < σ 0) → PI V1 → (∀ pp, pp ∉ ([1, 3, 4, 5] : List Nat) → V1 pp = V pp) → (Sh 1 V1 (s_rem σ e.toNat)) → Q (.inl (some (0, (σ 0 - 1)))) Z V1) : ia_K yX6_strikeEdition cX6_strikeEdition 2 (some .int) [(4, ((1 : Nat) : Int)), (0, e)] Z V 3 0 0 Q := by
  refine ia_start RX6 "strikeEdition" ⟨by decide, rfl, rfl⟩ (Nat.le_of_ble_eq_true rfl) (ia_tg rfl) (fun X F M => ?_)
  show ia_G X 0 0 0 [(4, ((1 : Nat) : Int)), (0, e)] [] Z V
  obtain ⟨s0, s1, s2, s3, s4, s5, s6, s7, s18, sb, sw, se, sp⟩ := id hI
  refine ia_aload_n (pc := 0) F dX6_strikeEdition_0 rfl ?_
  refine ia_iload_n (pc := 1) F dX6_strikeEdition_1 rfl ?_
  refine jV (pc := 2) F 0 0 (z1 hZ) cls9.1 (c_X6_hasEdition e hZ hP hS hI (by omega) (fun h_1 => ?_) (fun h_2 => ?_)) rfl ⟨k_X6_hasEdition, il_RX6_87, im_X6_hasEdition, is_X6_hasEdition, ii_RX6⟩ 1 rfl hd_X6_hasEdition ⟨by decide, by decide, by decide, by decide, Nat.le_of_ble_eq_true rfl⟩ dX6_strikeEdition_2
  · refine j1 ?_
    refine ia_if_ne (pc := 5) F 11 dX6_strikeEdition_5 rfl (by omega) (fun _ => ?_) (fun h9 => absurd h9 (by omega))
    refine ia_aload_n (pc := 11) F dX6_strikeEdition_11 rfl ?_
    refine jg (pc := 12) F (z1 hZ) cls9 f9_1 (hP 1 1 3 rfl) il_RX6_15 dX6_strikeEdition_12 ?_
    refine ia_iload_n (pc := 15) F dX6_strikeEdition_15 rfl ?_
    refine ia_aload_n (pc := 16) F dX6_strikeEdition_16 rfl ?_
    refine jg (pc := 17) F (x := (σ 0)) (z1 hZ) cls9 f9_6 ((congrFun (rfl : V 1 = V 1) 6).trans hS.f6) il_RX6_30 dX6_strikeEdition_17 ?_
    rw [show e = ((e.toNat : Nat) : Int) from by omega]
    refine jS (pc := 20) F 0 0 (c_X6_closeGap 3 e.toNat 7 (σ 0) hZ hP (rfl : V 3 = V 3) (z3 hZ) (fun _ => rfl) ⟨by omega, by omega, by omega⟩ (fun V_3 p_4 w_5 f_6 => ?_)) rfl ⟨k_X6_closeGap, il_RX6_90, it_X6_closeGap, ii_RX6⟩ rfl 3 rfl hd_X6_closeGap ⟨by decide, by decide, by decide, by decide, Nat.le_of_ble_eq_true rfl⟩ dX6_strikeEdition_20
    refine j0 ?_
    refine ia_aload_n (pc := 23) F dX6_strikeEdition_23 rfl ?_
    refine jg (pc := 24) F (z1 hZ) cls9 f9_2 (p_4 1 2 4 rfl) il_RX6_18 dX6_strikeEdition_24 ?_
    refine ia_iload_n (pc := 27) F dX6_strikeEdition_27 rfl ?_
    refine ia_aload_n (pc := 28) F dX6_strikeEdition_28 rfl ?_
    refine jg (pc := 29) F (x := (σ 0)) (z1 hZ) cls9 f9_6 ((congrFun ((f_6 1 (by decide)).trans (rfl : V 1 = V 1)) 6).trans hS.f6) il_RX6_30 dX6_strikeEdition_29 ?_
    rw [show e = ((e.toNat : Nat) : Int) from by omega]
    refine jS (pc := 32) F 0 0 (c_X6_closeGap 4 e.toNat 7 (σ 0) hZ p_4 ((f_6 4 (by decide)).trans (rfl : V 4 = V 4)) (z4 hZ) (fun _ => rfl) ⟨by omega, by omega, by omega⟩ (fun V_7 p_8 w_9 f_10 => ?_)) rfl ⟨k_X6_closeGap, il_RX6_90, it_X6_closeGap, ii_RX6⟩ rfl 3 rfl hd_X6_closeGap ⟨by decide, by decide, by decide, by decide, Nat.le_of_ble_eq_true rfl⟩ dX6_strikeEdition_32
    refine j0 ?_
    refine ia_aload_n (pc := 35) F dX6_strikeEdition_35 rfl ?_
    refine jg (pc := 36) F (z1 hZ) cls9 f9_3 (p_8 1 3 5 rfl) il_RX6_21 dX6_strikeEdition_36 ?_
    refine ia_iload_n (pc := 39) F dX6_strikeEdition_39 rfl ?_
    refine ia_aload_n (pc := 40) F dX6_strikeEdition_40 rfl ?_
    refine jg (pc := 41) F (x := (σ 0)) (z1 hZ) cls9 f9_6 ((congrFun ((f_10 1 (by decide)).trans ((f_6 1 (by decide)).trans (rfl : V 1 = V 1))) 6).trans hS.f6) il_RX6_30 dX6_strikeEdition_41 ?_
    rw [show e = ((e.toNat : Nat) : Int) from by omega]
    refine jS (pc := 44) F 0 0 (c_X6_closeGap 5 e.toNat 7 (σ 0) hZ p_8 ((f_10 5 (by decide)).trans ((f_6 5 (by decide)).trans (rfl : V 5 = V 5))) (z5 hZ) (fun _ => rfl) ⟨by omega, by omega, by omega⟩ (fun V_11 p_12 w_13 f_14 => ?_)) rfl ⟨k_X6_closeGap, il_RX6_90, it_X6_closeGap, ii_RX6⟩ rfl 3 rfl hd_X6_closeGap ⟨by decide, by decide, by decide, by decide, Nat.le_of_ble_eq_true rfl⟩ dX6_strikeEdition_44
    refine j0 ?_
    refine ia_aload_n (pc := 47) F dX6_strikeEdition_47 rfl ?_
    refine ia_dup (pc := 48) F dX6_strikeEdition_48 (Or.inr (Or.inr rfl)) ?_
    refine jg (pc := 49) F (x := (σ 0)) (z1 hZ) cls9 f9_6 ((congrFun ((f_14 1 (by decide)).trans ((f_10 1 (by decide)).trans ((f_6 1 (by decide)).trans (rfl : V 1 = V 1)))) 6).trans hS.f6) il_RX6_30 dX6_strikeEdition_49 ?_
    refine ia_iconst (pc := 52) F dX6_strikeEdition_52 ?_
    refine ia_isub (pc := 53) F dX6_strikeEdition_53 ?_
    refine jp (pc := 54) F (z1 hZ) cls9 f9_6 rfl (ia_nI rfl _) il_RX6_30 dX6_strikeEdition_54 ?_
    refine ia_aload_n (pc := 57) F dX6_strikeEdition_57 rfl ?_
    refine jg (pc := 58) F (x := ((σ 0) - 1)) (z1 hZ) cls9 f9_6 ((congrFun (rowU ((f_14 1 (by decide)).trans ((f_10 1 (by decide)).trans ((f_6 1 (by decide)).trans (rfl : V 1 = V 1))))) 6).trans (up_self _ _ _)) il_RX6_30 dX6_strikeEdition_58 ?_
    refine ia_ireturn (pc := 61) F M (by decide) (by decide) dX6_strikeEdition_61 ?_
    have hk : (σ 0 - 1).toNat = (σ 0).toNat - 1 := by omega
    exact q2 _ (by omega) (PI_u p_12 rfl) (Fr_u (Fr_c (Fr_c (Fr_c (Fr_0 (V := V) (S := [1, 3, 4, 5])) f_6 (by decide)) f_10 (by decide)) f_14 (by decide)) (by decide)) (Sh_rem (n := (σ 0).toNat) hS (by omega) (by omega) (rowU ((f_14 1 (by decide)).trans ((f_10 1 (by decide)).trans ((f_6 1 (by decide)).trans (rfl : V 1 = V 1))))) (by rw [← hk]; exact ((rowN (by decide)).trans ((f_14 3 (by decide)).trans ((f_10 3 (by decide)).trans w_5)))) (by rw [← hk]; exact ((rowN (by decide)).trans ((f_14 4 (by decide)).trans w_9))) (by rw [← hk]; exact ((rowN (by decide)).trans w_13)) (Fr_u (Fr_c (Fr_c (Fr_c (Fr_0 (V := V) (S := [1, 3, 4, 5])) f_6 (by decide)) f_10 (by decide)) f_14 (by decide)) (by decide)))
  · refine j1 ?_
    refine ia_if_ne (pc := 5) F 11 dX6_strikeEdition_5 rfl (by omega) (fun h9 => absurd h9 (by omega)) (fun _ => ?_)
    refine ia_bipush (pc := 8) F dX6_strikeEdition_8 (by decide) ?_
    refine ia_ireturn (pc := 10) F M (by decide) (by decide) dX6_strikeEdition_10 ?_
    first | exact q1 (by omega) | exact q2 _ (by omega) hP (Fr_0 (V := V) (S := [1, 3, 4, 5])) hS | (exfalso; omega)
set_option maxRecDepth 100000 in
theorem c_X6_printUpTo {Z : ia_Z} {V : ia_H} {Q : ia_O → ia_Z → ia_H → Prop} {σ : Nat → Int} {m : Int} (e : Int) (u : Int) (hZ : ZI Z) (hP : PI V) (hS : Sh 1 V σ) (hI : SI σ m)  (he : 0 ≤ e ∧ e < σ 0) (hu : 0 ≤ u ∧ u ≤ 10000) (q1 : (min u (wel σ (col σ e.toNat).toNat) = 0) → Q (.inl (some (0, 0))) Z V) (q2 : ∀ (n : Int) (V1 : ia_H), (¬ n = 0) → (n = min u (wel σ (col σ e.toNat).toNat)) → PI V1 → (∀ pp, pp ∉ ([1, 2, 3, 4, 5, 6, 7] : List Nat) → V1 pp = V pp) → (Sh 1 V1 (s_print σ e.toNat n)) → Q (.inl (some (0, n))) Z V1) : ia_K yX6_printUpTo cX6_printUpTo 5 (some .int) [(4, ((1 : Nat) : Int)), (0, e), (0, u)] Z V 2 0 0 Q := by
  refine ia_start RX6 "printUpTo" ⟨by decide, rfl, rfl⟩ (Nat.le_of_ble_eq_true rfl) (ia_tg rfl) (fun X F M => ?_)
  show ia_G X 0 0 0 [(4, ((1 : Nat) : Int)), (0, e), (0, u), (9, 0), (9, 0)] [] Z V
  obtain ⟨s0, s1, s2, s3, s4, s5, s6, s7, s18, sb, sw, se, sp⟩ := id hI
  have r9 := se e.toNat (by omega)
  have r8 := sw (col σ e.toNat).toNat (by omega)
  refine ia_aload_n (pc := 0) F dX6_printUpTo_0 rfl ?_
  refine jg (pc := 1) F (z1 hZ) cls9 f9_1 (hP 1 1 3 rfl) il_RX6_15 dX6_printUpTo_1 ?_
  refine ia_iload_n (pc := 4) F dX6_printUpTo_4 rfl ?_
  have r_1 := se e.toNat (by omega)
  refine ja (pc := 5) F (v := col σ e.toNat) (z3 hZ) e.toNat (by omega) (by omega) (hS.col e.toNat (by omega)) dX6_printUpTo_5 ?_
  refine ia_istore_n (pc := 6) F (ls' := [(4, ((1 : Nat) : Int)), (0, e), (0, u), (0, col σ e.toNat), (9, 0)]) dX6_printUpTo_6 (Nat.le_of_ble_eq_true rfl) rfl rfl ?_
  refine ia_iload_n (pc := 7) F dX6_printUpTo_7 rfl ?_
  refine ia_aload_n (pc := 8) F dX6_printUpTo_8 rfl ?_
  refine jg (pc := 9) F (z1 hZ) cls9 f9_0 (hP 1 0 2 rfl) il_RX6_9 dX6_printUpTo_9 ?_
  refine ia_iload_n (pc := 12) F dX6_printUpTo_12 rfl ?_
  have r_2 := sw ((col σ e.toNat).toNat) (by omega)
  refine ja (pc := 13) F (v := wel σ ((col σ e.toNat).toNat)) (z2 hZ) ((col σ e.toNat).toNat) (by omega) (by omega) (hS.wel ((col σ e.toNat).toNat) (by omega)) dX6_printUpTo_13 ?_
  refine ia_min (pc := 14) F (by omega) (by omega) ⟨il_RX6_81, it_mmin, ii_RJ9, k_mmin⟩ ⟨by decide, Nat.le_of_ble_eq_true rfl, by decide, by decide⟩ dX6_printUpTo_14 ?_
  rw [ia_minE u (wel σ ((col σ e.toNat).toNat))]
  refine ia_istore (pc := 17) F (ls' := [(4, ((1 : Nat) : Int)), (0, e), (0, u), (0, col σ e.toNat), (0, (min u (wel σ ((col σ e.toNat).toNat))))]) dX6_printUpTo_17 (Nat.le_of_ble_eq_true rfl) rfl rfl ?_
  refine ia_iload (pc := 19) F dX6_printUpTo_19 rfl ?_
  refine ia_if_ne (pc := 21) F 26 dX6_printUpTo_21 rfl (by omega) (fun h_3 => ?_) (fun h_3 => ?_)
  · refine ia_aload_n (pc := 26) F dX6_printUpTo_26 rfl ?_
    refine ia_dup (pc := 27) F dX6_printUpTo_27 (Or.inr (Or.inr rfl)) ?_
    refine jg (pc := 28) F (x := σ 5) (z1 hZ) cls9 f9_11 hS.f11 il_RX6_46 dX6_printUpTo_28 ?_
    refine ia_aload_n (pc := 31) F dX6_printUpTo_31 rfl ?_
    refine jg (pc := 32) F (x := σ 4) (z1 hZ) cls9 f9_10 hS.f10 il_RX6_43 dX6_printUpTo_32 ?_
    refine ia_iload_n (pc := 35) F dX6_printUpTo_35 rfl ?_
    refine jSN (pc := 36) F 0 0 (c_X7_washMinutes (σ 4) (col σ e.toNat) (by omega) (by omega) ?_) rfl ⟨k_X7_washMinutes, il_RX6_101, it_X7_washMinutes, ii_RX7⟩ 2 rfl hd_X7_washMinutes ⟨by decide, by decide, by decide, by decide, Nat.le_of_ble_eq_true rfl⟩ dX6_printUpTo_36
    refine j1 ?_
    refine ia_iload (pc := 39) F dX6_printUpTo_39 rfl ?_
    refine ia_iadd (pc := 41) F dX6_printUpTo_41 ?_
    refine ia_iadd (pc := 42) F dX6_printUpTo_42 ?_
    refine jp (pc := 43) F (z1 hZ) cls9 f9_11 rfl (ia_nI rfl _) il_RX6_46 dX6_printUpTo_43 ?_
    refine ia_aload_n (pc := 46) F dX6_printUpTo_46 rfl ?_
    refine ia_iload_n (pc := 47) F dX6_printUpTo_47 rfl ?_
    refine jp (pc := 48) F (z1 hZ) cls9 f9_10 rfl (ia_nI rfl _) il_RX6_43 dX6_printUpTo_48 ?_
    refine ia_aload_n (pc := 51) F dX6_printUpTo_51 rfl ?_
    refine jg (pc := 52) F (z1 hZ) cls9 f9_3 ((PI_u (PI_u hP rfl) rfl) 1 3 5 rfl) il_RX6_21 dX6_printUpTo_52 ?_
    refine ia_iload_n (pc := 55) F dX6_printUpTo_55 rfl ?_
    refine ia_dup2 (pc := 56) F dX6_printUpTo_56 (Or.inl rfl) (Or.inr (Or.inr rfl)) ?_
    have r_4 := se e.toNat (by omega)
    refine ja (pc := 57) F (v := prt σ e.toNat) (z5 hZ) e.toNat (by omega) (by omega) ((((Sh_s10 (Sh_s11 hS)).prt e.toNat (by have h9 : (up (up σ 5 (σ 5 + ((wash (σ 4) (col σ e.toNat)) + (min u (wel σ ((col σ e.toNat).toNat)))))) 4 (col σ e.toNat)) 0 = σ 0 := ((up_ne (by decide)).trans (up_ne (by decide))); omega)).trans (up_ne (by omega))).trans (up_ne (by omega))) dX6_printUpTo_57 ?_
    refine ia_iload (pc := 58) F dX6_printUpTo_58 rfl ?_
    refine ia_iadd (pc := 60) F dX6_printUpTo_60 ?_
    refine js (pc := 61) F (z5 hZ) e.toNat (by omega) (by omega) dX6_printUpTo_61 ?_
    refine ia_aload_n (pc := 62) F dX6_printUpTo_62 rfl ?_
    refine ia_dup (pc := 63) F dX6_printUpTo_63 (Or.inr (Or.inr rfl)) ?_
    refine jg (pc := 64) F (x := σ 2) (z1 hZ) cls9 f9_8 ((((Sh_p (Sh_s10 (Sh_s11 hS)) (by omega)).f8.trans (up_ne (by omega))).trans (up_ne (by decide))).trans (up_ne (by decide))) il_RX6_37 dX6_printUpTo_64 ?_
    refine ia_iload (pc := 67) F dX6_printUpTo_67 rfl ?_
    refine ia_isub (pc := 69) F dX6_printUpTo_69 ?_
    refine jp (pc := 70) F (z1 hZ) cls9 f9_8 rfl (ia_nI rfl _) il_RX6_37 dX6_printUpTo_70 ?_
    refine ia_aload_n (pc := 73) F dX6_printUpTo_73 rfl ?_
    refine jg (pc := 74) F (z1 hZ) cls9 f9_0 ((PI_u (PI_u (PI_u (PI_u hP rfl) rfl) rfl) rfl) 1 0 2 rfl) il_RX6_9 dX6_printUpTo_74 ?_
    refine ia_iload_n (pc := 77) F dX6_printUpTo_77 rfl ?_
    refine ia_dup2 (pc := 78) F dX6_printUpTo_78 (Or.inl rfl) (Or.inr (Or.inr rfl)) ?_
    refine ja (pc := 79) F (v := wel σ ((col σ e.toNat).toNat)) (z2 hZ) ((col σ e.toNat).toNat) (by omega) (by omega) ((((((Sh_s8 (Sh_p (Sh_s10 (Sh_s11 hS)) (by omega))).wel ((col σ e.toNat).toNat) (by omega)).trans (up_ne (by omega))).trans (up_ne (by omega))).trans (up_ne (by omega))).trans (up_ne (by omega))) dX6_printUpTo_79 ?_
    refine ia_iload (pc := 80) F dX6_printUpTo_80 rfl ?_
    refine ia_isub (pc := 82) F dX6_printUpTo_82 ?_
    refine js (pc := 83) F (z2 hZ) ((col σ e.toNat).toNat) (by omega) (by omega) dX6_printUpTo_83 ?_
    refine ia_aload_n (pc := 84) F dX6_printUpTo_84 rfl ?_
    refine ia_dup (pc := 85) F dX6_printUpTo_85 (Or.inr (Or.inr rfl)) ?_
    refine jg (pc := 86) F (x := σ 7) (z1 hZ) cls9 f9_13 ((((((Sh_w (Sh_s8 (Sh_p (Sh_s10 (Sh_s11 hS)) (by omega))) (by omega)).f13.trans (up_ne (by omega))).trans (up_ne (by decide))).trans (up_ne (by omega))).trans (up_ne (by decide))).trans (up_ne (by decide))) il_RX6_52 dX6_printUpTo_86 ?_
    refine ia_iload (pc := 89) F dX6_printUpTo_89 rfl ?_
    refine ia_iadd (pc := 91) F dX6_printUpTo_91 ?_
    refine jp (pc := 92) F (z1 hZ) cls9 f9_13 rfl (ia_nI rfl _) il_RX6_52 dX6_printUpTo_92 ?_
    refine ia_iload (pc := 95) F dX6_printUpTo_95 rfl ?_
    refine ia_ireturn (pc := 97) F M (by decide) (by decide) dX6_printUpTo_97 ?_
    exact q2 _ _ (by omega) (by omega) (PI_u (PI_u (PI_u (PI_u (PI_u (PI_u hP rfl) rfl) rfl) rfl) rfl) rfl) (Fr_u (Fr_u (Fr_u (Fr_u (Fr_u (Fr_u (Fr_0 (V := V) (S := [1, 2, 3, 4, 5, 6, 7])) (by decide)) (by decide)) (by decide)) (by decide)) (by decide)) (by decide)) (by rw [s_print_c (by omega)]; exact (Sh_s13 (Sh_w (Sh_s8 (Sh_p (Sh_s10 (Sh_s11 hS)) (by omega))) (by omega))))
  · refine ia_iconst (pc := 24) F dX6_printUpTo_24 ?_
    refine ia_ireturn (pc := 25) F M (by decide) (by decide) dX6_printUpTo_25 ?_
    exact q1 (by omega)
set_option maxRecDepth 100000 in
theorem c_X6_printOne {Z : ia_Z} {V : ia_H} {Q : ia_O → ia_Z → ia_H → Prop} {σ : Nat → Int} {m : Int} (e : Int) (hZ : ZI Z) (hP : PI V) (hS : Sh 1 V σ) (hI : SI σ m)  (re : -2147483648 ≤ e ∧ e ≤ 2147483647) (q1 : (¬ (0 ≤ e ∧ e < σ 0)) → Q (.inl (some (0, (-3)))) Z V) (q2 : (0 ≤ e ∧ e < σ 0) → (miss σ e.toNat = 0) → Q (.inl (some (0, (-2)))) Z V) (q3 : (0 ≤ e ∧ e < σ 0) → (¬ miss σ e.toNat = 0) → (σ 2 = 0 ∨ wel σ (col σ e.toNat).toNat = 0) → Q (.inl (some (0, (-4)))) Z V) (q4 : ∀ (n : Int) (V1 : ia_H), (0 ≤ e ∧ e < σ 0) → (¬ miss σ e.toNat = 0) → (¬ (σ 2 = 0 ∨ wel σ (col σ e.toNat).toNat = 0)) → (n = min (miss σ e.toNat) (min (σ 2) (wel σ (col σ e.toNat).toNat))) → PI V1 → (∀ pp, pp ∉ ([1, 2, 3, 4, 5, 6, 7] : List Nat) → V1 pp = V pp) → (Sh 1 V1 (s_print σ e.toNat n)) → Q (.inl (some (0, n))) Z V1) : ia_K yX6_printOne cX6_printOne 3 (some .int) [(4, ((1 : Nat) : Int)), (0, e)] Z V 3 0 0 Q := by
  refine ia_start RX6 "printOne" ⟨by decide, rfl, rfl⟩ (Nat.le_of_ble_eq_true rfl) (ia_tg rfl) (fun X F M => ?_)
  show ia_G X 0 0 0 [(4, ((1 : Nat) : Int)), (0, e), (9, 0)] [] Z V
  obtain ⟨s0, s1, s2, s3, s4, s5, s6, s7, s18, sb, sw, se, sp⟩ := id hI
  refine ia_aload_n (pc := 0) F dX6_printOne_0 rfl ?_
  refine ia_iload_n (pc := 1) F dX6_printOne_1 rfl ?_
  refine jV (pc := 2) F 0 0 (z1 hZ) cls9.1 (c_X6_hasEdition e hZ hP hS hI (by omega) (fun h_1 => ?_) (fun h_2 => ?_)) rfl ⟨k_X6_hasEdition, il_RX6_87, im_X6_hasEdition, is_X6_hasEdition, ii_RX6⟩ 1 rfl hd_X6_hasEdition ⟨by decide, by decide, by decide, by decide, Nat.le_of_ble_eq_true rfl⟩ dX6_printOne_2
  · refine j1 ?_
    refine ia_if_ne (pc := 5) F 11 dX6_printOne_5 rfl (by omega) (fun _ => ?_) (fun h9 => absurd h9 (by omega))
    refine ia_aload_n (pc := 11) F dX6_printOne_11 rfl ?_
    refine ia_iload_n (pc := 12) F dX6_printOne_12 rfl ?_
    refine jV (pc := 13) F 0 0 (z1 hZ) cls9.1 (c_X6_missing e hZ hP hS hI (by omega) ?_) rfl ⟨k_X6_missing, il_RX6_94, im_X6_missing, is_X6_missing, ii_RX6⟩ 1 rfl hd_X6_missing ⟨by decide, by decide, by decide, by decide, Nat.le_of_ble_eq_true rfl⟩ dX6_printOne_13
    refine j1 ?_
    have r9 := se e.toNat (by omega)
    have r7 : miss σ e.toNat = run σ e.toNat - prt σ e.toNat := rfl
    refine ia_if_ne (pc := 16) F 22 dX6_printOne_16 rfl (by omega) (fun h_3 => ?_) (fun h_3 => ?_)
    · have r9 := se e.toNat (by omega)
      have r8 := sw (col σ e.toNat).toNat (by omega)
      have r7 : miss σ e.toNat = run σ e.toNat - prt σ e.toNat := rfl
      refine ia_aload_n (pc := 22) F dX6_printOne_22 rfl ?_
      refine ia_iload_n (pc := 23) F dX6_printOne_23 rfl ?_
      refine ia_aload_n (pc := 24) F dX6_printOne_24 rfl ?_
      refine ia_iload_n (pc := 25) F dX6_printOne_25 rfl ?_
      refine jV (pc := 26) F 0 0 (z1 hZ) cls9.1 (c_X6_missing e hZ hP hS hI (by omega) ?_) rfl ⟨k_X6_missing, il_RX6_94, im_X6_missing, is_X6_missing, ii_RX6⟩ 1 rfl hd_X6_missing ⟨by decide, by decide, by decide, by decide, Nat.le_of_ble_eq_true rfl⟩ dX6_printOne_26
      refine j1 ?_
      refine ia_aload_n (pc := 29) F dX6_printOne_29 rfl ?_
      refine jg (pc := 30) F (x := σ 2) (z1 hZ) cls9 f9_8 hS.f8 il_RX6_37 dX6_printOne_30 ?_
      refine ia_min (pc := 33) F (by omega) (by omega) ⟨il_RX6_81, it_mmin, ii_RJ9, k_mmin⟩ ⟨by decide, Nat.le_of_ble_eq_true rfl, by decide, by decide⟩ dX6_printOne_33 ?_
      rw [ia_minE (miss σ e.toNat) (σ 2)]
      refine jV (pc := 36) F 0 0 (z1 hZ) cls9.1 (c_X6_printUpTo e (min (miss σ e.toNat) (σ 2)) hZ hP hS hI (by omega) (by omega) (fun h_4 => ?_) (fun n_5 V_6 h_7 h_8 p_9 f_10 x_11 => ?_)) rfl ⟨k_X6_printUpTo, il_RX6_98, im_X6_printUpTo, is_X6_printUpTo, ii_RX6⟩ 2 rfl hd_X6_printUpTo ⟨by decide, by decide, by decide, by decide, Nat.le_of_ble_eq_true rfl⟩ dX6_printOne_36
      · refine j1 ?_
        refine ia_istore_n (pc := 39) F (ls' := [(4, ((1 : Nat) : Int)), (0, e), (0, 0)]) dX6_printOne_39 (Nat.le_of_ble_eq_true rfl) rfl rfl ?_
        refine ia_iload_n (pc := 40) F dX6_printOne_40 rfl ?_
        refine ia_if_ne (pc := 41) F 49 dX6_printOne_41 rfl (by omega) (fun h9 => absurd h9 (by omega)) (fun _ => ?_)
        refine ia_bipush (pc := 44) F dX6_printOne_44 (by decide) ?_
        refine ia_goto (pc := 46) F 50 dX6_printOne_46 rfl ?_
        refine ia_ireturn (pc := 50) F M (by decide) (by decide) dX6_printOne_50 ?_
        first | exact q3 (by omega) (by omega) (by omega) | exact q4 _ (by omega) (by omega) (by omega) (by omega) hP (Fr_0 (V := V) (S := [1, 2, 3, 4, 5, 6, 7])) hS | (exfalso; omega)
      · refine j1 ?_
        refine ia_istore_n (pc := 39) F (ls' := [(4, ((1 : Nat) : Int)), (0, e), (0, n_5)]) dX6_printOne_39 (Nat.le_of_ble_eq_true rfl) rfl rfl ?_
        refine ia_iload_n (pc := 40) F dX6_printOne_40 rfl ?_
        refine ia_if_ne (pc := 41) F 49 dX6_printOne_41 rfl (by omega) (fun h_12 => ?_) (fun h_12 => ?_)
        · refine ia_iload_n (pc := 49) F dX6_printOne_49 rfl ?_
          refine ia_ireturn (pc := 50) F M (by decide) (by decide) dX6_printOne_50 ?_
          exact q4 _ _ (by omega) (by omega) (by omega) (by omega) p_9 (Fr_c (Fr_0 (V := V) (S := [1, 2, 3, 4, 5, 6, 7])) f_10 (by decide)) x_11
        · refine ia_bipush (pc := 44) F dX6_printOne_44 (by decide) ?_
          refine ia_goto (pc := 46) F 50 dX6_printOne_46 rfl ?_
          refine ia_ireturn (pc := 50) F M (by decide) (by decide) dX6_printOne_50 ?_
          first | exact q3 (by omega) (by omega) (by omega) | exact q4 _ (by omega) (by omega) (by omega) (by omega) p_9 (Fr_c (Fr_0 (V := V) (S := [1, 2, 3, 4, 5, 6, 7])) f_10 (by decide)) x_11 | (exfalso; omega)
    · refine ia_bipush (pc := 19) F dX6_printOne_19 (by decide) ?_
      refine ia_ireturn (pc := 21) F M (by decide) (by decide) dX6_printOne_21 ?_
      first | exact q2 (by omega) (by omega) | exact q4 _ (by omega) (by omega) (by omega) (by omega) hP (Fr_0 (V := V) (S := [1, 2, 3, 4, 5, 6, 7])) hS | (exfalso; omega)
  · refine j1 ?_
    refine ia_if_ne (pc := 5) F 11 dX6_printOne_5 rfl (by omega) (fun h9 => absurd h9 (by omega)) (fun _ => ?_)
    refine ia_bipush (pc := 8) F dX6_printOne_8 (by decide) ?_
    refine ia_ireturn (pc := 10) F M (by decide) (by decide) dX6_printOne_10 ?_
    first | exact q1 (by omega) | exact q4 _ (by omega) (by omega) (by omega) (by omega) hP (Fr_0 (V := V) (S := [1, 2, 3, 4, 5, 6, 7])) hS | (exfalso; omega)
set_option maxRecDepth 100000 in
theorem c_X6_rankOf {Z : ia_Z} {V : ia_H} {Q : ia_O → ia_Z → ia_H → Prop} {σ : Nat → Int} {m : Int} (e : Nat) (hZ : ZI Z) (hP : PI V) (hS : Sh 1 V σ) (hI : SI σ m)  (he : (e : Int) < σ 0) (q1 : Q (.inl (some (0, (ahd σ e (σ 0).toNat)))) Z V) : ia_K yX6_rankOf cX6_rankOf 5 (some .int) [(4, ((1 : Nat) : Int)), (0, (e : Int))] Z V 2 0 0 Q := by
  refine ia_start RX6 "rankOf" ⟨by decide, rfl, rfl⟩ (Nat.le_of_ble_eq_true rfl) (ia_tg rfl) (fun X F M => ?_)
  show ia_G X 0 0 0 [(4, ((1 : Nat) : Int)), (0, (e : Int)), (9, 0), (9, 0), (9, 0)] [] Z V
  obtain ⟨s0, s1, s2, s3, s4, s5, s6, s7, s18, sb, sw, se, sp⟩ := id hI
  refine ia_iconst (pc := 0) F dX6_rankOf_0 ?_
  refine ia_istore_n (pc := 1) F (ls' := [(4, ((1 : Nat) : Int)), (0, (e : Int)), (0, 0), (9, 0), (9, 0)]) dX6_rankOf_1 (Nat.le_of_ble_eq_true rfl) rfl rfl ?_
  refine ia_iconst (pc := 2) F dX6_rankOf_2 ?_
  refine ia_istore_n (pc := 3) F (ls' := [(4, ((1 : Nat) : Int)), (0, (e : Int)), (0, 0), (0, 0), (9, 0)]) dX6_rankOf_3 (Nat.le_of_ble_eq_true rfl) rfl rfl ?_
  have L4 : ∀ (fu : Nat) (o : Nat) (a : Int), (7 - o < fu) → ((o : Int) ≤ σ 0) → (a = ahd σ e o) → ia_G X 0 0 4 [(4, ((1 : Nat) : Int)), (0, (e : Int)), (0, a), (0, (o : Int)), (9, 0)] [] Z V := by
    intro fu
    induction fu with
    | zero => intro o a hm; exact absurd hm (Nat.not_lt_zero _)
    | succ fu ih =>
      intro o a hm ho ha
      have ih4 := ih
      refine ia_iload_n (pc := 4) F dX6_rankOf_4 rfl ?_
      refine ia_aload_n (pc := 5) F dX6_rankOf_5 rfl ?_
      refine jg (pc := 6) F (x := σ 0) (z1 hZ) cls9 f9_6 hS.f6 il_RX6_30 dX6_rankOf_6 ?_
      refine ia_icmp_ge (pc := 9) F 49 dX6_rankOf_9 rfl (by omega) (by omega) (fun h_1 => ?_) (fun h_1 => ?_)
      · refine ia_iload_n (pc := 49) F dX6_rankOf_49 rfl ?_
        refine ia_ireturn (pc := 50) F M (by decide) (by decide) dX6_rankOf_50 ?_
        rw [show (σ 0).toNat = o by omega, ← ha] at q1
        exact q1
      · have r9 := se e (by omega)
        have r8 := se o (by omega)
        have r7 : miss σ e = run σ e - prt σ e := rfl
        have r6 : miss σ o = run σ o - prt σ o := rfl
        refine ia_aload_n (pc := 12) F dX6_rankOf_12 rfl ?_
        refine ia_iload_n (pc := 13) F dX6_rankOf_13 rfl ?_
        refine jV (pc := 14) F 0 0 (z1 hZ) cls9.1 (c_X6_missing (o : Int) hZ hP hS hI (by omega) ?_) rfl ⟨k_X6_missing, il_RX6_94, im_X6_missing, is_X6_missing, ii_RX6⟩ 1 rfl hd_X6_missing ⟨by decide, by decide, by decide, by decide, Nat.le_of_ble_eq_true rfl⟩ dX6_rankOf_14
        change ia_ct X _ _ (14 + 3) _ _ _ (.inl (some (0, (miss σ o)))) _ _
        refine j1 ?_
        refine ia_aload_n (pc := 17) F dX6_rankOf_17 rfl ?_
        refine ia_iload_n (pc := 18) F dX6_rankOf_18 rfl ?_
        refine jV (pc := 19) F 0 0 (z1 hZ) cls9.1 (c_X6_missing (e : Int) hZ hP hS hI (by omega) ?_) rfl ⟨k_X6_missing, il_RX6_94, im_X6_missing, is_X6_missing, ii_RX6⟩ 1 rfl hd_X6_missing ⟨by decide, by decide, by decide, by decide, Nat.le_of_ble_eq_true rfl⟩ dX6_rankOf_19
        change ia_ct X _ _ (19 + 3) _ _ _ (.inl (some (0, (miss σ e)))) _ _
        refine j1 ?_
        refine ia_isub (pc := 22) F dX6_rankOf_22 ?_
        refine ia_istore (pc := 23) F (ls' := [(4, ((1 : Nat) : Int)), (0, (e : Int)), (0, a), (0, (o : Int)), (0, ((miss σ o) - (miss σ e)))]) dX6_rankOf_23 (Nat.le_of_ble_eq_true rfl) rfl rfl ?_
        refine ia_iload (pc := 25) F dX6_rankOf_25 rfl ?_
        refine ia_if_gt (pc := 27) F 40 dX6_rankOf_27 rfl (by omega) (fun h_2 => ?_) (fun h_2 => ?_)
        · refine ia_iinc (pc := 40) F (ls' := [(4, ((1 : Nat) : Int)), (0, (e : Int)), (0, (a + 1)), (0, (o : Int)), (0, ((miss σ o) - (miss σ e)))]) dX6_rankOf_40 rfl rfl rfl rfl ?_
          refine ia_iinc (pc := 43) F (ls' := [(4, ((1 : Nat) : Int)), (0, (e : Int)), (0, (a + 1)), (0, ((o + 1 : Nat) : Int)), (0, ((miss σ o) - (miss σ e)))]) dX6_rankOf_43 rfl rfl rfl rfl ?_
          refine ia_goto (pc := 46) F 4 dX6_rankOf_46 rfl ?_
          refine jw (ls' := [(4, ((1 : Nat) : Int)), (0, (e : Int)), (0, (a + 1)), (0, ((o + 1 : Nat) : Int)), (9, 0)]) [false, false, false, false, true] rfl ?_
          exact ih4 (o + 1) (a + 1) (by omega) (by omega) (by first | (rw [ahd_1 (σ := σ) (k := e) (o := o) (by omega)]; omega) | (rw [ahd_n (σ := σ) (k := e) (o := o) (by omega)]; omega))
        · refine ia_iload (pc := 30) F dX6_rankOf_30 rfl ?_
          refine ia_if_ne (pc := 32) F 43 dX6_rankOf_32 rfl (by omega) (fun h_3 => ?_) (fun h_3 => ?_)
          · refine ia_iinc (pc := 43) F (ls' := [(4, ((1 : Nat) : Int)), (0, (e : Int)), (0, a), (0, ((o + 1 : Nat) : Int)), (0, ((miss σ o) - (miss σ e)))]) dX6_rankOf_43 rfl rfl rfl rfl ?_
            refine ia_goto (pc := 46) F 4 dX6_rankOf_46 rfl ?_
            refine jw (ls' := [(4, ((1 : Nat) : Int)), (0, (e : Int)), (0, a), (0, ((o + 1 : Nat) : Int)), (9, 0)]) [false, false, false, false, true] rfl ?_
            exact ih4 (o + 1) a (by omega) (by omega) (by first | (rw [ahd_1 (σ := σ) (k := e) (o := o) (by omega)]; omega) | (rw [ahd_n (σ := σ) (k := e) (o := o) (by omega)]; omega))
          · refine ia_iload_n (pc := 35) F dX6_rankOf_35 rfl ?_
            refine ia_iload_n (pc := 36) F dX6_rankOf_36 rfl ?_
            refine ia_icmp_ge (pc := 37) F 43 dX6_rankOf_37 rfl (by omega) (by omega) (fun h_4 => ?_) (fun h_4 => ?_)
            · refine ia_iinc (pc := 43) F (ls' := [(4, ((1 : Nat) : Int)), (0, (e : Int)), (0, a), (0, ((o + 1 : Nat) : Int)), (0, ((miss σ o) - (miss σ e)))]) dX6_rankOf_43 rfl rfl rfl rfl ?_
              refine ia_goto (pc := 46) F 4 dX6_rankOf_46 rfl ?_
              refine jw (ls' := [(4, ((1 : Nat) : Int)), (0, (e : Int)), (0, a), (0, ((o + 1 : Nat) : Int)), (9, 0)]) [false, false, false, false, true] rfl ?_
              exact ih4 (o + 1) a (by omega) (by omega) (by first | (rw [ahd_1 (σ := σ) (k := e) (o := o) (by omega)]; omega) | (rw [ahd_n (σ := σ) (k := e) (o := o) (by omega)]; omega))
            · refine ia_iinc (pc := 40) F (ls' := [(4, ((1 : Nat) : Int)), (0, (e : Int)), (0, (a + 1)), (0, (o : Int)), (0, ((miss σ o) - (miss σ e)))]) dX6_rankOf_40 rfl rfl rfl rfl ?_
              refine ia_iinc (pc := 43) F (ls' := [(4, ((1 : Nat) : Int)), (0, (e : Int)), (0, (a + 1)), (0, ((o + 1 : Nat) : Int)), (0, ((miss σ o) - (miss σ e)))]) dX6_rankOf_43 rfl rfl rfl rfl ?_
              refine ia_goto (pc := 46) F 4 dX6_rankOf_46 rfl ?_
              refine jw (ls' := [(4, ((1 : Nat) : Int)), (0, (e : Int)), (0, (a + 1)), (0, ((o + 1 : Nat) : Int)), (9, 0)]) [false, false, false, false, true] rfl ?_
              exact ih4 (o + 1) (a + 1) (by omega) (by omega) (by first | (rw [ahd_1 (σ := σ) (k := e) (o := o) (by omega)]; omega) | (rw [ahd_n (σ := σ) (k := e) (o := o) (by omega)]; omega))
  exact L4 8 0 0 (by omega) (by omega) rfl
set_option maxRecDepth 100000 in
theorem c_X6_editionOfRank {Z : ia_Z} {V : ia_H} {Q : ia_O → ia_Z → ia_H → Prop} {σ : Nat → Int} {m : Int} (e : Int) (hZ : ZI Z) (hP : PI V) (hS : Sh 1 V σ) (hI : SI σ m)  (re : -2147483648 ≤ e ∧ e ≤ 2147483647) (q1 : ∀ (j : Nat), ((j : Int) < σ 0) → (∀ i, i < j → ¬ ahd σ i (σ 0).toNat = e) → (ahd σ j (σ 0).toNat = e) → Q (.inl (some (0, (j : Int)))) Z V) (q2 : (∀ i : Nat, (i : Int) < σ 0 → ¬ ahd σ i (σ 0).toNat = e) → Q (.inl (some (0, (-1)))) Z V) : ia_K yX6_editionOfRank cX6_editionOfRank 3 (some .int) [(4, ((1 : Nat) : Int)), (0, e)] Z V 3 0 0 Q := by
  refine ia_start RX6 "editionOfRank" ⟨by decide, rfl, rfl⟩ (Nat.le_of_ble_eq_true rfl) (ia_tg rfl) (fun X F M => ?_)
  show ia_G X 0 0 0 [(4, ((1 : Nat) : Int)), (0, e), (9, 0)] [] Z V
  obtain ⟨s0, s1, s2, s3, s4, s5, s6, s7, s18, sb, sw, se, sp⟩ := id hI
  refine ia_iconst (pc := 0) F dX6_editionOfRank_0 ?_
  refine ia_istore_n (pc := 1) F (ls' := [(4, ((1 : Nat) : Int)), (0, e), (0, 0)]) dX6_editionOfRank_1 (Nat.le_of_ble_eq_true rfl) rfl rfl ?_
  have L2 : ∀ (fu : Nat) (j : Nat), (7 - j < fu) → ((j : Int) ≤ σ 0) → (∀ i, i < j → ¬ ahd σ i (σ 0).toNat = e) → ia_G X 0 0 2 [(4, ((1 : Nat) : Int)), (0, e), (0, (j : Int))] [] Z V := by
    intro fu
    induction fu with
    | zero => intro j hm; exact absurd hm (Nat.not_lt_zero _)
    | succ fu ih =>
      intro j hm hj hl
      have ih2 := ih
      refine ia_iload_n (pc := 2) F dX6_editionOfRank_2 rfl ?_
      refine ia_aload_n (pc := 3) F dX6_editionOfRank_3 rfl ?_
      refine jg (pc := 4) F (x := σ 0) (z1 hZ) cls9 f9_6 hS.f6 il_RX6_30 dX6_editionOfRank_4 ?_
      refine ia_icmp_ge (pc := 7) F 27 dX6_editionOfRank_7 rfl (by omega) (by omega) (fun h_1 => ?_) (fun h_1 => ?_)
      · refine ia_iconst (pc := 27) F dX6_editionOfRank_27 ?_
        refine ia_ireturn (pc := 28) F M (by decide) (by decide) dX6_editionOfRank_28 ?_
        exact q2 (fun i hi => hl i (by omega))
      · have r9 := ahd_rng (σ := σ) (k := j) (σ 0).toNat
        refine ia_aload_n (pc := 10) F dX6_editionOfRank_10 rfl ?_
        refine ia_iload_n (pc := 11) F dX6_editionOfRank_11 rfl ?_
        refine jV (pc := 12) F 0 0 (z1 hZ) cls9.1 (c_X6_rankOf j hZ hP hS hI (by omega) ?_) rfl ⟨k_X6_rankOf, il_RX6_104, im_X6_rankOf, is_X6_rankOf, ii_RX6⟩ 1 rfl hd_X6_rankOf ⟨by decide, by decide, by decide, by decide, Nat.le_of_ble_eq_true rfl⟩ dX6_editionOfRank_12
        refine j1 ?_
        refine ia_iload_n (pc := 15) F dX6_editionOfRank_15 rfl ?_
        refine ia_icmp_ne (pc := 16) F 21 dX6_editionOfRank_16 rfl (by omega) (by omega) (fun h_2 => ?_) (fun h_2 => ?_)
        · refine ia_iinc (pc := 21) F (ls' := [(4, ((1 : Nat) : Int)), (0, e), (0, ((j + 1 : Nat) : Int))]) dX6_editionOfRank_21 rfl rfl rfl rfl ?_
          refine ia_goto (pc := 24) F 2 dX6_editionOfRank_24 rfl ?_
          exact ih2 (j + 1) (by omega) (by omega) (fun i hi => by rcases Nat.lt_or_ge i j with g | g; exact hl i g; rw [show i = j by omega]; omega)
        · refine ia_iload_n (pc := 19) F dX6_editionOfRank_19 rfl ?_
          refine ia_ireturn (pc := 20) F M (by decide) (by decide) dX6_editionOfRank_20 ?_
          exact q1 _ (by omega) hl (by omega)
  exact L2 8 0 (by omega) (by omega) (fun i hi => absurd hi (Nat.not_lt_zero _))
set_option maxRecDepth 100000 in
theorem c_X6_makeProof {Z : ia_Z} {V : ia_H} {Q : ia_O → ia_Z → ia_H → Prop} {σ : Nat → Int} {m : Int} (u : Int) (hZ : ZI Z) (hP : PI V) (hS : Sh 1 V σ) (hI : SI σ m)  (ru : -2147483648 ≤ u ∧ u ≤ 2147483647) (q1 : (¬ (0 ≤ u ∧ u ≤ 99)) → Q (.inl (some (0, (-1)))) Z V) (q2 : (0 ≤ u ∧ u ≤ 99) → (σ 1 = 12) → Q (.inl (some (0, (-2)))) Z V) (q3 : ∀ (V1 : ia_H), (0 ≤ u ∧ u ≤ 99) → (¬ σ 1 = 12) → PI V1 → (∀ pp, pp ∉ ([1, 2, 3, 4, 5, 6, 7] : List Nat) → V1 pp = V pp) → (Sh 1 V1 (s_prove σ u)) → Q (.inl (some (0, (σ 1)))) Z V1) : ia_K yX6_makeProof cX6_makeProof 3 (some .int) [(4, ((1 : Nat) : Int)), (0, u)] Z V 2 0 0 Q := by
  refine ia_start RX6 "makeProof" ⟨by decide, rfl, rfl⟩ (Nat.le_of_ble_eq_true rfl) (ia_tg rfl) (fun X F M => ?_)
  show ia_G X 0 0 0 [(4, ((1 : Nat) : Int)), (0, u), (9, 0)] [] Z V
  obtain ⟨s0, s1, s2, s3, s4, s5, s6, s7, s18, sb, sw, se, sp⟩ := id hI
  refine ia_iload_n (pc := 0) F dX6_makeProof_0 rfl ?_
  refine ia_iconst (pc := 1) F dX6_makeProof_1 ?_
  refine ia_bipush (pc := 2) F dX6_makeProof_2 (by decide) ?_
  refine jSN (pc := 4) F 0 0 (c_X7_isWithin u 0 99 (by omega) (by omega) (by omega) (fun h_1 => ?_) (fun h_2 => ?_)) rfl ⟨k_X7_isWithin, il_RX6_69, it_X7_isWithin, ii_RX7⟩ 3 rfl hd_X7_isWithin ⟨by decide, by decide, by decide, by decide, Nat.le_of_ble_eq_true rfl⟩ dX6_makeProof_4
  · refine j1 ?_
    refine ia_if_ne (pc := 7) F 12 dX6_makeProof_7 rfl (by omega) (fun _ => ?_) (fun h9 => absurd h9 (by omega))
    refine ia_aload_n (pc := 12) F dX6_makeProof_12 rfl ?_
    refine jg (pc := 13) F (x := σ 1) (z1 hZ) cls9 f9_7 hS.f7 il_RX6_34 dX6_makeProof_13 ?_
    refine ia_bipush (pc := 16) F dX6_makeProof_16 (by decide) ?_
    refine ia_icmp_lt (pc := 18) F 24 dX6_makeProof_18 rfl (by omega) (by omega) (fun h_3 => ?_) (fun h_3 => ?_)
    · refine ia_aload_n (pc := 24) F dX6_makeProof_24 rfl ?_
      refine jg (pc := 25) F (x := σ 1) (z1 hZ) cls9 f9_7 hS.f7 il_RX6_34 dX6_makeProof_25 ?_
      refine ia_istore_n (pc := 28) F (ls' := [(4, ((1 : Nat) : Int)), (0, u), (0, σ 1)]) dX6_makeProof_28 (Nat.le_of_ble_eq_true rfl) rfl rfl ?_
      refine ia_aload_n (pc := 29) F dX6_makeProof_29 rfl ?_
      refine jg (pc := 30) F (z1 hZ) cls9 f9_4 (hP 1 4 6 rfl) il_RX6_24 dX6_makeProof_30 ?_
      refine ia_iload_n (pc := 33) F dX6_makeProof_33 rfl ?_
      refine ia_iload_n (pc := 34) F dX6_makeProof_34 rfl ?_
      refine js (pc := 35) F (z6 hZ) ((σ 1).toNat) (by omega) (by omega) dX6_makeProof_35 ?_
      refine ia_aload_n (pc := 36) F dX6_makeProof_36 rfl ?_
      refine jg (pc := 37) F (z1 hZ) cls9 f9_5 ((PI_u hP rfl) 1 5 7 rfl) il_RX6_27 dX6_makeProof_37 ?_
      refine ia_iload_n (pc := 40) F dX6_makeProof_40 rfl ?_
      refine ia_aload_n (pc := 41) F dX6_makeProof_41 rfl ?_
      refine jg (pc := 42) F (x := σ 3) (z1 hZ) cls9 f9_9 ((Sh_m hS (by omega)).f9.trans (up_ne (by omega))) il_RX6_40 dX6_makeProof_42 ?_
      refine js (pc := 45) F (z7 hZ) ((σ 1).toNat) (by omega) (by omega) dX6_makeProof_45 ?_
      refine ia_aload_n (pc := 46) F dX6_makeProof_46 rfl ?_
      refine ia_dup (pc := 47) F dX6_makeProof_47 (Or.inr (Or.inr rfl)) ?_
      refine jg (pc := 48) F (x := σ 1) (z1 hZ) cls9 f9_7 (((Sh_h (Sh_m hS (by omega)) (by omega)).f7.trans (up_ne (by omega))).trans (up_ne (by omega))) il_RX6_34 dX6_makeProof_48 ?_
      refine ia_iconst (pc := 51) F dX6_makeProof_51 ?_
      refine ia_iadd (pc := 52) F dX6_makeProof_52 ?_
      refine jp (pc := 53) F (z1 hZ) cls9 f9_7 rfl (ia_nI rfl _) il_RX6_34 dX6_makeProof_53 ?_
      refine ia_iload_n (pc := 56) F dX6_makeProof_56 rfl ?_
      refine ia_ireturn (pc := 57) F M (by decide) (by decide) dX6_makeProof_57 ?_
      exact q3 _ (by omega) (by omega) (PI_u (PI_u (PI_u hP rfl) rfl) rfl) (Fr_u (Fr_u (Fr_u (Fr_0 (V := V) (S := [1, 2, 3, 4, 5, 6, 7])) (by decide)) (by decide)) (by decide)) (Sh_e7 (k := (σ 1).toNat) (Sh_h (Sh_m hS (by omega)) (by omega)) (by simp [up]; omega) (by simp [ia_u, up, mrk, mad]) ⟨by omega, by omega⟩)
    · refine ia_bipush (pc := 21) F dX6_makeProof_21 (by decide) ?_
      refine ia_ireturn (pc := 23) F M (by decide) (by decide) dX6_makeProof_23 ?_
      first | exact q2 (by omega) (by omega) | exact q3 _ (by omega) (by omega) hP (Fr_0 (V := V) (S := [1, 2, 3, 4, 5, 6, 7])) hS | (exfalso; omega)
  · refine j1 ?_
    refine ia_if_ne (pc := 7) F 12 dX6_makeProof_7 rfl (by omega) (fun h9 => absurd h9 (by omega)) (fun _ => ?_)
    refine ia_iconst (pc := 10) F dX6_makeProof_10 ?_
    refine ia_ireturn (pc := 11) F M (by decide) (by decide) dX6_makeProof_11 ?_
    first | exact q1 (by omega) | exact q3 _ (by omega) (by omega) hP (Fr_0 (V := V) (S := [1, 2, 3, 4, 5, 6, 7])) hS | (exfalso; omega)
set_option maxRecDepth 100000 in
theorem c_X6_discardProof {Z : ia_Z} {V : ia_H} {Q : ia_O → ia_Z → ia_H → Prop} {σ : Nat → Int} {m : Int} (e : Int) (hZ : ZI Z) (hP : PI V) (hS : Sh 1 V σ) (hI : SI σ m)  (re : -2147483648 ≤ e ∧ e ≤ 2147483647) (q1 : (¬ (0 ≤ e ∧ e < σ 1)) → Q (.inl (some (0, (-3)))) Z V) (q2 : ∀ (V1 : ia_H), (0 ≤ e ∧ e < σ 1) → PI V1 → (∀ pp, pp ∉ ([1, 6, 7] : List Nat) → V1 pp = V pp) → (Sh 1 V1 (s_drop σ e.toNat)) → Q (.inl (some (0, (σ 1 - 1)))) Z V1) : ia_K yX6_discardProof cX6_discardProof 2 (some .int) [(4, ((1 : Nat) : Int)), (0, e)] Z V 3 0 0 Q := by
  refine ia_start RX6 "discardProof" ⟨by decide, rfl, rfl⟩ (Nat.le_of_ble_eq_true rfl) (ia_tg rfl) (fun X F M => ?_)
  show ia_G X 0 0 0 [(4, ((1 : Nat) : Int)), (0, e)] [] Z V
  obtain ⟨s0, s1, s2, s3, s4, s5, s6, s7, s18, sb, sw, se, sp⟩ := id hI
  refine ia_aload_n (pc := 0) F dX6_discardProof_0 rfl ?_
  refine ia_iload_n (pc := 1) F dX6_discardProof_1 rfl ?_
  refine jV (pc := 2) F 0 0 (z1 hZ) cls9.1 (c_X6_hasProof e hZ hP hS hI (by omega) (fun h_1 => ?_) (fun h_2 => ?_)) rfl ⟨k_X6_hasProof, il_RX6_107, im_X6_hasProof, is_X6_hasProof, ii_RX6⟩ 1 rfl hd_X6_hasProof ⟨by decide, by decide, by decide, by decide, Nat.le_of_ble_eq_true rfl⟩ dX6_discardProof_2
  · refine j1 ?_
    refine ia_if_ne (pc := 5) F 11 dX6_discardProof_5 rfl (by omega) (fun _ => ?_) (fun h9 => absurd h9 (by omega))
    refine ia_aload_n (pc := 11) F dX6_discardProof_11 rfl ?_
    refine jg (pc := 12) F (z1 hZ) cls9 f9_4 (hP 1 4 6 rfl) il_RX6_24 dX6_discardProof_12 ?_
    refine ia_iload_n (pc := 15) F dX6_discardProof_15 rfl ?_
    refine ia_aload_n (pc := 16) F dX6_discardProof_16 rfl ?_
    refine jg (pc := 17) F (x := (σ 1)) (z1 hZ) cls9 f9_7 ((congrFun (rfl : V 1 = V 1) 7).trans hS.f7) il_RX6_34 dX6_discardProof_17 ?_
    rw [show e = ((e.toNat : Nat) : Int) from by omega]
    refine jS (pc := 20) F 0 0 (c_X6_closeGap 6 e.toNat 12 (σ 1) hZ hP (rfl : V 6 = V 6) (z6 hZ) (fun _ => rfl) ⟨by omega, by omega, by omega⟩ (fun V_3 p_4 w_5 f_6 => ?_)) rfl ⟨k_X6_closeGap, il_RX6_90, it_X6_closeGap, ii_RX6⟩ rfl 3 rfl hd_X6_closeGap ⟨by decide, by decide, by decide, by decide, Nat.le_of_ble_eq_true rfl⟩ dX6_discardProof_20
    refine j0 ?_
    refine ia_aload_n (pc := 23) F dX6_discardProof_23 rfl ?_
    refine jg (pc := 24) F (z1 hZ) cls9 f9_5 (p_4 1 5 7 rfl) il_RX6_27 dX6_discardProof_24 ?_
    refine ia_iload_n (pc := 27) F dX6_discardProof_27 rfl ?_
    refine ia_aload_n (pc := 28) F dX6_discardProof_28 rfl ?_
    refine jg (pc := 29) F (x := (σ 1)) (z1 hZ) cls9 f9_7 ((congrFun ((f_6 1 (by decide)).trans (rfl : V 1 = V 1)) 7).trans hS.f7) il_RX6_34 dX6_discardProof_29 ?_
    rw [show e = ((e.toNat : Nat) : Int) from by omega]
    refine jS (pc := 32) F 0 0 (c_X6_closeGap 7 e.toNat 12 (σ 1) hZ p_4 ((f_6 7 (by decide)).trans (rfl : V 7 = V 7)) (z7 hZ) (fun _ => rfl) ⟨by omega, by omega, by omega⟩ (fun V_7 p_8 w_9 f_10 => ?_)) rfl ⟨k_X6_closeGap, il_RX6_90, it_X6_closeGap, ii_RX6⟩ rfl 3 rfl hd_X6_closeGap ⟨by decide, by decide, by decide, by decide, Nat.le_of_ble_eq_true rfl⟩ dX6_discardProof_32
    refine j0 ?_
    refine ia_aload_n (pc := 35) F dX6_discardProof_35 rfl ?_
    refine ia_dup (pc := 36) F dX6_discardProof_36 (Or.inr (Or.inr rfl)) ?_
    refine jg (pc := 37) F (x := (σ 1)) (z1 hZ) cls9 f9_7 ((congrFun ((f_10 1 (by decide)).trans ((f_6 1 (by decide)).trans (rfl : V 1 = V 1))) 7).trans hS.f7) il_RX6_34 dX6_discardProof_37 ?_
    refine ia_iconst (pc := 40) F dX6_discardProof_40 ?_
    refine ia_isub (pc := 41) F dX6_discardProof_41 ?_
    refine jp (pc := 42) F (z1 hZ) cls9 f9_7 rfl (ia_nI rfl _) il_RX6_34 dX6_discardProof_42 ?_
    refine ia_aload_n (pc := 45) F dX6_discardProof_45 rfl ?_
    refine jg (pc := 46) F (x := ((σ 1) - 1)) (z1 hZ) cls9 f9_7 ((congrFun (rowU ((f_10 1 (by decide)).trans ((f_6 1 (by decide)).trans (rfl : V 1 = V 1)))) 7).trans (up_self _ _ _)) il_RX6_34 dX6_discardProof_46 ?_
    refine ia_ireturn (pc := 49) F M (by decide) (by decide) dX6_discardProof_49 ?_
    have hk : (σ 1 - 1).toNat = (σ 1).toNat - 1 := by omega
    exact q2 _ (by omega) (PI_u p_8 rfl) (Fr_u (Fr_c (Fr_c (Fr_0 (V := V) (S := [1, 6, 7])) f_6 (by decide)) f_10 (by decide)) (by decide)) (Sh_drop (n := (σ 1).toNat) hS (by omega) (by omega) (rowU ((f_10 1 (by decide)).trans ((f_6 1 (by decide)).trans (rfl : V 1 = V 1)))) (by rw [← hk]; exact ((rowN (by decide)).trans ((f_10 6 (by decide)).trans w_5))) (by rw [← hk]; exact ((rowN (by decide)).trans w_9)) (Fr_u (Fr_c (Fr_c (Fr_0 (V := V) (S := [1, 6, 7])) f_6 (by decide)) f_10 (by decide)) (by decide)))
  · refine j1 ?_
    refine ia_if_ne (pc := 5) F 11 dX6_discardProof_5 rfl (by omega) (fun h9 => absurd h9 (by omega)) (fun _ => ?_)
    refine ia_bipush (pc := 8) F dX6_discardProof_8 (by decide) ?_
    refine ia_ireturn (pc := 10) F M (by decide) (by decide) dX6_discardProof_10 ?_
    first | exact q1 (by omega) | exact q2 _ (by omega) hP (Fr_0 (V := V) (S := [1, 6, 7])) hS | (exfalso; omega)
