/-! the class: small methods, the shop (made by wip/whole/c1.py) -/
set_option maxRecDepth 100000 in
theorem c_X7_isWithin {Z : ia_Z} {V : ia_H} {Q : ia_O → ia_Z → ia_H → Prop} (v : Int) (lo : Int) (hi : Int)   (rv : -2147483648 ≤ v ∧ v ≤ 2147483647) (rlo : -2147483648 ≤ lo ∧ lo ≤ 2147483647) (rhi : -2147483648 ≤ hi ∧ hi ≤ 2147483647) (q1 : (lo ≤ v ∧ v ≤ hi) → Q (.inl (some (0, 1))) Z V) (q2 : (¬ (lo ≤ v ∧ v ≤ hi)) → Q (.inl (some (0, 0))) Z V) : ia_K yX7_isWithin cX7_isWithin 3 (some .boolean) [(0, v), (0, lo), (0, hi)] Z V 1 0 0 Q := by
  refine ia_start RX7 "isWithin" ⟨by decide, rfl, rfl⟩ (Nat.le_of_ble_eq_true rfl) (ia_tg rfl) (fun X F M => ?_)
  show ia_G X 0 0 0 [(0, v), (0, lo), (0, hi)] [] Z V
  refine ia_iload_n (pc := 0) F dX7_isWithin_0 rfl ?_
  refine ia_iload_n (pc := 1) F dX7_isWithin_1 rfl ?_
  refine ia_icmp_lt (pc := 2) F 14 dX7_isWithin_2 rfl (by omega) (by omega) (fun h_1 => ?_) (fun h_1 => ?_)
  · refine ia_iconst (pc := 14) F dX7_isWithin_14 ?_
    refine ia_zreturn (pc := 15) F M (Or.inl rfl) (by decide) (by decide) dX7_isWithin_15 ?_
    first | exact q2 (by omega) | (exfalso; omega)
  · refine ia_iload_n (pc := 5) F dX7_isWithin_5 rfl ?_
    refine ia_iload_n (pc := 6) F dX7_isWithin_6 rfl ?_
    refine ia_icmp_gt (pc := 7) F 14 dX7_isWithin_7 rfl (by omega) (by omega) (fun h_2 => ?_) (fun h_2 => ?_)
    · refine ia_iconst (pc := 14) F dX7_isWithin_14 ?_
      refine ia_zreturn (pc := 15) F M (Or.inl rfl) (by decide) (by decide) dX7_isWithin_15 ?_
      first | exact q2 (by omega) | (exfalso; omega)
    · refine ia_iconst (pc := 10) F dX7_isWithin_10 ?_
      refine ia_goto (pc := 11) F 15 dX7_isWithin_11 rfl ?_
      refine ia_zreturn (pc := 15) F M (Or.inr rfl) (by decide) (by decide) dX7_isWithin_15 ?_
      first | exact q1 (by omega) | (exfalso; omega)
set_option maxRecDepth 100000 in
theorem c_X7_isColour {Z : ia_Z} {V : ia_H} {Q : ia_O → ia_Z → ia_H → Prop} (c : Int)   (rc : -2147483648 ≤ c ∧ c ≤ 2147483647) (q1 : (0 ≤ c ∧ c ≤ 9) → Q (.inl (some (0, 1))) Z V) (q2 : (¬ (0 ≤ c ∧ c ≤ 9)) → Q (.inl (some (0, 0))) Z V) : ia_K yX7_isColour cX7_isColour 1 (some .boolean) [(0, c)] Z V 2 0 0 Q := by
  refine ia_start RX7 "isColour" ⟨by decide, rfl, rfl⟩ (Nat.le_of_ble_eq_true rfl) (ia_tg rfl) (fun X F M => ?_)
  show ia_G X 0 0 0 [(0, c)] [] Z V
  refine ia_iload_n (pc := 0) F dX7_isColour_0 rfl ?_
  refine ia_iconst (pc := 1) F dX7_isColour_1 ?_
  refine ia_bipush (pc := 2) F dX7_isColour_2 (by decide) ?_
  refine jS (pc := 4) F 0 0 (c_X7_isWithin c 0 9 (by omega) (by omega) (by omega) (fun h_1 => ?_) (fun h_2 => ?_)) rfl ⟨k_X7_isWithin, il_RX7_106, it_X7_isWithin, ii_RX7⟩ rfl 3 rfl hd_X7_isWithin ⟨by decide, by decide, by decide, by decide, Nat.le_of_ble_eq_true rfl⟩ dX7_isColour_4
  · refine j1 ?_
    refine ia_zreturn (pc := 7) F M (Or.inr rfl) (by decide) (by decide) dX7_isColour_7 ?_
    first | exact q1 (by omega) | (exfalso; omega)
  · refine j1 ?_
    refine ia_zreturn (pc := 7) F M (Or.inl rfl) (by decide) (by decide) dX7_isColour_7 ?_
    first | exact q2 (by omega) | (exfalso; omega)
set_option maxRecDepth 100000 in
theorem c_X7_washMinutes {Z : ia_Z} {V : ia_H} {Q : ia_O → ia_Z → ia_H → Prop} (a : Int) (b : Int)   (ra : 0 ≤ a ∧ a ≤ 9) (rb : 0 ≤ b ∧ b ≤ 9) (q1 : Q (.inl (some (0, (wash a b)))) Z V) : ia_K yX7_washMinutes cX7_washMinutes 2 (some .int) [(0, a), (0, b)] Z V 1 0 0 Q := by
  refine ia_start RX7 "washMinutes" ⟨by decide, rfl, rfl⟩ (Nat.le_of_ble_eq_true rfl) (ia_tg rfl) (fun X F M => ?_)
  show ia_G X 0 0 0 [(0, a), (0, b)] [] Z V
  refine ia_iload_n (pc := 0) F dX7_washMinutes_0 rfl ?_
  refine ia_iload_n (pc := 1) F dX7_washMinutes_1 rfl ?_
  refine ia_icmp_lt (pc := 2) F 11 dX7_washMinutes_2 rfl (by omega) (by omega) (fun h_1 => ?_) (fun h_1 => ?_)
  · refine ia_iconst (pc := 11) F dX7_washMinutes_11 ?_
    refine ia_iload_n (pc := 12) F dX7_washMinutes_12 rfl ?_
    refine ia_iload_n (pc := 13) F dX7_washMinutes_13 rfl ?_
    refine ia_isub (pc := 14) F dX7_washMinutes_14 ?_
    refine ia_imul (pc := 15) F dX7_washMinutes_15 ?_
    refine ia_iconst (pc := 16) F dX7_washMinutes_16 ?_
    refine ia_iadd (pc := 17) F dX7_washMinutes_17 ?_
    refine ia_ireturn (pc := 18) F M (by decide) (by decide) dX7_washMinutes_18 ?_
    rw [wash_gt (by omega)] at q1
    exact q1
  · refine ia_iload_n (pc := 5) F dX7_washMinutes_5 rfl ?_
    refine ia_iload_n (pc := 6) F dX7_washMinutes_6 rfl ?_
    refine ia_isub (pc := 7) F dX7_washMinutes_7 ?_
    refine ia_goto (pc := 8) F 18 dX7_washMinutes_8 rfl ?_
    refine ia_ireturn (pc := 18) F M (by decide) (by decide) dX7_washMinutes_18 ?_
    rw [wash_le (by omega)] at q1
    exact q1
set_option maxRecDepth 100000 in
theorem c_X7_sumOf {Z : ia_Z} {V : ia_H} {Q : ia_O → ia_Z → ia_H → Prop} {f : Nat → Int} (p n L1 : Nat) (hZ : ZI Z) (hP : PI V) (hp : V p = f) (zp : p < Z.2.2 ∧ Z.1 p = 0 ∧ Z.2.1 p = L1) (hl : n ≤ L1 ∧ L1 ≤ 1000) (q1 : Q (.inl (some (0, (psum f n)))) Z V) : ia_K yX7_sumOf cX7_sumOf 4 (some .int) [(4, ((p : Nat) : Int)), (0, (n : Int))] Z V 1 0 0 Q := by
  refine ia_start RX7 "sumOf" ⟨by decide, rfl, rfl⟩ (Nat.le_of_ble_eq_true rfl) (ia_tg rfl) (fun X F M => ?_)
  show ia_G X 0 0 0 [(4, ((p : Nat) : Int)), (0, (n : Int)), (9, 0), (9, 0)] [] Z V
  refine ia_iconst (pc := 0) F dX7_sumOf_0 ?_
  refine ia_istore_n (pc := 1) F (ls' := [(4, ((p : Nat) : Int)), (0, (n : Int)), (0, 0), (9, 0)]) dX7_sumOf_1 (Nat.le_of_ble_eq_true rfl) rfl rfl ?_
  refine ia_iconst (pc := 2) F dX7_sumOf_2 ?_
  refine ia_istore_n (pc := 3) F (ls' := [(4, ((p : Nat) : Int)), (0, (n : Int)), (0, 0), (0, 0)]) dX7_sumOf_3 (Nat.le_of_ble_eq_true rfl) rfl rfl ?_
  have L4 : ∀ (fu : Nat) (j : Nat), (n - j < fu) → (j ≤ n) → ia_G X 0 0 4 [(4, ((p : Nat) : Int)), (0, (n : Int)), (0, (psum f j)), (0, (j : Int))] [] Z V := by
    intro fu
    induction fu with
    | zero => intro j hm; exact absurd hm (Nat.not_lt_zero _)
    | succ fu ih =>
      intro j hm hj
      have ih4 := ih
      refine ia_iload_n (pc := 4) F dX7_sumOf_4 rfl ?_
      refine ia_iload_n (pc := 5) F dX7_sumOf_5 rfl ?_
      refine ia_icmp_ge (pc := 6) F 27 dX7_sumOf_6 rfl (by omega) (by omega) (fun h_1 => ?_) (fun h_1 => ?_)
      · refine ia_iload_n (pc := 27) F dX7_sumOf_27 rfl ?_
        refine ia_ireturn (pc := 28) F M (by decide) (by decide) dX7_sumOf_28 ?_
        rw [show n = j by omega] at q1
        exact q1
      · refine ia_iload_n (pc := 9) F dX7_sumOf_9 rfl ?_
        refine ia_aload_n (pc := 10) F dX7_sumOf_10 rfl ?_
        refine jlen (pc := 11) F zp (by decide) dX7_sumOf_11 ?_
        refine ia_icmp_ge (pc := 12) F 27 dX7_sumOf_12 rfl (by omega) (by omega) (fun h_2 => ?_) (fun h_2 => ?_)
        · refine ia_iload_n (pc := 27) F dX7_sumOf_27 rfl ?_
          refine ia_ireturn (pc := 28) F M (by decide) (by decide) dX7_sumOf_28 ?_
          rw [show n = j by omega] at q1
          exact q1
        · refine ia_iload_n (pc := 15) F dX7_sumOf_15 rfl ?_
          refine ia_aload_n (pc := 16) F dX7_sumOf_16 rfl ?_
          refine ia_iload_n (pc := 17) F dX7_sumOf_17 rfl ?_
          refine ja (pc := 18) F (v := f j) zp j rfl (by omega) (congrFun hp j) dX7_sumOf_18 ?_
          refine ia_iadd (pc := 19) F dX7_sumOf_19 ?_
          refine ia_istore_n (pc := 20) F (ls' := [(4, ((p : Nat) : Int)), (0, (n : Int)), (0, ((psum f j) + f j)), (0, (j : Int))]) dX7_sumOf_20 (Nat.le_of_ble_eq_true rfl) rfl rfl ?_
          refine ia_iinc (pc := 21) F (ls' := [(4, ((p : Nat) : Int)), (0, (n : Int)), (0, ((psum f j) + f j)), (0, ((j + 1 : Nat) : Int))]) dX7_sumOf_21 rfl rfl rfl rfl ?_
          refine ia_goto (pc := 24) F 4 dX7_sumOf_24 rfl ?_
          exact ih4 (j + 1) (by omega) (by omega)
  exact L4 (n + 1) 0 (by omega) (by omega)
set_option maxRecDepth 100000 in
theorem c_X6_hasEdition {Z : ia_Z} {V : ia_H} {Q : ia_O → ia_Z → ia_H → Prop} {σ : Nat → Int} {m : Int} (e : Int) (hZ : ZI Z) (hP : PI V) (hS : Sh 1 V σ) (hI : SI σ m)  (re : -2147483648 ≤ e ∧ e ≤ 2147483647) (q1 : (0 ≤ e ∧ e < σ 0) → Q (.inl (some (0, 1))) Z V) (q2 : (¬ (0 ≤ e ∧ e < σ 0)) → Q (.inl (some (0, 0))) Z V) : ia_K yX6_hasEdition cX6_hasEdition 2 (some .boolean) [(4, ((1 : Nat) : Int)), (0, e)] Z V 2 0 0 Q := by
  refine ia_start RX6 "hasEdition" ⟨by decide, rfl, rfl⟩ (Nat.le_of_ble_eq_true rfl) (ia_tg rfl) (fun X F M => ?_)
  show ia_G X 0 0 0 [(4, ((1 : Nat) : Int)), (0, e)] [] Z V
  obtain ⟨s0, s1, s2, s3, s4, s5, s6, s7, s18, sb, sw, se, sp⟩ := id hI
  refine ia_iload_n (pc := 0) F dX6_hasEdition_0 rfl ?_
  refine ia_iconst (pc := 1) F dX6_hasEdition_1 ?_
  refine ia_aload_n (pc := 2) F dX6_hasEdition_2 rfl ?_
  refine jg (pc := 3) F (x := σ 0) (z1 hZ) cls9 f9_6 hS.f6 il_RX6_30 dX6_hasEdition_3 ?_
  refine ia_iconst (pc := 6) F dX6_hasEdition_6 ?_
  refine ia_isub (pc := 7) F dX6_hasEdition_7 ?_
  refine jSN (pc := 8) F 0 0 (c_X7_isWithin e 0 (σ 0 - 1) (by omega) (by omega) (by omega) (fun h_1 => ?_) (fun h_2 => ?_)) rfl ⟨k_X7_isWithin, il_RX6_69, it_X7_isWithin, ii_RX7⟩ 3 rfl hd_X7_isWithin ⟨by decide, by decide, by decide, by decide, Nat.le_of_ble_eq_true rfl⟩ dX6_hasEdition_8
  · refine j1 ?_
    refine ia_zreturn (pc := 11) F M (Or.inr rfl) (by decide) (by decide) dX6_hasEdition_11 ?_
    first | exact q1 (by omega) | (exfalso; omega)
  · refine j1 ?_
    refine ia_zreturn (pc := 11) F M (Or.inl rfl) (by decide) (by decide) dX6_hasEdition_11 ?_
    first | exact q2 (by omega) | (exfalso; omega)
set_option maxRecDepth 100000 in
theorem c_X6_hasProof {Z : ia_Z} {V : ia_H} {Q : ia_O → ia_Z → ia_H → Prop} {σ : Nat → Int} {m : Int} (p : Int) (hZ : ZI Z) (hP : PI V) (hS : Sh 1 V σ) (hI : SI σ m)  (rp : -2147483648 ≤ p ∧ p ≤ 2147483647) (q1 : (0 ≤ p ∧ p < σ 1) → Q (.inl (some (0, 1))) Z V) (q2 : (¬ (0 ≤ p ∧ p < σ 1)) → Q (.inl (some (0, 0))) Z V) : ia_K yX6_hasProof cX6_hasProof 2 (some .boolean) [(4, ((1 : Nat) : Int)), (0, p)] Z V 2 0 0 Q := by
  refine ia_start RX6 "hasProof" ⟨by decide, rfl, rfl⟩ (Nat.le_of_ble_eq_true rfl) (ia_tg rfl) (fun X F M => ?_)
  show ia_G X 0 0 0 [(4, ((1 : Nat) : Int)), (0, p)] [] Z V
  obtain ⟨s0, s1, s2, s3, s4, s5, s6, s7, s18, sb, sw, se, sp⟩ := id hI
  refine ia_iload_n (pc := 0) F dX6_hasProof_0 rfl ?_
  refine ia_iconst (pc := 1) F dX6_hasProof_1 ?_
  refine ia_aload_n (pc := 2) F dX6_hasProof_2 rfl ?_
  refine jg (pc := 3) F (x := σ 1) (z1 hZ) cls9 f9_7 hS.f7 il_RX6_34 dX6_hasProof_3 ?_
  refine ia_iconst (pc := 6) F dX6_hasProof_6 ?_
  refine ia_isub (pc := 7) F dX6_hasProof_7 ?_
  refine jSN (pc := 8) F 0 0 (c_X7_isWithin p 0 (σ 1 - 1) (by omega) (by omega) (by omega) (fun h_1 => ?_) (fun h_2 => ?_)) rfl ⟨k_X7_isWithin, il_RX6_69, it_X7_isWithin, ii_RX7⟩ 3 rfl hd_X7_isWithin ⟨by decide, by decide, by decide, by decide, Nat.le_of_ble_eq_true rfl⟩ dX6_hasProof_8
  · refine j1 ?_
    refine ia_zreturn (pc := 11) F M (Or.inr rfl) (by decide) (by decide) dX6_hasProof_11 ?_
    first | exact q1 (by omega) | (exfalso; omega)
  · refine j1 ?_
    refine ia_zreturn (pc := 11) F M (Or.inl rfl) (by decide) (by decide) dX6_hasProof_11 ?_
    first | exact q2 (by omega) | (exfalso; omega)
set_option maxRecDepth 100000 in
theorem c_X6_missing {Z : ia_Z} {V : ia_H} {Q : ia_O → ia_Z → ia_H → Prop} {σ : Nat → Int} {m : Int} (e : Int) (hZ : ZI Z) (hP : PI V) (hS : Sh 1 V σ) (hI : SI σ m)  (he : 0 ≤ e ∧ e < σ 0) (q1 : Q (.inl (some (0, (miss σ e.toNat)))) Z V) : ia_K yX6_missing cX6_missing 2 (some .int) [(4, ((1 : Nat) : Int)), (0, e)] Z V 1 0 0 Q := by
  refine ia_start RX6 "missing" ⟨by decide, rfl, rfl⟩ (Nat.le_of_ble_eq_true rfl) (ia_tg rfl) (fun X F M => ?_)
  show ia_G X 0 0 0 [(4, ((1 : Nat) : Int)), (0, e)] [] Z V
  obtain ⟨s0, s1, s2, s3, s4, s5, s6, s7, s18, sb, sw, se, sp⟩ := id hI
  refine ia_aload_n (pc := 0) F dX6_missing_0 rfl ?_
  refine jg (pc := 1) F (z1 hZ) cls9 f9_2 (hP 1 2 4 rfl) il_RX6_18 dX6_missing_1 ?_
  refine ia_iload_n (pc := 4) F dX6_missing_4 rfl ?_
  have r_1 := se e.toNat (by omega)
  refine ja (pc := 5) F (v := run σ e.toNat) (z4 hZ) e.toNat (by omega) (by omega) (hS.run e.toNat (by omega)) dX6_missing_5 ?_
  refine ia_aload_n (pc := 6) F dX6_missing_6 rfl ?_
  refine jg (pc := 7) F (z1 hZ) cls9 f9_3 (hP 1 3 5 rfl) il_RX6_21 dX6_missing_7 ?_
  refine ia_iload_n (pc := 10) F dX6_missing_10 rfl ?_
  have r_2 := se e.toNat (by omega)
  refine ja (pc := 11) F (v := prt σ e.toNat) (z5 hZ) e.toNat (by omega) (by omega) (hS.prt e.toNat (by omega)) dX6_missing_11 ?_
  refine ia_isub (pc := 12) F dX6_missing_12 ?_
  refine ia_ireturn (pc := 13) F M (by decide) (by decide) dX6_missing_13 ?_
  exact q1 
set_option maxRecDepth 100000 in
theorem c_X6_pour {Z : ia_Z} {V : ia_H} {Q : ia_O → ia_Z → ia_H → Prop} {σ : Nat → Int} {m : Int} (c : Int) (u : Int) (hZ : ZI Z) (hP : PI V) (hS : Sh 1 V σ) (hI : SI σ m)  (rc : -2147483648 ≤ c ∧ c ≤ 2147483647) (ru : -2147483648 ≤ u ∧ u ≤ 2147483647) (q1 : (¬ ((0 ≤ c ∧ c ≤ 9) ∧ 1 ≤ u ∧ u ≤ 999)) → Q (.inl (some (0, (-1)))) Z V) (q2 : ((0 ≤ c ∧ c ≤ 9) ∧ 1 ≤ u ∧ u ≤ 999) → (999 < wel σ c.toNat + u) → Q (.inl (some (0, (-2)))) Z V) (q3 : ∀ (V1 : ia_H), ((0 ≤ c ∧ c ≤ 9) ∧ 1 ≤ u ∧ u ≤ 999) → (wel σ c.toNat + u ≤ 999) → PI V1 → (∀ pp, pp ∉ ([1, 2, 3, 4, 5, 6, 7] : List Nat) → V1 pp = V pp) → (Sh 1 V1 (s_pour σ c.toNat u)) → Q (.inl (some (0, (wel σ c.toNat + u)))) Z V1) : ia_K yX6_pour cX6_pour 3 (some .int) [(4, ((1 : Nat) : Int)), (0, c), (0, u)] Z V 3 0 0 Q := by
  refine ia_start RX6 "pour" ⟨by decide, rfl, rfl⟩ (Nat.le_of_ble_eq_true rfl) (ia_tg rfl) (fun X F M => ?_)
  show ia_G X 0 0 0 [(4, ((1 : Nat) : Int)), (0, c), (0, u)] [] Z V
  obtain ⟨s0, s1, s2, s3, s4, s5, s6, s7, s18, sb, sw, se, sp⟩ := id hI
  refine ia_iload_n (pc := 0) F dX6_pour_0 rfl ?_
  refine jSN (pc := 1) F 0 0 (c_X7_isColour c (by omega) (fun h_1 => ?_) (fun h_2 => ?_)) rfl ⟨k_X7_isColour, il_RX6_65, it_X7_isColour, ii_RX7⟩ 1 rfl hd_X7_isColour ⟨by decide, by decide, by decide, by decide, Nat.le_of_ble_eq_true rfl⟩ dX6_pour_1
  · refine j1 ?_
    refine ia_if_eq (pc := 4) F 18 dX6_pour_4 rfl (by omega) (fun h9 => absurd h9 (by omega)) (fun _ => ?_)
    refine ia_iload_n (pc := 7) F dX6_pour_7 rfl ?_
    refine ia_iconst (pc := 8) F dX6_pour_8 ?_
    refine ia_sipush (pc := 9) F dX6_pour_9 (by decide) ?_
    refine jSN (pc := 12) F 0 0 (c_X7_isWithin u 1 999 (by omega) (by omega) (by omega) (fun h_3 => ?_) (fun h_4 => ?_)) rfl ⟨k_X7_isWithin, il_RX6_69, it_X7_isWithin, ii_RX7⟩ 3 rfl hd_X7_isWithin ⟨by decide, by decide, by decide, by decide, Nat.le_of_ble_eq_true rfl⟩ dX6_pour_12
    · refine j1 ?_
      refine ia_if_ne (pc := 15) F 20 dX6_pour_15 rfl (by omega) (fun _ => ?_) (fun h9 => absurd h9 (by omega))
      refine ia_aload_n (pc := 20) F dX6_pour_20 rfl ?_
      refine jg (pc := 21) F (z1 hZ) cls9 f9_0 (hP 1 0 2 rfl) il_RX6_9 dX6_pour_21 ?_
      refine ia_iload_n (pc := 24) F dX6_pour_24 rfl ?_
      have r_5 := sw c.toNat (by omega)
      refine ja (pc := 25) F (v := wel σ c.toNat) (z2 hZ) c.toNat (by omega) (by omega) (hS.wel c.toNat (by omega)) dX6_pour_25 ?_
      refine ia_iload_n (pc := 26) F dX6_pour_26 rfl ?_
      refine ia_iadd (pc := 27) F dX6_pour_27 ?_
      refine ia_sipush (pc := 28) F dX6_pour_28 (by decide) ?_
      refine ia_icmp_le (pc := 31) F 37 dX6_pour_31 rfl (by omega) (by omega) (fun h_6 => ?_) (fun h_6 => ?_)
      · refine ia_aload_n (pc := 37) F dX6_pour_37 rfl ?_
        refine jg (pc := 38) F (z1 hZ) cls9 f9_0 (hP 1 0 2 rfl) il_RX6_9 dX6_pour_38 ?_
        refine ia_iload_n (pc := 41) F dX6_pour_41 rfl ?_
        refine ia_dup2 (pc := 42) F dX6_pour_42 (Or.inl rfl) (Or.inr (Or.inr rfl)) ?_
        refine ja (pc := 43) F (v := wel σ c.toNat) (z2 hZ) c.toNat (by omega) (by omega) (hS.wel c.toNat (by omega)) dX6_pour_43 ?_
        refine ia_iload_n (pc := 44) F dX6_pour_44 rfl ?_
        refine ia_iadd (pc := 45) F dX6_pour_45 ?_
        refine js (pc := 46) F (z2 hZ) c.toNat (by omega) (by omega) dX6_pour_46 ?_
        refine ia_aload_n (pc := 47) F dX6_pour_47 rfl ?_
        refine ia_dup (pc := 48) F dX6_pour_48 (Or.inr (Or.inr rfl)) ?_
        refine jg (pc := 49) F (x := σ 6) (z1 hZ) cls9 f9_12 ((Sh_w hS (by omega)).f12.trans (up_ne (by omega))) il_RX6_49 dX6_pour_49 ?_
        refine ia_iload_n (pc := 52) F dX6_pour_52 rfl ?_
        refine ia_iadd (pc := 53) F dX6_pour_53 ?_
        refine jp (pc := 54) F (z1 hZ) cls9 f9_12 rfl (ia_nI rfl _) il_RX6_49 dX6_pour_54 ?_
        refine ia_aload_n (pc := 57) F dX6_pour_57 rfl ?_
        refine jg (pc := 58) F (z1 hZ) cls9 f9_0 ((PI_u (PI_u hP rfl) rfl) 1 0 2 rfl) il_RX6_9 dX6_pour_58 ?_
        refine ia_iload_n (pc := 61) F dX6_pour_61 rfl ?_
        refine ja (pc := 62) F (v := (wel σ c.toNat + u)) (z2 hZ) c.toNat (by omega) (by omega) ((((Sh_s12 (Sh_w hS (by omega))).wel c.toNat (by omega)).trans (up_ne (by omega))).trans (up_self _ _ _)) dX6_pour_62 ?_
        refine ia_ireturn (pc := 63) F M (by decide) (by decide) dX6_pour_63 ?_
        first | exact q1 (by omega) | exact q2 (by omega) (by omega) | exact q3 _ (by omega) (by omega) (PI_u (PI_u hP rfl) rfl) (Fr_u (Fr_u (Fr_0 (V := V) (S := [1, 2, 3, 4, 5, 6, 7])) (by decide)) (by decide)) (Sh_s12 (Sh_w hS (by omega))) | (exfalso; omega)
      · refine ia_bipush (pc := 34) F dX6_pour_34 (by decide) ?_
        refine ia_ireturn (pc := 36) F M (by decide) (by decide) dX6_pour_36 ?_
        first | exact q2 (by omega) (by omega) | exact q3 _ (by omega) (by omega) hP (Fr_0 (V := V) (S := [1, 2, 3, 4, 5, 6, 7])) hS | (exfalso; omega)
    · refine j1 ?_
      refine ia_if_ne (pc := 15) F 20 dX6_pour_15 rfl (by omega) (fun h9 => absurd h9 (by omega)) (fun _ => ?_)
      refine ia_iconst (pc := 18) F dX6_pour_18 ?_
      refine ia_ireturn (pc := 19) F M (by decide) (by decide) dX6_pour_19 ?_
      first | exact q1 (by omega) | exact q3 _ (by omega) (by omega) hP (Fr_0 (V := V) (S := [1, 2, 3, 4, 5, 6, 7])) hS | (exfalso; omega)
  · refine j1 ?_
    refine ia_if_eq (pc := 4) F 18 dX6_pour_4 rfl (by omega) (fun _ => ?_) (fun h9 => absurd h9 (by omega))
    refine ia_iconst (pc := 18) F dX6_pour_18 ?_
    refine ia_ireturn (pc := 19) F M (by decide) (by decide) dX6_pour_19 ?_
    first | exact q1 (by omega) | exact q3 _ (by omega) (by omega) hP (Fr_0 (V := V) (S := [1, 2, 3, 4, 5, 6, 7])) hS | (exfalso; omega)
set_option maxRecDepth 100000 in
theorem c_X6_buy {Z : ia_Z} {V : ia_H} {Q : ia_O → ia_Z → ia_H → Prop} {σ : Nat → Int} {m : Int} (u : Int) (hZ : ZI Z) (hP : PI V) (hS : Sh 1 V σ) (hI : SI σ m)  (ru : -2147483648 ≤ u ∧ u ≤ 2147483647) (q1 : (¬ (1 ≤ u ∧ u ≤ 999)) → Q (.inl (some (0, (-1)))) Z V) (q2 : (1 ≤ u ∧ u ≤ 999) → (9999 < σ 2 + u) → Q (.inl (some (0, (-2)))) Z V) (q3 : ∀ (V1 : ia_H), (1 ≤ u ∧ u ≤ 999) → (σ 2 + u ≤ 9999) → PI V1 → (∀ pp, pp ∉ ([1, 2, 3, 4, 5, 6, 7] : List Nat) → V1 pp = V pp) → (Sh 1 V1 (s_buy σ u)) → Q (.inl (some (0, (σ 2 + u)))) Z V1) : ia_K yX6_buy cX6_buy 2 (some .int) [(4, ((1 : Nat) : Int)), (0, u)] Z V 2 0 0 Q := by
  refine ia_start RX6 "buy" ⟨by decide, rfl, rfl⟩ (Nat.le_of_ble_eq_true rfl) (ia_tg rfl) (fun X F M => ?_)
  show ia_G X 0 0 0 [(4, ((1 : Nat) : Int)), (0, u)] [] Z V
  obtain ⟨s0, s1, s2, s3, s4, s5, s6, s7, s18, sb, sw, se, sp⟩ := id hI
  refine ia_iload_n (pc := 0) F dX6_buy_0 rfl ?_
  refine ia_iconst (pc := 1) F dX6_buy_1 ?_
  refine ia_sipush (pc := 2) F dX6_buy_2 (by decide) ?_
  refine jSN (pc := 5) F 0 0 (c_X7_isWithin u 1 999 (by omega) (by omega) (by omega) (fun h_1 => ?_) (fun h_2 => ?_)) rfl ⟨k_X7_isWithin, il_RX6_69, it_X7_isWithin, ii_RX7⟩ 3 rfl hd_X7_isWithin ⟨by decide, by decide, by decide, by decide, Nat.le_of_ble_eq_true rfl⟩ dX6_buy_5
  · refine j1 ?_
    refine ia_if_ne (pc := 8) F 13 dX6_buy_8 rfl (by omega) (fun _ => ?_) (fun h9 => absurd h9 (by omega))
    refine ia_aload_n (pc := 13) F dX6_buy_13 rfl ?_
    refine jg (pc := 14) F (x := σ 2) (z1 hZ) cls9 f9_8 hS.f8 il_RX6_37 dX6_buy_14 ?_
    refine ia_iload_n (pc := 17) F dX6_buy_17 rfl ?_
    refine ia_iadd (pc := 18) F dX6_buy_18 ?_
    refine ia_sipush (pc := 19) F dX6_buy_19 (by decide) ?_
    refine ia_icmp_le (pc := 22) F 28 dX6_buy_22 rfl (by omega) (by omega) (fun h_3 => ?_) (fun h_3 => ?_)
    · refine ia_aload_n (pc := 28) F dX6_buy_28 rfl ?_
      refine ia_dup (pc := 29) F dX6_buy_29 (Or.inr (Or.inr rfl)) ?_
      refine jg (pc := 30) F (x := σ 2) (z1 hZ) cls9 f9_8 hS.f8 il_RX6_37 dX6_buy_30 ?_
      refine ia_iload_n (pc := 33) F dX6_buy_33 rfl ?_
      refine ia_iadd (pc := 34) F dX6_buy_34 ?_
      refine jp (pc := 35) F (z1 hZ) cls9 f9_8 rfl (ia_nI rfl _) il_RX6_37 dX6_buy_35 ?_
      refine ia_aload_n (pc := 38) F dX6_buy_38 rfl ?_
      refine jg (pc := 39) F (x := (σ 2 + u)) (z1 hZ) cls9 f9_8 ((Sh_s8 hS).f8.trans (up_self _ _ _)) il_RX6_37 dX6_buy_39 ?_
      refine ia_ireturn (pc := 42) F M (by decide) (by decide) dX6_buy_42 ?_
      first | exact q1 (by omega) | exact q2 (by omega) (by omega) | exact q3 _ (by omega) (by omega) (PI_u hP rfl) (Fr_u (Fr_0 (V := V) (S := [1, 2, 3, 4, 5, 6, 7])) (by decide)) (Sh_s8 hS) | (exfalso; omega)
    · refine ia_bipush (pc := 25) F dX6_buy_25 (by decide) ?_
      refine ia_ireturn (pc := 27) F M (by decide) (by decide) dX6_buy_27 ?_
      first | exact q2 (by omega) (by omega) | exact q3 _ (by omega) (by omega) hP (Fr_0 (V := V) (S := [1, 2, 3, 4, 5, 6, 7])) hS | (exfalso; omega)
  · refine j1 ?_
    refine ia_if_ne (pc := 8) F 13 dX6_buy_8 rfl (by omega) (fun h9 => absurd h9 (by omega)) (fun _ => ?_)
    refine ia_iconst (pc := 11) F dX6_buy_11 ?_
    refine ia_ireturn (pc := 12) F M (by decide) (by decide) dX6_buy_12 ?_
    first | exact q1 (by omega) | exact q3 _ (by omega) (by omega) hP (Fr_0 (V := V) (S := [1, 2, 3, 4, 5, 6, 7])) hS | (exfalso; omega)
set_option maxRecDepth 100000 in
theorem c_X6_inkInHour {Z : ia_Z} {V : ia_H} {Q : ia_O → ia_Z → ia_H → Prop} (u : Int) (c : Int) (h : Int)   (hu : 0 ≤ u ∧ u ≤ 999) (hc : 0 ≤ c ∧ c ≤ 9) (hh : 0 ≤ h ∧ h ≤ 2000000) (q1 : (h % (c + 1) = 0) → Q (.inl (some (0, (u / 2)))) Z V) (q2 : (¬ h % (c + 1) = 0) → Q (.inl (some (0, u))) Z V) : ia_K yX6_inkInHour cX6_inkInHour 3 (some .int) [(0, u), (0, c), (0, h)] Z V 1 0 0 Q := by
  refine ia_start RX6 "inkInHour" ⟨by decide, rfl, rfl⟩ (Nat.le_of_ble_eq_true rfl) (ia_tg rfl) (fun X F M => ?_)
  show ia_G X 0 0 0 [(0, u), (0, c), (0, h)] [] Z V
  have e5 := Int.emod_nonneg h (show c + 1 ≠ 0 by omega)
  have e6 := Int.emod_lt_of_pos h (show 0 < c + 1 by omega)
  refine ia_iload_n (pc := 0) F dX6_inkInHour_0 rfl ?_
  refine ia_iload_n (pc := 1) F dX6_inkInHour_1 rfl ?_
  refine ia_iconst (pc := 2) F dX6_inkInHour_2 ?_
  refine ia_iadd (pc := 3) F dX6_inkInHour_3 ?_
  refine ia_irem (pc := 4) F dX6_inkInHour_4 (by omega) (by omega) ?_
  refine ia_if_ne (pc := 5) F 14 dX6_inkInHour_5 rfl (by omega) (fun h_1 => ?_) (fun h_1 => ?_)
  · refine ia_iload_n (pc := 14) F dX6_inkInHour_14 rfl ?_
    refine ia_ireturn (pc := 15) F M (by decide) (by decide) dX6_inkInHour_15 ?_
    first | exact q1 (by omega) | exact q2 (by omega) | (exfalso; omega)
  · refine ia_iload_n (pc := 8) F dX6_inkInHour_8 rfl ?_
    refine ia_iconst (pc := 9) F dX6_inkInHour_9 ?_
    refine ia_idiv (pc := 10) F dX6_inkInHour_10 (by omega) (by omega) ?_
    refine ia_goto (pc := 11) F 15 dX6_inkInHour_11 rfl ?_
    refine ia_ireturn (pc := 15) F M (by decide) (by decide) dX6_inkInHour_15 ?_
    first | exact q1 (by omega) | exact q2 (by omega) | (exfalso; omega)
set_option maxRecDepth 100000 in
theorem c_X6_fadeInThisHour {Z : ia_Z} {V : ia_H} {Q : ia_O → ia_Z → ia_H → Prop} {σ : Nat → Int} (τ : Nat → Int) (hZ : ZI Z) (hP : PI V) (hS : Sh 1 V σ)  (hτ : σ = fdc τ 0) (ht : ∀ c, c < 10 → 0 ≤ wel τ c ∧ wel τ c ≤ 999) (h3 : 0 ≤ τ 3 ∧ τ 3 ≤ 1500000) (h01 : τ 0 ≤ 7 ∧ τ 1 ≤ 12) (q1 : ∀ (V1 : ia_H), PI V1 → (∀ pp, pp ∉ ([1, 2] : List Nat) → V1 pp = V pp) → (Sh 1 V1 (fd τ)) → Q (.inl (some (0, (lost τ 10)))) Z V1) : ia_K yX6_fadeInThisHour cX6_fadeInThisHour 4 (some .int) [(4, ((1 : Nat) : Int))] Z V 2 0 0 Q := by
  refine ia_start RX6 "fadeInThisHour" ⟨by decide, rfl, rfl⟩ (Nat.le_of_ble_eq_true rfl) (ia_tg rfl) (fun X F M => ?_)
  show ia_G X 0 0 0 [(4, ((1 : Nat) : Int)), (9, 0), (9, 0), (9, 0)] [] Z V
  subst hτ
  refine ia_iconst (pc := 0) F dX6_fadeInThisHour_0 ?_
  refine ia_istore_n (pc := 1) F (ls' := [(4, ((1 : Nat) : Int)), (0, 0), (9, 0), (9, 0)]) dX6_fadeInThisHour_1 (Nat.le_of_ble_eq_true rfl) rfl rfl ?_
  refine ia_iconst (pc := 2) F dX6_fadeInThisHour_2 ?_
  refine ia_istore_n (pc := 3) F (ls' := [(4, ((1 : Nat) : Int)), (0, 0), (0, 0), (9, 0)]) dX6_fadeInThisHour_3 (Nat.le_of_ble_eq_true rfl) rfl rfl ?_
  have L4 : ∀ (fu : Nat) (c : Nat) (a : Int) (V2 : ia_H), (10 - c < fu) → (c ≤ 10) → (a = lost τ c) → (PI V2) → (∀ pp, pp ∉ ([1, 2] : List Nat) → V2 pp = V pp) → (Sh 1 V2 (fdc τ c)) → ia_G X 0 0 4 [(4, ((1 : Nat) : Int)), (0, a), (0, (c : Int)), (9, 0)] [] Z V2 := by
    intro fu
    induction fu with
    | zero => intro c a V2 hm; exact absurd hm (Nat.not_lt_zero _)
    | succ fu ih =>
      intro c a V2 hm hc ha hP2 hF2 hS2
      have ih4 := ih
      refine ia_iload_n (pc := 4) F dX6_fadeInThisHour_4 rfl ?_
      refine ia_bipush (pc := 5) F dX6_fadeInThisHour_5 (by decide) ?_
      refine ia_icmp_ge (pc := 7) F 49 dX6_fadeInThisHour_7 rfl (by omega) (by omega) (fun h_1 => ?_) (fun h_1 => ?_)
      · refine ia_iload_n (pc := 49) F dX6_fadeInThisHour_49 rfl ?_
        refine ia_ireturn (pc := 50) F M (by decide) (by decide) dX6_fadeInThisHour_50 ?_
        have e10 : c = 10 := by omega
        subst e10
        subst ha
        exact q1 _ hP2 hF2 hS2
      · have r9 := ht c (by omega)
        have r8 : fdc τ c 0 = τ 0 := (by unfold fdc; rw [if_neg (by omega), if_neg (by omega)])
        have r7 : fdc τ c 1 = τ 1 := (by unfold fdc; rw [if_neg (by omega), if_neg (by omega)])
        refine ia_aload_n (pc := 10) F dX6_fadeInThisHour_10 rfl ?_
        refine jg (pc := 11) F (z1 hZ) cls9 f9_0 (hP2 1 0 2 rfl) il_RX6_9 dX6_fadeInThisHour_11 ?_
        refine ia_iload_n (pc := 14) F dX6_fadeInThisHour_14 rfl ?_
        refine ja (pc := 15) F (v := wel τ c) (z2 hZ) c rfl (by omega) ((hS2.wel c (by omega)).trans (fdc_w (Nat.le_refl _))) dX6_fadeInThisHour_15 ?_
        refine ia_iload_n (pc := 16) F dX6_fadeInThisHour_16 rfl ?_
        refine ia_aload_n (pc := 17) F dX6_fadeInThisHour_17 rfl ?_
        refine jg (pc := 18) F (x := (τ 3 + 1)) (z1 hZ) cls9 f9_9 (hS2.f9.trans fdc_3) il_RX6_40 dX6_fadeInThisHour_18 ?_
        refine jS (pc := 21) F 0 0 (c_X6_inkInHour (wel τ c) (c : Int) (τ 3 + 1) (by omega) (by omega) (by omega) (fun h_2 => ?_) (fun h_3 => ?_)) rfl ⟨k_X6_inkInHour, il_RX6_77, it_X6_inkInHour, ii_RX6⟩ rfl 3 rfl hd_X6_inkInHour ⟨by decide, by decide, by decide, by decide, Nat.le_of_ble_eq_true rfl⟩ dX6_fadeInThisHour_21
        · refine j1 ?_
          refine ia_istore_n (pc := 24) F (ls' := [(4, ((1 : Nat) : Int)), (0, a), (0, (c : Int)), (0, ((wel τ c) / 2))]) dX6_fadeInThisHour_24 (Nat.le_of_ble_eq_true rfl) rfl rfl ?_
          refine ia_iload_n (pc := 25) F dX6_fadeInThisHour_25 rfl ?_
          refine ia_aload_n (pc := 26) F dX6_fadeInThisHour_26 rfl ?_
          refine jg (pc := 27) F (z1 hZ) cls9 f9_0 (hP2 1 0 2 rfl) il_RX6_9 dX6_fadeInThisHour_27 ?_
          refine ia_iload_n (pc := 30) F dX6_fadeInThisHour_30 rfl ?_
          refine ja (pc := 31) F (v := wel τ c) (z2 hZ) c rfl (by omega) ((hS2.wel c (by omega)).trans (fdc_w (Nat.le_refl _))) dX6_fadeInThisHour_31 ?_
          refine ia_iload_n (pc := 32) F dX6_fadeInThisHour_32 rfl ?_
          refine ia_isub (pc := 33) F dX6_fadeInThisHour_33 ?_
          refine ia_iadd (pc := 34) F dX6_fadeInThisHour_34 ?_
          refine ia_istore_n (pc := 35) F (ls' := [(4, ((1 : Nat) : Int)), (0, (a + (wel τ c - ((wel τ c) / 2)))), (0, (c : Int)), (0, ((wel τ c) / 2))]) dX6_fadeInThisHour_35 (Nat.le_of_ble_eq_true rfl) rfl rfl ?_
          refine ia_aload_n (pc := 36) F dX6_fadeInThisHour_36 rfl ?_
          refine jg (pc := 37) F (z1 hZ) cls9 f9_0 (hP2 1 0 2 rfl) il_RX6_9 dX6_fadeInThisHour_37 ?_
          refine ia_iload_n (pc := 40) F dX6_fadeInThisHour_40 rfl ?_
          refine ia_iload_n (pc := 41) F dX6_fadeInThisHour_41 rfl ?_
          refine js (pc := 42) F (z2 hZ) c rfl (by omega) dX6_fadeInThisHour_42 ?_
          refine ia_iinc (pc := 43) F (ls' := [(4, ((1 : Nat) : Int)), (0, (a + (wel τ c - ((wel τ c) / 2)))), (0, ((c + 1 : Nat) : Int)), (0, ((wel τ c) / 2))]) dX6_fadeInThisHour_43 rfl rfl rfl rfl ?_
          refine ia_goto (pc := 46) F 4 dX6_fadeInThisHour_46 rfl ?_
          refine jw (ls' := [(4, ((1 : Nat) : Int)), (0, (a + (wel τ c - ((wel τ c) / 2)))), (0, ((c + 1 : Nat) : Int)), (9, 0)]) [false, false, false, true] rfl ?_
          exact ih4 (c + 1) (a + (wel τ c - ((wel τ c) / 2))) _ (by omega) (by omega) (by first | rw [lost_s1 (σ := τ) (c := c) (by omega) (by assumption), ha] | (rw [lost_s0 (σ := τ) (c := c) (by omega) (by assumption), ha]; omega)) (PI_u hP2 rfl)  (Fr_u hF2 (by decide)) (by first | (rw [← fdc_s1 (σ := τ) (c := c) (by assumption)]; exact (Sh_w hS2 (by omega))) | (rw [← fdc_u0 (σ := τ) (c := c) (by assumption)]; exact (Sh_w hS2 (by omega))))
        · refine j1 ?_
          refine ia_istore_n (pc := 24) F (ls' := [(4, ((1 : Nat) : Int)), (0, a), (0, (c : Int)), (0, (wel τ c))]) dX6_fadeInThisHour_24 (Nat.le_of_ble_eq_true rfl) rfl rfl ?_
          refine ia_iload_n (pc := 25) F dX6_fadeInThisHour_25 rfl ?_
          refine ia_aload_n (pc := 26) F dX6_fadeInThisHour_26 rfl ?_
          refine jg (pc := 27) F (z1 hZ) cls9 f9_0 (hP2 1 0 2 rfl) il_RX6_9 dX6_fadeInThisHour_27 ?_
          refine ia_iload_n (pc := 30) F dX6_fadeInThisHour_30 rfl ?_
          refine ja (pc := 31) F (v := wel τ c) (z2 hZ) c rfl (by omega) ((hS2.wel c (by omega)).trans (fdc_w (Nat.le_refl _))) dX6_fadeInThisHour_31 ?_
          refine ia_iload_n (pc := 32) F dX6_fadeInThisHour_32 rfl ?_
          refine ia_isub (pc := 33) F dX6_fadeInThisHour_33 ?_
          refine ia_iadd (pc := 34) F dX6_fadeInThisHour_34 ?_
          refine ia_istore_n (pc := 35) F (ls' := [(4, ((1 : Nat) : Int)), (0, (a + (wel τ c - (wel τ c)))), (0, (c : Int)), (0, (wel τ c))]) dX6_fadeInThisHour_35 (Nat.le_of_ble_eq_true rfl) rfl rfl ?_
          refine ia_aload_n (pc := 36) F dX6_fadeInThisHour_36 rfl ?_
          refine jg (pc := 37) F (z1 hZ) cls9 f9_0 (hP2 1 0 2 rfl) il_RX6_9 dX6_fadeInThisHour_37 ?_
          refine ia_iload_n (pc := 40) F dX6_fadeInThisHour_40 rfl ?_
          refine ia_iload_n (pc := 41) F dX6_fadeInThisHour_41 rfl ?_
          refine js (pc := 42) F (z2 hZ) c rfl (by omega) dX6_fadeInThisHour_42 ?_
          refine ia_iinc (pc := 43) F (ls' := [(4, ((1 : Nat) : Int)), (0, (a + (wel τ c - (wel τ c)))), (0, ((c + 1 : Nat) : Int)), (0, (wel τ c))]) dX6_fadeInThisHour_43 rfl rfl rfl rfl ?_
          refine ia_goto (pc := 46) F 4 dX6_fadeInThisHour_46 rfl ?_
          refine jw (ls' := [(4, ((1 : Nat) : Int)), (0, (a + (wel τ c - (wel τ c)))), (0, ((c + 1 : Nat) : Int)), (9, 0)]) [false, false, false, true] rfl ?_
          exact ih4 (c + 1) (a + (wel τ c - (wel τ c))) _ (by omega) (by omega) (by first | rw [lost_s1 (σ := τ) (c := c) (by omega) (by assumption), ha] | (rw [lost_s0 (σ := τ) (c := c) (by omega) (by assumption), ha]; omega)) (PI_u hP2 rfl)  (Fr_u hF2 (by decide)) (by first | (rw [← fdc_s1 (σ := τ) (c := c) (by assumption)]; exact (Sh_w hS2 (by omega))) | (rw [← fdc_u0 (σ := τ) (c := c) (by assumption)]; exact (Sh_w hS2 (by omega))))
  exact L4 (10 + 1) 0 0 _ (by omega) (by omega) lost_0.symm hP  (Fr_0 (V := V) (S := [1, 2])) hS
set_option maxRecDepth 100000 in
theorem c_X6_letPass {Z : ia_Z} {V : ia_H} {Q : ia_O → ia_Z → ia_H → Prop} {σ : Nat → Int} {m : Int} (h : Int) (hZ : ZI Z) (hP : PI V) (hS : Sh 1 V σ) (hI : SI σ m)  (rh : -2147483648 ≤ h ∧ h ≤ 2147483647) (q1 : (¬ (1 ≤ h ∧ h ≤ 48)) → Q (.inl (some (0, (-1)))) Z V) (q2 : ∀ (V1 : ia_H), (1 ≤ h ∧ h ≤ 48) → PI V1 → (∀ pp, pp ∉ ([1, 2, 3, 4, 5, 6, 7] : List Nat) → V1 pp = V pp) → (Sh 1 V1 (s_pass σ h.toNat)) → Q (.inl (some (0, (lostN σ h.toNat)))) Z V1) : ia_K yX6_letPass cX6_letPass 4 (some .int) [(4, ((1 : Nat) : Int)), (0, h)] Z V 4 0 0 Q := by
  refine ia_start RX6 "letPass" ⟨by decide, rfl, rfl⟩ (Nat.le_of_ble_eq_true rfl) (ia_tg rfl) (fun X F M => ?_)
  show ia_G X 0 0 0 [(4, ((1 : Nat) : Int)), (0, h), (9, 0), (9, 0)] [] Z V
  obtain ⟨s0, s1, s2, s3, s4, s5, s6, s7, s18, sb, sw, se, sp⟩ := id hI
  refine ia_iload_n (pc := 0) F dX6_letPass_0 rfl ?_
  refine ia_iconst (pc := 1) F dX6_letPass_1 ?_
  refine ia_bipush (pc := 2) F dX6_letPass_2 (by decide) ?_
  refine jSN (pc := 4) F 0 0 (c_X7_isWithin h 1 48 (by omega) (by omega) (by omega) (fun h_1 => ?_) (fun h_2 => ?_)) rfl ⟨k_X7_isWithin, il_RX6_69, it_X7_isWithin, ii_RX7⟩ 3 rfl hd_X7_isWithin ⟨by decide, by decide, by decide, by decide, Nat.le_of_ble_eq_true rfl⟩ dX6_letPass_4
  · refine j1 ?_
    refine ia_if_ne (pc := 7) F 12 dX6_letPass_7 rfl (by omega) (fun _ => ?_) (fun h9 => absurd h9 (by omega))
    refine ia_iconst (pc := 12) F dX6_letPass_12 ?_
    refine ia_istore_n (pc := 13) F (ls' := [(4, ((1 : Nat) : Int)), (0, h), (0, 0), (9, 0)]) dX6_letPass_13 (Nat.le_of_ble_eq_true rfl) rfl rfl ?_
    refine ia_iconst (pc := 14) F dX6_letPass_14 ?_
    refine ia_istore_n (pc := 15) F (ls' := [(4, ((1 : Nat) : Int)), (0, h), (0, 0), (0, 0)]) dX6_letPass_15 (Nat.le_of_ble_eq_true rfl) rfl rfl ?_
    have L16 : ∀ (fu : Nat) (j : Nat) (a : Int) (V2 : ia_H), (h.toNat - j < fu) → ((j : Int) ≤ h) → (a = lostN σ j) → (PI V2) → (∀ pp, pp ∉ ([1, 2, 3, 4, 5, 6, 7] : List Nat) → V2 pp = V pp) → (Sh 1 V2 (fdN σ j)) → ia_G X 0 0 16 [(4, ((1 : Nat) : Int)), (0, h), (0, a), (0, (j : Int))] [] Z V2 := by
      intro fu
      induction fu with
      | zero => intro j a V2 hm; exact absurd hm (Nat.not_lt_zero _)
      | succ fu ih =>
        intro j a V2 hm hj ha hP2 hF2 hS2
        have ih16 := ih
        refine ia_iload_n (pc := 16) F dX6_letPass_16 rfl ?_
        refine ia_iload_n (pc := 17) F dX6_letPass_17 rfl ?_
        refine ia_icmp_ge (pc := 18) F 44 dX6_letPass_18 rfl (by omega) (by omega) (fun h_3 => ?_) (fun h_3 => ?_)
        · have r8 : fdN σ j 0 = σ 0 := fdN_o (by omega) j
          have r7 : fdN σ j 1 = σ 1 := fdN_o (by omega) j
          have ej : h.toNat = j := by omega
          rw [ej] at q2
          have r6 := lostN_rng (σ := σ) sw j
          refine ia_aload_n (pc := 44) F dX6_letPass_44 rfl ?_
          refine ia_dup (pc := 45) F dX6_letPass_45 (Or.inr (Or.inr rfl)) ?_
          refine jg (pc := 46) F (x := (σ 18)) (z1 hZ) cls9 f9_14 (hS2.f14.trans (fdN_o (by omega) j)) il_RX6_55 dX6_letPass_46 ?_
          refine ia_iload_n (pc := 49) F dX6_letPass_49 rfl ?_
          refine ia_i2lr (pc := 50) F dX6_letPass_50 (by omega) ?_
          refine ia_ladd (pc := 51) F dX6_letPass_51 ?_
          refine jp (pc := 52) F (z1 hZ) cls9 f9_14 rfl (ia_nJ rfl _) il_RX6_55 dX6_letPass_52 ?_
          refine ia_iload_n (pc := 55) F dX6_letPass_55 rfl ?_
          refine ia_ireturn (pc := 56) F M (by decide) (by decide) dX6_letPass_56 ?_
          subst ha
          exact q2 _ (by omega) (PI_u hP2 rfl) (Fr_u hF2 (by decide)) (Sh_s14 hS2)
        · have r9 := fdN_3 (σ := σ) j
          have r8 : fdN σ j 0 = σ 0 := fdN_o (by omega) j
          have r7 : fdN σ j 1 = σ 1 := fdN_o (by omega) j
          refine ia_aload_n (pc := 21) F dX6_letPass_21 rfl ?_
          refine ia_dup (pc := 22) F dX6_letPass_22 (Or.inr (Or.inr rfl)) ?_
          refine jg (pc := 23) F (x := fdN σ j 3) (z1 hZ) cls9 f9_9 (hS2.f9.trans rfl) il_RX6_40 dX6_letPass_23 ?_
          refine ia_iconst (pc := 26) F dX6_letPass_26 ?_
          refine ia_iadd (pc := 27) F dX6_letPass_27 ?_
          refine jp (pc := 28) F (z1 hZ) cls9 f9_9 rfl (ia_nI rfl _) il_RX6_40 dX6_letPass_28 ?_
          refine ia_iload_n (pc := 31) F dX6_letPass_31 rfl ?_
          refine ia_aload_n (pc := 32) F dX6_letPass_32 rfl ?_
          refine jV (pc := 33) F 0 0 (z1 hZ) cls9.1 (c_X6_fadeInThisHour (fdN σ j) hZ (PI_u hP2 rfl) (Sh_s9 hS2) fdc_0 (fun c hc => by rw [fdN_w hc]; exact la_rng (sw c hc) j) (by omega) (by omega) (fun V_4 p_5 f_6 x_7 => ?_)) rfl ⟨k_X6_fadeInThisHour, il_RX6_73, im_X6_fadeInThisHour, is_X6_fadeInThisHour, ii_RX6⟩ 0 rfl hd_X6_fadeInThisHour ⟨by decide, by decide, by decide, by decide, Nat.le_of_ble_eq_true rfl⟩ dX6_letPass_33
          refine j1 ?_
          refine ia_iadd (pc := 36) F dX6_letPass_36 ?_
          refine ia_istore_n (pc := 37) F (ls' := [(4, ((1 : Nat) : Int)), (0, h), (0, (a + (lost (fdN σ j) 10))), (0, (j : Int))]) dX6_letPass_37 (Nat.le_of_ble_eq_true rfl) rfl rfl ?_
          refine ia_iinc (pc := 38) F (ls' := [(4, ((1 : Nat) : Int)), (0, h), (0, (a + (lost (fdN σ j) 10))), (0, ((j + 1 : Nat) : Int))]) dX6_letPass_38 rfl rfl rfl rfl ?_
          refine ia_goto (pc := 41) F 16 dX6_letPass_41 rfl ?_
          exact ih16 (j + 1) (a + (lost (fdN σ j) 10)) _ (by omega) (by omega) (by rw [lostN_s]; omega) p_5  (Fr_c (Fr_u hF2 (by decide)) f_6 (by decide)) x_7
    exact L16 (h.toNat + 1) 0 0 _ (by omega) (by omega) lostN_0.symm hP  (Fr_0 (V := V) (S := [1, 2, 3, 4, 5, 6, 7])) hS
  · refine j1 ?_
    refine ia_if_ne (pc := 7) F 12 dX6_letPass_7 rfl (by omega) (fun h9 => absurd h9 (by omega)) (fun _ => ?_)
    refine ia_iconst (pc := 10) F dX6_letPass_10 ?_
    refine ia_ireturn (pc := 11) F M (by decide) (by decide) dX6_letPass_11 ?_
    first | exact q1 (by omega) | exact q2 _ (by omega) hP (Fr_0 (V := V) (S := [1, 2, 3, 4, 5, 6, 7])) hS | (exfalso; omega)
set_option maxRecDepth 100000 in
theorem c_X6_inkHourByHour {Z : ia_Z} {V : ia_H} {Q : ia_O → ia_Z → ia_H → Prop} {σ : Nat → Int} {m : Int} (c : Int) (h : Int) (hZ : ZI Z) (hP : PI V) (hS : Sh 1 V σ) (hI : SI σ m)  (hc : 0 ≤ c ∧ c ≤ 9) (hh : 0 ≤ h ∧ h ≤ 1000) (q1 : Q (.inl (some (0, (la σ c.toNat h.toNat)))) Z V) : ia_K yX6_inkHourByHour cX6_inkHourByHour 5 (some .int) [(4, ((1 : Nat) : Int)), (0, c), (0, h)] Z V 2 0 0 Q := by
  refine ia_start RX6 "inkHourByHour" ⟨by decide, rfl, rfl⟩ (Nat.le_of_ble_eq_true rfl) (ia_tg rfl) (fun X F M => ?_)
  show ia_G X 0 0 0 [(4, ((1 : Nat) : Int)), (0, c), (0, h), (9, 0), (9, 0)] [] Z V
  obtain ⟨s0, s1, s2, s3, s4, s5, s6, s7, s18, sb, sw, se, sp⟩ := id hI
  refine ia_aload_n (pc := 0) F dX6_inkHourByHour_0 rfl ?_
  refine jg (pc := 1) F (z1 hZ) cls9 f9_0 (hP 1 0 2 rfl) il_RX6_9 dX6_inkHourByHour_1 ?_
  refine ia_iload_n (pc := 4) F dX6_inkHourByHour_4 rfl ?_
  have r_1 := sw c.toNat (by omega)
  refine ja (pc := 5) F (v := wel σ c.toNat) (z2 hZ) c.toNat (by omega) (by omega) (hS.wel c.toNat (by omega)) dX6_inkHourByHour_5 ?_
  refine ia_istore_n (pc := 6) F (ls' := [(4, ((1 : Nat) : Int)), (0, c), (0, h), (0, wel σ c.toNat), (9, 0)]) dX6_inkHourByHour_6 (Nat.le_of_ble_eq_true rfl) rfl rfl ?_
  refine ia_iconst (pc := 7) F dX6_inkHourByHour_7 ?_
  refine ia_istore (pc := 8) F (ls' := [(4, ((1 : Nat) : Int)), (0, c), (0, h), (0, wel σ c.toNat), (0, 1)]) dX6_inkHourByHour_8 (Nat.le_of_ble_eq_true rfl) rfl rfl ?_
  have L10 : ∀ (fu : Nat) (j : Nat) (a : Int), (h.toNat - j < fu) → ((j : Int) ≤ h) → (a = la σ c.toNat j) → ia_G X 0 0 10 [(4, ((1 : Nat) : Int)), (0, c), (0, h), (0, a), (0, ((j + 1 : Nat) : Int))] [] Z V := by
    intro fu
    induction fu with
    | zero => intro j a hm; exact absurd hm (Nat.not_lt_zero _)
    | succ fu ih =>
      intro j a hm hj ha
      have ih10 := ih
      refine ia_iload (pc := 10) F dX6_inkHourByHour_10 rfl ?_
      refine ia_iload_n (pc := 12) F dX6_inkHourByHour_12 rfl ?_
      refine ia_icmp_gt (pc := 13) F 35 dX6_inkHourByHour_13 rfl (by omega) (by omega) (fun h_2 => ?_) (fun h_2 => ?_)
      · refine ia_iload_n (pc := 35) F dX6_inkHourByHour_35 rfl ?_
        refine ia_ireturn (pc := 36) F M (by decide) (by decide) dX6_inkHourByHour_36 ?_
        rw [show h.toNat = j by omega, ← ha] at q1
        exact q1
      · have e4 := la_rng (sw c.toNat (by omega)) j
        rw [← ha] at e4
        have e7 : ((c.toNat : Nat) : Int) + 1 = c + 1 := by omega
        have e8 := la_s (σ := σ) (c := c.toNat) (k := j)
        rw [e7] at e8
        refine ia_iload_n (pc := 16) F dX6_inkHourByHour_16 rfl ?_
        refine ia_iload_n (pc := 17) F dX6_inkHourByHour_17 rfl ?_
        refine ia_aload_n (pc := 18) F dX6_inkHourByHour_18 rfl ?_
        refine jg (pc := 19) F (x := σ 3) (z1 hZ) cls9 f9_9 hS.f9 il_RX6_40 dX6_inkHourByHour_19 ?_
        refine ia_iload (pc := 22) F dX6_inkHourByHour_22 rfl ?_
        refine ia_iadd (pc := 24) F dX6_inkHourByHour_24 ?_
        refine jS (pc := 25) F 0 0 (c_X6_inkInHour a c (σ 3 + ((j + 1 : Nat) : Int)) (by omega) (by omega) (by omega) (fun h_3 => ?_) (fun h_4 => ?_)) rfl ⟨k_X6_inkInHour, il_RX6_77, it_X6_inkInHour, ii_RX6⟩ rfl 3 rfl hd_X6_inkInHour ⟨by decide, by decide, by decide, by decide, Nat.le_of_ble_eq_true rfl⟩ dX6_inkHourByHour_25
        · refine j1 ?_
          refine ia_istore_n (pc := 28) F (ls' := [(4, ((1 : Nat) : Int)), (0, c), (0, h), (0, (a / 2)), (0, ((j + 1 : Nat) : Int))]) dX6_inkHourByHour_28 (Nat.le_of_ble_eq_true rfl) rfl rfl ?_
          refine ia_iinc (pc := 29) F (ls' := [(4, ((1 : Nat) : Int)), (0, c), (0, h), (0, (a / 2)), (0, ((j + 1 + 1 : Nat) : Int))]) dX6_inkHourByHour_29 rfl rfl rfl rfl ?_
          refine ia_goto (pc := 32) F 10 dX6_inkHourByHour_32 rfl ?_
          exact ih10 (j + 1) _ (by omega) (by omega) (by first | rw [e8, if_pos (by assumption), ha] | rw [e8, if_neg (by assumption), ha])
        · refine j1 ?_
          refine ia_istore_n (pc := 28) F (ls' := [(4, ((1 : Nat) : Int)), (0, c), (0, h), (0, a), (0, ((j + 1 : Nat) : Int))]) dX6_inkHourByHour_28 (Nat.le_of_ble_eq_true rfl) rfl rfl ?_
          refine ia_iinc (pc := 29) F (ls' := [(4, ((1 : Nat) : Int)), (0, c), (0, h), (0, a), (0, ((j + 1 + 1 : Nat) : Int))]) dX6_inkHourByHour_29 rfl rfl rfl rfl ?_
          refine ia_goto (pc := 32) F 10 dX6_inkHourByHour_32 rfl ?_
          exact ih10 (j + 1) _ (by omega) (by omega) (by first | rw [e8, if_pos (by assumption), ha] | rw [e8, if_neg (by assumption), ha])
  exact L10 (h.toNat + 1) 0 _ (by omega) (by omega) rfl
set_option maxRecDepth 100000 in
theorem c_X6_hoursToFallBelow {Z : ia_Z} {V : ia_H} {Q : ia_O → ia_Z → ia_H → Prop} {σ : Nat → Int} {m : Int} (c : Int) (u : Int) (hZ : ZI Z) (hP : PI V) (hS : Sh 1 V σ) (hI : SI σ m)  (hc : 0 ≤ c ∧ c ≤ 9) (hu : 1 ≤ u ∧ u ≤ 999) (q1 : ∀ (j : Nat), (j < 101) → (∀ i, i < j → u ≤ la σ c.toNat i) → (la σ c.toNat j < u) → Q (.inl (some (0, (j : Int)))) Z V) : ia_K yX6_hoursToFallBelow cX6_hoursToFallBelow 5 (some .int) [(4, ((1 : Nat) : Int)), (0, c), (0, u)] Z V 2 0 0 Q := by
  refine ia_start RX6 "hoursToFallBelow" ⟨by decide, rfl, rfl⟩ (Nat.le_of_ble_eq_true rfl) (ia_tg rfl) (fun X F M => ?_)
  show ia_G X 0 0 0 [(4, ((1 : Nat) : Int)), (0, c), (0, u), (9, 0), (9, 0)] [] Z V
  obtain ⟨s0, s1, s2, s3, s4, s5, s6, s7, s18, sb, sw, se, sp⟩ := id hI
  refine ia_aload_n (pc := 0) F dX6_hoursToFallBelow_0 rfl ?_
  refine jg (pc := 1) F (z1 hZ) cls9 f9_0 (hP 1 0 2 rfl) il_RX6_9 dX6_hoursToFallBelow_1 ?_
  refine ia_iload_n (pc := 4) F dX6_hoursToFallBelow_4 rfl ?_
  have r_1 := sw c.toNat (by omega)
  refine ja (pc := 5) F (v := wel σ c.toNat) (z2 hZ) c.toNat (by omega) (by omega) (hS.wel c.toNat (by omega)) dX6_hoursToFallBelow_5 ?_
  refine ia_istore_n (pc := 6) F (ls' := [(4, ((1 : Nat) : Int)), (0, c), (0, u), (0, wel σ c.toNat), (9, 0)]) dX6_hoursToFallBelow_6 (Nat.le_of_ble_eq_true rfl) rfl rfl ?_
  refine ia_iconst (pc := 7) F dX6_hoursToFallBelow_7 ?_
  refine ia_istore (pc := 8) F (ls' := [(4, ((1 : Nat) : Int)), (0, c), (0, u), (0, wel σ c.toNat), (0, 0)]) dX6_hoursToFallBelow_8 (Nat.le_of_ble_eq_true rfl) rfl rfl ?_
  have L10 : ∀ (fu : Nat) (j : Nat) (a : Int), (101 - j < fu) → (j < 101) → (∀ i, i < j → u ≤ la σ c.toNat i) → (a = la σ c.toNat j) → ia_G X 0 0 10 [(4, ((1 : Nat) : Int)), (0, c), (0, u), (0, a), (0, (j : Int))] [] Z V := by
    intro fu
    induction fu with
    | zero => intro j a hm; exact absurd hm (Nat.not_lt_zero _)
    | succ fu ih =>
      intro j a hm hj hl ha
      have ih10 := ih
      refine ia_iload (pc := 10) F dX6_hoursToFallBelow_10 rfl ?_
      have e4 := la_rng (sw c.toNat (by omega)) j
      rw [← ha] at e4
      have e7 : ((c.toNat : Nat) : Int) + 1 = c + 1 := by omega
      have e8 := la_s (σ := σ) (c := c.toNat) (k := j)
      rw [e7] at e8
      refine ia_bipush (pc := 12) F dX6_hoursToFallBelow_12 (by decide) ?_
      refine ia_icmp_ge (pc := 14) F 41 dX6_hoursToFallBelow_14 rfl (by omega) (by omega) (fun h_2 => ?_) (fun h_2 => ?_)
      · refine ia_iload (pc := 41) F dX6_hoursToFallBelow_41 rfl ?_
        refine ia_ireturn (pc := 43) F M (by decide) (by decide) dX6_hoursToFallBelow_43 ?_
        exact q1 _ (by omega) hl (by first | omega | (have h9 : j = 100 := (by omega); rw [h9, la_100 (by omega) (sw c.toNat (by omega))]; omega))
      · refine ia_iload_n (pc := 17) F dX6_hoursToFallBelow_17 rfl ?_
        refine ia_iload_n (pc := 18) F dX6_hoursToFallBelow_18 rfl ?_
        refine ia_icmp_lt (pc := 19) F 41 dX6_hoursToFallBelow_19 rfl (by omega) (by omega) (fun h_3 => ?_) (fun h_3 => ?_)
        · refine ia_iload (pc := 41) F dX6_hoursToFallBelow_41 rfl ?_
          refine ia_ireturn (pc := 43) F M (by decide) (by decide) dX6_hoursToFallBelow_43 ?_
          exact q1 _ (by omega) hl (by first | omega | (have h9 : j = 100 := (by omega); rw [h9, la_100 (by omega) (sw c.toNat (by omega))]; omega))
        · refine ia_iinc (pc := 22) F (ls' := [(4, ((1 : Nat) : Int)), (0, c), (0, u), (0, a), (0, ((j + 1 : Nat) : Int))]) dX6_hoursToFallBelow_22 rfl rfl rfl rfl ?_
          refine ia_iload_n (pc := 25) F dX6_hoursToFallBelow_25 rfl ?_
          refine ia_iload_n (pc := 26) F dX6_hoursToFallBelow_26 rfl ?_
          refine ia_aload_n (pc := 27) F dX6_hoursToFallBelow_27 rfl ?_
          refine jg (pc := 28) F (x := σ 3) (z1 hZ) cls9 f9_9 hS.f9 il_RX6_40 dX6_hoursToFallBelow_28 ?_
          refine ia_iload (pc := 31) F dX6_hoursToFallBelow_31 rfl ?_
          refine ia_iadd (pc := 33) F dX6_hoursToFallBelow_33 ?_
          refine jS (pc := 34) F 0 0 (c_X6_inkInHour a c (σ 3 + ((j + 1 : Nat) : Int)) (by omega) (by omega) (by omega) (fun h_4 => ?_) (fun h_5 => ?_)) rfl ⟨k_X6_inkInHour, il_RX6_77, it_X6_inkInHour, ii_RX6⟩ rfl 3 rfl hd_X6_inkInHour ⟨by decide, by decide, by decide, by decide, Nat.le_of_ble_eq_true rfl⟩ dX6_hoursToFallBelow_34
          · refine j1 ?_
            refine ia_istore_n (pc := 37) F (ls' := [(4, ((1 : Nat) : Int)), (0, c), (0, u), (0, (a / 2)), (0, ((j + 1 : Nat) : Int))]) dX6_hoursToFallBelow_37 (Nat.le_of_ble_eq_true rfl) rfl rfl ?_
            refine ia_goto (pc := 38) F 10 dX6_hoursToFallBelow_38 rfl ?_
            exact ih10 (j + 1) _ (by omega) (by omega) (fun i hi => by rcases Nat.lt_or_ge i j with g | g; exact hl i g; rw [show i = j by omega, ← ha]; omega) (by first | rw [e8, if_pos (by assumption), ha] | rw [e8, if_neg (by assumption), ha])
          · refine j1 ?_
            refine ia_istore_n (pc := 37) F (ls' := [(4, ((1 : Nat) : Int)), (0, c), (0, u), (0, a), (0, ((j + 1 : Nat) : Int))]) dX6_hoursToFallBelow_37 (Nat.le_of_ble_eq_true rfl) rfl rfl ?_
            refine ia_goto (pc := 38) F 10 dX6_hoursToFallBelow_38 rfl ?_
            exact ih10 (j + 1) _ (by omega) (by omega) (fun i hi => by rcases Nat.lt_or_ge i j with g | g; exact hl i g; rw [show i = j by omega, ← ha]; omega) (by first | rw [e8, if_pos (by assumption), ha] | rw [e8, if_neg (by assumption), ha])
  exact L10 102 0 _ (by omega) (by omega) (fun i hi => absurd hi (Nat.not_lt_zero _)) rfl
set_option maxRecDepth 100000 in
theorem c_X6_inkHalved {Z : ia_Z} {V : ia_H} {Q : ia_O → ia_Z → ia_H → Prop} {σ : Nat → Int} {m : Int} (c : Int) (h : Int) (hZ : ZI Z) (hP : PI V) (hS : Sh 1 V σ) (hI : SI σ m)  (hc : 0 ≤ c ∧ c ≤ 9) (hh : 0 ≤ h ∧ h ≤ 1000) (q1 : Q (.inl (some (0, (la σ c.toNat h.toNat)))) Z V) : ia_K yX6_inkHalved cX6_inkHalved 5 (some .int) [(4, ((1 : Nat) : Int)), (0, c), (0, h)] Z V 2 0 0 Q := by
  refine ia_start RX6 "inkHalved" ⟨by decide, rfl, rfl⟩ (Nat.le_of_ble_eq_true rfl) (ia_tg rfl) (fun X F M => ?_)
  show ia_G X 0 0 0 [(4, ((1 : Nat) : Int)), (0, c), (0, h), (9, 0), (9, 0)] [] Z V
  obtain ⟨s0, s1, s2, s3, s4, s5, s6, s7, s18, sb, sw, se, sp⟩ := id hI
  refine ia_iload_n (pc := 0) F dX6_inkHalved_0 rfl ?_
  refine ia_iconst (pc := 1) F dX6_inkHalved_1 ?_
  refine ia_iadd (pc := 2) F dX6_inkHalved_2 ?_
  refine ia_istore_n (pc := 3) F (ls' := [(4, ((1 : Nat) : Int)), (0, c), (0, h), (0, (c + 1)), (9, 0)]) dX6_inkHalved_3 (Nat.le_of_ble_eq_true rfl) rfl rfl ?_
  refine ia_aload_n (pc := 4) F dX6_inkHalved_4 rfl ?_
  refine jg (pc := 5) F (x := σ 3) (z1 hZ) cls9 f9_9 hS.f9 il_RX6_40 dX6_inkHalved_5 ?_
  refine ia_iload_n (pc := 8) F dX6_inkHalved_8 rfl ?_
  refine ia_iadd (pc := 9) F dX6_inkHalved_9 ?_
  have e5 : 0 ≤ (σ 3 + h) / (c + 1) := Int.ediv_nonneg (by omega) (by omega)
  have e6 : (σ 3 + h) / (c + 1) ≤ σ 3 + h := Int.ediv_le_self _ (by omega)
  have e7 : 0 ≤ σ 3 / (c + 1) := Int.ediv_nonneg (by omega) (by omega)
  have e8 : σ 3 / (c + 1) ≤ σ 3 := Int.ediv_le_self _ (by omega)
  refine ia_iload_n (pc := 10) F dX6_inkHalved_10 rfl ?_
  refine ia_idiv (pc := 11) F dX6_inkHalved_11 (by omega) (by omega) ?_
  refine ia_aload_n (pc := 12) F dX6_inkHalved_12 rfl ?_
  refine jg (pc := 13) F (x := σ 3) (z1 hZ) cls9 f9_9 hS.f9 il_RX6_40 dX6_inkHalved_13 ?_
  refine ia_iload_n (pc := 16) F dX6_inkHalved_16 rfl ?_
  refine ia_idiv (pc := 17) F dX6_inkHalved_17 (by omega) (by omega) ?_
  refine ia_isub (pc := 18) F dX6_inkHalved_18 ?_
  refine ia_istore (pc := 19) F (ls' := [(4, ((1 : Nat) : Int)), (0, c), (0, h), (0, (c + 1)), (0, (((σ 3 + h) / (c + 1)) - (σ 3 / (c + 1))))]) dX6_inkHalved_19 (Nat.le_of_ble_eq_true rfl) rfl rfl ?_
  refine ia_aload_n (pc := 21) F dX6_inkHalved_21 rfl ?_
  refine jg (pc := 22) F (z1 hZ) cls9 f9_0 (hP 1 0 2 rfl) il_RX6_9 dX6_inkHalved_22 ?_
  refine ia_iload_n (pc := 25) F dX6_inkHalved_25 rfl ?_
  have r_1 := sw c.toNat (by omega)
  refine ja (pc := 26) F (v := wel σ c.toNat) (z2 hZ) c.toNat (by omega) (by omega) (hS.wel c.toNat (by omega)) dX6_inkHalved_26 ?_
  refine ia_iload (pc := 27) F dX6_inkHalved_27 rfl ?_
  refine ia_bipush (pc := 29) F dX6_inkHalved_29 (by decide) ?_
  refine ia_min (pc := 31) F (by omega) (by omega) ⟨il_RX6_81, it_mmin, ii_RJ9, k_mmin⟩ ⟨by decide, Nat.le_of_ble_eq_true rfl, by decide, by decide⟩ dX6_inkHalved_31 ?_
  rw [ia_minE (((σ 3 + h) / (c + 1)) - (σ 3 / (c + 1))) 31]
  refine ia_ishr (pc := 34) F dX6_inkHalved_34 ?_
  refine ia_ireturn (pc := 35) F M (by decide) (by decide) dX6_inkHalved_35 ?_
  rw [halv_eq hc hh (sw c.toNat (by omega)) (by omega)] at q1
  exact q1
