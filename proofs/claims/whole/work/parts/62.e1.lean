/-! the class: type, the text buffer, the commands of a text (made by wip/whole/exec.py) -/
def tx_K (t : Nat → Int) (n : Nat) (i : Nat) : Nat := if tx_cK t n (tx_ps t n i) < 9 then tx_cK t n (tx_ps t n i) else 0
theorem tx_K_lt {t : Nat → Int} {n i : Nat} : tx_K t n i < 9 := by
  unfold tx_K
  by_cases c : tx_cK t n (tx_ps t n i) < 9
  · rw [if_pos c]; exact c
  · rw [if_neg c]; omega
theorem tx_K_eq {t : Nat → Int} {n i : Nat} (h : tx_cW t n (tx_ps t n i) = 0) : tx_cK t n (tx_ps t n i) = tx_K t n i := by
  unfold tx_K
  rw [if_pos (tx_cK_ok h)]
theorem tx_mo_W {t : Nat → Int} {n k : Nat} (h : ∀ i, i < k → tx_mo t n i) (h0 : tx_cW t n (tx_ps t n k) = 0) : ∀ i, i < k + 1 → tx_cW t n (tx_ps t n i) = 0 := fun i hi => by
  rcases Nat.lt_or_ge i k with g | g
  · exact (h i g).1
  · rw [show i = k by omega]; exact h0
set_option maxRecDepth 100000 in
theorem c_X2_add {Z : ia_Z} {V : ia_H} {Q : ia_O → ia_Z → ia_H → Prop} (n q L : Nat) (t : Nat → Int) (c : Int) (hZ : ZI Z) (hP : PI V)  (hT : SB 92 Z V n t q L) (hc : 0 ≤ c ∧ c ≤ 126) (hn : n ≤ 90) (hz : Z.2.2 ≤ 800000) (q1 : ∀ (Z1 : ia_Z) (V1 : ia_H) (q1 L1 : Nat), (SB 92 Z1 V1 (n + 1) (up t n c) q1 L1) → (BX 92 1 Z V Z1 V1) → Q (.inl none) Z1 V1) : ia_K yX2_add cX2_add 2 none [(4, ((91 : Nat) : Int)), (0, c)] Z V 7 1 300 Q := by
  refine ia_start RX2 "add" ⟨by decide, rfl, rfl⟩ (Nat.le_of_ble_eq_true rfl) (ia_tg rfl) (fun X F M => ?_)
  show ia_G X 0 0 0 [(4, ((91 : Nat) : Int)), (0, c)] [] Z V
  refine ia_aload_n (pc := 0) F dX2_add_0 rfl ?_
  refine jg (pc := 1) F (z91 hZ) cls5 f5_0 (hP 91 0 92 rfl) il_RX2_12 dX2_add_1 ?_
  refine ia_iload_n (pc := 4) F dX2_add_4 rfl ?_
  refine jV (pc := 5) F 1 300 (z92 hZ) cls1.1 (c_J4_appendC 92 q n L t c hT (by omega) (by omega) ⟨hZ.1, by omega⟩ (fun Z1_1 V1_2 q1_3 L1_4 h_5 h_6 => ?_)) rfl ⟨k_J4_append_cf468, il_RX2_42, im_J4_append_cf468, is_J4_append_cf468, ii_RJ4⟩ 1 rfl hd_J4_append_cf468 ⟨by decide, by decide, by decide, by decide, Nat.le_of_ble_eq_true rfl⟩ dX2_add_5
  have o9 := hT
  have hP9 := BX_PI h_6 hP hZ (Or.inl rfl) o9.2.2.1 o9.2.2.2.2.2.2.2.2
  have hB9 := h_6
  have z9 := h_6.1
  have hZ := BX_ZI h_6 hZ (by omega)
  refine j1 ?_
  refine ia_pop (pc := 8) F dX2_add_8 (Or.inr (Or.inr rfl)) ?_
  refine ia_return (pc := 9) F M (by decide) (by decide) dX2_add_9 ?_
  exact q1 _ _ _ _ h_5 hB9
set_option maxRecDepth 100000 in
theorem c_X2_empty {Z : ia_Z} {V : ia_H} {Q : ia_O → ia_Z → ia_H → Prop} (n q L : Nat) (t : Nat → Int) (hZ : ZI Z) (hP : PI V)  (hT : SB 92 Z V n t q L) (q1 : ∀ (V1 : ia_H), PI V1 → (∀ pp, pp ∉ ([92] : List Nat) → V1 pp = V pp) → (∀ t1 : Nat → Int, SB 92 Z V1 0 t1 q L) → Q (.inl none) Z V1) : ia_K yX2_empty cX2_empty 1 none [(4, ((91 : Nat) : Int))] Z V 7 1 300 Q := by
  refine ia_start RX2 "empty" ⟨by decide, rfl, rfl⟩ (Nat.le_of_ble_eq_true rfl) (ia_tg rfl) (fun X F M => ?_)
  show ia_G X 0 0 0 [(4, ((91 : Nat) : Int))] [] Z V
  refine ia_aload_n (pc := 0) F dX2_empty_0 rfl ?_
  refine jg (pc := 1) F (z91 hZ) cls5 f5_0 (hP 91 0 92 rfl) il_RX2_12 dX2_empty_1 ?_
  refine ia_iconst (pc := 4) F dX2_empty_4 ?_
  refine jV (pc := 5) F 1 300 (z92 hZ) cls1.1 (c_J4_setLength0 92 q n L t hP hT (fun _ => rfl) (fun V_1 p_2 f_3 x_4 => ?_)) rfl ⟨k_J4_setLength_d00df, il_RX2_46, im_J4_setLength_d00df, is_J4_setLength_d00df, ii_RJ4⟩ 1 rfl hd_J4_setLength_d00df ⟨by decide, by decide, by decide, by decide, Nat.le_of_ble_eq_true rfl⟩ dX2_empty_5
  refine j0 ?_
  refine ia_return (pc := 8) F M (by decide) (by decide) dX2_empty_8 ?_
  exact q1 _ p_2 (Fr_c (Fr_0 (V := V) (S := [92])) f_3 (by decide)) x_4
set_option maxRecDepth 100000 in
theorem c_X7_type {Z : ia_Z} {V : ia_H} {Q : ia_O → ia_Z → ia_H → Prop} (n q L : Nat) (t : Nat → Int) (c : Int) (hZ : ZI Z) (hP : PI V)  (hT : SB 92 Z V n t q L) (hc : 0 ≤ c ∧ c ≤ 65535) (hn : n ≤ 60) (hz : Z.2.2 ≤ 800000) (q1 : ∀ (Z1 : ia_Z) (V1 : ia_H) (q1 L1 : Nat), (32 ≤ c ∧ c ≤ 126) → (n < 60) → (SB 92 Z1 V1 (n + 1) (up t n c) q1 L1) → (BX 92 1 Z V Z1 V1) → Q (.inl (some (0, ((n + 1 : Nat) : Int)))) Z1 V1) (q2 : (¬ (32 ≤ c ∧ c ≤ 126)) → Q (.inr "java/lang/IllegalArgumentException") Z V) (q3 : (32 ≤ c ∧ c ≤ 126) → (n = 60) → Q (.inr "java/lang/IllegalStateException") Z V) : ia_K yX7_type cX7_type 2 (some .int) [(4, ((0 : Nat) : Int)), (0, c)] Z V 8 2 310 Q := by
  refine ia_start RX7 "type" ⟨by decide, rfl, rfl⟩ (Nat.le_of_ble_eq_true rfl) (ia_tg rfl) (fun X F M => ?_)
  show ia_G X 0 0 0 [(4, ((0 : Nat) : Int)), (0, c)] [] Z V
  refine ia_iload_n (pc := 0) F dX7_type_0 rfl ?_
  refine ia_bipush (pc := 1) F dX7_type_1 (by decide) ?_
  refine ia_bipush (pc := 3) F dX7_type_3 (by decide) ?_
  refine jS (pc := 5) F 0 0 (c_X7_isWithin c 32 126 (by omega) (by omega) (by omega) (fun h_1 => ?_) (fun h_2 => ?_)) rfl ⟨k_X7_isWithin, il_RX7_106, it_X7_isWithin, ii_RX7⟩ rfl 3 rfl hd_X7_isWithin ⟨by decide, by decide, by decide, by decide, Nat.le_of_ble_eq_true rfl⟩ dX7_type_5
  · refine j1 ?_
    refine jS (pc := 8) F 0 0 (c_X7_requireArgument_1  ?_) rfl ⟨k_X7_requireArgument, il_RX7_92, it_X7_requireArgument, ii_RX7⟩ rfl 1 rfl hd_X7_requireArgument ⟨by decide, by decide, by decide, by decide, Nat.le_of_ble_eq_true rfl⟩ dX7_type_8
    refine j0 ?_
    refine ia_aload_n (pc := 11) F dX7_type_11 rfl ?_
    refine jg (pc := 12) F (z0 hZ) cls10 f10_6 (hP 0 6 91 rfl) il_RX7_50 dX7_type_12 ?_
    refine jV (pc := 15) F 0 0 (z91 hZ) cls5.1 (c_X2_length n q L t hZ hP hT (SB_rng hT) (by omega) ?_) rfl ⟨k_X2_length, il_RX7_284, im_X2_length, is_X2_length, ii_RX2⟩ 0 rfl hd_X2_length ⟨by decide, by decide, by decide, by decide, Nat.le_of_ble_eq_true rfl⟩ dX7_type_15
    refine j1 ?_
    refine ia_bipush (pc := 18) F dX7_type_18 (by decide) ?_
    refine ia_icmp_ge (pc := 20) F 27 dX7_type_20 rfl (by omega) (by omega) (fun h_3 => ?_) (fun h_3 => ?_)
    · refine ia_iconst (pc := 27) F dX7_type_27 ?_
      refine jS (pc := 28) F 1 6 (c_X7_requireState_0  ?_) rfl ⟨k_X7_requireState, il_RX7_285, it_X7_requireState, ii_RX7⟩ rfl 1 rfl hd_X7_requireState ⟨by decide, by decide, by decide, by decide, Nat.le_of_ble_eq_true rfl⟩ dX7_type_28
      refine jx ?_
      refine ia_out F M (by decide) (by decide) ?_
      exact q3 (by omega) (by omega)
    · refine ia_iconst (pc := 23) F dX7_type_23 ?_
      refine ia_goto (pc := 24) F 28 dX7_type_24 rfl ?_
      refine jS (pc := 28) F 0 0 (c_X7_requireState_1  ?_) rfl ⟨k_X7_requireState, il_RX7_285, it_X7_requireState, ii_RX7⟩ rfl 1 rfl hd_X7_requireState ⟨by decide, by decide, by decide, by decide, Nat.le_of_ble_eq_true rfl⟩ dX7_type_28
      refine j0 ?_
      refine ia_aload_n (pc := 31) F dX7_type_31 rfl ?_
      refine jg (pc := 32) F (z0 hZ) cls10 f10_6 (hP 0 6 91 rfl) il_RX7_50 dX7_type_32 ?_
      refine ia_iload_n (pc := 35) F dX7_type_35 rfl ?_
      refine jV (pc := 36) F 1 300 (z91 hZ) cls5.1 (c_X2_add n q L t c hZ hP hT (by omega) (by omega) (by omega) (fun Z1_4 V1_5 q1_6 L1_7 h_8 h_9 => ?_)) rfl ⟨k_X2_add, il_RX7_288, im_X2_add, is_X2_add, ii_RX2⟩ 1 rfl hd_X2_add ⟨by decide, by decide, by decide, by decide, Nat.le_of_ble_eq_true rfl⟩ dX7_type_36
      have o9 := hT
      have hP9 := BX_PI h_9 hP hZ (Or.inl rfl) o9.2.2.1 o9.2.2.2.2.2.2.2.2
      have hB9 := h_9
      have z9 := h_9.1
      have hZ := BX_ZI h_9 hZ (by omega)
      refine j0 ?_
      refine ia_aload_n (pc := 39) F dX7_type_39 rfl ?_
      refine jg (pc := 40) F (z0 hZ) cls10 f10_6 (hP9 0 6 91 rfl) il_RX7_50 dX7_type_40 ?_
      refine jV (pc := 43) F 1 300 (z91 hZ) cls5.1 (c_X2_length (n + 1) q1_6 L1_7 (up t n c) hZ hP9 h_8 (SB_rng h_8) (by omega) ?_) rfl ⟨k_X2_length, il_RX7_284, im_X2_length, is_X2_length, ii_RX2⟩ 0 rfl hd_X2_length ⟨by decide, by decide, by decide, by decide, Nat.le_of_ble_eq_true rfl⟩ dX7_type_43
      refine j1 ?_
      refine ia_ireturn (pc := 46) F M (by decide) (by decide) dX7_type_46 ?_
      exact q1 _ _ _ _ (by omega) (by omega) h_8 hB9
  · refine j1 ?_
    refine jS (pc := 8) F 1 6 (c_X7_requireArgument_0  ?_) rfl ⟨k_X7_requireArgument, il_RX7_92, it_X7_requireArgument, ii_RX7⟩ rfl 1 rfl hd_X7_requireArgument ⟨by decide, by decide, by decide, by decide, Nat.le_of_ble_eq_true rfl⟩ dX7_type_8
    refine jx ?_
    refine ia_out F M (by decide) (by decide) ?_
    exact q2 (by omega)
set_option maxRecDepth 100000 in
theorem c_X7_carryOutText {Z : ia_Z} {V : ia_H} {Q : ia_O → ia_Z → ia_H → Prop} {σ : Nat → Int} {π : Nat → Int} {k4 : Nat → Int} {k5 : Nat → Int} {k6 : Nat → Int} {m : Int} (c : Nat) (K : Nat → Nat) (A B : Nat → Int) (hZ : ZI Z) (hP : PI V) (hS : Sh 1 V σ) (hI : SI σ m) (h91 : V 91 = π) (h94 : V 94 = k4) (h95 : V 95 = k5) (h96 : V 96 = k6) (hc4 : π 4 = (c : Int)) (hc16 : c ≤ 16) (h4 : ∀ i : Nat, i < c → k4 i = ((ia_E0 + K i : Nat) : Int)) (h5 : ∀ i : Nat, i < c → k5 i = A i) (h6 : ∀ i : Nat, i < c → k6 i = B i) (hK : ∀ i : Nat, K i < 9) (hA : ∀ i : Nat, 0 ≤ A i ∧ A i ≤ 999) (hB2 : ∀ i : Nat, 0 ≤ B i ∧ B i ≤ 999) (hm : m + 16 ≤ 20000) (q1 : ∀ (V1 : ia_H), (∀ i : Nat, i < c → ¬ opB (K i) (A i) (B i) (opN K A B σ i)) → PI V1 → (∀ pp, pp ∉ ([1, 2, 3, 4, 5, 6, 7, 80, 81, 82, 83, 84, 86] : List Nat) → V1 pp = V pp) → (Sh 1 V1 (opN K A B σ c)) → Q (.inl (some (0, (-1)))) Z V1) (q2 : ∀ (j : Nat) (V1 : ia_H), (j < c) → (∀ i : Nat, i < j → ¬ opB (K i) (A i) (B i) (opN K A B σ i)) → (¬ ¬ opB (K j) (A j) (B j) (opN K A B σ j)) → PI V1 → (∀ pp, pp ∉ ([1, 2, 3, 4, 5, 6, 7, 80, 81, 82, 83, 84, 86] : List Nat) → V1 pp = V pp) → Q (.inl (some (0, (j : Int)))) Z V1) : ia_K yX7_carryOutText cX7_carryOutText 3 (some .int) [(4, ((0 : Nat) : Int))] Z V 8 0 0 Q := by
  refine ia_start RX7 "carryOutText" ⟨by decide, rfl, rfl⟩ (Nat.le_of_ble_eq_true rfl) (ia_tg rfl) (fun X F M => ?_)
  show ia_G X 0 0 0 [(4, ((0 : Nat) : Int)), (9, 0), (9, 0)] [] Z V
  obtain ⟨s0, s1, s2, s3, s4, s5, s6, s7, s18, sb, sw, se, sp⟩ := id hI
  refine ia_iconst (pc := 0) F dX7_carryOutText_0 ?_
  refine ia_istore_n (pc := 1) F (ls' := [(4, ((0 : Nat) : Int)), (0, 0), (9, 0)]) dX7_carryOutText_1 (Nat.le_of_ble_eq_true rfl) rfl rfl ?_
  have L2 : ∀ (fu : Nat) (j : Nat) (V2 : ia_H), (16 - j < fu) → (j ≤ c) → (∀ i : Nat, i < j → ¬ opB (K i) (A i) (B i) (opN K A B σ i)) → (PI V2) → (∀ pp, pp ∉ ([1, 2, 3, 4, 5, 6, 7, 80, 81, 82, 83, 84, 86] : List Nat) → V2 pp = V pp) → (Sh 1 V2 (opN K A B σ j)) → ia_G X 0 0 2 [(4, ((0 : Nat) : Int)), (0, (j : Int)), (9, 0)] [] Z V2 := by
    intro fu
    induction fu with
    | zero => intro j V2 hm; exact absurd hm (Nat.not_lt_zero _)
    | succ fu ih =>
      intro j V2 hm hj hok hP2 hF2 hS2
      have ih2 := ih
      refine ia_iload_n (pc := 2) F dX7_carryOutText_2 rfl ?_
      refine ia_aload_n (pc := 3) F dX7_carryOutText_3 rfl ?_
      refine jg (pc := 4) F (z0 hZ) cls10 f10_6 (hP2 0 6 91 rfl) il_RX7_50 dX7_carryOutText_4 ?_
      refine jg (pc := 7) F (x := (c : Int)) (z91 hZ) cls5 f5_4 ((congrFun ((hF2 91 (by decide)).trans h91) 4).trans hc4) il_RX7_323 dX7_carryOutText_7 ?_
      refine ia_icmp_ge (pc := 10) F 57 dX7_carryOutText_10 rfl (by omega) (by omega) (fun h_1 => ?_) (fun h_1 => ?_)
      · refine ia_iconst (pc := 57) F dX7_carryOutText_57 ?_
        refine ia_ireturn (pc := 58) F M (by decide) (by decide) dX7_carryOutText_58 ?_
        have e9 : j = c := by omega
        subst e9
        exact q1 _ hok hP2 hF2 hS2
      · have hIj := SI_opN hK hI j (by omega) hok
        have a1 := hA j
        have b1 := hB2 j
        refine ia_aload_n (pc := 13) F dX7_carryOutText_13 rfl ?_
        refine ia_aload_n (pc := 14) F dX7_carryOutText_14 rfl ?_
        refine jg (pc := 15) F (z0 hZ) cls10 f10_6 (hP2 0 6 91 rfl) il_RX7_50 dX7_carryOutText_15 ?_
        refine jg (pc := 18) F (z91 hZ) cls5 f5_1 (hP2 91 1 94 rfl) il_RX7_369 dX7_carryOutText_18 ?_
        refine ia_iload_n (pc := 21) F dX7_carryOutText_21 rfl ?_
        refine ia_aaload5 (pc := 22) F (v := ((ia_E0 + K j : Nat) : Int)) 94 j rfl rfl (z94 hZ).1 (z94 hZ).2.1 (by rw [(z94 hZ).2.2]; omega) ((congrFun ((hF2 94 (by decide)).trans h94) j).trans (h4 j (by omega))) dX7_carryOutText_22 ?_
        refine ia_aload_n (pc := 23) F dX7_carryOutText_23 rfl ?_
        refine jg (pc := 24) F (z0 hZ) cls10 f10_6 (hP2 0 6 91 rfl) il_RX7_50 dX7_carryOutText_24 ?_
        refine jg (pc := 27) F (z91 hZ) cls5 f5_2 (hP2 91 2 95 rfl) il_RX7_373 dX7_carryOutText_27 ?_
        refine ia_iload_n (pc := 30) F dX7_carryOutText_30 rfl ?_
        refine ja (pc := 31) F (v := (A j)) (z95 hZ) j rfl (by omega) ((congrFun ((hF2 95 (by decide)).trans h95) j).trans (h5 j (by omega))) dX7_carryOutText_31 ?_
        refine ia_aload_n (pc := 32) F dX7_carryOutText_32 rfl ?_
        refine jg (pc := 33) F (z0 hZ) cls10 f10_6 (hP2 0 6 91 rfl) il_RX7_50 dX7_carryOutText_33 ?_
        refine jg (pc := 36) F (z91 hZ) cls5 f5_3 (hP2 91 3 96 rfl) il_RX7_376 dX7_carryOutText_36 ?_
        refine ia_iload_n (pc := 39) F dX7_carryOutText_39 rfl ?_
        refine ja (pc := 40) F (v := (B j)) (z96 hZ) j rfl (by omega) ((congrFun ((hF2 96 (by decide)).trans h96) j).trans (h6 j (by omega))) dX7_carryOutText_40 ?_
        refine jV (pc := 41) F 0 0 (z0 hZ) cls10.1 (c_X7_carryOut_g (K j) (A j) (B j) hZ hP2 hS2 hIj (hK j) (by omega) (by omega) (by omega) (fun r_2 h_3 h_4 => ?_) (fun V_5 h_6 p_7 f_8 x_9 => ?_)) rfl ⟨k_X7_carryOut, il_RX7_336, im_X7_carryOut, is_X7_carryOut, ii_RX7⟩ 3 rfl hd_X7_carryOut ⟨by decide, by decide, by decide, by decide, Nat.le_of_ble_eq_true rfl⟩ dX7_carryOutText_41
        · refine j1 ?_
          refine ia_istore_n (pc := 44) F (ls' := [(4, ((0 : Nat) : Int)), (0, (j : Int)), (0, r_2)]) dX7_carryOutText_44 (Nat.le_of_ble_eq_true rfl) rfl rfl ?_
          refine ia_iload_n (pc := 45) F dX7_carryOutText_45 rfl ?_
          refine ia_if_ge (pc := 46) F 51 dX7_carryOutText_46 rfl (by omega) (fun h9 => absurd h9 (by omega)) (fun _ => ?_)
          refine ia_iload_n (pc := 49) F dX7_carryOutText_49 rfl ?_
          refine ia_ireturn (pc := 50) F M (by decide) (by decide) dX7_carryOutText_50 ?_
          exact q2 j _ (by omega) hok h_4 hP2 hF2
        · refine j1 ?_
          refine ia_istore_n (pc := 44) F (ls' := [(4, ((0 : Nat) : Int)), (0, (j : Int)), (0, (opR (K j) (A j) (B j) (opN K A B σ j)))]) dX7_carryOutText_44 (Nat.le_of_ble_eq_true rfl) rfl rfl ?_
          have r9 := opR_rng (hK j) hIj (by omega) h_6
          refine ia_iload_n (pc := 45) F dX7_carryOutText_45 rfl ?_
          refine ia_if_ge (pc := 46) F 51 dX7_carryOutText_46 rfl (by omega) (fun _ => ?_) (fun h9 => absurd h9 (by omega))
          refine ia_iinc (pc := 51) F (ls' := [(4, ((0 : Nat) : Int)), (0, ((j + 1 : Nat) : Int)), (0, (opR (K j) (A j) (B j) (opN K A B σ j)))]) dX7_carryOutText_51 rfl rfl rfl rfl ?_
          refine ia_goto (pc := 54) F 2 dX7_carryOutText_54 rfl ?_
          refine jw (ls' := [(4, ((0 : Nat) : Int)), (0, ((j + 1 : Nat) : Int)), (9, 0)]) [false, false, true] rfl ?_
          exact ih2 (j + 1) _ (by omega) (by omega) (fun i hi => by rcases Nat.lt_or_ge i j with g | g; exact hok i g; rw [show i = j by omega]; exact h_6) p_7  (Fr_c hF2 f_8 (by decide)) x_9
  exact L2 (16 + 1) 0 _ (by omega) (by omega) (fun i hi => absurd hi (Nat.not_lt_zero _)) hP  (Fr_0 (V := V) (S := [1, 2, 3, 4, 5, 6, 7, 80, 81, 82, 83, 84, 86])) hS
