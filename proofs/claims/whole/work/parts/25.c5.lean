/-! the class: the best order (made by wip/whole/c1.py) -/
set_option maxRecDepth 100000 in
theorem c_X0_contains {Z : ia_Z} {V : ia_H} {Q : ia_O → ia_Z → ia_H → Prop} (S j : Nat)   (hS : S < 128) (hj : j < 7) (q1 : (S.testBit j = true) → Q (.inl (some (0, 1))) Z V) (q2 : (¬ S.testBit j = true) → Q (.inl (some (0, 0))) Z V) : ia_K yX0_contains cX0_contains 2 (some .boolean) [(0, (S : Int)), (0, (j : Int))] Z V 1 0 0 Q := by
  refine ia_start RX0 "contains" ⟨by decide, rfl, rfl⟩ (Nat.le_of_ble_eq_true rfl) (ia_tg rfl) (fun X F M => ?_)
  show ia_G X 0 0 0 [(0, (S : Int)), (0, (j : Int))] [] Z V
  refine ia_iload_n (pc := 0) F dX0_contains_0 rfl ?_
  refine ia_iconst (pc := 1) F dX0_contains_1 ?_
  refine ia_iload_n (pc := 2) F dX0_contains_2 rfl ?_
  refine ia_ishl (pc := 3) F dX0_contains_3 ?_
  refine ia_iand (pc := 4) F dX0_contains_4 ?_
  have hp := bt_p j hj
  rw [bt_c S hS j hj]
  by_cases hb : S.testBit j = true
  · rw [if_pos hb]
    refine ia_if_eq (pc := 5) F 12 dX0_contains_5 rfl (by omega) (fun h9 => absurd h9 (by omega)) (fun _ => ?_)
    refine ia_iconst (pc := 8) F dX0_contains_8 ?_
    refine ia_goto (pc := 9) F 13 dX0_contains_9 rfl ?_
    refine ia_zreturn (pc := 13) F M (Or.inr rfl) (by decide) (by decide) dX0_contains_13 ?_
    exact q1 hb
  · rw [if_neg hb]
    refine ia_if_eq (pc := 5) F 12 dX0_contains_5 rfl (by omega) (fun _ => ?_) (fun h9 => absurd h9 (by omega))
    refine ia_iconst (pc := 12) F dX0_contains_12 ?_
    refine ia_zreturn (pc := 13) F M (Or.inl rfl) (by decide) (by decide) dX0_contains_13 ?_
    exact q2 hb
set_option maxRecDepth 100000 in
theorem c_X0_listOpen {Z : ia_Z} {V : ia_H} {Q : ia_O → ia_Z → ia_H → Prop} {σ : Nat → Int} {ρ : Nat → Int} {α1 : Nat → Int} {α2 : Nat → Int} {m : Int} (hZ : ZI Z) (hP : PI V) (hS : Sh 1 V σ) (hI : SI σ m) (h80 : V 80 = ρ) (h81 : V 81 = α1) (h82 : V 82 = α2)  (q1 : ∀ (V1 : ia_H), PI V1 → (V1 80 = up ρ 4 ((oc σ (σ 0).toNat : Nat) : Int)) → (V1 81 = mgk (oc σ (σ 0).toNat) (oO σ (σ 0).toNat) α1) → (V1 82 = mgk (oc σ (σ 0).toNat) (oC σ (σ 0).toNat) α2) → (∀ pp, pp ∉ ([80, 81, 82] : List Nat) → V1 pp = V pp) → Q (.inl none) Z V1) : ia_K yX0_listOpen cX0_listOpen 3 none [(4, ((80 : Nat) : Int)), (4, ((1 : Nat) : Int))] Z V 2 0 0 Q := by
  refine ia_start RX0 "listOpen" ⟨by decide, rfl, rfl⟩ (Nat.le_of_ble_eq_true rfl) (ia_tg rfl) (fun X F M => ?_)
  show ia_G X 0 0 0 [(4, ((80 : Nat) : Int)), (4, ((1 : Nat) : Int)), (9, 0)] [] Z V
  obtain ⟨s0, s1, s2, s3, s4, s5, s6, s7, s18, sb, sw, se, sp⟩ := id hI
  refine ia_aload_n (pc := 0) F dX0_listOpen_0 rfl ?_
  refine ia_iconst (pc := 1) F dX0_listOpen_1 ?_
  refine jp (pc := 2) F (z80 hZ) cls4 f4_4 rfl (ia_nI rfl _) il_RX0_24 dX0_listOpen_2 ?_
  refine ia_iconst (pc := 5) F dX0_listOpen_5 ?_
  refine ia_istore_n (pc := 6) F (ls' := [(4, ((80 : Nat) : Int)), (4, ((1 : Nat) : Int)), (0, 0)]) dX0_listOpen_6 (Nat.le_of_ble_eq_true rfl) rfl rfl ?_
  have L7 : ∀ (fu : Nat) (j : Nat) (V2 : ia_H), (7 - j < fu) → ((j : Int) ≤ σ 0) → (PI V2) → (V2 80 = up ρ 4 ((oc σ j : Nat) : Int)) → (V2 81 = mgk (oc σ j) (oO σ j) α1) → (V2 82 = mgk (oc σ j) (oC σ j) α2) → (∀ pp, pp ∉ ([80, 81, 82] : List Nat) → V2 pp = V pp) → ia_G X 0 0 7 [(4, ((80 : Nat) : Int)), (4, ((1 : Nat) : Int)), (0, (j : Int))] [] Z V2 := by
    intro fu
    induction fu with
    | zero => intro j V2 hm; exact absurd hm (Nat.not_lt_zero _)
    | succ fu ih =>
      intro j V2 hm hj hP2 w2_80 w2_81 w2_82 hF2
      have ih7 := ih
      refine ia_iload_n (pc := 7) F dX0_listOpen_7 rfl ?_
      refine ia_aload_n (pc := 8) F dX0_listOpen_8 rfl ?_
      refine jg (pc := 9) F (x := σ 0) (z1 hZ) cls9 f9_6 (Sh_fr hS hF2 (by decide)).f6 il_RX0_55 dX0_listOpen_9 ?_
      refine ia_icmp_ge (pc := 12) F 64 dX0_listOpen_12 rfl (by omega) (by omega) (fun h_1 => ?_) (fun h_1 => ?_)
      · refine ia_return (pc := 64) F M (by decide) (by decide) dX0_listOpen_64 ?_
        rw [show (σ 0).toNat = j by omega] at q1
        exact q1 _ hP2 w2_80 w2_81 w2_82 hF2
      · have r9 := oc_le (σ := σ) j
        have r8 := se j (by omega)
        have r7 : miss σ j = run σ j - prt σ j := rfl
        refine ia_aload_n (pc := 15) F dX0_listOpen_15 rfl ?_
        refine ia_iload_n (pc := 16) F dX0_listOpen_16 rfl ?_
        refine jV (pc := 17) F 0 0 (z1 hZ) cls9.1 (c_X6_missing (j : Int) hZ hP2 (Sh_fr hS hF2 (by decide)) hI (by omega) ?_) rfl ⟨k_X6_missing, il_RX0_58, im_X6_missing, is_X6_missing, ii_RX6⟩ 1 rfl hd_X6_missing ⟨by decide, by decide, by decide, by decide, Nat.le_of_ble_eq_true rfl⟩ dX0_listOpen_17
        change ia_ct X _ _ (17 + 3) _ _ _ (.inl (some (0, (miss σ j)))) _ _
        refine j1 ?_
        refine ia_if_le (pc := 20) F 58 dX0_listOpen_20 rfl (by omega) (fun h_2 => ?_) (fun h_2 => ?_)
        · refine ia_iinc (pc := 58) F (ls' := [(4, ((80 : Nat) : Int)), (4, ((1 : Nat) : Int)), (0, ((j + 1 : Nat) : Int))]) dX0_listOpen_58 rfl rfl rfl rfl ?_
          refine ia_goto (pc := 61) F 7 dX0_listOpen_61 rfl ?_
          exact ih7 (j + 1) _ (by omega) (by omega) hP2 (w2_80.trans (by rw [oc_0 (by omega)])) (w2_81.trans (by rw [oO_0 (by omega), oc_0 (by omega)])) (w2_82.trans (by rw [oC_0 (by omega), oc_0 (by omega)])) hF2
        · refine ia_aload_n (pc := 23) F dX0_listOpen_23 rfl ?_
          refine jg (pc := 24) F (z80 hZ) cls4 f4_0 (hP2 80 0 81 rfl) il_RX0_9 dX0_listOpen_24 ?_
          refine ia_aload_n (pc := 27) F dX0_listOpen_27 rfl ?_
          refine jg (pc := 28) F (x := ((oc σ j : Nat) : Int)) (z80 hZ) cls4 f4_4 ((congrFun w2_80 4).trans (up_self _ _ _)) il_RX0_24 dX0_listOpen_28 ?_
          refine ia_iload_n (pc := 31) F dX0_listOpen_31 rfl ?_
          refine js (pc := 32) F (z81 hZ) (oc σ j) rfl (by omega) dX0_listOpen_32 ?_
          refine ia_aload_n (pc := 33) F dX0_listOpen_33 rfl ?_
          refine jg (pc := 34) F (z80 hZ) cls4 f4_1 ((PI_u hP2 rfl) 80 1 82 rfl) il_RX0_15 dX0_listOpen_34 ?_
          refine ia_aload_n (pc := 37) F dX0_listOpen_37 rfl ?_
          refine jg (pc := 38) F (x := ((oc σ j : Nat) : Int)) (z80 hZ) cls4 f4_4 ((congrFun ((rowN (by decide)).trans w2_80) 4).trans (up_self _ _ _)) il_RX0_24 dX0_listOpen_38 ?_
          refine ia_aload_n (pc := 41) F dX0_listOpen_41 rfl ?_
          refine jg (pc := 42) F (z1 hZ) cls9 f9_1 ((PI_u hP2 rfl) 1 1 3 rfl) il_RX0_62 dX0_listOpen_42 ?_
          refine ia_iload_n (pc := 45) F dX0_listOpen_45 rfl ?_
          have r_3 := se j (by omega)
          refine ja (pc := 46) F (v := col σ j) (z3 hZ) j rfl (by omega) ((Sh_u (Sh_fr hS hF2 (by decide)) (by decide)).col j (by omega)) dX0_listOpen_46 ?_
          refine js (pc := 47) F (z82 hZ) (oc σ j) rfl (by omega) dX0_listOpen_47 ?_
          refine ia_aload_n (pc := 48) F dX0_listOpen_48 rfl ?_
          refine ia_dup (pc := 49) F dX0_listOpen_49 (Or.inr (Or.inr rfl)) ?_
          refine jg (pc := 50) F (x := ((oc σ j : Nat) : Int)) (z80 hZ) cls4 f4_4 ((congrFun ((rowN (by decide)).trans ((rowN (by decide)).trans w2_80)) 4).trans (up_self _ _ _)) il_RX0_24 dX0_listOpen_50 ?_
          refine ia_iconst (pc := 53) F dX0_listOpen_53 ?_
          refine ia_iadd (pc := 54) F dX0_listOpen_54 ?_
          refine jp (pc := 55) F (z80 hZ) cls4 f4_4 rfl (ia_nI rfl _) il_RX0_24 dX0_listOpen_55 ?_
          refine ia_iinc (pc := 58) F (ls' := [(4, ((80 : Nat) : Int)), (4, ((1 : Nat) : Int)), (0, ((j + 1 : Nat) : Int))]) dX0_listOpen_58 rfl rfl rfl rfl ?_
          refine ia_goto (pc := 61) F 7 dX0_listOpen_61 rfl ?_
          exact ih7 (j + 1) _ (by omega) (by omega) (PI_u (PI_u (PI_u hP2 rfl) rfl) rfl) ((rowU ((rowN (by decide)).trans ((rowN (by decide)).trans w2_80))).trans (by rw [up_up, oc_1 (by omega), Int.natCast_add]; rfl)) (((rowN (by decide)).trans ((rowN (by decide)).trans (rowU w2_81))).trans (by rw [mgk_up, oO_1 (by omega), oc_1 (by omega)])) (((rowN (by decide)).trans (rowU ((rowN (by decide)).trans w2_82))).trans (by rw [mgk_up, oC_1 (by omega), oc_1 (by omega)])) (Fr_u (Fr_u (Fr_u hF2 (by decide)) (by decide)) (by decide))
  exact L7 (7 + 1) 0 _ (by omega) (by omega) (PI_u hP rfl) (rowU h80) (((rowN (by decide)).trans h81).trans mgk_0) (((rowN (by decide)).trans h82).trans mgk_0) (Fr_u (Fr_0 (V := V) (S := [80, 81, 82])) (by decide))
set_option maxRecDepth 100000 in
theorem c_X0_chooseNext {Z : ia_Z} {V : ia_H} {Q : ia_O → ia_Z → ia_H → Prop} {ρ : Nat → Int} {α2 : Nat → Int} {α3 : Nat → Int} (S cn : Nat) (c : Int) (hZ : ZI Z) (hP : PI V) (h80 : V 80 = ρ) (h82 : V 82 = α2) (h83 : V 83 = α3) (hcn : ρ 4 = (cn : Int) ∧ cn ≤ 7) (hS : S < 128) (hc : 0 ≤ c ∧ c ≤ 9) (hA : ∀ x : Nat, x < cn → 0 ≤ α2 x ∧ α2 x ≤ 9) (hR : ∀ x : Nat, x < cn → S.testBit x = false → 0 ≤ α3 ((S ||| 2 ^ x) * 7 + x) ∧ α3 ((S ||| 2 ^ x) * 7 + x) ≤ 1000) (q1 : ∀ (V1 : ia_H), PI V1 → (V1 80 = up ρ 6 (chs (cnf α2 α3 S c) (lot S cn)).2) → (∀ pp, pp ∉ ([80] : List Nat) → V1 pp = V pp) → Q (.inl (some (0, (chs (cnf α2 α3 S c) (lot S cn)).1))) Z V1) : ia_K yX0_chooseNext cX0_chooseNext 7 (some .int) [(4, ((80 : Nat) : Int)), (0, (S : Int)), (0, c)] Z V 3 0 0 Q := by
  refine ia_start RX0 "chooseNext" ⟨by decide, rfl, rfl⟩ (Nat.le_of_ble_eq_true rfl) (ia_tg rfl) (fun X F M => ?_)
  show ia_G X 0 0 0 [(4, ((80 : Nat) : Int)), (0, (S : Int)), (0, c), (9, 0), (9, 0), (9, 0), (9, 0)] [] Z V
  refine ia_iconst (pc := 0) F dX0_chooseNext_0 ?_
  refine ia_istore_n (pc := 1) F (ls' := [(4, ((80 : Nat) : Int)), (0, (S : Int)), (0, c), (0, (-1)), (9, 0), (9, 0), (9, 0)]) dX0_chooseNext_1 (Nat.le_of_ble_eq_true rfl) rfl rfl ?_
  refine ia_aload_n (pc := 2) F dX0_chooseNext_2 rfl ?_
  refine ia_iconst (pc := 3) F dX0_chooseNext_3 ?_
  refine jp (pc := 4) F (z80 hZ) cls4 f4_6 rfl (ia_nI rfl _) il_RX0_31 dX0_chooseNext_4 ?_
  refine ia_iconst (pc := 7) F dX0_chooseNext_7 ?_
  refine ia_istore (pc := 8) F (ls' := [(4, ((80 : Nat) : Int)), (0, (S : Int)), (0, c), (0, (-1)), (0, 0), (9, 0), (9, 0)]) dX0_chooseNext_8 (Nat.le_of_ble_eq_true rfl) rfl rfl ?_
  have L10 : ∀ (fu : Nat) (k : Nat) (a v : Int) (V2 : ia_H), (cn - k < fu) → (k ≤ cn) → (a = (chs (cnf α2 α3 S c) (lot S k)).1) → (v = (chs (cnf α2 α3 S c) (lot S k)).2) → (-1 ≤ a ∧ a < (k : Int)) → (0 ≤ v ∧ v ≤ 2000) → (PI V2) → (V2 80 = up ρ 6 v) → (∀ pp, pp ∉ ([80] : List Nat) → V2 pp = V pp) → ia_G X 0 0 10 [(4, ((80 : Nat) : Int)), (0, (S : Int)), (0, c), (0, a), (0, (k : Int)), (9, 0), (9, 0)] [] Z V2 := by
    intro fu
    induction fu with
    | zero => intro k a v V2 hm; exact absurd hm (Nat.not_lt_zero _)
    | succ fu ih =>
      intro k a v V2 hm hk ha hv har hvr hP2 w2_80 hF2
      have ih10 := ih
      refine ia_iload (pc := 10) F dX0_chooseNext_10 rfl ?_
      have hcn1 := hcn.1
      refine ia_aload_n (pc := 12) F dX0_chooseNext_12 rfl ?_
      refine jg (pc := 13) F (x := (cn : Int)) (z80 hZ) cls4 f4_4 (((congrFun w2_80 4).trans (up_ne (by decide))).trans hcn.1) il_RX0_24 dX0_chooseNext_13 ?_
      refine ia_icmp_ge (pc := 16) F 92 dX0_chooseNext_16 rfl (by omega) (by omega) (fun h_1 => ?_) (fun h_1 => ?_)
      · refine ia_iload_n (pc := 92) F dX0_chooseNext_92 rfl ?_
        refine ia_ireturn (pc := 93) F M (by decide) (by decide) dX0_chooseNext_93 ?_
        rw [show cn = k by omega, ← ha, ← hv] at q1
        exact q1 _ hP2 w2_80 hF2
      · have r9 := hA k (by omega)
        refine ia_iload_n (pc := 19) F dX0_chooseNext_19 rfl ?_
        refine ia_iload (pc := 20) F dX0_chooseNext_20 rfl ?_
        refine jS (pc := 22) F 0 0 (c_X0_contains S k (by omega) (by omega) (fun h_2 => ?_) (fun h_3 => ?_)) rfl ⟨k_X0_contains, il_RX0_38, it_X0_contains, ii_RX0⟩ rfl 2 rfl hd_X0_contains ⟨by decide, by decide, by decide, by decide, Nat.le_of_ble_eq_true rfl⟩ dX0_chooseNext_22
        · refine j1 ?_
          refine ia_if_ne (pc := 25) F 86 dX0_chooseNext_25 rfl (by omega) (fun _ => ?_) (fun h9 => absurd h9 (by omega))
          refine ia_iinc (pc := 86) F (ls' := [(4, ((80 : Nat) : Int)), (0, (S : Int)), (0, c), (0, a), (0, ((k + 1 : Nat) : Int)), (9, 0), (9, 0)]) dX0_chooseNext_86 rfl rfl rfl rfl ?_
          refine ia_goto (pc := 89) F 10 dX0_chooseNext_89 rfl ?_
          exact ih10 (k + 1) a v _ (by omega) (by omega) (by rw [lot_1 h_2]; exact ha) (by rw [lot_1 h_2]; exact hv) (by omega) (by omega) hP2 w2_80 hF2
        · refine j1 ?_
          refine ia_if_ne (pc := 25) F 86 dX0_chooseNext_25 rfl (by omega) (fun h9 => absurd h9 (by omega)) (fun _ => ?_)
          have r8 := hR k (by omega) (by simpa using h_3)
          refine ia_aload_n (pc := 28) F dX0_chooseNext_28 rfl ?_
          refine jg (pc := 29) F (z80 hZ) cls4 f4_2 (hP2 80 2 83 rfl) il_RX0_18 dX0_chooseNext_29 ?_
          refine ia_iload_n (pc := 32) F dX0_chooseNext_32 rfl ?_
          refine ia_iconst (pc := 33) F dX0_chooseNext_33 ?_
          refine ia_iload (pc := 34) F dX0_chooseNext_34 rfl ?_
          refine ia_ishl (pc := 36) F dX0_chooseNext_36 ?_
          refine ia_ior (pc := 37) F dX0_chooseNext_37 ?_
          have hor := bt_or S (by omega) k (by omega)
          rw [hor.1]
          refine ia_bipush (pc := 38) F dX0_chooseNext_38 (by decide) ?_
          refine ia_imul (pc := 40) F dX0_chooseNext_40 ?_
          refine ia_iload (pc := 41) F dX0_chooseNext_41 rfl ?_
          refine ia_iadd (pc := 43) F dX0_chooseNext_43 ?_
          refine ja (pc := 44) F (v := α3 ((S ||| 2 ^ k) * 7 + k)) (z83 hZ) ((S ||| 2 ^ k) * 7 + k) rfl (by omega) (congrFun ((hF2 83 (by decide)).trans h83) ((S ||| 2 ^ k) * 7 + k)) dX0_chooseNext_44 ?_
          refine ia_istore (pc := 45) F (ls' := [(4, ((80 : Nat) : Int)), (0, (S : Int)), (0, c), (0, a), (0, (k : Int)), (0, α3 ((S ||| 2 ^ k) * 7 + k)), (9, 0)]) dX0_chooseNext_45 (Nat.le_of_ble_eq_true rfl) rfl rfl ?_
          refine ia_iload_n (pc := 47) F dX0_chooseNext_47 rfl ?_
          refine ia_aload_n (pc := 48) F dX0_chooseNext_48 rfl ?_
          refine jg (pc := 49) F (z80 hZ) cls4 f4_1 (hP2 80 1 82 rfl) il_RX0_15 dX0_chooseNext_49 ?_
          refine ia_iload (pc := 52) F dX0_chooseNext_52 rfl ?_
          refine ja (pc := 54) F (v := α2 k) (z82 hZ) k rfl (by omega) (congrFun ((hF2 82 (by decide)).trans h82) k) dX0_chooseNext_54 ?_
          refine jSN (pc := 55) F 0 0 (c_X7_washMinutes c (α2 k) (by omega) (by omega) ?_) rfl ⟨k_X7_washMinutes, il_RX0_65, it_X7_washMinutes, ii_RX7⟩ 2 rfl hd_X7_washMinutes ⟨by decide, by decide, by decide, by decide, Nat.le_of_ble_eq_true rfl⟩ dX0_chooseNext_55
          refine j1 ?_
          have r7 := wash_rng hc (hA k (by omega))
          refine ia_iload (pc := 58) F dX0_chooseNext_58 rfl ?_
          refine ia_iadd (pc := 60) F dX0_chooseNext_60 ?_
          refine ia_istore (pc := 61) F (ls' := [(4, ((80 : Nat) : Int)), (0, (S : Int)), (0, c), (0, a), (0, (k : Int)), (0, α3 ((S ||| 2 ^ k) * 7 + k)), (0, ((wash c (α2 k)) + α3 ((S ||| 2 ^ k) * 7 + k)))]) dX0_chooseNext_61 (Nat.le_of_ble_eq_true rfl) rfl rfl ?_
          refine ia_iload_n (pc := 63) F dX0_chooseNext_63 rfl ?_
          refine ia_iconst (pc := 64) F dX0_chooseNext_64 ?_
          refine ia_icmp_eq (pc := 65) F 77 dX0_chooseNext_65 rfl (by omega) (by omega) (fun h_4 => ?_) (fun h_4 => ?_)
          · refine ia_iload (pc := 77) F dX0_chooseNext_77 rfl ?_
            refine ia_istore_n (pc := 79) F (ls' := [(4, ((80 : Nat) : Int)), (0, (S : Int)), (0, c), (0, (k : Int)), (0, (k : Int)), (0, α3 ((S ||| 2 ^ k) * 7 + k)), (0, ((wash c (α2 k)) + α3 ((S ||| 2 ^ k) * 7 + k)))]) dX0_chooseNext_79 (Nat.le_of_ble_eq_true rfl) rfl rfl ?_
            refine ia_aload_n (pc := 80) F dX0_chooseNext_80 rfl ?_
            refine ia_iload (pc := 81) F dX0_chooseNext_81 rfl ?_
            refine jp (pc := 83) F (z80 hZ) cls4 f4_6 rfl (ia_nI rfl _) il_RX0_31 dX0_chooseNext_83 ?_
            refine ia_iinc (pc := 86) F (ls' := [(4, ((80 : Nat) : Int)), (0, (S : Int)), (0, c), (0, (k : Int)), (0, ((k + 1 : Nat) : Int)), (0, α3 ((S ||| 2 ^ k) * 7 + k)), (0, ((wash c (α2 k)) + α3 ((S ||| 2 ^ k) * 7 + k)))]) dX0_chooseNext_86 rfl rfl rfl rfl ?_
            refine ia_goto (pc := 89) F 10 dX0_chooseNext_89 rfl ?_
            refine jw (ls' := [(4, ((80 : Nat) : Int)), (0, (S : Int)), (0, c), (0, (k : Int)), (0, ((k + 1 : Nat) : Int)), (9, 0), (9, 0)]) [false, false, false, false, false, true, true] rfl ?_
            exact ih10 (k + 1) (k : Int) (((wash c (α2 k)) + α3 ((S ||| 2 ^ k) * 7 + k))) _ (by omega) (by omega) (by (rw [lot_0 h_3, chs_1 (by rw [← ha, ← hv]; unfold cnf; omega)]) <;> rfl) (by (rw [lot_0 h_3, chs_1 (by rw [← ha, ← hv]; unfold cnf; omega)]) <;> rfl) (by omega) (by omega) (PI_u hP2 rfl) ((rowU w2_80).trans up_up) (Fr_u hF2 (by decide))
          · refine ia_iload (pc := 68) F dX0_chooseNext_68 rfl ?_
            refine ia_aload_n (pc := 70) F dX0_chooseNext_70 rfl ?_
            refine jg (pc := 71) F (x := v) (z80 hZ) cls4 f4_6 ((congrFun w2_80 6).trans (up_self _ _ _)) il_RX0_31 dX0_chooseNext_71 ?_
            refine ia_icmp_ge (pc := 74) F 86 dX0_chooseNext_74 rfl (by omega) (by omega) (fun h_5 => ?_) (fun h_5 => ?_)
            · refine ia_iinc (pc := 86) F (ls' := [(4, ((80 : Nat) : Int)), (0, (S : Int)), (0, c), (0, a), (0, ((k + 1 : Nat) : Int)), (0, α3 ((S ||| 2 ^ k) * 7 + k)), (0, ((wash c (α2 k)) + α3 ((S ||| 2 ^ k) * 7 + k)))]) dX0_chooseNext_86 rfl rfl rfl rfl ?_
              refine ia_goto (pc := 89) F 10 dX0_chooseNext_89 rfl ?_
              refine jw (ls' := [(4, ((80 : Nat) : Int)), (0, (S : Int)), (0, c), (0, a), (0, ((k + 1 : Nat) : Int)), (9, 0), (9, 0)]) [false, false, false, false, false, true, true] rfl ?_
              exact ih10 (k + 1) a v _ (by omega) (by omega) (by rw [lot_0 h_3, chs_0 (by rw [← ha, ← hv]; unfold cnf; omega)]; exact ha) (by rw [lot_0 h_3, chs_0 (by rw [← ha, ← hv]; unfold cnf; omega)]; exact hv) (by omega) (by omega) hP2 w2_80 hF2
            · refine ia_iload (pc := 77) F dX0_chooseNext_77 rfl ?_
              refine ia_istore_n (pc := 79) F (ls' := [(4, ((80 : Nat) : Int)), (0, (S : Int)), (0, c), (0, (k : Int)), (0, (k : Int)), (0, α3 ((S ||| 2 ^ k) * 7 + k)), (0, ((wash c (α2 k)) + α3 ((S ||| 2 ^ k) * 7 + k)))]) dX0_chooseNext_79 (Nat.le_of_ble_eq_true rfl) rfl rfl ?_
              refine ia_aload_n (pc := 80) F dX0_chooseNext_80 rfl ?_
              refine ia_iload (pc := 81) F dX0_chooseNext_81 rfl ?_
              refine jp (pc := 83) F (z80 hZ) cls4 f4_6 rfl (ia_nI rfl _) il_RX0_31 dX0_chooseNext_83 ?_
              refine ia_iinc (pc := 86) F (ls' := [(4, ((80 : Nat) : Int)), (0, (S : Int)), (0, c), (0, (k : Int)), (0, ((k + 1 : Nat) : Int)), (0, α3 ((S ||| 2 ^ k) * 7 + k)), (0, ((wash c (α2 k)) + α3 ((S ||| 2 ^ k) * 7 + k)))]) dX0_chooseNext_86 rfl rfl rfl rfl ?_
              refine ia_goto (pc := 89) F 10 dX0_chooseNext_89 rfl ?_
              refine jw (ls' := [(4, ((80 : Nat) : Int)), (0, (S : Int)), (0, c), (0, (k : Int)), (0, ((k + 1 : Nat) : Int)), (9, 0), (9, 0)]) [false, false, false, false, false, true, true] rfl ?_
              exact ih10 (k + 1) (k : Int) (((wash c (α2 k)) + α3 ((S ||| 2 ^ k) * 7 + k))) _ (by omega) (by omega) (by (rw [lot_0 h_3, chs_1 (by rw [← ha, ← hv]; unfold cnf; omega)]) <;> rfl) (by (rw [lot_0 h_3, chs_1 (by rw [← ha, ← hv]; unfold cnf; omega)]) <;> rfl) (by omega) (by omega) (PI_u hP2 rfl) ((rowU w2_80).trans up_up) (Fr_u hF2 (by decide))
  exact L10 (cn + 1) 0 (-1) 0 _ (by omega) (by omega) rfl rfl (by omega) (by omega) (PI_u hP rfl) (rowU h80) (Fr_u (Fr_0 (V := V) (S := [80])) (by decide))
set_option maxRecDepth 100000 in
theorem c_X0_follow {Z : ia_Z} {V : ia_H} {Q : ia_O → ia_Z → ia_H → Prop} {ρ : Nat → Int} {α1 : Nat → Int} {α2 : Nat → Int} {α3 : Nat → Int} {α4 : Nat → Int} (p : Int) (cn : Nat) (hZ : ZI Z) (hP : PI V) (h80 : V 80 = ρ) (h81 : V 81 = α1) (h82 : V 82 = α2) (h83 : V 83 = α3) (h84 : V 84 = α4) (hcn : ρ 4 = (cn : Int) ∧ cn ≤ 7) (hc : 0 ≤ p ∧ p ≤ 9) (hA : ∀ x : Nat, x < cn → 0 ≤ α2 x ∧ α2 x ≤ 9) (hTB : TB α2 α3 cn 0) (q1 : ∀ (V1 : ia_H), PI V1 → (∀ pp, pp ∉ ([80, 84] : List Nat) → V1 pp = V pp) → (V1 80 4 = (cn : Int)) → (V1 80 5 = mcl α2 p (lot 0 cn)) → (∀ i : Nat, i < cn → V1 84 i = α1 ((mol α2 p (lot 0 cn)).getD i 0)) → Q (.inl none) Z V1) : ia_K yX0_follow cX0_follow 6 none [(4, ((80 : Nat) : Int)), (0, p)] Z V 4 0 0 Q := by
  refine ia_start RX0 "follow" ⟨by decide, rfl, rfl⟩ (Nat.le_of_ble_eq_true rfl) (ia_tg rfl) (fun X F M => ?_)
  show ia_G X 0 0 0 [(4, ((80 : Nat) : Int)), (0, p), (9, 0), (9, 0), (9, 0), (9, 0)] [] Z V
  refine ia_iconst (pc := 0) F dX0_follow_0 ?_
  refine ia_istore_n (pc := 1) F (ls' := [(4, ((80 : Nat) : Int)), (0, p), (0, 0), (9, 0), (9, 0), (9, 0)]) dX0_follow_1 (Nat.le_of_ble_eq_true rfl) rfl rfl ?_
  refine ia_iload_n (pc := 2) F dX0_follow_2 rfl ?_
  refine ia_istore_n (pc := 3) F (ls' := [(4, ((80 : Nat) : Int)), (0, p), (0, 0), (0, p), (9, 0), (9, 0)]) dX0_follow_3 (Nat.le_of_ble_eq_true rfl) rfl rfl ?_
  refine ia_aload_n (pc := 4) F dX0_follow_4 rfl ?_
  refine ia_iconst (pc := 5) F dX0_follow_5 ?_
  refine jp (pc := 6) F (z80 hZ) cls4 f4_5 rfl (ia_nI rfl _) il_RX0_28 dX0_follow_6 ?_
  refine ia_iconst (pc := 9) F dX0_follow_9 ?_
  refine ia_istore (pc := 10) F (ls' := [(4, ((80 : Nat) : Int)), (0, p), (0, 0), (0, p), (0, 0), (9, 0)]) dX0_follow_10 (Nat.le_of_ble_eq_true rfl) rfl rfl ?_
  have L12 : ∀ (fu : Nat) (q T : Nat) (c : Int) (R8 R4 : Nat → Int) (PL : List Nat) (V2 : ia_H), (cn - q < fu) → (q ≤ cn) → (T < 2 ^ cn) → (0 ≤ c ∧ c ≤ 9) → (R8 4 = (cn : Int)) → (R8 5 + mcl α2 c (lot T cn) = mcl α2 p (lot 0 cn)) → (mol α2 p (lot 0 cn) = PL ++ mol α2 c (lot T cn)) → (PL.length = q) → (∀ i : Nat, i < q → R4 i = α1 (PL.getD i 0)) → (PI V2) → (V2 80 = R8) → (V2 84 = R4) → (∀ pp, pp ∉ ([80, 84] : List Nat) → V2 pp = V pp) → ia_G X 0 0 12 [(4, ((80 : Nat) : Int)), (0, p), (0, (T : Int)), (0, c), (0, (q : Int)), (9, 0)] [] Z V2 := by
    intro fu
    induction fu with
    | zero => intro q T c R8 R4 PL V2 hm; exact absurd hm (Nat.not_lt_zero _)
    | succ fu ih =>
      intro q T c R8 R4 PL V2 hm hq hT hc2 h8 h5 hM hL hO hP2 w2_80 w2_84 hF2
      have ih12 := ih
      have hpw := pw_le cn (by omega)
      refine ia_iload (pc := 12) F dX0_follow_12 rfl ?_
      refine ia_aload_n (pc := 14) F dX0_follow_14 rfl ?_
      refine jg (pc := 15) F (x := (cn : Int)) (z80 hZ) cls4 f4_4 ((congrFun w2_80 4).trans h8) il_RX0_24 dX0_follow_15 ?_
      refine ia_icmp_ge (pc := 18) F 91 dX0_follow_18 rfl (by omega) (by omega) (fun h_1 => ?_) (fun h_1 => ?_)
      · refine ia_return (pc := 91) F M (by decide) (by decide) dX0_follow_91 ?_
        have hlen : cn = q + (lot T cn).length := by have e9 := congrArg List.length hM; rw [List.length_append, mol_len, mol_len, lot_len, hL] at e9; exact e9
        have hnil : lot T cn = [] := List.eq_nil_of_length_eq_zero (by omega)
        rw [hnil] at h5 hM
        rw [mol_nil, List.append_nil] at hM
        refine q1 _ hP2 hF2 (by rw [w2_80]; exact h8) (by rw [w2_80, ← h5]; show R8 5 = R8 5 + 0; omega) (fun i hi => by rw [w2_84, hM]; exact hO i (by omega))
      · refine ia_aload_n (pc := 21) F dX0_follow_21 rfl ?_
        refine ia_iload_n (pc := 22) F dX0_follow_22 rfl ?_
        refine ia_iload_n (pc := 23) F dX0_follow_23 rfl ?_
        refine jV (pc := 24) F 0 0 (z80 hZ) cls4.1 (c_X0_chooseNext T cn c hZ hP2 w2_80 ((hF2 82 (by decide)).trans h82) ((hF2 83 (by decide)).trans h83) ⟨h8, hcn.2⟩ (by omega) hc2 hA (fun x hx hb => TB_rng (fun S9 h8 => hTB S9 (by omega)) hcn.2 hT hA hx hb) (fun V_2 p_3 w_4 f_5 => ?_)) rfl ⟨k_X0_chooseNext, il_RX0_42, im_X0_chooseNext, is_X0_chooseNext, ii_RX0⟩ 2 rfl hd_X0_chooseNext ⟨by decide, by decide, by decide, by decide, Nat.le_of_ble_eq_true rfl⟩ dX0_follow_24
        refine j1 ?_
        have hlen : cn = q + (lot T cn).length := by have e9 := congrArg List.length hM; rw [List.length_append, mol_len, mol_len, lot_len, hL] at e9; exact e9
        have hne : lot T cn ≠ [] := fun e => by rw [e] at hlen; simp at hlen; omega
        obtain ⟨p9, s9, x, e1, e2, -, -⟩ := chs_spec (mof α2 c (lot T cn)) hne
        have e3 := TB_chs (c := c) (fun S9 h8 => hTB S9 (by omega)) hcn.2 hT
        have e4 : (chs (cnf α2 α3 T c) (lot T cn)).1 = (x : Int) := by rw [e3, e2]
        have hx : x ∈ lot T cn := by rw [e1]; exact List.mem_append_right _ List.mem_cons_self
        have hx2 := (lot_mem cn).mp hx
        have hx3 := hx2.1
        have hax := hA x hx3
        rw [e4]
        have hmx := (mcl_at hne (by rw [e2])).2
        have hor := bt_or T (by omega) x (by omega)
        have hle := lot_erase (S := T) (S' := T ||| 2 ^ x) (j := x) hx2.2 (fun k hk => bt_orb T (by omega) x (by omega) k hk) cn hcn.2
        have hwx := wash_rng hc2 hax
        refine ia_istore (pc := 27) F (ls' := [(4, ((80 : Nat) : Int)), (0, p), (0, (T : Int)), (0, c), (0, (q : Int)), (0, (x : Int))]) dX0_follow_27 (Nat.le_of_ble_eq_true rfl) rfl rfl ?_
        refine ia_iload (pc := 29) F dX0_follow_29 rfl ?_
        refine ia_iconst (pc := 31) F dX0_follow_31 ?_
        refine ia_icmp_ne (pc := 32) F 36 dX0_follow_32 rfl (by omega) (by omega) (fun _ => ?_) (fun h9 => absurd h9 (by omega))
        refine ia_aload_n (pc := 36) F dX0_follow_36 rfl ?_
        refine ia_dup (pc := 37) F dX0_follow_37 (Or.inr (Or.inr rfl)) ?_
        refine jg (pc := 38) F (x := R8 5) (z80 hZ) cls4 f4_5 ((congrFun w_4 5).trans (up_ne (by decide))) il_RX0_28 dX0_follow_38 ?_
        refine ia_iload_n (pc := 41) F dX0_follow_41 rfl ?_
        refine ia_aload_n (pc := 42) F dX0_follow_42 rfl ?_
        refine jg (pc := 43) F (z80 hZ) cls4 f4_1 (p_3 80 1 82 rfl) il_RX0_15 dX0_follow_43 ?_
        refine ia_iload (pc := 46) F dX0_follow_46 rfl ?_
        refine ja (pc := 48) F (v := α2 x) (z82 hZ) x rfl (by omega) (congrFun ((f_5 82 (by decide)).trans ((hF2 82 (by decide)).trans h82)) x) dX0_follow_48 ?_
        refine jSN (pc := 49) F 0 0 (c_X7_washMinutes c (α2 x) (by omega) (by omega) ?_) rfl ⟨k_X7_washMinutes, il_RX0_65, it_X7_washMinutes, ii_RX7⟩ 2 rfl hd_X7_washMinutes ⟨by decide, by decide, by decide, by decide, Nat.le_of_ble_eq_true rfl⟩ dX0_follow_49
        refine j1 ?_
        refine ia_iadd (pc := 52) F dX0_follow_52 ?_
        refine jp (pc := 53) F (z80 hZ) cls4 f4_5 rfl (ia_nI rfl _) il_RX0_28 dX0_follow_53 ?_
        refine ia_aload_n (pc := 56) F dX0_follow_56 rfl ?_
        refine jg (pc := 57) F (z80 hZ) cls4 f4_3 ((PI_u p_3 rfl) 80 3 84 rfl) il_RX0_21 dX0_follow_57 ?_
        refine ia_iload (pc := 60) F dX0_follow_60 rfl ?_
        refine ia_aload_n (pc := 62) F dX0_follow_62 rfl ?_
        refine jg (pc := 63) F (z80 hZ) cls4 f4_0 ((PI_u p_3 rfl) 80 0 81 rfl) il_RX0_9 dX0_follow_63 ?_
        refine ia_iload (pc := 66) F dX0_follow_66 rfl ?_
        refine ja (pc := 68) F (v := α1 x) (z81 hZ) x rfl (by omega) (congrFun ((rowN (by decide)).trans ((f_5 81 (by decide)).trans ((hF2 81 (by decide)).trans h81))) x) dX0_follow_68 ?_
        refine js (pc := 69) F (z84 hZ) q rfl (by omega) dX0_follow_69 ?_
        refine ia_iload_n (pc := 70) F dX0_follow_70 rfl ?_
        refine ia_iconst (pc := 71) F dX0_follow_71 ?_
        refine ia_iload (pc := 72) F dX0_follow_72 rfl ?_
        refine ia_ishl (pc := 74) F dX0_follow_74 ?_
        refine ia_ior (pc := 75) F dX0_follow_75 ?_
        rw [hor.1]
        refine ia_istore_n (pc := 76) F (ls' := [(4, ((80 : Nat) : Int)), (0, p), (0, ((T ||| 2 ^ x : Nat) : Int)), (0, c), (0, (q : Int)), (0, (x : Int))]) dX0_follow_76 (Nat.le_of_ble_eq_true rfl) rfl rfl ?_
        refine ia_aload_n (pc := 77) F dX0_follow_77 rfl ?_
        refine jg (pc := 78) F (z80 hZ) cls4 f4_1 ((PI_u (PI_u p_3 rfl) rfl) 80 1 82 rfl) il_RX0_15 dX0_follow_78 ?_
        refine ia_iload (pc := 81) F dX0_follow_81 rfl ?_
        refine ja (pc := 83) F (v := α2 x) (z82 hZ) x rfl (by omega) (congrFun ((rowN (by decide)).trans ((rowN (by decide)).trans ((f_5 82 (by decide)).trans ((hF2 82 (by decide)).trans h82)))) x) dX0_follow_83 ?_
        refine ia_istore_n (pc := 84) F (ls' := [(4, ((80 : Nat) : Int)), (0, p), (0, ((T ||| 2 ^ x : Nat) : Int)), (0, α2 x), (0, (q : Int)), (0, (x : Int))]) dX0_follow_84 (Nat.le_of_ble_eq_true rfl) rfl rfl ?_
        refine ia_iinc (pc := 85) F (ls' := [(4, ((80 : Nat) : Int)), (0, p), (0, ((T ||| 2 ^ x : Nat) : Int)), (0, α2 x), (0, ((q + 1 : Nat) : Int)), (0, (x : Int))]) dX0_follow_85 rfl rfl rfl rfl ?_
        refine ia_goto (pc := 88) F 12 dX0_follow_88 rfl ?_
        refine jw (ls' := [(4, ((80 : Nat) : Int)), (0, p), (0, ((T ||| 2 ^ x : Nat) : Int)), (0, α2 x), (0, ((q + 1 : Nat) : Int)), (9, 0)]) [false, false, false, false, false, true] rfl ?_
        exact ih12 (q + 1) (T ||| 2 ^ x) (α2 x) (up (up R8 6 ((chs (cnf α2 α3 T c) (lot T cn)).2)) 5 (R8 5 + (wash c (α2 x)))) (up R4 q (α1 x)) (PL ++ [x]) _ (by omega) (by omega) (bt_lt cn (by omega) T hT x hx3).1 hax (by rw [up_ne (by decide), up_ne (by decide)]; exact h8) (by rw [up_self, ← h5, hmx, hle]; unfold mof; omega) (by rw [hM, mol_s hx (by rw [e2]), hle, List.append_assoc]; rfl) (by rw [List.length_append, hL]; rfl) (ord_s hL hO) (PI_u (PI_u p_3 rfl) rfl) ((rowN (by decide)).trans (rowU w_4)) (rowU ((rowN (by decide)).trans ((f_5 84 (by decide)).trans w2_84))) (Fr_u (Fr_u (Fr_c hF2 f_5 (by decide)) (by decide)) (by decide))
  exact L12 (cn + 1) 0 0 p (up ρ 5 0) α4 [] _ (by omega) (by omega) (Nat.two_pow_pos _) hc ((up_ne (by decide)).trans hcn.1) (by rw [up_self]; omega) rfl rfl (fun i hi => absurd hi (Nat.not_lt_zero _)) (PI_u hP rfl) (rowU h80) ((rowN (by decide)).trans h84) (Fr_u (Fr_0 (V := V) (S := [80, 84])) (by decide))
set_option maxRecDepth 100000 in
theorem c_X0_find {Z : ia_Z} {V : ia_H} {Q : ia_O → ia_Z → ia_H → Prop} {σ : Nat → Int} {ρ : Nat → Int} {α1 : Nat → Int} {α2 : Nat → Int} {α3 : Nat → Int} {α4 : Nat → Int} {m : Int} (hZ : ZI Z) (hP : PI V) (hS : Sh 1 V σ) (hI : SI σ m) (h80 : V 80 = ρ) (h81 : V 81 = α1) (h82 : V 82 = α2) (h83 : V 83 = α3) (h84 : V 84 = α4)  (q1 : ∀ (V1 : ia_H), PI V1 → (∀ pp, pp ∉ ([80, 81, 82, 83, 84] : List Nat) → V1 pp = V pp) → (V1 80 4 = ((oc σ (σ 0).toNat : Nat) : Int)) → (V1 80 5 = mcl (oC σ (σ 0).toNat) (σ 4) (lot 0 (oc σ (σ 0).toNat))) → (∀ i : Nat, i < oc σ (σ 0).toNat → V1 84 i = oO σ (σ 0).toNat ((mol (oC σ (σ 0).toNat) (σ 4) (lot 0 (oc σ (σ 0).toNat))).getD i 0)) → Q (.inl none) Z V1) : ia_K yX0_find cX0_find 4 none [(4, ((80 : Nat) : Int)), (4, ((1 : Nat) : Int))] Z V 5 0 0 Q := by
  refine ia_start RX0 "find" ⟨by decide, rfl, rfl⟩ (Nat.le_of_ble_eq_true rfl) (ia_tg rfl) (fun X F M => ?_)
  show ia_G X 0 0 0 [(4, ((80 : Nat) : Int)), (4, ((1 : Nat) : Int)), (9, 0), (9, 0)] [] Z V
  obtain ⟨s0, s1, s2, s3, s4, s5, s6, s7, s18, sb, sw, se, sp⟩ := id hI
  refine ia_aload_n (pc := 0) F dX0_find_0 rfl ?_
  refine ia_aload_n (pc := 1) F dX0_find_1 rfl ?_
  refine jV (pc := 2) F 0 0 (z80 hZ) cls4.1 (c_X0_listOpen hZ hP hS hI h80 h81 h82 (fun V_1 p_2 w_3 w_4 w_5 f_6 => ?_)) rfl ⟨k_X0_listOpen, il_RX0_34, im_X0_listOpen, is_X0_listOpen, ii_RX0⟩ 1 rfl hd_X0_listOpen ⟨by decide, by decide, by decide, by decide, Nat.le_of_ble_eq_true rfl⟩ dX0_find_2
  refine j0 ?_
  have L5 : ∀ (A1 A2 : Nat → Int) (cn : Nat) (V9 : ia_H), (A1 = mgk (oc σ (σ 0).toNat) (oO σ (σ 0).toNat) α1) → (A2 = mgk (oc σ (σ 0).toNat) (oC σ (σ 0).toNat) α2) → (cn = oc σ (σ 0).toNat) → (PI V9) → (V9 80 = up ρ 4 (cn : Int)) → (V9 81 = A1) → (V9 82 = A2) → (V9 83 = α3) → (V9 84 = α4) → (∀ pp, pp ∉ ([80, 81, 82, 83, 84] : List Nat) → V9 pp = V pp) → ia_G X 0 0 5 [(4, ((80 : Nat) : Int)), (4, ((1 : Nat) : Int)), (9, 0), (9, 0)] [] Z V9 := by
    intro A1 A2 cn V9 hA1 hA2 hcn hP9 w9_80 w9_81 w9_82 w9_83 w9_84 hF9
    refine ia_iconst (pc := 5) F dX0_find_5 ?_
    have hcn7 := oc_le (σ := σ) (σ 0).toNat
    have hAr : ∀ x : Nat, x < cn → 0 ≤ A2 x ∧ A2 x ≤ 9 := fun x hx => by rw [hA2, mgk_lt (by omega)]; obtain ⟨e9, g1, g2, g3, g4⟩ := oO_spec (σ := σ) (σ 0).toNat x (by omega); rw [g3]; exact (se e9 (by omega)).1
    refine ia_aload_n (pc := 6) F dX0_find_6 rfl ?_
    refine jg (pc := 7) F (x := (cn : Int)) (z80 hZ) cls4 f4_4 ((congrFun w9_80 4).trans (up_self _ _ _)) il_RX0_24 dX0_find_7 ?_
    refine ia_ishl (pc := 10) F dX0_find_10 ?_
    have hpw := pw_le cn (by omega)
    have hpo := Nat.two_pow_pos cn
    rw [(bt_1 cn (by omega)).1]
    refine ia_iconst (pc := 11) F dX0_find_11 ?_
    refine ia_isub (pc := 12) F dX0_find_12 ?_
    rw [show (((2 ^ cn : Nat) : Int) - 1) = ((2 ^ cn - 1 : Nat) : Int) from by omega]
    refine ia_istore_n (pc := 13) F (ls' := [(4, ((80 : Nat) : Int)), (4, ((1 : Nat) : Int)), (0, ((2 ^ cn - 1 : Nat) : Int)), (9, 0)]) dX0_find_13 (Nat.le_of_ble_eq_true rfl) rfl rfl ?_
    have L14 : ∀ (fu : Nat) (T : Nat) (R8 R3 : Nat → Int) (V3 : ia_H), (T < fu) → (T < 2 ^ cn) → (TB A2 R3 cn T) → (R8 4 = (cn : Int)) → (PI V3) → (V3 80 = R8) → (V3 81 = A1) → (V3 82 = A2) → (V3 83 = R3) → (V3 84 = α4) → (∀ pp, pp ∉ ([80, 81, 82, 83, 84] : List Nat) → V3 pp = V pp) → ia_G X 0 0 14 [(4, ((80 : Nat) : Int)), (4, ((1 : Nat) : Int)), (0, (T : Int)), (9, 0)] [] Z V3 := by
      intro fu
      induction fu with
      | zero => intro T R8 R3 V3 hm; exact absurd hm (Nat.not_lt_zero _)
      | succ fu ih =>
        intro T R8 R3 V3 hm hT hTB h8 hP3 w3_80 w3_81 w3_82 w3_83 w3_84 hF3
        have ih14 := ih
        refine ia_iload_n (pc := 14) F dX0_find_14 rfl ?_
        refine ia_if_le (pc := 15) F 75 dX0_find_15 rfl (by omega) (fun h_7 => ?_) (fun h_7 => ?_)
        · refine ia_aload_n (pc := 75) F dX0_find_75 rfl ?_
          refine ia_aload_n (pc := 76) F dX0_find_76 rfl ?_
          refine jg (pc := 77) F (x := σ 4) (z1 hZ) cls9 f9_10 (Sh_fr hS hF3 (by decide)).f10 il_RX0_46 dX0_find_77 ?_
          refine jV (pc := 80) F 0 0 (z80 hZ) cls4.1 (c_X0_follow (σ 4) cn hZ hP3 w3_80 w3_81 w3_82 w3_83 w3_84 ⟨h8, by omega⟩ (by omega) hAr (by have e0 : T = 0 := (by omega); rw [e0] at hTB; exact hTB) (fun V_8 p_9 f_10 x_11 x_12 x_13 => ?_)) rfl ⟨k_X0_follow, il_RX0_51, im_X0_follow, is_X0_follow, ii_RX0⟩ 1 rfl hd_X0_follow ⟨by decide, by decide, by decide, by decide, Nat.le_of_ble_eq_true rfl⟩ dX0_find_80
          refine j0 ?_
          refine ia_return (pc := 83) F M (by decide) (by decide) dX0_find_83 ?_
          subst hcn
          have hex : ∀ x, x ∈ lot 0 (oc σ (σ 0).toNat) → A2 x = oC σ (σ 0).toNat x := fun x hx => by rw [hA2]; exact mgk_lt ((lot_mem _).mp hx).1
          refine q1 _ p_9 (Fr_c hF3 f_10 (by decide)) x_11 (by rw [x_12, mcl_ext hex]) (fun i hi => by rw [x_13 i hi, mol_ext hex, hA1, mgk_lt (mol_lt hi)])
        · refine ia_iconst (pc := 18) F dX0_find_18 ?_
          refine ia_istore_n (pc := 19) F (ls' := [(4, ((80 : Nat) : Int)), (4, ((1 : Nat) : Int)), (0, (T : Int)), (0, 0)]) dX0_find_19 (Nat.le_of_ble_eq_true rfl) rfl rfl ?_
          have L20 : ∀ (fu : Nat) (l : Nat) (U8 U3 : Nat → Int) (V4 : ia_H), (cn - l < fu) → (l ≤ cn) → (TB A2 U3 cn T) → (TC A2 U3 cn T l) → (U8 4 = (cn : Int)) → (PI V4) → (V4 80 = U8) → (V4 81 = A1) → (V4 82 = A2) → (V4 83 = U3) → (V4 84 = α4) → (∀ pp, pp ∉ ([80, 81, 82, 83, 84] : List Nat) → V4 pp = V pp) → ia_G X 0 0 20 [(4, ((80 : Nat) : Int)), (4, ((1 : Nat) : Int)), (0, (T : Int)), (0, (l : Int))] [] Z V4 := by
            intro fu
            induction fu with
            | zero => intro l U8 U3 V4 hm; exact absurd hm (Nat.not_lt_zero _)
            | succ fu ih =>
              intro l U8 U3 V4 hm hl hTB2 hTC h82 hP4 w4_80 w4_81 w4_82 w4_83 w4_84 hF4
              have ih20 := ih
              refine ia_iload_n (pc := 20) F dX0_find_20 rfl ?_
              refine ia_aload_n (pc := 21) F dX0_find_21 rfl ?_
              refine jg (pc := 22) F (x := (cn : Int)) (z80 hZ) cls4 f4_4 ((congrFun w4_80 4).trans h82) il_RX0_24 dX0_find_22 ?_
              refine ia_icmp_ge (pc := 25) F 69 dX0_find_25 rfl (by omega) (by omega) (fun h_14 => ?_) (fun h_14 => ?_)
              · refine ia_iinc (pc := 69) F (ls' := [(4, ((80 : Nat) : Int)), (4, ((1 : Nat) : Int)), (0, ((T : Int) + (-1))), (0, (l : Int))]) dX0_find_69 rfl rfl rfl rfl ?_
                rw [show ((T : Int) + (-1)) = ((T - 1 : Nat) : Int) from by omega]
                refine ia_goto (pc := 72) F 14 dX0_find_72 rfl ?_
                refine jw (ls' := [(4, ((80 : Nat) : Int)), (4, ((1 : Nat) : Int)), (0, ((T - 1 : Nat) : Int)), (9, 0)]) [false, false, false, true] rfl ?_
                exact ih14 (T - 1) U8 U3 _ (by omega) (by omega) (TB_s (by rw [show T - 1 + 1 = T by omega]; exact hTB2) (by rw [show T - 1 + 1 = T by omega]; have el : l = cn := (by omega); rw [el] at hTC; exact hTC)) h82 hP4 w4_80 w4_81 w4_82 w4_83 w4_84 hF4
              · have hTl : T < 128 := (by omega)
                refine ia_iload_n (pc := 28) F dX0_find_28 rfl ?_
                refine ia_iload_n (pc := 29) F dX0_find_29 rfl ?_
                refine jS (pc := 30) F 0 0 (c_X0_contains T l (by omega) (by omega) (fun h_15 => ?_) (fun h_16 => ?_)) rfl ⟨k_X0_contains, il_RX0_38, it_X0_contains, ii_RX0⟩ rfl 2 rfl hd_X0_contains ⟨by decide, by decide, by decide, by decide, Nat.le_of_ble_eq_true rfl⟩ dX0_find_30
                · refine j1 ?_
                  refine ia_if_eq (pc := 33) F 63 dX0_find_33 rfl (by omega) (fun h9 => absurd h9 (by omega)) (fun _ => ?_)
                  have hal := hAr l (by omega)
                  refine ia_aload_n (pc := 36) F dX0_find_36 rfl ?_
                  refine ia_iload_n (pc := 37) F dX0_find_37 rfl ?_
                  refine ia_aload_n (pc := 38) F dX0_find_38 rfl ?_
                  refine jg (pc := 39) F (z80 hZ) cls4 f4_1 (hP4 80 1 82 rfl) il_RX0_15 dX0_find_39 ?_
                  refine ia_iload_n (pc := 42) F dX0_find_42 rfl ?_
                  refine ja (pc := 43) F (v := A2 l) (z82 hZ) l rfl (by omega) (congrFun w4_82 l) dX0_find_43 ?_
                  refine jV (pc := 44) F 0 0 (z80 hZ) cls4.1 (c_X0_chooseNext T cn (A2 l) hZ hP4 w4_80 w4_82 w4_83 ⟨h82, by omega⟩ (by omega) (by omega) hAr (fun x hx hb => TB_rng hTB2 (by omega) hT hAr hx hb) (fun V_17 p_18 w_19 f_20 => ?_)) rfl ⟨k_X0_chooseNext, il_RX0_42, im_X0_chooseNext, is_X0_chooseNext, ii_RX0⟩ 2 rfl hd_X0_chooseNext ⟨by decide, by decide, by decide, by decide, Nat.le_of_ble_eq_true rfl⟩ dX0_find_44
                  refine j1 ?_
                  refine ia_pop (pc := 47) F dX0_find_47 (Or.inl rfl) ?_
                  refine ia_aload_n (pc := 48) F dX0_find_48 rfl ?_
                  refine jg (pc := 49) F (z80 hZ) cls4 f4_2 (p_18 80 2 83 rfl) il_RX0_18 dX0_find_49 ?_
                  refine ia_iload_n (pc := 52) F dX0_find_52 rfl ?_
                  refine ia_bipush (pc := 53) F dX0_find_53 (by decide) ?_
                  refine ia_imul (pc := 55) F dX0_find_55 ?_
                  refine ia_iload_n (pc := 56) F dX0_find_56 rfl ?_
                  refine ia_iadd (pc := 57) F dX0_find_57 ?_
                  refine ia_aload_n (pc := 58) F dX0_find_58 rfl ?_
                  refine jg (pc := 59) F (x := (chs (cnf A2 U3 T (A2 l)) (lot T cn)).2) (z80 hZ) cls4 f4_6 ((congrFun w_19 6).trans (up_self _ _ _)) il_RX0_31 dX0_find_59 ?_
                  refine js (pc := 62) F (z83 hZ) (T * 7 + l) rfl (by omega) dX0_find_62 ?_
                  refine ia_iinc (pc := 63) F (ls' := [(4, ((80 : Nat) : Int)), (4, ((1 : Nat) : Int)), (0, (T : Int)), (0, ((l + 1 : Nat) : Int))]) dX0_find_63 rfl rfl rfl rfl ?_
                  refine ia_goto (pc := 66) F 20 dX0_find_66 rfl ?_
                  exact ih20 (l + 1) (up U8 6 ((chs (cnf A2 U3 T (A2 l)) (lot T cn)).2)) (up U3 (T * 7 + l) ((chs (cnf A2 U3 T (A2 l)) (lot T cn)).2)) _ (by omega) (by omega) (TB_u hTB2 (by omega) (by omega)) (TC_u hTC (by rw [TB_chs hTB2 (by omega) hT, mcl_s])) (by rw [up_ne (by decide)]; exact h82) (PI_u p_18 rfl) ((rowN (by decide)).trans w_19) ((rowN (by decide)).trans ((f_20 81 (by decide)).trans w4_81)) ((rowN (by decide)).trans ((f_20 82 (by decide)).trans w4_82)) (rowU ((f_20 83 (by decide)).trans w4_83)) ((rowN (by decide)).trans ((f_20 84 (by decide)).trans w4_84)) (Fr_u (Fr_c hF4 f_20 (by decide)) (by decide))
                · refine j1 ?_
                  refine ia_if_eq (pc := 33) F 63 dX0_find_33 rfl (by omega) (fun _ => ?_) (fun h9 => absurd h9 (by omega))
                  refine ia_iinc (pc := 63) F (ls' := [(4, ((80 : Nat) : Int)), (4, ((1 : Nat) : Int)), (0, (T : Int)), (0, ((l + 1 : Nat) : Int))]) dX0_find_63 rfl rfl rfl rfl ?_
                  refine ia_goto (pc := 66) F 20 dX0_find_66 rfl ?_
                  exact ih20 (l + 1) U8 U3 _ (by omega) (by omega) hTB2 (TC_n hTC h_16) h82 hP4 w4_80 w4_81 w4_82 w4_83 w4_84 hF4
          exact L20 (cn + 1) 0 R8 R3 _ (by omega) (by omega) hTB (fun i hi => absurd hi (Nat.not_lt_zero _)) h8 hP3 w3_80 w3_81 w3_82 w3_83 w3_84 hF3
    exact L14 ((2 ^ cn - 1) + 1) (2 ^ cn - 1) (up ρ 4 (cn : Int)) α3 _ (by omega) (by omega) (fun S9 g1 g2 => by omega) (up_self _ _ _) hP9 w9_80 w9_81 w9_82 w9_83 w9_84 hF9
  exact L5 (mgk (oc σ (σ 0).toNat) (oO σ (σ 0).toNat) α1) (mgk (oc σ (σ 0).toNat) (oC σ (σ 0).toNat) α2) (oc σ (σ 0).toNat) _ rfl rfl rfl p_2 w_3 w_4 w_5 ((f_6 83 (by decide)).trans h83) ((f_6 84 (by decide)).trans h84) (Fr_c (Fr_0 (V := V) (S := [80, 81, 82, 83, 84])) f_6 (by decide))
