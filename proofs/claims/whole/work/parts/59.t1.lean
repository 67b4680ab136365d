/-! the class: the text buffer, words, letters (made by wip/whole/txt.py) -/
theorem up_id {f : Nat → Int} {k : Nat} {x : Int} (h : f k = x) : up f k x = f := by
  funext j
  unfold up
  by_cases c : j = k
  · rw [if_pos c, c, h]
  · rw [if_neg c]
set_option maxRecDepth 100000 in
theorem c_X2_length {Z : ia_Z} {V : ia_H} {Q : ia_O → ia_Z → ia_H → Prop} (n q L : Nat) (t : Nat → Int) (hZ : ZI Z) (hP : PI V)  (hT : SB 92 Z V n t q L) (ht : ∀ i : Nat, i < n → 0 ≤ t i ∧ t i ≤ 126) (hn6 : n ≤ 60) (q1 : Q (.inl (some (0, (n : Int)))) Z V) : ia_K yX2_length cX2_length 1 (some .int) [(4, ((91 : Nat) : Int))] Z V 3 0 0 Q := by
  refine ia_start RX2 "length" ⟨by decide, rfl, rfl⟩ (Nat.le_of_ble_eq_true rfl) (ia_tg rfl) (fun X F M => ?_)
  show ia_G X 0 0 0 [(4, ((91 : Nat) : Int))] [] Z V
  refine ia_aload_n (pc := 0) F dX2_length_0 rfl ?_
  refine jg (pc := 1) F (z91 hZ) cls5 f5_0 (hP 91 0 92 rfl) il_RX2_12 dX2_length_1 ?_
  refine jV (pc := 4) F 0 0 (z92 hZ) cls1.1 (c_J4_length 92 q n L t hT ?_) rfl ⟨k_J4_length_8abf5, il_RX2_38, im_J4_length_8abf5, is_J4_length_8abf5, ii_RJ4⟩ 0 rfl hd_J4_length_8abf5 ⟨by decide, by decide, by decide, by decide, Nat.le_of_ble_eq_true rfl⟩ dX2_length_4
  refine j1 ?_
  refine ia_ireturn (pc := 7) F M (by decide) (by decide) dX2_length_7 ?_
  exact q1
set_option maxRecDepth 100000 in
theorem c_X2_agreeingCharacters {Z : ia_Z} {V : ia_H} {Q : ia_O → ia_Z → ia_H → Prop} {π : Nat → Int} (i a : Nat) (n q L : Nat) (t : Nat → Int) (hZ : ZI Z) (hP : PI V) (h91 : V 91 = π) (hT : SB 92 Z V n t q L) (ht : ∀ i : Nat, i < n → 0 ≤ t i ∧ t i ≤ 126) (hn6 : n ≤ 60) (ha : π 5 = (a : Int)) (han : a ≤ n) (hi : i < 9) (q1 : Q (.inl (some (0, ((tx_AG t n a i : Nat) : Int)))) Z V) : ia_K yX2_agreeingCharacters cX2_agreeingCharacters 3 (some .int) [(4, ((91 : Nat) : Int)), (4, ((ia_E0 + (100 + i) : Nat) : Int))] Z V 5 0 0 Q := by
  refine ia_start RX2 "agreeingCharacters" ⟨by decide, rfl, rfl⟩ (Nat.le_of_ble_eq_true rfl) (ia_tg rfl) (fun X F M => ?_)
  show ia_G X 0 0 0 [(4, ((91 : Nat) : Int)), (4, ((ia_E0 + (100 + i) : Nat) : Int)), (9, 0)] [] Z V
  have w9 := tx_wl_rng hi
  refine ia_iconst (pc := 0) F dX2_agreeingCharacters_0 ?_
  refine ia_istore_n (pc := 1) F (ls' := [(4, ((91 : Nat) : Int)), (4, ((ia_E0 + (100 + i) : Nat) : Int)), (0, 0)]) dX2_agreeingCharacters_1 (Nat.le_of_ble_eq_true rfl) rfl rfl ?_
  have L2 : ∀ (fu : Nat) (j : Nat), (8 - j < fu) → (j ≤ 7) → (tx_ag t n a i j = j) → ia_G X 0 0 2 [(4, ((91 : Nat) : Int)), (4, ((ia_E0 + (100 + i) : Nat) : Int)), (0, (j : Int))] [] Z V := by
    intro fu
    induction fu with
    | zero => intro j hm; exact absurd hm (Nat.not_lt_zero _)
    | succ fu ih =>
      intro j hm hj hx
      have ih2 := ih
      refine ia_iload_n (pc := 2) F dX2_agreeingCharacters_2 rfl ?_
      refine ia_aload_n (pc := 3) F dX2_agreeingCharacters_3 rfl ?_
      refine jVE (pc := 4) F 0 0 i (by omega) (c_J0_length i (by omega) ?_) rfl ⟨k_J0_length_8abf5, il_RX2_83, im_J0_length_8abf5, is_J0_length_8abf5, ii_RJ0⟩ 0 rfl hd_J0_length_8abf5 ⟨by decide, by decide, by decide, by decide, Nat.le_of_ble_eq_true rfl⟩ dX2_agreeingCharacters_4
      refine j1 ?_
      refine ia_icmp_ge (pc := 7) F 53 dX2_agreeingCharacters_7 rfl (by omega) (by omega) (fun h_1 => ?_) (fun h_1 => ?_)
      · refine ia_iload_n (pc := 53) F dX2_agreeingCharacters_53 rfl ?_
        refine ia_ireturn (pc := 54) F M (by decide) (by decide) dX2_agreeingCharacters_54 ?_
        have e1 : tx_AG t n a i = j := tx_AG_at (by omega) (by omega) hx (fun e => by obtain ⟨e1, e2, e3⟩ := e; omega)
        rw [e1] at q1
        exact q1
      · refine ia_aload_n (pc := 10) F dX2_agreeingCharacters_10 rfl ?_
        refine jg (pc := 11) F (x := (a : Int)) (z91 hZ) cls5 f5_5 ((congrFun h91 5).trans ha) il_RX2_35 dX2_agreeingCharacters_11 ?_
        refine ia_iload_n (pc := 14) F dX2_agreeingCharacters_14 rfl ?_
        refine ia_iadd (pc := 15) F dX2_agreeingCharacters_15 ?_
        refine ia_aload_n (pc := 16) F dX2_agreeingCharacters_16 rfl ?_
        refine jg (pc := 17) F (z91 hZ) cls5 f5_0 (hP 91 0 92 rfl) il_RX2_12 dX2_agreeingCharacters_17 ?_
        refine jV (pc := 20) F 0 0 (z92 hZ) cls1.1 (c_J4_length 92 q n L t hT ?_) rfl ⟨k_J4_length_8abf5, il_RX2_38, im_J4_length_8abf5, is_J4_length_8abf5, ii_RJ4⟩ 0 rfl hd_J4_length_8abf5 ⟨by decide, by decide, by decide, by decide, Nat.le_of_ble_eq_true rfl⟩ dX2_agreeingCharacters_20
        refine j1 ?_
        refine ia_icmp_ge (pc := 23) F 53 dX2_agreeingCharacters_23 rfl (by omega) (by omega) (fun h_2 => ?_) (fun h_2 => ?_)
        · refine ia_iload_n (pc := 53) F dX2_agreeingCharacters_53 rfl ?_
          refine ia_ireturn (pc := 54) F M (by decide) (by decide) dX2_agreeingCharacters_54 ?_
          have e1 : tx_AG t n a i = j := tx_AG_at (by omega) (by omega) hx (fun e => by obtain ⟨e1, e2, e3⟩ := e; omega)
          rw [e1] at q1
          exact q1
        · have w8 := ht (a + j) (by omega)
          have w7 := spl_rng (i := i) (j := j) hi (by omega)
          refine ia_aload_n (pc := 26) F dX2_agreeingCharacters_26 rfl ?_
          refine jg (pc := 27) F (z91 hZ) cls5 f5_0 (hP 91 0 92 rfl) il_RX2_12 dX2_agreeingCharacters_27 ?_
          refine ia_aload_n (pc := 30) F dX2_agreeingCharacters_30 rfl ?_
          refine jg (pc := 31) F (x := (a : Int)) (z91 hZ) cls5 f5_5 ((congrFun h91 5).trans ha) il_RX2_35 dX2_agreeingCharacters_31 ?_
          refine ia_iload_n (pc := 34) F dX2_agreeingCharacters_34 rfl ?_
          refine ia_iadd (pc := 35) F dX2_agreeingCharacters_35 ?_
          refine jV (pc := 36) F 0 0 (z92 hZ) cls1.1 (c_J4_charAt 92 q n L t (a + j) hT (by omega) ?_) rfl ⟨k_J4_charAt_5068e, il_RX2_92, im_J4_charAt_5068e, is_J4_charAt_5068e, ii_RJ4⟩ 1 rfl hd_J4_charAt_5068e ⟨by decide, by decide, by decide, by decide, Nat.le_of_ble_eq_true rfl⟩ dX2_agreeingCharacters_36
          refine j1 ?_
          refine ia_aload_n (pc := 39) F dX2_agreeingCharacters_39 rfl ?_
          refine ia_iload_n (pc := 40) F dX2_agreeingCharacters_40 rfl ?_
          refine jVE (pc := 41) F 0 0 i (by omega) (c_J0_charAt i j (by omega) (by omega) ?_) rfl ⟨k_J0_charAt_5068e, il_RX2_96, im_J0_charAt_5068e, is_J0_charAt_5068e, ii_RJ0⟩ 1 rfl hd_J0_charAt_5068e ⟨by decide, by decide, by decide, by decide, Nat.le_of_ble_eq_true rfl⟩ dX2_agreeingCharacters_41
          refine j1 ?_
          refine ia_icmp_ne (pc := 44) F 53 dX2_agreeingCharacters_44 rfl (by omega) (by omega) (fun h_3 => ?_) (fun h_3 => ?_)
          · refine ia_iload_n (pc := 53) F dX2_agreeingCharacters_53 rfl ?_
            refine ia_ireturn (pc := 54) F M (by decide) (by decide) dX2_agreeingCharacters_54 ?_
            have e1 : tx_AG t n a i = j := tx_AG_at (by omega) (by omega) hx (fun e => by obtain ⟨e1, e2, e3⟩ := e; omega)
            rw [e1] at q1
            exact q1
          · refine ia_iinc (pc := 47) F (ls' := [(4, ((91 : Nat) : Int)), (4, ((ia_E0 + (100 + i) : Nat) : Int)), (0, ((j + 1 : Nat) : Int))]) dX2_agreeingCharacters_47 rfl rfl rfl rfl ?_
            refine ia_goto (pc := 50) F 2 dX2_agreeingCharacters_50 rfl ?_
            exact ih2 (j + 1) (by omega) (by omega) (tx_ag_s hx (by omega))
  exact L2 (8 + 1) 0 (by omega) (by omega) rfl
set_option maxRecDepth 100000 in
theorem c_X2_readWord {Z : ia_Z} {V : ia_H} {Q : ia_O → ia_Z → ia_H → Prop} {π : Nat → Int} (a : Nat) (n q L : Nat) (t : Nat → Int) (hZ : ZI Z) (hP : PI V) (h91 : V 91 = π) (hT : SB 92 Z V n t q L) (ht : ∀ i : Nat, i < n → 0 ≤ t i ∧ t i ≤ 126) (hn6 : n ≤ 60) (ha : π 5 = (a : Int)) (han : a ≤ n) (q1 : ∀ (V1 : ia_H), (tx_cK t n a < 9) → PI V1 → (V1 91 = up π 5 ((tx_wP t n a : Nat) : Int)) → (∀ pp, pp ∉ ([91] : List Nat) → V1 pp = V pp) → Q (.inl (some (4, ((ia_E0 + (tx_cK t n a) : Nat) : Int)))) Z V1) (q2 : ∀ (V1 : ia_H), (tx_cK t n a = 9) → PI V1 → (V1 91 = up π 5 ((tx_wP t n a : Nat) : Int)) → (∀ pp, pp ∉ ([91] : List Nat) → V1 pp = V pp) → Q (.inl (some (4, -1))) Z V1) : ia_K yX2_readWord cX2_readWord 5 (some (.object "InkPrintery$Command")) [(4, ((91 : Nat) : Int))] Z V 6 0 0 Q := by
  refine ia_start RX2 "readWord" ⟨by decide, rfl, rfl⟩ (Nat.le_of_ble_eq_true rfl) (ia_tg rfl) (fun X F M => ?_)
  show ia_G X 0 0 0 [(4, ((91 : Nat) : Int)), (9, 0), (9, 0), (9, 0), (9, 0)] [] Z V
  refine ia_iconst (pc := 0) F dX2_readWord_0 ?_
  refine ia_istore_n (pc := 1) F (ls' := [(4, ((91 : Nat) : Int)), (0, 0), (9, 0), (9, 0), (9, 0)]) dX2_readWord_1 (Nat.le_of_ble_eq_true rfl) rfl rfl ?_
  refine ia_iconst (pc := 2) F dX2_readWord_2 ?_
  refine ia_istore_n (pc := 3) F (ls' := [(4, ((91 : Nat) : Int)), (0, 0), (0, 0), (9, 0), (9, 0)]) dX2_readWord_3 (Nat.le_of_ble_eq_true rfl) rfl rfl ?_
  have L4 : ∀ (fu : Nat) (i : Nat) (b : Int) (V2 : ia_H), (9 - i < fu) → (i ≤ 9) → (tx_wk t n a i = 9) → (b = ((tx_bs t n a i : Nat) : Int)) → (PI V2) → (V2 91 = π) → (∀ pp, pp ∉ ([91] : List Nat) → V2 pp = V pp) → ia_G X 0 0 4 [(4, ((91 : Nat) : Int)), (0, b), (0, (i : Int)), (9, 0), (9, 0)] [] Z V2 := by
    intro fu
    induction fu with
    | zero => intro i b V2 hm; exact absurd hm (Nat.not_lt_zero _)
    | succ fu ih =>
      intro i b V2 hm hi h9 hb hP2 w2_91 hF2
      have ih4 := ih
      refine ia_iload_n (pc := 4) F dX2_readWord_4 rfl ?_
      refine ia_getCommands (pc := 5) F il_RX2_72 dX2_readWord_5 ?_
      refine ia_lenCommands (pc := 8) F dX2_readWord_8 ?_
      refine ia_icmp_ge (pc := 9) F 66 dX2_readWord_9 rfl (by omega) (by omega) (fun h_1 => ?_) (fun h_1 => ?_)
      · have s6 := tx_bs_rng (t := t) han i
        refine ia_aload_n (pc := 66) F dX2_readWord_66 rfl ?_
        refine ia_dup (pc := 67) F dX2_readWord_67 (Or.inr (Or.inr rfl)) ?_
        refine jg (pc := 68) F (x := (a : Int)) (z91 hZ) cls5 f5_5 ((congrFun w2_91 5).trans ha) il_RX2_35 dX2_readWord_68 ?_
        refine ia_iload_n (pc := 71) F dX2_readWord_71 rfl ?_
        refine ia_iadd (pc := 72) F dX2_readWord_72 ?_
        refine jp (pc := 73) F (z91 hZ) cls5 f5_5 rfl (ia_nI rfl _) il_RX2_35 dX2_readWord_73 ?_
        refine ia_null (pc := 76) F dX2_readWord_76 ?_
        refine ia_areturn (pc := 77) F M (Or.inl ⟨_, rfl⟩) (by decide) (by decide) dX2_readWord_77 ?_
        have e9 : i = 9 := by omega
        subst e9
        have e2 := tx_cK_n (t := t) (n := n) (a := a) h9
        rw [e2.1, e2.2] at q2
        exact q2 _ rfl (PI_u hP2 rfl) ((rowU w2_91).trans (by rw [hb]; rfl)) (Fr_u hF2 (by decide))
      · have s5 := tx_AG_rng (t := t) (i := i) han
        have s6 := tx_bs_rng (t := t) han i
        have s4 := tx_wl_rng (i := i) (by omega)
        refine ia_getCommands (pc := 12) F il_RX2_72 dX2_readWord_12 ?_
        refine ia_iload_n (pc := 15) F dX2_readWord_15 rfl ?_
        refine ia_atCommands (pc := 16) F i rfl (by omega) dX2_readWord_16 ?_
        refine ia_astore_n (pc := 17) F (ls' := [(4, ((91 : Nat) : Int)), (0, b), (0, (i : Int)), (4, ((ia_E0 + i : Nat) : Int)), (9, 0)]) dX2_readWord_17 (Nat.le_of_ble_eq_true rfl) rfl rfl ?_
        refine ia_aload_n (pc := 18) F dX2_readWord_18 rfl ?_
        refine ia_aload_n (pc := 19) F dX2_readWord_19 rfl ?_
        refine ia_getWord (pc := 20) F i (by omega) il_RX2_75 dX2_readWord_20 ?_
        refine jV (pc := 23) F 0 0 (z91 hZ) cls5.1 (c_X2_agreeingCharacters i a n q L t hZ hP2 w2_91 (SB_fr hT hF2 (by decide) (by decide)) ht hn6 ((rfl : π 5 = π 5).trans ha) (by omega) (by omega) ?_) rfl ⟨k_X2_agreeingCharacters, il_RX2_79, im_X2_agreeingCharacters, is_X2_agreeingCharacters, ii_RX2⟩ 1 rfl hd_X2_agreeingCharacters ⟨by decide, by decide, by decide, by decide, Nat.le_of_ble_eq_true rfl⟩ dX2_readWord_23
        refine j1 ?_
        refine ia_istore (pc := 26) F (ls' := [(4, ((91 : Nat) : Int)), (0, b), (0, (i : Int)), (4, ((ia_E0 + i : Nat) : Int)), (0, ((tx_AG t n a i : Nat) : Int))]) dX2_readWord_26 (Nat.le_of_ble_eq_true rfl) rfl rfl ?_
        refine ia_iload (pc := 28) F dX2_readWord_28 rfl ?_
        refine ia_aload_n (pc := 30) F dX2_readWord_30 rfl ?_
        refine ia_getWord (pc := 31) F i (by omega) il_RX2_75 dX2_readWord_31 ?_
        refine jVE (pc := 34) F 0 0 i (by omega) (c_J0_length i (by omega) ?_) rfl ⟨k_J0_length_8abf5, il_RX2_83, im_J0_length_8abf5, is_J0_length_8abf5, ii_RJ0⟩ 0 rfl hd_J0_length_8abf5 ⟨by decide, by decide, by decide, by decide, Nat.le_of_ble_eq_true rfl⟩ dX2_readWord_34
        refine j1 ?_
        refine ia_icmp_ne (pc := 37) F 53 dX2_readWord_37 rfl (by omega) (by omega) (fun h_2 => ?_) (fun h_2 => ?_)
        · refine ia_iload_n (pc := 53) F dX2_readWord_53 rfl ?_
          refine ia_iload (pc := 54) F dX2_readWord_54 rfl ?_
          refine ia_max (pc := 56) F (by omega) (by omega) ⟨il_RX2_86, it_mmax, ii_RJ9, k_mmax⟩ ⟨by decide, Nat.le_of_ble_eq_true rfl, by decide, by decide⟩ dX2_readWord_56 ?_
          rw [ia_maxE b ((tx_AG t n a i : Nat) : Int)]
          refine ia_istore_n (pc := 59) F (ls' := [(4, ((91 : Nat) : Int)), (0, (max b ((tx_AG t n a i : Nat) : Int))), (0, (i : Int)), (4, ((ia_E0 + i : Nat) : Int)), (0, ((tx_AG t n a i : Nat) : Int))]) dX2_readWord_59 (Nat.le_of_ble_eq_true rfl) rfl rfl ?_
          refine ia_iinc (pc := 60) F (ls' := [(4, ((91 : Nat) : Int)), (0, (max b ((tx_AG t n a i : Nat) : Int))), (0, ((i + 1 : Nat) : Int)), (4, ((ia_E0 + i : Nat) : Int)), (0, ((tx_AG t n a i : Nat) : Int))]) dX2_readWord_60 rfl rfl rfl rfl ?_
          refine ia_goto (pc := 63) F 4 dX2_readWord_63 rfl ?_
          refine jw (ls' := [(4, ((91 : Nat) : Int)), (0, (max b ((tx_AG t n a i : Nat) : Int))), (0, ((i + 1 : Nat) : Int)), (9, 0), (9, 0)]) [false, false, false, true, true] rfl ?_
          exact ih4 (i + 1) (max b ((tx_AG t n a i : Nat) : Int)) _ (by omega) (by omega) (tx_wk_n h9 (by omega)) (by rcases Nat.lt_or_ge (tx_bs t n a i) (tx_AG t n a i) with g | g <;> first | (rw [tx_bs_1 g]; omega) | (rw [tx_bs_0 (by omega)]; omega)) hP2 w2_91 hF2
        · refine ia_aload_n (pc := 40) F dX2_readWord_40 rfl ?_
          refine ia_dup (pc := 41) F dX2_readWord_41 (Or.inr (Or.inr rfl)) ?_
          refine jg (pc := 42) F (x := (a : Int)) (z91 hZ) cls5 f5_5 ((congrFun w2_91 5).trans ha) il_RX2_35 dX2_readWord_42 ?_
          refine ia_iload (pc := 45) F dX2_readWord_45 rfl ?_
          refine ia_iadd (pc := 47) F dX2_readWord_47 ?_
          refine jp (pc := 48) F (z91 hZ) cls5 f5_5 rfl (ia_nI rfl _) il_RX2_35 dX2_readWord_48 ?_
          refine ia_aload_n (pc := 51) F dX2_readWord_51 rfl ?_
          refine ia_areturn (pc := 52) F M (Or.inl ⟨_, rfl⟩) (by decide) (by decide) dX2_readWord_52 ?_
          have e2 := tx_cK_y (t := t) (n := n) (a := a) (i := i) (by omega) h9 (by omega)
          rw [e2.1, e2.2] at q1
          exact q1 _ (by omega) (PI_u hP2 rfl) ((rowU w2_91).trans (by rw [show tx_wl i = tx_AG t n a i by omega]; rfl)) (Fr_u hF2 (by decide))
  exact L4 (9 + 1) 0 0 _ (by omega) (by omega) rfl rfl hP h91 (Fr_0 (V := V) (S := [91]))
set_option maxRecDepth 100000 in
theorem c_X2_skip {Z : ia_Z} {V : ia_H} {Q : ia_O → ia_Z → ia_H → Prop} {π : Nat → Int} (a : Nat) (c : Int) (n q L : Nat) (t : Nat → Int) (hZ : ZI Z) (hP : PI V) (h91 : V 91 = π) (hT : SB 92 Z V n t q L) (ht : ∀ i : Nat, i < n → 0 ≤ t i ∧ t i ≤ 126) (hn6 : n ≤ 60) (ha : π 5 = (a : Int)) (han : a ≤ n) (hc : 0 ≤ c ∧ c ≤ 126) (q1 : ∀ (V1 : ia_H), (a < n ∧ t a = c) → PI V1 → (V1 91 = up π 5 ((a : Int) + 1)) → (∀ pp, pp ∉ ([91] : List Nat) → V1 pp = V pp) → Q (.inl (some (0, 1))) Z V1) (q2 : (¬ (a < n ∧ t a = c)) → Q (.inl (some (0, 0))) Z V) : ia_K yX2_skip cX2_skip 2 (some .boolean) [(4, ((91 : Nat) : Int)), (0, c)] Z V 5 0 0 Q := by
  refine ia_start RX2 "skip" ⟨by decide, rfl, rfl⟩ (Nat.le_of_ble_eq_true rfl) (ia_tg rfl) (fun X F M => ?_)
  show ia_G X 0 0 0 [(4, ((91 : Nat) : Int)), (0, c)] [] Z V
  have w8 : a < n → 0 ≤ t a ∧ t a ≤ 126 := fun h => ht a h
  refine ia_aload_n (pc := 0) F dX2_skip_0 rfl ?_
  refine jg (pc := 1) F (x := (a : Int)) (z91 hZ) cls5 f5_5 ((congrFun h91 5).trans ha) il_RX2_35 dX2_skip_1 ?_
  refine ia_aload_n (pc := 4) F dX2_skip_4 rfl ?_
  refine jg (pc := 5) F (z91 hZ) cls5 f5_0 (hP 91 0 92 rfl) il_RX2_12 dX2_skip_5 ?_
  refine jV (pc := 8) F 0 0 (z92 hZ) cls1.1 (c_J4_length 92 q n L t hT ?_) rfl ⟨k_J4_length_8abf5, il_RX2_38, im_J4_length_8abf5, is_J4_length_8abf5, ii_RJ4⟩ 0 rfl hd_J4_length_8abf5 ⟨by decide, by decide, by decide, by decide, Nat.le_of_ble_eq_true rfl⟩ dX2_skip_8
  refine j1 ?_
  refine ia_icmp_ge (pc := 11) F 29 dX2_skip_11 rfl (by omega) (by omega) (fun h_1 => ?_) (fun h_1 => ?_)
  · refine ia_iconst (pc := 29) F dX2_skip_29 ?_
    refine ia_zreturn (pc := 30) F M (Or.inl rfl) (by decide) (by decide) dX2_skip_30 ?_
    exact q2 (by omega)
  · refine ia_aload_n (pc := 14) F dX2_skip_14 rfl ?_
    refine jg (pc := 15) F (z91 hZ) cls5 f5_0 (hP 91 0 92 rfl) il_RX2_12 dX2_skip_15 ?_
    refine ia_aload_n (pc := 18) F dX2_skip_18 rfl ?_
    refine jg (pc := 19) F (x := (a : Int)) (z91 hZ) cls5 f5_5 ((congrFun h91 5).trans ha) il_RX2_35 dX2_skip_19 ?_
    refine jV (pc := 22) F 0 0 (z92 hZ) cls1.1 (c_J4_charAt 92 q n L t a hT (by omega) ?_) rfl ⟨k_J4_charAt_5068e, il_RX2_92, im_J4_charAt_5068e, is_J4_charAt_5068e, ii_RJ4⟩ 1 rfl hd_J4_charAt_5068e ⟨by decide, by decide, by decide, by decide, Nat.le_of_ble_eq_true rfl⟩ dX2_skip_22
    refine j1 ?_
    refine ia_iload_n (pc := 25) F dX2_skip_25 rfl ?_
    refine ia_icmp_eq (pc := 26) F 31 dX2_skip_26 rfl (by omega) (by omega) (fun h_2 => ?_) (fun h_2 => ?_)
    · refine ia_aload_n (pc := 31) F dX2_skip_31 rfl ?_
      refine ia_dup (pc := 32) F dX2_skip_32 (Or.inr (Or.inr rfl)) ?_
      refine jg (pc := 33) F (x := (a : Int)) (z91 hZ) cls5 f5_5 ((congrFun h91 5).trans ha) il_RX2_35 dX2_skip_33 ?_
      refine ia_iconst (pc := 36) F dX2_skip_36 ?_
      refine ia_iadd (pc := 37) F dX2_skip_37 ?_
      refine jp (pc := 38) F (z91 hZ) cls5 f5_5 rfl (ia_nI rfl _) il_RX2_35 dX2_skip_38 ?_
      refine ia_iconst (pc := 41) F dX2_skip_41 ?_
      refine ia_zreturn (pc := 42) F M (Or.inr rfl) (by decide) (by decide) dX2_skip_42 ?_
      exact q1 _ (by omega) (PI_u hP rfl) (rowU h91) (Fr_u (Fr_0 (V := V) (S := [91])) (by decide))
    · refine ia_iconst (pc := 29) F dX2_skip_29 ?_
      refine ia_zreturn (pc := 30) F M (Or.inl rfl) (by decide) (by decide) dX2_skip_30 ?_
      exact q2 (by omega)
set_option maxRecDepth 100000 in
theorem c_X2_isAtDigit {Z : ia_Z} {V : ia_H} {Q : ia_O → ia_Z → ia_H → Prop} {π : Nat → Int} (a : Nat) (n q L : Nat) (t : Nat → Int) (hZ : ZI Z) (hP : PI V) (h91 : V 91 = π) (hT : SB 92 Z V n t q L) (ht : ∀ i : Nat, i < n → 0 ≤ t i ∧ t i ≤ 126) (hn6 : n ≤ 60) (ha : π 5 = (a : Int)) (han : a ≤ n) (q1 : (tx_dg t n a) → Q (.inl (some (0, 1))) Z V) (q2 : (¬ tx_dg t n a) → Q (.inl (some (0, 0))) Z V) : ia_K yX2_isAtDigit cX2_isAtDigit 1 (some .boolean) [(4, ((91 : Nat) : Int))] Z V 5 0 0 Q := by
  refine ia_start RX2 "isAtDigit" ⟨by decide, rfl, rfl⟩ (Nat.le_of_ble_eq_true rfl) (ia_tg rfl) (fun X F M => ?_)
  show ia_G X 0 0 0 [(4, ((91 : Nat) : Int))] [] Z V
  have w8 : a < n → 0 ≤ t a ∧ t a ≤ 126 := fun h => ht a h
  refine ia_aload_n (pc := 0) F dX2_isAtDigit_0 rfl ?_
  refine jg (pc := 1) F (x := (a : Int)) (z91 hZ) cls5 f5_5 ((congrFun h91 5).trans ha) il_RX2_35 dX2_isAtDigit_1 ?_
  refine ia_aload_n (pc := 4) F dX2_isAtDigit_4 rfl ?_
  refine jg (pc := 5) F (z91 hZ) cls5 f5_0 (hP 91 0 92 rfl) il_RX2_12 dX2_isAtDigit_5 ?_
  refine jV (pc := 8) F 0 0 (z92 hZ) cls1.1 (c_J4_length 92 q n L t hT ?_) rfl ⟨k_J4_length_8abf5, il_RX2_38, im_J4_length_8abf5, is_J4_length_8abf5, ii_RJ4⟩ 0 rfl hd_J4_length_8abf5 ⟨by decide, by decide, by decide, by decide, Nat.le_of_ble_eq_true rfl⟩ dX2_isAtDigit_8
  refine j1 ?_
  refine ia_icmp_ge (pc := 11) F 39 dX2_isAtDigit_11 rfl (by omega) (by omega) (fun h_1 => ?_) (fun h_1 => ?_)
  · refine ia_iconst (pc := 39) F dX2_isAtDigit_39 ?_
    refine ia_zreturn (pc := 40) F M (Or.inl rfl) (by decide) (by decide) dX2_isAtDigit_40 ?_
    exact q2 (fun e => by obtain ⟨e1, e2, e3⟩ := e; omega)
  · refine ia_aload_n (pc := 14) F dX2_isAtDigit_14 rfl ?_
    refine jg (pc := 15) F (z91 hZ) cls5 f5_0 (hP 91 0 92 rfl) il_RX2_12 dX2_isAtDigit_15 ?_
    refine ia_aload_n (pc := 18) F dX2_isAtDigit_18 rfl ?_
    refine jg (pc := 19) F (x := (a : Int)) (z91 hZ) cls5 f5_5 ((congrFun h91 5).trans ha) il_RX2_35 dX2_isAtDigit_19 ?_
    refine jV (pc := 22) F 0 0 (z92 hZ) cls1.1 (c_J4_charAt 92 q n L t a hT (by omega) ?_) rfl ⟨k_J4_charAt_5068e, il_RX2_92, im_J4_charAt_5068e, is_J4_charAt_5068e, ii_RJ4⟩ 1 rfl hd_J4_charAt_5068e ⟨by decide, by decide, by decide, by decide, Nat.le_of_ble_eq_true rfl⟩ dX2_isAtDigit_22
    refine j1 ?_
    refine ia_bipush (pc := 25) F dX2_isAtDigit_25 (by decide) ?_
    refine ia_bipush (pc := 27) F dX2_isAtDigit_27 (by decide) ?_
    refine jSN (pc := 29) F 0 0 (c_X7_isWithin (t a) 48 57 (by omega) (by omega) (by omega) (fun h_2 => ?_) (fun h_3 => ?_)) rfl ⟨k_X7_isWithin, il_RX2_101, it_X7_isWithin, ii_RX7⟩ 3 rfl hd_X7_isWithin ⟨by decide, by decide, by decide, by decide, Nat.le_of_ble_eq_true rfl⟩ dX2_isAtDigit_29
    · refine j1 ?_
      refine ia_if_eq (pc := 32) F 39 dX2_isAtDigit_32 rfl (by omega) (fun h9 => absurd h9 (by omega)) (fun _ => ?_)
      refine ia_iconst (pc := 35) F dX2_isAtDigit_35 ?_
      refine ia_goto (pc := 36) F 40 dX2_isAtDigit_36 rfl ?_
      refine ia_zreturn (pc := 40) F M (Or.inr rfl) (by decide) (by decide) dX2_isAtDigit_40 ?_
      exact q1 ⟨by omega, by omega, by omega⟩
    · refine j1 ?_
      refine ia_if_eq (pc := 32) F 39 dX2_isAtDigit_32 rfl (by omega) (fun _ => ?_) (fun h9 => absurd h9 (by omega))
      refine ia_iconst (pc := 39) F dX2_isAtDigit_39 ?_
      refine ia_zreturn (pc := 40) F M (Or.inl rfl) (by decide) (by decide) dX2_isAtDigit_40 ?_
      exact q2 (fun e => by obtain ⟨e1, e2, e3⟩ := e; omega)
