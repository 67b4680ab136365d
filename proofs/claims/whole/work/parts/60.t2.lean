/-! the class: numbers, commands, the whole text (made by wip/whole/txt.py) -/
set_option maxRecDepth 100000 in
theorem c_X2_readParameter {Z : ia_Z} {V : ia_H} {Q : ia_O → ia_Z → ia_H → Prop} {π : Nat → Int} (d a : Nat) (n q L : Nat) (t : Nat → Int) (hZ : ZI Z) (hP : PI V) (h91 : V 91 = π) (hT : SB 92 Z V n t q L) (ht : ∀ i : Nat, i < n → 0 ≤ t i ∧ t i ≤ 126) (hn6 : n ≤ 60) (ha : π 5 = (a : Int)) (han : a ≤ n) (hd : d ≤ 3) (q1 : ∀ (V1 : ia_H), (tx_pW t n a d = 0) → PI V1 → (V1 91 = up π 5 ((tx_pP t n a d : Nat) : Int)) → (∀ pp, pp ∉ ([91] : List Nat) → V1 pp = V pp) → Q (.inl (some (0, (tx_pV t n a d)))) Z V1) (q2 : ∀ (V1 : ia_H), (tx_pW t n a d = 1) → PI V1 → (V1 91 = up π 5 ((tx_pP t n a d : Nat) : Int)) → (∀ pp, pp ∉ ([91] : List Nat) → V1 pp = V pp) → Q (.inl (some (0, (-1)))) Z V1) : ia_K yX2_readParameter cX2_readParameter 4 (some .int) [(4, ((91 : Nat) : Int)), (0, (d : Int))] Z V 6 0 0 Q := by
  refine ia_start RX2 "readParameter" ⟨by decide, rfl, rfl⟩ (Nat.le_of_ble_eq_true rfl) (ia_tg rfl) (fun X F M => ?_)
  show ia_G X 0 0 0 [(4, ((91 : Nat) : Int)), (0, (d : Int)), (9, 0), (9, 0)] [] Z V
  refine ia_iload_n (pc := 0) F dX2_readParameter_0 rfl ?_
  refine ia_if_ne (pc := 1) F 6 dX2_readParameter_1 rfl (by omega) (fun h_1 => ?_) (fun h_1 => ?_)
  · refine ia_aload_n (pc := 6) F dX2_readParameter_6 rfl ?_
    refine ia_bipush (pc := 7) F dX2_readParameter_7 (by decide) ?_
    refine jV (pc := 9) F 0 0 (z91 hZ) cls5.1 (c_X2_skip a 32 n q L t hZ hP h91 hT ht hn6 ((rfl : π 5 = π 5).trans ha) (by omega) (by omega) (fun V_2 h_3 p_4 w_5 f_6 => ?_) (fun h_7 => ?_)) rfl ⟨k_X2_skip, il_RX2_54, im_X2_skip, is_X2_skip, ii_RX2⟩ 1 rfl hd_X2_skip ⟨by decide, by decide, by decide, by decide, Nat.le_of_ble_eq_true rfl⟩ dX2_readParameter_9
    · refine j1 ?_
      refine ia_if_eq (pc := 12) F 22 dX2_readParameter_12 rfl (by omega) (fun h9 => absurd h9 (by omega)) (fun _ => ?_)
      refine ia_aload_n (pc := 15) F dX2_readParameter_15 rfl ?_
      refine jV (pc := 16) F 0 0 (z91 hZ) cls5.1 (c_X2_isAtDigit (a + 1) n q L t hZ p_4 w_5 (SB_fr hT f_6 (by decide) (by decide)) ht hn6 ((rfl : (up π 5 ((a : Int) + 1)) 5 = (up π 5 ((a : Int) + 1)) 5).trans (up_self _ _ _)) (by omega) (fun h_8 => ?_) (fun h_9 => ?_)) rfl ⟨k_X2_isAtDigit, il_RX2_97, im_X2_isAtDigit, is_X2_isAtDigit, ii_RX2⟩ 0 rfl hd_X2_isAtDigit ⟨by decide, by decide, by decide, by decide, Nat.le_of_ble_eq_true rfl⟩ dX2_readParameter_16
      · refine j1 ?_
        refine ia_if_ne (pc := 19) F 24 dX2_readParameter_19 rfl (by omega) (fun _ => ?_) (fun h9 => absurd h9 (by omega))
        refine ia_iconst (pc := 24) F dX2_readParameter_24 ?_
        refine ia_istore_n (pc := 25) F (ls' := [(4, ((91 : Nat) : Int)), (0, (d : Int)), (0, 0), (9, 0)]) dX2_readParameter_25 (Nat.le_of_ble_eq_true rfl) rfl rfl ?_
        refine ia_iconst (pc := 26) F dX2_readParameter_26 ?_
        refine ia_istore_n (pc := 27) F (ls' := [(4, ((91 : Nat) : Int)), (0, (d : Int)), (0, 0), (0, 0)]) dX2_readParameter_27 (Nat.le_of_ble_eq_true rfl) rfl rfl ?_
        have L28 : ∀ (fu : Nat) (k : Nat) (x : Int) (V2 : ia_H), (d - k < fu) → (k ≤ d) → (tx_nd t n (a + 1) k = k) → (a + 1 + k ≤ n) → (x = tx_vd t (a + 1) k) → (PI V2) → (V2 91 = up π 5 ((a + 1 + k : Nat) : Int)) → (∀ pp, pp ∉ ([91] : List Nat) → V2 pp = V pp) → ia_G X 0 0 28 [(4, ((91 : Nat) : Int)), (0, (d : Int)), (0, x), (0, (k : Int))] [] Z V2 := by
          intro fu
          induction fu with
          | zero => intro k x V2 hm; exact absurd hm (Nat.not_lt_zero _)
          | succ fu ih =>
            intro k x V2 hm hk hx hle hxv hP2 w2_91 hF2
            have ih28 := ih
            refine ia_iload_n (pc := 28) F dX2_readParameter_28 rfl ?_
            refine ia_iload_n (pc := 29) F dX2_readParameter_29 rfl ?_
            refine ia_icmp_ge (pc := 30) F 76 dX2_readParameter_30 rfl (by omega) (by omega) (fun h_10 => ?_) (fun h_10 => ?_)
            · refine ia_iload_n (pc := 76) F dX2_readParameter_76 rfl ?_
              refine ia_ireturn (pc := 77) F M (by decide) (by decide) dX2_readParameter_77 ?_
              have g1 : tx_pW t n a d = tx_nW t n a := if_neg (by omega)
              have g2 : tx_pP t n a d = tx_nP t n a d := if_neg (by omega)
              have g3 : tx_pV t n a d = tx_nV t n a d := if_neg (by omega)
              have e1 : tx_nd t n (a + 1) d = k := (by rw [show d = k by omega]; exact hx)
              have e2 := tx_n_ok (t := t) (n := n) (a := a) (d := d) h_3 h_8
              rw [g1, g2, g3, e2.2.2, e2.2.1, e2.1, e1, ← hxv] at q1
              exact q1 _ rfl hP2 w2_91 hF2
            · have r8 := tx_vd_rng (t := t) (n := n) (p := a + 1) k hx
              refine ia_aload_n (pc := 33) F dX2_readParameter_33 rfl ?_
              refine jV (pc := 34) F 0 0 (z91 hZ) cls5.1 (c_X2_isAtDigit (a + 1 + k) n q L t hZ hP2 w2_91 (SB_fr hT hF2 (by decide) (by decide)) ht hn6 ((rfl : (up π 5 ((a + 1 + k : Nat) : Int)) 5 = (up π 5 ((a + 1 + k : Nat) : Int)) 5).trans (up_self _ _ _)) hle (fun h_11 => ?_) (fun h_12 => ?_)) rfl ⟨k_X2_isAtDigit, il_RX2_97, im_X2_isAtDigit, is_X2_isAtDigit, ii_RX2⟩ 0 rfl hd_X2_isAtDigit ⟨by decide, by decide, by decide, by decide, Nat.le_of_ble_eq_true rfl⟩ dX2_readParameter_34
              · refine j1 ?_
                refine ia_if_eq (pc := 37) F 76 dX2_readParameter_37 rfl (by omega) (fun h9 => absurd h9 (by omega)) (fun _ => ?_)
                have r9 := ht (a + 1 + k) h_11.1
                refine ia_iload_n (pc := 40) F dX2_readParameter_40 rfl ?_
                refine ia_bipush (pc := 41) F dX2_readParameter_41 (by decide) ?_
                refine ia_imul (pc := 43) F dX2_readParameter_43 ?_
                refine ia_aload_n (pc := 44) F dX2_readParameter_44 rfl ?_
                refine jg (pc := 45) F (z91 hZ) cls5 f5_0 (hP2 91 0 92 rfl) il_RX2_12 dX2_readParameter_45 ?_
                refine ia_aload_n (pc := 48) F dX2_readParameter_48 rfl ?_
                refine jg (pc := 49) F (x := ((a + 1 + k : Nat) : Int)) (z91 hZ) cls5 f5_5 ((congrFun w2_91 5).trans (up_self _ _ _)) il_RX2_35 dX2_readParameter_49 ?_
                refine jV (pc := 52) F 0 0 (z92 hZ) cls1.1 (c_J4_charAt 92 q n L t (a + 1 + k) (SB_fr hT hF2 (by decide) (by decide)) (by omega) ?_) rfl ⟨k_J4_charAt_5068e, il_RX2_92, im_J4_charAt_5068e, is_J4_charAt_5068e, ii_RJ4⟩ 1 rfl hd_J4_charAt_5068e ⟨by decide, by decide, by decide, by decide, Nat.le_of_ble_eq_true rfl⟩ dX2_readParameter_52
                refine j1 ?_
                refine ia_bipush (pc := 55) F dX2_readParameter_55 (by decide) ?_
                refine ia_isub (pc := 57) F dX2_readParameter_57 ?_
                refine ia_iadd (pc := 58) F dX2_readParameter_58 ?_
                refine ia_istore_n (pc := 59) F (ls' := [(4, ((91 : Nat) : Int)), (0, (d : Int)), (0, ((x * 10) + ((t (a + 1 + k)) - 48))), (0, (k : Int))]) dX2_readParameter_59 (Nat.le_of_ble_eq_true rfl) rfl rfl ?_
                refine ia_aload_n (pc := 60) F dX2_readParameter_60 rfl ?_
                refine ia_dup (pc := 61) F dX2_readParameter_61 (Or.inr (Or.inr rfl)) ?_
                refine jg (pc := 62) F (x := ((a + 1 + k : Nat) : Int)) (z91 hZ) cls5 f5_5 ((congrFun w2_91 5).trans (up_self _ _ _)) il_RX2_35 dX2_readParameter_62 ?_
                refine ia_iconst (pc := 65) F dX2_readParameter_65 ?_
                refine ia_iadd (pc := 66) F dX2_readParameter_66 ?_
                refine jp (pc := 67) F (z91 hZ) cls5 f5_5 rfl (ia_nI rfl _) il_RX2_35 dX2_readParameter_67 ?_
                refine ia_iinc (pc := 70) F (ls' := [(4, ((91 : Nat) : Int)), (0, (d : Int)), (0, ((x * 10) + ((t (a + 1 + k)) - 48))), (0, ((k + 1 : Nat) : Int))]) dX2_readParameter_70 rfl rfl rfl rfl ?_
                refine ia_goto (pc := 73) F 28 dX2_readParameter_73 rfl ?_
                exact ih28 (k + 1) ((x * 10) + ((t (a + 1 + k)) - 48)) _ (by omega) (by omega) (tx_nd_s hx h_11) (by have e := h_11; have e1 := e.1; omega) (by rw [hxv]; show _ = 10 * tx_vd t (a + 1) k + t (a + 1 + k) - 48; omega) (PI_u hP2 rfl) ((rowU w2_91).trans (up_up.trans rfl)) (Fr_u hF2 (by decide))
              · refine j1 ?_
                refine ia_if_eq (pc := 37) F 76 dX2_readParameter_37 rfl (by omega) (fun _ => ?_) (fun h9 => absurd h9 (by omega))
                refine ia_iload_n (pc := 76) F dX2_readParameter_76 rfl ?_
                refine ia_ireturn (pc := 77) F M (by decide) (by decide) dX2_readParameter_77 ?_
                have g1 : tx_pW t n a d = tx_nW t n a := if_neg (by omega)
                have g2 : tx_pP t n a d = tx_nP t n a d := if_neg (by omega)
                have g3 : tx_pV t n a d = tx_nV t n a d := if_neg (by omega)
                have e1 : tx_nd t n (a + 1) d = k := tx_nd_stop hx h_12 d (by omega)
                have e2 := tx_n_ok (t := t) (n := n) (a := a) (d := d) h_3 h_8
                rw [g1, g2, g3, e2.2.2, e2.2.1, e2.1, e1, ← hxv] at q1
                exact q1 _ rfl hP2 w2_91 hF2
        exact L28 (d + 1) 0 0 _ (by omega) (by omega) rfl (by omega) rfl p_4 (w_5.trans rfl) (Fr_c (Fr_0 (V := V) (S := [91])) f_6 (by decide))
      · refine j1 ?_
        refine ia_if_ne (pc := 19) F 24 dX2_readParameter_19 rfl (by omega) (fun h9 => absurd h9 (by omega)) (fun _ => ?_)
        refine ia_iconst (pc := 22) F dX2_readParameter_22 ?_
        refine ia_ireturn (pc := 23) F M (by decide) (by decide) dX2_readParameter_23 ?_
        have g1 : tx_pW t n a d = tx_nW t n a := if_neg (by omega)
        have g2 : tx_pP t n a d = tx_nP t n a d := if_neg (by omega)
        have g3 : tx_pV t n a d = tx_nV t n a d := if_neg (by omega)
        have e2 := tx_n_b2 (t := t) (n := n) (a := a) (d := d) h_3 h_9
        rw [g1, g2, e2.2.1, e2.1] at q2
        exact q2 _ rfl p_4 (w_5.trans rfl) (Fr_c (Fr_0 (V := V) (S := [91])) f_6 (by decide))
    · refine j1 ?_
      refine ia_if_eq (pc := 12) F 22 dX2_readParameter_12 rfl (by omega) (fun _ => ?_) (fun h9 => absurd h9 (by omega))
      refine ia_iconst (pc := 22) F dX2_readParameter_22 ?_
      refine ia_ireturn (pc := 23) F M (by decide) (by decide) dX2_readParameter_23 ?_
      have g1 : tx_pW t n a d = tx_nW t n a := if_neg (by omega)
      have g2 : tx_pP t n a d = tx_nP t n a d := if_neg (by omega)
      have g3 : tx_pV t n a d = tx_nV t n a d := if_neg (by omega)
      have e2 := tx_n_b1 (t := t) (n := n) (a := a) (d := d) (by assumption)
      rw [g1, g2, e2.2.1, e2.1] at q2
      exact q2 _ rfl hP (h91.trans (up_id ha).symm) (Fr_0 (V := V) (S := [91]))
  · refine ia_iconst (pc := 4) F dX2_readParameter_4 ?_
    refine ia_ireturn (pc := 5) F M (by decide) (by decide) dX2_readParameter_5 ?_
    have d0 : d = 0 := by omega
    subst d0
    exact q1 _ rfl hP (h91.trans (up_id ha).symm) (Fr_0 (V := V) (S := [91]))
set_option maxRecDepth 100000 in
theorem c_X2_readCommand {Z : ia_Z} {V : ia_H} {Q : ia_O → ia_Z → ia_H → Prop} {π : Nat → Int} {k4 : Nat → Int} {k5 : Nat → Int} {k6 : Nat → Int} (ix a : Nat) (n q L : Nat) (t : Nat → Int) (hZ : ZI Z) (hP : PI V) (h91 : V 91 = π) (h94 : V 94 = k4) (h95 : V 95 = k5) (h96 : V 96 = k6) (hT : SB 92 Z V n t q L) (ht : ∀ i : Nat, i < n → 0 ≤ t i ∧ t i ≤ 126) (hn6 : n ≤ 60) (ha : π 5 = (a : Int)) (han : a ≤ n) (hix : ix < 16) (q1 : ∀ (V1 : ia_H), (tx_cW t n a = 0) → PI V1 → (V1 91 = up π 5 ((tx_cP t n a : Nat) : Int)) → (V1 94 = up k4 ix ((ia_E0 + tx_cK t n a : Nat) : Int)) → (V1 95 = up k5 ix (tx_cF t n a)) → (V1 96 = up k6 ix (tx_cS t n a)) → (∀ pp, pp ∉ ([91, 94, 95, 96] : List Nat) → V1 pp = V pp) → Q (.inl (some (0, 1))) Z V1) (q2 : ∀ (V1 : ia_H), (tx_cW t n a = 1) → PI V1 → (V1 91 = up π 5 ((tx_cP t n a : Nat) : Int)) → (∀ pp, pp ∉ ([91, 94, 95, 96] : List Nat) → V1 pp = V pp) → Q (.inl (some (0, 0))) Z V1) : ia_K yX2_readCommand cX2_readCommand 5 (some .boolean) [(4, ((91 : Nat) : Int)), (0, (ix : Int))] Z V 7 0 0 Q := by
  refine ia_start RX2 "readCommand" ⟨by decide, rfl, rfl⟩ (Nat.le_of_ble_eq_true rfl) (ia_tg rfl) (fun X F M => ?_)
  show ia_G X 0 0 0 [(4, ((91 : Nat) : Int)), (0, (ix : Int)), (9, 0), (9, 0), (9, 0)] [] Z V
  refine ia_aload_n (pc := 0) F dX2_readCommand_0 rfl ?_
  refine jV (pc := 1) F 0 0 (z91 hZ) cls5.1 (c_X2_readWord a n q L t hZ hP h91 hT ht hn6 ((rfl : π 5 = π 5).trans ha) (by omega) (fun V_1 h_2 p_3 w_4 f_5 => ?_) (fun V_6 h_7 p_8 w_9 f_10 => ?_)) rfl ⟨k_X2_readWord, il_RX2_58, im_X2_readWord, is_X2_readWord, ii_RX2⟩ 0 rfl hd_X2_readWord ⟨by decide, by decide, by decide, by decide, Nat.le_of_ble_eq_true rfl⟩ dX2_readCommand_1
  · refine j1 ?_
    refine ia_astore_n (pc := 4) F (ls' := [(4, ((91 : Nat) : Int)), (0, (ix : Int)), (4, ((ia_E0 + (tx_cK t n a) : Nat) : Int)), (9, 0), (9, 0)]) dX2_readCommand_4 (Nat.le_of_ble_eq_true rfl) rfl rfl ?_
    have s1 := tx_wP_rng (t := t) han
    refine ia_aload_n (pc := 5) F dX2_readCommand_5 rfl ?_
    refine ia_ifnonnull (pc := 6) F 11 _ rfl dX2_readCommand_6 rfl ?_
    refine ia_aload_n (pc := 11) F dX2_readCommand_11 rfl ?_
    refine ia_aload_n (pc := 12) F dX2_readCommand_12 rfl ?_
    refine ia_getDig1 (pc := 13) F (tx_cK t n a) (by omega) il_RX2_62 dX2_readCommand_13 ?_
    rw [tx_dig1 (i := (tx_cK t n a)) (by omega)]
    refine jV (pc := 16) F 0 0 (z91 hZ) cls5.1 (c_X2_readParameter (tx_dA (tx_cK t n a)) (tx_wP t n a) n q L t hZ p_3 w_4 (SB_fr hT f_5 (by decide) (by decide)) ht hn6 ((rfl : (up π 5 ((tx_wP t n a : Nat) : Int)) 5 = (up π 5 ((tx_wP t n a : Nat) : Int)) 5).trans (up_self _ _ _)) s1.2.1 tx_dA_le (fun V_11 h_12 p_13 w_14 f_15 => ?_) (fun V_16 h_17 p_18 w_19 f_20 => ?_)) rfl ⟨k_X2_readParameter, il_RX2_65, im_X2_readParameter, is_X2_readParameter, ii_RX2⟩ 1 rfl hd_X2_readParameter ⟨by decide, by decide, by decide, by decide, Nat.le_of_ble_eq_true rfl⟩ dX2_readCommand_16
    · refine j1 ?_
      have s2 := tx_pV_rng (t := t) (n := n) (a := tx_wP t n a) (tx_dA_le (k := (tx_cK t n a)))
      have s3 := tx_qP_rng (t := t) han
      refine ia_istore_n (pc := 19) F (ls' := [(4, ((91 : Nat) : Int)), (0, (ix : Int)), (4, ((ia_E0 + (tx_cK t n a) : Nat) : Int)), (0, (tx_pV t n (tx_wP t n a) (tx_dA (tx_cK t n a)))), (9, 0)]) dX2_readCommand_19 (Nat.le_of_ble_eq_true rfl) rfl rfl ?_
      refine ia_iload_n (pc := 20) F dX2_readCommand_20 rfl ?_
      refine ia_iconst (pc := 21) F dX2_readCommand_21 ?_
      refine ia_icmp_ne (pc := 22) F 27 dX2_readCommand_22 rfl (by omega) (by omega) (fun _ => ?_) (fun h9 => absurd h9 (by omega))
      refine ia_aload_n (pc := 27) F dX2_readCommand_27 rfl ?_
      refine ia_aload_n (pc := 28) F dX2_readCommand_28 rfl ?_
      refine ia_getDig2 (pc := 29) F (tx_cK t n a) (by omega) il_RX2_69 dX2_readCommand_29 ?_
      rw [tx_dig2 (i := (tx_cK t n a)) (by omega)]
      refine jV (pc := 32) F 0 0 (z91 hZ) cls5.1 (c_X2_readParameter (tx_dB (tx_cK t n a)) (tx_pP t n (tx_wP t n a) (tx_dA (tx_cK t n a))) n q L t hZ p_13 w_14 (SB_fr (SB_fr hT f_5 (by decide) (by decide)) f_15 (by decide) (by decide)) ht hn6 ((rfl : (up (up π 5 ((tx_wP t n a : Nat) : Int)) 5 ((tx_pP t n (tx_wP t n a) (tx_dA (tx_cK t n a)) : Nat) : Int)) 5 = (up (up π 5 ((tx_wP t n a : Nat) : Int)) 5 ((tx_pP t n (tx_wP t n a) (tx_dA (tx_cK t n a)) : Nat) : Int)) 5).trans (up_self _ _ _)) s3.2 tx_dB_le (fun V_21 h_22 p_23 w_24 f_25 => ?_) (fun V_26 h_27 p_28 w_29 f_30 => ?_)) rfl ⟨k_X2_readParameter, il_RX2_65, im_X2_readParameter, is_X2_readParameter, ii_RX2⟩ 1 rfl hd_X2_readParameter ⟨by decide, by decide, by decide, by decide, Nat.le_of_ble_eq_true rfl⟩ dX2_readCommand_32
      · refine j1 ?_
        have s4 := tx_pV_rng (t := t) (n := n) (a := tx_pP t n (tx_wP t n a) (tx_dA (tx_cK t n a))) (tx_dB_le (k := (tx_cK t n a)))
        refine ia_istore (pc := 35) F (ls' := [(4, ((91 : Nat) : Int)), (0, (ix : Int)), (4, ((ia_E0 + (tx_cK t n a) : Nat) : Int)), (0, (tx_pV t n (tx_wP t n a) (tx_dA (tx_cK t n a)))), (0, (tx_pV t n (tx_pP t n (tx_wP t n a) (tx_dA (tx_cK t n a))) (tx_dB (tx_cK t n a))))]) dX2_readCommand_35 (Nat.le_of_ble_eq_true rfl) rfl rfl ?_
        refine ia_iload (pc := 37) F dX2_readCommand_37 rfl ?_
        refine ia_iconst (pc := 39) F dX2_readCommand_39 ?_
        refine ia_icmp_ne (pc := 40) F 45 dX2_readCommand_40 rfl (by omega) (by omega) (fun _ => ?_) (fun h9 => absurd h9 (by omega))
        refine ia_aload_n (pc := 45) F dX2_readCommand_45 rfl ?_
        refine jg (pc := 46) F (z91 hZ) cls5 f5_1 (p_23 91 1 94 rfl) il_RX2_20 dX2_readCommand_46 ?_
        refine ia_iload_n (pc := 49) F dX2_readCommand_49 rfl ?_
        refine ia_aload_n (pc := 50) F dX2_readCommand_50 rfl ?_
        refine ia_astCmd (pc := 51) F 94 ix (tx_cK t n a) rfl rfl (by omega) (z94 hZ).1 (z94 hZ).2.1 (by rw [(z94 hZ).2.2]; omega) ii_RX1 dX2_readCommand_51 ?_
        refine ia_aload_n (pc := 52) F dX2_readCommand_52 rfl ?_
        refine jg (pc := 53) F (z91 hZ) cls5 f5_2 ((PI_u p_23 rfl) 91 2 95 rfl) il_RX2_24 dX2_readCommand_53 ?_
        refine ia_iload_n (pc := 56) F dX2_readCommand_56 rfl ?_
        refine ia_iload_n (pc := 57) F dX2_readCommand_57 rfl ?_
        refine js (pc := 58) F (z95 hZ) ix rfl (by omega) dX2_readCommand_58 ?_
        refine ia_aload_n (pc := 59) F dX2_readCommand_59 rfl ?_
        refine jg (pc := 60) F (z91 hZ) cls5 f5_3 ((PI_u (PI_u p_23 rfl) rfl) 91 3 96 rfl) il_RX2_28 dX2_readCommand_60 ?_
        refine ia_iload_n (pc := 63) F dX2_readCommand_63 rfl ?_
        refine ia_iload (pc := 64) F dX2_readCommand_64 rfl ?_
        refine js (pc := 66) F (z96 hZ) ix rfl (by omega) dX2_readCommand_66 ?_
        refine ia_iconst (pc := 67) F dX2_readCommand_67 ?_
        refine ia_zreturn (pc := 68) F M (Or.inr rfl) (by decide) (by decide) dX2_readCommand_68 ?_
        have c9 := tx_c_2 (t := t) (n := n) (a := a) h_2 h_12
        exact q1 _ (c9.1.trans h_22) (PI_u (PI_u (PI_u p_23 rfl) rfl) rfl) (((rowN (by decide)).trans ((rowN (by decide)).trans ((rowN (by decide)).trans w_24))).trans (by rw [up_up, up_up, c9.2]; rfl)) (((rowN (by decide)).trans ((rowN (by decide)).trans (rowU ((f_25 94 (by decide)).trans ((f_15 94 (by decide)).trans ((f_5 94 (by decide)).trans h94)))))).trans rfl) (((rowN (by decide)).trans (rowU ((rowN (by decide)).trans ((f_25 95 (by decide)).trans ((f_15 95 (by decide)).trans ((f_5 95 (by decide)).trans h95)))))).trans rfl) ((rowU ((rowN (by decide)).trans ((rowN (by decide)).trans ((f_25 96 (by decide)).trans ((f_15 96 (by decide)).trans ((f_5 96 (by decide)).trans h96)))))).trans rfl) (Fr_u (Fr_u (Fr_u (Fr_c (Fr_c (Fr_c (Fr_0 (V := V) (S := [91, 94, 95, 96])) f_5 (by decide)) f_15 (by decide)) f_25 (by decide)) (by decide)) (by decide)) (by decide))
      · refine j1 ?_
        have s4 := tx_pV_rng (t := t) (n := n) (a := tx_pP t n (tx_wP t n a) (tx_dA (tx_cK t n a))) (tx_dB_le (k := (tx_cK t n a)))
        refine ia_istore (pc := 35) F (ls' := [(4, ((91 : Nat) : Int)), (0, (ix : Int)), (4, ((ia_E0 + (tx_cK t n a) : Nat) : Int)), (0, (tx_pV t n (tx_wP t n a) (tx_dA (tx_cK t n a)))), (0, (-1))]) dX2_readCommand_35 (Nat.le_of_ble_eq_true rfl) rfl rfl ?_
        refine ia_iload (pc := 37) F dX2_readCommand_37 rfl ?_
        refine ia_iconst (pc := 39) F dX2_readCommand_39 ?_
        refine ia_icmp_ne (pc := 40) F 45 dX2_readCommand_40 rfl (by omega) (by omega) (fun h9 => absurd h9 (by omega)) (fun _ => ?_)
        refine ia_iconst (pc := 43) F dX2_readCommand_43 ?_
        refine ia_zreturn (pc := 44) F M (Or.inl rfl) (by decide) (by decide) dX2_readCommand_44 ?_
        have c9 := tx_c_2 (t := t) (n := n) (a := a) h_2 h_12
        exact q2 _ (c9.1.trans h_27) p_28 (w_29.trans (by rw [up_up, up_up, c9.2]; rfl)) (Fr_c (Fr_c (Fr_c (Fr_0 (V := V) (S := [91, 94, 95, 96])) f_5 (by decide)) f_15 (by decide)) f_30 (by decide))
    · refine j1 ?_
      have s2 := tx_pV_rng (t := t) (n := n) (a := tx_wP t n a) (tx_dA_le (k := (tx_cK t n a)))
      have s3 := tx_qP_rng (t := t) han
      refine ia_istore_n (pc := 19) F (ls' := [(4, ((91 : Nat) : Int)), (0, (ix : Int)), (4, ((ia_E0 + (tx_cK t n a) : Nat) : Int)), (0, (-1)), (9, 0)]) dX2_readCommand_19 (Nat.le_of_ble_eq_true rfl) rfl rfl ?_
      refine ia_iload_n (pc := 20) F dX2_readCommand_20 rfl ?_
      refine ia_iconst (pc := 21) F dX2_readCommand_21 ?_
      refine ia_icmp_ne (pc := 22) F 27 dX2_readCommand_22 rfl (by omega) (by omega) (fun h9 => absurd h9 (by omega)) (fun _ => ?_)
      refine ia_iconst (pc := 25) F dX2_readCommand_25 ?_
      refine ia_zreturn (pc := 26) F M (Or.inl rfl) (by decide) (by decide) dX2_readCommand_26 ?_
      have c9 := tx_c_1 (t := t) (n := n) (a := a) h_2 (by rw [h_17]; decide)
      exact q2 _ c9.1 p_18 (w_19.trans (by rw [up_up, c9.2]; rfl)) (Fr_c (Fr_c (Fr_0 (V := V) (S := [91, 94, 95, 96])) f_5 (by decide)) f_20 (by decide))
  · refine j1 ?_
    refine ia_astore_n (pc := 4) F (ls' := [(4, ((91 : Nat) : Int)), (0, (ix : Int)), (4, -1), (9, 0), (9, 0)]) dX2_readCommand_4 (Nat.le_of_ble_eq_true rfl) rfl rfl ?_
    have s1 := tx_wP_rng (t := t) han
    refine ia_aload_n (pc := 5) F dX2_readCommand_5 rfl ?_
    refine ia_ifnonnullN (pc := 6) F (by decide) dX2_readCommand_6 ?_
    refine ia_iconst (pc := 9) F dX2_readCommand_9 ?_
    refine ia_zreturn (pc := 10) F M (Or.inl rfl) (by decide) (by decide) dX2_readCommand_10 ?_
    have c9 := tx_c_n (t := t) (n := n) (a := a) h_7
    exact q2 _ c9.1 p_8 (w_9.trans (by rw [c9.2])) (Fr_c (Fr_0 (V := V) (S := [91, 94, 95, 96])) f_10 (by decide))
set_option maxRecDepth 100000 in
theorem c_X2_read {Z : ia_Z} {V : ia_H} {Q : ia_O → ia_Z → ia_H → Prop} {π : Nat → Int} {k4 : Nat → Int} {k5 : Nat → Int} {k6 : Nat → Int} (n q L : Nat) (t : Nat → Int) (hZ : ZI Z) (hP : PI V) (h91 : V 91 = π) (h94 : V 94 = k4) (h95 : V 95 = k5) (h96 : V 96 = k6) (hT : SB 92 Z V n t q L) (ht : ∀ i : Nat, i < n → 0 ≤ t i ∧ t i ≤ 126) (hn6 : n ≤ 60) (q1 : ∀ (k : Nat) (V1 : ia_H), (∀ i, i < k → tx_mo t n i) → (tx_cW t n (tx_ps t n k) = 0) → (tx_cP t n (tx_ps t n k) = n) → PI V1 → (V1 91 = up (up π 5 (n : Int)) 4 ((k : Int) + 1)) → (V1 94 = mgk (k + 1) (fun i => ((ia_E0 + tx_cK t n (tx_ps t n i) : Nat) : Int)) k4) → (V1 95 = mgk (k + 1) (fun i => tx_cF t n (tx_ps t n i)) k5) → (V1 96 = mgk (k + 1) (fun i => tx_cS t n (tx_ps t n i)) k6) → (∀ pp, pp ∉ ([91, 94, 95, 96] : List Nat) → V1 pp = V pp) → Q (.inl (some (0, 1))) Z V1) (q2 : ∀ (k : Nat) (V1 : ia_H), (∀ i, i < k → tx_mo t n i) → (¬ tx_mo t n k) → (tx_cP t n (tx_ps t n k) ≤ n ∧ (tx_cW t n (tx_ps t n k) = 1 ∨ tx_cP t n (tx_ps t n k) < n)) → PI V1 → (V1 91 = up π 5 ((tx_cP t n (tx_ps t n k) : Nat) : Int)) → (∀ pp, pp ∉ ([91, 94, 95, 96] : List Nat) → V1 pp = V pp) → Q (.inl (some (0, 0))) Z V1) : ia_K yX2_read cX2_read 2 (some .boolean) [(4, ((91 : Nat) : Int))] Z V 8 0 0 Q := by
  refine ia_start RX2 "read" ⟨by decide, rfl, rfl⟩ (Nat.le_of_ble_eq_true rfl) (ia_tg rfl) (fun X F M => ?_)
  show ia_G X 0 0 0 [(4, ((91 : Nat) : Int)), (9, 0)] [] Z V
  refine ia_aload_n (pc := 0) F dX2_read_0 rfl ?_
  refine ia_iconst (pc := 1) F dX2_read_1 ?_
  refine jp (pc := 2) F (z91 hZ) cls5 f5_5 rfl (ia_nI rfl _) il_RX2_35 dX2_read_2 ?_
  refine ia_iconst (pc := 5) F dX2_read_5 ?_
  refine ia_istore_n (pc := 6) F (ls' := [(4, ((91 : Nat) : Int)), (0, 0)]) dX2_read_6 (Nat.le_of_ble_eq_true rfl) rfl rfl ?_
  have L7 : ∀ (fu : Nat) (k : Nat) (V2 : ia_H), (16 - k < fu) → (∀ i, i < k → tx_mo t n i) → (PI V2) → (V2 91 = up π 5 ((tx_ps t n k : Nat) : Int)) → (V2 94 = mgk k (fun i => ((ia_E0 + tx_cK t n (tx_ps t n i) : Nat) : Int)) k4) → (V2 95 = mgk k (fun i => tx_cF t n (tx_ps t n i)) k5) → (V2 96 = mgk k (fun i => tx_cS t n (tx_ps t n i)) k6) → (∀ pp, pp ∉ ([91, 94, 95, 96] : List Nat) → V2 pp = V pp) → ia_G X 0 0 7 [(4, ((91 : Nat) : Int)), (0, (k : Int))] [] Z V2 := by
    intro fu
    induction fu with
    | zero => intro k V2 hm; exact absurd hm (Nat.not_lt_zero _)
    | succ fu ih =>
      intro k V2 hm hmo hP2 w2_91 w2_94 w2_95 w2_96 hF2
      have ih7 := ih
      have p1 := tx_ps_rng k hmo
      have p2 := tx_cP_rng (t := t) (n := n) (a := tx_ps t n k) p1.2
      refine ia_iload_n (pc := 7) F dX2_read_7 rfl ?_
      refine ia_bipush (pc := 8) F dX2_read_8 (by decide) ?_
      refine ia_icmp_ge (pc := 10) F 63 dX2_read_10 rfl (by omega) (by omega) (fun h9 => absurd h9 (by omega)) (fun _ => ?_)
      refine ia_aload_n (pc := 13) F dX2_read_13 rfl ?_
      refine ia_iload_n (pc := 14) F dX2_read_14 rfl ?_
      refine jV (pc := 15) F 0 0 (z91 hZ) cls5.1 (c_X2_readCommand k (tx_ps t n k) n q L t hZ hP2 w2_91 w2_94 w2_95 w2_96 (SB_fr hT hF2 (by decide) (by decide)) ht hn6 ((rfl : (up π 5 ((tx_ps t n k : Nat) : Int)) 5 = (up π 5 ((tx_ps t n k : Nat) : Int)) 5).trans (up_self _ _ _)) p1.2 (by omega) (fun V_1 h_2 p_3 w_4 w_5 w_6 w_7 f_8 => ?_) (fun V_9 h_10 p_11 w_12 f_13 => ?_)) rfl ⟨k_X2_readCommand, il_RX2_50, im_X2_readCommand, is_X2_readCommand, ii_RX2⟩ 1 rfl hd_X2_readCommand ⟨by decide, by decide, by decide, by decide, Nat.le_of_ble_eq_true rfl⟩ dX2_read_15
      · refine j1 ?_
        refine ia_if_ne (pc := 18) F 23 dX2_read_18 rfl (by omega) (fun _ => ?_) (fun h9 => absurd h9 (by omega))
        refine ia_aload_n (pc := 23) F dX2_read_23 rfl ?_
        refine jg (pc := 24) F (x := ((tx_cP t n (tx_ps t n k) : Nat) : Int)) (z91 hZ) cls5 f5_5 ((congrFun w_4 5).trans (up_self _ _ _)) il_RX2_35 dX2_read_24 ?_
        refine ia_aload_n (pc := 27) F dX2_read_27 rfl ?_
        refine jg (pc := 28) F (z91 hZ) cls5 f5_0 (p_3 91 0 92 rfl) il_RX2_12 dX2_read_28 ?_
        refine jV (pc := 31) F 0 0 (z92 hZ) cls1.1 (c_J4_length 92 q n L t (SB_fr (SB_fr hT hF2 (by decide) (by decide)) f_8 (by decide) (by decide)) ?_) rfl ⟨k_J4_length_8abf5, il_RX2_38, im_J4_length_8abf5, is_J4_length_8abf5, ii_RJ4⟩ 0 rfl hd_J4_length_8abf5 ⟨by decide, by decide, by decide, by decide, Nat.le_of_ble_eq_true rfl⟩ dX2_read_31
        refine j1 ?_
        refine ia_icmp_ne (pc := 34) F 46 dX2_read_34 rfl (by omega) (by omega) (fun h_14 => ?_) (fun h_14 => ?_)
        · refine ia_aload_n (pc := 46) F dX2_read_46 rfl ?_
          refine ia_bipush (pc := 47) F dX2_read_47 (by decide) ?_
          refine jV (pc := 49) F 0 0 (z91 hZ) cls5.1 (c_X2_skip (tx_cP t n (tx_ps t n k)) 59 n q L t hZ p_3 w_4 (SB_fr (SB_fr hT hF2 (by decide) (by decide)) f_8 (by decide) (by decide)) ht hn6 ((rfl : (up (up π 5 ((tx_ps t n k : Nat) : Int)) 5 ((tx_cP t n (tx_ps t n k) : Nat) : Int)) 5 = (up (up π 5 ((tx_ps t n k : Nat) : Int)) 5 ((tx_cP t n (tx_ps t n k) : Nat) : Int)) 5).trans (up_self _ _ _)) p2.2.1 (by decide) (fun V_15 h_16 p_17 w_18 f_19 => ?_) (fun h_20 => ?_)) rfl ⟨k_X2_skip, il_RX2_54, im_X2_skip, is_X2_skip, ii_RX2⟩ 1 rfl hd_X2_skip ⟨by decide, by decide, by decide, by decide, Nat.le_of_ble_eq_true rfl⟩ dX2_read_49
          · refine j1 ?_
            refine ia_if_ne (pc := 52) F 57 dX2_read_52 rfl (by omega) (fun _ => ?_) (fun h9 => absurd h9 (by omega))
            refine ia_iinc (pc := 57) F (ls' := [(4, ((91 : Nat) : Int)), (0, ((k + 1 : Nat) : Int))]) dX2_read_57 rfl rfl rfl rfl ?_
            refine ia_goto (pc := 60) F 7 dX2_read_60 rfl ?_
            exact ih7 (k + 1) _ (by omega) (tx_mo_s hmo ⟨h_2, by omega, by have e := h_16; exact e.2⟩) p_17 (w_18.trans (by rw [up_up, up_up, tx_ps_s] <;> rfl)) (((f_19 94 (by decide)).trans w_5).trans (mgk_f rfl)) (((f_19 95 (by decide)).trans w_6).trans (mgk_f rfl)) (((f_19 96 (by decide)).trans w_7).trans (mgk_f rfl)) (Fr_c (Fr_c hF2 f_8 (by decide)) f_19 (by decide))
          · refine j1 ?_
            refine ia_if_ne (pc := 52) F 57 dX2_read_52 rfl (by omega) (fun h9 => absurd h9 (by omega)) (fun _ => ?_)
            refine ia_iconst (pc := 55) F dX2_read_55 ?_
            refine ia_zreturn (pc := 56) F M (Or.inl rfl) (by decide) (by decide) dX2_read_56 ?_
            exact q2 k _ hmo (fun e => h_20 ⟨e.2.1, e.2.2⟩) ⟨p2.2.1, Or.inr (by omega)⟩ p_3 (w_4.trans (by rw [up_up])) (Fr_c hF2 f_8 (by decide))
        · refine ia_aload_n (pc := 37) F dX2_read_37 rfl ?_
          refine ia_iload_n (pc := 38) F dX2_read_38 rfl ?_
          refine ia_iconst (pc := 39) F dX2_read_39 ?_
          refine ia_iadd (pc := 40) F dX2_read_40 ?_
          refine jp (pc := 41) F (z91 hZ) cls5 f5_4 rfl (ia_nI rfl _) il_RX2_31 dX2_read_41 ?_
          refine ia_iconst (pc := 44) F dX2_read_44 ?_
          refine ia_zreturn (pc := 45) F M (Or.inr rfl) (by decide) (by decide) dX2_read_45 ?_
          have e8 : tx_cP t n (tx_ps t n k) = n := by omega
          exact q1 k _ hmo h_2 e8 (PI_u p_3 rfl) ((rowU w_4).trans (by rw [up_up, e8])) (((rowN (by decide)).trans w_5).trans (mgk_f rfl)) (((rowN (by decide)).trans w_6).trans (mgk_f rfl)) (((rowN (by decide)).trans w_7).trans (mgk_f rfl)) (Fr_u (Fr_c hF2 f_8 (by decide)) (by decide))
      · refine j1 ?_
        refine ia_if_ne (pc := 18) F 23 dX2_read_18 rfl (by omega) (fun h9 => absurd h9 (by omega)) (fun _ => ?_)
        refine ia_iconst (pc := 21) F dX2_read_21 ?_
        refine ia_zreturn (pc := 22) F M (Or.inl rfl) (by decide) (by decide) dX2_read_22 ?_
        exact q2 k _ hmo (fun e => by have e1 := e.1; omega) ⟨p2.2.1, Or.inl h_10⟩ p_11 (w_12.trans (by rw [up_up])) (Fr_c hF2 f_13 (by decide))
  exact L7 (16 + 1) 0 _ (by omega) (fun i hi => absurd hi (Nat.not_lt_zero _)) (PI_u hP rfl) ((rowU h91).trans (by rw [tx_ps_0]; rfl)) (((rowN (by decide)).trans h94).trans mgk_0) (((rowN (by decide)).trans h95).trans mgk_0) (((rowN (by decide)).trans h96).trans mgk_0) (Fr_u (Fr_0 (V := V) (S := [91, 94, 95, 96])) (by decide))
