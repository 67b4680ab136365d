/-! the model: a command (made by wip/whole/m3.py) -/
set_option maxRecDepth 100000 in
set_option maxHeartbeats 16000000 in
theorem c_X8_command {Z : ia_Z} {V : ia_H} {Q : ia_O → ia_Z → ia_H → Prop} {μ : Nat → Int} {ι : Nat → Int} {k1 : Nat → Int} {k2 : Nat → Int} {k3 : Nat → Int} (a n kc : Nat) (hZ : ZI Z) (hP : PI V) (h99 : V 99 = (tpm μ (a : Int) 0 (kc : Int))) (h110 : V 110 = ι) (h111 : V 111 = k1) (h112 : V 112 = k2) (h113 : V 113 = k3) (hn : μ 21 = (n : Int)) (hn6 : n ≤ 60) (han : a ≤ n) (ht : ∀ i : Nat, i < n → 0 ≤ ι i ∧ ι i ≤ 126) (hkc : kc < 32) (q1 : ∀ (V1 : ia_H), (tx_cW ι n a = 0) → PI V1 → (V1 99 = tpm μ ((tx_cP ι n a : Nat) : Int) 0 ((kc : Int) + 1)) → (V1 111 = up k1 kc ((tx_cK ι n a : Nat) : Int)) → (V1 112 = up k2 kc (tx_cF ι n a)) → (V1 113 = up k3 kc (tx_cS ι n a)) → (∀ pp, pp ∉ ([99, 111, 112, 113] : List Nat) → V1 pp = V pp) → Q (.inl none) Z V1) (q2 : ∀ (V1 : ia_H), (tx_cW ι n a = 1) → PI V1 → (V1 99 = tpm μ ((tx_cP ι n a : Nat) : Int) 1 (kc : Int)) → (∀ pp, pp ∉ ([99, 111, 112, 113] : List Nat) → V1 pp = V pp) → Q (.inl none) Z V1) : ia_K yX8_command cX8_command 2 none [(4, ((99 : Nat) : Int))] Z V 4 0 0 Q := by
  refine ia_start RX8 "command" ⟨by decide, rfl, rfl⟩ (Nat.le_of_ble_eq_true rfl) (ia_tg rfl) (fun X F M => ?_)
  show ia_G X 0 0 0 [(4, ((99 : Nat) : Int)), (9, 0)] [] Z V
  refine ia_aload_n (pc := 0) F dX8_command_0 rfl ?_
  refine jV (pc := 1) F 0 0 (z99 hZ) cls11.1 (c_X8_word a n (kc : Int) hZ hP h99 h110 hn hn6 (by omega) ht (fun V_1 h_2 p_3 w_4 f_5 => ?_) (fun V_6 h_7 p_8 w_9 f_10 => ?_)) rfl ⟨k_X8_word, il_RX8_245, im_X8_word, is_X8_word, ii_RX8⟩ 0 rfl hd_X8_word ⟨by decide, by decide, by decide, by decide, Nat.le_of_ble_eq_true rfl⟩ dX8_command_1
  · refine j1 ?_
    rcases (show tx_cK ι n a = 0 ∨ tx_cK ι n a = 1 ∨ tx_cK ι n a = 2 ∨ tx_cK ι n a = 3 ∨ tx_cK ι n a = 4 ∨ tx_cK ι n a = 5 ∨ tx_cK ι n a = 6 ∨ tx_cK ι n a = 7 ∨ tx_cK ι n a = 8 by omega) with hK | hK | hK | hK | hK | hK | hK | hK | hK
    · rw [show ((tx_cK ι n a : Nat) : Int) = 0 from by omega]
      refine ia_istore_n (pc := 4) F (ls' := [(4, ((99 : Nat) : Int)), (0, 0)]) dX8_command_4 (Nat.le_of_ble_eq_true rfl) rfl rfl ?_
      refine ia_aload_n (pc := 5) F dX8_command_5 rfl ?_
      refine jg (pc := 6) F (x := 0) (z99 hZ) cls11 f11_24 ((congrFun w_4 24).trans tp_24) il_RX8_84 dX8_command_6 ?_
      refine ia_if_eq (pc := 9) F 13 dX8_command_9 rfl (by omega) (fun _ => ?_) (fun h9 => absurd h9 (by omega))
      have s7 := tx_wP_rng (t := ι) han
      refine ia_aload_n (pc := 13) F dX8_command_13 rfl ?_
      refine jg (pc := 14) F (z99 hZ) cls11 f11_18 (p_3 99 18 112 rfl) il_RX8_66 dX8_command_14 ?_
      refine ia_aload_n (pc := 17) F dX8_command_17 rfl ?_
      refine jg (pc := 18) F (x := (kc : Int)) (z99 hZ) cls11 f11_23 ((congrFun w_4 23).trans tp_23) il_RX8_81 dX8_command_18 ?_
      refine ia_iload_n (pc := 21) F dX8_command_21 rfl ?_
      refine ia_iconst (pc := 22) F dX8_command_22 ?_
      refine ia_icmp_ne (pc := 23) F 30 dX8_command_23 rfl (by omega) (by omega) (fun _ => ?_) (fun h9 => absurd h9 (by omega))
      refine ia_aload_n (pc := 30) F dX8_command_30 rfl ?_
      refine ia_iload_n (pc := 31) F dX8_command_31 rfl ?_
      refine jS (pc := 32) F 0 0 (c_X8_firstDigits 0 (by omega) (fun h_11 h_12 => ?_) (fun h_13 h_14 h_15 => ?_) (fun h_16 h_17 h_18 h_19 => ?_) (fun h_20 h_21 h_22 h_23 => ?_) (fun h_24 => ?_)) rfl ⟨k_X8_firstDigits, il_RX8_248, it_X8_firstDigits, ii_RX8⟩ rfl 1 rfl hd_X8_firstDigits ⟨by decide, by decide, by decide, by decide, Nat.le_of_ble_eq_true rfl⟩ dX8_command_32
      · exfalso
        omega
      · exfalso
        omega
      · refine j1 ?_
        refine jV (pc := 35) F 0 0 (z99 hZ) cls11.1 (c_X8_number 1 (tx_wP ι n a) n 0 (kc : Int) hZ p_3 w_4 ((f_5 110 (by decide)).trans h110) hn hn6 s7.2.1 ht (Or.inl rfl) (by omega) (fun V_25 h_26 p_27 w_28 f_29 => ?_) (fun V_30 h_31 p_32 w_33 f_34 => ?_)) rfl ⟨k_X8_number, il_RX8_251, im_X8_number, is_X8_number, ii_RX8⟩ 1 rfl hd_X8_number ⟨by decide, by decide, by decide, by decide, Nat.le_of_ble_eq_true rfl⟩ dX8_command_35
        · refine j1 ?_
          refine js (pc := 38) F (z112 hZ) kc rfl (by omega) dX8_command_38 ?_
          have s8 := fun d => tx_nP_rng (t := ι) (n := n) (a := tx_wP ι n a) (d := d) s7.2.1
          have s9 := tx_nW_01 (t := ι) (n := n) (a := tx_wP ι n a)
          refine ia_aload_n (pc := 39) F dX8_command_39 rfl ?_
          refine jg (pc := 40) F (z99 hZ) cls11 f11_19 ((PI_u p_27 rfl) 99 19 113 rfl) il_RX8_69 dX8_command_40 ?_
          refine ia_aload_n (pc := 43) F dX8_command_43 rfl ?_
          refine jg (pc := 44) F (x := (kc : Int)) (z99 hZ) cls11 f11_23 ((congrFun ((rowN (by decide)).trans w_28) 23).trans tp_23) il_RX8_81 dX8_command_44 ?_
          refine ia_iload_n (pc := 47) F dX8_command_47 rfl ?_
          refine ia_if_ne (pc := 48) F 59 dX8_command_48 rfl (by omega) (fun h9 => absurd h9 (by omega)) (fun _ => ?_)
          refine ia_aload_n (pc := 51) F dX8_command_51 rfl ?_
          refine ia_iconst (pc := 52) F dX8_command_52 ?_
          refine jV (pc := 53) F 0 0 (z99 hZ) cls11.1 (c_X8_number 3 (tx_nP ι n (tx_wP ι n a) 1) n (tx_nW ι n (tx_wP ι n a)) (kc : Int) hZ (PI_u p_27 rfl) ((rowN (by decide)).trans w_28) ((rowN (by decide)).trans ((f_29 110 (by decide)).trans ((f_5 110 (by decide)).trans h110))) hn hn6 (s8 _).2 ht s9 (by omega) (fun V_35 h_36 p_37 w_38 f_39 => ?_) (fun V_40 h_41 p_42 w_43 f_44 => ?_)) rfl ⟨k_X8_number, il_RX8_251, im_X8_number, is_X8_number, ii_RX8⟩ 1 rfl hd_X8_number ⟨by decide, by decide, by decide, by decide, Nat.le_of_ble_eq_true rfl⟩ dX8_command_53
          · refine j1 ?_
            refine ia_goto (pc := 56) F 73 dX8_command_56 rfl ?_
            refine js (pc := 73) F (z113 hZ) kc rfl (by omega) dX8_command_73 ?_
            refine ia_aload_n (pc := 74) F dX8_command_74 rfl ?_
            have s10 := tx_nW_01 (t := ι) (n := n) (a := tx_nP ι n (tx_wP ι n a) 1)
            refine jg (pc := 75) F (x := (tx_nW ι n (tx_nP ι n (tx_wP ι n a) 1))) (z99 hZ) cls11 f11_24 ((congrFun ((rowN (by decide)).trans w_38) 24).trans tp_24) il_RX8_84 dX8_command_75 ?_
            refine ia_if_eq (pc := 78) F 82 dX8_command_78 rfl (by omega) (fun h_45 => ?_) (fun h_45 => ?_)
            · refine ia_aload_n (pc := 82) F dX8_command_82 rfl ?_
              refine jg (pc := 83) F (z99 hZ) cls11 f11_17 ((PI_u p_37 rfl) 99 17 111 rfl) il_RX8_63 dX8_command_83 ?_
              refine ia_aload_n (pc := 86) F dX8_command_86 rfl ?_
              refine jg (pc := 87) F (x := (kc : Int)) (z99 hZ) cls11 f11_23 ((congrFun ((rowN (by decide)).trans w_38) 23).trans tp_23) il_RX8_81 dX8_command_87 ?_
              refine ia_iload_n (pc := 90) F dX8_command_90 rfl ?_
              refine js (pc := 91) F (z111 hZ) kc rfl (by omega) dX8_command_91 ?_
              refine ia_aload_n (pc := 92) F dX8_command_92 rfl ?_
              refine ia_dup (pc := 93) F dX8_command_93 (Or.inr (Or.inr rfl)) ?_
              refine jg (pc := 94) F (x := (kc : Int)) (z99 hZ) cls11 f11_23 ((congrFun ((rowN (by decide)).trans ((rowN (by decide)).trans w_38)) 23).trans tp_23) il_RX8_81 dX8_command_94 ?_
              refine ia_iconst (pc := 97) F dX8_command_97 ?_
              refine ia_iadd (pc := 98) F dX8_command_98 ?_
              refine jp (pc := 99) F (z99 hZ) cls11 f11_23 rfl (ia_nI rfl _) il_RX8_81 dX8_command_99 ?_
              refine ia_return (pc := 102) F M (by decide) (by decide) dX8_command_102 ?_
              have hA : tx_dA (tx_cK ι n a) = 1 := by rw [hK]; rfl
              have hB : tx_dB (tx_cK ι n a) = 3 := by rw [hK]; rfl
              have p1 : tx_qP ι n a = tx_nP ι n (tx_wP ι n a) 1 := by unfold tx_qP; rw [hA]; exact if_neg (by decide)
              have w1 : tx_pW ι n (tx_wP ι n a) (tx_dA (tx_cK ι n a)) = tx_nW ι n (tx_wP ι n a) := by rw [hA]; exact if_neg (by decide)
              have f1 : tx_cF ι n a = tx_nV ι n (tx_wP ι n a) 1 := by unfold tx_cF; rw [hA]; exact if_neg (by decide)
              have w2 : tx_pW ι n (tx_qP ι n a) (tx_dB (tx_cK ι n a)) = tx_nW ι n (tx_nP ι n (tx_wP ι n a) 1) := by rw [hB, p1]; exact if_neg (by decide)
              have p2 : tx_pP ι n (tx_qP ι n a) (tx_dB (tx_cK ι n a)) = tx_nP ι n (tx_nP ι n (tx_wP ι n a) 1) 3 := by rw [hB, p1]; exact if_neg (by decide)
              have f2 : tx_cS ι n a = tx_nV ι n (tx_nP ι n (tx_wP ι n a) 1) 3 := by unfold tx_cS; rw [hB, p1]; exact if_neg (by decide)
              have z1 : (tx_nW ι n (tx_wP ι n a) : Int) = 0 := by omega
              have z2 : (tx_nW ι n (tx_nP ι n (tx_wP ι n a) 1) : Int) = 0 := by omega
              have c9 := tx_c_2 (t := ι) (n := n) (a := a) (by omega) (w1.trans z1)
              rw [w2, p2, z2] at c9
              exact q1 _ c9.1 (PI_u (PI_u (PI_u p_37 rfl) rfl) rfl) (((rowU ((rowN (by decide)).trans ((rowN (by decide)).trans w_38))).trans tp_u23).trans (by rw [c9.2, z2])) (((rowN (by decide)).trans (rowU ((rowN (by decide)).trans ((f_39 111 (by decide)).trans ((rowN (by decide)).trans ((f_29 111 (by decide)).trans ((f_5 111 (by decide)).trans h111))))))).trans (by rw [hK]; rfl)) (((rowN (by decide)).trans ((rowN (by decide)).trans ((rowN (by decide)).trans ((f_39 112 (by decide)).trans (rowU ((f_29 112 (by decide)).trans ((f_5 112 (by decide)).trans h112))))))).trans (by rw [f1])) (((rowN (by decide)).trans ((rowN (by decide)).trans (rowU ((f_39 113 (by decide)).trans ((rowN (by decide)).trans ((f_29 113 (by decide)).trans ((f_5 113 (by decide)).trans h113))))))).trans (by rw [f2])) (Fr_u (Fr_u (Fr_u (Fr_c (Fr_u (Fr_c (Fr_c (Fr_0 (V := V) (S := [99, 111, 112, 113])) f_5 (by decide)) f_29 (by decide)) (by decide)) f_39 (by decide)) (by decide)) (by decide)) (by decide))
            · refine ia_return (pc := 81) F M (by decide) (by decide) dX8_command_81 ?_
              have hA : tx_dA (tx_cK ι n a) = 1 := by rw [hK]; rfl
              have hB : tx_dB (tx_cK ι n a) = 3 := by rw [hK]; rfl
              have p1 : tx_qP ι n a = tx_nP ι n (tx_wP ι n a) 1 := by unfold tx_qP; rw [hA]; exact if_neg (by decide)
              have w1 : tx_pW ι n (tx_wP ι n a) (tx_dA (tx_cK ι n a)) = tx_nW ι n (tx_wP ι n a) := by rw [hA]; exact if_neg (by decide)
              have f1 : tx_cF ι n a = tx_nV ι n (tx_wP ι n a) 1 := by unfold tx_cF; rw [hA]; exact if_neg (by decide)
              have w2 : tx_pW ι n (tx_qP ι n a) (tx_dB (tx_cK ι n a)) = tx_nW ι n (tx_nP ι n (tx_wP ι n a) 1) := by rw [hB, p1]; exact if_neg (by decide)
              have p2 : tx_pP ι n (tx_qP ι n a) (tx_dB (tx_cK ι n a)) = tx_nP ι n (tx_nP ι n (tx_wP ι n a) 1) 3 := by rw [hB, p1]; exact if_neg (by decide)
              have f2 : tx_cS ι n a = tx_nV ι n (tx_nP ι n (tx_wP ι n a) 1) 3 := by unfold tx_cS; rw [hB, p1]; exact if_neg (by decide)
              have z1 : (tx_nW ι n (tx_wP ι n a) : Int) = 0 := by omega
              have z2 : tx_nW ι n (tx_nP ι n (tx_wP ι n a) 1) = 1 := by omega
              have c9 := tx_c_2 (t := ι) (n := n) (a := a) (by omega) (w1.trans z1)
              rw [w2, p2, z2] at c9
              exact q2 _ c9.1 (PI_u p_37 rfl) (((rowN (by decide)).trans w_38).trans (by rw [c9.2, z2])) (Fr_u (Fr_c (Fr_u (Fr_c (Fr_c (Fr_0 (V := V) (S := [99, 111, 112, 113])) f_5 (by decide)) f_29 (by decide)) (by decide)) f_39 (by decide)) (by decide))
          · refine j1 ?_
            refine ia_goto (pc := 56) F 73 dX8_command_56 rfl ?_
            refine js (pc := 73) F (z113 hZ) kc rfl (by omega) dX8_command_73 ?_
            refine ia_aload_n (pc := 74) F dX8_command_74 rfl ?_
            have s10 := tx_nW_01 (t := ι) (n := n) (a := tx_nP ι n (tx_wP ι n a) 1)
            refine jg (pc := 75) F (x := 1) (z99 hZ) cls11 f11_24 ((congrFun ((rowN (by decide)).trans w_43) 24).trans tp_24) il_RX8_84 dX8_command_75 ?_
            refine ia_if_eq (pc := 78) F 82 dX8_command_78 rfl (by omega) (fun h9 => absurd h9 (by omega)) (fun _ => ?_)
            refine ia_return (pc := 81) F M (by decide) (by decide) dX8_command_81 ?_
            have hA : tx_dA (tx_cK ι n a) = 1 := by rw [hK]; rfl
            have hB : tx_dB (tx_cK ι n a) = 3 := by rw [hK]; rfl
            have p1 : tx_qP ι n a = tx_nP ι n (tx_wP ι n a) 1 := by unfold tx_qP; rw [hA]; exact if_neg (by decide)
            have w1 : tx_pW ι n (tx_wP ι n a) (tx_dA (tx_cK ι n a)) = tx_nW ι n (tx_wP ι n a) := by rw [hA]; exact if_neg (by decide)
            have f1 : tx_cF ι n a = tx_nV ι n (tx_wP ι n a) 1 := by unfold tx_cF; rw [hA]; exact if_neg (by decide)
            have w2 : tx_pW ι n (tx_qP ι n a) (tx_dB (tx_cK ι n a)) = tx_nW ι n (tx_nP ι n (tx_wP ι n a) 1) := by rw [hB, p1]; exact if_neg (by decide)
            have p2 : tx_pP ι n (tx_qP ι n a) (tx_dB (tx_cK ι n a)) = tx_nP ι n (tx_nP ι n (tx_wP ι n a) 1) 3 := by rw [hB, p1]; exact if_neg (by decide)
            have f2 : tx_cS ι n a = tx_nV ι n (tx_nP ι n (tx_wP ι n a) 1) 3 := by unfold tx_cS; rw [hB, p1]; exact if_neg (by decide)
            have z1 : tx_nW ι n (tx_wP ι n a) = 1 := by omega
            have c9 := tx_c_1 (t := ι) (n := n) (a := a) (by omega) (by rw [w1]; omega)
            rw [p1] at c9
            exact q2 _ c9.1 (PI_u p_42 rfl) (((rowN (by decide)).trans w_43).trans (by rw [c9.2])) (Fr_u (Fr_c (Fr_u (Fr_c (Fr_c (Fr_0 (V := V) (S := [99, 111, 112, 113])) f_5 (by decide)) f_29 (by decide)) (by decide)) f_44 (by decide)) (by decide))
        · exfalso
          omega
      · exfalso
        omega
      · exfalso
        omega
    · rw [show ((tx_cK ι n a : Nat) : Int) = 1 from by omega]
      refine ia_istore_n (pc := 4) F (ls' := [(4, ((99 : Nat) : Int)), (0, 1)]) dX8_command_4 (Nat.le_of_ble_eq_true rfl) rfl rfl ?_
      refine ia_aload_n (pc := 5) F dX8_command_5 rfl ?_
      refine jg (pc := 6) F (x := 0) (z99 hZ) cls11 f11_24 ((congrFun w_4 24).trans tp_24) il_RX8_84 dX8_command_6 ?_
      refine ia_if_eq (pc := 9) F 13 dX8_command_9 rfl (by omega) (fun _ => ?_) (fun h9 => absurd h9 (by omega))
      have s7 := tx_wP_rng (t := ι) han
      refine ia_aload_n (pc := 13) F dX8_command_13 rfl ?_
      refine jg (pc := 14) F (z99 hZ) cls11 f11_18 (p_3 99 18 112 rfl) il_RX8_66 dX8_command_14 ?_
      refine ia_aload_n (pc := 17) F dX8_command_17 rfl ?_
      refine jg (pc := 18) F (x := (kc : Int)) (z99 hZ) cls11 f11_23 ((congrFun w_4 23).trans tp_23) il_RX8_81 dX8_command_18 ?_
      refine ia_iload_n (pc := 21) F dX8_command_21 rfl ?_
      refine ia_iconst (pc := 22) F dX8_command_22 ?_
      refine ia_icmp_ne (pc := 23) F 30 dX8_command_23 rfl (by omega) (by omega) (fun _ => ?_) (fun h9 => absurd h9 (by omega))
      refine ia_aload_n (pc := 30) F dX8_command_30 rfl ?_
      refine ia_iload_n (pc := 31) F dX8_command_31 rfl ?_
      refine jS (pc := 32) F 0 0 (c_X8_firstDigits 1 (by omega) (fun h_46 h_47 => ?_) (fun h_48 h_49 h_50 => ?_) (fun h_51 h_52 h_53 h_54 => ?_) (fun h_55 h_56 h_57 h_58 => ?_) (fun h_59 => ?_)) rfl ⟨k_X8_firstDigits, il_RX8_248, it_X8_firstDigits, ii_RX8⟩ rfl 1 rfl hd_X8_firstDigits ⟨by decide, by decide, by decide, by decide, Nat.le_of_ble_eq_true rfl⟩ dX8_command_32
      · exfalso
        omega
      · exfalso
        omega
      · exfalso
        omega
      · exfalso
        omega
      · refine j1 ?_
        refine jV (pc := 35) F 0 0 (z99 hZ) cls11.1 (c_X8_number 3 (tx_wP ι n a) n 0 (kc : Int) hZ p_3 w_4 ((f_5 110 (by decide)).trans h110) hn hn6 s7.2.1 ht (Or.inl rfl) (by omega) (fun V_60 h_61 p_62 w_63 f_64 => ?_) (fun V_65 h_66 p_67 w_68 f_69 => ?_)) rfl ⟨k_X8_number, il_RX8_251, im_X8_number, is_X8_number, ii_RX8⟩ 1 rfl hd_X8_number ⟨by decide, by decide, by decide, by decide, Nat.le_of_ble_eq_true rfl⟩ dX8_command_35
        · refine j1 ?_
          refine js (pc := 38) F (z112 hZ) kc rfl (by omega) dX8_command_38 ?_
          have s8 := fun d => tx_nP_rng (t := ι) (n := n) (a := tx_wP ι n a) (d := d) s7.2.1
          have s9 := tx_nW_01 (t := ι) (n := n) (a := tx_wP ι n a)
          refine ia_aload_n (pc := 39) F dX8_command_39 rfl ?_
          refine jg (pc := 40) F (z99 hZ) cls11 f11_19 ((PI_u p_62 rfl) 99 19 113 rfl) il_RX8_69 dX8_command_40 ?_
          refine ia_aload_n (pc := 43) F dX8_command_43 rfl ?_
          refine jg (pc := 44) F (x := (kc : Int)) (z99 hZ) cls11 f11_23 ((congrFun ((rowN (by decide)).trans w_63) 23).trans tp_23) il_RX8_81 dX8_command_44 ?_
          refine ia_iload_n (pc := 47) F dX8_command_47 rfl ?_
          refine ia_if_ne (pc := 48) F 59 dX8_command_48 rfl (by omega) (fun _ => ?_) (fun h9 => absurd h9 (by omega))
          refine ia_iload_n (pc := 59) F dX8_command_59 rfl ?_
          refine ia_iconst (pc := 60) F dX8_command_60 ?_
          refine ia_icmp_ne (pc := 61) F 72 dX8_command_61 rfl (by omega) (by omega) (fun _ => ?_) (fun h9 => absurd h9 (by omega))
          refine ia_iconst (pc := 72) F dX8_command_72 ?_
          refine js (pc := 73) F (z113 hZ) kc rfl (by omega) dX8_command_73 ?_
          refine ia_aload_n (pc := 74) F dX8_command_74 rfl ?_
          refine jg (pc := 75) F (x := (tx_nW ι n (tx_wP ι n a))) (z99 hZ) cls11 f11_24 ((congrFun ((rowN (by decide)).trans ((rowN (by decide)).trans w_63)) 24).trans tp_24) il_RX8_84 dX8_command_75 ?_
          refine ia_if_eq (pc := 78) F 82 dX8_command_78 rfl (by omega) (fun h_70 => ?_) (fun h_70 => ?_)
          · refine ia_aload_n (pc := 82) F dX8_command_82 rfl ?_
            refine jg (pc := 83) F (z99 hZ) cls11 f11_17 ((PI_u (PI_u p_62 rfl) rfl) 99 17 111 rfl) il_RX8_63 dX8_command_83 ?_
            refine ia_aload_n (pc := 86) F dX8_command_86 rfl ?_
            refine jg (pc := 87) F (x := (kc : Int)) (z99 hZ) cls11 f11_23 ((congrFun ((rowN (by decide)).trans ((rowN (by decide)).trans w_63)) 23).trans tp_23) il_RX8_81 dX8_command_87 ?_
            refine ia_iload_n (pc := 90) F dX8_command_90 rfl ?_
            refine js (pc := 91) F (z111 hZ) kc rfl (by omega) dX8_command_91 ?_
            refine ia_aload_n (pc := 92) F dX8_command_92 rfl ?_
            refine ia_dup (pc := 93) F dX8_command_93 (Or.inr (Or.inr rfl)) ?_
            refine jg (pc := 94) F (x := (kc : Int)) (z99 hZ) cls11 f11_23 ((congrFun ((rowN (by decide)).trans ((rowN (by decide)).trans ((rowN (by decide)).trans w_63))) 23).trans tp_23) il_RX8_81 dX8_command_94 ?_
            refine ia_iconst (pc := 97) F dX8_command_97 ?_
            refine ia_iadd (pc := 98) F dX8_command_98 ?_
            refine jp (pc := 99) F (z99 hZ) cls11 f11_23 rfl (ia_nI rfl _) il_RX8_81 dX8_command_99 ?_
            refine ia_return (pc := 102) F M (by decide) (by decide) dX8_command_102 ?_
            have hA : tx_dA (tx_cK ι n a) = 3 := by rw [hK]; rfl
            have hB : tx_dB (tx_cK ι n a) = 0 := by rw [hK]; rfl
            have p1 : tx_qP ι n a = tx_nP ι n (tx_wP ι n a) 3 := by unfold tx_qP; rw [hA]; exact if_neg (by decide)
            have w1 : tx_pW ι n (tx_wP ι n a) (tx_dA (tx_cK ι n a)) = tx_nW ι n (tx_wP ι n a) := by rw [hA]; exact if_neg (by decide)
            have f1 : tx_cF ι n a = tx_nV ι n (tx_wP ι n a) 3 := by unfold tx_cF; rw [hA]; exact if_neg (by decide)
            have w2 : tx_pW ι n (tx_qP ι n a) (tx_dB (tx_cK ι n a)) = 0 := by rw [hB, p1]; exact if_pos rfl
            have p2 : tx_pP ι n (tx_qP ι n a) (tx_dB (tx_cK ι n a)) = tx_nP ι n (tx_wP ι n a) 3 := by rw [hB, p1]; exact if_pos rfl
            have f2 : tx_cS ι n a = 0 := by unfold tx_cS; rw [hB, p1]; exact if_pos rfl
            have z1 : (tx_nW ι n (tx_wP ι n a) : Int) = 0 := by omega
            have z2 : (0 : Int) = 0 := by rfl
            have c9 := tx_c_2 (t := ι) (n := n) (a := a) (by omega) (w1.trans z1)
            rw [w2, p2] at c9
            exact q1 _ c9.1 (PI_u (PI_u (PI_u (PI_u p_62 rfl) rfl) rfl) rfl) (((rowU ((rowN (by decide)).trans ((rowN (by decide)).trans ((rowN (by decide)).trans w_63)))).trans tp_u23).trans (by rw [c9.2, z1])) (((rowN (by decide)).trans (rowU ((rowN (by decide)).trans ((rowN (by decide)).trans ((f_64 111 (by decide)).trans ((f_5 111 (by decide)).trans h111)))))).trans (by rw [hK]; rfl)) (((rowN (by decide)).trans ((rowN (by decide)).trans ((rowN (by decide)).trans (rowU ((f_64 112 (by decide)).trans ((f_5 112 (by decide)).trans h112)))))).trans (by rw [f1])) (((rowN (by decide)).trans ((rowN (by decide)).trans (rowU ((rowN (by decide)).trans ((f_64 113 (by decide)).trans ((f_5 113 (by decide)).trans h113)))))).trans (by rw [f2])) (Fr_u (Fr_u (Fr_u (Fr_u (Fr_c (Fr_c (Fr_0 (V := V) (S := [99, 111, 112, 113])) f_5 (by decide)) f_64 (by decide)) (by decide)) (by decide)) (by decide)) (by decide))
          · refine ia_return (pc := 81) F M (by decide) (by decide) dX8_command_81 ?_
            have hA : tx_dA (tx_cK ι n a) = 3 := by rw [hK]; rfl
            have hB : tx_dB (tx_cK ι n a) = 0 := by rw [hK]; rfl
            have p1 : tx_qP ι n a = tx_nP ι n (tx_wP ι n a) 3 := by unfold tx_qP; rw [hA]; exact if_neg (by decide)
            have w1 : tx_pW ι n (tx_wP ι n a) (tx_dA (tx_cK ι n a)) = tx_nW ι n (tx_wP ι n a) := by rw [hA]; exact if_neg (by decide)
            have f1 : tx_cF ι n a = tx_nV ι n (tx_wP ι n a) 3 := by unfold tx_cF; rw [hA]; exact if_neg (by decide)
            have w2 : tx_pW ι n (tx_qP ι n a) (tx_dB (tx_cK ι n a)) = 0 := by rw [hB, p1]; exact if_pos rfl
            have p2 : tx_pP ι n (tx_qP ι n a) (tx_dB (tx_cK ι n a)) = tx_nP ι n (tx_wP ι n a) 3 := by rw [hB, p1]; exact if_pos rfl
            have f2 : tx_cS ι n a = 0 := by unfold tx_cS; rw [hB, p1]; exact if_pos rfl
            have z1 : tx_nW ι n (tx_wP ι n a) = 1 := by omega
            have c9 := tx_c_1 (t := ι) (n := n) (a := a) (by omega) (by rw [w1]; omega)
            rw [p1] at c9
            exact q2 _ c9.1 (PI_u (PI_u p_62 rfl) rfl) (((rowN (by decide)).trans ((rowN (by decide)).trans w_63)).trans (by rw [c9.2, z1])) (Fr_u (Fr_u (Fr_c (Fr_c (Fr_0 (V := V) (S := [99, 111, 112, 113])) f_5 (by decide)) f_64 (by decide)) (by decide)) (by decide))
        · exfalso
          omega
    · rw [show ((tx_cK ι n a : Nat) : Int) = 2 from by omega]
      refine ia_istore_n (pc := 4) F (ls' := [(4, ((99 : Nat) : Int)), (0, 2)]) dX8_command_4 (Nat.le_of_ble_eq_true rfl) rfl rfl ?_
      refine ia_aload_n (pc := 5) F dX8_command_5 rfl ?_
      refine jg (pc := 6) F (x := 0) (z99 hZ) cls11 f11_24 ((congrFun w_4 24).trans tp_24) il_RX8_84 dX8_command_6 ?_
      refine ia_if_eq (pc := 9) F 13 dX8_command_9 rfl (by omega) (fun _ => ?_) (fun h9 => absurd h9 (by omega))
      have s7 := tx_wP_rng (t := ι) han
      refine ia_aload_n (pc := 13) F dX8_command_13 rfl ?_
      refine jg (pc := 14) F (z99 hZ) cls11 f11_18 (p_3 99 18 112 rfl) il_RX8_66 dX8_command_14 ?_
      refine ia_aload_n (pc := 17) F dX8_command_17 rfl ?_
      refine jg (pc := 18) F (x := (kc : Int)) (z99 hZ) cls11 f11_23 ((congrFun w_4 23).trans tp_23) il_RX8_81 dX8_command_18 ?_
      refine ia_iload_n (pc := 21) F dX8_command_21 rfl ?_
      refine ia_iconst (pc := 22) F dX8_command_22 ?_
      refine ia_icmp_ne (pc := 23) F 30 dX8_command_23 rfl (by omega) (by omega) (fun _ => ?_) (fun h9 => absurd h9 (by omega))
      refine ia_aload_n (pc := 30) F dX8_command_30 rfl ?_
      refine ia_iload_n (pc := 31) F dX8_command_31 rfl ?_
      refine jS (pc := 32) F 0 0 (c_X8_firstDigits 2 (by omega) (fun h_71 h_72 => ?_) (fun h_73 h_74 h_75 => ?_) (fun h_76 h_77 h_78 h_79 => ?_) (fun h_80 h_81 h_82 h_83 => ?_) (fun h_84 => ?_)) rfl ⟨k_X8_firstDigits, il_RX8_248, it_X8_firstDigits, ii_RX8⟩ rfl 1 rfl hd_X8_firstDigits ⟨by decide, by decide, by decide, by decide, Nat.le_of_ble_eq_true rfl⟩ dX8_command_32
      · exfalso
        omega
      · exfalso
        omega
      · refine j1 ?_
        refine jV (pc := 35) F 0 0 (z99 hZ) cls11.1 (c_X8_number 1 (tx_wP ι n a) n 0 (kc : Int) hZ p_3 w_4 ((f_5 110 (by decide)).trans h110) hn hn6 s7.2.1 ht (Or.inl rfl) (by omega) (fun V_85 h_86 p_87 w_88 f_89 => ?_) (fun V_90 h_91 p_92 w_93 f_94 => ?_)) rfl ⟨k_X8_number, il_RX8_251, im_X8_number, is_X8_number, ii_RX8⟩ 1 rfl hd_X8_number ⟨by decide, by decide, by decide, by decide, Nat.le_of_ble_eq_true rfl⟩ dX8_command_35
        · refine j1 ?_
          refine js (pc := 38) F (z112 hZ) kc rfl (by omega) dX8_command_38 ?_
          have s8 := fun d => tx_nP_rng (t := ι) (n := n) (a := tx_wP ι n a) (d := d) s7.2.1
          have s9 := tx_nW_01 (t := ι) (n := n) (a := tx_wP ι n a)
          refine ia_aload_n (pc := 39) F dX8_command_39 rfl ?_
          refine jg (pc := 40) F (z99 hZ) cls11 f11_19 ((PI_u p_87 rfl) 99 19 113 rfl) il_RX8_69 dX8_command_40 ?_
          refine ia_aload_n (pc := 43) F dX8_command_43 rfl ?_
          refine jg (pc := 44) F (x := (kc : Int)) (z99 hZ) cls11 f11_23 ((congrFun ((rowN (by decide)).trans w_88) 23).trans tp_23) il_RX8_81 dX8_command_44 ?_
          refine ia_iload_n (pc := 47) F dX8_command_47 rfl ?_
          refine ia_if_ne (pc := 48) F 59 dX8_command_48 rfl (by omega) (fun _ => ?_) (fun h9 => absurd h9 (by omega))
          refine ia_iload_n (pc := 59) F dX8_command_59 rfl ?_
          refine ia_iconst (pc := 60) F dX8_command_60 ?_
          refine ia_icmp_ne (pc := 61) F 72 dX8_command_61 rfl (by omega) (by omega) (fun h9 => absurd h9 (by omega)) (fun _ => ?_)
          refine ia_aload_n (pc := 64) F dX8_command_64 rfl ?_
          refine ia_iconst (pc := 65) F dX8_command_65 ?_
          refine jV (pc := 66) F 0 0 (z99 hZ) cls11.1 (c_X8_number 2 (tx_nP ι n (tx_wP ι n a) 1) n (tx_nW ι n (tx_wP ι n a)) (kc : Int) hZ (PI_u p_87 rfl) ((rowN (by decide)).trans w_88) ((rowN (by decide)).trans ((f_89 110 (by decide)).trans ((f_5 110 (by decide)).trans h110))) hn hn6 (s8 _).2 ht s9 (by omega) (fun V_95 h_96 p_97 w_98 f_99 => ?_) (fun V_100 h_101 p_102 w_103 f_104 => ?_)) rfl ⟨k_X8_number, il_RX8_251, im_X8_number, is_X8_number, ii_RX8⟩ 1 rfl hd_X8_number ⟨by decide, by decide, by decide, by decide, Nat.le_of_ble_eq_true rfl⟩ dX8_command_66
          · refine j1 ?_
            refine ia_goto (pc := 69) F 73 dX8_command_69 rfl ?_
            refine js (pc := 73) F (z113 hZ) kc rfl (by omega) dX8_command_73 ?_
            refine ia_aload_n (pc := 74) F dX8_command_74 rfl ?_
            have s10 := tx_nW_01 (t := ι) (n := n) (a := tx_nP ι n (tx_wP ι n a) 1)
            refine jg (pc := 75) F (x := (tx_nW ι n (tx_nP ι n (tx_wP ι n a) 1))) (z99 hZ) cls11 f11_24 ((congrFun ((rowN (by decide)).trans w_98) 24).trans tp_24) il_RX8_84 dX8_command_75 ?_
            refine ia_if_eq (pc := 78) F 82 dX8_command_78 rfl (by omega) (fun h_105 => ?_) (fun h_105 => ?_)
            · refine ia_aload_n (pc := 82) F dX8_command_82 rfl ?_
              refine jg (pc := 83) F (z99 hZ) cls11 f11_17 ((PI_u p_97 rfl) 99 17 111 rfl) il_RX8_63 dX8_command_83 ?_
              refine ia_aload_n (pc := 86) F dX8_command_86 rfl ?_
              refine jg (pc := 87) F (x := (kc : Int)) (z99 hZ) cls11 f11_23 ((congrFun ((rowN (by decide)).trans w_98) 23).trans tp_23) il_RX8_81 dX8_command_87 ?_
              refine ia_iload_n (pc := 90) F dX8_command_90 rfl ?_
              refine js (pc := 91) F (z111 hZ) kc rfl (by omega) dX8_command_91 ?_
              refine ia_aload_n (pc := 92) F dX8_command_92 rfl ?_
              refine ia_dup (pc := 93) F dX8_command_93 (Or.inr (Or.inr rfl)) ?_
              refine jg (pc := 94) F (x := (kc : Int)) (z99 hZ) cls11 f11_23 ((congrFun ((rowN (by decide)).trans ((rowN (by decide)).trans w_98)) 23).trans tp_23) il_RX8_81 dX8_command_94 ?_
              refine ia_iconst (pc := 97) F dX8_command_97 ?_
              refine ia_iadd (pc := 98) F dX8_command_98 ?_
              refine jp (pc := 99) F (z99 hZ) cls11 f11_23 rfl (ia_nI rfl _) il_RX8_81 dX8_command_99 ?_
              refine ia_return (pc := 102) F M (by decide) (by decide) dX8_command_102 ?_
              have hA : tx_dA (tx_cK ι n a) = 1 := by rw [hK]; rfl
              have hB : tx_dB (tx_cK ι n a) = 2 := by rw [hK]; rfl
              have p1 : tx_qP ι n a = tx_nP ι n (tx_wP ι n a) 1 := by unfold tx_qP; rw [hA]; exact if_neg (by decide)
              have w1 : tx_pW ι n (tx_wP ι n a) (tx_dA (tx_cK ι n a)) = tx_nW ι n (tx_wP ι n a) := by rw [hA]; exact if_neg (by decide)
              have f1 : tx_cF ι n a = tx_nV ι n (tx_wP ι n a) 1 := by unfold tx_cF; rw [hA]; exact if_neg (by decide)
              have w2 : tx_pW ι n (tx_qP ι n a) (tx_dB (tx_cK ι n a)) = tx_nW ι n (tx_nP ι n (tx_wP ι n a) 1) := by rw [hB, p1]; exact if_neg (by decide)
              have p2 : tx_pP ι n (tx_qP ι n a) (tx_dB (tx_cK ι n a)) = tx_nP ι n (tx_nP ι n (tx_wP ι n a) 1) 2 := by rw [hB, p1]; exact if_neg (by decide)
              have f2 : tx_cS ι n a = tx_nV ι n (tx_nP ι n (tx_wP ι n a) 1) 2 := by unfold tx_cS; rw [hB, p1]; exact if_neg (by decide)
              have z1 : (tx_nW ι n (tx_wP ι n a) : Int) = 0 := by omega
              have z2 : (tx_nW ι n (tx_nP ι n (tx_wP ι n a) 1) : Int) = 0 := by omega
              have c9 := tx_c_2 (t := ι) (n := n) (a := a) (by omega) (w1.trans z1)
              rw [w2, p2, z2] at c9
              exact q1 _ c9.1 (PI_u (PI_u (PI_u p_97 rfl) rfl) rfl) (((rowU ((rowN (by decide)).trans ((rowN (by decide)).trans w_98))).trans tp_u23).trans (by rw [c9.2, z2])) (((rowN (by decide)).trans (rowU ((rowN (by decide)).trans ((f_99 111 (by decide)).trans ((rowN (by decide)).trans ((f_89 111 (by decide)).trans ((f_5 111 (by decide)).trans h111))))))).trans (by rw [hK]; rfl)) (((rowN (by decide)).trans ((rowN (by decide)).trans ((rowN (by decide)).trans ((f_99 112 (by decide)).trans (rowU ((f_89 112 (by decide)).trans ((f_5 112 (by decide)).trans h112))))))).trans (by rw [f1])) (((rowN (by decide)).trans ((rowN (by decide)).trans (rowU ((f_99 113 (by decide)).trans ((rowN (by decide)).trans ((f_89 113 (by decide)).trans ((f_5 113 (by decide)).trans h113))))))).trans (by rw [f2])) (Fr_u (Fr_u (Fr_u (Fr_c (Fr_u (Fr_c (Fr_c (Fr_0 (V := V) (S := [99, 111, 112, 113])) f_5 (by decide)) f_89 (by decide)) (by decide)) f_99 (by decide)) (by decide)) (by decide)) (by decide))
            · refine ia_return (pc := 81) F M (by decide) (by decide) dX8_command_81 ?_
              have hA : tx_dA (tx_cK ι n a) = 1 := by rw [hK]; rfl
              have hB : tx_dB (tx_cK ι n a) = 2 := by rw [hK]; rfl
              have p1 : tx_qP ι n a = tx_nP ι n (tx_wP ι n a) 1 := by unfold tx_qP; rw [hA]; exact if_neg (by decide)
              have w1 : tx_pW ι n (tx_wP ι n a) (tx_dA (tx_cK ι n a)) = tx_nW ι n (tx_wP ι n a) := by rw [hA]; exact if_neg (by decide)
              have f1 : tx_cF ι n a = tx_nV ι n (tx_wP ι n a) 1 := by unfold tx_cF; rw [hA]; exact if_neg (by decide)
              have w2 : tx_pW ι n (tx_qP ι n a) (tx_dB (tx_cK ι n a)) = tx_nW ι n (tx_nP ι n (tx_wP ι n a) 1) := by rw [hB, p1]; exact if_neg (by decide)
              have p2 : tx_pP ι n (tx_qP ι n a) (tx_dB (tx_cK ι n a)) = tx_nP ι n (tx_nP ι n (tx_wP ι n a) 1) 2 := by rw [hB, p1]; exact if_neg (by decide)
              have f2 : tx_cS ι n a = tx_nV ι n (tx_nP ι n (tx_wP ι n a) 1) 2 := by unfold tx_cS; rw [hB, p1]; exact if_neg (by decide)
              have z1 : (tx_nW ι n (tx_wP ι n a) : Int) = 0 := by omega
              have z2 : tx_nW ι n (tx_nP ι n (tx_wP ι n a) 1) = 1 := by omega
              have c9 := tx_c_2 (t := ι) (n := n) (a := a) (by omega) (w1.trans z1)
              rw [w2, p2, z2] at c9
              exact q2 _ c9.1 (PI_u p_97 rfl) (((rowN (by decide)).trans w_98).trans (by rw [c9.2, z2])) (Fr_u (Fr_c (Fr_u (Fr_c (Fr_c (Fr_0 (V := V) (S := [99, 111, 112, 113])) f_5 (by decide)) f_89 (by decide)) (by decide)) f_99 (by decide)) (by decide))
          · refine j1 ?_
            refine ia_goto (pc := 69) F 73 dX8_command_69 rfl ?_
            refine js (pc := 73) F (z113 hZ) kc rfl (by omega) dX8_command_73 ?_
            refine ia_aload_n (pc := 74) F dX8_command_74 rfl ?_
            have s10 := tx_nW_01 (t := ι) (n := n) (a := tx_nP ι n (tx_wP ι n a) 1)
            refine jg (pc := 75) F (x := 1) (z99 hZ) cls11 f11_24 ((congrFun ((rowN (by decide)).trans w_103) 24).trans tp_24) il_RX8_84 dX8_command_75 ?_
            refine ia_if_eq (pc := 78) F 82 dX8_command_78 rfl (by omega) (fun h9 => absurd h9 (by omega)) (fun _ => ?_)
            refine ia_return (pc := 81) F M (by decide) (by decide) dX8_command_81 ?_
            have hA : tx_dA (tx_cK ι n a) = 1 := by rw [hK]; rfl
            have hB : tx_dB (tx_cK ι n a) = 2 := by rw [hK]; rfl
            have p1 : tx_qP ι n a = tx_nP ι n (tx_wP ι n a) 1 := by unfold tx_qP; rw [hA]; exact if_neg (by decide)
            have w1 : tx_pW ι n (tx_wP ι n a) (tx_dA (tx_cK ι n a)) = tx_nW ι n (tx_wP ι n a) := by rw [hA]; exact if_neg (by decide)
            have f1 : tx_cF ι n a = tx_nV ι n (tx_wP ι n a) 1 := by unfold tx_cF; rw [hA]; exact if_neg (by decide)
            have w2 : tx_pW ι n (tx_qP ι n a) (tx_dB (tx_cK ι n a)) = tx_nW ι n (tx_nP ι n (tx_wP ι n a) 1) := by rw [hB, p1]; exact if_neg (by decide)
            have p2 : tx_pP ι n (tx_qP ι n a) (tx_dB (tx_cK ι n a)) = tx_nP ι n (tx_nP ι n (tx_wP ι n a) 1) 2 := by rw [hB, p1]; exact if_neg (by decide)
            have f2 : tx_cS ι n a = tx_nV ι n (tx_nP ι n (tx_wP ι n a) 1) 2 := by unfold tx_cS; rw [hB, p1]; exact if_neg (by decide)
            have z1 : tx_nW ι n (tx_wP ι n a) = 1 := by omega
            have c9 := tx_c_1 (t := ι) (n := n) (a := a) (by omega) (by rw [w1]; omega)
            rw [p1] at c9
            exact q2 _ c9.1 (PI_u p_102 rfl) (((rowN (by decide)).trans w_103).trans (by rw [c9.2])) (Fr_u (Fr_c (Fr_u (Fr_c (Fr_c (Fr_0 (V := V) (S := [99, 111, 112, 113])) f_5 (by decide)) f_89 (by decide)) (by decide)) f_104 (by decide)) (by decide))
        · exfalso
          omega
      · exfalso
        omega
      · exfalso
        omega
    · rw [show ((tx_cK ι n a : Nat) : Int) = 3 from by omega]
      refine ia_istore_n (pc := 4) F (ls' := [(4, ((99 : Nat) : Int)), (0, 3)]) dX8_command_4 (Nat.le_of_ble_eq_true rfl) rfl rfl ?_
      refine ia_aload_n (pc := 5) F dX8_command_5 rfl ?_
      refine jg (pc := 6) F (x := 0) (z99 hZ) cls11 f11_24 ((congrFun w_4 24).trans tp_24) il_RX8_84 dX8_command_6 ?_
      refine ia_if_eq (pc := 9) F 13 dX8_command_9 rfl (by omega) (fun _ => ?_) (fun h9 => absurd h9 (by omega))
      have s7 := tx_wP_rng (t := ι) han
      refine ia_aload_n (pc := 13) F dX8_command_13 rfl ?_
      refine jg (pc := 14) F (z99 hZ) cls11 f11_18 (p_3 99 18 112 rfl) il_RX8_66 dX8_command_14 ?_
      refine ia_aload_n (pc := 17) F dX8_command_17 rfl ?_
      refine jg (pc := 18) F (x := (kc : Int)) (z99 hZ) cls11 f11_23 ((congrFun w_4 23).trans tp_23) il_RX8_81 dX8_command_18 ?_
      refine ia_iload_n (pc := 21) F dX8_command_21 rfl ?_
      refine ia_iconst (pc := 22) F dX8_command_22 ?_
      refine ia_icmp_ne (pc := 23) F 30 dX8_command_23 rfl (by omega) (by omega) (fun _ => ?_) (fun h9 => absurd h9 (by omega))
      refine ia_aload_n (pc := 30) F dX8_command_30 rfl ?_
      refine ia_iload_n (pc := 31) F dX8_command_31 rfl ?_
      refine jS (pc := 32) F 0 0 (c_X8_firstDigits 3 (by omega) (fun h_106 h_107 => ?_) (fun h_108 h_109 h_110 => ?_) (fun h_111 h_112 h_113 h_114 => ?_) (fun h_115 h_116 h_117 h_118 => ?_) (fun h_119 => ?_)) rfl ⟨k_X8_firstDigits, il_RX8_248, it_X8_firstDigits, ii_RX8⟩ rfl 1 rfl hd_X8_firstDigits ⟨by decide, by decide, by decide, by decide, Nat.le_of_ble_eq_true rfl⟩ dX8_command_32
      · exfalso
        omega
      · exfalso
        omega
      · refine j1 ?_
        refine jV (pc := 35) F 0 0 (z99 hZ) cls11.1 (c_X8_number 1 (tx_wP ι n a) n 0 (kc : Int) hZ p_3 w_4 ((f_5 110 (by decide)).trans h110) hn hn6 s7.2.1 ht (Or.inl rfl) (by omega) (fun V_120 h_121 p_122 w_123 f_124 => ?_) (fun V_125 h_126 p_127 w_128 f_129 => ?_)) rfl ⟨k_X8_number, il_RX8_251, im_X8_number, is_X8_number, ii_RX8⟩ 1 rfl hd_X8_number ⟨by decide, by decide, by decide, by decide, Nat.le_of_ble_eq_true rfl⟩ dX8_command_35
        · refine j1 ?_
          refine js (pc := 38) F (z112 hZ) kc rfl (by omega) dX8_command_38 ?_
          have s8 := fun d => tx_nP_rng (t := ι) (n := n) (a := tx_wP ι n a) (d := d) s7.2.1
          have s9 := tx_nW_01 (t := ι) (n := n) (a := tx_wP ι n a)
          refine ia_aload_n (pc := 39) F dX8_command_39 rfl ?_
          refine jg (pc := 40) F (z99 hZ) cls11 f11_19 ((PI_u p_122 rfl) 99 19 113 rfl) il_RX8_69 dX8_command_40 ?_
          refine ia_aload_n (pc := 43) F dX8_command_43 rfl ?_
          refine jg (pc := 44) F (x := (kc : Int)) (z99 hZ) cls11 f11_23 ((congrFun ((rowN (by decide)).trans w_123) 23).trans tp_23) il_RX8_81 dX8_command_44 ?_
          refine ia_iload_n (pc := 47) F dX8_command_47 rfl ?_
          refine ia_if_ne (pc := 48) F 59 dX8_command_48 rfl (by omega) (fun _ => ?_) (fun h9 => absurd h9 (by omega))
          refine ia_iload_n (pc := 59) F dX8_command_59 rfl ?_
          refine ia_iconst (pc := 60) F dX8_command_60 ?_
          refine ia_icmp_ne (pc := 61) F 72 dX8_command_61 rfl (by omega) (by omega) (fun _ => ?_) (fun h9 => absurd h9 (by omega))
          refine ia_iconst (pc := 72) F dX8_command_72 ?_
          refine js (pc := 73) F (z113 hZ) kc rfl (by omega) dX8_command_73 ?_
          refine ia_aload_n (pc := 74) F dX8_command_74 rfl ?_
          refine jg (pc := 75) F (x := (tx_nW ι n (tx_wP ι n a))) (z99 hZ) cls11 f11_24 ((congrFun ((rowN (by decide)).trans ((rowN (by decide)).trans w_123)) 24).trans tp_24) il_RX8_84 dX8_command_75 ?_
          refine ia_if_eq (pc := 78) F 82 dX8_command_78 rfl (by omega) (fun h_130 => ?_) (fun h_130 => ?_)
          · refine ia_aload_n (pc := 82) F dX8_command_82 rfl ?_
            refine jg (pc := 83) F (z99 hZ) cls11 f11_17 ((PI_u (PI_u p_122 rfl) rfl) 99 17 111 rfl) il_RX8_63 dX8_command_83 ?_
            refine ia_aload_n (pc := 86) F dX8_command_86 rfl ?_
            refine jg (pc := 87) F (x := (kc : Int)) (z99 hZ) cls11 f11_23 ((congrFun ((rowN (by decide)).trans ((rowN (by decide)).trans w_123)) 23).trans tp_23) il_RX8_81 dX8_command_87 ?_
            refine ia_iload_n (pc := 90) F dX8_command_90 rfl ?_
            refine js (pc := 91) F (z111 hZ) kc rfl (by omega) dX8_command_91 ?_
            refine ia_aload_n (pc := 92) F dX8_command_92 rfl ?_
            refine ia_dup (pc := 93) F dX8_command_93 (Or.inr (Or.inr rfl)) ?_
            refine jg (pc := 94) F (x := (kc : Int)) (z99 hZ) cls11 f11_23 ((congrFun ((rowN (by decide)).trans ((rowN (by decide)).trans ((rowN (by decide)).trans w_123))) 23).trans tp_23) il_RX8_81 dX8_command_94 ?_
            refine ia_iconst (pc := 97) F dX8_command_97 ?_
            refine ia_iadd (pc := 98) F dX8_command_98 ?_
            refine jp (pc := 99) F (z99 hZ) cls11 f11_23 rfl (ia_nI rfl _) il_RX8_81 dX8_command_99 ?_
            refine ia_return (pc := 102) F M (by decide) (by decide) dX8_command_102 ?_
            have hA : tx_dA (tx_cK ι n a) = 1 := by rw [hK]; rfl
            have hB : tx_dB (tx_cK ι n a) = 0 := by rw [hK]; rfl
            have p1 : tx_qP ι n a = tx_nP ι n (tx_wP ι n a) 1 := by unfold tx_qP; rw [hA]; exact if_neg (by decide)
            have w1 : tx_pW ι n (tx_wP ι n a) (tx_dA (tx_cK ι n a)) = tx_nW ι n (tx_wP ι n a) := by rw [hA]; exact if_neg (by decide)
            have f1 : tx_cF ι n a = tx_nV ι n (tx_wP ι n a) 1 := by unfold tx_cF; rw [hA]; exact if_neg (by decide)
            have w2 : tx_pW ι n (tx_qP ι n a) (tx_dB (tx_cK ι n a)) = 0 := by rw [hB, p1]; exact if_pos rfl
            have p2 : tx_pP ι n (tx_qP ι n a) (tx_dB (tx_cK ι n a)) = tx_nP ι n (tx_wP ι n a) 1 := by rw [hB, p1]; exact if_pos rfl
            have f2 : tx_cS ι n a = 0 := by unfold tx_cS; rw [hB, p1]; exact if_pos rfl
            have z1 : (tx_nW ι n (tx_wP ι n a) : Int) = 0 := by omega
            have z2 : (0 : Int) = 0 := by rfl
            have c9 := tx_c_2 (t := ι) (n := n) (a := a) (by omega) (w1.trans z1)
            rw [w2, p2] at c9
            exact q1 _ c9.1 (PI_u (PI_u (PI_u (PI_u p_122 rfl) rfl) rfl) rfl) (((rowU ((rowN (by decide)).trans ((rowN (by decide)).trans ((rowN (by decide)).trans w_123)))).trans tp_u23).trans (by rw [c9.2, z1])) (((rowN (by decide)).trans (rowU ((rowN (by decide)).trans ((rowN (by decide)).trans ((f_124 111 (by decide)).trans ((f_5 111 (by decide)).trans h111)))))).trans (by rw [hK]; rfl)) (((rowN (by decide)).trans ((rowN (by decide)).trans ((rowN (by decide)).trans (rowU ((f_124 112 (by decide)).trans ((f_5 112 (by decide)).trans h112)))))).trans (by rw [f1])) (((rowN (by decide)).trans ((rowN (by decide)).trans (rowU ((rowN (by decide)).trans ((f_124 113 (by decide)).trans ((f_5 113 (by decide)).trans h113)))))).trans (by rw [f2])) (Fr_u (Fr_u (Fr_u (Fr_u (Fr_c (Fr_c (Fr_0 (V := V) (S := [99, 111, 112, 113])) f_5 (by decide)) f_124 (by decide)) (by decide)) (by decide)) (by decide)) (by decide))
          · refine ia_return (pc := 81) F M (by decide) (by decide) dX8_command_81 ?_
            have hA : tx_dA (tx_cK ι n a) = 1 := by rw [hK]; rfl
            have hB : tx_dB (tx_cK ι n a) = 0 := by rw [hK]; rfl
            have p1 : tx_qP ι n a = tx_nP ι n (tx_wP ι n a) 1 := by unfold tx_qP; rw [hA]; exact if_neg (by decide)
            have w1 : tx_pW ι n (tx_wP ι n a) (tx_dA (tx_cK ι n a)) = tx_nW ι n (tx_wP ι n a) := by rw [hA]; exact if_neg (by decide)
            have f1 : tx_cF ι n a = tx_nV ι n (tx_wP ι n a) 1 := by unfold tx_cF; rw [hA]; exact if_neg (by decide)
            have w2 : tx_pW ι n (tx_qP ι n a) (tx_dB (tx_cK ι n a)) = 0 := by rw [hB, p1]; exact if_pos rfl
            have p2 : tx_pP ι n (tx_qP ι n a) (tx_dB (tx_cK ι n a)) = tx_nP ι n (tx_wP ι n a) 1 := by rw [hB, p1]; exact if_pos rfl
            have f2 : tx_cS ι n a = 0 := by unfold tx_cS; rw [hB, p1]; exact if_pos rfl
            have z1 : tx_nW ι n (tx_wP ι n a) = 1 := by omega
            have c9 := tx_c_1 (t := ι) (n := n) (a := a) (by omega) (by rw [w1]; omega)
            rw [p1] at c9
            exact q2 _ c9.1 (PI_u (PI_u p_122 rfl) rfl) (((rowN (by decide)).trans ((rowN (by decide)).trans w_123)).trans (by rw [c9.2, z1])) (Fr_u (Fr_u (Fr_c (Fr_c (Fr_0 (V := V) (S := [99, 111, 112, 113])) f_5 (by decide)) f_124 (by decide)) (by decide)) (by decide))
        · exfalso
          omega
      · exfalso
        omega
      · exfalso
        omega
    · rw [show ((tx_cK ι n a : Nat) : Int) = 4 from by omega]
      refine ia_istore_n (pc := 4) F (ls' := [(4, ((99 : Nat) : Int)), (0, 4)]) dX8_command_4 (Nat.le_of_ble_eq_true rfl) rfl rfl ?_
      refine ia_aload_n (pc := 5) F dX8_command_5 rfl ?_
      refine jg (pc := 6) F (x := 0) (z99 hZ) cls11 f11_24 ((congrFun w_4 24).trans tp_24) il_RX8_84 dX8_command_6 ?_
      refine ia_if_eq (pc := 9) F 13 dX8_command_9 rfl (by omega) (fun _ => ?_) (fun h9 => absurd h9 (by omega))
      have s7 := tx_wP_rng (t := ι) han
      refine ia_aload_n (pc := 13) F dX8_command_13 rfl ?_
      refine jg (pc := 14) F (z99 hZ) cls11 f11_18 (p_3 99 18 112 rfl) il_RX8_66 dX8_command_14 ?_
      refine ia_aload_n (pc := 17) F dX8_command_17 rfl ?_
      refine jg (pc := 18) F (x := (kc : Int)) (z99 hZ) cls11 f11_23 ((congrFun w_4 23).trans tp_23) il_RX8_81 dX8_command_18 ?_
      refine ia_iload_n (pc := 21) F dX8_command_21 rfl ?_
      refine ia_iconst (pc := 22) F dX8_command_22 ?_
      refine ia_icmp_ne (pc := 23) F 30 dX8_command_23 rfl (by omega) (by omega) (fun _ => ?_) (fun h9 => absurd h9 (by omega))
      refine ia_aload_n (pc := 30) F dX8_command_30 rfl ?_
      refine ia_iload_n (pc := 31) F dX8_command_31 rfl ?_
      refine jS (pc := 32) F 0 0 (c_X8_firstDigits 4 (by omega) (fun h_131 h_132 => ?_) (fun h_133 h_134 h_135 => ?_) (fun h_136 h_137 h_138 h_139 => ?_) (fun h_140 h_141 h_142 h_143 => ?_) (fun h_144 => ?_)) rfl ⟨k_X8_firstDigits, il_RX8_248, it_X8_firstDigits, ii_RX8⟩ rfl 1 rfl hd_X8_firstDigits ⟨by decide, by decide, by decide, by decide, Nat.le_of_ble_eq_true rfl⟩ dX8_command_32
      · exfalso
        omega
      · exfalso
        omega
      · refine j1 ?_
        refine jV (pc := 35) F 0 0 (z99 hZ) cls11.1 (c_X8_number 1 (tx_wP ι n a) n 0 (kc : Int) hZ p_3 w_4 ((f_5 110 (by decide)).trans h110) hn hn6 s7.2.1 ht (Or.inl rfl) (by omega) (fun V_145 h_146 p_147 w_148 f_149 => ?_) (fun V_150 h_151 p_152 w_153 f_154 => ?_)) rfl ⟨k_X8_number, il_RX8_251, im_X8_number, is_X8_number, ii_RX8⟩ 1 rfl hd_X8_number ⟨by decide, by decide, by decide, by decide, Nat.le_of_ble_eq_true rfl⟩ dX8_command_35
        · refine j1 ?_
          refine js (pc := 38) F (z112 hZ) kc rfl (by omega) dX8_command_38 ?_
          have s8 := fun d => tx_nP_rng (t := ι) (n := n) (a := tx_wP ι n a) (d := d) s7.2.1
          have s9 := tx_nW_01 (t := ι) (n := n) (a := tx_wP ι n a)
          refine ia_aload_n (pc := 39) F dX8_command_39 rfl ?_
          refine jg (pc := 40) F (z99 hZ) cls11 f11_19 ((PI_u p_147 rfl) 99 19 113 rfl) il_RX8_69 dX8_command_40 ?_
          refine ia_aload_n (pc := 43) F dX8_command_43 rfl ?_
          refine jg (pc := 44) F (x := (kc : Int)) (z99 hZ) cls11 f11_23 ((congrFun ((rowN (by decide)).trans w_148) 23).trans tp_23) il_RX8_81 dX8_command_44 ?_
          refine ia_iload_n (pc := 47) F dX8_command_47 rfl ?_
          refine ia_if_ne (pc := 48) F 59 dX8_command_48 rfl (by omega) (fun _ => ?_) (fun h9 => absurd h9 (by omega))
          refine ia_iload_n (pc := 59) F dX8_command_59 rfl ?_
          refine ia_iconst (pc := 60) F dX8_command_60 ?_
          refine ia_icmp_ne (pc := 61) F 72 dX8_command_61 rfl (by omega) (by omega) (fun _ => ?_) (fun h9 => absurd h9 (by omega))
          refine ia_iconst (pc := 72) F dX8_command_72 ?_
          refine js (pc := 73) F (z113 hZ) kc rfl (by omega) dX8_command_73 ?_
          refine ia_aload_n (pc := 74) F dX8_command_74 rfl ?_
          refine jg (pc := 75) F (x := (tx_nW ι n (tx_wP ι n a))) (z99 hZ) cls11 f11_24 ((congrFun ((rowN (by decide)).trans ((rowN (by decide)).trans w_148)) 24).trans tp_24) il_RX8_84 dX8_command_75 ?_
          refine ia_if_eq (pc := 78) F 82 dX8_command_78 rfl (by omega) (fun h_155 => ?_) (fun h_155 => ?_)
          · refine ia_aload_n (pc := 82) F dX8_command_82 rfl ?_
            refine jg (pc := 83) F (z99 hZ) cls11 f11_17 ((PI_u (PI_u p_147 rfl) rfl) 99 17 111 rfl) il_RX8_63 dX8_command_83 ?_
            refine ia_aload_n (pc := 86) F dX8_command_86 rfl ?_
            refine jg (pc := 87) F (x := (kc : Int)) (z99 hZ) cls11 f11_23 ((congrFun ((rowN (by decide)).trans ((rowN (by decide)).trans w_148)) 23).trans tp_23) il_RX8_81 dX8_command_87 ?_
            refine ia_iload_n (pc := 90) F dX8_command_90 rfl ?_
            refine js (pc := 91) F (z111 hZ) kc rfl (by omega) dX8_command_91 ?_
            refine ia_aload_n (pc := 92) F dX8_command_92 rfl ?_
            refine ia_dup (pc := 93) F dX8_command_93 (Or.inr (Or.inr rfl)) ?_
            refine jg (pc := 94) F (x := (kc : Int)) (z99 hZ) cls11 f11_23 ((congrFun ((rowN (by decide)).trans ((rowN (by decide)).trans ((rowN (by decide)).trans w_148))) 23).trans tp_23) il_RX8_81 dX8_command_94 ?_
            refine ia_iconst (pc := 97) F dX8_command_97 ?_
            refine ia_iadd (pc := 98) F dX8_command_98 ?_
            refine jp (pc := 99) F (z99 hZ) cls11 f11_23 rfl (ia_nI rfl _) il_RX8_81 dX8_command_99 ?_
            refine ia_return (pc := 102) F M (by decide) (by decide) dX8_command_102 ?_
            have hA : tx_dA (tx_cK ι n a) = 1 := by rw [hK]; rfl
            have hB : tx_dB (tx_cK ι n a) = 0 := by rw [hK]; rfl
            have p1 : tx_qP ι n a = tx_nP ι n (tx_wP ι n a) 1 := by unfold tx_qP; rw [hA]; exact if_neg (by decide)
            have w1 : tx_pW ι n (tx_wP ι n a) (tx_dA (tx_cK ι n a)) = tx_nW ι n (tx_wP ι n a) := by rw [hA]; exact if_neg (by decide)
            have f1 : tx_cF ι n a = tx_nV ι n (tx_wP ι n a) 1 := by unfold tx_cF; rw [hA]; exact if_neg (by decide)
            have w2 : tx_pW ι n (tx_qP ι n a) (tx_dB (tx_cK ι n a)) = 0 := by rw [hB, p1]; exact if_pos rfl
            have p2 : tx_pP ι n (tx_qP ι n a) (tx_dB (tx_cK ι n a)) = tx_nP ι n (tx_wP ι n a) 1 := by rw [hB, p1]; exact if_pos rfl
            have f2 : tx_cS ι n a = 0 := by unfold tx_cS; rw [hB, p1]; exact if_pos rfl
            have z1 : (tx_nW ι n (tx_wP ι n a) : Int) = 0 := by omega
            have z2 : (0 : Int) = 0 := by rfl
            have c9 := tx_c_2 (t := ι) (n := n) (a := a) (by omega) (w1.trans z1)
            rw [w2, p2] at c9
            exact q1 _ c9.1 (PI_u (PI_u (PI_u (PI_u p_147 rfl) rfl) rfl) rfl) (((rowU ((rowN (by decide)).trans ((rowN (by decide)).trans ((rowN (by decide)).trans w_148)))).trans tp_u23).trans (by rw [c9.2, z1])) (((rowN (by decide)).trans (rowU ((rowN (by decide)).trans ((rowN (by decide)).trans ((f_149 111 (by decide)).trans ((f_5 111 (by decide)).trans h111)))))).trans (by rw [hK]; rfl)) (((rowN (by decide)).trans ((rowN (by decide)).trans ((rowN (by decide)).trans (rowU ((f_149 112 (by decide)).trans ((f_5 112 (by decide)).trans h112)))))).trans (by rw [f1])) (((rowN (by decide)).trans ((rowN (by decide)).trans (rowU ((rowN (by decide)).trans ((f_149 113 (by decide)).trans ((f_5 113 (by decide)).trans h113)))))).trans (by rw [f2])) (Fr_u (Fr_u (Fr_u (Fr_u (Fr_c (Fr_c (Fr_0 (V := V) (S := [99, 111, 112, 113])) f_5 (by decide)) f_149 (by decide)) (by decide)) (by decide)) (by decide)) (by decide))
          · refine ia_return (pc := 81) F M (by decide) (by decide) dX8_command_81 ?_
            have hA : tx_dA (tx_cK ι n a) = 1 := by rw [hK]; rfl
            have hB : tx_dB (tx_cK ι n a) = 0 := by rw [hK]; rfl
            have p1 : tx_qP ι n a = tx_nP ι n (tx_wP ι n a) 1 := by unfold tx_qP; rw [hA]; exact if_neg (by decide)
            have w1 : tx_pW ι n (tx_wP ι n a) (tx_dA (tx_cK ι n a)) = tx_nW ι n (tx_wP ι n a) := by rw [hA]; exact if_neg (by decide)
            have f1 : tx_cF ι n a = tx_nV ι n (tx_wP ι n a) 1 := by unfold tx_cF; rw [hA]; exact if_neg (by decide)
            have w2 : tx_pW ι n (tx_qP ι n a) (tx_dB (tx_cK ι n a)) = 0 := by rw [hB, p1]; exact if_pos rfl
            have p2 : tx_pP ι n (tx_qP ι n a) (tx_dB (tx_cK ι n a)) = tx_nP ι n (tx_wP ι n a) 1 := by rw [hB, p1]; exact if_pos rfl
            have f2 : tx_cS ι n a = 0 := by unfold tx_cS; rw [hB, p1]; exact if_pos rfl
            have z1 : tx_nW ι n (tx_wP ι n a) = 1 := by omega
            have c9 := tx_c_1 (t := ι) (n := n) (a := a) (by omega) (by rw [w1]; omega)
            rw [p1] at c9
            exact q2 _ c9.1 (PI_u (PI_u p_147 rfl) rfl) (((rowN (by decide)).trans ((rowN (by decide)).trans w_148)).trans (by rw [c9.2, z1])) (Fr_u (Fr_u (Fr_c (Fr_c (Fr_0 (V := V) (S := [99, 111, 112, 113])) f_5 (by decide)) f_149 (by decide)) (by decide)) (by decide))
        · exfalso
          omega
      · exfalso
        omega
      · exfalso
        omega
    · rw [show ((tx_cK ι n a : Nat) : Int) = 5 from by omega]
      refine ia_istore_n (pc := 4) F (ls' := [(4, ((99 : Nat) : Int)), (0, 5)]) dX8_command_4 (Nat.le_of_ble_eq_true rfl) rfl rfl ?_
      refine ia_aload_n (pc := 5) F dX8_command_5 rfl ?_
      refine jg (pc := 6) F (x := 0) (z99 hZ) cls11 f11_24 ((congrFun w_4 24).trans tp_24) il_RX8_84 dX8_command_6 ?_
      refine ia_if_eq (pc := 9) F 13 dX8_command_9 rfl (by omega) (fun _ => ?_) (fun h9 => absurd h9 (by omega))
      have s7 := tx_wP_rng (t := ι) han
      refine ia_aload_n (pc := 13) F dX8_command_13 rfl ?_
      refine jg (pc := 14) F (z99 hZ) cls11 f11_18 (p_3 99 18 112 rfl) il_RX8_66 dX8_command_14 ?_
      refine ia_aload_n (pc := 17) F dX8_command_17 rfl ?_
      refine jg (pc := 18) F (x := (kc : Int)) (z99 hZ) cls11 f11_23 ((congrFun w_4 23).trans tp_23) il_RX8_81 dX8_command_18 ?_
      refine ia_iload_n (pc := 21) F dX8_command_21 rfl ?_
      refine ia_iconst (pc := 22) F dX8_command_22 ?_
      refine ia_icmp_ne (pc := 23) F 30 dX8_command_23 rfl (by omega) (by omega) (fun h9 => absurd h9 (by omega)) (fun _ => ?_)
      refine ia_iconst (pc := 26) F dX8_command_26 ?_
      refine ia_goto (pc := 27) F 38 dX8_command_27 rfl ?_
      refine js (pc := 38) F (z112 hZ) kc rfl (by omega) dX8_command_38 ?_
      have s8 := fun d => tx_nP_rng (t := ι) (n := n) (a := tx_wP ι n a) (d := d) s7.2.1
      have s9 := tx_nW_01 (t := ι) (n := n) (a := tx_wP ι n a)
      refine ia_aload_n (pc := 39) F dX8_command_39 rfl ?_
      refine jg (pc := 40) F (z99 hZ) cls11 f11_19 ((PI_u p_3 rfl) 99 19 113 rfl) il_RX8_69 dX8_command_40 ?_
      refine ia_aload_n (pc := 43) F dX8_command_43 rfl ?_
      refine jg (pc := 44) F (x := (kc : Int)) (z99 hZ) cls11 f11_23 ((congrFun ((rowN (by decide)).trans w_4) 23).trans tp_23) il_RX8_81 dX8_command_44 ?_
      refine ia_iload_n (pc := 47) F dX8_command_47 rfl ?_
      refine ia_if_ne (pc := 48) F 59 dX8_command_48 rfl (by omega) (fun _ => ?_) (fun h9 => absurd h9 (by omega))
      refine ia_iload_n (pc := 59) F dX8_command_59 rfl ?_
      refine ia_iconst (pc := 60) F dX8_command_60 ?_
      refine ia_icmp_ne (pc := 61) F 72 dX8_command_61 rfl (by omega) (by omega) (fun _ => ?_) (fun h9 => absurd h9 (by omega))
      refine ia_iconst (pc := 72) F dX8_command_72 ?_
      refine js (pc := 73) F (z113 hZ) kc rfl (by omega) dX8_command_73 ?_
      refine ia_aload_n (pc := 74) F dX8_command_74 rfl ?_
      refine jg (pc := 75) F (x := 0) (z99 hZ) cls11 f11_24 ((congrFun ((rowN (by decide)).trans ((rowN (by decide)).trans w_4)) 24).trans tp_24) il_RX8_84 dX8_command_75 ?_
      refine ia_if_eq (pc := 78) F 82 dX8_command_78 rfl (by omega) (fun _ => ?_) (fun h9 => absurd h9 (by omega))
      refine ia_aload_n (pc := 82) F dX8_command_82 rfl ?_
      refine jg (pc := 83) F (z99 hZ) cls11 f11_17 ((PI_u (PI_u p_3 rfl) rfl) 99 17 111 rfl) il_RX8_63 dX8_command_83 ?_
      refine ia_aload_n (pc := 86) F dX8_command_86 rfl ?_
      refine jg (pc := 87) F (x := (kc : Int)) (z99 hZ) cls11 f11_23 ((congrFun ((rowN (by decide)).trans ((rowN (by decide)).trans w_4)) 23).trans tp_23) il_RX8_81 dX8_command_87 ?_
      refine ia_iload_n (pc := 90) F dX8_command_90 rfl ?_
      refine js (pc := 91) F (z111 hZ) kc rfl (by omega) dX8_command_91 ?_
      refine ia_aload_n (pc := 92) F dX8_command_92 rfl ?_
      refine ia_dup (pc := 93) F dX8_command_93 (Or.inr (Or.inr rfl)) ?_
      refine jg (pc := 94) F (x := (kc : Int)) (z99 hZ) cls11 f11_23 ((congrFun ((rowN (by decide)).trans ((rowN (by decide)).trans ((rowN (by decide)).trans w_4))) 23).trans tp_23) il_RX8_81 dX8_command_94 ?_
      refine ia_iconst (pc := 97) F dX8_command_97 ?_
      refine ia_iadd (pc := 98) F dX8_command_98 ?_
      refine jp (pc := 99) F (z99 hZ) cls11 f11_23 rfl (ia_nI rfl _) il_RX8_81 dX8_command_99 ?_
      refine ia_return (pc := 102) F M (by decide) (by decide) dX8_command_102 ?_
      have hA : tx_dA (tx_cK ι n a) = 0 := by rw [hK]; rfl
      have hB : tx_dB (tx_cK ι n a) = 0 := by rw [hK]; rfl
      have p1 : tx_qP ι n a = tx_wP ι n a := by unfold tx_qP; rw [hA]; exact if_pos rfl
      have w1 : tx_pW ι n (tx_wP ι n a) (tx_dA (tx_cK ι n a)) = 0 := by rw [hA]; exact if_pos rfl
      have f1 : tx_cF ι n a = 0 := by unfold tx_cF; rw [hA]; exact if_pos rfl
      have w2 : tx_pW ι n (tx_qP ι n a) (tx_dB (tx_cK ι n a)) = 0 := by rw [hB, p1]; exact if_pos rfl
      have p2 : tx_pP ι n (tx_qP ι n a) (tx_dB (tx_cK ι n a)) = tx_wP ι n a := by rw [hB, p1]; exact if_pos rfl
      have f2 : tx_cS ι n a = 0 := by unfold tx_cS; rw [hB, p1]; exact if_pos rfl
      have z1 : (0 : Int) = 0 := by rfl
      have z2 : (0 : Int) = 0 := by rfl
      have c9 := tx_c_2 (t := ι) (n := n) (a := a) (by omega) (w1.trans z1)
      rw [w2, p2] at c9
      exact q1 _ c9.1 (PI_u (PI_u (PI_u (PI_u p_3 rfl) rfl) rfl) rfl) (((rowU ((rowN (by decide)).trans ((rowN (by decide)).trans ((rowN (by decide)).trans w_4)))).trans tp_u23).trans (by rw [c9.2])) (((rowN (by decide)).trans (rowU ((rowN (by decide)).trans ((rowN (by decide)).trans ((f_5 111 (by decide)).trans h111))))).trans (by rw [hK]; rfl)) (((rowN (by decide)).trans ((rowN (by decide)).trans ((rowN (by decide)).trans (rowU ((f_5 112 (by decide)).trans h112))))).trans (by rw [f1])) (((rowN (by decide)).trans ((rowN (by decide)).trans (rowU ((rowN (by decide)).trans ((f_5 113 (by decide)).trans h113))))).trans (by rw [f2])) (Fr_u (Fr_u (Fr_u (Fr_u (Fr_c (Fr_0 (V := V) (S := [99, 111, 112, 113])) f_5 (by decide)) (by decide)) (by decide)) (by decide)) (by decide))
    · rw [show ((tx_cK ι n a : Nat) : Int) = 6 from by omega]
      refine ia_istore_n (pc := 4) F (ls' := [(4, ((99 : Nat) : Int)), (0, 6)]) dX8_command_4 (Nat.le_of_ble_eq_true rfl) rfl rfl ?_
      refine ia_aload_n (pc := 5) F dX8_command_5 rfl ?_
      refine jg (pc := 6) F (x := 0) (z99 hZ) cls11 f11_24 ((congrFun w_4 24).trans tp_24) il_RX8_84 dX8_command_6 ?_
      refine ia_if_eq (pc := 9) F 13 dX8_command_9 rfl (by omega) (fun _ => ?_) (fun h9 => absurd h9 (by omega))
      have s7 := tx_wP_rng (t := ι) han
      refine ia_aload_n (pc := 13) F dX8_command_13 rfl ?_
      refine jg (pc := 14) F (z99 hZ) cls11 f11_18 (p_3 99 18 112 rfl) il_RX8_66 dX8_command_14 ?_
      refine ia_aload_n (pc := 17) F dX8_command_17 rfl ?_
      refine jg (pc := 18) F (x := (kc : Int)) (z99 hZ) cls11 f11_23 ((congrFun w_4 23).trans tp_23) il_RX8_81 dX8_command_18 ?_
      refine ia_iload_n (pc := 21) F dX8_command_21 rfl ?_
      refine ia_iconst (pc := 22) F dX8_command_22 ?_
      refine ia_icmp_ne (pc := 23) F 30 dX8_command_23 rfl (by omega) (by omega) (fun _ => ?_) (fun h9 => absurd h9 (by omega))
      refine ia_aload_n (pc := 30) F dX8_command_30 rfl ?_
      refine ia_iload_n (pc := 31) F dX8_command_31 rfl ?_
      refine jS (pc := 32) F 0 0 (c_X8_firstDigits 6 (by omega) (fun h_156 h_157 => ?_) (fun h_158 h_159 h_160 => ?_) (fun h_161 h_162 h_163 h_164 => ?_) (fun h_165 h_166 h_167 h_168 => ?_) (fun h_169 => ?_)) rfl ⟨k_X8_firstDigits, il_RX8_248, it_X8_firstDigits, ii_RX8⟩ rfl 1 rfl hd_X8_firstDigits ⟨by decide, by decide, by decide, by decide, Nat.le_of_ble_eq_true rfl⟩ dX8_command_32
      · refine j1 ?_
        refine jV (pc := 35) F 0 0 (z99 hZ) cls11.1 (c_X8_number 2 (tx_wP ι n a) n 0 (kc : Int) hZ p_3 w_4 ((f_5 110 (by decide)).trans h110) hn hn6 s7.2.1 ht (Or.inl rfl) (by omega) (fun V_170 h_171 p_172 w_173 f_174 => ?_) (fun V_175 h_176 p_177 w_178 f_179 => ?_)) rfl ⟨k_X8_number, il_RX8_251, im_X8_number, is_X8_number, ii_RX8⟩ 1 rfl hd_X8_number ⟨by decide, by decide, by decide, by decide, Nat.le_of_ble_eq_true rfl⟩ dX8_command_35
        · refine j1 ?_
          refine js (pc := 38) F (z112 hZ) kc rfl (by omega) dX8_command_38 ?_
          have s8 := fun d => tx_nP_rng (t := ι) (n := n) (a := tx_wP ι n a) (d := d) s7.2.1
          have s9 := tx_nW_01 (t := ι) (n := n) (a := tx_wP ι n a)
          refine ia_aload_n (pc := 39) F dX8_command_39 rfl ?_
          refine jg (pc := 40) F (z99 hZ) cls11 f11_19 ((PI_u p_172 rfl) 99 19 113 rfl) il_RX8_69 dX8_command_40 ?_
          refine ia_aload_n (pc := 43) F dX8_command_43 rfl ?_
          refine jg (pc := 44) F (x := (kc : Int)) (z99 hZ) cls11 f11_23 ((congrFun ((rowN (by decide)).trans w_173) 23).trans tp_23) il_RX8_81 dX8_command_44 ?_
          refine ia_iload_n (pc := 47) F dX8_command_47 rfl ?_
          refine ia_if_ne (pc := 48) F 59 dX8_command_48 rfl (by omega) (fun _ => ?_) (fun h9 => absurd h9 (by omega))
          refine ia_iload_n (pc := 59) F dX8_command_59 rfl ?_
          refine ia_iconst (pc := 60) F dX8_command_60 ?_
          refine ia_icmp_ne (pc := 61) F 72 dX8_command_61 rfl (by omega) (by omega) (fun _ => ?_) (fun h9 => absurd h9 (by omega))
          refine ia_iconst (pc := 72) F dX8_command_72 ?_
          refine js (pc := 73) F (z113 hZ) kc rfl (by omega) dX8_command_73 ?_
          refine ia_aload_n (pc := 74) F dX8_command_74 rfl ?_
          refine jg (pc := 75) F (x := (tx_nW ι n (tx_wP ι n a))) (z99 hZ) cls11 f11_24 ((congrFun ((rowN (by decide)).trans ((rowN (by decide)).trans w_173)) 24).trans tp_24) il_RX8_84 dX8_command_75 ?_
          refine ia_if_eq (pc := 78) F 82 dX8_command_78 rfl (by omega) (fun h_180 => ?_) (fun h_180 => ?_)
          · refine ia_aload_n (pc := 82) F dX8_command_82 rfl ?_
            refine jg (pc := 83) F (z99 hZ) cls11 f11_17 ((PI_u (PI_u p_172 rfl) rfl) 99 17 111 rfl) il_RX8_63 dX8_command_83 ?_
            refine ia_aload_n (pc := 86) F dX8_command_86 rfl ?_
            refine jg (pc := 87) F (x := (kc : Int)) (z99 hZ) cls11 f11_23 ((congrFun ((rowN (by decide)).trans ((rowN (by decide)).trans w_173)) 23).trans tp_23) il_RX8_81 dX8_command_87 ?_
            refine ia_iload_n (pc := 90) F dX8_command_90 rfl ?_
            refine js (pc := 91) F (z111 hZ) kc rfl (by omega) dX8_command_91 ?_
            refine ia_aload_n (pc := 92) F dX8_command_92 rfl ?_
            refine ia_dup (pc := 93) F dX8_command_93 (Or.inr (Or.inr rfl)) ?_
            refine jg (pc := 94) F (x := (kc : Int)) (z99 hZ) cls11 f11_23 ((congrFun ((rowN (by decide)).trans ((rowN (by decide)).trans ((rowN (by decide)).trans w_173))) 23).trans tp_23) il_RX8_81 dX8_command_94 ?_
            refine ia_iconst (pc := 97) F dX8_command_97 ?_
            refine ia_iadd (pc := 98) F dX8_command_98 ?_
            refine jp (pc := 99) F (z99 hZ) cls11 f11_23 rfl (ia_nI rfl _) il_RX8_81 dX8_command_99 ?_
            refine ia_return (pc := 102) F M (by decide) (by decide) dX8_command_102 ?_
            have hA : tx_dA (tx_cK ι n a) = 2 := by rw [hK]; rfl
            have hB : tx_dB (tx_cK ι n a) = 0 := by rw [hK]; rfl
            have p1 : tx_qP ι n a = tx_nP ι n (tx_wP ι n a) 2 := by unfold tx_qP; rw [hA]; exact if_neg (by decide)
            have w1 : tx_pW ι n (tx_wP ι n a) (tx_dA (tx_cK ι n a)) = tx_nW ι n (tx_wP ι n a) := by rw [hA]; exact if_neg (by decide)
            have f1 : tx_cF ι n a = tx_nV ι n (tx_wP ι n a) 2 := by unfold tx_cF; rw [hA]; exact if_neg (by decide)
            have w2 : tx_pW ι n (tx_qP ι n a) (tx_dB (tx_cK ι n a)) = 0 := by rw [hB, p1]; exact if_pos rfl
            have p2 : tx_pP ι n (tx_qP ι n a) (tx_dB (tx_cK ι n a)) = tx_nP ι n (tx_wP ι n a) 2 := by rw [hB, p1]; exact if_pos rfl
            have f2 : tx_cS ι n a = 0 := by unfold tx_cS; rw [hB, p1]; exact if_pos rfl
            have z1 : (tx_nW ι n (tx_wP ι n a) : Int) = 0 := by omega
            have z2 : (0 : Int) = 0 := by rfl
            have c9 := tx_c_2 (t := ι) (n := n) (a := a) (by omega) (w1.trans z1)
            rw [w2, p2] at c9
            exact q1 _ c9.1 (PI_u (PI_u (PI_u (PI_u p_172 rfl) rfl) rfl) rfl) (((rowU ((rowN (by decide)).trans ((rowN (by decide)).trans ((rowN (by decide)).trans w_173)))).trans tp_u23).trans (by rw [c9.2, z1])) (((rowN (by decide)).trans (rowU ((rowN (by decide)).trans ((rowN (by decide)).trans ((f_174 111 (by decide)).trans ((f_5 111 (by decide)).trans h111)))))).trans (by rw [hK]; rfl)) (((rowN (by decide)).trans ((rowN (by decide)).trans ((rowN (by decide)).trans (rowU ((f_174 112 (by decide)).trans ((f_5 112 (by decide)).trans h112)))))).trans (by rw [f1])) (((rowN (by decide)).trans ((rowN (by decide)).trans (rowU ((rowN (by decide)).trans ((f_174 113 (by decide)).trans ((f_5 113 (by decide)).trans h113)))))).trans (by rw [f2])) (Fr_u (Fr_u (Fr_u (Fr_u (Fr_c (Fr_c (Fr_0 (V := V) (S := [99, 111, 112, 113])) f_5 (by decide)) f_174 (by decide)) (by decide)) (by decide)) (by decide)) (by decide))
          · refine ia_return (pc := 81) F M (by decide) (by decide) dX8_command_81 ?_
            have hA : tx_dA (tx_cK ι n a) = 2 := by rw [hK]; rfl
            have hB : tx_dB (tx_cK ι n a) = 0 := by rw [hK]; rfl
            have p1 : tx_qP ι n a = tx_nP ι n (tx_wP ι n a) 2 := by unfold tx_qP; rw [hA]; exact if_neg (by decide)
            have w1 : tx_pW ι n (tx_wP ι n a) (tx_dA (tx_cK ι n a)) = tx_nW ι n (tx_wP ι n a) := by rw [hA]; exact if_neg (by decide)
            have f1 : tx_cF ι n a = tx_nV ι n (tx_wP ι n a) 2 := by unfold tx_cF; rw [hA]; exact if_neg (by decide)
            have w2 : tx_pW ι n (tx_qP ι n a) (tx_dB (tx_cK ι n a)) = 0 := by rw [hB, p1]; exact if_pos rfl
            have p2 : tx_pP ι n (tx_qP ι n a) (tx_dB (tx_cK ι n a)) = tx_nP ι n (tx_wP ι n a) 2 := by rw [hB, p1]; exact if_pos rfl
            have f2 : tx_cS ι n a = 0 := by unfold tx_cS; rw [hB, p1]; exact if_pos rfl
            have z1 : tx_nW ι n (tx_wP ι n a) = 1 := by omega
            have c9 := tx_c_1 (t := ι) (n := n) (a := a) (by omega) (by rw [w1]; omega)
            rw [p1] at c9
            exact q2 _ c9.1 (PI_u (PI_u p_172 rfl) rfl) (((rowN (by decide)).trans ((rowN (by decide)).trans w_173)).trans (by rw [c9.2, z1])) (Fr_u (Fr_u (Fr_c (Fr_c (Fr_0 (V := V) (S := [99, 111, 112, 113])) f_5 (by decide)) f_174 (by decide)) (by decide)) (by decide))
        · exfalso
          omega
      · exfalso
        omega
      · exfalso
        omega
      · exfalso
        omega
      · exfalso
        omega
    · rw [show ((tx_cK ι n a : Nat) : Int) = 7 from by omega]
      refine ia_istore_n (pc := 4) F (ls' := [(4, ((99 : Nat) : Int)), (0, 7)]) dX8_command_4 (Nat.le_of_ble_eq_true rfl) rfl rfl ?_
      refine ia_aload_n (pc := 5) F dX8_command_5 rfl ?_
      refine jg (pc := 6) F (x := 0) (z99 hZ) cls11 f11_24 ((congrFun w_4 24).trans tp_24) il_RX8_84 dX8_command_6 ?_
      refine ia_if_eq (pc := 9) F 13 dX8_command_9 rfl (by omega) (fun _ => ?_) (fun h9 => absurd h9 (by omega))
      have s7 := tx_wP_rng (t := ι) han
      refine ia_aload_n (pc := 13) F dX8_command_13 rfl ?_
      refine jg (pc := 14) F (z99 hZ) cls11 f11_18 (p_3 99 18 112 rfl) il_RX8_66 dX8_command_14 ?_
      refine ia_aload_n (pc := 17) F dX8_command_17 rfl ?_
      refine jg (pc := 18) F (x := (kc : Int)) (z99 hZ) cls11 f11_23 ((congrFun w_4 23).trans tp_23) il_RX8_81 dX8_command_18 ?_
      refine ia_iload_n (pc := 21) F dX8_command_21 rfl ?_
      refine ia_iconst (pc := 22) F dX8_command_22 ?_
      refine ia_icmp_ne (pc := 23) F 30 dX8_command_23 rfl (by omega) (by omega) (fun _ => ?_) (fun h9 => absurd h9 (by omega))
      refine ia_aload_n (pc := 30) F dX8_command_30 rfl ?_
      refine ia_iload_n (pc := 31) F dX8_command_31 rfl ?_
      refine jS (pc := 32) F 0 0 (c_X8_firstDigits 7 (by omega) (fun h_181 h_182 => ?_) (fun h_183 h_184 h_185 => ?_) (fun h_186 h_187 h_188 h_189 => ?_) (fun h_190 h_191 h_192 h_193 => ?_) (fun h_194 => ?_)) rfl ⟨k_X8_firstDigits, il_RX8_248, it_X8_firstDigits, ii_RX8⟩ rfl 1 rfl hd_X8_firstDigits ⟨by decide, by decide, by decide, by decide, Nat.le_of_ble_eq_true rfl⟩ dX8_command_32
      · exfalso
        omega
      · refine j1 ?_
        refine jV (pc := 35) F 0 0 (z99 hZ) cls11.1 (c_X8_number 2 (tx_wP ι n a) n 0 (kc : Int) hZ p_3 w_4 ((f_5 110 (by decide)).trans h110) hn hn6 s7.2.1 ht (Or.inl rfl) (by omega) (fun V_195 h_196 p_197 w_198 f_199 => ?_) (fun V_200 h_201 p_202 w_203 f_204 => ?_)) rfl ⟨k_X8_number, il_RX8_251, im_X8_number, is_X8_number, ii_RX8⟩ 1 rfl hd_X8_number ⟨by decide, by decide, by decide, by decide, Nat.le_of_ble_eq_true rfl⟩ dX8_command_35
        · refine j1 ?_
          refine js (pc := 38) F (z112 hZ) kc rfl (by omega) dX8_command_38 ?_
          have s8 := fun d => tx_nP_rng (t := ι) (n := n) (a := tx_wP ι n a) (d := d) s7.2.1
          have s9 := tx_nW_01 (t := ι) (n := n) (a := tx_wP ι n a)
          refine ia_aload_n (pc := 39) F dX8_command_39 rfl ?_
          refine jg (pc := 40) F (z99 hZ) cls11 f11_19 ((PI_u p_197 rfl) 99 19 113 rfl) il_RX8_69 dX8_command_40 ?_
          refine ia_aload_n (pc := 43) F dX8_command_43 rfl ?_
          refine jg (pc := 44) F (x := (kc : Int)) (z99 hZ) cls11 f11_23 ((congrFun ((rowN (by decide)).trans w_198) 23).trans tp_23) il_RX8_81 dX8_command_44 ?_
          refine ia_iload_n (pc := 47) F dX8_command_47 rfl ?_
          refine ia_if_ne (pc := 48) F 59 dX8_command_48 rfl (by omega) (fun _ => ?_) (fun h9 => absurd h9 (by omega))
          refine ia_iload_n (pc := 59) F dX8_command_59 rfl ?_
          refine ia_iconst (pc := 60) F dX8_command_60 ?_
          refine ia_icmp_ne (pc := 61) F 72 dX8_command_61 rfl (by omega) (by omega) (fun _ => ?_) (fun h9 => absurd h9 (by omega))
          refine ia_iconst (pc := 72) F dX8_command_72 ?_
          refine js (pc := 73) F (z113 hZ) kc rfl (by omega) dX8_command_73 ?_
          refine ia_aload_n (pc := 74) F dX8_command_74 rfl ?_
          refine jg (pc := 75) F (x := (tx_nW ι n (tx_wP ι n a))) (z99 hZ) cls11 f11_24 ((congrFun ((rowN (by decide)).trans ((rowN (by decide)).trans w_198)) 24).trans tp_24) il_RX8_84 dX8_command_75 ?_
          refine ia_if_eq (pc := 78) F 82 dX8_command_78 rfl (by omega) (fun h_205 => ?_) (fun h_205 => ?_)
          · refine ia_aload_n (pc := 82) F dX8_command_82 rfl ?_
            refine jg (pc := 83) F (z99 hZ) cls11 f11_17 ((PI_u (PI_u p_197 rfl) rfl) 99 17 111 rfl) il_RX8_63 dX8_command_83 ?_
            refine ia_aload_n (pc := 86) F dX8_command_86 rfl ?_
            refine jg (pc := 87) F (x := (kc : Int)) (z99 hZ) cls11 f11_23 ((congrFun ((rowN (by decide)).trans ((rowN (by decide)).trans w_198)) 23).trans tp_23) il_RX8_81 dX8_command_87 ?_
            refine ia_iload_n (pc := 90) F dX8_command_90 rfl ?_
            refine js (pc := 91) F (z111 hZ) kc rfl (by omega) dX8_command_91 ?_
            refine ia_aload_n (pc := 92) F dX8_command_92 rfl ?_
            refine ia_dup (pc := 93) F dX8_command_93 (Or.inr (Or.inr rfl)) ?_
            refine jg (pc := 94) F (x := (kc : Int)) (z99 hZ) cls11 f11_23 ((congrFun ((rowN (by decide)).trans ((rowN (by decide)).trans ((rowN (by decide)).trans w_198))) 23).trans tp_23) il_RX8_81 dX8_command_94 ?_
            refine ia_iconst (pc := 97) F dX8_command_97 ?_
            refine ia_iadd (pc := 98) F dX8_command_98 ?_
            refine jp (pc := 99) F (z99 hZ) cls11 f11_23 rfl (ia_nI rfl _) il_RX8_81 dX8_command_99 ?_
            refine ia_return (pc := 102) F M (by decide) (by decide) dX8_command_102 ?_
            have hA : tx_dA (tx_cK ι n a) = 2 := by rw [hK]; rfl
            have hB : tx_dB (tx_cK ι n a) = 0 := by rw [hK]; rfl
            have p1 : tx_qP ι n a = tx_nP ι n (tx_wP ι n a) 2 := by unfold tx_qP; rw [hA]; exact if_neg (by decide)
            have w1 : tx_pW ι n (tx_wP ι n a) (tx_dA (tx_cK ι n a)) = tx_nW ι n (tx_wP ι n a) := by rw [hA]; exact if_neg (by decide)
            have f1 : tx_cF ι n a = tx_nV ι n (tx_wP ι n a) 2 := by unfold tx_cF; rw [hA]; exact if_neg (by decide)
            have w2 : tx_pW ι n (tx_qP ι n a) (tx_dB (tx_cK ι n a)) = 0 := by rw [hB, p1]; exact if_pos rfl
            have p2 : tx_pP ι n (tx_qP ι n a) (tx_dB (tx_cK ι n a)) = tx_nP ι n (tx_wP ι n a) 2 := by rw [hB, p1]; exact if_pos rfl
            have f2 : tx_cS ι n a = 0 := by unfold tx_cS; rw [hB, p1]; exact if_pos rfl
            have z1 : (tx_nW ι n (tx_wP ι n a) : Int) = 0 := by omega
            have z2 : (0 : Int) = 0 := by rfl
            have c9 := tx_c_2 (t := ι) (n := n) (a := a) (by omega) (w1.trans z1)
            rw [w2, p2] at c9
            exact q1 _ c9.1 (PI_u (PI_u (PI_u (PI_u p_197 rfl) rfl) rfl) rfl) (((rowU ((rowN (by decide)).trans ((rowN (by decide)).trans ((rowN (by decide)).trans w_198)))).trans tp_u23).trans (by rw [c9.2, z1])) (((rowN (by decide)).trans (rowU ((rowN (by decide)).trans ((rowN (by decide)).trans ((f_199 111 (by decide)).trans ((f_5 111 (by decide)).trans h111)))))).trans (by rw [hK]; rfl)) (((rowN (by decide)).trans ((rowN (by decide)).trans ((rowN (by decide)).trans (rowU ((f_199 112 (by decide)).trans ((f_5 112 (by decide)).trans h112)))))).trans (by rw [f1])) (((rowN (by decide)).trans ((rowN (by decide)).trans (rowU ((rowN (by decide)).trans ((f_199 113 (by decide)).trans ((f_5 113 (by decide)).trans h113)))))).trans (by rw [f2])) (Fr_u (Fr_u (Fr_u (Fr_u (Fr_c (Fr_c (Fr_0 (V := V) (S := [99, 111, 112, 113])) f_5 (by decide)) f_199 (by decide)) (by decide)) (by decide)) (by decide)) (by decide))
          · refine ia_return (pc := 81) F M (by decide) (by decide) dX8_command_81 ?_
            have hA : tx_dA (tx_cK ι n a) = 2 := by rw [hK]; rfl
            have hB : tx_dB (tx_cK ι n a) = 0 := by rw [hK]; rfl
            have p1 : tx_qP ι n a = tx_nP ι n (tx_wP ι n a) 2 := by unfold tx_qP; rw [hA]; exact if_neg (by decide)
            have w1 : tx_pW ι n (tx_wP ι n a) (tx_dA (tx_cK ι n a)) = tx_nW ι n (tx_wP ι n a) := by rw [hA]; exact if_neg (by decide)
            have f1 : tx_cF ι n a = tx_nV ι n (tx_wP ι n a) 2 := by unfold tx_cF; rw [hA]; exact if_neg (by decide)
            have w2 : tx_pW ι n (tx_qP ι n a) (tx_dB (tx_cK ι n a)) = 0 := by rw [hB, p1]; exact if_pos rfl
            have p2 : tx_pP ι n (tx_qP ι n a) (tx_dB (tx_cK ι n a)) = tx_nP ι n (tx_wP ι n a) 2 := by rw [hB, p1]; exact if_pos rfl
            have f2 : tx_cS ι n a = 0 := by unfold tx_cS; rw [hB, p1]; exact if_pos rfl
            have z1 : tx_nW ι n (tx_wP ι n a) = 1 := by omega
            have c9 := tx_c_1 (t := ι) (n := n) (a := a) (by omega) (by rw [w1]; omega)
            rw [p1] at c9
            exact q2 _ c9.1 (PI_u (PI_u p_197 rfl) rfl) (((rowN (by decide)).trans ((rowN (by decide)).trans w_198)).trans (by rw [c9.2, z1])) (Fr_u (Fr_u (Fr_c (Fr_c (Fr_0 (V := V) (S := [99, 111, 112, 113])) f_5 (by decide)) f_199 (by decide)) (by decide)) (by decide))
        · exfalso
          omega
      · exfalso
        omega
      · exfalso
        omega
      · exfalso
        omega
    · rw [show ((tx_cK ι n a : Nat) : Int) = 8 from by omega]
      refine ia_istore_n (pc := 4) F (ls' := [(4, ((99 : Nat) : Int)), (0, 8)]) dX8_command_4 (Nat.le_of_ble_eq_true rfl) rfl rfl ?_
      refine ia_aload_n (pc := 5) F dX8_command_5 rfl ?_
      refine jg (pc := 6) F (x := 0) (z99 hZ) cls11 f11_24 ((congrFun w_4 24).trans tp_24) il_RX8_84 dX8_command_6 ?_
      refine ia_if_eq (pc := 9) F 13 dX8_command_9 rfl (by omega) (fun _ => ?_) (fun h9 => absurd h9 (by omega))
      have s7 := tx_wP_rng (t := ι) han
      refine ia_aload_n (pc := 13) F dX8_command_13 rfl ?_
      refine jg (pc := 14) F (z99 hZ) cls11 f11_18 (p_3 99 18 112 rfl) il_RX8_66 dX8_command_14 ?_
      refine ia_aload_n (pc := 17) F dX8_command_17 rfl ?_
      refine jg (pc := 18) F (x := (kc : Int)) (z99 hZ) cls11 f11_23 ((congrFun w_4 23).trans tp_23) il_RX8_81 dX8_command_18 ?_
      refine ia_iload_n (pc := 21) F dX8_command_21 rfl ?_
      refine ia_iconst (pc := 22) F dX8_command_22 ?_
      refine ia_icmp_ne (pc := 23) F 30 dX8_command_23 rfl (by omega) (by omega) (fun _ => ?_) (fun h9 => absurd h9 (by omega))
      refine ia_aload_n (pc := 30) F dX8_command_30 rfl ?_
      refine ia_iload_n (pc := 31) F dX8_command_31 rfl ?_
      refine jS (pc := 32) F 0 0 (c_X8_firstDigits 8 (by omega) (fun h_206 h_207 => ?_) (fun h_208 h_209 h_210 => ?_) (fun h_211 h_212 h_213 h_214 => ?_) (fun h_215 h_216 h_217 h_218 => ?_) (fun h_219 => ?_)) rfl ⟨k_X8_firstDigits, il_RX8_248, it_X8_firstDigits, ii_RX8⟩ rfl 1 rfl hd_X8_firstDigits ⟨by decide, by decide, by decide, by decide, Nat.le_of_ble_eq_true rfl⟩ dX8_command_32
      · exfalso
        omega
      · exfalso
        omega
      · exfalso
        omega
      · refine j1 ?_
        refine jV (pc := 35) F 0 0 (z99 hZ) cls11.1 (c_X8_number 2 (tx_wP ι n a) n 0 (kc : Int) hZ p_3 w_4 ((f_5 110 (by decide)).trans h110) hn hn6 s7.2.1 ht (Or.inl rfl) (by omega) (fun V_220 h_221 p_222 w_223 f_224 => ?_) (fun V_225 h_226 p_227 w_228 f_229 => ?_)) rfl ⟨k_X8_number, il_RX8_251, im_X8_number, is_X8_number, ii_RX8⟩ 1 rfl hd_X8_number ⟨by decide, by decide, by decide, by decide, Nat.le_of_ble_eq_true rfl⟩ dX8_command_35
        · refine j1 ?_
          refine js (pc := 38) F (z112 hZ) kc rfl (by omega) dX8_command_38 ?_
          have s8 := fun d => tx_nP_rng (t := ι) (n := n) (a := tx_wP ι n a) (d := d) s7.2.1
          have s9 := tx_nW_01 (t := ι) (n := n) (a := tx_wP ι n a)
          refine ia_aload_n (pc := 39) F dX8_command_39 rfl ?_
          refine jg (pc := 40) F (z99 hZ) cls11 f11_19 ((PI_u p_222 rfl) 99 19 113 rfl) il_RX8_69 dX8_command_40 ?_
          refine ia_aload_n (pc := 43) F dX8_command_43 rfl ?_
          refine jg (pc := 44) F (x := (kc : Int)) (z99 hZ) cls11 f11_23 ((congrFun ((rowN (by decide)).trans w_223) 23).trans tp_23) il_RX8_81 dX8_command_44 ?_
          refine ia_iload_n (pc := 47) F dX8_command_47 rfl ?_
          refine ia_if_ne (pc := 48) F 59 dX8_command_48 rfl (by omega) (fun _ => ?_) (fun h9 => absurd h9 (by omega))
          refine ia_iload_n (pc := 59) F dX8_command_59 rfl ?_
          refine ia_iconst (pc := 60) F dX8_command_60 ?_
          refine ia_icmp_ne (pc := 61) F 72 dX8_command_61 rfl (by omega) (by omega) (fun _ => ?_) (fun h9 => absurd h9 (by omega))
          refine ia_iconst (pc := 72) F dX8_command_72 ?_
          refine js (pc := 73) F (z113 hZ) kc rfl (by omega) dX8_command_73 ?_
          refine ia_aload_n (pc := 74) F dX8_command_74 rfl ?_
          refine jg (pc := 75) F (x := (tx_nW ι n (tx_wP ι n a))) (z99 hZ) cls11 f11_24 ((congrFun ((rowN (by decide)).trans ((rowN (by decide)).trans w_223)) 24).trans tp_24) il_RX8_84 dX8_command_75 ?_
          refine ia_if_eq (pc := 78) F 82 dX8_command_78 rfl (by omega) (fun h_230 => ?_) (fun h_230 => ?_)
          · refine ia_aload_n (pc := 82) F dX8_command_82 rfl ?_
            refine jg (pc := 83) F (z99 hZ) cls11 f11_17 ((PI_u (PI_u p_222 rfl) rfl) 99 17 111 rfl) il_RX8_63 dX8_command_83 ?_
            refine ia_aload_n (pc := 86) F dX8_command_86 rfl ?_
            refine jg (pc := 87) F (x := (kc : Int)) (z99 hZ) cls11 f11_23 ((congrFun ((rowN (by decide)).trans ((rowN (by decide)).trans w_223)) 23).trans tp_23) il_RX8_81 dX8_command_87 ?_
            refine ia_iload_n (pc := 90) F dX8_command_90 rfl ?_
            refine js (pc := 91) F (z111 hZ) kc rfl (by omega) dX8_command_91 ?_
            refine ia_aload_n (pc := 92) F dX8_command_92 rfl ?_
            refine ia_dup (pc := 93) F dX8_command_93 (Or.inr (Or.inr rfl)) ?_
            refine jg (pc := 94) F (x := (kc : Int)) (z99 hZ) cls11 f11_23 ((congrFun ((rowN (by decide)).trans ((rowN (by decide)).trans ((rowN (by decide)).trans w_223))) 23).trans tp_23) il_RX8_81 dX8_command_94 ?_
            refine ia_iconst (pc := 97) F dX8_command_97 ?_
            refine ia_iadd (pc := 98) F dX8_command_98 ?_
            refine jp (pc := 99) F (z99 hZ) cls11 f11_23 rfl (ia_nI rfl _) il_RX8_81 dX8_command_99 ?_
            refine ia_return (pc := 102) F M (by decide) (by decide) dX8_command_102 ?_
            have hA : tx_dA (tx_cK ι n a) = 2 := by rw [hK]; rfl
            have hB : tx_dB (tx_cK ι n a) = 0 := by rw [hK]; rfl
            have p1 : tx_qP ι n a = tx_nP ι n (tx_wP ι n a) 2 := by unfold tx_qP; rw [hA]; exact if_neg (by decide)
            have w1 : tx_pW ι n (tx_wP ι n a) (tx_dA (tx_cK ι n a)) = tx_nW ι n (tx_wP ι n a) := by rw [hA]; exact if_neg (by decide)
            have f1 : tx_cF ι n a = tx_nV ι n (tx_wP ι n a) 2 := by unfold tx_cF; rw [hA]; exact if_neg (by decide)
            have w2 : tx_pW ι n (tx_qP ι n a) (tx_dB (tx_cK ι n a)) = 0 := by rw [hB, p1]; exact if_pos rfl
            have p2 : tx_pP ι n (tx_qP ι n a) (tx_dB (tx_cK ι n a)) = tx_nP ι n (tx_wP ι n a) 2 := by rw [hB, p1]; exact if_pos rfl
            have f2 : tx_cS ι n a = 0 := by unfold tx_cS; rw [hB, p1]; exact if_pos rfl
            have z1 : (tx_nW ι n (tx_wP ι n a) : Int) = 0 := by omega
            have z2 : (0 : Int) = 0 := by rfl
            have c9 := tx_c_2 (t := ι) (n := n) (a := a) (by omega) (w1.trans z1)
            rw [w2, p2] at c9
            exact q1 _ c9.1 (PI_u (PI_u (PI_u (PI_u p_222 rfl) rfl) rfl) rfl) (((rowU ((rowN (by decide)).trans ((rowN (by decide)).trans ((rowN (by decide)).trans w_223)))).trans tp_u23).trans (by rw [c9.2, z1])) (((rowN (by decide)).trans (rowU ((rowN (by decide)).trans ((rowN (by decide)).trans ((f_224 111 (by decide)).trans ((f_5 111 (by decide)).trans h111)))))).trans (by rw [hK]; rfl)) (((rowN (by decide)).trans ((rowN (by decide)).trans ((rowN (by decide)).trans (rowU ((f_224 112 (by decide)).trans ((f_5 112 (by decide)).trans h112)))))).trans (by rw [f1])) (((rowN (by decide)).trans ((rowN (by decide)).trans (rowU ((rowN (by decide)).trans ((f_224 113 (by decide)).trans ((f_5 113 (by decide)).trans h113)))))).trans (by rw [f2])) (Fr_u (Fr_u (Fr_u (Fr_u (Fr_c (Fr_c (Fr_0 (V := V) (S := [99, 111, 112, 113])) f_5 (by decide)) f_224 (by decide)) (by decide)) (by decide)) (by decide)) (by decide))
          · refine ia_return (pc := 81) F M (by decide) (by decide) dX8_command_81 ?_
            have hA : tx_dA (tx_cK ι n a) = 2 := by rw [hK]; rfl
            have hB : tx_dB (tx_cK ι n a) = 0 := by rw [hK]; rfl
            have p1 : tx_qP ι n a = tx_nP ι n (tx_wP ι n a) 2 := by unfold tx_qP; rw [hA]; exact if_neg (by decide)
            have w1 : tx_pW ι n (tx_wP ι n a) (tx_dA (tx_cK ι n a)) = tx_nW ι n (tx_wP ι n a) := by rw [hA]; exact if_neg (by decide)
            have f1 : tx_cF ι n a = tx_nV ι n (tx_wP ι n a) 2 := by unfold tx_cF; rw [hA]; exact if_neg (by decide)
            have w2 : tx_pW ι n (tx_qP ι n a) (tx_dB (tx_cK ι n a)) = 0 := by rw [hB, p1]; exact if_pos rfl
            have p2 : tx_pP ι n (tx_qP ι n a) (tx_dB (tx_cK ι n a)) = tx_nP ι n (tx_wP ι n a) 2 := by rw [hB, p1]; exact if_pos rfl
            have f2 : tx_cS ι n a = 0 := by unfold tx_cS; rw [hB, p1]; exact if_pos rfl
            have z1 : tx_nW ι n (tx_wP ι n a) = 1 := by omega
            have c9 := tx_c_1 (t := ι) (n := n) (a := a) (by omega) (by rw [w1]; omega)
            rw [p1] at c9
            exact q2 _ c9.1 (PI_u (PI_u p_222 rfl) rfl) (((rowN (by decide)).trans ((rowN (by decide)).trans w_223)).trans (by rw [c9.2, z1])) (Fr_u (Fr_u (Fr_c (Fr_c (Fr_0 (V := V) (S := [99, 111, 112, 113])) f_5 (by decide)) f_224 (by decide)) (by decide)) (by decide))
        · exfalso
          omega
      · exfalso
        omega
  · refine j1 ?_
    refine ia_istore_n (pc := 4) F (ls' := [(4, ((99 : Nat) : Int)), (0, 0)]) dX8_command_4 (Nat.le_of_ble_eq_true rfl) rfl rfl ?_
    refine ia_aload_n (pc := 5) F dX8_command_5 rfl ?_
    refine jg (pc := 6) F (x := 1) (z99 hZ) cls11 f11_24 ((congrFun w_9 24).trans tp_24) il_RX8_84 dX8_command_6 ?_
    refine ia_if_eq (pc := 9) F 13 dX8_command_9 rfl (by omega) (fun h9 => absurd h9 (by omega)) (fun _ => ?_)
    refine ia_return (pc := 12) F M (by decide) (by decide) dX8_command_12 ?_
    have c9 := tx_c_n (t := ι) (n := n) (a := a) (by omega)
    exact q2 _ c9.1 p_8 (w_9.trans (by rw [c9.2])) (Fr_c (Fr_0 (V := V) (S := [99, 111, 112, 113])) f_10 (by decide))
