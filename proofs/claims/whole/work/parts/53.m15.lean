/-! the model: the whole text (made by wip/whole/m3.py) -/
set_option maxRecDepth 100000 in
theorem c_X8_parse {Z : ia_Z} {V : ia_H} {Q : ia_O → ia_Z → ia_H → Prop} {μ : Nat → Int} {ι : Nat → Int} {k1 : Nat → Int} {k2 : Nat → Int} {k3 : Nat → Int} (n : Nat) (hZ : ZI Z) (hP : PI V) (h99 : V 99 = μ) (h110 : V 110 = ι) (h111 : V 111 = k1) (h112 : V 112 = k2) (h113 : V 113 = k3) (hn : μ 20 = (n : Int)) (hn6 : n ≤ 60) (ht : ∀ i : Nat, i < n → 0 ≤ ι i ∧ ι i ≤ 126) (q1 : ∀ (k : Nat) (V1 : ia_H), (∀ i, i < k → tx_mo ι n i) → (tx_cW ι n (tx_ps ι n k) = 0) → (tx_cP ι n (tx_ps ι n k) = n) → PI V1 → (V1 99 = tpm (up (up μ 21 (μ 20)) 20 0) (n : Int) 0 (((k : Nat) : Int) + 1)) → (V1 111 = mgk (k + 1) (fun i => ((tx_cK ι n (tx_ps ι n i) : Nat) : Int)) k1) → (V1 112 = mgk (k + 1) (fun i => tx_cF ι n (tx_ps ι n i)) k2) → (V1 113 = mgk (k + 1) (fun i => tx_cS ι n (tx_ps ι n i)) k3) → (∀ pp, pp ∉ ([99, 111, 112, 113] : List Nat) → V1 pp = V pp) → Q (.inl none) Z V1) (q2 : ∀ (k : Nat) (kk : Int) (V1 : ia_H), (∀ i, i < k → tx_mo ι n i) → (¬ tx_mo ι n k) → (tx_cP ι n (tx_ps ι n k) ≤ n ∧ (tx_cW ι n (tx_ps ι n k) = 1 ∨ tx_cP ι n (tx_ps ι n k) < n)) → PI V1 → (V1 99 = tpm (up (up μ 21 (μ 20)) 20 0) ((tx_cP ι n (tx_ps ι n k) : Nat) : Int) 1 kk) → (∀ pp, pp ∉ ([99, 111, 112, 113] : List Nat) → V1 pp = V pp) → Q (.inl none) Z V1) : ia_K yX8_parse cX8_parse 1 none [(4, ((99 : Nat) : Int))] Z V 5 0 0 Q := by
  refine ia_start RX8 "parse" ⟨by decide, rfl, rfl⟩ (Nat.le_of_ble_eq_true rfl) (ia_tg rfl) (fun X F M => ?_)
  show ia_G X 0 0 0 [(4, ((99 : Nat) : Int))] [] Z V
  refine ia_aload_n (pc := 0) F dX8_parse_0 rfl ?_
  refine ia_aload_n (pc := 1) F dX8_parse_1 rfl ?_
  refine jg (pc := 2) F (x := μ 20) (z99 hZ) cls11 f11_20 (congrFun h99 20) il_RX8_72 dX8_parse_2 ?_
  refine jp (pc := 5) F (z99 hZ) cls11 f11_21 rfl (ia_nI rfl _) il_RX8_75 dX8_parse_5 ?_
  refine ia_aload_n (pc := 8) F dX8_parse_8 rfl ?_
  refine ia_iconst (pc := 9) F dX8_parse_9 ?_
  refine jp (pc := 10) F (z99 hZ) cls11 f11_20 rfl (ia_nI rfl _) il_RX8_72 dX8_parse_10 ?_
  refine ia_aload_n (pc := 13) F dX8_parse_13 rfl ?_
  refine ia_iconst (pc := 14) F dX8_parse_14 ?_
  refine jp (pc := 15) F (z99 hZ) cls11 f11_22 rfl (ia_nI rfl _) il_RX8_78 dX8_parse_15 ?_
  refine ia_aload_n (pc := 18) F dX8_parse_18 rfl ?_
  refine ia_iconst (pc := 19) F dX8_parse_19 ?_
  refine jp (pc := 20) F (z99 hZ) cls11 f11_23 rfl (ia_nI rfl _) il_RX8_81 dX8_parse_20 ?_
  refine ia_aload_n (pc := 23) F dX8_parse_23 rfl ?_
  refine ia_iconst (pc := 24) F dX8_parse_24 ?_
  refine jp (pc := 25) F (z99 hZ) cls11 f11_24 rfl (ia_nZ rfl (Or.inl rfl)) il_RX8_84 dX8_parse_25 ?_
  have hn1 : (up (up μ 21 (μ 20)) 20 0) 21 = (n : Int) := (up_ne (by decide)).trans ((up_self _ _ _).trans hn)
  refine ia_aload_n (pc := 28) F dX8_parse_28 rfl ?_
  refine jV (pc := 29) F 0 0 (z99 hZ) cls11.1 (c_X8_command 0 n 0 hZ (PI_u (PI_u (PI_u (PI_u (PI_u hP rfl) rfl) rfl) rfl) rfl) ((rowU (rowU (rowU (rowU (rowU h99))))).trans tp_mk) ((rowN (by decide)).trans ((rowN (by decide)).trans ((rowN (by decide)).trans ((rowN (by decide)).trans ((rowN (by decide)).trans h110))))) ((rowN (by decide)).trans ((rowN (by decide)).trans ((rowN (by decide)).trans ((rowN (by decide)).trans ((rowN (by decide)).trans h111))))) ((rowN (by decide)).trans ((rowN (by decide)).trans ((rowN (by decide)).trans ((rowN (by decide)).trans ((rowN (by decide)).trans h112))))) ((rowN (by decide)).trans ((rowN (by decide)).trans ((rowN (by decide)).trans ((rowN (by decide)).trans ((rowN (by decide)).trans h113))))) hn1 hn6 (Nat.zero_le _) ht (by omega) (fun V_1 h_2 p_3 w_4 w_5 w_6 w_7 f_8 => ?_) (fun V_9 h_10 p_11 w_12 f_13 => ?_)) rfl ⟨k_X8_command, il_RX8_254, im_X8_command, is_X8_command, ii_RX8⟩ 0 rfl hd_X8_command ⟨by decide, by decide, by decide, by decide, Nat.le_of_ble_eq_true rfl⟩ dX8_parse_29
  · refine j0 ?_
    have L32 : ∀ (fu : Nat) (k : Nat) (V2 : ia_H), (61 - k < fu) → (∀ i, i < k → tx_mo ι n i) → (tx_cW ι n (tx_ps ι n k) = 0) → (PI V2) → (V2 99 = tpm (up (up μ 21 (μ 20)) 20 0) ((tx_cP ι n (tx_ps ι n k) : Nat) : Int) 0 (((k : Nat) : Int) + 1)) → (V2 111 = mgk (k + 1) (fun i => ((tx_cK ι n (tx_ps ι n i) : Nat) : Int)) k1) → (V2 112 = mgk (k + 1) (fun i => tx_cF ι n (tx_ps ι n i)) k2) → (V2 113 = mgk (k + 1) (fun i => tx_cS ι n (tx_ps ι n i)) k3) → (∀ pp, pp ∉ ([99, 111, 112, 113] : List Nat) → V2 pp = V pp) → ia_G X 0 0 32 [(4, ((99 : Nat) : Int))] [] Z V2 := by
      intro fu
      induction fu with
      | zero => intro k V2 hm; exact absurd hm (Nat.not_lt_zero _)
      | succ fu ih =>
        intro k V2 hm hmo h0 hP2 w2_99 w2_111 w2_112 w2_113 hF2
        have ih32 := ih
        have p1 := tx_ps_rng k hmo
        have p2 := tx_cP_rng (t := ι) (n := n) (a := tx_ps ι n k) p1.2
        have p3 := p2.2.2 h0
        have p4 : tx_cP ι n (tx_ps ι n k) < n → 0 ≤ ι (tx_cP ι n (tx_ps ι n k)) ∧ ι (tx_cP ι n (tx_ps ι n k)) ≤ 126 := fun h => ht _ h
        have hp33 := p2.2.1
        refine ia_aload_n (pc := 32) F dX8_parse_32 rfl ?_
        refine jV (pc := 33) F 0 0 (z99 hZ) cls11.1 (c_X8_markT (tx_cP ι n (tx_ps ι n k)) n 0 (((k : Nat) : Int) + 1) hZ hP2 w2_99 ((hF2 110 (by decide)).trans h110) hn1 hn6 hp33 ht (by omega) (fun h_14 => ?_) (fun h_15 h_16 => ?_) (fun h_17 h_18 => ?_)) rfl ⟨k_X8_mark, il_RX8_235, im_X8_mark, is_X8_mark, ii_RX8⟩ 0 rfl hd_X8_mark ⟨by decide, by decide, by decide, by decide, Nat.le_of_ble_eq_true rfl⟩ dX8_parse_33
        · exfalso
          omega
        · refine j1 ?_
          refine ia_bipush (pc := 36) F dX8_parse_36 (by decide) ?_
          refine ia_icmp_ne (pc := 38) F 58 dX8_parse_38 rfl (by omega) (by omega) (fun _ => ?_) (fun h9 => absurd h9 (by omega))
          refine ia_aload_n (pc := 58) F dX8_parse_58 rfl ?_
          refine ia_dup (pc := 59) F dX8_parse_59 (Or.inr (Or.inr rfl)) ?_
          refine jg (pc := 60) F (x := 0) (z99 hZ) cls11 f11_24 ((congrFun w2_99 24).trans tp_24) il_RX8_84 dX8_parse_60 ?_
          refine ia_aload_n (pc := 63) F dX8_parse_63 rfl ?_
          refine jg (pc := 64) F (x := ((tx_cP ι n (tx_ps ι n k) : Nat) : Int)) (z99 hZ) cls11 f11_22 ((congrFun w2_99 22).trans tp_22) il_RX8_78 dX8_parse_64 ?_
          refine ia_aload_n (pc := 67) F dX8_parse_67 rfl ?_
          refine jg (pc := 68) F (x := (μ 20)) (z99 hZ) cls11 f11_21 ((((congrFun w2_99 21).trans (tp_o (by decide))).trans (up_ne (by decide))).trans (up_self _ _ _)) il_RX8_75 dX8_parse_68 ?_
          refine ia_icmp_ge (pc := 71) F 78 dX8_parse_71 rfl (by omega) (by omega) (fun h_19 => ?_) (fun h_19 => ?_)
          · refine ia_iconst (pc := 78) F dX8_parse_78 ?_
            refine ia_ior (pc := 79) F dX8_parse_79 ?_
            rw [show ia_or 0 0 = 0 from by decide +kernel]
            refine jp (pc := 80) F (z99 hZ) cls11 f11_24 rfl (ia_nZ rfl (Or.inl rfl)) il_RX8_84 dX8_parse_80 ?_
            refine ia_return (pc := 83) F M (by decide) (by decide) dX8_parse_83 ?_
            exact q1 k _ hmo h0 (by omega) (PI_u hP2 rfl) (((rowU w2_99).trans tp_u24).trans (by have e : ((tx_cP ι n (tx_ps ι n k) : Nat) : Int) = (n : Int) := (by omega); rw [e])) ((rowN (by decide)).trans w2_111) ((rowN (by decide)).trans w2_112) ((rowN (by decide)).trans w2_113) (Fr_u hF2 (by decide))
          · refine ia_iconst (pc := 74) F dX8_parse_74 ?_
            refine ia_goto (pc := 75) F 79 dX8_parse_75 rfl ?_
            refine ia_ior (pc := 79) F dX8_parse_79 ?_
            rw [show ia_or 0 1 = 1 from by decide +kernel]
            refine jp (pc := 80) F (z99 hZ) cls11 f11_24 rfl (ia_nZ rfl (Or.inr rfl)) il_RX8_84 dX8_parse_80 ?_
            refine ia_return (pc := 83) F M (by decide) (by decide) dX8_parse_83 ?_
            exact q2 k (((k : Nat) : Int) + 1) _ hmo (fun e => by have e2 := e.2.2; have e1 := e.2.1; omega) ⟨by omega, Or.inr (by omega)⟩ (PI_u hP2 rfl) ((rowU w2_99).trans tp_u24) (Fr_u hF2 (by decide))
        · refine j1 ?_
          refine ia_bipush (pc := 36) F dX8_parse_36 (by decide) ?_
          refine ia_icmp_ne (pc := 38) F 58 dX8_parse_38 rfl (by omega) (by omega) (fun h_20 => ?_) (fun h_20 => ?_)
          · refine ia_aload_n (pc := 58) F dX8_parse_58 rfl ?_
            refine ia_dup (pc := 59) F dX8_parse_59 (Or.inr (Or.inr rfl)) ?_
            refine jg (pc := 60) F (x := 0) (z99 hZ) cls11 f11_24 ((congrFun w2_99 24).trans tp_24) il_RX8_84 dX8_parse_60 ?_
            refine ia_aload_n (pc := 63) F dX8_parse_63 rfl ?_
            refine jg (pc := 64) F (x := ((tx_cP ι n (tx_ps ι n k) : Nat) : Int)) (z99 hZ) cls11 f11_22 ((congrFun w2_99 22).trans tp_22) il_RX8_78 dX8_parse_64 ?_
            refine ia_aload_n (pc := 67) F dX8_parse_67 rfl ?_
            refine jg (pc := 68) F (x := (μ 20)) (z99 hZ) cls11 f11_21 ((((congrFun w2_99 21).trans (tp_o (by decide))).trans (up_ne (by decide))).trans (up_self _ _ _)) il_RX8_75 dX8_parse_68 ?_
            refine ia_icmp_ge (pc := 71) F 78 dX8_parse_71 rfl (by omega) (by omega) (fun h_21 => ?_) (fun h_21 => ?_)
            · refine ia_iconst (pc := 78) F dX8_parse_78 ?_
              refine ia_ior (pc := 79) F dX8_parse_79 ?_
              rw [show ia_or 0 0 = 0 from by decide +kernel]
              refine jp (pc := 80) F (z99 hZ) cls11 f11_24 rfl (ia_nZ rfl (Or.inl rfl)) il_RX8_84 dX8_parse_80 ?_
              refine ia_return (pc := 83) F M (by decide) (by decide) dX8_parse_83 ?_
              exact q1 k _ hmo h0 (by omega) (PI_u hP2 rfl) (((rowU w2_99).trans tp_u24).trans (by have e : ((tx_cP ι n (tx_ps ι n k) : Nat) : Int) = (n : Int) := (by omega); rw [e])) ((rowN (by decide)).trans w2_111) ((rowN (by decide)).trans w2_112) ((rowN (by decide)).trans w2_113) (Fr_u hF2 (by decide))
            · refine ia_iconst (pc := 74) F dX8_parse_74 ?_
              refine ia_goto (pc := 75) F 79 dX8_parse_75 rfl ?_
              refine ia_ior (pc := 79) F dX8_parse_79 ?_
              rw [show ia_or 0 1 = 1 from by decide +kernel]
              refine jp (pc := 80) F (z99 hZ) cls11 f11_24 rfl (ia_nZ rfl (Or.inr rfl)) il_RX8_84 dX8_parse_80 ?_
              refine ia_return (pc := 83) F M (by decide) (by decide) dX8_parse_83 ?_
              exact q2 k (((k : Nat) : Int) + 1) _ hmo (fun e => by have e2 := e.2.2; have e1 := e.2.1; omega) ⟨by omega, Or.inr (by omega)⟩ (PI_u hP2 rfl) ((rowU w2_99).trans tp_u24) (Fr_u hF2 (by decide))
          · refine ia_aload_n (pc := 41) F dX8_parse_41 rfl ?_
            refine ia_dup (pc := 42) F dX8_parse_42 (Or.inr (Or.inr rfl)) ?_
            refine jg (pc := 43) F (x := ((tx_cP ι n (tx_ps ι n k) : Nat) : Int)) (z99 hZ) cls11 f11_22 ((congrFun w2_99 22).trans tp_22) il_RX8_78 dX8_parse_43 ?_
            refine ia_iconst (pc := 46) F dX8_parse_46 ?_
            refine ia_iadd (pc := 47) F dX8_parse_47 ?_
            refine jp (pc := 48) F (z99 hZ) cls11 f11_22 rfl (ia_nI rfl _) il_RX8_78 dX8_parse_48 ?_
            refine ia_aload_n (pc := 51) F dX8_parse_51 rfl ?_
            refine jV (pc := 52) F 0 0 (z99 hZ) cls11.1 (c_X8_command (tx_cP ι n (tx_ps ι n k) + 1) n (k + 1) hZ (PI_u hP2 rfl) ((rowU w2_99).trans tp_u22) ((rowN (by decide)).trans ((hF2 110 (by decide)).trans h110)) ((rowN (by decide)).trans w2_111) ((rowN (by decide)).trans w2_112) ((rowN (by decide)).trans w2_113) hn1 hn6 (by omega) ht (by omega) (fun V_22 h_23 p_24 w_25 w_26 w_27 w_28 f_29 => ?_) (fun V_30 h_31 p_32 w_33 f_34 => ?_)) rfl ⟨k_X8_command, il_RX8_254, im_X8_command, is_X8_command, ii_RX8⟩ 0 rfl hd_X8_command ⟨by decide, by decide, by decide, by decide, Nat.le_of_ble_eq_true rfl⟩ dX8_parse_52
            · refine j0 ?_
              refine ia_goto (pc := 55) F 32 dX8_parse_55 rfl ?_
              exact ih32 (k + 1) _ (by omega) (tx_mo_s hmo ⟨h0, by omega, by omega⟩) (by rw [tx_ps_s]; exact h_23) p_24 (w_25.trans (by rw [tx_ps_s] <;> rfl)) (w_26.trans (mgk_f (by simp only [tx_ps_s]))) (w_27.trans (mgk_f (by simp only [tx_ps_s]))) (w_28.trans (mgk_f (by simp only [tx_ps_s]))) (Fr_c (Fr_u hF2 (by decide)) f_29 (by decide))
            · refine j0 ?_
              refine ia_goto (pc := 55) F 32 dX8_parse_55 rfl ?_
              have hp33 : tx_cP ι n (tx_cP ι n (tx_ps ι n k) + 1) ≤ n := (tx_cP_rng (t := ι) (n := n) (a := tx_cP ι n (tx_ps ι n k) + 1) (by omega)).2.1
              refine ia_aload_n (pc := 32) F dX8_parse_32 rfl ?_
              refine jV (pc := 33) F 0 0 (z99 hZ) cls11.1 (c_X8_markT (tx_cP ι n (tx_cP ι n (tx_ps ι n k) + 1)) n 1 ((k + 1) : Int) hZ p_32 w_33 ((f_34 110 (by decide)).trans ((rowN (by decide)).trans ((hF2 110 (by decide)).trans h110))) hn1 hn6 hp33 ht (by omega) (fun h_35 => ?_) (fun h_36 h_37 => ?_) (fun h_38 h_39 => ?_)) rfl ⟨k_X8_mark, il_RX8_235, im_X8_mark, is_X8_mark, ii_RX8⟩ 0 rfl hd_X8_mark ⟨by decide, by decide, by decide, by decide, Nat.le_of_ble_eq_true rfl⟩ dX8_parse_33
              · refine j1 ?_
                refine ia_bipush (pc := 36) F dX8_parse_36 (by decide) ?_
                refine ia_icmp_ne (pc := 38) F 58 dX8_parse_38 rfl (by omega) (by omega) (fun _ => ?_) (fun h9 => absurd h9 (by omega))
                refine ia_aload_n (pc := 58) F dX8_parse_58 rfl ?_
                refine ia_dup (pc := 59) F dX8_parse_59 (Or.inr (Or.inr rfl)) ?_
                refine jg (pc := 60) F (x := 1) (z99 hZ) cls11 f11_24 ((congrFun w_33 24).trans tp_24) il_RX8_84 dX8_parse_60 ?_
                refine ia_aload_n (pc := 63) F dX8_parse_63 rfl ?_
                refine jg (pc := 64) F (x := ((tx_cP ι n (tx_cP ι n (tx_ps ι n k) + 1) : Nat) : Int)) (z99 hZ) cls11 f11_22 ((congrFun w_33 22).trans tp_22) il_RX8_78 dX8_parse_64 ?_
                refine ia_aload_n (pc := 67) F dX8_parse_67 rfl ?_
                refine jg (pc := 68) F (x := (μ 20)) (z99 hZ) cls11 f11_21 ((((congrFun w_33 21).trans (tp_o (by decide))).trans (up_ne (by decide))).trans (up_self _ _ _)) il_RX8_75 dX8_parse_68 ?_
                refine ia_icmp_ge (pc := 71) F 78 dX8_parse_71 rfl (by omega) (by omega) (fun h_40 => ?_) (fun h_40 => ?_)
                · refine ia_iconst (pc := 78) F dX8_parse_78 ?_
                  refine ia_ior (pc := 79) F dX8_parse_79 ?_
                  rw [show ia_or 1 0 = 1 from by decide +kernel]
                  refine jp (pc := 80) F (z99 hZ) cls11 f11_24 rfl (ia_nZ rfl (Or.inr rfl)) il_RX8_84 dX8_parse_80 ?_
                  refine ia_return (pc := 83) F M (by decide) (by decide) dX8_parse_83 ?_
                  have m9 := tx_mo_s hmo ⟨h0, by omega, by omega⟩
                  have e5 := (tx_cP_rng (t := ι) (n := n) (a := tx_ps ι n (k + 1)) (tx_ps_rng (k + 1) m9).2).2.1
                  exact q2 (k + 1) ((k + 1) : Int) _ m9 (fun e => by have e1 := e.1; rw [tx_ps_s] at e1; omega) ⟨e5, Or.inl (by rw [tx_ps_s]; exact h_31)⟩ (PI_u p_32 rfl) (((rowU w_33).trans tp_u24).trans (by rw [tx_ps_s] <;> rfl)) (Fr_u (Fr_c (Fr_u hF2 (by decide)) f_34 (by decide)) (by decide))
                · refine ia_iconst (pc := 74) F dX8_parse_74 ?_
                  refine ia_goto (pc := 75) F 79 dX8_parse_75 rfl ?_
                  refine ia_ior (pc := 79) F dX8_parse_79 ?_
                  rw [show ia_or 1 1 = 1 from by decide +kernel]
                  refine jp (pc := 80) F (z99 hZ) cls11 f11_24 rfl (ia_nZ rfl (Or.inr rfl)) il_RX8_84 dX8_parse_80 ?_
                  refine ia_return (pc := 83) F M (by decide) (by decide) dX8_parse_83 ?_
                  have m9 := tx_mo_s hmo ⟨h0, by omega, by omega⟩
                  have e5 := (tx_cP_rng (t := ι) (n := n) (a := tx_ps ι n (k + 1)) (tx_ps_rng (k + 1) m9).2).2.1
                  exact q2 (k + 1) ((k + 1) : Int) _ m9 (fun e => by have e1 := e.1; rw [tx_ps_s] at e1; omega) ⟨e5, Or.inl (by rw [tx_ps_s]; exact h_31)⟩ (PI_u p_32 rfl) (((rowU w_33).trans tp_u24).trans (by rw [tx_ps_s] <;> rfl)) (Fr_u (Fr_c (Fr_u hF2 (by decide)) f_34 (by decide)) (by decide))
              · exfalso
                omega
              · exfalso
                omega
    exact L32 (61 + 1) 0 _ (by omega) (fun i hi => absurd hi (Nat.not_lt_zero _)) (by rw [tx_ps_0]; exact h_2) p_3 (w_4.trans (by rw [tx_ps_0] <;> rfl)) (w_5.trans (mgk_s0 (by simp only [tx_ps_0]))) (w_6.trans (mgk_s0 (by simp only [tx_ps_0]))) (w_7.trans (mgk_s0 (by simp only [tx_ps_0]))) (Fr_c (Fr_u (Fr_u (Fr_u (Fr_u (Fr_u (Fr_0 (V := V) (S := [99, 111, 112, 113])) (by decide)) (by decide)) (by decide)) (by decide)) (by decide)) f_8 (by decide))
  · refine j0 ?_
    have hp33 : tx_cP ι n 0 ≤ n := (tx_cP_rng (t := ι) (n := n) (a := 0) (Nat.zero_le n)).2.1
    refine ia_aload_n (pc := 32) F dX8_parse_32 rfl ?_
    refine jV (pc := 33) F 0 0 (z99 hZ) cls11.1 (c_X8_markT (tx_cP ι n 0) n 1 (0 : Int) hZ p_11 w_12 ((f_13 110 (by decide)).trans ((rowN (by decide)).trans ((rowN (by decide)).trans ((rowN (by decide)).trans ((rowN (by decide)).trans ((rowN (by decide)).trans h110)))))) hn1 hn6 hp33 ht (by omega) (fun h_41 => ?_) (fun h_42 h_43 => ?_) (fun h_44 h_45 => ?_)) rfl ⟨k_X8_mark, il_RX8_235, im_X8_mark, is_X8_mark, ii_RX8⟩ 0 rfl hd_X8_mark ⟨by decide, by decide, by decide, by decide, Nat.le_of_ble_eq_true rfl⟩ dX8_parse_33
    · refine j1 ?_
      refine ia_bipush (pc := 36) F dX8_parse_36 (by decide) ?_
      refine ia_icmp_ne (pc := 38) F 58 dX8_parse_38 rfl (by omega) (by omega) (fun _ => ?_) (fun h9 => absurd h9 (by omega))
      refine ia_aload_n (pc := 58) F dX8_parse_58 rfl ?_
      refine ia_dup (pc := 59) F dX8_parse_59 (Or.inr (Or.inr rfl)) ?_
      refine jg (pc := 60) F (x := 1) (z99 hZ) cls11 f11_24 ((congrFun w_12 24).trans tp_24) il_RX8_84 dX8_parse_60 ?_
      refine ia_aload_n (pc := 63) F dX8_parse_63 rfl ?_
      refine jg (pc := 64) F (x := ((tx_cP ι n 0 : Nat) : Int)) (z99 hZ) cls11 f11_22 ((congrFun w_12 22).trans tp_22) il_RX8_78 dX8_parse_64 ?_
      refine ia_aload_n (pc := 67) F dX8_parse_67 rfl ?_
      refine jg (pc := 68) F (x := (μ 20)) (z99 hZ) cls11 f11_21 ((((congrFun w_12 21).trans (tp_o (by decide))).trans (up_ne (by decide))).trans (up_self _ _ _)) il_RX8_75 dX8_parse_68 ?_
      refine ia_icmp_ge (pc := 71) F 78 dX8_parse_71 rfl (by omega) (by omega) (fun h_46 => ?_) (fun h_46 => ?_)
      · refine ia_iconst (pc := 78) F dX8_parse_78 ?_
        refine ia_ior (pc := 79) F dX8_parse_79 ?_
        rw [show ia_or 1 0 = 1 from by decide +kernel]
        refine jp (pc := 80) F (z99 hZ) cls11 f11_24 rfl (ia_nZ rfl (Or.inr rfl)) il_RX8_84 dX8_parse_80 ?_
        refine ia_return (pc := 83) F M (by decide) (by decide) dX8_parse_83 ?_
        exact q2 0 (0 : Int) _ (fun i hi => absurd hi (Nat.not_lt_zero _)) (fun e => by have e1 := e.1; rw [tx_ps_0] at e1; omega) ⟨(tx_cP_rng (t := ι) (Nat.zero_le n)).2.1, Or.inl (by rw [tx_ps_0]; exact h_10)⟩ (PI_u p_11 rfl) (((rowU w_12).trans tp_u24).trans (by rw [tx_ps_0] <;> rfl)) (Fr_u (Fr_c (Fr_u (Fr_u (Fr_u (Fr_u (Fr_u (Fr_0 (V := V) (S := [99, 111, 112, 113])) (by decide)) (by decide)) (by decide)) (by decide)) (by decide)) f_13 (by decide)) (by decide))
      · refine ia_iconst (pc := 74) F dX8_parse_74 ?_
        refine ia_goto (pc := 75) F 79 dX8_parse_75 rfl ?_
        refine ia_ior (pc := 79) F dX8_parse_79 ?_
        rw [show ia_or 1 1 = 1 from by decide +kernel]
        refine jp (pc := 80) F (z99 hZ) cls11 f11_24 rfl (ia_nZ rfl (Or.inr rfl)) il_RX8_84 dX8_parse_80 ?_
        refine ia_return (pc := 83) F M (by decide) (by decide) dX8_parse_83 ?_
        exact q2 0 (0 : Int) _ (fun i hi => absurd hi (Nat.not_lt_zero _)) (fun e => by have e1 := e.1; rw [tx_ps_0] at e1; omega) ⟨(tx_cP_rng (t := ι) (Nat.zero_le n)).2.1, Or.inl (by rw [tx_ps_0]; exact h_10)⟩ (PI_u p_11 rfl) (((rowU w_12).trans tp_u24).trans (by rw [tx_ps_0] <;> rfl)) (Fr_u (Fr_c (Fr_u (Fr_u (Fr_u (Fr_u (Fr_u (Fr_0 (V := V) (S := [99, 111, 112, 113])) (by decide)) (by decide)) (by decide)) (by decide)) (by decide)) f_13 (by decide)) (by decide))
    · exfalso
      omega
    · exfalso
      omega
