/-! the model: execute (made by wip/whole/exec.py) -/
set_option maxRecDepth 100000 in
set_option maxHeartbeats 1000000 in
set_option linter.constructorNameAsVariable false in
theorem c_X8_execute {Z : ia_Z} {V : ia_H} {Q : ia_O → ia_Z → ia_H → Prop} {σ : Nat → Int} {μ : Nat → Int} {β : Nat → Int} {η : Nat → Int} {φ : Nat → Int} {ψ : Nat → Int} {ω : Nat → Int} {ι : Nat → Int} {k1 : Nat → Int} {k2 : Nat → Int} {k3 : Nat → Int} {m : Int} (n : Nat) (hZ : ZI Z) (hP : PI V) (hI : SI σ m) (h99 : V 99 = μ) (h100 : V 100 = σ) (h101 : V 101 = β) (h103 : V 103 = η) (h104 : V 104 = φ) (h105 : V 105 = ψ) (h108 : V 108 = ω) (h110 : V 110 = ι) (h111 : V 111 = k1) (h112 : V 112 = k2) (h113 : V 113 = k3) (hn : μ 20 = (n : Int)) (hn6 : n ≤ 60) (ht : ∀ i : Nat, i < n → 0 ≤ ι i ∧ ι i ≤ 126) (hd : 0 ≤ μ 10 ∧ μ 10 ≤ 8) (hm : m + 16 ≤ 20000) (q1 : ∀ (k : Nat) (μ1 : Nat → Int) (V1 : ia_H), (∀ i, i < k → tx_mo ι n i) → (tx_cW ι n (tx_ps ι n k) = 0) → (tx_cP ι n (tx_ps ι n k) = n) → (∀ i : Nat, i < k + 1 → ¬ opB (tx_K ι n i) ((fun i => tx_cF ι n (tx_ps ι n i)) i) ((fun i => tx_cS ι n (tx_ps ι n i)) i) (opN (tx_K ι n) (fun i => tx_cF ι n (tx_ps ι n i)) (fun i => tx_cS ι n (tx_ps ι n i)) σ i)) → (μ1 9 = 0) → (μ1 10 = hdep (μ 10) ∧ μ1 11 = μ 11 ∧ μ1 12 = μ 12) → (μ1 20 = 0) → (∀ j : Nat, j = 13 ∨ j = 15 → μ1 j = μ j) → PI V1 → (V1 99 = μ1) → (V1 101 = cpy σ β 0 0 72) → (V1 100 = opN (tx_K ι n) (fun i => tx_cF ι n (tx_ps ι n i)) (fun i => tx_cS ι n (tx_ps ι n i)) σ (k + 1)) → (V1 103 = s_hist (cpy σ β 0 0 72) η (μ 10)) → (∀ pp, pp ∉ ([99, 100, 101, 103, 104, 105, 108, 111, 112, 113] : List Nat) → V1 pp = V pp) → Q (.inl (some (0, ((k : Int) + 1)))) Z V1) (q2 : ∀ (k : Nat) (μ1 : Nat → Int) (V1 : ia_H), (∀ i, i < k → tx_mo ι n i) → (¬ tx_mo ι n k) → (tx_cP ι n (tx_ps ι n k) ≤ n ∧ (tx_cW ι n (tx_ps ι n k) = 1 ∨ tx_cP ι n (tx_ps ι n k) < n)) → (μ1 9 = 1) → (μ1 10 = μ 10 ∧ μ1 12 = μ 12) → (μ1 11 = ((tx_cP ι n (tx_ps ι n k) : Nat) : Int)) → (μ1 20 = 0) → (∀ j : Nat, j = 13 ∨ j = 15 → μ1 j = μ j) → PI V1 → (V1 99 = μ1) → (V1 101 = cpy σ β 0 0 72) → (V1 100 = σ) → (V1 103 = η) → (∀ pp, pp ∉ ([99, 100, 101, 103, 104, 105, 108, 111, 112, 113] : List Nat) → V1 pp = V pp) → Q (.inl (some (0, 0))) Z V1) (q3 : ∀ (k j : Nat) (μ1 : Nat → Int) (V1 : ia_H), (∀ i, i < k → tx_mo ι n i) → (tx_cW ι n (tx_ps ι n k) = 0) → (tx_cP ι n (tx_ps ι n k) = n) → (j < k + 1) → (∀ i : Nat, i < j → ¬ opB (tx_K ι n i) ((fun i => tx_cF ι n (tx_ps ι n i)) i) ((fun i => tx_cS ι n (tx_ps ι n i)) i) (opN (tx_K ι n) (fun i => tx_cF ι n (tx_ps ι n i)) (fun i => tx_cS ι n (tx_ps ι n i)) σ i)) → (¬ ¬ opB (tx_K ι n j) ((fun i => tx_cF ι n (tx_ps ι n i)) j) ((fun i => tx_cS ι n (tx_ps ι n i)) j) (opN (tx_K ι n) (fun i => tx_cF ι n (tx_ps ι n i)) (fun i => tx_cS ι n (tx_ps ι n i)) σ j)) → (μ1 9 = 2) → (μ1 10 = μ 10 ∧ μ1 11 = μ 11) → (μ1 12 = (j : Int)) → (μ1 20 = 0) → (∀ j : Nat, j = 13 ∨ j = 15 → μ1 j = μ j) → PI V1 → (V1 99 = μ1) → (V1 101 = cpy σ β 0 0 72) → (V1 100 = cpy (cpy σ β 0 0 72) (opN (tx_K ι n) (fun i => tx_cF ι n (tx_ps ι n i)) (fun i => tx_cS ι n (tx_ps ι n i)) σ j) 0 0 72) → (V1 103 = η) → (∀ pp, pp ∉ ([99, 100, 101, 103, 104, 105, 108, 111, 112, 113] : List Nat) → V1 pp = V pp) → Q (.inl (some (0, 0))) Z V1) : ia_K yX8_execute cX8_execute 3 (some .int) [(4, ((99 : Nat) : Int))] Z V 9 0 0 Q := by
  refine ia_start RX8 "execute" ⟨by decide, rfl, rfl⟩ (Nat.le_of_ble_eq_true rfl) (ia_tg rfl) (fun X F M => ?_)
  show ia_G X 0 0 0 [(4, ((99 : Nat) : Int)), (9, 0), (9, 0)] [] Z V
  obtain ⟨s0, s1, s2, s3, s4, s5, s6, s7, s18, sb, sw, se, sp⟩ := id hI
  refine ia_aload_n (pc := 0) F dX8_execute_0 rfl ?_
  refine jV (pc := 1) F 0 0 (z99 hZ) cls11.1 (c_X8_begin hZ hP h99 h100 h101 (fun V_1 p_2 w_3 w_4 f_5 => ?_)) rfl ⟨k_X8_begin, il_RX8_99, im_X8_begin, is_X8_begin, ii_RX8⟩ 0 rfl hd_X8_begin ⟨by decide, by decide, by decide, by decide, Nat.le_of_ble_eq_true rfl⟩ dX8_execute_1
  refine j0 ?_
  refine ia_aload_n (pc := 4) F dX8_execute_4 rfl ?_
  refine jV (pc := 5) F 0 0 (z99 hZ) cls11.1 (c_X8_parse n hZ p_2 w_3 ((f_5 110 (by decide)).trans h110) ((f_5 111 (by decide)).trans h111) ((f_5 112 (by decide)).trans h112) ((f_5 113 (by decide)).trans h113) ((up_ne (by decide)).trans hn) hn6 ht (fun k_6 V_7 h_8 h_9 h_10 p_11 w_12 w_13 w_14 w_15 f_16 => ?_) (fun k_17 kk_18 V_19 h_20 h_21 h_22 p_23 w_24 f_25 => ?_)) rfl ⟨k_X8_parse, il_RX8_257, im_X8_parse, is_X8_parse, ii_RX8⟩ 0 rfl hd_X8_parse ⟨by decide, by decide, by decide, by decide, Nat.le_of_ble_eq_true rfl⟩ dX8_execute_5
  · refine j0 ?_
    refine ia_aload_n (pc := 8) F dX8_execute_8 rfl ?_
    refine jg (pc := 9) F (x := 0) (z99 hZ) cls11 f11_24 ((congrFun w_12 24).trans tp_24) il_RX8_84 dX8_execute_9 ?_
    refine ia_if_eq (pc := 12) F 29 dX8_execute_12 rfl (by omega) (fun _ => ?_) (fun h9 => absurd h9 (by omega))
    have hcc := tx_ps_rng k_6 h_8
    have hww := tx_mo_W h_8 h_9
    have hkk : ∀ i : Nat, i < k_6 + 1 → tx_cK ι n (tx_ps ι n i) = tx_K ι n i := fun i hi => tx_K_eq (hww i hi)
    refine ia_iconst (pc := 29) F dX8_execute_29 ?_
    refine ia_istore_n (pc := 30) F (ls' := [(4, ((99 : Nat) : Int)), (0, 0), (9, 0)]) dX8_execute_30 (Nat.le_of_ble_eq_true rfl) rfl rfl ?_
    refine ia_iconst (pc := 31) F dX8_execute_31 ?_
    refine ia_istore_n (pc := 32) F (ls' := [(4, ((99 : Nat) : Int)), (0, 0), (0, 0)]) dX8_execute_32 (Nat.le_of_ble_eq_true rfl) rfl rfl ?_
    have L33 : ∀ (fu : Nat) (j : Nat) (u : Int) (V2 : ia_H), (17 - j < fu) → (j ≤ k_6 + 1) → (∀ i : Nat, i < j → ¬ opB (tx_K ι n i) ((fun i => tx_cF ι n (tx_ps ι n i)) i) ((fun i => tx_cS ι n (tx_ps ι n i)) i) (opN (tx_K ι n) (fun i => tx_cF ι n (tx_ps ι n i)) (fun i => tx_cS ι n (tx_ps ι n i)) σ i)) → (PI V2) → (V2 99 = tpm (up (up (up μ 9 0) 21 ((up μ 9 0) 20)) 20 0) (n : Int) 0 (((k_6 : Nat) : Int) + 1)) → (V2 101 = cpy σ β 0 0 72) → (V2 103 = η) → (V2 111 = mgk (k_6 + 1) (fun i => ((tx_cK ι n (tx_ps ι n i) : Nat) : Int)) k1) → (V2 112 = mgk (k_6 + 1) (fun i => tx_cF ι n (tx_ps ι n i)) k2) → (V2 113 = mgk (k_6 + 1) (fun i => tx_cS ι n (tx_ps ι n i)) k3) → (V2 100 = opN (tx_K ι n) (fun i => tx_cF ι n (tx_ps ι n i)) (fun i => tx_cS ι n (tx_ps ι n i)) σ j) → (∀ pp, pp ∉ ([99, 100, 101, 103, 104, 105, 108, 111, 112, 113] : List Nat) → V2 pp = V pp) → ia_G X 0 0 33 [(4, ((99 : Nat) : Int)), (0, u), (0, (j : Int))] [] Z V2 := by
      intro fu
      induction fu with
      | zero => intro j u V2 hm; exact absurd hm (Nat.not_lt_zero _)
      | succ fu ih =>
        intro j u V2 hm hj hok hP2 w2_99 w2_101 w2_103 w2_111 w2_112 w2_113 w2_100 hF2
        have ih33 := ih
        refine ia_iload_n (pc := 33) F dX8_execute_33 rfl ?_
        refine ia_aload_n (pc := 34) F dX8_execute_34 rfl ?_
        refine jg (pc := 35) F (x := (((k_6 : Nat) : Int) + 1)) (z99 hZ) cls11 f11_23 ((congrFun w2_99 23).trans tp_23) il_RX8_81 dX8_execute_35 ?_
        refine ia_icmp_ge (pc := 38) F 122 dX8_execute_38 rfl (by omega) (by omega) (fun h_26 => ?_) (fun h_26 => ?_)
        · refine ia_aload_n (pc := 122) F dX8_execute_122 rfl ?_
          refine ia_aload_n (pc := 123) F dX8_execute_123 rfl ?_
          refine jg (pc := 124) F (x := (((k_6 : Nat) : Int) + 1)) (z99 hZ) cls11 f11_23 ((congrFun w2_99 23).trans tp_23) il_RX8_81 dX8_execute_124 ?_
          refine jV (pc := 127) F 0 0 (z99 hZ) cls11.1 (c_X8_commit (((k_6 : Nat) : Int) + 1) hZ hP2 w2_99 w2_100 w2_101 w2_103 (by simp [tpm, up]; omega) (fun V_27 p_28 w_29 w_30 f_31 => ?_)) rfl ⟨k_X8_commit, il_RX8_113, im_X8_commit, is_X8_commit, ii_RX8⟩ 1 rfl hd_X8_commit ⟨by decide, by decide, by decide, by decide, Nat.le_of_ble_eq_true rfl⟩ dX8_execute_127
          refine j1 ?_
          refine ia_ireturn (pc := 130) F M (by decide) (by decide) dX8_execute_130 ?_
          have e8 : j = k_6 + 1 := by omega
          subst e8
          exact q1 k_6 _ _ h_8 h_9 h_10 hok (by simp [tpm, up]) (by simp [tpm, up, hdep]) (by simp [tpm, up]) (fun j hj => by rcases hj with h | h <;> subst h <;> simp [tpm, up]) p_28 w_29 ((f_31 101 (by decide)).trans w2_101) ((f_31 100 (by decide)).trans w2_100) w_30 (Fr_c hF2 f_31 (by decide))
        · have hIj := SI_opN (K := tx_K ι n) (A := (fun i => tx_cF ι n (tx_ps ι n i))) (B := (fun i => tx_cS ι n (tx_ps ι n i))) (fun _ => tx_K_lt) hI j (by omega) hok
          have a1 := tx_cF_rng (t := ι) (n := n) (a := tx_ps ι n j)
          have b1 := tx_cS_rng (t := ι) (n := n) (a := tx_ps ι n j)
          refine ia_aload_n (pc := 41) F dX8_execute_41 rfl ?_
          refine ia_aload_n (pc := 42) F dX8_execute_42 rfl ?_
          refine jg (pc := 43) F (z99 hZ) cls11 f11_17 (hP2 99 17 111 rfl) il_RX8_63 dX8_execute_43 ?_
          refine ia_iload_n (pc := 46) F dX8_execute_46 rfl ?_
          refine ja (pc := 47) F (v := ((tx_K ι n j : Nat) : Int)) (z111 hZ) j rfl (by omega) ((congrFun w2_111 j).trans ((mgk_lt (by omega)).trans (congrArg (fun x : Nat => (x : Int)) (hkk j (by omega))))) dX8_execute_47 ?_
          refine ia_aload_n (pc := 48) F dX8_execute_48 rfl ?_
          refine jg (pc := 49) F (z99 hZ) cls11 f11_18 (hP2 99 18 112 rfl) il_RX8_66 dX8_execute_49 ?_
          refine ia_iload_n (pc := 52) F dX8_execute_52 rfl ?_
          refine ja (pc := 53) F (v := (tx_cF ι n (tx_ps ι n j))) (z112 hZ) j rfl (by omega) ((congrFun w2_112 j).trans (mgk_lt (by omega))) dX8_execute_53 ?_
          refine ia_aload_n (pc := 54) F dX8_execute_54 rfl ?_
          refine jg (pc := 55) F (z99 hZ) cls11 f11_19 (hP2 99 19 113 rfl) il_RX8_69 dX8_execute_55 ?_
          refine ia_iload_n (pc := 58) F dX8_execute_58 rfl ?_
          refine ja (pc := 59) F (v := (tx_cS ι n (tx_ps ι n j))) (z113 hZ) j rfl (by omega) ((congrFun w2_113 j).trans (mgk_lt (by omega))) dX8_execute_59 ?_
          refine jV (pc := 60) F 0 0 (z99 hZ) cls11.1 (c_X8_why_g (tx_K ι n j) (tx_cF ι n (tx_ps ι n j)) (tx_cS ι n (tx_ps ι n j)) hZ hP2 hIj w2_99 w2_100 tx_K_lt (by omega) (by omega) (fun r_32 h_33 h_34 => ?_) (fun h_35 => ?_)) rfl ⟨k_X8_why, il_RX8_260, im_X8_why, is_X8_why, ii_RX8⟩ 3 rfl hd_X8_why ⟨by decide, by decide, by decide, by decide, Nat.le_of_ble_eq_true rfl⟩ dX8_execute_60
          · refine j1 ?_
            refine ia_if_ne (pc := 63) F 92 dX8_execute_63 rfl (by omega) (fun _ => ?_) (fun h9 => absurd h9 (by omega))
            refine ia_aload_n (pc := 92) F dX8_execute_92 rfl ?_
            refine jg (pc := 93) F (z99 hZ) cls11 f11_1 (hP2 99 1 101 rfl) il_RX8_13 dX8_execute_93 ?_
            refine ia_iconst (pc := 96) F dX8_execute_96 ?_
            refine ia_aload_n (pc := 97) F dX8_execute_97 rfl ?_
            refine jg (pc := 98) F (z99 hZ) cls11 f11_0 (hP2 99 0 100 rfl) il_RX8_7 dX8_execute_98 ?_
            refine ia_iconst (pc := 101) F dX8_execute_101 ?_
            refine jS (pc := 102) F 0 0 (c_X8_copy 101 100 0 0 72 72 hZ hP2 w2_101 w2_100 (z101 hZ) (z100 hZ) (fun _ => rfl) (by decide) (by omega) (fun V_36 p_37 w_38 f_39 => ?_)) rfl ⟨k_X8_copy, il_RX8_87, it_X8_copy, ii_RX8⟩ rfl 4 rfl hd_X8_copy ⟨by decide, by decide, by decide, by decide, Nat.le_of_ble_eq_true rfl⟩ dX8_execute_102
            refine j0 ?_
            refine ia_aload_n (pc := 105) F dX8_execute_105 rfl ?_
            refine ia_iload_n (pc := 106) F dX8_execute_106 rfl ?_
            refine jp (pc := 107) F (z99 hZ) cls11 f11_12 rfl (ia_nI rfl _) il_RX8_47 dX8_execute_107 ?_
            refine ia_aload_n (pc := 110) F dX8_execute_110 rfl ?_
            refine ia_iconst (pc := 111) F dX8_execute_111 ?_
            refine jV (pc := 112) F 0 0 (z99 hZ) cls11.1 (c_X8_fail 2 hZ (PI_u p_37 rfl) (rowU ((f_39 99 (by decide)).trans w2_99)) ((rowN (by decide)).trans w_38) (fun V_40 p_41 w_42 f_43 => ?_)) rfl ⟨k_X8_fail, il_RX8_106, im_X8_fail, is_X8_fail, ii_RX8⟩ 1 rfl hd_X8_fail ⟨by decide, by decide, by decide, by decide, Nat.le_of_ble_eq_true rfl⟩ dX8_execute_112
            refine j1 ?_
            refine ia_ireturn (pc := 115) F M (by decide) (by decide) dX8_execute_115 ?_
            exact q3 k_6 j _ _ h_8 h_9 h_10 (by omega) hok h_34 (by simp [tpm, up]) (by simp [tpm, up]) (by simp [tpm, up]) (by simp [tpm, up]) (fun j hj => by rcases hj with h | h <;> subst h <;> simp [tpm, up]) p_41 w_42 ((f_43 101 (by decide)).trans ((rowN (by decide)).trans ((f_39 101 (by decide)).trans w2_101))) ((f_43 100 (by decide)).trans ((rowN (by decide)).trans w_38)) ((f_43 103 (by decide)).trans ((rowN (by decide)).trans ((f_39 103 (by decide)).trans w2_103))) (Fr_c (Fr_u (Fr_c hF2 f_39 (by decide)) (by decide)) f_43 (by decide))
          · refine j1 ?_
            refine ia_if_ne (pc := 63) F 92 dX8_execute_63 rfl (by omega) (fun h9 => absurd h9 (by omega)) (fun _ => ?_)
            refine ia_aload_n (pc := 66) F dX8_execute_66 rfl ?_
            refine ia_aload_n (pc := 67) F dX8_execute_67 rfl ?_
            refine jg (pc := 68) F (z99 hZ) cls11 f11_17 (hP2 99 17 111 rfl) il_RX8_63 dX8_execute_68 ?_
            refine ia_iload_n (pc := 71) F dX8_execute_71 rfl ?_
            refine ja (pc := 72) F (v := ((tx_K ι n j : Nat) : Int)) (z111 hZ) j rfl (by omega) ((congrFun w2_111 j).trans ((mgk_lt (by omega)).trans (congrArg (fun x : Nat => (x : Int)) (hkk j (by omega))))) dX8_execute_72 ?_
            refine ia_aload_n (pc := 73) F dX8_execute_73 rfl ?_
            refine jg (pc := 74) F (z99 hZ) cls11 f11_18 (hP2 99 18 112 rfl) il_RX8_66 dX8_execute_74 ?_
            refine ia_iload_n (pc := 77) F dX8_execute_77 rfl ?_
            refine ja (pc := 78) F (v := (tx_cF ι n (tx_ps ι n j))) (z112 hZ) j rfl (by omega) ((congrFun w2_112 j).trans (mgk_lt (by omega))) dX8_execute_78 ?_
            refine ia_aload_n (pc := 79) F dX8_execute_79 rfl ?_
            refine jg (pc := 80) F (z99 hZ) cls11 f11_19 (hP2 99 19 113 rfl) il_RX8_69 dX8_execute_80 ?_
            refine ia_iload_n (pc := 83) F dX8_execute_83 rfl ?_
            refine ja (pc := 84) F (v := (tx_cS ι n (tx_ps ι n j))) (z113 hZ) j rfl (by omega) ((congrFun w2_113 j).trans (mgk_lt (by omega))) dX8_execute_84 ?_
            refine jV (pc := 85) F 0 0 (z99 hZ) cls11.1 (c_X8_does_g (tx_K ι n j) (tx_cF ι n (tx_ps ι n j)) (tx_cS ι n (tx_ps ι n j)) hZ hP2 hIj w2_99 w2_100 tx_K_lt (by omega) (by omega) (by omega) h_35 (fun r_44 V_45 p_46 w_47 f_48 => ?_)) rfl ⟨k_X8_does, il_RX8_263, im_X8_does, is_X8_does, ii_RX8⟩ 3 rfl hd_X8_does ⟨by decide, by decide, by decide, by decide, Nat.le_of_ble_eq_true rfl⟩ dX8_execute_85
            refine j1 ?_
            refine ia_istore_n (pc := 88) F (ls' := [(4, ((99 : Nat) : Int)), (0, r_44), (0, (j : Int))]) dX8_execute_88 (Nat.le_of_ble_eq_true rfl) rfl rfl ?_
            refine ia_goto (pc := 89) F 116 dX8_execute_89 rfl ?_
            refine ia_iinc (pc := 116) F (ls' := [(4, ((99 : Nat) : Int)), (0, r_44), (0, ((j + 1 : Nat) : Int))]) dX8_execute_116 rfl rfl rfl rfl ?_
            refine ia_goto (pc := 119) F 33 dX8_execute_119 rfl ?_
            exact ih33 (j + 1) r_44 _ (by omega) (by omega) (fun i hi => by rcases Nat.lt_or_ge i j with g | g; exact hok i g; rw [show i = j by omega]; exact h_35) p_46 ((f_48 99 (by decide)).trans w2_99) ((f_48 101 (by decide)).trans w2_101) ((f_48 103 (by decide)).trans w2_103) ((f_48 111 (by decide)).trans w2_111) ((f_48 112 (by decide)).trans w2_112) ((f_48 113 (by decide)).trans w2_113) w_47 (Fr_c hF2 f_48 (by decide))
    exact L33 (17 + 1) 0 0 _ (by omega) (by omega) (fun i hi => absurd hi (Nat.not_lt_zero _)) p_11 w_12 ((f_16 101 (by decide)).trans w_4) ((f_16 103 (by decide)).trans ((f_5 103 (by decide)).trans h103)) w_13 w_14 w_15 ((f_16 100 (by decide)).trans ((f_5 100 (by decide)).trans h100)) (Fr_c (Fr_c (Fr_0 (V := V) (S := [99, 100, 101, 103, 104, 105, 108, 111, 112, 113])) f_5 (by decide)) f_16 (by decide))
  · refine j0 ?_
    refine ia_aload_n (pc := 8) F dX8_execute_8 rfl ?_
    refine jg (pc := 9) F (x := 1) (z99 hZ) cls11 f11_24 ((congrFun w_24 24).trans tp_24) il_RX8_84 dX8_execute_9 ?_
    refine ia_if_eq (pc := 12) F 29 dX8_execute_12 rfl (by omega) (fun h9 => absurd h9 (by omega)) (fun _ => ?_)
    refine ia_aload_n (pc := 15) F dX8_execute_15 rfl ?_
    refine ia_aload_n (pc := 16) F dX8_execute_16 rfl ?_
    refine jg (pc := 17) F (x := ((tx_cP ι n (tx_ps ι n k_17) : Nat) : Int)) (z99 hZ) cls11 f11_22 ((congrFun w_24 22).trans tp_22) il_RX8_78 dX8_execute_17 ?_
    refine jp (pc := 20) F (z99 hZ) cls11 f11_11 rfl (ia_nI rfl _) il_RX8_44 dX8_execute_20 ?_
    refine ia_aload_n (pc := 23) F dX8_execute_23 rfl ?_
    refine ia_iconst (pc := 24) F dX8_execute_24 ?_
    refine jV (pc := 25) F 0 0 (z99 hZ) cls11.1 (c_X8_fail 1 hZ (PI_u p_23 rfl) (rowU w_24) ((rowN (by decide)).trans ((f_25 100 (by decide)).trans ((f_5 100 (by decide)).trans h100))) (fun V_49 p_50 w_51 f_52 => ?_)) rfl ⟨k_X8_fail, il_RX8_106, im_X8_fail, is_X8_fail, ii_RX8⟩ 1 rfl hd_X8_fail ⟨by decide, by decide, by decide, by decide, Nat.le_of_ble_eq_true rfl⟩ dX8_execute_25
    refine j1 ?_
    refine ia_ireturn (pc := 28) F M (by decide) (by decide) dX8_execute_28 ?_
    exact q2 k_17 _ _ h_20 h_21 h_22 (by simp [tpm, up]) (by simp [tpm, up]) (by simp [tpm, up]) (by simp [tpm, up]) (fun j hj => by rcases hj with h | h <;> subst h <;> simp [tpm, up]) p_50 w_51 ((f_52 101 (by decide)).trans ((rowN (by decide)).trans ((f_25 101 (by decide)).trans w_4))) ((f_52 100 (by decide)).trans ((rowN (by decide)).trans ((f_25 100 (by decide)).trans ((f_5 100 (by decide)).trans h100)))) ((f_52 103 (by decide)).trans ((rowN (by decide)).trans ((f_25 103 (by decide)).trans ((f_5 103 (by decide)).trans h103)))) (Fr_c (Fr_u (Fr_c (Fr_c (Fr_0 (V := V) (S := [99, 100, 101, 103, 104, 105, 108, 111, 112, 113])) f_5 (by decide)) f_25 (by decide)) (by decide)) f_52 (by decide))
