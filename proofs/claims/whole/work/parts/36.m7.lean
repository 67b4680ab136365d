/-! the model: the printing of all (made by wip/whole/m2.py) -/
set_option maxRecDepth 100000 in
theorem c_X8_printsAll {Z : ia_Z} {V : ia_H} {Q : ia_O → ia_Z → ia_H → Prop} {σ : Nat → Int} {μ : Nat → Int} {φ : Nat → Int} {ψ : Nat → Int} {ω : Nat → Int} {m : Int} (hZ : ZI Z) (hP : PI V) (hI : SI σ m) (h99 : V 99 = μ) (h100 : V 100 = σ) (h104 : V 104 = φ) (h105 : V 105 = ψ) (h108 : V 108 = ω) (hm : m + 1 ≤ 20000) (q1 : ∀ (V1 : ia_H), PI V1 → (V1 100 = s_all σ) → (∀ pp, pp ∉ ([100, 104, 105, 108] : List Nat) → V1 pp = V pp) → Q (.inl (some (0, (n_all σ)))) Z V1) : ia_K yX8_printsAll cX8_printsAll 5 (some .int) [(4, ((99 : Nat) : Int))] Z V 7 0 0 Q := by
  refine ia_start RX8 "printsAll" ⟨by decide, rfl, rfl⟩ (Nat.le_of_ble_eq_true rfl) (ia_tg rfl) (fun X F M => ?_)
  show ia_G X 0 0 0 [(4, ((99 : Nat) : Int)), (9, 0), (9, 0), (9, 0), (9, 0)] [] Z V
  obtain ⟨s0, s1, s2, s3, s4, s5, s6, s7, s18, sb, sw, se, sp⟩ := id hI
  refine ia_aload_n (pc := 0) F dX8_printsAll_0 rfl ?_
  refine jV (pc := 1) F 0 0 (z99 hZ) cls11.1 (c_X8_share hZ hP hI h99 h100 h105 (fun V_1 p_2 w_3 f_4 => ?_)) rfl ⟨k_X8_share, il_RX8_198, im_X8_share, is_X8_share, ii_RX8⟩ 0 rfl hd_X8_share ⟨by decide, by decide, by decide, by decide, Nat.le_of_ble_eq_true rfl⟩ dX8_printsAll_1
  refine j0 ?_
  refine ia_aload_n (pc := 4) F dX8_printsAll_4 rfl ?_
  refine jV (pc := 5) F 0 0 (z99 hZ) cls11.1 (c_X8_laysOrder hZ p_2 hI ((f_4 99 (by decide)).trans h99) ((f_4 100 (by decide)).trans h100) ((f_4 104 (by decide)).trans h104) ((f_4 108 (by decide)).trans h108) (fun f1_5 g_6 V_7 h_8 p_9 w_10 w_11 f_12 => ?_)) rfl ⟨k_X8_laysOrder, il_RX8_192, im_X8_laysOrder, is_X8_laysOrder, ii_RX8⟩ 0 rfl hd_X8_laysOrder ⟨by decide, by decide, by decide, by decide, Nat.le_of_ble_eq_true rfl⟩ dX8_printsAll_5
  refine j1 ?_
  have hol : (lin (opb σ (σ 0).toNat) (σ 0).toNat).length = (opm σ).length := by unfold opm; rw [mol_len]
  rw [hol]
  have hPH := all_PH hI hm
  have hl7 := hPH.len
  have hO0 := h_8
  rw [hol] at hO0
  refine ia_istore_n (pc := 8) F (ls' := [(4, ((99 : Nat) : Int)), (0, (((opm σ).length : Nat) : Int)), (9, 0), (9, 0), (9, 0)]) dX8_printsAll_8 (Nat.le_of_ble_eq_true rfl) rfl rfl ?_
  refine ia_iconst (pc := 9) F dX8_printsAll_9 ?_
  refine ia_istore_n (pc := 10) F (ls' := [(4, ((99 : Nat) : Int)), (0, (((opm σ).length : Nat) : Int)), (0, 0), (9, 0), (9, 0)]) dX8_printsAll_10 (Nat.le_of_ble_eq_true rfl) rfl rfl ?_
  refine ia_iconst (pc := 11) F dX8_printsAll_11 ?_
  refine ia_istore_n (pc := 12) F (ls' := [(4, ((99 : Nat) : Int)), (0, (((opm σ).length : Nat) : Int)), (0, 0), (0, 0), (9, 0)]) dX8_printsAll_12 (Nat.le_of_ble_eq_true rfl) rfl rfl ?_
  have L13 : ∀ (fu : Nat) (k : Nat) (a : Int) (g : Nat → Int) (V9 : ia_H), ((opm σ).length - k < fu) → (k ≤ (opm σ).length) → (a = pcn σ (shA σ) (opm σ) k) → (∀ i : Nat, i < (opm σ).length → g i = (((opm σ).getD i 0 : Nat) : Int)) → (PI V9) → (V9 100 = pst σ (shA σ) (opm σ) k) → (V9 105 = mgk 7 (shA σ) ψ) → (V9 108 = g) → (∀ pp, pp ∉ ([100, 104, 105, 108] : List Nat) → V9 pp = V pp) → ia_G X 0 0 13 [(4, ((99 : Nat) : Int)), (0, (((opm σ).length : Nat) : Int)), (0, a), (0, (k : Int)), (9, 0)] [] Z V9 := by
    intro fu
    induction fu with
    | zero => intro k a g V9 hm; exact absurd hm (Nat.not_lt_zero _)
    | succ fu ih =>
      intro k a g V9 hm hk ha hO hP9 w9_100 w9_105 w9_108 hF9
      have ih13 := ih
      refine ia_iload_n (pc := 13) F dX8_printsAll_13 rfl ?_
      refine ia_iload_n (pc := 14) F dX8_printsAll_14 rfl ?_
      refine ia_icmp_ge (pc := 15) F 70 dX8_printsAll_15 rfl (by omega) (by omega) (fun h_13 => ?_) (fun h_13 => ?_)
      · refine ia_iload_n (pc := 70) F dX8_printsAll_70 rfl ?_
        refine ia_ireturn (pc := 71) F M (by decide) (by decide) dX8_printsAll_71 ?_
        have ek : k = (opm σ).length := by omega
        subst ek
        subst ha
        exact q1 _ hP9 w9_100 hF9
      · refine ia_aload_n (pc := 18) F dX8_printsAll_18 rfl ?_
        refine jg (pc := 19) F (z99 hZ) cls11 f11_5 (hP9 99 5 105 rfl) il_RX8_25 dX8_printsAll_19 ?_
        refine ia_aload_n (pc := 22) F dX8_printsAll_22 rfl ?_
        refine jg (pc := 23) F (z99 hZ) cls11 f11_8 (hP9 99 8 108 rfl) il_RX8_34 dX8_printsAll_23 ?_
        refine ia_iload_n (pc := 26) F dX8_printsAll_26 rfl ?_
        refine ja (pc := 27) F (v := g k) (z108 hZ) k rfl (by omega) (congrFun w9_108 k) dX8_printsAll_27 ?_
        have hO2 := hO k (by omega)
        have hat := hPH.at_ k (by omega)
        obtain ⟨x, hx⟩ : ∃ x : Nat, (opm σ).getD k 0 = x := ⟨_, rfl⟩
        rw [hx] at hO2 hat
        rw [hO2]
        have hps : pcn σ (shA σ) (opm σ) (k + 1) = pcn σ (shA σ) (opm σ) k + pnn (pst σ (shA σ) (opm σ) k) x (shA σ x) := by rw [pcn_s, hx]
        have hpn : pnn (pst σ (shA σ) (opm σ) k) x (shA σ x) = min (shA σ x) (wel (pst σ (shA σ) (opm σ) k) (col (pst σ (shA σ) (opm σ) k) x).toNat) := rfl
        have hpz : pst σ (shA σ) (opm σ) (k + 1) = prn (pst σ (shA σ) (opm σ) k) x (shA σ x) := by rw [← hx]; rfl
        have hpc := pcn_rng hPH k (by omega)
        have hpc2 := hPH.sum k (by omega)
        have hpo := pst_ok hPH k (by omega)
        have hp0 := hpo.2.1
        have hsx := hPH.sh0 x
        have hsm := hPH.shm x hat
        have hsr := se x hat
        have hmi : miss σ x = run σ x - prt σ x := rfl
        have hpc3 := pcn_rng hPH (k + 1) (by omega)
        have hpc4 := hPH.sum (k + 1) (by omega)
        have hse2 := hpo.1.2.2.2.2.2.2.2.2.2.2.2.1 x (by omega)
        have hw2 := hpo.1.2.2.2.2.2.2.2.2.2.2.1 (col (pst σ (shA σ) (opm σ) k) x).toNat (by omega)
        refine ja (pc := 28) F (v := shA σ x) (z105 hZ) x rfl (by omega) ((congrFun w9_105 x).trans (mgk_lt (by omega))) dX8_printsAll_28 ?_
        refine ia_aload_n (pc := 29) F dX8_printsAll_29 rfl ?_
        refine ia_aload_n (pc := 30) F dX8_printsAll_30 rfl ?_
        refine jg (pc := 31) F (z99 hZ) cls11 f11_8 (hP9 99 8 108 rfl) il_RX8_34 dX8_printsAll_31 ?_
        refine ia_iload_n (pc := 34) F dX8_printsAll_34 rfl ?_
        refine ja (pc := 35) F (v := g k) (z108 hZ) k rfl (by omega) (congrFun w9_108 k) dX8_printsAll_35 ?_
        rw [hO2]
        refine jV (pc := 36) F 0 0 (z99 hZ) cls11.1 (c_X8_ofWell (x : Int) hZ hP9 hpo.1 ((hF9 99 (by decide)).trans h99) w9_100 (by omega) ?_) rfl ⟨k_X8_ofWell, il_RX8_159, im_X8_ofWell, is_X8_ofWell, ii_RX8⟩ 1 rfl hd_X8_ofWell ⟨by decide, by decide, by decide, by decide, Nat.le_of_ble_eq_true rfl⟩ dX8_printsAll_36
        change ia_ct X _ _ (36 + 3) _ _ _ (.inl (some (0, (wel (pst σ (shA σ) (opm σ) k) (col (pst σ (shA σ) (opm σ) k) x).toNat)))) _ _
        refine j1 ?_
        refine jS (pc := 39) F 0 0 (c_X8_less (shA σ x) (wel (pst σ (shA σ) (opm σ) k) (col (pst σ (shA σ) (opm σ) k) x).toNat) (by omega) (by omega) (fun h_14 => ?_) (fun h_15 => ?_)) rfl ⟨k_X8_less, il_RX8_162, it_X8_less, ii_RX8⟩ rfl 2 rfl hd_X8_less ⟨by decide, by decide, by decide, by decide, Nat.le_of_ble_eq_true rfl⟩ dX8_printsAll_39
        · refine j1 ?_
          refine ia_istore (pc := 42) F (ls' := [(4, ((99 : Nat) : Int)), (0, (((opm σ).length : Nat) : Int)), (0, a), (0, (k : Int)), (0, (shA σ x))]) dX8_printsAll_42 (Nat.le_of_ble_eq_true rfl) rfl rfl ?_
          refine ia_iload (pc := 44) F dX8_printsAll_44 rfl ?_
          refine ia_if_le (pc := 46) F 64 dX8_printsAll_46 rfl (by omega) (fun h_16 => ?_) (fun h_16 => ?_)
          · refine ia_iinc (pc := 64) F (ls' := [(4, ((99 : Nat) : Int)), (0, (((opm σ).length : Nat) : Int)), (0, a), (0, ((k + 1 : Nat) : Int)), (0, (shA σ x))]) dX8_printsAll_64 rfl rfl rfl rfl ?_
            refine ia_goto (pc := 67) F 13 dX8_printsAll_67 rfl ?_
            refine jw (ls' := [(4, ((99 : Nat) : Int)), (0, (((opm σ).length : Nat) : Int)), (0, a), (0, ((k + 1 : Nat) : Int)), (9, 0)]) [false, false, false, false, true] rfl ?_
            exact ih13 (k + 1) a g _ (by omega) (by omega) (by omega) hO hP9 (w9_100.trans (by first | (rw [hpz, prn_0 (by omega)]) | (rw [hpz, prn_1 (n := shA σ x) (by omega) (by omega)]; rfl) | (rw [hpz, prn_1 (n := wel (pst σ (shA σ) (opm σ) k) (col (pst σ (shA σ) (opm σ) k) x).toNat) (by omega) (by omega)]; rfl))) w9_105 w9_108 hF9
          · refine ia_iload_n (pc := 49) F dX8_printsAll_49 rfl ?_
            refine ia_aload_n (pc := 50) F dX8_printsAll_50 rfl ?_
            refine ia_aload_n (pc := 51) F dX8_printsAll_51 rfl ?_
            refine jg (pc := 52) F (z99 hZ) cls11 f11_8 (hP9 99 8 108 rfl) il_RX8_34 dX8_printsAll_52 ?_
            refine ia_iload_n (pc := 55) F dX8_printsAll_55 rfl ?_
            refine ja (pc := 56) F (v := g k) (z108 hZ) k rfl (by omega) (congrFun w9_108 k) dX8_printsAll_56 ?_
            rw [hO2]
            refine ia_iload (pc := 57) F dX8_printsAll_57 rfl ?_
            refine jV (pc := 59) F 0 0 (z99 hZ) cls11.1 (c_X8_prints (x : Int) (shA σ x) hZ hP9 hpo.1 ((hF9 99 (by decide)).trans h99) w9_100 (by omega) (fun V_17 p_18 w_19 f_20 => ?_)) rfl ⟨k_X8_prints, il_RX8_165, im_X8_prints, is_X8_prints, ii_RX8⟩ 2 rfl hd_X8_prints ⟨by decide, by decide, by decide, by decide, Nat.le_of_ble_eq_true rfl⟩ dX8_printsAll_59
            refine j1 ?_
            refine ia_iadd (pc := 62) F dX8_printsAll_62 ?_
            refine ia_istore_n (pc := 63) F (ls' := [(4, ((99 : Nat) : Int)), (0, (((opm σ).length : Nat) : Int)), (0, (a + (shA σ x))), (0, (k : Int)), (0, (shA σ x))]) dX8_printsAll_63 (Nat.le_of_ble_eq_true rfl) rfl rfl ?_
            refine ia_iinc (pc := 64) F (ls' := [(4, ((99 : Nat) : Int)), (0, (((opm σ).length : Nat) : Int)), (0, (a + (shA σ x))), (0, ((k + 1 : Nat) : Int)), (0, (shA σ x))]) dX8_printsAll_64 rfl rfl rfl rfl ?_
            refine ia_goto (pc := 67) F 13 dX8_printsAll_67 rfl ?_
            refine jw (ls' := [(4, ((99 : Nat) : Int)), (0, (((opm σ).length : Nat) : Int)), (0, (a + (shA σ x))), (0, ((k + 1 : Nat) : Int)), (9, 0)]) [false, false, false, false, true] rfl ?_
            exact ih13 (k + 1) (a + (shA σ x)) g _ (by omega) (by omega) (by omega) hO p_18 (w_19.trans (by first | (rw [hpz, prn_0 (by omega)]) | (rw [hpz, prn_1 (n := shA σ x) (by omega) (by omega)]; rfl) | (rw [hpz, prn_1 (n := wel (pst σ (shA σ) (opm σ) k) (col (pst σ (shA σ) (opm σ) k) x).toNat) (by omega) (by omega)]; rfl))) ((f_20 105 (by decide)).trans w9_105) ((f_20 108 (by decide)).trans w9_108) (Fr_c hF9 f_20 (by decide))
        · refine j1 ?_
          refine ia_istore (pc := 42) F (ls' := [(4, ((99 : Nat) : Int)), (0, (((opm σ).length : Nat) : Int)), (0, a), (0, (k : Int)), (0, (wel (pst σ (shA σ) (opm σ) k) (col (pst σ (shA σ) (opm σ) k) x).toNat))]) dX8_printsAll_42 (Nat.le_of_ble_eq_true rfl) rfl rfl ?_
          refine ia_iload (pc := 44) F dX8_printsAll_44 rfl ?_
          refine ia_if_le (pc := 46) F 64 dX8_printsAll_46 rfl (by omega) (fun h_21 => ?_) (fun h_21 => ?_)
          · refine ia_iinc (pc := 64) F (ls' := [(4, ((99 : Nat) : Int)), (0, (((opm σ).length : Nat) : Int)), (0, a), (0, ((k + 1 : Nat) : Int)), (0, (wel (pst σ (shA σ) (opm σ) k) (col (pst σ (shA σ) (opm σ) k) x).toNat))]) dX8_printsAll_64 rfl rfl rfl rfl ?_
            refine ia_goto (pc := 67) F 13 dX8_printsAll_67 rfl ?_
            refine jw (ls' := [(4, ((99 : Nat) : Int)), (0, (((opm σ).length : Nat) : Int)), (0, a), (0, ((k + 1 : Nat) : Int)), (9, 0)]) [false, false, false, false, true] rfl ?_
            exact ih13 (k + 1) a g _ (by omega) (by omega) (by omega) hO hP9 (w9_100.trans (by first | (rw [hpz, prn_0 (by omega)]) | (rw [hpz, prn_1 (n := shA σ x) (by omega) (by omega)]; rfl) | (rw [hpz, prn_1 (n := wel (pst σ (shA σ) (opm σ) k) (col (pst σ (shA σ) (opm σ) k) x).toNat) (by omega) (by omega)]; rfl))) w9_105 w9_108 hF9
          · refine ia_iload_n (pc := 49) F dX8_printsAll_49 rfl ?_
            refine ia_aload_n (pc := 50) F dX8_printsAll_50 rfl ?_
            refine ia_aload_n (pc := 51) F dX8_printsAll_51 rfl ?_
            refine jg (pc := 52) F (z99 hZ) cls11 f11_8 (hP9 99 8 108 rfl) il_RX8_34 dX8_printsAll_52 ?_
            refine ia_iload_n (pc := 55) F dX8_printsAll_55 rfl ?_
            refine ja (pc := 56) F (v := g k) (z108 hZ) k rfl (by omega) (congrFun w9_108 k) dX8_printsAll_56 ?_
            rw [hO2]
            refine ia_iload (pc := 57) F dX8_printsAll_57 rfl ?_
            refine jV (pc := 59) F 0 0 (z99 hZ) cls11.1 (c_X8_prints (x : Int) (wel (pst σ (shA σ) (opm σ) k) (col (pst σ (shA σ) (opm σ) k) x).toNat) hZ hP9 hpo.1 ((hF9 99 (by decide)).trans h99) w9_100 (by omega) (fun V_22 p_23 w_24 f_25 => ?_)) rfl ⟨k_X8_prints, il_RX8_165, im_X8_prints, is_X8_prints, ii_RX8⟩ 2 rfl hd_X8_prints ⟨by decide, by decide, by decide, by decide, Nat.le_of_ble_eq_true rfl⟩ dX8_printsAll_59
            refine j1 ?_
            refine ia_iadd (pc := 62) F dX8_printsAll_62 ?_
            refine ia_istore_n (pc := 63) F (ls' := [(4, ((99 : Nat) : Int)), (0, (((opm σ).length : Nat) : Int)), (0, (a + (wel (pst σ (shA σ) (opm σ) k) (col (pst σ (shA σ) (opm σ) k) x).toNat))), (0, (k : Int)), (0, (wel (pst σ (shA σ) (opm σ) k) (col (pst σ (shA σ) (opm σ) k) x).toNat))]) dX8_printsAll_63 (Nat.le_of_ble_eq_true rfl) rfl rfl ?_
            refine ia_iinc (pc := 64) F (ls' := [(4, ((99 : Nat) : Int)), (0, (((opm σ).length : Nat) : Int)), (0, (a + (wel (pst σ (shA σ) (opm σ) k) (col (pst σ (shA σ) (opm σ) k) x).toNat))), (0, ((k + 1 : Nat) : Int)), (0, (wel (pst σ (shA σ) (opm σ) k) (col (pst σ (shA σ) (opm σ) k) x).toNat))]) dX8_printsAll_64 rfl rfl rfl rfl ?_
            refine ia_goto (pc := 67) F 13 dX8_printsAll_67 rfl ?_
            refine jw (ls' := [(4, ((99 : Nat) : Int)), (0, (((opm σ).length : Nat) : Int)), (0, (a + (wel (pst σ (shA σ) (opm σ) k) (col (pst σ (shA σ) (opm σ) k) x).toNat))), (0, ((k + 1 : Nat) : Int)), (9, 0)]) [false, false, false, false, true] rfl ?_
            exact ih13 (k + 1) (a + (wel (pst σ (shA σ) (opm σ) k) (col (pst σ (shA σ) (opm σ) k) x).toNat)) g _ (by omega) (by omega) (by omega) hO p_23 (w_24.trans (by first | (rw [hpz, prn_0 (by omega)]) | (rw [hpz, prn_1 (n := shA σ x) (by omega) (by omega)]; rfl) | (rw [hpz, prn_1 (n := wel (pst σ (shA σ) (opm σ) k) (col (pst σ (shA σ) (opm σ) k) x).toNat) (by omega) (by omega)]; rfl))) ((f_25 105 (by decide)).trans w9_105) ((f_25 108 (by decide)).trans w9_108) (Fr_c hF9 f_25 (by decide))
  exact L13 ((opm σ).length + 1) 0 0 g_6 _ (by omega) (by omega) rfl (fun i hi => (hO0 i hi).trans rfl) p_9 ((f_12 100 (by decide)).trans ((f_4 100 (by decide)).trans h100)) ((f_12 105 (by decide)).trans w_3) w_11 (Fr_c (Fr_c (Fr_0 (V := V) (S := [100, 104, 105, 108])) f_4 (by decide)) f_12 (by decide))
