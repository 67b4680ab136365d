/-! the class: the printing of all (made by wip/whole/c2.py) -/
set_option maxRecDepth 100000 in
theorem c_X7_printOpenEditions {Z : ia_Z} {V : ia_H} {Q : ia_O → ia_Z → ia_H → Prop} {σ : Nat → Int} {ρ : Nat → Int} {α1 : Nat → Int} {α2 : Nat → Int} {α3 : Nat → Int} {α4 : Nat → Int} {δ : Nat → Int} {m : Int} (hZ : ZI Z) (hP : PI V) (hS : Sh 1 V σ) (hI : SI σ m) (h80 : V 80 = ρ) (h81 : V 81 = α1) (h82 : V 82 = α2) (h83 : V 83 = α3) (h84 : V 84 = α4) (h86 : V 86 = δ) (hm : m + 1 ≤ 20000) (q1 : ∀ (V1 : ia_H), PI V1 → (∀ pp, pp ∉ ([1, 2, 3, 4, 5, 6, 7, 80, 81, 82, 83, 84, 86] : List Nat) → V1 pp = V pp) → (Sh 1 V1 (s_all σ)) → Q (.inl (some (0, (n_all σ)))) Z V1) : ia_K yX7_printOpenEditions cX7_printOpenEditions 4 (some .int) [(4, ((0 : Nat) : Int))] Z V 6 0 0 Q := by
  refine ia_start RX7 "printOpenEditions" ⟨by decide, rfl, rfl⟩ (Nat.le_of_ble_eq_true rfl) (ia_tg rfl) (fun X F M => ?_)
  show ia_G X 0 0 0 [(4, ((0 : Nat) : Int)), (9, 0), (9, 0), (9, 0)] [] Z V
  obtain ⟨s0, s1, s2, s3, s4, s5, s6, s7, s18, sb, sw, se, sp⟩ := id hI
  refine ia_aload_n (pc := 0) F dX7_printOpenEditions_0 rfl ?_
  refine jg (pc := 1) F (z0 hZ) cls10 f10_3 (hP 0 3 80 rfl) il_RX7_29 dX7_printOpenEditions_1 ?_
  refine ia_aload_n (pc := 4) F dX7_printOpenEditions_4 rfl ?_
  refine jg (pc := 5) F (z0 hZ) cls10 f10_0 (hP 0 0 1 rfl) il_RX7_12 dX7_printOpenEditions_5 ?_
  refine jV (pc := 8) F 0 0 (z80 hZ) cls4.1 (c_X0_find hZ hP hS hI h80 h81 h82 h83 h84 (fun V_1 p_2 f_3 x_4 x_5 x_6 => ?_)) rfl ⟨k_X0_find, il_RX7_160, im_X0_find, is_X0_find, ii_RX0⟩ 1 rfl hd_X0_find ⟨by decide, by decide, by decide, by decide, Nat.le_of_ble_eq_true rfl⟩ dX7_printOpenEditions_8
  refine j0 ?_
  have x4 := x_4
  have xo := x_6
  have hol := opm_len (σ := σ) (by omega)
  have hPH := all_PH hI hm
  have hl7 := hPH.len
  refine ia_aload_n (pc := 11) F dX7_printOpenEditions_11 rfl ?_
  refine jg (pc := 12) F (z0 hZ) cls10 f10_4 (p_2 0 4 85 rfl) il_RX7_36 dX7_printOpenEditions_12 ?_
  refine ia_aload_n (pc := 15) F dX7_printOpenEditions_15 rfl ?_
  refine jg (pc := 16) F (z0 hZ) cls10 f10_0 (p_2 0 0 1 rfl) il_RX7_12 dX7_printOpenEditions_16 ?_
  refine jV (pc := 19) F 0 0 (z85 hZ) cls8.1 (c_X5_dealSheetBySheet hZ p_2 (Sh_fr hS f_3 (by decide)) hI ((f_3 86 (by decide)).trans h86) (fun V_7 p_8 w_9 f_10 => ?_)) rfl ⟨k_X5_dealSheetBySheet, il_RX7_180, im_X5_dealSheetBySheet, is_X5_dealSheetBySheet, ii_RX5⟩ 1 rfl hd_X5_dealSheetBySheet ⟨by decide, by decide, by decide, by decide, Nat.le_of_ble_eq_true rfl⟩ dX7_printOpenEditions_19
  refine j0 ?_
  refine ia_iconst (pc := 22) F dX7_printOpenEditions_22 ?_
  refine ia_istore_n (pc := 23) F (ls' := [(4, ((0 : Nat) : Int)), (0, 0), (9, 0), (9, 0)]) dX7_printOpenEditions_23 (Nat.le_of_ble_eq_true rfl) rfl rfl ?_
  refine ia_iconst (pc := 24) F dX7_printOpenEditions_24 ?_
  refine ia_istore_n (pc := 25) F (ls' := [(4, ((0 : Nat) : Int)), (0, 0), (0, 0), (9, 0)]) dX7_printOpenEditions_25 (Nat.le_of_ble_eq_true rfl) rfl rfl ?_
  have L26 : ∀ (fu : Nat) (k : Nat) (a : Int) (R8 R4 : Nat → Int) (V9 : ia_H), ((opm σ).length - k < fu) → (k ≤ (opm σ).length) → (a = pcn σ (shA σ) (opm σ) k) → (R8 4 = (((opm σ).length : Nat) : Int)) → (∀ i : Nat, i < (opm σ).length → R4 i = (((opm σ).getD i 0 : Nat) : Int)) → (PI V9) → (V9 80 = R8) → (V9 84 = R4) → (V9 86 = mgk 7 (shA σ) δ) → (∀ pp, pp ∉ ([1, 2, 3, 4, 5, 6, 7, 80, 81, 82, 83, 84, 86] : List Nat) → V9 pp = V pp) → (Sh 1 V9 (pst σ (shA σ) (opm σ) k)) → ia_G X 0 0 26 [(4, ((0 : Nat) : Int)), (0, a), (0, (k : Int)), (9, 0)] [] Z V9 := by
    intro fu
    induction fu with
    | zero => intro k a R8 R4 V9 hm; exact absurd hm (Nat.not_lt_zero _)
    | succ fu ih =>
      intro k a R8 R4 V9 hm hk ha h8 hO hP9 w9_80 w9_84 w9_86 hF9 hS9
      have ih26 := ih
      refine ia_iload_n (pc := 26) F dX7_printOpenEditions_26 rfl ?_
      refine ia_aload_n (pc := 27) F dX7_printOpenEditions_27 rfl ?_
      refine jg (pc := 28) F (z0 hZ) cls10 f10_3 (hP9 0 3 80 rfl) il_RX7_29 dX7_printOpenEditions_28 ?_
      refine jg (pc := 31) F (x := (((opm σ).length : Nat) : Int)) (z80 hZ) cls4 f4_4 ((congrFun w9_80 4).trans h8) il_RX7_171 dX7_printOpenEditions_31 ?_
      refine ia_icmp_ge (pc := 34) F 73 dX7_printOpenEditions_34 rfl (by omega) (by omega) (fun h_11 => ?_) (fun h_11 => ?_)
      · refine ia_iload_n (pc := 73) F dX7_printOpenEditions_73 rfl ?_
        refine ia_ireturn (pc := 74) F M (by decide) (by decide) dX7_printOpenEditions_74 ?_
        have ek : k = (opm σ).length := by omega
        subst ek
        subst ha
        exact q1 _ hP9 hF9 hS9
      · refine ia_aload_n (pc := 37) F dX7_printOpenEditions_37 rfl ?_
        refine jg (pc := 38) F (z0 hZ) cls10 f10_3 (hP9 0 3 80 rfl) il_RX7_29 dX7_printOpenEditions_38 ?_
        refine jg (pc := 41) F (z80 hZ) cls4 f4_3 (hP9 80 3 84 rfl) il_RX7_177 dX7_printOpenEditions_41 ?_
        refine ia_iload_n (pc := 44) F dX7_printOpenEditions_44 rfl ?_
        refine ja (pc := 45) F (v := R4 k) (z84 hZ) k rfl (by omega) (congrFun w9_84 k) dX7_printOpenEditions_45 ?_
        have hO2 := hO k (by omega)
        have hat := hPH.at_ k (by omega)
        obtain ⟨x, hx⟩ : ∃ x : Nat, (opm σ).getD k 0 = x := ⟨_, rfl⟩
        rw [hx] at hO2 hat
        rw [hO2]
        have hps : pcn σ (shA σ) (opm σ) (k + 1) = pcn σ (shA σ) (opm σ) k + pnn (pst σ (shA σ) (opm σ) k) x (shA σ x) := by rw [pcn_s, hx]
        have hpn : pnn (pst σ (shA σ) (opm σ) k) x (shA σ x) = min (shA σ x) (wel (pst σ (shA σ) (opm σ) k) (col (pst σ (shA σ) (opm σ) k) x).toNat) := rfl
        have hpz : pst σ (shA σ) (opm σ) (k + 1) = prn (pst σ (shA σ) (opm σ) k) x (shA σ x) := by rw [← hx]; rfl
        have hpc := pcn_rng hPH k (by omega)
        have hpc2 := hPH.sum k (by omega)
        have hpo := pst_ok hPH k (by omega)
        have hp0 := hpo.2.1
        have hsx := hPH.sh0 x
        have hsm := hPH.shm x hat
        have hsr := se x hat
        have hmi : miss σ x = run σ x - prt σ x := rfl
        have hpc3 := pcn_rng hPH (k + 1) (by omega)
        have hpc4 := hPH.sum (k + 1) (by omega)
        refine ia_istore_n (pc := 46) F (ls' := [(4, ((0 : Nat) : Int)), (0, a), (0, (k : Int)), (0, (x : Int))]) dX7_printOpenEditions_46 (Nat.le_of_ble_eq_true rfl) rfl rfl ?_
        refine ia_iload_n (pc := 47) F dX7_printOpenEditions_47 rfl ?_
        refine ia_aload_n (pc := 48) F dX7_printOpenEditions_48 rfl ?_
        refine jg (pc := 49) F (z0 hZ) cls10 f10_0 (hP9 0 0 1 rfl) il_RX7_12 dX7_printOpenEditions_49 ?_
        refine ia_iload_n (pc := 52) F dX7_printOpenEditions_52 rfl ?_
        refine ia_aload_n (pc := 53) F dX7_printOpenEditions_53 rfl ?_
        refine jg (pc := 54) F (z0 hZ) cls10 f10_4 (hP9 0 4 85 rfl) il_RX7_36 dX7_printOpenEditions_54 ?_
        refine jg (pc := 57) F (z85 hZ) cls8 f8_0 (hP9 85 0 86 rfl) il_RX7_183 dX7_printOpenEditions_57 ?_
        refine ia_iload_n (pc := 60) F dX7_printOpenEditions_60 rfl ?_
        refine ja (pc := 61) F (v := shA σ x) (z86 hZ) x rfl (by omega) ((congrFun w9_86 x).trans (mgk_lt (by omega))) dX7_printOpenEditions_61 ?_
        refine jV (pc := 62) F 0 0 (z1 hZ) cls9.1 (c_X6_printUpTo (x : Int) (shA σ x) hZ hP9 hS9 hpo.1 (by omega) (by omega) (fun h_12 => ?_) (fun n_13 V_14 h_15 h_16 p_17 f_18 x_19 => ?_)) rfl ⟨k_X6_printUpTo, il_RX7_379, im_X6_printUpTo, is_X6_printUpTo, ii_RX6⟩ 2 rfl hd_X6_printUpTo ⟨by decide, by decide, by decide, by decide, Nat.le_of_ble_eq_true rfl⟩ dX7_printOpenEditions_62
        · have h_12 : min (shA σ x) (wel (pst σ (shA σ) (opm σ) k) (col (pst σ (shA σ) (opm σ) k) x).toNat) = 0 := h_12
          refine j1 ?_
          refine ia_iadd (pc := 65) F dX7_printOpenEditions_65 ?_
          refine ia_istore_n (pc := 66) F (ls' := [(4, ((0 : Nat) : Int)), (0, (a + 0)), (0, (k : Int)), (0, (x : Int))]) dX7_printOpenEditions_66 (Nat.le_of_ble_eq_true rfl) rfl rfl ?_
          refine ia_iinc (pc := 67) F (ls' := [(4, ((0 : Nat) : Int)), (0, (a + 0)), (0, ((k + 1 : Nat) : Int)), (0, (x : Int))]) dX7_printOpenEditions_67 rfl rfl rfl rfl ?_
          refine ia_goto (pc := 70) F 26 dX7_printOpenEditions_70 rfl ?_
          refine jw (ls' := [(4, ((0 : Nat) : Int)), (0, (a + 0)), (0, ((k + 1 : Nat) : Int)), (9, 0)]) [false, false, false, true] rfl ?_
          exact ih26 (k + 1) (a + 0) R8 R4 _ (by omega) (by omega) (by omega) h8 hO hP9 w9_80 w9_84 w9_86 hF9 (by first | (rw [hpz, prn_0 (by omega)]; exact hS9) | (rw [hpz, prn_1 (n := 0) (by omega) (by omega)]; exact hS9))
        · have h_16 : n_13 = min (shA σ x) (wel (pst σ (shA σ) (opm σ) k) (col (pst σ (shA σ) (opm σ) k) x).toNat) := h_16
          refine j1 ?_
          refine ia_iadd (pc := 65) F dX7_printOpenEditions_65 ?_
          refine ia_istore_n (pc := 66) F (ls' := [(4, ((0 : Nat) : Int)), (0, (a + n_13)), (0, (k : Int)), (0, (x : Int))]) dX7_printOpenEditions_66 (Nat.le_of_ble_eq_true rfl) rfl rfl ?_
          refine ia_iinc (pc := 67) F (ls' := [(4, ((0 : Nat) : Int)), (0, (a + n_13)), (0, ((k + 1 : Nat) : Int)), (0, (x : Int))]) dX7_printOpenEditions_67 rfl rfl rfl rfl ?_
          refine ia_goto (pc := 70) F 26 dX7_printOpenEditions_70 rfl ?_
          refine jw (ls' := [(4, ((0 : Nat) : Int)), (0, (a + n_13)), (0, ((k + 1 : Nat) : Int)), (9, 0)]) [false, false, false, true] rfl ?_
          exact ih26 (k + 1) (a + n_13) R8 R4 _ (by omega) (by omega) (by omega) h8 hO p_17 ((f_18 80 (by decide)).trans w9_80) ((f_18 84 (by decide)).trans w9_84) ((f_18 86 (by decide)).trans w9_86) (Fr_c hF9 f_18 (by decide)) (by first | (rw [hpz, prn_0 (by omega)]; exact x_19) | (rw [hpz, prn_1 (n := n_13) (by omega) (by omega)]; exact x_19))
  exact L26 ((opm σ).length + 1) 0 0 (V_1 80) (V_1 84) _ (by omega) (by omega) rfl (by rw [hol]; exact x4) (fun i hi => (xo i (by omega)).trans (ord_at (by omega) (by omega))) p_8 ((f_10 80 (by decide)).trans (rfl : V_1 80 = V_1 80)) ((f_10 84 (by decide)).trans (rfl : V_1 84 = V_1 84)) w_9 (Fr_c (Fr_c (Fr_0 (V := V) (S := [1, 2, 3, 4, 5, 6, 7, 80, 81, 82, 83, 84, 86])) f_3 (by decide)) f_10 (by decide)) (Sh_fr (Sh_fr hS f_3 (by decide)) f_10 (by decide))
