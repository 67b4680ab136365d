/-! x -/
set_option maxRecDepth 100000 in
set_option maxHeartbeats 2000000 in
set_option linter.constructorNameAsVariable false in
theorem lcs_41 {X : ia_X} {cells slots LX ix jj : Nat} {xs : Nat → Int32} {Z : ia_Z} {V : ia_H} (F : ia_Fix X RL cL_law 9 20 20000 3600000) (hX : LSc X LX xs) (hi : ix + 2 < LX ∧ LX ≤ 1536) (hJ : LvI jj Z V) (hj : jj < 512) (hc : cells + 30 ≤ 20000 ∧ slots + 7000 ≤ 3600000) (kk : ∀ (Z9 : ia_Z) (V9 : ia_H), LvI (jj + 1) Z9 V9 → ia_G X (cells + 30) (slots + 7000) 2404 [(4, ((ia_E0 + 400 : Nat) : Int)), (4, ((0 : Nat) : Int)), (4, ((99 : Nat) : Int)), (4, ((114 : Nat) : Int)), (4, ((115 : Nat) : Int)), (0, (ix : Int)), (9, 0), (9, 0), (9, 0)] [] Z9 V9) : ia_G X cells slots 1975 [(4, ((ia_E0 + 400 : Nat) : Int)), (4, ((0 : Nat) : Int)), (4, ((99 : Nat) : Int)), (4, ((114 : Nat) : Int)), (4, ((115 : Nat) : Int)), (0, (ix : Int)), (9, 0), (9, 0), (9, 0)] [] Z V := by
  obtain ⟨⟨hZ, hP, hz, hj2⟩, ⟨hB1, hB2⟩, hC, hD, hE, ⟨nT, qT, lT, hn6, h20, hT⟩, ⟨nU, qU, lU, hn7, h15, hU⟩, hne⟩ := id hJ
  obtain ⟨s0, s1, s2, s3, s4, s5, s6, s7, s18, sb, sw, se, sp⟩ := id hB2
  have hχ := hC.1
  have hd : 0 ≤ V 99 10 ∧ V 99 10 ≤ 8 := by have := hC.2.1; omega
  have hd1 := hC.2.1
  have h7 : (V 100 0).toNat ≤ 7 := by omega
  obtain ⟨e, ea0⟩ : ∃ y : Int, (xs (ix + 1)).toInt = y := ⟨_, rfl⟩
  have ra0 := i32_rng (xs (ix + 1))
  rw [ea0] at ra0
  refine ia_aload_n (pc := 1975) F dL_law_1975 rfl ?_
  refine ia_aload_n (pc := 1976) F dL_law_1976 rfl ?_
  refine ia_iload (pc := 1977) F dL_law_1977 rfl ?_
  refine ia_iconst (pc := 1979) F dL_law_1979 ?_
  refine ia_iadd (pc := 1980) F dL_law_1980 ?_
  refine ia_sl (pc := 1981) F hX (ix + 1) (by omega) ⟨by omega, hi.2⟩ ea0 dL_law_1981 ?_
  refine ia_aload_n (pc := 1982) F dL_law_1982 rfl ?_
  refine jSH (pc := 1983) F (h_writeEdition e nU qU lU (V 109) (V 109) hZ hP hB1 hB2 (by omega) hU (by omega) (fun Z1 V1 rq1 rL1 c0 c1 c2 => ?_) (fun c0 => ?_)) rfl ⟨k_L_writeEdition, il_RL_280, it_L_writeEdition, ii_RL⟩ 3 rfl hd_L_writeEdition ⟨by decide, by decide, by omega, by omega, Nat.le_of_ble_eq_true rfl⟩ dL_law_1983
  · refine j1 ?_
    obtain ⟨hZ1, hP1, hz1, k4⟩ := LvI_bx hJ hj (Or.inr rfl) c2 (by decide)
    refine ia_istore (pc := 1986) F (ls' := [(4, ((ia_E0 + 400 : Nat) : Int)), (4, ((0 : Nat) : Int)), (4, ((99 : Nat) : Int)), (4, ((114 : Nat) : Int)), (4, ((115 : Nat) : Int)), (0, (ix : Int)), (0, 0), (9, 0), (9, 0)]) dL_law_1986 (Nat.le_of_ble_eq_true rfl) rfl rfl ?_
    refine ia_aload_n (pc := 1988) F dL_law_1988 rfl ?_
    refine ia_aload_n (pc := 1989) F dL_law_1989 rfl ?_
    refine ia_iload (pc := 1990) F dL_law_1990 rfl ?_
    refine ia_iconst (pc := 1992) F dL_law_1992 ?_
    refine ia_iadd (pc := 1993) F dL_law_1993 ?_
    refine ia_sl (pc := 1994) F hX (ix + 1) (by omega) ⟨by omega, hi.2⟩ ea0 dL_law_1994 ?_
    refine jV (pc := 1995) F 0 0 (z99 hZ1) cls11.1 (c_X8_writeEdition e hZ1 (PI_u hP1 rfl) hB2 ((rowN (by decide)).trans (k4 99 (by decide) (by decide))) ((rowN (by decide)).trans (k4 100 (by decide) (by decide))) ((rowN (by decide)).trans (k4 109 (by decide) (by decide))) (by omega) (fun V2 d0 p2 y99 y109 f2 => ?_) (fun V2 d0 p2 y99 y109 f2 => ?_)) rfl ⟨k_X8_writeEdition, il_RL_282, im_X8_writeEdition, is_X8_writeEdition, ii_RX8⟩ 1 rfl hd_X8_writeEdition ⟨by decide, by decide, by omega, by omega, Nat.le_of_ble_eq_true rfl⟩ dL_law_1995
    · refine j1 ?_
      refine ia_istore (pc := 1998) F (ls' := [(4, ((ia_E0 + 400 : Nat) : Int)), (4, ((0 : Nat) : Int)), (4, ((99 : Nat) : Int)), (4, ((114 : Nat) : Int)), (4, ((115 : Nat) : Int)), (0, (ix : Int)), (0, 0), (0, ((ln_en (V 100) e : Nat) : Int)), (9, 0)]) dL_law_1998 (Nat.le_of_ble_eq_true rfl) rfl rfl ?_
      refine ia_aload_n (pc := 2000) F dL_law_2000 rfl ?_
      refine jV (pc := 2001) F 0 0 (z99 hZ1) cls11.1 (c_X8_thrown hZ1 p2 rfl rfl ?_) rfl ⟨k_X8_thrown, il_RL_138, im_X8_thrown, is_X8_thrown, ii_RX8⟩ 0 rfl hd_X8_thrown ⟨by decide, by decide, by omega, by omega, Nat.le_of_ble_eq_true rfl⟩ dL_law_2001
      refine j1 ?_
      refine ia_iload (pc := 2004) F dL_law_2004 rfl ?_
      refine lq_icmp (pc := 2006) F 2011 dL_law_2006 rfl (by rw [y99]; simp [up]) ?_
      refine ia_iload (pc := 2011) F dL_law_2011 rfl ?_
      refine lq_ifz (pc := 2013) F dL_law_2013 2028 rfl ?_
      refine ia_aload_n (pc := 2016) F dL_law_2016 rfl ?_
      refine ia_iconst (pc := 2017) F dL_law_2017 ?_
      refine jal (pc := 2018) F (z114 hZ1) 0 rfl (by decide) ((congrFun (f2 114 (by decide)) 0).trans (ia_u_self _ _ _ _)) dL_law_2018 ?_
      refine ia_iload (pc := 2019) F dL_law_2019 rfl ?_
      have r9 := ln_en_le (σ := V 100) (e := e)
      have e9 : ((ln_en (V 100) e : Nat) : Int) = ((ln_en (V 100) e : Nat) : Int) := rfl
      refine ia_i2lr (pc := 2021) F dL_law_2021 (by omega) ?_
      refine lq_lcmp (pc := 2022) F dL_law_2022 e9 ?_
      refine lq_if0 (pc := 2023) F 2028 dL_law_2023 rfl ?_
      refine ia_goto (pc := 2028) F 2404 dL_law_2028 rfl ?_
      refine jw [false, false, false, false, false, false, true, true, true] rfl ?_
      refine lq_wid (c2 := cells + 30) (s2 := slots + 7000) (by omega) (by omega) ?_
      exact kk _ _ (LvI_line hJ hj c2 (by decide) c1 (by have := ln_en_le (σ := V 100) (e := e); omega) p2 (fun p hp => (f2 p (nsub hp (by decide))).trans (rowN (nne hp (by decide)))) y109 (by rw [y99, up_self]) (fun z h9 h8 => by rw [y99]; simp only [up, if_neg h9, if_neg h8]))
    · exfalso; omega
  · refine j1 ?_
    refine ia_istore (pc := 1986) F (ls' := [(4, ((ia_E0 + 400 : Nat) : Int)), (4, ((0 : Nat) : Int)), (4, ((99 : Nat) : Int)), (4, ((114 : Nat) : Int)), (4, ((115 : Nat) : Int)), (0, (ix : Int)), (0, 1), (9, 0), (9, 0)]) dL_law_1986 (Nat.le_of_ble_eq_true rfl) rfl rfl ?_
    refine ia_aload_n (pc := 1988) F dL_law_1988 rfl ?_
    refine ia_aload_n (pc := 1989) F dL_law_1989 rfl ?_
    refine ia_iload (pc := 1990) F dL_law_1990 rfl ?_
    refine ia_iconst (pc := 1992) F dL_law_1992 ?_
    refine ia_iadd (pc := 1993) F dL_law_1993 ?_
    refine ia_sl (pc := 1994) F hX (ix + 1) (by omega) ⟨by omega, hi.2⟩ ea0 dL_law_1994 ?_
    refine jV (pc := 1995) F 0 0 (z99 hZ) cls11.1 (c_X8_writeEdition e hZ hP hB2 rfl rfl rfl (by omega) (fun V2 d0 p2 y99 y109 f2 => ?_) (fun V2 d0 p2 y99 y109 f2 => ?_)) rfl ⟨k_X8_writeEdition, il_RL_282, im_X8_writeEdition, is_X8_writeEdition, ii_RX8⟩ 1 rfl hd_X8_writeEdition ⟨by decide, by decide, by omega, by omega, Nat.le_of_ble_eq_true rfl⟩ dL_law_1995
    · exfalso; omega
    · refine j1 ?_
      refine ia_istore (pc := 1998) F (ls' := [(4, ((ia_E0 + 400 : Nat) : Int)), (4, ((0 : Nat) : Int)), (4, ((99 : Nat) : Int)), (4, ((114 : Nat) : Int)), (4, ((115 : Nat) : Int)), (0, (ix : Int)), (0, 1), (0, 0), (9, 0)]) dL_law_1998 (Nat.le_of_ble_eq_true rfl) rfl rfl ?_
      refine ia_aload_n (pc := 2000) F dL_law_2000 rfl ?_
      refine jV (pc := 2001) F 0 0 (z99 hZ) cls11.1 (c_X8_thrown hZ p2 rfl rfl ?_) rfl ⟨k_X8_thrown, il_RL_138, im_X8_thrown, is_X8_thrown, ii_RX8⟩ 0 rfl hd_X8_thrown ⟨by decide, by decide, by omega, by omega, Nat.le_of_ble_eq_true rfl⟩ dL_law_2001
      refine j1 ?_
      refine ia_iload (pc := 2004) F dL_law_2004 rfl ?_
      refine lq_icmp (pc := 2006) F 2011 dL_law_2006 rfl (by rw [y99]; simp [up]) ?_
      refine ia_iload (pc := 2011) F dL_law_2011 rfl ?_
      refine lq_ifn (pc := 2013) F 2028 dL_law_2013 rfl (by omega) ?_
      refine ia_goto (pc := 2028) F 2404 dL_law_2028 rfl ?_
      refine jw [false, false, false, false, false, false, true, true, true] rfl ?_
      refine lq_wid (c2 := cells + 30) (s2 := slots + 7000) (by omega) (by omega) ?_
      exact kk _ _ (LvI_keep hJ hj p2 (fun p hp hs => by
        by_cases g : p = 109
        · rw [g]; exact y109
        · exact f2 p (by simp; exact ⟨fun e => hp (by rw [e]; decide), g⟩)) (f2 100 (by decide)) (f2 103 (by decide)) (fun z h9 => by rw [y99]; simp only [up, if_neg h9]))
set_option maxRecDepth 100000 in
set_option maxHeartbeats 2000000 in
set_option linter.constructorNameAsVariable false in
theorem lcs_42 {X : ia_X} {cells slots LX ix jj : Nat} {xs : Nat → Int32} {Z : ia_Z} {V : ia_H} (F : ia_Fix X RL cL_law 9 20 20000 3600000) (hX : LSc X LX xs) (hi : ix + 2 < LX ∧ LX ≤ 1536) (hJ : LvI jj Z V) (hj : jj < 512) (hc : cells + 30 ≤ 20000 ∧ slots + 7000 ≤ 3600000) (kk : ∀ (Z9 : ia_Z) (V9 : ia_H), LvI (jj + 1) Z9 V9 → ia_G X (cells + 30) (slots + 7000) 2404 [(4, ((ia_E0 + 400 : Nat) : Int)), (4, ((0 : Nat) : Int)), (4, ((99 : Nat) : Int)), (4, ((114 : Nat) : Int)), (4, ((115 : Nat) : Int)), (0, (ix : Int)), (9, 0), (9, 0), (9, 0)] [] Z9 V9) : ia_G X cells slots 2031 [(4, ((ia_E0 + 400 : Nat) : Int)), (4, ((0 : Nat) : Int)), (4, ((99 : Nat) : Int)), (4, ((114 : Nat) : Int)), (4, ((115 : Nat) : Int)), (0, (ix : Int)), (9, 0), (9, 0), (9, 0)] [] Z V := by
  obtain ⟨⟨hZ, hP, hz, hj2⟩, ⟨hB1, hB2⟩, hC, hD, hE, ⟨nT, qT, lT, hn6, h20, hT⟩, ⟨nU, qU, lU, hn7, h15, hU⟩, hne⟩ := id hJ
  obtain ⟨s0, s1, s2, s3, s4, s5, s6, s7, s18, sb, sw, se, sp⟩ := id hB2
  have hχ := hC.1
  have hd : 0 ≤ V 99 10 ∧ V 99 10 ≤ 8 := by have := hC.2.1; omega
  have hd1 := hC.2.1
  have h7 : (V 100 0).toNat ≤ 7 := by omega
  refine ia_aload_n (pc := 2031) F dL_law_2031 rfl ?_
  refine jV (pc := 2032) F 0 0 (z0 hZ) cls10.1 (c_X7_writeWells nU qU lU (V 109) (V 109) hZ hP hB1 hB2 hU (by omega) (fun Z1 V1 rq1 rL1 c0 c1 => ?_)) rfl ⟨k_X7_writeWells, il_RL_283, im_X7_writeWells, is_X7_writeWells, ii_RX7⟩ 0 rfl hd_X7_writeWells ⟨by decide, by decide, by omega, by omega, Nat.le_of_ble_eq_true rfl⟩ dL_law_2032
  refine j1 ?_
  obtain ⟨hZ1, hP1, hz1, k4⟩ := LvI_bx hJ hj (Or.inr rfl) c1 (by decide)
  refine ia_aload_n (pc := 2035) F dL_law_2035 rfl ?_
  refine jV (pc := 2036) F 0 0 (z99 hZ1) cls11.1 (c_X8_writeWells hZ1 hP1 hB2 (k4 99 (by decide) (by decide)) (k4 100 (by decide) (by decide)) (k4 109 (by decide) (by decide)) (fun V2 p2 y99 y109 f2 => ?_)) rfl ⟨k_X8_writeWells, il_RL_286, im_X8_writeWells, is_X8_writeWells, ii_RX8⟩ 0 rfl hd_X8_writeWells ⟨by decide, by decide, by omega, by omega, Nat.le_of_ble_eq_true rfl⟩ dL_law_2036
  refine j1 ?_
  refine lq_icmp (pc := 2039) F 2404 dL_law_2039 rfl rfl ?_
  refine jw [false, false, false, false, false, false, true, true, true] rfl ?_
  refine lq_wid (c2 := cells + 30) (s2 := slots + 7000) (by omega) (by omega) ?_
  exact kk _ _ (LvI_line hJ hj c1 (by decide) c0 (by have := ln_wn_le (σ := V 100); omega) p2 (fun p hp => f2 p (nsub hp (by decide))) y109 (by rw [y99, up_self]) (fun z h9 h8 => by rw [y99]; simp only [up, if_neg h9, if_neg h8]))
set_option maxRecDepth 100000 in
set_option maxHeartbeats 2000000 in
set_option linter.constructorNameAsVariable false in
theorem lcs_43 {X : ia_X} {cells slots LX ix jj : Nat} {xs : Nat → Int32} {Z : ia_Z} {V : ia_H} (F : ia_Fix X RL cL_law 9 20 20000 3600000) (hX : LSc X LX xs) (hi : ix + 2 < LX ∧ LX ≤ 1536) (hJ : LvI jj Z V) (hj : jj < 512) (hc : cells + 30 ≤ 20000 ∧ slots + 7000 ≤ 3600000) (kk : ∀ (Z9 : ia_Z) (V9 : ia_H), LvI (jj + 1) Z9 V9 → ia_G X (cells + 30) (slots + 7000) 2404 [(4, ((ia_E0 + 400 : Nat) : Int)), (4, ((0 : Nat) : Int)), (4, ((99 : Nat) : Int)), (4, ((114 : Nat) : Int)), (4, ((115 : Nat) : Int)), (0, (ix : Int)), (9, 0), (9, 0), (9, 0)] [] Z9 V9) : ia_G X cells slots 2044 [(4, ((ia_E0 + 400 : Nat) : Int)), (4, ((0 : Nat) : Int)), (4, ((99 : Nat) : Int)), (4, ((114 : Nat) : Int)), (4, ((115 : Nat) : Int)), (0, (ix : Int)), (9, 0), (9, 0), (9, 0)] [] Z V := by
  obtain ⟨⟨hZ, hP, hz, hj2⟩, ⟨hB1, hB2⟩, hC, hD, hE, ⟨nT, qT, lT, hn6, h20, hT⟩, ⟨nU, qU, lU, hn7, h15, hU⟩, hne⟩ := id hJ
  obtain ⟨s0, s1, s2, s3, s4, s5, s6, s7, s18, sb, sw, se, sp⟩ := id hB2
  have hχ := hC.1
  have hd : 0 ≤ V 99 10 ∧ V 99 10 ≤ 8 := by have := hC.2.1; omega
  have hd1 := hC.2.1
  have h7 : (V 100 0).toNat ≤ 7 := by omega
  obtain ⟨i, ea0⟩ : ∃ y : Int, (xs (ix + 1)).toInt = y := ⟨_, rfl⟩
  have ra0 := i32_rng (xs (ix + 1))
  rw [ea0] at ra0
  refine ia_aload_n (pc := 2044) F dL_law_2044 rfl ?_
  refine ia_aload_n (pc := 2045) F dL_law_2045 rfl ?_
  refine ia_iload (pc := 2046) F dL_law_2046 rfl ?_
  refine ia_iconst (pc := 2048) F dL_law_2048 ?_
  refine ia_iadd (pc := 2049) F dL_law_2049 ?_
  refine ia_sl (pc := 2050) F hX (ix + 1) (by omega) ⟨by omega, hi.2⟩ ea0 dL_law_2050 ?_
  refine ia_aload_n (pc := 2051) F dL_law_2051 rfl ?_
  refine jSH (pc := 2052) F (h_lineAt i nU qU lU (V 109) hZ hP (by omega) hU (by omega) (fun c0 => ?_) (fun c0 => ?_)) rfl ⟨k_L_lineAt, il_RL_287, it_L_lineAt, ii_RL⟩ 3 rfl hd_L_lineAt ⟨by decide, by decide, by omega, by omega, Nat.le_of_ble_eq_true rfl⟩ dL_law_2052
  · refine j1 ?_
    refine ia_istore (pc := 2055) F (ls' := [(4, ((ia_E0 + 400 : Nat) : Int)), (4, ((0 : Nat) : Int)), (4, ((99 : Nat) : Int)), (4, ((114 : Nat) : Int)), (4, ((115 : Nat) : Int)), (0, (ix : Int)), (0, 0), (9, 0), (9, 0)]) dL_law_2055 (Nat.le_of_ble_eq_true rfl) rfl rfl ?_
    refine ia_aload_n (pc := 2057) F dL_law_2057 rfl ?_
    refine ia_aload_n (pc := 2058) F dL_law_2058 rfl ?_
    refine ia_iload (pc := 2059) F dL_law_2059 rfl ?_
    refine ia_iconst (pc := 2061) F dL_law_2061 ?_
    refine ia_iadd (pc := 2062) F dL_law_2062 ?_
    refine ia_sl (pc := 2063) F hX (ix + 1) (by omega) ⟨by omega, hi.2⟩ ea0 dL_law_2063 ?_
    refine jV (pc := 2064) F 0 0 (z99 hZ) cls11.1 (c_X8_lineAt nU i hZ (PI_u hP rfl) (rowN (by decide)) (rowN (by decide)) (rowN (by decide)) (by omega) h15 (by omega) (SB_rng hU) (fun V2 d0 p2 y99 f2 => ?_) (fun V2 d0 p2 y99 f2 => ?_)) rfl ⟨k_X8_lineAt, il_RL_289, im_X8_lineAt, is_X8_lineAt, ii_RX8⟩ 1 rfl hd_X8_lineAt ⟨by decide, by decide, by omega, by omega, Nat.le_of_ble_eq_true rfl⟩ dL_law_2064
    · refine j1 ?_
      refine ia_istore (pc := 2067) F (ls' := [(4, ((ia_E0 + 400 : Nat) : Int)), (4, ((0 : Nat) : Int)), (4, ((99 : Nat) : Int)), (4, ((114 : Nat) : Int)), (4, ((115 : Nat) : Int)), (0, (ix : Int)), (0, 0), (0, ((V 109) i.toNat)), (9, 0)]) dL_law_2067 (Nat.le_of_ble_eq_true rfl) rfl rfl ?_
      refine ia_aload_n (pc := 2069) F dL_law_2069 rfl ?_
      refine jV (pc := 2070) F 0 0 (z99 hZ) cls11.1 (c_X8_thrown hZ p2 rfl rfl ?_) rfl ⟨k_X8_thrown, il_RL_138, im_X8_thrown, is_X8_thrown, ii_RX8⟩ 0 rfl hd_X8_thrown ⟨by decide, by decide, by omega, by omega, Nat.le_of_ble_eq_true rfl⟩ dL_law_2070
      refine j1 ?_
      refine ia_iload (pc := 2073) F dL_law_2073 rfl ?_
      refine lq_icmp (pc := 2075) F 2080 dL_law_2075 rfl (by rw [y99]; simp [up]) ?_
      refine ia_iload (pc := 2080) F dL_law_2080 rfl ?_
      refine lq_ifz (pc := 2082) F dL_law_2082 2097 rfl ?_
      refine ia_aload_n (pc := 2085) F dL_law_2085 rfl ?_
      refine ia_iconst (pc := 2086) F dL_law_2086 ?_
      refine jal (pc := 2087) F (z114 hZ) 0 rfl (by decide) ((congrFun (f2 114 (by decide)) 0).trans (ia_u_self _ _ _ _)) dL_law_2087 ?_
      refine ia_iload (pc := 2088) F dL_law_2088 rfl ?_
      have r9 := SB_rng hU i.toNat (by omega)
      have e9 : ((V 109) i.toNat) = ((V 109) i.toNat) := rfl
      refine ia_i2lr (pc := 2090) F dL_law_2090 (by omega) ?_
      refine lq_lcmp (pc := 2091) F dL_law_2091 e9 ?_
      refine lq_if0 (pc := 2092) F 2097 dL_law_2092 rfl ?_
      refine ia_goto (pc := 2097) F 2404 dL_law_2097 rfl ?_
      refine jw [false, false, false, false, false, false, true, true, true] rfl ?_
      refine lq_wid (c2 := cells + 30) (s2 := slots + 7000) (by omega) (by omega) ?_
      exact kk _ _ (LvI_keep hJ hj p2 (fun p hp hs => ((f2 p (nsub hp (by decide))).trans (rowN (nne hp (by decide))))) ((f2 100 (by decide)).trans (rowN (by decide))) ((f2 103 (by decide)).trans (rowN (by decide))) (fun z h9 => by rw [y99]; simp only [up, if_neg h9]))
    · exfalso; omega
  · refine j1 ?_
    refine ia_istore (pc := 2055) F (ls' := [(4, ((ia_E0 + 400 : Nat) : Int)), (4, ((0 : Nat) : Int)), (4, ((99 : Nat) : Int)), (4, ((114 : Nat) : Int)), (4, ((115 : Nat) : Int)), (0, (ix : Int)), (0, 1), (9, 0), (9, 0)]) dL_law_2055 (Nat.le_of_ble_eq_true rfl) rfl rfl ?_
    refine ia_aload_n (pc := 2057) F dL_law_2057 rfl ?_
    refine ia_aload_n (pc := 2058) F dL_law_2058 rfl ?_
    refine ia_iload (pc := 2059) F dL_law_2059 rfl ?_
    refine ia_iconst (pc := 2061) F dL_law_2061 ?_
    refine ia_iadd (pc := 2062) F dL_law_2062 ?_
    refine ia_sl (pc := 2063) F hX (ix + 1) (by omega) ⟨by omega, hi.2⟩ ea0 dL_law_2063 ?_
    refine jV (pc := 2064) F 0 0 (z99 hZ) cls11.1 (c_X8_lineAt nU i hZ hP rfl rfl rfl (by omega) h15 (by omega) (SB_rng hU) (fun V2 d0 p2 y99 f2 => ?_) (fun V2 d0 p2 y99 f2 => ?_)) rfl ⟨k_X8_lineAt, il_RL_289, im_X8_lineAt, is_X8_lineAt, ii_RX8⟩ 1 rfl hd_X8_lineAt ⟨by decide, by decide, by omega, by omega, Nat.le_of_ble_eq_true rfl⟩ dL_law_2064
    · exfalso; omega
    · refine j1 ?_
      refine ia_istore (pc := 2067) F (ls' := [(4, ((ia_E0 + 400 : Nat) : Int)), (4, ((0 : Nat) : Int)), (4, ((99 : Nat) : Int)), (4, ((114 : Nat) : Int)), (4, ((115 : Nat) : Int)), (0, (ix : Int)), (0, 1), (0, 32), (9, 0)]) dL_law_2067 (Nat.le_of_ble_eq_true rfl) rfl rfl ?_
      refine ia_aload_n (pc := 2069) F dL_law_2069 rfl ?_
      refine jV (pc := 2070) F 0 0 (z99 hZ) cls11.1 (c_X8_thrown hZ p2 rfl rfl ?_) rfl ⟨k_X8_thrown, il_RL_138, im_X8_thrown, is_X8_thrown, ii_RX8⟩ 0 rfl hd_X8_thrown ⟨by decide, by decide, by omega, by omega, Nat.le_of_ble_eq_true rfl⟩ dL_law_2070
      refine j1 ?_
      refine ia_iload (pc := 2073) F dL_law_2073 rfl ?_
      refine lq_icmp (pc := 2075) F 2080 dL_law_2075 rfl (by rw [y99]; simp [up]) ?_
      refine ia_iload (pc := 2080) F dL_law_2080 rfl ?_
      refine lq_ifn (pc := 2082) F 2097 dL_law_2082 rfl (by omega) ?_
      refine ia_goto (pc := 2097) F 2404 dL_law_2097 rfl ?_
      refine jw [false, false, false, false, false, false, true, true, true] rfl ?_
      refine lq_wid (c2 := cells + 30) (s2 := slots + 7000) (by omega) (by omega) ?_
      exact kk _ _ (LvI_keep hJ hj p2 (fun p hp hs => ((f2 p (nsub hp (by decide))).trans rfl)) (f2 100 (by decide)) (f2 103 (by decide)) (fun z h9 => by rw [y99]; simp only [up, if_neg h9]))
set_option maxRecDepth 100000 in
set_option maxHeartbeats 2000000 in
set_option linter.constructorNameAsVariable false in
theorem lcs_44 {X : ia_X} {cells slots LX ix jj : Nat} {xs : Nat → Int32} {Z : ia_Z} {V : ia_H} (F : ia_Fix X RL cL_law 9 20 20000 3600000) (hX : LSc X LX xs) (hi : ix + 2 < LX ∧ LX ≤ 1536) (hJ : LvI jj Z V) (hj : jj < 512) (hc : cells + 30 ≤ 20000 ∧ slots + 7000 ≤ 3600000) (kk : ∀ (Z9 : ia_Z) (V9 : ia_H), LvI (jj + 1) Z9 V9 → ia_G X (cells + 30) (slots + 7000) 2404 [(4, ((ia_E0 + 400 : Nat) : Int)), (4, ((0 : Nat) : Int)), (4, ((99 : Nat) : Int)), (4, ((114 : Nat) : Int)), (4, ((115 : Nat) : Int)), (0, (ix : Int)), (9, 0), (9, 0), (9, 0)] [] Z9 V9) : ia_G X cells slots 2100 [(4, ((ia_E0 + 400 : Nat) : Int)), (4, ((0 : Nat) : Int)), (4, ((99 : Nat) : Int)), (4, ((114 : Nat) : Int)), (4, ((115 : Nat) : Int)), (0, (ix : Int)), (9, 0), (9, 0), (9, 0)] [] Z V := by
  obtain ⟨⟨hZ, hP, hz, hj2⟩, ⟨hB1, hB2⟩, hC, hD, hE, ⟨nT, qT, lT, hn6, h20, hT⟩, ⟨nU, qU, lU, hn7, h15, hU⟩, hne⟩ := id hJ
  obtain ⟨s0, s1, s2, s3, s4, s5, s6, s7, s18, sb, sw, se, sp⟩ := id hB2
  have hχ := hC.1
  have hd : 0 ≤ V 99 10 ∧ V 99 10 ≤ 8 := by have := hC.2.1; omega
  have hd1 := hC.2.1
  have h7 : (V 100 0).toNat ≤ 7 := by omega
  refine ia_aload_n (pc := 2100) F dL_law_2100 rfl ?_
  refine jV (pc := 2101) F 0 0 (z0 hZ) cls10.1 (c_X7_isConsistent hZ hP hB1 hB2 rfl rfl rfl rfl rfl rfl rfl rfl rfl (fun V1 p1 f1 => ?_)) rfl ⟨k_X7_isConsistent, il_RL_290, im_X7_isConsistent, is_X7_isConsistent, ii_RX7⟩ 0 rfl hd_X7_isConsistent ⟨by decide, by decide, by omega, by omega, Nat.le_of_ble_eq_true rfl⟩ dL_law_2101
  refine j1 ?_
  refine ia_aload_n (pc := 2104) F dL_law_2104 rfl ?_
  refine jV (pc := 2105) F 0 0 (z99 hZ) cls11.1 (c_X8_isConsistent hZ p1 (f1 99 (by decide)) (f1 100 (by decide)) (fun V2 p2 y99 f2 => ?_)) rfl ⟨k_X8_isConsistent, il_RL_294, im_X8_isConsistent, is_X8_isConsistent, ii_RX8⟩ 0 rfl hd_X8_isConsistent ⟨by decide, by decide, by omega, by omega, Nat.le_of_ble_eq_true rfl⟩ dL_law_2105
  refine j1 ?_
  refine lq_icmp (pc := 2108) F 2404 dL_law_2108 rfl rfl ?_
  refine jw [false, false, false, false, false, false, true, true, true] rfl ?_
  refine lq_wid (c2 := cells + 30) (s2 := slots + 7000) (by omega) (by omega) ?_
  exact kk _ _ (LvI_keep hJ hj p2 (fun p hp hs => ((f2 p (nsub hp (by decide))).trans (f1 p (nsub hp (by decide))))) ((f2 100 (by decide)).trans (f1 100 (by decide))) ((f2 103 (by decide)).trans (f1 103 (by decide))) (fun z h9 => by rw [y99]; simp only [up, if_neg h9]))
set_option maxRecDepth 100000 in
set_option maxHeartbeats 2000000 in
set_option linter.constructorNameAsVariable false in
theorem lcs_45 {X : ia_X} {cells slots LX ix jj : Nat} {xs : Nat → Int32} {Z : ia_Z} {V : ia_H} (F : ia_Fix X RL cL_law 9 20 20000 3600000) (hX : LSc X LX xs) (hi : ix + 2 < LX ∧ LX ≤ 1536) (hJ : LvI jj Z V) (hj : jj < 512) (hc : cells + 30 ≤ 20000 ∧ slots + 7000 ≤ 3600000) (kk : ∀ (Z9 : ia_Z) (V9 : ia_H), LvI (jj + 1) Z9 V9 → ia_G X (cells + 30) (slots + 7000) 2404 [(4, ((ia_E0 + 400 : Nat) : Int)), (4, ((0 : Nat) : Int)), (4, ((99 : Nat) : Int)), (4, ((114 : Nat) : Int)), (4, ((115 : Nat) : Int)), (0, (ix : Int)), (9, 0), (9, 0), (9, 0)] [] Z9 V9) : ia_G X cells slots 2113 [(4, ((ia_E0 + 400 : Nat) : Int)), (4, ((0 : Nat) : Int)), (4, ((99 : Nat) : Int)), (4, ((114 : Nat) : Int)), (4, ((115 : Nat) : Int)), (0, (ix : Int)), (9, 0), (9, 0), (9, 0)] [] Z V := by
  obtain ⟨⟨hZ, hP, hz, hj2⟩, ⟨hB1, hB2⟩, hC, hD, hE, ⟨nT, qT, lT, hn6, h20, hT⟩, ⟨nU, qU, lU, hn7, h15, hU⟩, hne⟩ := id hJ
  obtain ⟨s0, s1, s2, s3, s4, s5, s6, s7, s18, sb, sw, se, sp⟩ := id hB2
  have hχ := hC.1
  have hd : 0 ≤ V 99 10 ∧ V 99 10 ≤ 8 := by have := hC.2.1; omega
  have hd1 := hC.2.1
  have h7 : (V 100 0).toNat ≤ 7 := by omega
  obtain ⟨cr, ea0⟩ : ∃ y : Int, (xs (ix + 1)).toInt = y := ⟨_, rfl⟩
  have ra0 := i32_rng (xs (ix + 1))
  rw [ea0] at ra0
  refine ia_aload_n (pc := 2113) F dL_law_2113 rfl ?_
  refine ia_aload_n (pc := 2114) F dL_law_2114 rfl ?_
  refine ia_iload (pc := 2115) F dL_law_2115 rfl ?_
  refine ia_iconst (pc := 2117) F dL_law_2117 ?_
  refine ia_iadd (pc := 2118) F dL_law_2118 ?_
  refine ia_sl (pc := 2119) F hX (ix + 1) (by omega) ⟨by omega, hi.2⟩ ea0 dL_law_2119 ?_
  refine ia_i2c (pc := 2120) F dL_law_2120 ?_
  refine ia_aload_n (pc := 2121) F dL_law_2121 rfl ?_
  refine jSH (pc := 2122) F (h_type nT qT lT (V 110) (cr % 65536) hZ hP hT (by omega) (by omega) (by omega) (fun Z1 V1 rq1 rL1 c0 c1 c2 c3 => ?_) (fun c0 => ?_) (fun c0 c1 => ?_)) rfl ⟨k_L_type, il_RL_295, it_L_type, ii_RL⟩ 3 rfl hd_L_type ⟨by decide, by decide, by omega, by omega, Nat.le_of_ble_eq_true rfl⟩ dL_law_2122
  · refine j1 ?_
    obtain ⟨hZ1, hP1, hz1, k4⟩ := LvI_bx hJ hj (Or.inl rfl) c3 (by decide)
    refine ia_istore (pc := 2125) F (ls' := [(4, ((ia_E0 + 400 : Nat) : Int)), (4, ((0 : Nat) : Int)), (4, ((99 : Nat) : Int)), (4, ((114 : Nat) : Int)), (4, ((115 : Nat) : Int)), (0, (ix : Int)), (0, 0), (9, 0), (9, 0)]) dL_law_2125 (Nat.le_of_ble_eq_true rfl) rfl rfl ?_
    refine ia_aload_n (pc := 2127) F dL_law_2127 rfl ?_
    refine ia_aload_n (pc := 2128) F dL_law_2128 rfl ?_
    refine ia_iload (pc := 2129) F dL_law_2129 rfl ?_
    refine ia_iconst (pc := 2131) F dL_law_2131 ?_
    refine ia_iadd (pc := 2132) F dL_law_2132 ?_
    refine ia_sl (pc := 2133) F hX (ix + 1) (by omega) ⟨by omega, hi.2⟩ ea0 dL_law_2133 ?_
    refine ia_i2c (pc := 2134) F dL_law_2134 ?_
    refine jV (pc := 2135) F 0 0 (z99 hZ1) cls11.1 (c_X8_type (cr % 65536) hZ1 (PI_u hP1 rfl) ((rowN (by decide)).trans (k4 99 (by decide) (by decide))) ((rowN (by decide)).trans (k4 100 (by decide) (by decide))) ((rowN (by decide)).trans (k4 110 (by decide) (by decide))) (by omega) (by omega) (fun V2 d0 d1 p2 y99 y110 f2 => ?_) (fun V2 d0 d1 p2 y99 y110 f2 => ?_) (fun V2 d0 p2 y99 y110 f2 => ?_)) rfl ⟨k_X8_type, il_RL_298, im_X8_type, is_X8_type, ii_RX8⟩ 1 rfl hd_X8_type ⟨by decide, by decide, by omega, by omega, Nat.le_of_ble_eq_true rfl⟩ dL_law_2135
    · refine j1 ?_
      refine ia_istore (pc := 2138) F (ls' := [(4, ((ia_E0 + 400 : Nat) : Int)), (4, ((0 : Nat) : Int)), (4, ((99 : Nat) : Int)), (4, ((114 : Nat) : Int)), (4, ((115 : Nat) : Int)), (0, (ix : Int)), (0, 0), (0, ((V 99) 20 + 1)), (9, 0)]) dL_law_2138 (Nat.le_of_ble_eq_true rfl) rfl rfl ?_
      refine ia_aload_n (pc := 2140) F dL_law_2140 rfl ?_
      refine jV (pc := 2141) F 0 0 (z99 hZ1) cls11.1 (c_X8_thrown hZ1 p2 rfl rfl ?_) rfl ⟨k_X8_thrown, il_RL_138, im_X8_thrown, is_X8_thrown, ii_RX8⟩ 0 rfl hd_X8_thrown ⟨by decide, by decide, by omega, by omega, Nat.le_of_ble_eq_true rfl⟩ dL_law_2141
      refine j1 ?_
      refine ia_iload (pc := 2144) F dL_law_2144 rfl ?_
      refine lq_icmp (pc := 2146) F 2151 dL_law_2146 rfl (by rw [y99]; simp [up]) ?_
      refine ia_iload (pc := 2151) F dL_law_2151 rfl ?_
      refine lq_ifz (pc := 2153) F dL_law_2153 2168 rfl ?_
      refine ia_aload_n (pc := 2156) F dL_law_2156 rfl ?_
      refine ia_iconst (pc := 2157) F dL_law_2157 ?_
      refine jal (pc := 2158) F (z114 hZ1) 0 rfl (by decide) ((congrFun (f2 114 (by decide)) 0).trans (ia_u_self _ _ _ _)) dL_law_2158 ?_
      refine ia_iload (pc := 2159) F dL_law_2159 rfl ?_
      have e9 : ((nT + 1 : Nat) : Int) = ((V 99) 20 + 1) := (by omega)
      refine ia_i2lr (pc := 2161) F dL_law_2161 (by omega) ?_
      refine lq_lcmp (pc := 2162) F dL_law_2162 e9 ?_
      refine lq_if0 (pc := 2163) F 2168 dL_law_2163 rfl ?_
      refine ia_goto (pc := 2168) F 2404 dL_law_2168 rfl ?_
      refine jw [false, false, false, false, false, false, true, true, true] rfl ?_
      refine lq_wid (c2 := cells + 30) (s2 := slots + 7000) (by omega) (by omega) ?_
      exact kk _ _ (LvI_type hJ hj c3 c2 c1 p2 (fun p hp => (f2 p (nsub hp (by decide))).trans (rowN (nne hp (by decide)))) (by rw [y110, h20, Int.toNat_natCast]) (by rw [y99, up_self]; omega) (fun z h9 h8 => by rw [y99]; simp only [up, if_neg h9, if_neg h8]))
    · exfalso; omega
    · exfalso; omega
  · refine j1 ?_
    refine ia_istore (pc := 2125) F (ls' := [(4, ((ia_E0 + 400 : Nat) : Int)), (4, ((0 : Nat) : Int)), (4, ((99 : Nat) : Int)), (4, ((114 : Nat) : Int)), (4, ((115 : Nat) : Int)), (0, (ix : Int)), (0, 1), (9, 0), (9, 0)]) dL_law_2125 (Nat.le_of_ble_eq_true rfl) rfl rfl ?_
    refine ia_aload_n (pc := 2127) F dL_law_2127 rfl ?_
    refine ia_aload_n (pc := 2128) F dL_law_2128 rfl ?_
    refine ia_iload (pc := 2129) F dL_law_2129 rfl ?_
    refine ia_iconst (pc := 2131) F dL_law_2131 ?_
    refine ia_iadd (pc := 2132) F dL_law_2132 ?_
    refine ia_sl (pc := 2133) F hX (ix + 1) (by omega) ⟨by omega, hi.2⟩ ea0 dL_law_2133 ?_
    refine ia_i2c (pc := 2134) F dL_law_2134 ?_
    refine jV (pc := 2135) F 0 0 (z99 hZ) cls11.1 (c_X8_type (cr % 65536) hZ hP rfl rfl rfl (by omega) (by omega) (fun V2 d0 d1 p2 y99 y110 f2 => ?_) (fun V2 d0 d1 p2 y99 y110 f2 => ?_) (fun V2 d0 p2 y99 y110 f2 => ?_)) rfl ⟨k_X8_type, il_RL_298, im_X8_type, is_X8_type, ii_RX8⟩ 1 rfl hd_X8_type ⟨by decide, by decide, by omega, by omega, Nat.le_of_ble_eq_true rfl⟩ dL_law_2135
    · exfalso; omega
    · exfalso; omega
    · refine j1 ?_
      refine ia_istore (pc := 2138) F (ls' := [(4, ((ia_E0 + 400 : Nat) : Int)), (4, ((0 : Nat) : Int)), (4, ((99 : Nat) : Int)), (4, ((114 : Nat) : Int)), (4, ((115 : Nat) : Int)), (0, (ix : Int)), (0, 1), (0, 0), (9, 0)]) dL_law_2138 (Nat.le_of_ble_eq_true rfl) rfl rfl ?_
      refine ia_aload_n (pc := 2140) F dL_law_2140 rfl ?_
      refine jV (pc := 2141) F 0 0 (z99 hZ) cls11.1 (c_X8_thrown hZ p2 rfl rfl ?_) rfl ⟨k_X8_thrown, il_RL_138, im_X8_thrown, is_X8_thrown, ii_RX8⟩ 0 rfl hd_X8_thrown ⟨by decide, by decide, by omega, by omega, Nat.le_of_ble_eq_true rfl⟩ dL_law_2141
      refine j1 ?_
      refine ia_iload (pc := 2144) F dL_law_2144 rfl ?_
      refine lq_icmp (pc := 2146) F 2151 dL_law_2146 rfl (by rw [y99]; simp [up]) ?_
      refine ia_iload (pc := 2151) F dL_law_2151 rfl ?_
      refine lq_ifn (pc := 2153) F 2168 dL_law_2153 rfl (by omega) ?_
      refine ia_goto (pc := 2168) F 2404 dL_law_2168 rfl ?_
      refine jw [false, false, false, false, false, false, true, true, true] rfl ?_
      refine lq_wid (c2 := cells + 30) (s2 := slots + 7000) (by omega) (by omega) ?_
      exact kk _ _ (LvI_keep hJ hj p2 (fun p hp hs => by
        by_cases g : p = 110
        · rw [g]; exact y110
        · exact f2 p (by simp; exact ⟨fun e => hp (by rw [e]; decide), g⟩)) (f2 100 (by decide)) (f2 103 (by decide)) (fun z h9 => by rw [y99]; simp only [up, if_neg h9]))
  · refine j1 ?_
    refine ia_istore (pc := 2125) F (ls' := [(4, ((ia_E0 + 400 : Nat) : Int)), (4, ((0 : Nat) : Int)), (4, ((99 : Nat) : Int)), (4, ((114 : Nat) : Int)), (4, ((115 : Nat) : Int)), (0, (ix : Int)), (0, 2), (9, 0), (9, 0)]) dL_law_2125 (Nat.le_of_ble_eq_true rfl) rfl rfl ?_
    refine ia_aload_n (pc := 2127) F dL_law_2127 rfl ?_
    refine ia_aload_n (pc := 2128) F dL_law_2128 rfl ?_
    refine ia_iload (pc := 2129) F dL_law_2129 rfl ?_
    refine ia_iconst (pc := 2131) F dL_law_2131 ?_
    refine ia_iadd (pc := 2132) F dL_law_2132 ?_
    refine ia_sl (pc := 2133) F hX (ix + 1) (by omega) ⟨by omega, hi.2⟩ ea0 dL_law_2133 ?_
    refine ia_i2c (pc := 2134) F dL_law_2134 ?_
    refine jV (pc := 2135) F 0 0 (z99 hZ) cls11.1 (c_X8_type (cr % 65536) hZ hP rfl rfl rfl (by omega) (by omega) (fun V2 d0 d1 p2 y99 y110 f2 => ?_) (fun V2 d0 d1 p2 y99 y110 f2 => ?_) (fun V2 d0 p2 y99 y110 f2 => ?_)) rfl ⟨k_X8_type, il_RL_298, im_X8_type, is_X8_type, ii_RX8⟩ 1 rfl hd_X8_type ⟨by decide, by decide, by omega, by omega, Nat.le_of_ble_eq_true rfl⟩ dL_law_2135
    · exfalso; omega
    · refine j1 ?_
      refine ia_istore (pc := 2138) F (ls' := [(4, ((ia_E0 + 400 : Nat) : Int)), (4, ((0 : Nat) : Int)), (4, ((99 : Nat) : Int)), (4, ((114 : Nat) : Int)), (4, ((115 : Nat) : Int)), (0, (ix : Int)), (0, 2), (0, 0), (9, 0)]) dL_law_2138 (Nat.le_of_ble_eq_true rfl) rfl rfl ?_
      refine ia_aload_n (pc := 2140) F dL_law_2140 rfl ?_
      refine jV (pc := 2141) F 0 0 (z99 hZ) cls11.1 (c_X8_thrown hZ p2 rfl rfl ?_) rfl ⟨k_X8_thrown, il_RL_138, im_X8_thrown, is_X8_thrown, ii_RX8⟩ 0 rfl hd_X8_thrown ⟨by decide, by decide, by omega, by omega, Nat.le_of_ble_eq_true rfl⟩ dL_law_2141
      refine j1 ?_
      refine ia_iload (pc := 2144) F dL_law_2144 rfl ?_
      refine lq_icmp (pc := 2146) F 2151 dL_law_2146 rfl (by rw [y99]; simp [up]) ?_
      refine ia_iload (pc := 2151) F dL_law_2151 rfl ?_
      refine lq_ifn (pc := 2153) F 2168 dL_law_2153 rfl (by omega) ?_
      refine ia_goto (pc := 2168) F 2404 dL_law_2168 rfl ?_
      refine jw [false, false, false, false, false, false, true, true, true] rfl ?_
      refine lq_wid (c2 := cells + 30) (s2 := slots + 7000) (by omega) (by omega) ?_
      exact kk _ _ (LvI_keep hJ hj p2 (fun p hp hs => by
        by_cases g : p = 110
        · rw [g]; exact y110
        · exact f2 p (by simp; exact ⟨fun e => hp (by rw [e]; decide), g⟩)) (f2 100 (by decide)) (f2 103 (by decide)) (fun z h9 => by rw [y99]; simp only [up, if_neg h9]))
    · exfalso; omega
set_option maxRecDepth 100000 in
set_option maxHeartbeats 2000000 in
set_option linter.constructorNameAsVariable false in
theorem lcs_47 {X : ia_X} {cells slots LX ix jj : Nat} {xs : Nat → Int32} {Z : ia_Z} {V : ia_H} (F : ia_Fix X RL cL_law 9 20 20000 3600000) (hX : LSc X LX xs) (hi : ix + 2 < LX ∧ LX ≤ 1536) (hJ : LvI jj Z V) (hj : jj < 512) (hc : cells + 30 ≤ 20000 ∧ slots + 7000 ≤ 3600000) (kk : ∀ (Z9 : ia_Z) (V9 : ia_H), LvI (jj + 1) Z9 V9 → ia_G X (cells + 30) (slots + 7000) 2404 [(4, ((ia_E0 + 400 : Nat) : Int)), (4, ((0 : Nat) : Int)), (4, ((99 : Nat) : Int)), (4, ((114 : Nat) : Int)), (4, ((115 : Nat) : Int)), (0, (ix : Int)), (9, 0), (9, 0), (9, 0)] [] Z9 V9) : ia_G X cells slots 2215 [(4, ((ia_E0 + 400 : Nat) : Int)), (4, ((0 : Nat) : Int)), (4, ((99 : Nat) : Int)), (4, ((114 : Nat) : Int)), (4, ((115 : Nat) : Int)), (0, (ix : Int)), (9, 0), (9, 0), (9, 0)] [] Z V := by
  obtain ⟨⟨hZ, hP, hz, hj2⟩, ⟨hB1, hB2⟩, hC, hD, hE, ⟨nT, qT, lT, hn6, h20, hT⟩, ⟨nU, qU, lU, hn7, h15, hU⟩, hne⟩ := id hJ
  obtain ⟨s0, s1, s2, s3, s4, s5, s6, s7, s18, sb, sw, se, sp⟩ := id hB2
  have hχ := hC.1
  have hd : 0 ≤ V 99 10 ∧ V 99 10 ≤ 8 := by have := hC.2.1; omega
  have hd1 := hC.2.1
  have h7 : (V 100 0).toNat ≤ 7 := by omega
  have hE1 : (-1 ≤ V 0 9 ∧ V 0 9 ≤ 1000) ∧ V 99 11 = V 0 9 := hE.1
  refine ia_aload_n (pc := 2215) F dL_law_2215 rfl ?_
  refine ia_aload_n (pc := 2216) F dL_law_2216 rfl ?_
  refine jSH (pc := 2217) F (h_errorPosition hZ hP rfl hE.1.1 (fun c0 => ?_) (fun c0 => ?_)) rfl ⟨k_L_errorPosition, il_RL_303, it_L_errorPosition, ii_RL⟩ 2 rfl hd_L_errorPosition ⟨by decide, by decide, by omega, by omega, Nat.le_of_ble_eq_true rfl⟩ dL_law_2217
  · refine j1 ?_
    refine ia_istore (pc := 2220) F (ls' := [(4, ((ia_E0 + 400 : Nat) : Int)), (4, ((0 : Nat) : Int)), (4, ((99 : Nat) : Int)), (4, ((114 : Nat) : Int)), (4, ((115 : Nat) : Int)), (0, (ix : Int)), (0, 0), (9, 0), (9, 0)]) dL_law_2220 (Nat.le_of_ble_eq_true rfl) rfl rfl ?_
    refine ia_aload_n (pc := 2222) F dL_law_2222 rfl ?_
    refine jV (pc := 2223) F 0 0 (z99 hZ) cls11.1 (c_X8_errorPosition hZ (PI_u hP rfl) (rowN (by decide)) (rowN (by decide)) (by rw [hE.1.2]; exact hE.1.1) (fun V2 d0 p2 y99 f2 => ?_) (fun V2 d0 p2 y99 f2 => ?_)) rfl ⟨k_X8_errorPosition, il_RL_305, im_X8_errorPosition, is_X8_errorPosition, ii_RX8⟩ 0 rfl hd_X8_errorPosition ⟨by decide, by decide, by omega, by omega, Nat.le_of_ble_eq_true rfl⟩ dL_law_2223
    · exfalso; omega
    · refine j1 ?_
      refine ia_istore (pc := 2226) F (ls' := [(4, ((ia_E0 + 400 : Nat) : Int)), (4, ((0 : Nat) : Int)), (4, ((99 : Nat) : Int)), (4, ((114 : Nat) : Int)), (4, ((115 : Nat) : Int)), (0, (ix : Int)), (0, 0), (0, ((V 99) 11)), (9, 0)]) dL_law_2226 (Nat.le_of_ble_eq_true rfl) rfl rfl ?_
      refine ia_aload_n (pc := 2228) F dL_law_2228 rfl ?_
      refine jV (pc := 2229) F 0 0 (z99 hZ) cls11.1 (c_X8_thrown hZ p2 rfl rfl ?_) rfl ⟨k_X8_thrown, il_RL_138, im_X8_thrown, is_X8_thrown, ii_RX8⟩ 0 rfl hd_X8_thrown ⟨by decide, by decide, by omega, by omega, Nat.le_of_ble_eq_true rfl⟩ dL_law_2229
      refine j1 ?_
      refine ia_iload (pc := 2232) F dL_law_2232 rfl ?_
      refine lq_icmp (pc := 2234) F 2239 dL_law_2234 rfl (by rw [y99]; simp [up]) ?_
      refine ia_iload (pc := 2239) F dL_law_2239 rfl ?_
      refine lq_ifz (pc := 2241) F dL_law_2241 2256 rfl ?_
      refine ia_aload_n (pc := 2244) F dL_law_2244 rfl ?_
      refine ia_iconst (pc := 2245) F dL_law_2245 ?_
      refine jal (pc := 2246) F (z114 hZ) 0 rfl (by decide) ((congrFun (f2 114 (by decide)) 0).trans (ia_u_self _ _ _ _)) dL_law_2246 ?_
      refine ia_iload (pc := 2247) F dL_law_2247 rfl ?_
      have e9 : ((V 0) 9) = ((V 99) 11) := hE.1.2.symm
      refine ia_i2lr (pc := 2249) F dL_law_2249 (by omega) ?_
      refine lq_lcmp (pc := 2250) F dL_law_2250 e9 ?_
      refine lq_if0 (pc := 2251) F 2256 dL_law_2251 rfl ?_
      refine ia_goto (pc := 2256) F 2404 dL_law_2256 rfl ?_
      refine jw [false, false, false, false, false, false, true, true, true] rfl ?_
      refine lq_wid (c2 := cells + 30) (s2 := slots + 7000) (by omega) (by omega) ?_
      exact kk _ _ (LvI_keep hJ hj p2 (fun p hp hs => ((f2 p (nsub hp (by decide))).trans (rowN (nne hp (by decide))))) ((f2 100 (by decide)).trans (rowN (by decide))) ((f2 103 (by decide)).trans (rowN (by decide))) (fun z h9 => by rw [y99]; simp only [up, if_neg h9]))
  · refine j1 ?_
    refine ia_istore (pc := 2220) F (ls' := [(4, ((ia_E0 + 400 : Nat) : Int)), (4, ((0 : Nat) : Int)), (4, ((99 : Nat) : Int)), (4, ((114 : Nat) : Int)), (4, ((115 : Nat) : Int)), (0, (ix : Int)), (0, 1), (9, 0), (9, 0)]) dL_law_2220 (Nat.le_of_ble_eq_true rfl) rfl rfl ?_
    refine ia_aload_n (pc := 2222) F dL_law_2222 rfl ?_
    refine jV (pc := 2223) F 0 0 (z99 hZ) cls11.1 (c_X8_errorPosition hZ hP rfl rfl (by rw [hE.1.2]; exact hE.1.1) (fun V2 d0 p2 y99 f2 => ?_) (fun V2 d0 p2 y99 f2 => ?_)) rfl ⟨k_X8_errorPosition, il_RL_305, im_X8_errorPosition, is_X8_errorPosition, ii_RX8⟩ 0 rfl hd_X8_errorPosition ⟨by decide, by decide, by omega, by omega, Nat.le_of_ble_eq_true rfl⟩ dL_law_2223
    · refine j1 ?_
      refine ia_istore (pc := 2226) F (ls' := [(4, ((ia_E0 + 400 : Nat) : Int)), (4, ((0 : Nat) : Int)), (4, ((99 : Nat) : Int)), (4, ((114 : Nat) : Int)), (4, ((115 : Nat) : Int)), (0, (ix : Int)), (0, 1), (0, 0), (9, 0)]) dL_law_2226 (Nat.le_of_ble_eq_true rfl) rfl rfl ?_
      refine ia_aload_n (pc := 2228) F dL_law_2228 rfl ?_
      refine jV (pc := 2229) F 0 0 (z99 hZ) cls11.1 (c_X8_thrown hZ p2 rfl rfl ?_) rfl ⟨k_X8_thrown, il_RL_138, im_X8_thrown, is_X8_thrown, ii_RX8⟩ 0 rfl hd_X8_thrown ⟨by decide, by decide, by omega, by omega, Nat.le_of_ble_eq_true rfl⟩ dL_law_2229
      refine j1 ?_
      refine ia_iload (pc := 2232) F dL_law_2232 rfl ?_
      refine lq_icmp (pc := 2234) F 2239 dL_law_2234 rfl (by rw [y99]; simp [up]) ?_
      refine ia_iload (pc := 2239) F dL_law_2239 rfl ?_
      refine lq_ifn (pc := 2241) F 2256 dL_law_2241 rfl (by omega) ?_
      refine ia_goto (pc := 2256) F 2404 dL_law_2256 rfl ?_
      refine jw [false, false, false, false, false, false, true, true, true] rfl ?_
      refine lq_wid (c2 := cells + 30) (s2 := slots + 7000) (by omega) (by omega) ?_
      exact kk _ _ (LvI_keep hJ hj p2 (fun p hp hs => ((f2 p (nsub hp (by decide))).trans rfl)) (f2 100 (by decide)) (f2 103 (by decide)) (fun z h9 => by rw [y99]; simp only [up, if_neg h9]))
    · exfalso; omega
set_option maxRecDepth 100000 in
set_option maxHeartbeats 2000000 in
set_option linter.constructorNameAsVariable false in
theorem lcs_48 {X : ia_X} {cells slots LX ix jj : Nat} {xs : Nat → Int32} {Z : ia_Z} {V : ia_H} (F : ia_Fix X RL cL_law 9 20 20000 3600000) (hX : LSc X LX xs) (hi : ix + 2 < LX ∧ LX ≤ 1536) (hJ : LvI jj Z V) (hj : jj < 512) (hc : cells + 30 ≤ 20000 ∧ slots + 7000 ≤ 3600000) (kk : ∀ (Z9 : ia_Z) (V9 : ia_H), LvI (jj + 1) Z9 V9 → ia_G X (cells + 30) (slots + 7000) 2404 [(4, ((ia_E0 + 400 : Nat) : Int)), (4, ((0 : Nat) : Int)), (4, ((99 : Nat) : Int)), (4, ((114 : Nat) : Int)), (4, ((115 : Nat) : Int)), (0, (ix : Int)), (9, 0), (9, 0), (9, 0)] [] Z9 V9) : ia_G X cells slots 2259 [(4, ((ia_E0 + 400 : Nat) : Int)), (4, ((0 : Nat) : Int)), (4, ((99 : Nat) : Int)), (4, ((114 : Nat) : Int)), (4, ((115 : Nat) : Int)), (0, (ix : Int)), (9, 0), (9, 0), (9, 0)] [] Z V := by
  obtain ⟨⟨hZ, hP, hz, hj2⟩, ⟨hB1, hB2⟩, hC, hD, hE, ⟨nT, qT, lT, hn6, h20, hT⟩, ⟨nU, qU, lU, hn7, h15, hU⟩, hne⟩ := id hJ
  obtain ⟨s0, s1, s2, s3, s4, s5, s6, s7, s18, sb, sw, se, sp⟩ := id hB2
  have hχ := hC.1
  have hd : 0 ≤ V 99 10 ∧ V 99 10 ≤ 8 := by have := hC.2.1; omega
  have hd1 := hC.2.1
  have h7 : (V 100 0).toNat ≤ 7 := by omega
  have hE2 : (-1 ≤ V 0 10 ∧ V 0 10 ≤ 1000) ∧ V 99 12 = V 0 10 := hE.2
  refine ia_aload_n (pc := 2259) F dL_law_2259 rfl ?_
  refine ia_aload_n (pc := 2260) F dL_law_2260 rfl ?_
  refine jSH (pc := 2261) F (h_failedCommand hZ hP rfl hE.2.1 (fun c0 => ?_) (fun c0 => ?_)) rfl ⟨k_L_failedCommand, il_RL_306, it_L_failedCommand, ii_RL⟩ 2 rfl hd_L_failedCommand ⟨by decide, by decide, by omega, by omega, Nat.le_of_ble_eq_true rfl⟩ dL_law_2261
  · refine j1 ?_
    refine ia_istore (pc := 2264) F (ls' := [(4, ((ia_E0 + 400 : Nat) : Int)), (4, ((0 : Nat) : Int)), (4, ((99 : Nat) : Int)), (4, ((114 : Nat) : Int)), (4, ((115 : Nat) : Int)), (0, (ix : Int)), (0, 0), (9, 0), (9, 0)]) dL_law_2264 (Nat.le_of_ble_eq_true rfl) rfl rfl ?_
    refine ia_aload_n (pc := 2266) F dL_law_2266 rfl ?_
    refine jV (pc := 2267) F 0 0 (z99 hZ) cls11.1 (c_X8_failedCommand hZ (PI_u hP rfl) (rowN (by decide)) (rowN (by decide)) (by rw [hE.2.2]; exact hE.2.1) (fun V2 d0 p2 y99 f2 => ?_) (fun V2 d0 p2 y99 f2 => ?_)) rfl ⟨k_X8_failedCommand, il_RL_308, im_X8_failedCommand, is_X8_failedCommand, ii_RX8⟩ 0 rfl hd_X8_failedCommand ⟨by decide, by decide, by omega, by omega, Nat.le_of_ble_eq_true rfl⟩ dL_law_2267
    · exfalso; omega
    · refine j1 ?_
      refine ia_istore (pc := 2270) F (ls' := [(4, ((ia_E0 + 400 : Nat) : Int)), (4, ((0 : Nat) : Int)), (4, ((99 : Nat) : Int)), (4, ((114 : Nat) : Int)), (4, ((115 : Nat) : Int)), (0, (ix : Int)), (0, 0), (0, ((V 99) 12)), (9, 0)]) dL_law_2270 (Nat.le_of_ble_eq_true rfl) rfl rfl ?_
      refine ia_aload_n (pc := 2272) F dL_law_2272 rfl ?_
      refine jV (pc := 2273) F 0 0 (z99 hZ) cls11.1 (c_X8_thrown hZ p2 rfl rfl ?_) rfl ⟨k_X8_thrown, il_RL_138, im_X8_thrown, is_X8_thrown, ii_RX8⟩ 0 rfl hd_X8_thrown ⟨by decide, by decide, by omega, by omega, Nat.le_of_ble_eq_true rfl⟩ dL_law_2273
      refine j1 ?_
      refine ia_iload (pc := 2276) F dL_law_2276 rfl ?_
      refine lq_icmp (pc := 2278) F 2283 dL_law_2278 rfl (by rw [y99]; simp [up]) ?_
      refine ia_iload (pc := 2283) F dL_law_2283 rfl ?_
      refine lq_ifz (pc := 2285) F dL_law_2285 2300 rfl ?_
      refine ia_aload_n (pc := 2288) F dL_law_2288 rfl ?_
      refine ia_iconst (pc := 2289) F dL_law_2289 ?_
      refine jal (pc := 2290) F (z114 hZ) 0 rfl (by decide) ((congrFun (f2 114 (by decide)) 0).trans (ia_u_self _ _ _ _)) dL_law_2290 ?_
      refine ia_iload (pc := 2291) F dL_law_2291 rfl ?_
      have e9 : ((V 0) 10) = ((V 99) 12) := hE.2.2.symm
      refine ia_i2lr (pc := 2293) F dL_law_2293 (by omega) ?_
      refine lq_lcmp (pc := 2294) F dL_law_2294 e9 ?_
      refine lq_if0 (pc := 2295) F 2300 dL_law_2295 rfl ?_
      refine ia_goto (pc := 2300) F 2404 dL_law_2300 rfl ?_
      refine jw [false, false, false, false, false, false, true, true, true] rfl ?_
      refine lq_wid (c2 := cells + 30) (s2 := slots + 7000) (by omega) (by omega) ?_
      exact kk _ _ (LvI_keep hJ hj p2 (fun p hp hs => ((f2 p (nsub hp (by decide))).trans (rowN (nne hp (by decide))))) ((f2 100 (by decide)).trans (rowN (by decide))) ((f2 103 (by decide)).trans (rowN (by decide))) (fun z h9 => by rw [y99]; simp only [up, if_neg h9]))
  · refine j1 ?_
    refine ia_istore (pc := 2264) F (ls' := [(4, ((ia_E0 + 400 : Nat) : Int)), (4, ((0 : Nat) : Int)), (4, ((99 : Nat) : Int)), (4, ((114 : Nat) : Int)), (4, ((115 : Nat) : Int)), (0, (ix : Int)), (0, 1), (9, 0), (9, 0)]) dL_law_2264 (Nat.le_of_ble_eq_true rfl) rfl rfl ?_
    refine ia_aload_n (pc := 2266) F dL_law_2266 rfl ?_
    refine jV (pc := 2267) F 0 0 (z99 hZ) cls11.1 (c_X8_failedCommand hZ hP rfl rfl (by rw [hE.2.2]; exact hE.2.1) (fun V2 d0 p2 y99 f2 => ?_) (fun V2 d0 p2 y99 f2 => ?_)) rfl ⟨k_X8_failedCommand, il_RL_308, im_X8_failedCommand, is_X8_failedCommand, ii_RX8⟩ 0 rfl hd_X8_failedCommand ⟨by decide, by decide, by omega, by omega, Nat.le_of_ble_eq_true rfl⟩ dL_law_2267
    · refine j1 ?_
      refine ia_istore (pc := 2270) F (ls' := [(4, ((ia_E0 + 400 : Nat) : Int)), (4, ((0 : Nat) : Int)), (4, ((99 : Nat) : Int)), (4, ((114 : Nat) : Int)), (4, ((115 : Nat) : Int)), (0, (ix : Int)), (0, 1), (0, 0), (9, 0)]) dL_law_2270 (Nat.le_of_ble_eq_true rfl) rfl rfl ?_
      refine ia_aload_n (pc := 2272) F dL_law_2272 rfl ?_
      refine jV (pc := 2273) F 0 0 (z99 hZ) cls11.1 (c_X8_thrown hZ p2 rfl rfl ?_) rfl ⟨k_X8_thrown, il_RL_138, im_X8_thrown, is_X8_thrown, ii_RX8⟩ 0 rfl hd_X8_thrown ⟨by decide, by decide, by omega, by omega, Nat.le_of_ble_eq_true rfl⟩ dL_law_2273
      refine j1 ?_
      refine ia_iload (pc := 2276) F dL_law_2276 rfl ?_
      refine lq_icmp (pc := 2278) F 2283 dL_law_2278 rfl (by rw [y99]; simp [up]) ?_
      refine ia_iload (pc := 2283) F dL_law_2283 rfl ?_
      refine lq_ifn (pc := 2285) F 2300 dL_law_2285 rfl (by omega) ?_
      refine ia_goto (pc := 2300) F 2404 dL_law_2300 rfl ?_
      refine jw [false, false, false, false, false, false, true, true, true] rfl ?_
      refine lq_wid (c2 := cells + 30) (s2 := slots + 7000) (by omega) (by omega) ?_
      exact kk _ _ (LvI_keep hJ hj p2 (fun p hp hs => ((f2 p (nsub hp (by decide))).trans rfl)) (f2 100 (by decide)) (f2 103 (by decide)) (fun z h9 => by rw [y99]; simp only [up, if_neg h9]))
    · exfalso; omega
set_option maxRecDepth 100000 in
set_option maxHeartbeats 2000000 in
set_option linter.constructorNameAsVariable false in
theorem lcs_49 {X : ia_X} {cells slots LX ix jj : Nat} {xs : Nat → Int32} {Z : ia_Z} {V : ia_H} (F : ia_Fix X RL cL_law 9 20 20000 3600000) (hX : LSc X LX xs) (hi : ix + 2 < LX ∧ LX ≤ 1536) (hJ : LvI jj Z V) (hj : jj < 512) (hc : cells + 30 ≤ 20000 ∧ slots + 7000 ≤ 3600000) (kk : ∀ (Z9 : ia_Z) (V9 : ia_H), LvI (jj + 1) Z9 V9 → ia_G X (cells + 30) (slots + 7000) 2404 [(4, ((ia_E0 + 400 : Nat) : Int)), (4, ((0 : Nat) : Int)), (4, ((99 : Nat) : Int)), (4, ((114 : Nat) : Int)), (4, ((115 : Nat) : Int)), (0, (ix : Int)), (9, 0), (9, 0), (9, 0)] [] Z9 V9) : ia_G X cells slots 2303 [(4, ((ia_E0 + 400 : Nat) : Int)), (4, ((0 : Nat) : Int)), (4, ((99 : Nat) : Int)), (4, ((114 : Nat) : Int)), (4, ((115 : Nat) : Int)), (0, (ix : Int)), (9, 0), (9, 0), (9, 0)] [] Z V := by
  obtain ⟨⟨hZ, hP, hz, hj2⟩, ⟨hB1, hB2⟩, hC, hD, hE, ⟨nT, qT, lT, hn6, h20, hT⟩, ⟨nU, qU, lU, hn7, h15, hU⟩, hne⟩ := id hJ
  obtain ⟨s0, s1, s2, s3, s4, s5, s6, s7, s18, sb, sw, se, sp⟩ := id hB2
  have hχ := hC.1
  have hd : 0 ≤ V 99 10 ∧ V 99 10 ≤ 8 := by have := hC.2.1; omega
  have hd1 := hC.2.1
  have h7 : (V 100 0).toNat ≤ 7 := by omega
  refine ia_aload_n (pc := 2303) F dL_law_2303 rfl ?_
  refine ia_aload_n (pc := 2304) F dL_law_2304 rfl ?_
  refine jSH (pc := 2305) F (h_undo (hst (V 103) (V 15 2 - 1).toNat) hZ hP hB1 hB2 rfl hχ (fun g => (LvC_top hC g).1) (fun V1 c0 p1 w15 f1 x0 => ?_) (fun c0 => ?_)) rfl ⟨k_L_undo, il_RL_309, it_L_undo, ii_RL⟩ 2 rfl hd_L_undo ⟨by decide, by decide, by omega, by omega, Nat.le_of_ble_eq_true rfl⟩ dL_law_2305
  · refine j1 ?_
    refine ia_istore (pc := 2308) F (ls' := [(4, ((ia_E0 + 400 : Nat) : Int)), (4, ((0 : Nat) : Int)), (4, ((99 : Nat) : Int)), (4, ((114 : Nat) : Int)), (4, ((115 : Nat) : Int)), (0, (ix : Int)), (0, 0), (9, 0), (9, 0)]) dL_law_2308 (Nat.le_of_ble_eq_true rfl) rfl rfl ?_
    refine ia_aload_n (pc := 2310) F dL_law_2310 rfl ?_
    refine jV (pc := 2311) F 0 0 (z99 hZ) cls11.1 (c_X8_undo hZ (PI_u p1 rfl) hB2 ((rowN (by decide)).trans (f1 99 (by decide))) ((rowN (by decide)).trans (f1 100 (by decide))) ((rowN (by decide)).trans (f1 103 (by decide))) hd (fun V2 d0 p2 y99 y100 f2 => ?_) (fun V2 d0 p2 y99 y100 f2 => ?_)) rfl ⟨k_X8_undo, il_RL_311, im_X8_undo, is_X8_undo, ii_RX8⟩ 0 rfl hd_X8_undo ⟨by decide, by decide, by omega, by omega, Nat.le_of_ble_eq_true rfl⟩ dL_law_2311
    · exfalso; omega
    · refine j1 ?_
      refine ia_istore (pc := 2314) F (ls' := [(4, ((ia_E0 + 400 : Nat) : Int)), (4, ((0 : Nat) : Int)), (4, ((99 : Nat) : Int)), (4, ((114 : Nat) : Int)), (4, ((115 : Nat) : Int)), (0, (ix : Int)), (0, 0), (0, ((V 99) 10 - 1)), (9, 0)]) dL_law_2314 (Nat.le_of_ble_eq_true rfl) rfl rfl ?_
      refine ia_aload_n (pc := 2316) F dL_law_2316 rfl ?_
      refine jV (pc := 2317) F 0 0 (z99 hZ) cls11.1 (c_X8_thrown hZ p2 rfl rfl ?_) rfl ⟨k_X8_thrown, il_RL_138, im_X8_thrown, is_X8_thrown, ii_RX8⟩ 0 rfl hd_X8_thrown ⟨by decide, by decide, by omega, by omega, Nat.le_of_ble_eq_true rfl⟩ dL_law_2317
      refine j1 ?_
      refine ia_iload (pc := 2320) F dL_law_2320 rfl ?_
      refine lq_icmp (pc := 2322) F 2327 dL_law_2322 rfl (by rw [y99]; simp [up]) ?_
      refine ia_iload (pc := 2327) F dL_law_2327 rfl ?_
      refine lq_ifz (pc := 2329) F dL_law_2329 2344 rfl ?_
      refine ia_aload_n (pc := 2332) F dL_law_2332 rfl ?_
      refine ia_iconst (pc := 2333) F dL_law_2333 ?_
      refine jal (pc := 2334) F (z114 hZ) 0 rfl (by decide) ((congrFun (f2 114 (by decide)) 0).trans (ia_u_self _ _ _ _)) dL_law_2334 ?_
      refine ia_iload (pc := 2335) F dL_law_2335 rfl ?_
      have e9 : ((V 15) 2 - 1) = ((V 99) 10 - 1) := (by omega)
      refine ia_i2lr (pc := 2337) F dL_law_2337 (by omega) ?_
      refine lq_lcmp (pc := 2338) F dL_law_2338 e9 ?_
      refine lq_if0 (pc := 2339) F 2344 dL_law_2339 rfl ?_
      refine ia_goto (pc := 2344) F 2404 dL_law_2344 rfl ?_
      refine jw [false, false, false, false, false, false, true, true, true] rfl ?_
      refine lq_wid (c2 := cells + 30) (s2 := slots + 7000) (by omega) (by omega) ?_
      have c72 : ∀ z : Nat, z < 72 → V2 100 z = hst (V 103) (V 15 2 - 1).toNat z := fun z hz9 => by
        rw [y100, cpy_at (by omega), hC.2.1]
        exact congrArg (V 103) (by omega)
      have k9 : ∀ p : Nat, p ∉ ([1, 2, 3, 4, 5, 6, 7, 15, 99, 100, 114] : List Nat) → V2 p = V p := fun p hp => ((f2 p (nsub hp (by decide))).trans ((rowN (nne hp (by decide))).trans (f1 p (nsub hp (by decide)))))
      exact kk _ _ (LvI_new hJ hj p2 (Sh_ext (Sh_fr (Sh_u x0 (by decide)) f2 (by decide)) c72) (SI_ext (SI_le (LvC_top hC c0).2 (by omega)) c72) (LvC_pop hC hj c0 ((f2 15 (by decide)).trans ((rowN (by decide)).trans w15)) (by rw [y99, up_self]) (k9 103 (by decide)) (fun p g1 g2 => k9 p (by simp; omega))) (congrFun (k9 0 (by decide)) 8) (LvE_keep hE (k9 0 (by decide)) (by rw [y99]; simp [up]) (by rw [y99]; simp [up])) (LvT_keep ⟨nT, qT, lT, hn6, h20, hT⟩ (by rw [y99]; simp [up]) (k9 110 (by decide)) (fun p hp => k9 p (by simp; omega))) (congrFun (k9 92 (by decide)) 0) (by rw [y99]; simp [up]) (by rw [y99]; simp [up]) (fun p hp hs => k9 p (nsub hp (by decide))))
  · refine j1 ?_
    refine ia_istore (pc := 2308) F (ls' := [(4, ((ia_E0 + 400 : Nat) : Int)), (4, ((0 : Nat) : Int)), (4, ((99 : Nat) : Int)), (4, ((114 : Nat) : Int)), (4, ((115 : Nat) : Int)), (0, (ix : Int)), (0, 1), (9, 0), (9, 0)]) dL_law_2308 (Nat.le_of_ble_eq_true rfl) rfl rfl ?_
    refine ia_aload_n (pc := 2310) F dL_law_2310 rfl ?_
    refine jV (pc := 2311) F 0 0 (z99 hZ) cls11.1 (c_X8_undo hZ hP hB2 rfl rfl rfl hd (fun V2 d0 p2 y99 y100 f2 => ?_) (fun V2 d0 p2 y99 y100 f2 => ?_)) rfl ⟨k_X8_undo, il_RL_311, im_X8_undo, is_X8_undo, ii_RX8⟩ 0 rfl hd_X8_undo ⟨by decide, by decide, by omega, by omega, Nat.le_of_ble_eq_true rfl⟩ dL_law_2311
    · refine j1 ?_
      refine ia_istore (pc := 2314) F (ls' := [(4, ((ia_E0 + 400 : Nat) : Int)), (4, ((0 : Nat) : Int)), (4, ((99 : Nat) : Int)), (4, ((114 : Nat) : Int)), (4, ((115 : Nat) : Int)), (0, (ix : Int)), (0, 1), (0, 0), (9, 0)]) dL_law_2314 (Nat.le_of_ble_eq_true rfl) rfl rfl ?_
      refine ia_aload_n (pc := 2316) F dL_law_2316 rfl ?_
      refine jV (pc := 2317) F 0 0 (z99 hZ) cls11.1 (c_X8_thrown hZ p2 rfl rfl ?_) rfl ⟨k_X8_thrown, il_RL_138, im_X8_thrown, is_X8_thrown, ii_RX8⟩ 0 rfl hd_X8_thrown ⟨by decide, by decide, by omega, by omega, Nat.le_of_ble_eq_true rfl⟩ dL_law_2317
      refine j1 ?_
      refine ia_iload (pc := 2320) F dL_law_2320 rfl ?_
      refine lq_icmp (pc := 2322) F 2327 dL_law_2322 rfl (by rw [y99]; simp [up]) ?_
      refine ia_iload (pc := 2327) F dL_law_2327 rfl ?_
      refine lq_ifn (pc := 2329) F 2344 dL_law_2329 rfl (by omega) ?_
      refine ia_goto (pc := 2344) F 2404 dL_law_2344 rfl ?_
      refine jw [false, false, false, false, false, false, true, true, true] rfl ?_
      refine lq_wid (c2 := cells + 30) (s2 := slots + 7000) (by omega) (by omega) ?_
      exact kk _ _ (LvI_keep hJ hj p2 (fun p hp hs => ((f2 p (nsub hp (by decide))).trans rfl)) y100 (f2 103 (by decide)) (fun z h9 => by rw [y99]; simp only [up, if_neg h9]))
    · exfalso; omega
set_option maxRecDepth 100000 in
set_option maxHeartbeats 2000000 in
set_option linter.constructorNameAsVariable false in
theorem lcs_50 {X : ia_X} {cells slots LX ix jj : Nat} {xs : Nat → Int32} {Z : ia_Z} {V : ia_H} (F : ia_Fix X RL cL_law 9 20 20000 3600000) (hX : LSc X LX xs) (hi : ix + 2 < LX ∧ LX ≤ 1536) (hJ : LvI jj Z V) (hj : jj < 512) (hc : cells + 30 ≤ 20000 ∧ slots + 7000 ≤ 3600000) (kk : ∀ (Z9 : ia_Z) (V9 : ia_H), LvI (jj + 1) Z9 V9 → ia_G X (cells + 30) (slots + 7000) 2404 [(4, ((ia_E0 + 400 : Nat) : Int)), (4, ((0 : Nat) : Int)), (4, ((99 : Nat) : Int)), (4, ((114 : Nat) : Int)), (4, ((115 : Nat) : Int)), (0, (ix : Int)), (9, 0), (9, 0), (9, 0)] [] Z9 V9) : ia_G X cells slots 2347 [(4, ((ia_E0 + 400 : Nat) : Int)), (4, ((0 : Nat) : Int)), (4, ((99 : Nat) : Int)), (4, ((114 : Nat) : Int)), (4, ((115 : Nat) : Int)), (0, (ix : Int)), (9, 0), (9, 0), (9, 0)] [] Z V := by
  obtain ⟨⟨hZ, hP, hz, hj2⟩, ⟨hB1, hB2⟩, hC, hD, hE, ⟨nT, qT, lT, hn6, h20, hT⟩, ⟨nU, qU, lU, hn7, h15, hU⟩, hne⟩ := id hJ
  obtain ⟨s0, s1, s2, s3, s4, s5, s6, s7, s18, sb, sw, se, sp⟩ := id hB2
  have hχ := hC.1
  have hd : 0 ≤ V 99 10 ∧ V 99 10 ≤ 8 := by have := hC.2.1; omega
  have hd1 := hC.2.1
  have h7 : (V 100 0).toNat ≤ 7 := by omega
  refine ia_aload_n (pc := 2347) F dL_law_2347 rfl ?_
  refine jV (pc := 2348) F 0 0 (z0 hZ) cls10.1 (c_X7_save hZ hP hB1 hB2 rfl (fun V1 p1 w0 f1 x0 => ?_)) rfl ⟨k_X7_save, il_RL_312, im_X7_save, is_X7_save, ii_RX7⟩ 0 rfl hd_X7_save ⟨by decide, by decide, by omega, by omega, Nat.le_of_ble_eq_true rfl⟩ dL_law_2348
  refine j1 ?_
  refine ia_aload_n (pc := 2351) F dL_law_2351 rfl ?_
  refine jV (pc := 2352) F 0 0 (z99 hZ) cls11.1 (c_X8_save hZ p1 (f1 99 (by decide)) (f1 100 (by decide)) (f1 102 (by decide)) (fun V2 p2 y99 y102 f2 => ?_)) rfl ⟨k_X8_save, il_RL_315, im_X8_save, is_X8_save, ii_RX8⟩ 0 rfl hd_X8_save ⟨by decide, by decide, by omega, by omega, Nat.le_of_ble_eq_true rfl⟩ dL_law_2352
  refine j1 ?_
  refine lq_icmp (pc := 2355) F 2404 dL_law_2355 rfl rfl ?_
  refine jw [false, false, false, false, false, false, true, true, true] rfl ?_
  refine lq_wid (c2 := cells + 30) (s2 := slots + 7000) (by omega) (by omega) ?_
  exact kk _ _ (LvI_save hJ hj p2 ((f2 0 (by decide)).trans w0) (Sh_mv x0 (fun p g1 g2 => f2 p (by simp; omega))) y102 (by rw [y99, up_self]) (fun z h9 h13 => by rw [y99]; simp only [up, if_neg h9, if_neg h13]) (fun p hp => (f2 p (nsub hp (by decide))).trans (f1 p (nsub hp (by decide)))))
set_option maxRecDepth 100000 in
set_option maxHeartbeats 2000000 in
set_option linter.constructorNameAsVariable false in
theorem lcs_51 {X : ia_X} {cells slots LX ix jj : Nat} {xs : Nat → Int32} {Z : ia_Z} {V : ia_H} (F : ia_Fix X RL cL_law 9 20 20000 3600000) (hX : LSc X LX xs) (hi : ix + 2 < LX ∧ LX ≤ 1536) (hJ : LvI jj Z V) (hj : jj < 512) (hc : cells + 30 ≤ 20000 ∧ slots + 7000 ≤ 3600000) (kk : ∀ (Z9 : ia_Z) (V9 : ia_H), LvI (jj + 1) Z9 V9 → ia_G X (cells + 30) (slots + 7000) 2404 [(4, ((ia_E0 + 400 : Nat) : Int)), (4, ((0 : Nat) : Int)), (4, ((99 : Nat) : Int)), (4, ((114 : Nat) : Int)), (4, ((115 : Nat) : Int)), (0, (ix : Int)), (9, 0), (9, 0), (9, 0)] [] Z9 V9) : ia_G X cells slots 2360 [(4, ((ia_E0 + 400 : Nat) : Int)), (4, ((0 : Nat) : Int)), (4, ((99 : Nat) : Int)), (4, ((114 : Nat) : Int)), (4, ((115 : Nat) : Int)), (0, (ix : Int)), (9, 0), (9, 0), (9, 0)] [] Z V := by
  obtain ⟨⟨hZ, hP, hz, hj2⟩, ⟨hB1, hB2⟩, hC, hD, hE, ⟨nT, qT, lT, hn6, h20, hT⟩, ⟨nU, qU, lU, hn7, h15, hU⟩, hne⟩ := id hJ
  obtain ⟨s0, s1, s2, s3, s4, s5, s6, s7, s18, sb, sw, se, sp⟩ := id hB2
  have hχ := hC.1
  have hd : 0 ≤ V 99 10 ∧ V 99 10 ≤ 8 := by have := hC.2.1; omega
  have hd1 := hC.2.1
  have h7 : (V 100 0).toNat ≤ 7 := by omega
  have hD2 : V 99 13 = V 0 8 := hD.2.1
  have hD3 : 0 ≤ V 102 0 ∧ V 102 0 ≤ 7 := hD.2.2.1
  have hD4 : cpy (V 102) (V 100) 0 0 72 0 = V 102 0 := by rw [cpy_at (by omega)]
  refine ia_aload_n (pc := 2360) F dL_law_2360 rfl ?_
  refine ia_aload_n (pc := 2361) F dL_law_2361 rfl ?_
  refine jSH (pc := 2362) F (h_restore (V 102) hZ hP rfl rfl hD.1 (fun g => (hD.2.2.2 g).1) hD.2.2.1 (fun V1 c0 p1 w15 f1 x0 => ?_) (fun c0 => ?_)) rfl ⟨k_L_restore, il_RL_316, it_L_restore, ii_RL⟩ 2 rfl hd_L_restore ⟨by decide, by decide, by omega, by omega, Nat.le_of_ble_eq_true rfl⟩ dL_law_2362
  · refine j1 ?_
    refine ia_istore (pc := 2365) F (ls' := [(4, ((ia_E0 + 400 : Nat) : Int)), (4, ((0 : Nat) : Int)), (4, ((99 : Nat) : Int)), (4, ((114 : Nat) : Int)), (4, ((115 : Nat) : Int)), (0, (ix : Int)), (0, 0), (9, 0), (9, 0)]) dL_law_2365 (Nat.le_of_ble_eq_true rfl) rfl rfl ?_
    refine ia_aload_n (pc := 2367) F dL_law_2367 rfl ?_
    refine jV (pc := 2368) F 0 0 (z99 hZ) cls11.1 (c_X8_restore hZ (PI_u p1 rfl) ((rowN (by decide)).trans (f1 99 (by decide))) ((rowN (by decide)).trans (f1 100 (by decide))) ((rowN (by decide)).trans (f1 102 (by decide))) (by rw [hD.2.1]; exact hD.1) (fun V2 d0 p2 y99 y100 f2 => ?_) (fun V2 d0 p2 y99 y100 f2 => ?_)) rfl ⟨k_X8_restore, il_RL_318, im_X8_restore, is_X8_restore, ii_RX8⟩ 0 rfl hd_X8_restore ⟨by decide, by decide, by omega, by omega, Nat.le_of_ble_eq_true rfl⟩ dL_law_2368
    · refine j1 ?_
      refine ia_istore (pc := 2371) F (ls' := [(4, ((ia_E0 + 400 : Nat) : Int)), (4, ((0 : Nat) : Int)), (4, ((99 : Nat) : Int)), (4, ((114 : Nat) : Int)), (4, ((115 : Nat) : Int)), (0, (ix : Int)), (0, 0), (0, cpy (V 102) (V 100) 0 0 72 0), (9, 0)]) dL_law_2371 (Nat.le_of_ble_eq_true rfl) rfl rfl ?_
      refine ia_aload_n (pc := 2373) F dL_law_2373 rfl ?_
      refine jV (pc := 2374) F 0 0 (z99 hZ) cls11.1 (c_X8_thrown hZ p2 rfl rfl ?_) rfl ⟨k_X8_thrown, il_RL_138, im_X8_thrown, is_X8_thrown, ii_RX8⟩ 0 rfl hd_X8_thrown ⟨by decide, by decide, by omega, by omega, Nat.le_of_ble_eq_true rfl⟩ dL_law_2374
      refine j1 ?_
      refine ia_iload (pc := 2377) F dL_law_2377 rfl ?_
      refine lq_icmp (pc := 2379) F 2384 dL_law_2379 rfl (by rw [y99]; simp [up]) ?_
      refine ia_iload (pc := 2384) F dL_law_2384 rfl ?_
      refine lq_ifz (pc := 2386) F dL_law_2386 2401 rfl ?_
      refine ia_aload_n (pc := 2389) F dL_law_2389 rfl ?_
      refine ia_iconst (pc := 2390) F dL_law_2390 ?_
      refine jal (pc := 2391) F (z114 hZ) 0 rfl (by decide) ((congrFun (f2 114 (by decide)) 0).trans (ia_u_self _ _ _ _)) dL_law_2391 ?_
      refine ia_iload (pc := 2392) F dL_law_2392 rfl ?_
      have e9 : ((V 102) 0) = (cpy (V 102) (V 100) 0 0 72 0) := (by rw [cpy_at (by omega)])
      refine ia_i2lr (pc := 2394) F dL_law_2394 (by omega) ?_
      refine lq_lcmp (pc := 2395) F dL_law_2395 e9 ?_
      refine lq_if0 (pc := 2396) F 2401 dL_law_2396 rfl ?_
      refine ia_goto (pc := 2401) F 2404 dL_law_2401 rfl ?_
      refine jw [false, false, false, false, false, false, true, true, true] rfl ?_
      refine lq_wid (c2 := cells + 30) (s2 := slots + 7000) (by omega) (by omega) ?_
      have c72 : ∀ z : Nat, z < 72 → V2 100 z = V 102 z := fun z hz9 => by
        rw [y100, cpy_at (by omega)]
        exact congrArg (V 102) (by omega)
      have k9 : ∀ p : Nat, p ∉ ([1, 2, 3, 4, 5, 6, 7, 15, 99, 100, 114] : List Nat) → V2 p = V p := fun p hp => ((f2 p (nsub hp (by decide))).trans ((rowN (nne hp (by decide))).trans (f1 p (nsub hp (by decide)))))
      exact kk _ _ (LvI_new hJ hj p2 (Sh_ext (Sh_fr (Sh_u x0 (by decide)) f2 (by decide)) c72) (SI_ext (SI_le (hD.2.2.2 c0).2 (by omega)) c72) (LvC_clear hC ((f2 15 (by decide)).trans ((rowN (by decide)).trans w15)) (by rw [y99, up_self])) (congrFun (k9 0 (by decide)) 8) (LvE_keep hE (k9 0 (by decide)) (by rw [y99]; simp [up]) (by rw [y99]; simp [up])) (LvT_keep ⟨nT, qT, lT, hn6, h20, hT⟩ (by rw [y99]; simp [up]) (k9 110 (by decide)) (fun p hp => k9 p (by simp; omega))) (congrFun (k9 92 (by decide)) 0) (by rw [y99]; simp [up]) (by rw [y99]; simp [up]) (fun p hp hs => k9 p (nsub hp (by decide))))
    · exfalso; omega
  · refine j1 ?_
    refine ia_istore (pc := 2365) F (ls' := [(4, ((ia_E0 + 400 : Nat) : Int)), (4, ((0 : Nat) : Int)), (4, ((99 : Nat) : Int)), (4, ((114 : Nat) : Int)), (4, ((115 : Nat) : Int)), (0, (ix : Int)), (0, 1), (9, 0), (9, 0)]) dL_law_2365 (Nat.le_of_ble_eq_true rfl) rfl rfl ?_
    refine ia_aload_n (pc := 2367) F dL_law_2367 rfl ?_
    refine jV (pc := 2368) F 0 0 (z99 hZ) cls11.1 (c_X8_restore hZ hP rfl rfl rfl (by rw [hD.2.1]; exact hD.1) (fun V2 d0 p2 y99 y100 f2 => ?_) (fun V2 d0 p2 y99 y100 f2 => ?_)) rfl ⟨k_X8_restore, il_RL_318, im_X8_restore, is_X8_restore, ii_RX8⟩ 0 rfl hd_X8_restore ⟨by decide, by decide, by omega, by omega, Nat.le_of_ble_eq_true rfl⟩ dL_law_2368
    · exfalso; omega
    · refine j1 ?_
      refine ia_istore (pc := 2371) F (ls' := [(4, ((ia_E0 + 400 : Nat) : Int)), (4, ((0 : Nat) : Int)), (4, ((99 : Nat) : Int)), (4, ((114 : Nat) : Int)), (4, ((115 : Nat) : Int)), (0, (ix : Int)), (0, 1), (0, 0), (9, 0)]) dL_law_2371 (Nat.le_of_ble_eq_true rfl) rfl rfl ?_
      refine ia_aload_n (pc := 2373) F dL_law_2373 rfl ?_
      refine jV (pc := 2374) F 0 0 (z99 hZ) cls11.1 (c_X8_thrown hZ p2 rfl rfl ?_) rfl ⟨k_X8_thrown, il_RL_138, im_X8_thrown, is_X8_thrown, ii_RX8⟩ 0 rfl hd_X8_thrown ⟨by decide, by decide, by omega, by omega, Nat.le_of_ble_eq_true rfl⟩ dL_law_2374
      refine j1 ?_
      refine ia_iload (pc := 2377) F dL_law_2377 rfl ?_
      refine lq_icmp (pc := 2379) F 2384 dL_law_2379 rfl (by rw [y99]; simp [up]) ?_
      refine ia_iload (pc := 2384) F dL_law_2384 rfl ?_
      refine lq_ifn (pc := 2386) F 2401 dL_law_2386 rfl (by omega) ?_
      refine ia_goto (pc := 2401) F 2404 dL_law_2401 rfl ?_
      refine jw [false, false, false, false, false, false, true, true, true] rfl ?_
      refine lq_wid (c2 := cells + 30) (s2 := slots + 7000) (by omega) (by omega) ?_
      exact kk _ _ (LvI_keep hJ hj p2 (fun p hp hs => ((f2 p (nsub hp (by decide))).trans rfl)) y100 (f2 103 (by decide)) (fun z h9 => by rw [y99]; simp only [up, if_neg h9]))
