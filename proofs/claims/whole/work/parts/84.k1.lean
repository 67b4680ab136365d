/-! x -/
set_option maxRecDepth 100000 in
set_option maxHeartbeats 2000000 in
set_option linter.constructorNameAsVariable false in
theorem lcs_9 {X : ia_X} {cells slots LX ix jj : Nat} {xs : Nat → Int32} {Z : ia_Z} {V : ia_H} (F : ia_Fix X RL cL_law 9 20 20000 3600000) (hX : LSc X LX xs) (hi : ix + 2 < LX ∧ LX ≤ 1536) (hJ : LvI jj Z V) (hj : jj < 512) (hc : cells + 30 ≤ 20000 ∧ slots + 7000 ≤ 3600000) (kk : ∀ (Z9 : ia_Z) (V9 : ia_H), LvI (jj + 1) Z9 V9 → ia_G X (cells + 30) (slots + 7000) 2404 [(4, ((ia_E0 + 400 : Nat) : Int)), (4, ((0 : Nat) : Int)), (4, ((99 : Nat) : Int)), (4, ((114 : Nat) : Int)), (4, ((115 : Nat) : Int)), (0, (ix : Int)), (9, 0), (9, 0), (9, 0)] [] Z9 V9) : ia_G X cells slots 734 [(4, ((ia_E0 + 400 : Nat) : Int)), (4, ((0 : Nat) : Int)), (4, ((99 : Nat) : Int)), (4, ((114 : Nat) : Int)), (4, ((115 : Nat) : Int)), (0, (ix : Int)), (9, 0), (9, 0), (9, 0)] [] Z V := by
  obtain ⟨⟨hZ, hP, hz, hj2⟩, ⟨hB1, hB2⟩, hC, hD, hE, ⟨nT, qT, lT, hn6, h20, hT⟩, ⟨nU, qU, lU, hn7, h15, hU⟩, hne⟩ := id hJ
  obtain ⟨s0, s1, s2, s3, s4, s5, s6, s7, s18, sb, sw, se, sp⟩ := id hB2
  have hχ := hC.1
  have hd : 0 ≤ V 99 10 ∧ V 99 10 ≤ 8 := by have := hC.2.1; omega
  have hd1 := hC.2.1
  have h7 : (V 100 0).toNat ≤ 7 := by omega
  obtain ⟨c, ea0⟩ : ∃ y : Int, (xs (ix + 1)).toInt = y := ⟨_, rfl⟩
  have ra0 := i32_rng (xs (ix + 1))
  rw [ea0] at ra0
  obtain ⟨u, ea1⟩ : ∃ y : Int, (xs (ix + 2)).toInt = y := ⟨_, rfl⟩
  have ra1 := i32_rng (xs (ix + 2))
  rw [ea1] at ra1
  refine ia_aload_n (pc := 734) F dL_law_734 rfl ?_
  refine ia_aload_n (pc := 735) F dL_law_735 rfl ?_
  refine ia_iload (pc := 736) F dL_law_736 rfl ?_
  refine ia_iconst (pc := 738) F dL_law_738 ?_
  refine ia_iadd (pc := 739) F dL_law_739 ?_
  refine ia_sl (pc := 740) F hX (ix + 1) (by omega) ⟨by omega, hi.2⟩ ea0 dL_law_740 ?_
  refine ia_aload_n (pc := 741) F dL_law_741 rfl ?_
  refine ia_iload (pc := 742) F dL_law_742 rfl ?_
  refine ia_iconst (pc := 744) F dL_law_744 ?_
  refine ia_iadd (pc := 745) F dL_law_745 ?_
  refine ia_sl (pc := 746) F hX (ix + 2) (by omega) ⟨by omega, hi.2⟩ ea1 dL_law_746 ?_
  refine ia_aload_n (pc := 747) F dL_law_747 rfl ?_
  refine jSH (pc := 748) F (h_addEdition c u hZ hP hB1 hB2 rfl hχ (by omega) (by omega) (fun V1 c0 p1 f1 x0 => ?_) (fun V1 c0 c1 p1 f1 x0 => ?_) (fun V1 c0 c1 p1 w15 f1 x0 x1 x2 => ?_)) rfl ⟨k_L_addEdition, il_RL_168, it_L_addEdition, ii_RL⟩ 4 rfl hd_L_addEdition ⟨by decide, by decide, by omega, by omega, Nat.le_of_ble_eq_true rfl⟩ dL_law_748
  · refine j1 ?_
    refine ia_istore (pc := 751) F (ls' := [(4, ((ia_E0 + 400 : Nat) : Int)), (4, ((0 : Nat) : Int)), (4, ((99 : Nat) : Int)), (4, ((114 : Nat) : Int)), (4, ((115 : Nat) : Int)), (0, (ix : Int)), (0, 1), (9, 0), (9, 0)]) dL_law_751 (Nat.le_of_ble_eq_true rfl) rfl rfl ?_
    refine ia_aload_n (pc := 753) F dL_law_753 rfl ?_
    refine ia_aload_n (pc := 754) F dL_law_754 rfl ?_
    refine ia_iload (pc := 755) F dL_law_755 rfl ?_
    refine ia_iconst (pc := 757) F dL_law_757 ?_
    refine ia_iadd (pc := 758) F dL_law_758 ?_
    refine ia_sl (pc := 759) F hX (ix + 1) (by omega) ⟨by omega, hi.2⟩ ea0 dL_law_759 ?_
    refine ia_aload_n (pc := 760) F dL_law_760 rfl ?_
    refine ia_iload (pc := 761) F dL_law_761 rfl ?_
    refine ia_iconst (pc := 763) F dL_law_763 ?_
    refine ia_iadd (pc := 764) F dL_law_764 ?_
    refine ia_sl (pc := 765) F hX (ix + 2) (by omega) ⟨by omega, hi.2⟩ ea1 dL_law_765 ?_
    refine jV (pc := 766) F 0 0 (z99 hZ) cls11.1 (c_X8_addEdition c u hZ p1 hB2 (f1 99 (by decide)) (f1 100 (by decide)) (f1 101 (by decide)) (f1 103 (by decide)) (by omega) (by omega) hd (fun V2 d0 p2 y99 y100 y101 y103 f2 => ?_) (fun V2 d0 d1 p2 y99 y100 y101 y103 f2 => ?_) (fun V2 d0 d1 p2 y99 y100 y101 y103 f2 => ?_)) rfl ⟨k_X8_addEdition, il_RL_170, im_X8_addEdition, is_X8_addEdition, ii_RX8⟩ 2 rfl hd_X8_addEdition ⟨by decide, by decide, by omega, by omega, Nat.le_of_ble_eq_true rfl⟩ dL_law_766
    · refine j1 ?_
      refine ia_istore (pc := 769) F (ls' := [(4, ((ia_E0 + 400 : Nat) : Int)), (4, ((0 : Nat) : Int)), (4, ((99 : Nat) : Int)), (4, ((114 : Nat) : Int)), (4, ((115 : Nat) : Int)), (0, (ix : Int)), (0, 1), (0, 0), (9, 0)]) dL_law_769 (Nat.le_of_ble_eq_true rfl) rfl rfl ?_
      refine ia_aload_n (pc := 771) F dL_law_771 rfl ?_
      refine jV (pc := 772) F 0 0 (z99 hZ) cls11.1 (c_X8_thrown hZ p2 rfl rfl ?_) rfl ⟨k_X8_thrown, il_RL_138, im_X8_thrown, is_X8_thrown, ii_RX8⟩ 0 rfl hd_X8_thrown ⟨by decide, by decide, by omega, by omega, Nat.le_of_ble_eq_true rfl⟩ dL_law_772
      refine j1 ?_
      refine ia_iload (pc := 775) F dL_law_775 rfl ?_
      refine lq_icmp (pc := 777) F 782 dL_law_777 rfl (by rw [y99]; simp [up]) ?_
      refine ia_iload (pc := 782) F dL_law_782 rfl ?_
      refine lq_ifn (pc := 784) F 799 dL_law_784 rfl (by omega) ?_
      refine ia_goto (pc := 799) F 2404 dL_law_799 rfl ?_
      refine jw [false, false, false, false, false, false, true, true, true] rfl ?_
      refine lq_wid (c2 := cells + 30) (s2 := slots + 7000) (by omega) (by omega) ?_
      exact kk _ _ (LvI_keep hJ hj p2 (fun p hp hs => ((f2 p (nsub hp (by decide))).trans (x0 p hs))) y100 y103 (fun z h9 => by rw [y99]; simp only [up, if_neg h9]))
    · exfalso; omega
    · exfalso; omega
  · refine j1 ?_
    refine ia_istore (pc := 751) F (ls' := [(4, ((ia_E0 + 400 : Nat) : Int)), (4, ((0 : Nat) : Int)), (4, ((99 : Nat) : Int)), (4, ((114 : Nat) : Int)), (4, ((115 : Nat) : Int)), (0, (ix : Int)), (0, 2), (9, 0), (9, 0)]) dL_law_751 (Nat.le_of_ble_eq_true rfl) rfl rfl ?_
    refine ia_aload_n (pc := 753) F dL_law_753 rfl ?_
    refine ia_aload_n (pc := 754) F dL_law_754 rfl ?_
    refine ia_iload (pc := 755) F dL_law_755 rfl ?_
    refine ia_iconst (pc := 757) F dL_law_757 ?_
    refine ia_iadd (pc := 758) F dL_law_758 ?_
    refine ia_sl (pc := 759) F hX (ix + 1) (by omega) ⟨by omega, hi.2⟩ ea0 dL_law_759 ?_
    refine ia_aload_n (pc := 760) F dL_law_760 rfl ?_
    refine ia_iload (pc := 761) F dL_law_761 rfl ?_
    refine ia_iconst (pc := 763) F dL_law_763 ?_
    refine ia_iadd (pc := 764) F dL_law_764 ?_
    refine ia_sl (pc := 765) F hX (ix + 2) (by omega) ⟨by omega, hi.2⟩ ea1 dL_law_765 ?_
    refine jV (pc := 766) F 0 0 (z99 hZ) cls11.1 (c_X8_addEdition c u hZ p1 hB2 (f1 99 (by decide)) (f1 100 (by decide)) (f1 101 (by decide)) (f1 103 (by decide)) (by omega) (by omega) hd (fun V2 d0 p2 y99 y100 y101 y103 f2 => ?_) (fun V2 d0 d1 p2 y99 y100 y101 y103 f2 => ?_) (fun V2 d0 d1 p2 y99 y100 y101 y103 f2 => ?_)) rfl ⟨k_X8_addEdition, il_RL_170, im_X8_addEdition, is_X8_addEdition, ii_RX8⟩ 2 rfl hd_X8_addEdition ⟨by decide, by decide, by omega, by omega, Nat.le_of_ble_eq_true rfl⟩ dL_law_766
    · exfalso; omega
    · refine j1 ?_
      refine ia_istore (pc := 769) F (ls' := [(4, ((ia_E0 + 400 : Nat) : Int)), (4, ((0 : Nat) : Int)), (4, ((99 : Nat) : Int)), (4, ((114 : Nat) : Int)), (4, ((115 : Nat) : Int)), (0, (ix : Int)), (0, 2), (0, 0), (9, 0)]) dL_law_769 (Nat.le_of_ble_eq_true rfl) rfl rfl ?_
      refine ia_aload_n (pc := 771) F dL_law_771 rfl ?_
      refine jV (pc := 772) F 0 0 (z99 hZ) cls11.1 (c_X8_thrown hZ p2 rfl rfl ?_) rfl ⟨k_X8_thrown, il_RL_138, im_X8_thrown, is_X8_thrown, ii_RX8⟩ 0 rfl hd_X8_thrown ⟨by decide, by decide, by omega, by omega, Nat.le_of_ble_eq_true rfl⟩ dL_law_772
      refine j1 ?_
      refine ia_iload (pc := 775) F dL_law_775 rfl ?_
      refine lq_icmp (pc := 777) F 782 dL_law_777 rfl (by rw [y99]; simp [up]) ?_
      refine ia_iload (pc := 782) F dL_law_782 rfl ?_
      refine lq_ifn (pc := 784) F 799 dL_law_784 rfl (by omega) ?_
      refine ia_goto (pc := 799) F 2404 dL_law_799 rfl ?_
      refine jw [false, false, false, false, false, false, true, true, true] rfl ?_
      refine lq_wid (c2 := cells + 30) (s2 := slots + 7000) (by omega) (by omega) ?_
      exact kk _ _ (LvI_keep hJ hj p2 (fun p hp hs => ((f2 p (nsub hp (by decide))).trans (x0 p hs))) y100 y103 (fun z h9 => by rw [y99]; simp only [up, if_neg h9]))
    · exfalso; omega
  · refine j1 ?_
    refine ia_istore (pc := 751) F (ls' := [(4, ((ia_E0 + 400 : Nat) : Int)), (4, ((0 : Nat) : Int)), (4, ((99 : Nat) : Int)), (4, ((114 : Nat) : Int)), (4, ((115 : Nat) : Int)), (0, (ix : Int)), (0, 0), (9, 0), (9, 0)]) dL_law_751 (Nat.le_of_ble_eq_true rfl) rfl rfl ?_
    refine ia_aload_n (pc := 753) F dL_law_753 rfl ?_
    refine ia_aload_n (pc := 754) F dL_law_754 rfl ?_
    refine ia_iload (pc := 755) F dL_law_755 rfl ?_
    refine ia_iconst (pc := 757) F dL_law_757 ?_
    refine ia_iadd (pc := 758) F dL_law_758 ?_
    refine ia_sl (pc := 759) F hX (ix + 1) (by omega) ⟨by omega, hi.2⟩ ea0 dL_law_759 ?_
    refine ia_aload_n (pc := 760) F dL_law_760 rfl ?_
    refine ia_iload (pc := 761) F dL_law_761 rfl ?_
    refine ia_iconst (pc := 763) F dL_law_763 ?_
    refine ia_iadd (pc := 764) F dL_law_764 ?_
    refine ia_sl (pc := 765) F hX (ix + 2) (by omega) ⟨by omega, hi.2⟩ ea1 dL_law_765 ?_
    refine jV (pc := 766) F 0 0 (z99 hZ) cls11.1 (c_X8_addEdition c u hZ (PI_u p1 rfl) hB2 ((rowN (by decide)).trans (f1 99 (by decide))) ((rowN (by decide)).trans (f1 100 (by decide))) ((rowN (by decide)).trans (f1 101 (by decide))) ((rowN (by decide)).trans (f1 103 (by decide))) (by omega) (by omega) hd (fun V2 d0 p2 y99 y100 y101 y103 f2 => ?_) (fun V2 d0 d1 p2 y99 y100 y101 y103 f2 => ?_) (fun V2 d0 d1 p2 y99 y100 y101 y103 f2 => ?_)) rfl ⟨k_X8_addEdition, il_RL_170, im_X8_addEdition, is_X8_addEdition, ii_RX8⟩ 2 rfl hd_X8_addEdition ⟨by decide, by decide, by omega, by omega, Nat.le_of_ble_eq_true rfl⟩ dL_law_766
    · exfalso; omega
    · exfalso; omega
    · refine j1 ?_
      refine ia_istore (pc := 769) F (ls' := [(4, ((ia_E0 + 400 : Nat) : Int)), (4, ((0 : Nat) : Int)), (4, ((99 : Nat) : Int)), (4, ((114 : Nat) : Int)), (4, ((115 : Nat) : Int)), (0, (ix : Int)), (0, 0), (0, ((V 100) 0 + 1 - 1)), (9, 0)]) dL_law_769 (Nat.le_of_ble_eq_true rfl) rfl rfl ?_
      refine ia_aload_n (pc := 771) F dL_law_771 rfl ?_
      refine jV (pc := 772) F 0 0 (z99 hZ) cls11.1 (c_X8_thrown hZ p2 rfl rfl ?_) rfl ⟨k_X8_thrown, il_RL_138, im_X8_thrown, is_X8_thrown, ii_RX8⟩ 0 rfl hd_X8_thrown ⟨by decide, by decide, by omega, by omega, Nat.le_of_ble_eq_true rfl⟩ dL_law_772
      refine j1 ?_
      refine ia_iload (pc := 775) F dL_law_775 rfl ?_
      refine lq_icmp (pc := 777) F 782 dL_law_777 rfl (by rw [y99]; simp [up]) ?_
      refine ia_iload (pc := 782) F dL_law_782 rfl ?_
      refine lq_ifz (pc := 784) F dL_law_784 799 rfl ?_
      refine ia_aload_n (pc := 787) F dL_law_787 rfl ?_
      refine ia_iconst (pc := 788) F dL_law_788 ?_
      refine jal (pc := 789) F (z114 hZ) 0 rfl (by decide) ((congrFun (f2 114 (by decide)) 0).trans (ia_u_self _ _ _ _)) dL_law_789 ?_
      refine ia_iload (pc := 790) F dL_law_790 rfl ?_
      have e9 : ((V 100) 0) = ((V 100) 0 + 1 - 1) := (by omega)
      refine ia_i2lr (pc := 792) F dL_law_792 (by omega) ?_
      refine lq_lcmp (pc := 793) F dL_law_793 e9 ?_
      refine lq_if0 (pc := 794) F 799 dL_law_794 rfl ?_
      refine ia_goto (pc := 799) F 2404 dL_law_799 rfl ?_
      refine jw [false, false, false, false, false, false, true, true, true] rfl ?_
      refine lq_wid (c2 := cells + 30) (s2 := slots + 7000) (by omega) (by omega) ?_
      exact kk _ _ (LvI_mod hJ hj p2 (by rw [y100]; exact Sh_fr (Sh_u x0 (by decide)) f2 (by decide)) (by rw [y100]; exact SI_add c0.1 c0.2 (by omega) hB2 (by omega)) ((f2 15 (by decide)).trans ((rowN (by decide)).trans w15)) (Sh_mv x1 (fun p g1 g2 => (f2 p (by simp; omega)).trans (rowN (by omega)))) (by first | exact y103 | rw [y103, up_ne (by decide)]) (by rw [y99, up_self]; try rw [up_ne (by decide)]) (fun z h9 h10 => by rw [y99]; simp only [up, if_neg h9, if_neg h10]) (fun p hp hs => ((f2 p (nsub hp (by decide))).trans ((rowN (nne hp (by decide))).trans (x2 p hs (nsub hp (by decide)))))))
set_option maxRecDepth 100000 in
set_option maxHeartbeats 2000000 in
set_option linter.constructorNameAsVariable false in
theorem lcs_10 {X : ia_X} {cells slots LX ix jj : Nat} {xs : Nat → Int32} {Z : ia_Z} {V : ia_H} (F : ia_Fix X RL cL_law 9 20 20000 3600000) (hX : LSc X LX xs) (hi : ix + 2 < LX ∧ LX ≤ 1536) (hJ : LvI jj Z V) (hj : jj < 512) (hc : cells + 30 ≤ 20000 ∧ slots + 7000 ≤ 3600000) (kk : ∀ (Z9 : ia_Z) (V9 : ia_H), LvI (jj + 1) Z9 V9 → ia_G X (cells + 30) (slots + 7000) 2404 [(4, ((ia_E0 + 400 : Nat) : Int)), (4, ((0 : Nat) : Int)), (4, ((99 : Nat) : Int)), (4, ((114 : Nat) : Int)), (4, ((115 : Nat) : Int)), (0, (ix : Int)), (9, 0), (9, 0), (9, 0)] [] Z9 V9) : ia_G X cells slots 802 [(4, ((ia_E0 + 400 : Nat) : Int)), (4, ((0 : Nat) : Int)), (4, ((99 : Nat) : Int)), (4, ((114 : Nat) : Int)), (4, ((115 : Nat) : Int)), (0, (ix : Int)), (9, 0), (9, 0), (9, 0)] [] Z V := by
  obtain ⟨⟨hZ, hP, hz, hj2⟩, ⟨hB1, hB2⟩, hC, hD, hE, ⟨nT, qT, lT, hn6, h20, hT⟩, ⟨nU, qU, lU, hn7, h15, hU⟩, hne⟩ := id hJ
  obtain ⟨s0, s1, s2, s3, s4, s5, s6, s7, s18, sb, sw, se, sp⟩ := id hB2
  have hχ := hC.1
  have hd : 0 ≤ V 99 10 ∧ V 99 10 ≤ 8 := by have := hC.2.1; omega
  have hd1 := hC.2.1
  have h7 : (V 100 0).toNat ≤ 7 := by omega
  obtain ⟨e, ea0⟩ : ∃ y : Int, (xs (ix + 1)).toInt = y := ⟨_, rfl⟩
  have ra0 := i32_rng (xs (ix + 1))
  rw [ea0] at ra0
  refine ia_aload_n (pc := 802) F dL_law_802 rfl ?_
  refine ia_aload_n (pc := 803) F dL_law_803 rfl ?_
  refine ia_iload (pc := 804) F dL_law_804 rfl ?_
  refine ia_iconst (pc := 806) F dL_law_806 ?_
  refine ia_iadd (pc := 807) F dL_law_807 ?_
  refine ia_sl (pc := 808) F hX (ix + 1) (by omega) ⟨by omega, hi.2⟩ ea0 dL_law_808 ?_
  refine ia_aload_n (pc := 809) F dL_law_809 rfl ?_
  refine jSH (pc := 810) F (h_removeEdition e hZ hP hB1 hB2 rfl hχ (by omega) (fun V1 c0 p1 f1 x0 => ?_) (fun V1 c0 p1 w15 f1 x0 x1 x2 => ?_)) rfl ⟨k_L_removeEdition, il_RL_171, it_L_removeEdition, ii_RL⟩ 3 rfl hd_L_removeEdition ⟨by decide, by decide, by omega, by omega, Nat.le_of_ble_eq_true rfl⟩ dL_law_810
  · refine j1 ?_
    refine ia_istore (pc := 813) F (ls' := [(4, ((ia_E0 + 400 : Nat) : Int)), (4, ((0 : Nat) : Int)), (4, ((99 : Nat) : Int)), (4, ((114 : Nat) : Int)), (4, ((115 : Nat) : Int)), (0, (ix : Int)), (0, 1), (9, 0), (9, 0)]) dL_law_813 (Nat.le_of_ble_eq_true rfl) rfl rfl ?_
    refine ia_aload_n (pc := 815) F dL_law_815 rfl ?_
    refine ia_aload_n (pc := 816) F dL_law_816 rfl ?_
    refine ia_iload (pc := 817) F dL_law_817 rfl ?_
    refine ia_iconst (pc := 819) F dL_law_819 ?_
    refine ia_iadd (pc := 820) F dL_law_820 ?_
    refine ia_sl (pc := 821) F hX (ix + 1) (by omega) ⟨by omega, hi.2⟩ ea0 dL_law_821 ?_
    refine jV (pc := 822) F 0 0 (z99 hZ) cls11.1 (c_X8_removeEdition e hZ p1 hB2 (f1 99 (by decide)) (f1 100 (by decide)) (f1 101 (by decide)) (f1 103 (by decide)) (by omega) hd (fun V2 d0 p2 y99 y100 y101 y103 f2 => ?_) (fun V2 d0 p2 y99 y100 y101 y103 f2 => ?_)) rfl ⟨k_X8_removeEdition, il_RL_173, im_X8_removeEdition, is_X8_removeEdition, ii_RX8⟩ 1 rfl hd_X8_removeEdition ⟨by decide, by decide, by omega, by omega, Nat.le_of_ble_eq_true rfl⟩ dL_law_822
    · exfalso; omega
    · refine j1 ?_
      refine ia_istore (pc := 825) F (ls' := [(4, ((ia_E0 + 400 : Nat) : Int)), (4, ((0 : Nat) : Int)), (4, ((99 : Nat) : Int)), (4, ((114 : Nat) : Int)), (4, ((115 : Nat) : Int)), (0, (ix : Int)), (0, 1), (0, 0), (9, 0)]) dL_law_825 (Nat.le_of_ble_eq_true rfl) rfl rfl ?_
      refine ia_aload_n (pc := 827) F dL_law_827 rfl ?_
      refine jV (pc := 828) F 0 0 (z99 hZ) cls11.1 (c_X8_thrown hZ p2 rfl rfl ?_) rfl ⟨k_X8_thrown, il_RL_138, im_X8_thrown, is_X8_thrown, ii_RX8⟩ 0 rfl hd_X8_thrown ⟨by decide, by decide, by omega, by omega, Nat.le_of_ble_eq_true rfl⟩ dL_law_828
      refine j1 ?_
      refine ia_iload (pc := 831) F dL_law_831 rfl ?_
      refine lq_icmp (pc := 833) F 838 dL_law_833 rfl (by rw [y99]; simp [up]) ?_
      refine ia_iload (pc := 838) F dL_law_838 rfl ?_
      refine lq_ifn (pc := 840) F 855 dL_law_840 rfl (by omega) ?_
      refine ia_goto (pc := 855) F 2404 dL_law_855 rfl ?_
      refine jw [false, false, false, false, false, false, true, true, true] rfl ?_
      refine lq_wid (c2 := cells + 30) (s2 := slots + 7000) (by omega) (by omega) ?_
      exact kk _ _ (LvI_keep hJ hj p2 (fun p hp hs => ((f2 p (nsub hp (by decide))).trans (x0 p hs))) y100 y103 (fun z h9 => by rw [y99]; simp only [up, if_neg h9]))
  · refine j1 ?_
    refine ia_istore (pc := 813) F (ls' := [(4, ((ia_E0 + 400 : Nat) : Int)), (4, ((0 : Nat) : Int)), (4, ((99 : Nat) : Int)), (4, ((114 : Nat) : Int)), (4, ((115 : Nat) : Int)), (0, (ix : Int)), (0, 0), (9, 0), (9, 0)]) dL_law_813 (Nat.le_of_ble_eq_true rfl) rfl rfl ?_
    refine ia_aload_n (pc := 815) F dL_law_815 rfl ?_
    refine ia_aload_n (pc := 816) F dL_law_816 rfl ?_
    refine ia_iload (pc := 817) F dL_law_817 rfl ?_
    refine ia_iconst (pc := 819) F dL_law_819 ?_
    refine ia_iadd (pc := 820) F dL_law_820 ?_
    refine ia_sl (pc := 821) F hX (ix + 1) (by omega) ⟨by omega, hi.2⟩ ea0 dL_law_821 ?_
    refine jV (pc := 822) F 0 0 (z99 hZ) cls11.1 (c_X8_removeEdition e hZ (PI_u p1 rfl) hB2 ((rowN (by decide)).trans (f1 99 (by decide))) ((rowN (by decide)).trans (f1 100 (by decide))) ((rowN (by decide)).trans (f1 101 (by decide))) ((rowN (by decide)).trans (f1 103 (by decide))) (by omega) hd (fun V2 d0 p2 y99 y100 y101 y103 f2 => ?_) (fun V2 d0 p2 y99 y100 y101 y103 f2 => ?_)) rfl ⟨k_X8_removeEdition, il_RL_173, im_X8_removeEdition, is_X8_removeEdition, ii_RX8⟩ 1 rfl hd_X8_removeEdition ⟨by decide, by decide, by omega, by omega, Nat.le_of_ble_eq_true rfl⟩ dL_law_822
    · refine j1 ?_
      refine ia_istore (pc := 825) F (ls' := [(4, ((ia_E0 + 400 : Nat) : Int)), (4, ((0 : Nat) : Int)), (4, ((99 : Nat) : Int)), (4, ((114 : Nat) : Int)), (4, ((115 : Nat) : Int)), (0, (ix : Int)), (0, 0), (0, ((V 100) 0 - 1)), (9, 0)]) dL_law_825 (Nat.le_of_ble_eq_true rfl) rfl rfl ?_
      refine ia_aload_n (pc := 827) F dL_law_827 rfl ?_
      refine jV (pc := 828) F 0 0 (z99 hZ) cls11.1 (c_X8_thrown hZ p2 rfl rfl ?_) rfl ⟨k_X8_thrown, il_RL_138, im_X8_thrown, is_X8_thrown, ii_RX8⟩ 0 rfl hd_X8_thrown ⟨by decide, by decide, by omega, by omega, Nat.le_of_ble_eq_true rfl⟩ dL_law_828
      refine j1 ?_
      refine ia_iload (pc := 831) F dL_law_831 rfl ?_
      refine lq_icmp (pc := 833) F 838 dL_law_833 rfl (by rw [y99]; simp [up]) ?_
      refine ia_iload (pc := 838) F dL_law_838 rfl ?_
      refine lq_ifz (pc := 840) F dL_law_840 855 rfl ?_
      refine ia_aload_n (pc := 843) F dL_law_843 rfl ?_
      refine ia_iconst (pc := 844) F dL_law_844 ?_
      refine jal (pc := 845) F (z114 hZ) 0 rfl (by decide) ((congrFun (f2 114 (by decide)) 0).trans (ia_u_self _ _ _ _)) dL_law_845 ?_
      refine ia_iload (pc := 846) F dL_law_846 rfl ?_
      have e9 : ((V 100) 0 - 1) = ((V 100) 0 - 1) := rfl
      refine ia_i2lr (pc := 848) F dL_law_848 (by omega) ?_
      refine lq_lcmp (pc := 849) F dL_law_849 e9 ?_
      refine lq_if0 (pc := 850) F 855 dL_law_850 rfl ?_
      refine ia_goto (pc := 855) F 2404 dL_law_855 rfl ?_
      refine jw [false, false, false, false, false, false, true, true, true] rfl ?_
      refine lq_wid (c2 := cells + 30) (s2 := slots + 7000) (by omega) (by omega) ?_
      exact kk _ _ (LvI_mod hJ hj p2 (by rw [y100]; exact Sh_fr (Sh_u x0 (by decide)) f2 (by decide)) (by rw [y100]; exact SI_rem (by omega) hB2 (by omega)) ((f2 15 (by decide)).trans ((rowN (by decide)).trans w15)) (Sh_mv x1 (fun p g1 g2 => (f2 p (by simp; omega)).trans (rowN (by omega)))) (by first | exact y103 | rw [y103, up_ne (by decide)]) (by rw [y99, up_self]; try rw [up_ne (by decide)]) (fun z h9 h10 => by rw [y99]; simp only [up, if_neg h9, if_neg h10]) (fun p hp hs => ((f2 p (nsub hp (by decide))).trans ((rowN (nne hp (by decide))).trans (x2 p hs (nsub hp (by decide)))))))
    · exfalso; omega
set_option maxRecDepth 100000 in
set_option maxHeartbeats 2000000 in
set_option linter.constructorNameAsVariable false in
theorem lcs_11 {X : ia_X} {cells slots LX ix jj : Nat} {xs : Nat → Int32} {Z : ia_Z} {V : ia_H} (F : ia_Fix X RL cL_law 9 20 20000 3600000) (hX : LSc X LX xs) (hi : ix + 2 < LX ∧ LX ≤ 1536) (hJ : LvI jj Z V) (hj : jj < 512) (hc : cells + 30 ≤ 20000 ∧ slots + 7000 ≤ 3600000) (kk : ∀ (Z9 : ia_Z) (V9 : ia_H), LvI (jj + 1) Z9 V9 → ia_G X (cells + 30) (slots + 7000) 2404 [(4, ((ia_E0 + 400 : Nat) : Int)), (4, ((0 : Nat) : Int)), (4, ((99 : Nat) : Int)), (4, ((114 : Nat) : Int)), (4, ((115 : Nat) : Int)), (0, (ix : Int)), (9, 0), (9, 0), (9, 0)] [] Z9 V9) : ia_G X cells slots 858 [(4, ((ia_E0 + 400 : Nat) : Int)), (4, ((0 : Nat) : Int)), (4, ((99 : Nat) : Int)), (4, ((114 : Nat) : Int)), (4, ((115 : Nat) : Int)), (0, (ix : Int)), (9, 0), (9, 0), (9, 0)] [] Z V := by
  obtain ⟨⟨hZ, hP, hz, hj2⟩, ⟨hB1, hB2⟩, hC, hD, hE, ⟨nT, qT, lT, hn6, h20, hT⟩, ⟨nU, qU, lU, hn7, h15, hU⟩, hne⟩ := id hJ
  obtain ⟨s0, s1, s2, s3, s4, s5, s6, s7, s18, sb, sw, se, sp⟩ := id hB2
  have hχ := hC.1
  have hd : 0 ≤ V 99 10 ∧ V 99 10 ≤ 8 := by have := hC.2.1; omega
  have hd1 := hC.2.1
  have h7 : (V 100 0).toNat ≤ 7 := by omega
  obtain ⟨e, ea0⟩ : ∃ y : Int, (xs (ix + 1)).toInt = y := ⟨_, rfl⟩
  have ra0 := i32_rng (xs (ix + 1))
  rw [ea0] at ra0
  refine ia_aload_n (pc := 858) F dL_law_858 rfl ?_
  refine ia_aload_n (pc := 859) F dL_law_859 rfl ?_
  refine ia_iload (pc := 860) F dL_law_860 rfl ?_
  refine ia_iconst (pc := 862) F dL_law_862 ?_
  refine ia_iadd (pc := 863) F dL_law_863 ?_
  refine ia_sl (pc := 864) F hX (ix + 1) (by omega) ⟨by omega, hi.2⟩ ea0 dL_law_864 ?_
  refine ia_aload_n (pc := 865) F dL_law_865 rfl ?_
  refine jSH (pc := 866) F (h_print e hZ hP hB1 hB2 rfl hχ (by omega) (fun V1 c0 p1 f1 x0 => ?_) (fun V1 c0 c1 p1 f1 x0 => ?_) (fun V1 c0 c1 c2 p1 f1 x0 => ?_) (fun nc V1 c0 c1 c2 c3 p1 w15 f1 x0 x1 x2 => ?_)) rfl ⟨k_L_print, il_RL_174, it_L_print, ii_RL⟩ 3 rfl hd_L_print ⟨by decide, by decide, by omega, by omega, Nat.le_of_ble_eq_true rfl⟩ dL_law_866
  · refine j1 ?_
    refine ia_istore (pc := 869) F (ls' := [(4, ((ia_E0 + 400 : Nat) : Int)), (4, ((0 : Nat) : Int)), (4, ((99 : Nat) : Int)), (4, ((114 : Nat) : Int)), (4, ((115 : Nat) : Int)), (0, (ix : Int)), (0, 1), (9, 0), (9, 0)]) dL_law_869 (Nat.le_of_ble_eq_true rfl) rfl rfl ?_
    refine ia_aload_n (pc := 871) F dL_law_871 rfl ?_
    refine ia_aload_n (pc := 872) F dL_law_872 rfl ?_
    refine ia_iload (pc := 873) F dL_law_873 rfl ?_
    refine ia_iconst (pc := 875) F dL_law_875 ?_
    refine ia_iadd (pc := 876) F dL_law_876 ?_
    refine ia_sl (pc := 877) F hX (ix + 1) (by omega) ⟨by omega, hi.2⟩ ea0 dL_law_877 ?_
    refine jV (pc := 878) F 0 0 (z99 hZ) cls11.1 (c_X8_print e hZ p1 hB2 (f1 99 (by decide)) (f1 100 (by decide)) (f1 101 (by decide)) (f1 103 (by decide)) (by omega) hd (fun V2 d0 p2 y99 y100 y101 y103 f2 => ?_) (fun V2 d0 d1 p2 y99 y100 y101 y103 f2 => ?_) (fun V2 d0 d1 d2 p2 y99 y100 y101 y103 f2 => ?_) (fun nm V2 d0 d1 d2 d3 p2 y99 y100 y101 y103 f2 => ?_)) rfl ⟨k_X8_print, il_RL_176, im_X8_print, is_X8_print, ii_RX8⟩ 1 rfl hd_X8_print ⟨by decide, by decide, by omega, by omega, Nat.le_of_ble_eq_true rfl⟩ dL_law_878
    · refine j1 ?_
      refine ia_istore (pc := 881) F (ls' := [(4, ((ia_E0 + 400 : Nat) : Int)), (4, ((0 : Nat) : Int)), (4, ((99 : Nat) : Int)), (4, ((114 : Nat) : Int)), (4, ((115 : Nat) : Int)), (0, (ix : Int)), (0, 1), (0, 0), (9, 0)]) dL_law_881 (Nat.le_of_ble_eq_true rfl) rfl rfl ?_
      refine ia_aload_n (pc := 883) F dL_law_883 rfl ?_
      refine jV (pc := 884) F 0 0 (z99 hZ) cls11.1 (c_X8_thrown hZ p2 rfl rfl ?_) rfl ⟨k_X8_thrown, il_RL_138, im_X8_thrown, is_X8_thrown, ii_RX8⟩ 0 rfl hd_X8_thrown ⟨by decide, by decide, by omega, by omega, Nat.le_of_ble_eq_true rfl⟩ dL_law_884
      refine j1 ?_
      refine ia_iload (pc := 887) F dL_law_887 rfl ?_
      refine lq_icmp (pc := 889) F 894 dL_law_889 rfl (by rw [y99]; simp [up]) ?_
      refine ia_iload (pc := 894) F dL_law_894 rfl ?_
      refine lq_ifn (pc := 896) F 911 dL_law_896 rfl (by omega) ?_
      refine ia_goto (pc := 911) F 2404 dL_law_911 rfl ?_
      refine jw [false, false, false, false, false, false, true, true, true] rfl ?_
      refine lq_wid (c2 := cells + 30) (s2 := slots + 7000) (by omega) (by omega) ?_
      exact kk _ _ (LvI_keep hJ hj p2 (fun p hp hs => ((f2 p (nsub hp (by decide))).trans (x0 p hs))) y100 y103 (fun z h9 => by rw [y99]; simp only [up, if_neg h9]))
    · exfalso; omega
    · exfalso; omega
    · exfalso; omega
  · refine j1 ?_
    refine ia_istore (pc := 869) F (ls' := [(4, ((ia_E0 + 400 : Nat) : Int)), (4, ((0 : Nat) : Int)), (4, ((99 : Nat) : Int)), (4, ((114 : Nat) : Int)), (4, ((115 : Nat) : Int)), (0, (ix : Int)), (0, 2), (9, 0), (9, 0)]) dL_law_869 (Nat.le_of_ble_eq_true rfl) rfl rfl ?_
    refine ia_aload_n (pc := 871) F dL_law_871 rfl ?_
    refine ia_aload_n (pc := 872) F dL_law_872 rfl ?_
    refine ia_iload (pc := 873) F dL_law_873 rfl ?_
    refine ia_iconst (pc := 875) F dL_law_875 ?_
    refine ia_iadd (pc := 876) F dL_law_876 ?_
    refine ia_sl (pc := 877) F hX (ix + 1) (by omega) ⟨by omega, hi.2⟩ ea0 dL_law_877 ?_
    refine jV (pc := 878) F 0 0 (z99 hZ) cls11.1 (c_X8_print e hZ p1 hB2 (f1 99 (by decide)) (f1 100 (by decide)) (f1 101 (by decide)) (f1 103 (by decide)) (by omega) hd (fun V2 d0 p2 y99 y100 y101 y103 f2 => ?_) (fun V2 d0 d1 p2 y99 y100 y101 y103 f2 => ?_) (fun V2 d0 d1 d2 p2 y99 y100 y101 y103 f2 => ?_) (fun nm V2 d0 d1 d2 d3 p2 y99 y100 y101 y103 f2 => ?_)) rfl ⟨k_X8_print, il_RL_176, im_X8_print, is_X8_print, ii_RX8⟩ 1 rfl hd_X8_print ⟨by decide, by decide, by omega, by omega, Nat.le_of_ble_eq_true rfl⟩ dL_law_878
    · exfalso; omega
    · refine j1 ?_
      refine ia_istore (pc := 881) F (ls' := [(4, ((ia_E0 + 400 : Nat) : Int)), (4, ((0 : Nat) : Int)), (4, ((99 : Nat) : Int)), (4, ((114 : Nat) : Int)), (4, ((115 : Nat) : Int)), (0, (ix : Int)), (0, 2), (0, 0), (9, 0)]) dL_law_881 (Nat.le_of_ble_eq_true rfl) rfl rfl ?_
      refine ia_aload_n (pc := 883) F dL_law_883 rfl ?_
      refine jV (pc := 884) F 0 0 (z99 hZ) cls11.1 (c_X8_thrown hZ p2 rfl rfl ?_) rfl ⟨k_X8_thrown, il_RL_138, im_X8_thrown, is_X8_thrown, ii_RX8⟩ 0 rfl hd_X8_thrown ⟨by decide, by decide, by omega, by omega, Nat.le_of_ble_eq_true rfl⟩ dL_law_884
      refine j1 ?_
      refine ia_iload (pc := 887) F dL_law_887 rfl ?_
      refine lq_icmp (pc := 889) F 894 dL_law_889 rfl (by rw [y99]; simp [up]) ?_
      refine ia_iload (pc := 894) F dL_law_894 rfl ?_
      refine lq_ifn (pc := 896) F 911 dL_law_896 rfl (by omega) ?_
      refine ia_goto (pc := 911) F 2404 dL_law_911 rfl ?_
      refine jw [false, false, false, false, false, false, true, true, true] rfl ?_
      refine lq_wid (c2 := cells + 30) (s2 := slots + 7000) (by omega) (by omega) ?_
      exact kk _ _ (LvI_keep hJ hj p2 (fun p hp hs => ((f2 p (nsub hp (by decide))).trans (x0 p hs))) y100 y103 (fun z h9 => by rw [y99]; simp only [up, if_neg h9]))
    · exfalso; omega
    · exfalso; omega
  · refine j1 ?_
    refine ia_istore (pc := 869) F (ls' := [(4, ((ia_E0 + 400 : Nat) : Int)), (4, ((0 : Nat) : Int)), (4, ((99 : Nat) : Int)), (4, ((114 : Nat) : Int)), (4, ((115 : Nat) : Int)), (0, (ix : Int)), (0, 3), (9, 0), (9, 0)]) dL_law_869 (Nat.le_of_ble_eq_true rfl) rfl rfl ?_
    refine ia_aload_n (pc := 871) F dL_law_871 rfl ?_
    refine ia_aload_n (pc := 872) F dL_law_872 rfl ?_
    refine ia_iload (pc := 873) F dL_law_873 rfl ?_
    refine ia_iconst (pc := 875) F dL_law_875 ?_
    refine ia_iadd (pc := 876) F dL_law_876 ?_
    refine ia_sl (pc := 877) F hX (ix + 1) (by omega) ⟨by omega, hi.2⟩ ea0 dL_law_877 ?_
    refine jV (pc := 878) F 0 0 (z99 hZ) cls11.1 (c_X8_print e hZ p1 hB2 (f1 99 (by decide)) (f1 100 (by decide)) (f1 101 (by decide)) (f1 103 (by decide)) (by omega) hd (fun V2 d0 p2 y99 y100 y101 y103 f2 => ?_) (fun V2 d0 d1 p2 y99 y100 y101 y103 f2 => ?_) (fun V2 d0 d1 d2 p2 y99 y100 y101 y103 f2 => ?_) (fun nm V2 d0 d1 d2 d3 p2 y99 y100 y101 y103 f2 => ?_)) rfl ⟨k_X8_print, il_RL_176, im_X8_print, is_X8_print, ii_RX8⟩ 1 rfl hd_X8_print ⟨by decide, by decide, by omega, by omega, Nat.le_of_ble_eq_true rfl⟩ dL_law_878
    · exfalso; omega
    · exfalso; omega
    · refine j1 ?_
      refine ia_istore (pc := 881) F (ls' := [(4, ((ia_E0 + 400 : Nat) : Int)), (4, ((0 : Nat) : Int)), (4, ((99 : Nat) : Int)), (4, ((114 : Nat) : Int)), (4, ((115 : Nat) : Int)), (0, (ix : Int)), (0, 3), (0, 0), (9, 0)]) dL_law_881 (Nat.le_of_ble_eq_true rfl) rfl rfl ?_
      refine ia_aload_n (pc := 883) F dL_law_883 rfl ?_
      refine jV (pc := 884) F 0 0 (z99 hZ) cls11.1 (c_X8_thrown hZ p2 rfl rfl ?_) rfl ⟨k_X8_thrown, il_RL_138, im_X8_thrown, is_X8_thrown, ii_RX8⟩ 0 rfl hd_X8_thrown ⟨by decide, by decide, by omega, by omega, Nat.le_of_ble_eq_true rfl⟩ dL_law_884
      refine j1 ?_
      refine ia_iload (pc := 887) F dL_law_887 rfl ?_
      refine lq_icmp (pc := 889) F 894 dL_law_889 rfl (by rw [y99]; simp [up]) ?_
      refine ia_iload (pc := 894) F dL_law_894 rfl ?_
      refine lq_ifn (pc := 896) F 911 dL_law_896 rfl (by omega) ?_
      refine ia_goto (pc := 911) F 2404 dL_law_911 rfl ?_
      refine jw [false, false, false, false, false, false, true, true, true] rfl ?_
      refine lq_wid (c2 := cells + 30) (s2 := slots + 7000) (by omega) (by omega) ?_
      exact kk _ _ (LvI_keep hJ hj p2 (fun p hp hs => ((f2 p (nsub hp (by decide))).trans (x0 p hs))) y100 y103 (fun z h9 => by rw [y99]; simp only [up, if_neg h9]))
    · exfalso; omega
  · refine j1 ?_
    refine ia_istore (pc := 869) F (ls' := [(4, ((ia_E0 + 400 : Nat) : Int)), (4, ((0 : Nat) : Int)), (4, ((99 : Nat) : Int)), (4, ((114 : Nat) : Int)), (4, ((115 : Nat) : Int)), (0, (ix : Int)), (0, 0), (9, 0), (9, 0)]) dL_law_869 (Nat.le_of_ble_eq_true rfl) rfl rfl ?_
    refine ia_aload_n (pc := 871) F dL_law_871 rfl ?_
    refine ia_aload_n (pc := 872) F dL_law_872 rfl ?_
    refine ia_iload (pc := 873) F dL_law_873 rfl ?_
    refine ia_iconst (pc := 875) F dL_law_875 ?_
    refine ia_iadd (pc := 876) F dL_law_876 ?_
    refine ia_sl (pc := 877) F hX (ix + 1) (by omega) ⟨by omega, hi.2⟩ ea0 dL_law_877 ?_
    refine jV (pc := 878) F 0 0 (z99 hZ) cls11.1 (c_X8_print e hZ (PI_u p1 rfl) hB2 ((rowN (by decide)).trans (f1 99 (by decide))) ((rowN (by decide)).trans (f1 100 (by decide))) ((rowN (by decide)).trans (f1 101 (by decide))) ((rowN (by decide)).trans (f1 103 (by decide))) (by omega) hd (fun V2 d0 p2 y99 y100 y101 y103 f2 => ?_) (fun V2 d0 d1 p2 y99 y100 y101 y103 f2 => ?_) (fun V2 d0 d1 d2 p2 y99 y100 y101 y103 f2 => ?_) (fun nm V2 d0 d1 d2 d3 p2 y99 y100 y101 y103 f2 => ?_)) rfl ⟨k_X8_print, il_RL_176, im_X8_print, is_X8_print, ii_RX8⟩ 1 rfl hd_X8_print ⟨by decide, by decide, by omega, by omega, Nat.le_of_ble_eq_true rfl⟩ dL_law_878
    · exfalso; omega
    · exfalso; omega
    · exfalso; omega
    · refine j1 ?_
      refine ia_istore (pc := 881) F (ls' := [(4, ((ia_E0 + 400 : Nat) : Int)), (4, ((0 : Nat) : Int)), (4, ((99 : Nat) : Int)), (4, ((114 : Nat) : Int)), (4, ((115 : Nat) : Int)), (0, (ix : Int)), (0, 0), (0, nm), (9, 0)]) dL_law_881 (Nat.le_of_ble_eq_true rfl) rfl rfl ?_
      refine ia_aload_n (pc := 883) F dL_law_883 rfl ?_
      refine jV (pc := 884) F 0 0 (z99 hZ) cls11.1 (c_X8_thrown hZ p2 rfl rfl ?_) rfl ⟨k_X8_thrown, il_RL_138, im_X8_thrown, is_X8_thrown, ii_RX8⟩ 0 rfl hd_X8_thrown ⟨by decide, by decide, by omega, by omega, Nat.le_of_ble_eq_true rfl⟩ dL_law_884
      refine j1 ?_
      refine ia_iload (pc := 887) F dL_law_887 rfl ?_
      refine lq_icmp (pc := 889) F 894 dL_law_889 rfl (by rw [y99]; simp [up]) ?_
      refine ia_iload (pc := 894) F dL_law_894 rfl ?_
      refine lq_ifz (pc := 896) F dL_law_896 911 rfl ?_
      refine ia_aload_n (pc := 899) F dL_law_899 rfl ?_
      refine ia_iconst (pc := 900) F dL_law_900 ?_
      refine jal (pc := 901) F (z114 hZ) 0 rfl (by decide) ((congrFun (f2 114 (by decide)) 0).trans (ia_u_self _ _ _ _)) dL_law_901 ?_
      refine ia_iload (pc := 902) F dL_law_902 rfl ?_
      have r9 := se e.toNat (by omega)
      have r8 : miss (V 100) e.toNat = run (V 100) e.toNat - prt (V 100) e.toNat := rfl
      have r7 := sw (col (V 100) e.toNat).toNat (by omega)
      have e9 : nc = nm := (c3.trans d3.symm)
      refine ia_i2lr (pc := 904) F dL_law_904 (by omega) ?_
      refine lq_lcmp (pc := 905) F dL_law_905 e9 ?_
      refine lq_if0 (pc := 906) F 911 dL_law_906 rfl ?_
      refine ia_goto (pc := 911) F 2404 dL_law_911 rfl ?_
      refine jw [false, false, false, false, false, false, true, true, true] rfl ?_
      refine lq_wid (c2 := cells + 30) (s2 := slots + 7000) (by omega) (by omega) ?_
      have r9 := se e.toNat (by omega)
      have r8 : miss (V 100) e.toNat = run (V 100) e.toNat - prt (V 100) e.toNat := rfl
      have r7 := sw (col (V 100) e.toNat).toNat (by omega)
      exact kk _ _ (LvI_mod hJ hj p2 (by rw [y100, d3.trans c3.symm]; exact Sh_fr (Sh_u x0 (by decide)) f2 (by decide)) (by rw [y100, d3.trans c3.symm]; exact SI_print (m := 16 * (jj : Int)) (by omega) (by omega) (by omega) (by omega) hB2) ((f2 15 (by decide)).trans ((rowN (by decide)).trans w15)) (Sh_mv x1 (fun p g1 g2 => (f2 p (by simp; omega)).trans (rowN (by omega)))) (by first | exact y103 | rw [y103, up_ne (by decide)]) (by rw [y99, up_self]; try rw [up_ne (by decide)]) (fun z h9 h10 => by rw [y99]; simp only [up, if_neg h9, if_neg h10]) (fun p hp hs => ((f2 p (nsub hp (by decide))).trans ((rowN (nne hp (by decide))).trans (x2 p hs (nsub hp (by decide)))))))
set_option maxRecDepth 100000 in
set_option maxHeartbeats 2000000 in
set_option linter.constructorNameAsVariable false in
theorem lcs_12 {X : ia_X} {cells slots LX ix jj : Nat} {xs : Nat → Int32} {Z : ia_Z} {V : ia_H} (F : ia_Fix X RL cL_law 9 20 20000 3600000) (hX : LSc X LX xs) (hi : ix + 2 < LX ∧ LX ≤ 1536) (hJ : LvI jj Z V) (hj : jj < 512) (hc : cells + 30 ≤ 20000 ∧ slots + 7000 ≤ 3600000) (kk : ∀ (Z9 : ia_Z) (V9 : ia_H), LvI (jj + 1) Z9 V9 → ia_G X (cells + 30) (slots + 7000) 2404 [(4, ((ia_E0 + 400 : Nat) : Int)), (4, ((0 : Nat) : Int)), (4, ((99 : Nat) : Int)), (4, ((114 : Nat) : Int)), (4, ((115 : Nat) : Int)), (0, (ix : Int)), (9, 0), (9, 0), (9, 0)] [] Z9 V9) : ia_G X cells slots 914 [(4, ((ia_E0 + 400 : Nat) : Int)), (4, ((0 : Nat) : Int)), (4, ((99 : Nat) : Int)), (4, ((114 : Nat) : Int)), (4, ((115 : Nat) : Int)), (0, (ix : Int)), (9, 0), (9, 0), (9, 0)] [] Z V := by
  obtain ⟨⟨hZ, hP, hz, hj2⟩, ⟨hB1, hB2⟩, hC, hD, hE, ⟨nT, qT, lT, hn6, h20, hT⟩, ⟨nU, qU, lU, hn7, h15, hU⟩, hne⟩ := id hJ
  obtain ⟨s0, s1, s2, s3, s4, s5, s6, s7, s18, sb, sw, se, sp⟩ := id hB2
  have hχ := hC.1
  have hd : 0 ≤ V 99 10 ∧ V 99 10 ≤ 8 := by have := hC.2.1; omega
  have hd1 := hC.2.1
  have h7 : (V 100 0).toNat ≤ 7 := by omega
  refine ia_aload_n (pc := 914) F dL_law_914 rfl ?_
  refine jV (pc := 915) F 0 0 (z0 hZ) cls10.1 (c_X7_printAll hZ hP hB1 hB2 rfl rfl rfl rfl rfl rfl rfl hχ (by omega) (fun V1 p1 w15 f1 x0 x1 x2 => ?_)) rfl ⟨k_X7_printAll, il_RL_177, im_X7_printAll, is_X7_printAll, ii_RX7⟩ 0 rfl hd_X7_printAll ⟨by decide, by decide, by omega, by omega, Nat.le_of_ble_eq_true rfl⟩ dL_law_915
  refine j1 ?_
  refine ia_aload_n (pc := 918) F dL_law_918 rfl ?_
  refine jV (pc := 919) F 0 0 (z99 hZ) cls11.1 (c_X8_printAll hZ p1 hB2 (f1 99 (by decide)) (f1 100 (by decide)) (f1 101 (by decide)) (f1 103 (by decide)) (f1 104 (by decide)) (f1 105 (by decide)) (f1 108 (by decide)) hd (by omega) (fun V2 p2 y99 y101 y100 y103 f2 => ?_)) rfl ⟨k_X8_printAll, il_RL_180, im_X8_printAll, is_X8_printAll, ii_RX8⟩ 0 rfl hd_X8_printAll ⟨by decide, by decide, by omega, by omega, Nat.le_of_ble_eq_true rfl⟩ dL_law_919
  refine j1 ?_
  refine lq_icmp (pc := 922) F 2404 dL_law_922 rfl rfl ?_
  refine jw [false, false, false, false, false, false, true, true, true] rfl ?_
  refine lq_wid (c2 := cells + 30) (s2 := slots + 7000) (by omega) (by omega) ?_
  exact kk _ _ (LvI_mod hJ hj p2 (by rw [y100]; exact Sh_fr x0 f2 (by decide)) (by rw [y100]; exact SI_all hB2 (by omega)) ((f2 15 (by decide)).trans w15) (Sh_mv x1 (fun p g1 g2 => f2 p (by simp; omega))) (by first | exact y103 | rw [y103, up_ne (by decide)]) (by rw [y99, up_self]; try rw [up_ne (by decide)]) (fun z h9 h10 => by rw [y99]; simp only [up, if_neg h9, if_neg h10]) (fun p hp hs => ((f2 p (nsub hp (by decide))).trans (x2 p hs (nsub hp (by decide))))))
set_option maxRecDepth 100000 in
set_option maxHeartbeats 2000000 in
set_option linter.constructorNameAsVariable false in
theorem lcs_13 {X : ia_X} {cells slots LX ix jj : Nat} {xs : Nat → Int32} {Z : ia_Z} {V : ia_H} (F : ia_Fix X RL cL_law 9 20 20000 3600000) (hX : LSc X LX xs) (hi : ix + 2 < LX ∧ LX ≤ 1536) (hJ : LvI jj Z V) (hj : jj < 512) (hc : cells + 30 ≤ 20000 ∧ slots + 7000 ≤ 3600000) (kk : ∀ (Z9 : ia_Z) (V9 : ia_H), LvI (jj + 1) Z9 V9 → ia_G X (cells + 30) (slots + 7000) 2404 [(4, ((ia_E0 + 400 : Nat) : Int)), (4, ((0 : Nat) : Int)), (4, ((99 : Nat) : Int)), (4, ((114 : Nat) : Int)), (4, ((115 : Nat) : Int)), (0, (ix : Int)), (9, 0), (9, 0), (9, 0)] [] Z9 V9) : ia_G X cells slots 927 [(4, ((ia_E0 + 400 : Nat) : Int)), (4, ((0 : Nat) : Int)), (4, ((99 : Nat) : Int)), (4, ((114 : Nat) : Int)), (4, ((115 : Nat) : Int)), (0, (ix : Int)), (9, 0), (9, 0), (9, 0)] [] Z V := by
  obtain ⟨⟨hZ, hP, hz, hj2⟩, ⟨hB1, hB2⟩, hC, hD, hE, ⟨nT, qT, lT, hn6, h20, hT⟩, ⟨nU, qU, lU, hn7, h15, hU⟩, hne⟩ := id hJ
  obtain ⟨s0, s1, s2, s3, s4, s5, s6, s7, s18, sb, sw, se, sp⟩ := id hB2
  have hχ := hC.1
  have hd : 0 ≤ V 99 10 ∧ V 99 10 ≤ 8 := by have := hC.2.1; omega
  have hd1 := hC.2.1
  have h7 : (V 100 0).toNat ≤ 7 := by omega
  refine ia_aload_n (pc := 927) F dL_law_927 rfl ?_
  refine jV (pc := 928) F 0 0 (z0 hZ) cls10.1 (c_X7_editionCount hZ hP hB1 hB2 ?_) rfl ⟨k_X7_editionCount, il_RL_181, im_X7_editionCount, is_X7_editionCount, ii_RX7⟩ 0 rfl hd_X7_editionCount ⟨by decide, by decide, by omega, by omega, Nat.le_of_ble_eq_true rfl⟩ dL_law_928
  refine j1 ?_
  refine ia_aload_n (pc := 931) F dL_law_931 rfl ?_
  refine jV (pc := 932) F 0 0 (z99 hZ) cls11.1 (c_X8_editionCount hZ hP hB2 rfl rfl (fun V2 p2 y99 f2 => ?_)) rfl ⟨k_X8_editionCount, il_RL_184, im_X8_editionCount, is_X8_editionCount, ii_RX8⟩ 0 rfl hd_X8_editionCount ⟨by decide, by decide, by omega, by omega, Nat.le_of_ble_eq_true rfl⟩ dL_law_932
  refine j1 ?_
  refine lq_icmp (pc := 935) F 2404 dL_law_935 rfl rfl ?_
  refine jw [false, false, false, false, false, false, true, true, true] rfl ?_
  refine lq_wid (c2 := cells + 30) (s2 := slots + 7000) (by omega) (by omega) ?_
  exact kk _ _ (LvI_keep hJ hj p2 (fun p hp hs => ((f2 p (nsub hp (by decide))).trans rfl)) (f2 100 (by decide)) (f2 103 (by decide)) (fun z h9 => by rw [y99]; simp only [up, if_neg h9]))
set_option maxRecDepth 100000 in
set_option maxHeartbeats 2000000 in
set_option linter.constructorNameAsVariable false in
theorem lcs_14 {X : ia_X} {cells slots LX ix jj : Nat} {xs : Nat → Int32} {Z : ia_Z} {V : ia_H} (F : ia_Fix X RL cL_law 9 20 20000 3600000) (hX : LSc X LX xs) (hi : ix + 2 < LX ∧ LX ≤ 1536) (hJ : LvI jj Z V) (hj : jj < 512) (hc : cells + 30 ≤ 20000 ∧ slots + 7000 ≤ 3600000) (kk : ∀ (Z9 : ia_Z) (V9 : ia_H), LvI (jj + 1) Z9 V9 → ia_G X (cells + 30) (slots + 7000) 2404 [(4, ((ia_E0 + 400 : Nat) : Int)), (4, ((0 : Nat) : Int)), (4, ((99 : Nat) : Int)), (4, ((114 : Nat) : Int)), (4, ((115 : Nat) : Int)), (0, (ix : Int)), (9, 0), (9, 0), (9, 0)] [] Z9 V9) : ia_G X cells slots 940 [(4, ((ia_E0 + 400 : Nat) : Int)), (4, ((0 : Nat) : Int)), (4, ((99 : Nat) : Int)), (4, ((114 : Nat) : Int)), (4, ((115 : Nat) : Int)), (0, (ix : Int)), (9, 0), (9, 0), (9, 0)] [] Z V := by
  obtain ⟨⟨hZ, hP, hz, hj2⟩, ⟨hB1, hB2⟩, hC, hD, hE, ⟨nT, qT, lT, hn6, h20, hT⟩, ⟨nU, qU, lU, hn7, h15, hU⟩, hne⟩ := id hJ
  obtain ⟨s0, s1, s2, s3, s4, s5, s6, s7, s18, sb, sw, se, sp⟩ := id hB2
  have hχ := hC.1
  have hd : 0 ≤ V 99 10 ∧ V 99 10 ≤ 8 := by have := hC.2.1; omega
  have hd1 := hC.2.1
  have h7 : (V 100 0).toNat ≤ 7 := by omega
  obtain ⟨e, ea0⟩ : ∃ y : Int, (xs (ix + 1)).toInt = y := ⟨_, rfl⟩
  have ra0 := i32_rng (xs (ix + 1))
  rw [ea0] at ra0
  refine ia_aload_n (pc := 940) F dL_law_940 rfl ?_
  refine ia_aload_n (pc := 941) F dL_law_941 rfl ?_
  refine ia_iload (pc := 942) F dL_law_942 rfl ?_
  refine ia_iconst (pc := 944) F dL_law_944 ?_
  refine ia_iadd (pc := 945) F dL_law_945 ?_
  refine ia_sl (pc := 946) F hX (ix + 1) (by omega) ⟨by omega, hi.2⟩ ea0 dL_law_946 ?_
  refine ia_aload_n (pc := 947) F dL_law_947 rfl ?_
  refine jSH (pc := 948) F (h_colourOf e hZ hP hB1 hB2 (by omega) (fun c0 => ?_) (fun c0 => ?_)) rfl ⟨k_L_colourOf, il_RL_185, it_L_colourOf, ii_RL⟩ 3 rfl hd_L_colourOf ⟨by decide, by decide, by omega, by omega, Nat.le_of_ble_eq_true rfl⟩ dL_law_948
  · refine j1 ?_
    refine ia_istore (pc := 951) F (ls' := [(4, ((ia_E0 + 400 : Nat) : Int)), (4, ((0 : Nat) : Int)), (4, ((99 : Nat) : Int)), (4, ((114 : Nat) : Int)), (4, ((115 : Nat) : Int)), (0, (ix : Int)), (0, 0), (9, 0), (9, 0)]) dL_law_951 (Nat.le_of_ble_eq_true rfl) rfl rfl ?_
    refine ia_aload_n (pc := 953) F dL_law_953 rfl ?_
    refine ia_aload_n (pc := 954) F dL_law_954 rfl ?_
    refine ia_iload (pc := 955) F dL_law_955 rfl ?_
    refine ia_iconst (pc := 957) F dL_law_957 ?_
    refine ia_iadd (pc := 958) F dL_law_958 ?_
    refine ia_sl (pc := 959) F hX (ix + 1) (by omega) ⟨by omega, hi.2⟩ ea0 dL_law_959 ?_
    refine jV (pc := 960) F 0 0 (z99 hZ) cls11.1 (c_X8_colourOf e hZ (PI_u hP rfl) hB2 (rowN (by decide)) (rowN (by decide)) (by omega) (fun V2 d0 p2 y99 f2 => ?_) (fun V2 d0 p2 y99 f2 => ?_)) rfl ⟨k_X8_colourOf, il_RL_187, im_X8_colourOf, is_X8_colourOf, ii_RX8⟩ 1 rfl hd_X8_colourOf ⟨by decide, by decide, by omega, by omega, Nat.le_of_ble_eq_true rfl⟩ dL_law_960
    · refine j1 ?_
      refine ia_istore (pc := 963) F (ls' := [(4, ((ia_E0 + 400 : Nat) : Int)), (4, ((0 : Nat) : Int)), (4, ((99 : Nat) : Int)), (4, ((114 : Nat) : Int)), (4, ((115 : Nat) : Int)), (0, (ix : Int)), (0, 0), (0, (col (V 100) e.toNat)), (9, 0)]) dL_law_963 (Nat.le_of_ble_eq_true rfl) rfl rfl ?_
      refine ia_aload_n (pc := 965) F dL_law_965 rfl ?_
      refine jV (pc := 966) F 0 0 (z99 hZ) cls11.1 (c_X8_thrown hZ p2 rfl rfl ?_) rfl ⟨k_X8_thrown, il_RL_138, im_X8_thrown, is_X8_thrown, ii_RX8⟩ 0 rfl hd_X8_thrown ⟨by decide, by decide, by omega, by omega, Nat.le_of_ble_eq_true rfl⟩ dL_law_966
      refine j1 ?_
      refine ia_iload (pc := 969) F dL_law_969 rfl ?_
      refine lq_icmp (pc := 971) F 976 dL_law_971 rfl (by rw [y99]; simp [up]) ?_
      refine ia_iload (pc := 976) F dL_law_976 rfl ?_
      refine lq_ifz (pc := 978) F dL_law_978 993 rfl ?_
      refine ia_aload_n (pc := 981) F dL_law_981 rfl ?_
      refine ia_iconst (pc := 982) F dL_law_982 ?_
      refine jal (pc := 983) F (z114 hZ) 0 rfl (by decide) ((congrFun (f2 114 (by decide)) 0).trans (ia_u_self _ _ _ _)) dL_law_983 ?_
      refine ia_iload (pc := 984) F dL_law_984 rfl ?_
      have r9 := se e.toNat (by omega)
      have e9 : (col (V 100) e.toNat) = (col (V 100) e.toNat) := rfl
      refine ia_i2lr (pc := 986) F dL_law_986 (by omega) ?_
      refine lq_lcmp (pc := 987) F dL_law_987 e9 ?_
      refine lq_if0 (pc := 988) F 993 dL_law_988 rfl ?_
      refine ia_goto (pc := 993) F 2404 dL_law_993 rfl ?_
      refine jw [false, false, false, false, false, false, true, true, true] rfl ?_
      refine lq_wid (c2 := cells + 30) (s2 := slots + 7000) (by omega) (by omega) ?_
      exact kk _ _ (LvI_keep hJ hj p2 (fun p hp hs => ((f2 p (nsub hp (by decide))).trans (rowN (nne hp (by decide))))) ((f2 100 (by decide)).trans (rowN (by decide))) ((f2 103 (by decide)).trans (rowN (by decide))) (fun z h9 => by rw [y99]; simp only [up, if_neg h9]))
    · exfalso; omega
  · refine j1 ?_
    refine ia_istore (pc := 951) F (ls' := [(4, ((ia_E0 + 400 : Nat) : Int)), (4, ((0 : Nat) : Int)), (4, ((99 : Nat) : Int)), (4, ((114 : Nat) : Int)), (4, ((115 : Nat) : Int)), (0, (ix : Int)), (0, 1), (9, 0), (9, 0)]) dL_law_951 (Nat.le_of_ble_eq_true rfl) rfl rfl ?_
    refine ia_aload_n (pc := 953) F dL_law_953 rfl ?_
    refine ia_aload_n (pc := 954) F dL_law_954 rfl ?_
    refine ia_iload (pc := 955) F dL_law_955 rfl ?_
    refine ia_iconst (pc := 957) F dL_law_957 ?_
    refine ia_iadd (pc := 958) F dL_law_958 ?_
    refine ia_sl (pc := 959) F hX (ix + 1) (by omega) ⟨by omega, hi.2⟩ ea0 dL_law_959 ?_
    refine jV (pc := 960) F 0 0 (z99 hZ) cls11.1 (c_X8_colourOf e hZ hP hB2 rfl rfl (by omega) (fun V2 d0 p2 y99 f2 => ?_) (fun V2 d0 p2 y99 f2 => ?_)) rfl ⟨k_X8_colourOf, il_RL_187, im_X8_colourOf, is_X8_colourOf, ii_RX8⟩ 1 rfl hd_X8_colourOf ⟨by decide, by decide, by omega, by omega, Nat.le_of_ble_eq_true rfl⟩ dL_law_960
    · exfalso; omega
    · refine j1 ?_
      refine ia_istore (pc := 963) F (ls' := [(4, ((ia_E0 + 400 : Nat) : Int)), (4, ((0 : Nat) : Int)), (4, ((99 : Nat) : Int)), (4, ((114 : Nat) : Int)), (4, ((115 : Nat) : Int)), (0, (ix : Int)), (0, 1), (0, 0), (9, 0)]) dL_law_963 (Nat.le_of_ble_eq_true rfl) rfl rfl ?_
      refine ia_aload_n (pc := 965) F dL_law_965 rfl ?_
      refine jV (pc := 966) F 0 0 (z99 hZ) cls11.1 (c_X8_thrown hZ p2 rfl rfl ?_) rfl ⟨k_X8_thrown, il_RL_138, im_X8_thrown, is_X8_thrown, ii_RX8⟩ 0 rfl hd_X8_thrown ⟨by decide, by decide, by omega, by omega, Nat.le_of_ble_eq_true rfl⟩ dL_law_966
      refine j1 ?_
      refine ia_iload (pc := 969) F dL_law_969 rfl ?_
      refine lq_icmp (pc := 971) F 976 dL_law_971 rfl (by rw [y99]; simp [up]) ?_
      refine ia_iload (pc := 976) F dL_law_976 rfl ?_
      refine lq_ifn (pc := 978) F 993 dL_law_978 rfl (by omega) ?_
      refine ia_goto (pc := 993) F 2404 dL_law_993 rfl ?_
      refine jw [false, false, false, false, false, false, true, true, true] rfl ?_
      refine lq_wid (c2 := cells + 30) (s2 := slots + 7000) (by omega) (by omega) ?_
      exact kk _ _ (LvI_keep hJ hj p2 (fun p hp hs => ((f2 p (nsub hp (by decide))).trans rfl)) (f2 100 (by decide)) (f2 103 (by decide)) (fun z h9 => by rw [y99]; simp only [up, if_neg h9]))
set_option maxRecDepth 100000 in
set_option maxHeartbeats 2000000 in
set_option linter.constructorNameAsVariable false in
theorem lcs_15 {X : ia_X} {cells slots LX ix jj : Nat} {xs : Nat → Int32} {Z : ia_Z} {V : ia_H} (F : ia_Fix X RL cL_law 9 20 20000 3600000) (hX : LSc X LX xs) (hi : ix + 2 < LX ∧ LX ≤ 1536) (hJ : LvI jj Z V) (hj : jj < 512) (hc : cells + 30 ≤ 20000 ∧ slots + 7000 ≤ 3600000) (kk : ∀ (Z9 : ia_Z) (V9 : ia_H), LvI (jj + 1) Z9 V9 → ia_G X (cells + 30) (slots + 7000) 2404 [(4, ((ia_E0 + 400 : Nat) : Int)), (4, ((0 : Nat) : Int)), (4, ((99 : Nat) : Int)), (4, ((114 : Nat) : Int)), (4, ((115 : Nat) : Int)), (0, (ix : Int)), (9, 0), (9, 0), (9, 0)] [] Z9 V9) : ia_G X cells slots 996 [(4, ((ia_E0 + 400 : Nat) : Int)), (4, ((0 : Nat) : Int)), (4, ((99 : Nat) : Int)), (4, ((114 : Nat) : Int)), (4, ((115 : Nat) : Int)), (0, (ix : Int)), (9, 0), (9, 0), (9, 0)] [] Z V := by
  obtain ⟨⟨hZ, hP, hz, hj2⟩, ⟨hB1, hB2⟩, hC, hD, hE, ⟨nT, qT, lT, hn6, h20, hT⟩, ⟨nU, qU, lU, hn7, h15, hU⟩, hne⟩ := id hJ
  obtain ⟨s0, s1, s2, s3, s4, s5, s6, s7, s18, sb, sw, se, sp⟩ := id hB2
  have hχ := hC.1
  have hd : 0 ≤ V 99 10 ∧ V 99 10 ≤ 8 := by have := hC.2.1; omega
  have hd1 := hC.2.1
  have h7 : (V 100 0).toNat ≤ 7 := by omega
  obtain ⟨e, ea0⟩ : ∃ y : Int, (xs (ix + 1)).toInt = y := ⟨_, rfl⟩
  have ra0 := i32_rng (xs (ix + 1))
  rw [ea0] at ra0
  refine ia_aload_n (pc := 996) F dL_law_996 rfl ?_
  refine ia_aload_n (pc := 997) F dL_law_997 rfl ?_
  refine ia_iload (pc := 998) F dL_law_998 rfl ?_
  refine ia_iconst (pc := 1000) F dL_law_1000 ?_
  refine ia_iadd (pc := 1001) F dL_law_1001 ?_
  refine ia_sl (pc := 1002) F hX (ix + 1) (by omega) ⟨by omega, hi.2⟩ ea0 dL_law_1002 ?_
  refine ia_aload_n (pc := 1003) F dL_law_1003 rfl ?_
  refine jSH (pc := 1004) F (h_runOf e hZ hP hB1 hB2 (by omega) (fun c0 => ?_) (fun c0 => ?_)) rfl ⟨k_L_runOf, il_RL_188, it_L_runOf, ii_RL⟩ 3 rfl hd_L_runOf ⟨by decide, by decide, by omega, by omega, Nat.le_of_ble_eq_true rfl⟩ dL_law_1004
  · refine j1 ?_
    refine ia_istore (pc := 1007) F (ls' := [(4, ((ia_E0 + 400 : Nat) : Int)), (4, ((0 : Nat) : Int)), (4, ((99 : Nat) : Int)), (4, ((114 : Nat) : Int)), (4, ((115 : Nat) : Int)), (0, (ix : Int)), (0, 0), (9, 0), (9, 0)]) dL_law_1007 (Nat.le_of_ble_eq_true rfl) rfl rfl ?_
    refine ia_aload_n (pc := 1009) F dL_law_1009 rfl ?_
    refine ia_aload_n (pc := 1010) F dL_law_1010 rfl ?_
    refine ia_iload (pc := 1011) F dL_law_1011 rfl ?_
    refine ia_iconst (pc := 1013) F dL_law_1013 ?_
    refine ia_iadd (pc := 1014) F dL_law_1014 ?_
    refine ia_sl (pc := 1015) F hX (ix + 1) (by omega) ⟨by omega, hi.2⟩ ea0 dL_law_1015 ?_
    refine jV (pc := 1016) F 0 0 (z99 hZ) cls11.1 (c_X8_runOf e hZ (PI_u hP rfl) hB2 (rowN (by decide)) (rowN (by decide)) (by omega) (fun V2 d0 p2 y99 f2 => ?_) (fun V2 d0 p2 y99 f2 => ?_)) rfl ⟨k_X8_runOf, il_RL_190, im_X8_runOf, is_X8_runOf, ii_RX8⟩ 1 rfl hd_X8_runOf ⟨by decide, by decide, by omega, by omega, Nat.le_of_ble_eq_true rfl⟩ dL_law_1016
    · refine j1 ?_
      refine ia_istore (pc := 1019) F (ls' := [(4, ((ia_E0 + 400 : Nat) : Int)), (4, ((0 : Nat) : Int)), (4, ((99 : Nat) : Int)), (4, ((114 : Nat) : Int)), (4, ((115 : Nat) : Int)), (0, (ix : Int)), (0, 0), (0, (run (V 100) e.toNat)), (9, 0)]) dL_law_1019 (Nat.le_of_ble_eq_true rfl) rfl rfl ?_
      refine ia_aload_n (pc := 1021) F dL_law_1021 rfl ?_
      refine jV (pc := 1022) F 0 0 (z99 hZ) cls11.1 (c_X8_thrown hZ p2 rfl rfl ?_) rfl ⟨k_X8_thrown, il_RL_138, im_X8_thrown, is_X8_thrown, ii_RX8⟩ 0 rfl hd_X8_thrown ⟨by decide, by decide, by omega, by omega, Nat.le_of_ble_eq_true rfl⟩ dL_law_1022
      refine j1 ?_
      refine ia_iload (pc := 1025) F dL_law_1025 rfl ?_
      refine lq_icmp (pc := 1027) F 1032 dL_law_1027 rfl (by rw [y99]; simp [up]) ?_
      refine ia_iload (pc := 1032) F dL_law_1032 rfl ?_
      refine lq_ifz (pc := 1034) F dL_law_1034 1049 rfl ?_
      refine ia_aload_n (pc := 1037) F dL_law_1037 rfl ?_
      refine ia_iconst (pc := 1038) F dL_law_1038 ?_
      refine jal (pc := 1039) F (z114 hZ) 0 rfl (by decide) ((congrFun (f2 114 (by decide)) 0).trans (ia_u_self _ _ _ _)) dL_law_1039 ?_
      refine ia_iload (pc := 1040) F dL_law_1040 rfl ?_
      have r9 := se e.toNat (by omega)
      have e9 : (run (V 100) e.toNat) = (run (V 100) e.toNat) := rfl
      refine ia_i2lr (pc := 1042) F dL_law_1042 (by omega) ?_
      refine lq_lcmp (pc := 1043) F dL_law_1043 e9 ?_
      refine lq_if0 (pc := 1044) F 1049 dL_law_1044 rfl ?_
      refine ia_goto (pc := 1049) F 2404 dL_law_1049 rfl ?_
      refine jw [false, false, false, false, false, false, true, true, true] rfl ?_
      refine lq_wid (c2 := cells + 30) (s2 := slots + 7000) (by omega) (by omega) ?_
      exact kk _ _ (LvI_keep hJ hj p2 (fun p hp hs => ((f2 p (nsub hp (by decide))).trans (rowN (nne hp (by decide))))) ((f2 100 (by decide)).trans (rowN (by decide))) ((f2 103 (by decide)).trans (rowN (by decide))) (fun z h9 => by rw [y99]; simp only [up, if_neg h9]))
    · exfalso; omega
  · refine j1 ?_
    refine ia_istore (pc := 1007) F (ls' := [(4, ((ia_E0 + 400 : Nat) : Int)), (4, ((0 : Nat) : Int)), (4, ((99 : Nat) : Int)), (4, ((114 : Nat) : Int)), (4, ((115 : Nat) : Int)), (0, (ix : Int)), (0, 1), (9, 0), (9, 0)]) dL_law_1007 (Nat.le_of_ble_eq_true rfl) rfl rfl ?_
    refine ia_aload_n (pc := 1009) F dL_law_1009 rfl ?_
    refine ia_aload_n (pc := 1010) F dL_law_1010 rfl ?_
    refine ia_iload (pc := 1011) F dL_law_1011 rfl ?_
    refine ia_iconst (pc := 1013) F dL_law_1013 ?_
    refine ia_iadd (pc := 1014) F dL_law_1014 ?_
    refine ia_sl (pc := 1015) F hX (ix + 1) (by omega) ⟨by omega, hi.2⟩ ea0 dL_law_1015 ?_
    refine jV (pc := 1016) F 0 0 (z99 hZ) cls11.1 (c_X8_runOf e hZ hP hB2 rfl rfl (by omega) (fun V2 d0 p2 y99 f2 => ?_) (fun V2 d0 p2 y99 f2 => ?_)) rfl ⟨k_X8_runOf, il_RL_190, im_X8_runOf, is_X8_runOf, ii_RX8⟩ 1 rfl hd_X8_runOf ⟨by decide, by decide, by omega, by omega, Nat.le_of_ble_eq_true rfl⟩ dL_law_1016
    · exfalso; omega
    · refine j1 ?_
      refine ia_istore (pc := 1019) F (ls' := [(4, ((ia_E0 + 400 : Nat) : Int)), (4, ((0 : Nat) : Int)), (4, ((99 : Nat) : Int)), (4, ((114 : Nat) : Int)), (4, ((115 : Nat) : Int)), (0, (ix : Int)), (0, 1), (0, 0), (9, 0)]) dL_law_1019 (Nat.le_of_ble_eq_true rfl) rfl rfl ?_
      refine ia_aload_n (pc := 1021) F dL_law_1021 rfl ?_
      refine jV (pc := 1022) F 0 0 (z99 hZ) cls11.1 (c_X8_thrown hZ p2 rfl rfl ?_) rfl ⟨k_X8_thrown, il_RL_138, im_X8_thrown, is_X8_thrown, ii_RX8⟩ 0 rfl hd_X8_thrown ⟨by decide, by decide, by omega, by omega, Nat.le_of_ble_eq_true rfl⟩ dL_law_1022
      refine j1 ?_
      refine ia_iload (pc := 1025) F dL_law_1025 rfl ?_
      refine lq_icmp (pc := 1027) F 1032 dL_law_1027 rfl (by rw [y99]; simp [up]) ?_
      refine ia_iload (pc := 1032) F dL_law_1032 rfl ?_
      refine lq_ifn (pc := 1034) F 1049 dL_law_1034 rfl (by omega) ?_
      refine ia_goto (pc := 1049) F 2404 dL_law_1049 rfl ?_
      refine jw [false, false, false, false, false, false, true, true, true] rfl ?_
      refine lq_wid (c2 := cells + 30) (s2 := slots + 7000) (by omega) (by omega) ?_
      exact kk _ _ (LvI_keep hJ hj p2 (fun p hp hs => ((f2 p (nsub hp (by decide))).trans rfl)) (f2 100 (by decide)) (f2 103 (by decide)) (fun z h9 => by rw [y99]; simp only [up, if_neg h9]))
set_option maxRecDepth 100000 in
set_option maxHeartbeats 2000000 in
set_option linter.constructorNameAsVariable false in
theorem lcs_16 {X : ia_X} {cells slots LX ix jj : Nat} {xs : Nat → Int32} {Z : ia_Z} {V : ia_H} (F : ia_Fix X RL cL_law 9 20 20000 3600000) (hX : LSc X LX xs) (hi : ix + 2 < LX ∧ LX ≤ 1536) (hJ : LvI jj Z V) (hj : jj < 512) (hc : cells + 30 ≤ 20000 ∧ slots + 7000 ≤ 3600000) (kk : ∀ (Z9 : ia_Z) (V9 : ia_H), LvI (jj + 1) Z9 V9 → ia_G X (cells + 30) (slots + 7000) 2404 [(4, ((ia_E0 + 400 : Nat) : Int)), (4, ((0 : Nat) : Int)), (4, ((99 : Nat) : Int)), (4, ((114 : Nat) : Int)), (4, ((115 : Nat) : Int)), (0, (ix : Int)), (9, 0), (9, 0), (9, 0)] [] Z9 V9) : ia_G X cells slots 1052 [(4, ((ia_E0 + 400 : Nat) : Int)), (4, ((0 : Nat) : Int)), (4, ((99 : Nat) : Int)), (4, ((114 : Nat) : Int)), (4, ((115 : Nat) : Int)), (0, (ix : Int)), (9, 0), (9, 0), (9, 0)] [] Z V := by
  obtain ⟨⟨hZ, hP, hz, hj2⟩, ⟨hB1, hB2⟩, hC, hD, hE, ⟨nT, qT, lT, hn6, h20, hT⟩, ⟨nU, qU, lU, hn7, h15, hU⟩, hne⟩ := id hJ
  obtain ⟨s0, s1, s2, s3, s4, s5, s6, s7, s18, sb, sw, se, sp⟩ := id hB2
  have hχ := hC.1
  have hd : 0 ≤ V 99 10 ∧ V 99 10 ≤ 8 := by have := hC.2.1; omega
  have hd1 := hC.2.1
  have h7 : (V 100 0).toNat ≤ 7 := by omega
  obtain ⟨e, ea0⟩ : ∃ y : Int, (xs (ix + 1)).toInt = y := ⟨_, rfl⟩
  have ra0 := i32_rng (xs (ix + 1))
  rw [ea0] at ra0
  refine ia_aload_n (pc := 1052) F dL_law_1052 rfl ?_
  refine ia_aload_n (pc := 1053) F dL_law_1053 rfl ?_
  refine ia_iload (pc := 1054) F dL_law_1054 rfl ?_
  refine ia_iconst (pc := 1056) F dL_law_1056 ?_
  refine ia_iadd (pc := 1057) F dL_law_1057 ?_
  refine ia_sl (pc := 1058) F hX (ix + 1) (by omega) ⟨by omega, hi.2⟩ ea0 dL_law_1058 ?_
  refine ia_aload_n (pc := 1059) F dL_law_1059 rfl ?_
  refine jSH (pc := 1060) F (h_printedOf e hZ hP hB1 hB2 (by omega) (fun c0 => ?_) (fun c0 => ?_)) rfl ⟨k_L_printedOf, il_RL_191, it_L_printedOf, ii_RL⟩ 3 rfl hd_L_printedOf ⟨by decide, by decide, by omega, by omega, Nat.le_of_ble_eq_true rfl⟩ dL_law_1060
  · refine j1 ?_
    refine ia_istore (pc := 1063) F (ls' := [(4, ((ia_E0 + 400 : Nat) : Int)), (4, ((0 : Nat) : Int)), (4, ((99 : Nat) : Int)), (4, ((114 : Nat) : Int)), (4, ((115 : Nat) : Int)), (0, (ix : Int)), (0, 0), (9, 0), (9, 0)]) dL_law_1063 (Nat.le_of_ble_eq_true rfl) rfl rfl ?_
    refine ia_aload_n (pc := 1065) F dL_law_1065 rfl ?_
    refine ia_aload_n (pc := 1066) F dL_law_1066 rfl ?_
    refine ia_iload (pc := 1067) F dL_law_1067 rfl ?_
    refine ia_iconst (pc := 1069) F dL_law_1069 ?_
    refine ia_iadd (pc := 1070) F dL_law_1070 ?_
    refine ia_sl (pc := 1071) F hX (ix + 1) (by omega) ⟨by omega, hi.2⟩ ea0 dL_law_1071 ?_
    refine jV (pc := 1072) F 0 0 (z99 hZ) cls11.1 (c_X8_printedOf e hZ (PI_u hP rfl) hB2 (rowN (by decide)) (rowN (by decide)) (by omega) (fun V2 d0 p2 y99 f2 => ?_) (fun V2 d0 p2 y99 f2 => ?_)) rfl ⟨k_X8_printedOf, il_RL_193, im_X8_printedOf, is_X8_printedOf, ii_RX8⟩ 1 rfl hd_X8_printedOf ⟨by decide, by decide, by omega, by omega, Nat.le_of_ble_eq_true rfl⟩ dL_law_1072
    · refine j1 ?_
      refine ia_istore (pc := 1075) F (ls' := [(4, ((ia_E0 + 400 : Nat) : Int)), (4, ((0 : Nat) : Int)), (4, ((99 : Nat) : Int)), (4, ((114 : Nat) : Int)), (4, ((115 : Nat) : Int)), (0, (ix : Int)), (0, 0), (0, (prt (V 100) e.toNat)), (9, 0)]) dL_law_1075 (Nat.le_of_ble_eq_true rfl) rfl rfl ?_
      refine ia_aload_n (pc := 1077) F dL_law_1077 rfl ?_
      refine jV (pc := 1078) F 0 0 (z99 hZ) cls11.1 (c_X8_thrown hZ p2 rfl rfl ?_) rfl ⟨k_X8_thrown, il_RL_138, im_X8_thrown, is_X8_thrown, ii_RX8⟩ 0 rfl hd_X8_thrown ⟨by decide, by decide, by omega, by omega, Nat.le_of_ble_eq_true rfl⟩ dL_law_1078
      refine j1 ?_
      refine ia_iload (pc := 1081) F dL_law_1081 rfl ?_
      refine lq_icmp (pc := 1083) F 1088 dL_law_1083 rfl (by rw [y99]; simp [up]) ?_
      refine ia_iload (pc := 1088) F dL_law_1088 rfl ?_
      refine lq_ifz (pc := 1090) F dL_law_1090 1105 rfl ?_
      refine ia_aload_n (pc := 1093) F dL_law_1093 rfl ?_
      refine ia_iconst (pc := 1094) F dL_law_1094 ?_
      refine jal (pc := 1095) F (z114 hZ) 0 rfl (by decide) ((congrFun (f2 114 (by decide)) 0).trans (ia_u_self _ _ _ _)) dL_law_1095 ?_
      refine ia_iload (pc := 1096) F dL_law_1096 rfl ?_
      have r9 := se e.toNat (by omega)
      have e9 : (prt (V 100) e.toNat) = (prt (V 100) e.toNat) := rfl
      refine ia_i2lr (pc := 1098) F dL_law_1098 (by omega) ?_
      refine lq_lcmp (pc := 1099) F dL_law_1099 e9 ?_
      refine lq_if0 (pc := 1100) F 1105 dL_law_1100 rfl ?_
      refine ia_goto (pc := 1105) F 2404 dL_law_1105 rfl ?_
      refine jw [false, false, false, false, false, false, true, true, true] rfl ?_
      refine lq_wid (c2 := cells + 30) (s2 := slots + 7000) (by omega) (by omega) ?_
      exact kk _ _ (LvI_keep hJ hj p2 (fun p hp hs => ((f2 p (nsub hp (by decide))).trans (rowN (nne hp (by decide))))) ((f2 100 (by decide)).trans (rowN (by decide))) ((f2 103 (by decide)).trans (rowN (by decide))) (fun z h9 => by rw [y99]; simp only [up, if_neg h9]))
    · exfalso; omega
  · refine j1 ?_
    refine ia_istore (pc := 1063) F (ls' := [(4, ((ia_E0 + 400 : Nat) : Int)), (4, ((0 : Nat) : Int)), (4, ((99 : Nat) : Int)), (4, ((114 : Nat) : Int)), (4, ((115 : Nat) : Int)), (0, (ix : Int)), (0, 1), (9, 0), (9, 0)]) dL_law_1063 (Nat.le_of_ble_eq_true rfl) rfl rfl ?_
    refine ia_aload_n (pc := 1065) F dL_law_1065 rfl ?_
    refine ia_aload_n (pc := 1066) F dL_law_1066 rfl ?_
    refine ia_iload (pc := 1067) F dL_law_1067 rfl ?_
    refine ia_iconst (pc := 1069) F dL_law_1069 ?_
    refine ia_iadd (pc := 1070) F dL_law_1070 ?_
    refine ia_sl (pc := 1071) F hX (ix + 1) (by omega) ⟨by omega, hi.2⟩ ea0 dL_law_1071 ?_
    refine jV (pc := 1072) F 0 0 (z99 hZ) cls11.1 (c_X8_printedOf e hZ hP hB2 rfl rfl (by omega) (fun V2 d0 p2 y99 f2 => ?_) (fun V2 d0 p2 y99 f2 => ?_)) rfl ⟨k_X8_printedOf, il_RL_193, im_X8_printedOf, is_X8_printedOf, ii_RX8⟩ 1 rfl hd_X8_printedOf ⟨by decide, by decide, by omega, by omega, Nat.le_of_ble_eq_true rfl⟩ dL_law_1072
    · exfalso; omega
    · refine j1 ?_
      refine ia_istore (pc := 1075) F (ls' := [(4, ((ia_E0 + 400 : Nat) : Int)), (4, ((0 : Nat) : Int)), (4, ((99 : Nat) : Int)), (4, ((114 : Nat) : Int)), (4, ((115 : Nat) : Int)), (0, (ix : Int)), (0, 1), (0, 0), (9, 0)]) dL_law_1075 (Nat.le_of_ble_eq_true rfl) rfl rfl ?_
      refine ia_aload_n (pc := 1077) F dL_law_1077 rfl ?_
      refine jV (pc := 1078) F 0 0 (z99 hZ) cls11.1 (c_X8_thrown hZ p2 rfl rfl ?_) rfl ⟨k_X8_thrown, il_RL_138, im_X8_thrown, is_X8_thrown, ii_RX8⟩ 0 rfl hd_X8_thrown ⟨by decide, by decide, by omega, by omega, Nat.le_of_ble_eq_true rfl⟩ dL_law_1078
      refine j1 ?_
      refine ia_iload (pc := 1081) F dL_law_1081 rfl ?_
      refine lq_icmp (pc := 1083) F 1088 dL_law_1083 rfl (by rw [y99]; simp [up]) ?_
      refine ia_iload (pc := 1088) F dL_law_1088 rfl ?_
      refine lq_ifn (pc := 1090) F 1105 dL_law_1090 rfl (by omega) ?_
      refine ia_goto (pc := 1105) F 2404 dL_law_1105 rfl ?_
      refine jw [false, false, false, false, false, false, true, true, true] rfl ?_
      refine lq_wid (c2 := cells + 30) (s2 := slots + 7000) (by omega) (by omega) ?_
      exact kk _ _ (LvI_keep hJ hj p2 (fun p hp hs => ((f2 p (nsub hp (by decide))).trans rfl)) (f2 100 (by decide)) (f2 103 (by decide)) (fun z h9 => by rw [y99]; simp only [up, if_neg h9]))
set_option maxRecDepth 100000 in
set_option maxHeartbeats 2000000 in
set_option linter.constructorNameAsVariable false in
theorem lcs_17 {X : ia_X} {cells slots LX ix jj : Nat} {xs : Nat → Int32} {Z : ia_Z} {V : ia_H} (F : ia_Fix X RL cL_law 9 20 20000 3600000) (hX : LSc X LX xs) (hi : ix + 2 < LX ∧ LX ≤ 1536) (hJ : LvI jj Z V) (hj : jj < 512) (hc : cells + 30 ≤ 20000 ∧ slots + 7000 ≤ 3600000) (kk : ∀ (Z9 : ia_Z) (V9 : ia_H), LvI (jj + 1) Z9 V9 → ia_G X (cells + 30) (slots + 7000) 2404 [(4, ((ia_E0 + 400 : Nat) : Int)), (4, ((0 : Nat) : Int)), (4, ((99 : Nat) : Int)), (4, ((114 : Nat) : Int)), (4, ((115 : Nat) : Int)), (0, (ix : Int)), (9, 0), (9, 0), (9, 0)] [] Z9 V9) : ia_G X cells slots 1108 [(4, ((ia_E0 + 400 : Nat) : Int)), (4, ((0 : Nat) : Int)), (4, ((99 : Nat) : Int)), (4, ((114 : Nat) : Int)), (4, ((115 : Nat) : Int)), (0, (ix : Int)), (9, 0), (9, 0), (9, 0)] [] Z V := by
  obtain ⟨⟨hZ, hP, hz, hj2⟩, ⟨hB1, hB2⟩, hC, hD, hE, ⟨nT, qT, lT, hn6, h20, hT⟩, ⟨nU, qU, lU, hn7, h15, hU⟩, hne⟩ := id hJ
  obtain ⟨s0, s1, s2, s3, s4, s5, s6, s7, s18, sb, sw, se, sp⟩ := id hB2
  have hχ := hC.1
  have hd : 0 ≤ V 99 10 ∧ V 99 10 ≤ 8 := by have := hC.2.1; omega
  have hd1 := hC.2.1
  have h7 : (V 100 0).toNat ≤ 7 := by omega
  obtain ⟨e, ea0⟩ : ∃ y : Int, (xs (ix + 1)).toInt = y := ⟨_, rfl⟩
  have ra0 := i32_rng (xs (ix + 1))
  rw [ea0] at ra0
  refine ia_aload_n (pc := 1108) F dL_law_1108 rfl ?_
  refine ia_aload_n (pc := 1109) F dL_law_1109 rfl ?_
  refine ia_iload (pc := 1110) F dL_law_1110 rfl ?_
  refine ia_iconst (pc := 1112) F dL_law_1112 ?_
  refine ia_iadd (pc := 1113) F dL_law_1113 ?_
  refine ia_sl (pc := 1114) F hX (ix + 1) (by omega) ⟨by omega, hi.2⟩ ea0 dL_law_1114 ?_
  refine ia_aload_n (pc := 1115) F dL_law_1115 rfl ?_
  refine jSH (pc := 1116) F (h_isComplete e hZ hP hB1 hB2 (by omega) (fun c0 c1 => ?_) (fun c0 c1 => ?_) (fun c0 => ?_)) rfl ⟨k_L_isComplete, il_RL_194, it_L_isComplete, ii_RL⟩ 3 rfl hd_L_isComplete ⟨by decide, by decide, by omega, by omega, Nat.le_of_ble_eq_true rfl⟩ dL_law_1116
  · refine j1 ?_
    refine ia_istore (pc := 1119) F (ls' := [(4, ((ia_E0 + 400 : Nat) : Int)), (4, ((0 : Nat) : Int)), (4, ((99 : Nat) : Int)), (4, ((114 : Nat) : Int)), (4, ((115 : Nat) : Int)), (0, (ix : Int)), (0, 0), (9, 0), (9, 0)]) dL_law_1119 (Nat.le_of_ble_eq_true rfl) rfl rfl ?_
    refine ia_aload_n (pc := 1121) F dL_law_1121 rfl ?_
    refine ia_aload_n (pc := 1122) F dL_law_1122 rfl ?_
    refine ia_iload (pc := 1123) F dL_law_1123 rfl ?_
    refine ia_iconst (pc := 1125) F dL_law_1125 ?_
    refine ia_iadd (pc := 1126) F dL_law_1126 ?_
    refine ia_sl (pc := 1127) F hX (ix + 1) (by omega) ⟨by omega, hi.2⟩ ea0 dL_law_1127 ?_
    refine jV (pc := 1128) F 0 0 (z99 hZ) cls11.1 (c_X8_isComplete e hZ (PI_u hP rfl) hB2 (rowN (by decide)) (rowN (by decide)) (by omega) (fun V2 d0 d1 p2 y99 f2 => ?_) (fun V2 d0 d1 p2 y99 f2 => ?_) (fun V2 d0 p2 y99 f2 => ?_)) rfl ⟨k_X8_isComplete, il_RL_196, im_X8_isComplete, is_X8_isComplete, ii_RX8⟩ 1 rfl hd_X8_isComplete ⟨by decide, by decide, by omega, by omega, Nat.le_of_ble_eq_true rfl⟩ dL_law_1128
    · exfalso; omega
    · refine j1 ?_
      refine ia_istore (pc := 1131) F (ls' := [(4, ((ia_E0 + 400 : Nat) : Int)), (4, ((0 : Nat) : Int)), (4, ((99 : Nat) : Int)), (4, ((114 : Nat) : Int)), (4, ((115 : Nat) : Int)), (0, (ix : Int)), (0, 0), (0, 1), (9, 0)]) dL_law_1131 (Nat.le_of_ble_eq_true rfl) rfl rfl ?_
      refine ia_aload_n (pc := 1133) F dL_law_1133 rfl ?_
      refine jV (pc := 1134) F 0 0 (z99 hZ) cls11.1 (c_X8_thrown hZ p2 rfl rfl ?_) rfl ⟨k_X8_thrown, il_RL_138, im_X8_thrown, is_X8_thrown, ii_RX8⟩ 0 rfl hd_X8_thrown ⟨by decide, by decide, by omega, by omega, Nat.le_of_ble_eq_true rfl⟩ dL_law_1134
      refine j1 ?_
      refine ia_iload (pc := 1137) F dL_law_1137 rfl ?_
      refine lq_icmp (pc := 1139) F 1144 dL_law_1139 rfl (by rw [y99]; simp [up]) ?_
      refine ia_iload (pc := 1144) F dL_law_1144 rfl ?_
      refine lq_ifz (pc := 1146) F dL_law_1146 1168 rfl ?_
      refine ia_aload_n (pc := 1149) F dL_law_1149 rfl ?_
      refine ia_iconst (pc := 1150) F dL_law_1150 ?_
      refine jal (pc := 1151) F (z114 hZ) 0 rfl (by decide) ((congrFun (f2 114 (by decide)) 0).trans (ia_u_self _ _ _ _)) dL_law_1151 ?_
      refine ia_iload (pc := 1152) F dL_law_1152 rfl ?_
      refine ia_if_eq (pc := 1154) F 1161 dL_law_1154 rfl (by omega) (fun h9 => absurd h9 (by omega)) (fun _ => ?_)
      refine ia_lconst (pc := 1157) F dL_law_1157 (v := 1) rfl ?_
      refine ia_goto (pc := 1158) F 1162 dL_law_1158 rfl ?_
      refine lq_lcmp (pc := 1162) F dL_law_1162 rfl ?_
      refine lq_if0 (pc := 1163) F 1168 dL_law_1163 rfl ?_
      refine ia_goto (pc := 1168) F 2404 dL_law_1168 rfl ?_
      refine jw [false, false, false, false, false, false, true, true, true] rfl ?_
      refine lq_wid (c2 := cells + 30) (s2 := slots + 7000) (by omega) (by omega) ?_
      exact kk _ _ (LvI_keep hJ hj p2 (fun p hp hs => ((f2 p (nsub hp (by decide))).trans (rowN (nne hp (by decide))))) ((f2 100 (by decide)).trans (rowN (by decide))) ((f2 103 (by decide)).trans (rowN (by decide))) (fun z h9 => by rw [y99]; simp only [up, if_neg h9]))
    · exfalso; omega
  · refine j1 ?_
    refine ia_istore (pc := 1119) F (ls' := [(4, ((ia_E0 + 400 : Nat) : Int)), (4, ((0 : Nat) : Int)), (4, ((99 : Nat) : Int)), (4, ((114 : Nat) : Int)), (4, ((115 : Nat) : Int)), (0, (ix : Int)), (0, 0), (9, 0), (9, 0)]) dL_law_1119 (Nat.le_of_ble_eq_true rfl) rfl rfl ?_
    refine ia_aload_n (pc := 1121) F dL_law_1121 rfl ?_
    refine ia_aload_n (pc := 1122) F dL_law_1122 rfl ?_
    refine ia_iload (pc := 1123) F dL_law_1123 rfl ?_
    refine ia_iconst (pc := 1125) F dL_law_1125 ?_
    refine ia_iadd (pc := 1126) F dL_law_1126 ?_
    refine ia_sl (pc := 1127) F hX (ix + 1) (by omega) ⟨by omega, hi.2⟩ ea0 dL_law_1127 ?_
    refine jV (pc := 1128) F 0 0 (z99 hZ) cls11.1 (c_X8_isComplete e hZ (PI_u hP rfl) hB2 (rowN (by decide)) (rowN (by decide)) (by omega) (fun V2 d0 d1 p2 y99 f2 => ?_) (fun V2 d0 d1 p2 y99 f2 => ?_) (fun V2 d0 p2 y99 f2 => ?_)) rfl ⟨k_X8_isComplete, il_RL_196, im_X8_isComplete, is_X8_isComplete, ii_RX8⟩ 1 rfl hd_X8_isComplete ⟨by decide, by decide, by omega, by omega, Nat.le_of_ble_eq_true rfl⟩ dL_law_1128
    · refine j1 ?_
      refine ia_istore (pc := 1131) F (ls' := [(4, ((ia_E0 + 400 : Nat) : Int)), (4, ((0 : Nat) : Int)), (4, ((99 : Nat) : Int)), (4, ((114 : Nat) : Int)), (4, ((115 : Nat) : Int)), (0, (ix : Int)), (0, 0), (0, 0), (9, 0)]) dL_law_1131 (Nat.le_of_ble_eq_true rfl) rfl rfl ?_
      refine ia_aload_n (pc := 1133) F dL_law_1133 rfl ?_
      refine jV (pc := 1134) F 0 0 (z99 hZ) cls11.1 (c_X8_thrown hZ p2 rfl rfl ?_) rfl ⟨k_X8_thrown, il_RL_138, im_X8_thrown, is_X8_thrown, ii_RX8⟩ 0 rfl hd_X8_thrown ⟨by decide, by decide, by omega, by omega, Nat.le_of_ble_eq_true rfl⟩ dL_law_1134
      refine j1 ?_
      refine ia_iload (pc := 1137) F dL_law_1137 rfl ?_
      refine lq_icmp (pc := 1139) F 1144 dL_law_1139 rfl (by rw [y99]; simp [up]) ?_
      refine ia_iload (pc := 1144) F dL_law_1144 rfl ?_
      refine lq_ifz (pc := 1146) F dL_law_1146 1168 rfl ?_
      refine ia_aload_n (pc := 1149) F dL_law_1149 rfl ?_
      refine ia_iconst (pc := 1150) F dL_law_1150 ?_
      refine jal (pc := 1151) F (z114 hZ) 0 rfl (by decide) ((congrFun (f2 114 (by decide)) 0).trans (ia_u_self _ _ _ _)) dL_law_1151 ?_
      refine ia_iload (pc := 1152) F dL_law_1152 rfl ?_
      refine lq_if0 (pc := 1154) F 1161 dL_law_1154 rfl ?_
      refine ia_lconst (pc := 1161) F dL_law_1161 (v := 0) rfl ?_
      refine lq_lcmp (pc := 1162) F dL_law_1162 rfl ?_
      refine lq_if0 (pc := 1163) F 1168 dL_law_1163 rfl ?_
      refine ia_goto (pc := 1168) F 2404 dL_law_1168 rfl ?_
      refine jw [false, false, false, false, false, false, true, true, true] rfl ?_
      refine lq_wid (c2 := cells + 30) (s2 := slots + 7000) (by omega) (by omega) ?_
      exact kk _ _ (LvI_keep hJ hj p2 (fun p hp hs => ((f2 p (nsub hp (by decide))).trans (rowN (nne hp (by decide))))) ((f2 100 (by decide)).trans (rowN (by decide))) ((f2 103 (by decide)).trans (rowN (by decide))) (fun z h9 => by rw [y99]; simp only [up, if_neg h9]))
    · exfalso; omega
    · exfalso; omega
  · refine j1 ?_
    refine ia_istore (pc := 1119) F (ls' := [(4, ((ia_E0 + 400 : Nat) : Int)), (4, ((0 : Nat) : Int)), (4, ((99 : Nat) : Int)), (4, ((114 : Nat) : Int)), (4, ((115 : Nat) : Int)), (0, (ix : Int)), (0, 1), (9, 0), (9, 0)]) dL_law_1119 (Nat.le_of_ble_eq_true rfl) rfl rfl ?_
    refine ia_aload_n (pc := 1121) F dL_law_1121 rfl ?_
    refine ia_aload_n (pc := 1122) F dL_law_1122 rfl ?_
    refine ia_iload (pc := 1123) F dL_law_1123 rfl ?_
    refine ia_iconst (pc := 1125) F dL_law_1125 ?_
    refine ia_iadd (pc := 1126) F dL_law_1126 ?_
    refine ia_sl (pc := 1127) F hX (ix + 1) (by omega) ⟨by omega, hi.2⟩ ea0 dL_law_1127 ?_
    refine jV (pc := 1128) F 0 0 (z99 hZ) cls11.1 (c_X8_isComplete e hZ hP hB2 rfl rfl (by omega) (fun V2 d0 d1 p2 y99 f2 => ?_) (fun V2 d0 d1 p2 y99 f2 => ?_) (fun V2 d0 p2 y99 f2 => ?_)) rfl ⟨k_X8_isComplete, il_RL_196, im_X8_isComplete, is_X8_isComplete, ii_RX8⟩ 1 rfl hd_X8_isComplete ⟨by decide, by decide, by omega, by omega, Nat.le_of_ble_eq_true rfl⟩ dL_law_1128
    · exfalso; omega
    · exfalso; omega
    · refine j1 ?_
      refine ia_istore (pc := 1131) F (ls' := [(4, ((ia_E0 + 400 : Nat) : Int)), (4, ((0 : Nat) : Int)), (4, ((99 : Nat) : Int)), (4, ((114 : Nat) : Int)), (4, ((115 : Nat) : Int)), (0, (ix : Int)), (0, 1), (0, 0), (9, 0)]) dL_law_1131 (Nat.le_of_ble_eq_true rfl) rfl rfl ?_
      refine ia_aload_n (pc := 1133) F dL_law_1133 rfl ?_
      refine jV (pc := 1134) F 0 0 (z99 hZ) cls11.1 (c_X8_thrown hZ p2 rfl rfl ?_) rfl ⟨k_X8_thrown, il_RL_138, im_X8_thrown, is_X8_thrown, ii_RX8⟩ 0 rfl hd_X8_thrown ⟨by decide, by decide, by omega, by omega, Nat.le_of_ble_eq_true rfl⟩ dL_law_1134
      refine j1 ?_
      refine ia_iload (pc := 1137) F dL_law_1137 rfl ?_
      refine lq_icmp (pc := 1139) F 1144 dL_law_1139 rfl (by rw [y99]; simp [up]) ?_
      refine ia_iload (pc := 1144) F dL_law_1144 rfl ?_
      refine lq_ifn (pc := 1146) F 1168 dL_law_1146 rfl (by omega) ?_
      refine ia_goto (pc := 1168) F 2404 dL_law_1168 rfl ?_
      refine jw [false, false, false, false, false, false, true, true, true] rfl ?_
      refine lq_wid (c2 := cells + 30) (s2 := slots + 7000) (by omega) (by omega) ?_
      exact kk _ _ (LvI_keep hJ hj p2 (fun p hp hs => ((f2 p (nsub hp (by decide))).trans rfl)) (f2 100 (by decide)) (f2 103 (by decide)) (fun z h9 => by rw [y99]; simp only [up, if_neg h9]))
set_option maxRecDepth 100000 in
set_option maxHeartbeats 2000000 in
set_option linter.constructorNameAsVariable false in
theorem lcs_18 {X : ia_X} {cells slots LX ix jj : Nat} {xs : Nat → Int32} {Z : ia_Z} {V : ia_H} (F : ia_Fix X RL cL_law 9 20 20000 3600000) (hX : LSc X LX xs) (hi : ix + 2 < LX ∧ LX ≤ 1536) (hJ : LvI jj Z V) (hj : jj < 512) (hc : cells + 30 ≤ 20000 ∧ slots + 7000 ≤ 3600000) (kk : ∀ (Z9 : ia_Z) (V9 : ia_H), LvI (jj + 1) Z9 V9 → ia_G X (cells + 30) (slots + 7000) 2404 [(4, ((ia_E0 + 400 : Nat) : Int)), (4, ((0 : Nat) : Int)), (4, ((99 : Nat) : Int)), (4, ((114 : Nat) : Int)), (4, ((115 : Nat) : Int)), (0, (ix : Int)), (9, 0), (9, 0), (9, 0)] [] Z9 V9) : ia_G X cells slots 1171 [(4, ((ia_E0 + 400 : Nat) : Int)), (4, ((0 : Nat) : Int)), (4, ((99 : Nat) : Int)), (4, ((114 : Nat) : Int)), (4, ((115 : Nat) : Int)), (0, (ix : Int)), (9, 0), (9, 0), (9, 0)] [] Z V := by
  obtain ⟨⟨hZ, hP, hz, hj2⟩, ⟨hB1, hB2⟩, hC, hD, hE, ⟨nT, qT, lT, hn6, h20, hT⟩, ⟨nU, qU, lU, hn7, h15, hU⟩, hne⟩ := id hJ
  obtain ⟨s0, s1, s2, s3, s4, s5, s6, s7, s18, sb, sw, se, sp⟩ := id hB2
  have hχ := hC.1
  have hd : 0 ≤ V 99 10 ∧ V 99 10 ≤ 8 := by have := hC.2.1; omega
  have hd1 := hC.2.1
  have h7 : (V 100 0).toNat ≤ 7 := by omega
  obtain ⟨a, ea0⟩ : ∃ y : Int, (xs (ix + 1)).toInt = y := ⟨_, rfl⟩
  have ra0 := i32_rng (xs (ix + 1))
  rw [ea0] at ra0
  obtain ⟨b, ea1⟩ : ∃ y : Int, (xs (ix + 2)).toInt = y := ⟨_, rfl⟩
  have ra1 := i32_rng (xs (ix + 2))
  rw [ea1] at ra1
  refine ia_aload_n (pc := 1171) F dL_law_1171 rfl ?_
  refine ia_aload_n (pc := 1172) F dL_law_1172 rfl ?_
  refine ia_iload (pc := 1173) F dL_law_1173 rfl ?_
  refine ia_iconst (pc := 1175) F dL_law_1175 ?_
  refine ia_iadd (pc := 1176) F dL_law_1176 ?_
  refine ia_sl (pc := 1177) F hX (ix + 1) (by omega) ⟨by omega, hi.2⟩ ea0 dL_law_1177 ?_
  refine ia_aload_n (pc := 1178) F dL_law_1178 rfl ?_
  refine ia_iload (pc := 1179) F dL_law_1179 rfl ?_
  refine ia_iconst (pc := 1181) F dL_law_1181 ?_
  refine ia_iadd (pc := 1182) F dL_law_1182 ?_
  refine ia_sl (pc := 1183) F hX (ix + 2) (by omega) ⟨by omega, hi.2⟩ ea1 dL_law_1183 ?_
  refine ia_aload_n (pc := 1184) F dL_law_1184 rfl ?_
  refine jSH (pc := 1185) F (h_changeMinutes a b hZ hP hB1 hB2 (by omega) (by omega) (fun c0 => ?_) (fun c0 => ?_)) rfl ⟨k_L_changeMinutes, il_RL_197, it_L_changeMinutes, ii_RL⟩ 4 rfl hd_L_changeMinutes ⟨by decide, by decide, by omega, by omega, Nat.le_of_ble_eq_true rfl⟩ dL_law_1185
  · refine j1 ?_
    refine ia_istore (pc := 1188) F (ls' := [(4, ((ia_E0 + 400 : Nat) : Int)), (4, ((0 : Nat) : Int)), (4, ((99 : Nat) : Int)), (4, ((114 : Nat) : Int)), (4, ((115 : Nat) : Int)), (0, (ix : Int)), (0, 0), (9, 0), (9, 0)]) dL_law_1188 (Nat.le_of_ble_eq_true rfl) rfl rfl ?_
    refine ia_aload_n (pc := 1190) F dL_law_1190 rfl ?_
    refine ia_aload_n (pc := 1191) F dL_law_1191 rfl ?_
    refine ia_iload (pc := 1192) F dL_law_1192 rfl ?_
    refine ia_iconst (pc := 1194) F dL_law_1194 ?_
    refine ia_iadd (pc := 1195) F dL_law_1195 ?_
    refine ia_sl (pc := 1196) F hX (ix + 1) (by omega) ⟨by omega, hi.2⟩ ea0 dL_law_1196 ?_
    refine ia_aload_n (pc := 1197) F dL_law_1197 rfl ?_
    refine ia_iload (pc := 1198) F dL_law_1198 rfl ?_
    refine ia_iconst (pc := 1200) F dL_law_1200 ?_
    refine ia_iadd (pc := 1201) F dL_law_1201 ?_
    refine ia_sl (pc := 1202) F hX (ix + 2) (by omega) ⟨by omega, hi.2⟩ ea1 dL_law_1202 ?_
    refine jV (pc := 1203) F 0 0 (z99 hZ) cls11.1 (c_X8_changeMinutes a b hZ (PI_u hP rfl) hB2 (rowN (by decide)) (rowN (by decide)) (by omega) (by omega) (fun V2 d0 d1 p2 y99 f2 => ?_) (fun V2 d0 d1 p2 y99 f2 => ?_) (fun V2 d0 p2 y99 f2 => ?_)) rfl ⟨k_X8_changeMinutes, il_RL_199, im_X8_changeMinutes, is_X8_changeMinutes, ii_RX8⟩ 2 rfl hd_X8_changeMinutes ⟨by decide, by decide, by omega, by omega, Nat.le_of_ble_eq_true rfl⟩ dL_law_1203
    · refine j1 ?_
      refine ia_istore (pc := 1206) F (ls' := [(4, ((ia_E0 + 400 : Nat) : Int)), (4, ((0 : Nat) : Int)), (4, ((99 : Nat) : Int)), (4, ((114 : Nat) : Int)), (4, ((115 : Nat) : Int)), (0, (ix : Int)), (0, 0), (0, (wash a b)), (9, 0)]) dL_law_1206 (Nat.le_of_ble_eq_true rfl) rfl rfl ?_
      refine ia_aload_n (pc := 1208) F dL_law_1208 rfl ?_
      refine jV (pc := 1209) F 0 0 (z99 hZ) cls11.1 (c_X8_thrown hZ p2 rfl rfl ?_) rfl ⟨k_X8_thrown, il_RL_138, im_X8_thrown, is_X8_thrown, ii_RX8⟩ 0 rfl hd_X8_thrown ⟨by decide, by decide, by omega, by omega, Nat.le_of_ble_eq_true rfl⟩ dL_law_1209
      refine j1 ?_
      refine ia_iload (pc := 1212) F dL_law_1212 rfl ?_
      refine lq_icmp (pc := 1214) F 1219 dL_law_1214 rfl (by rw [y99]; simp [up]) ?_
      refine ia_iload (pc := 1219) F dL_law_1219 rfl ?_
      refine lq_ifz (pc := 1221) F dL_law_1221 1236 rfl ?_
      refine ia_aload_n (pc := 1224) F dL_law_1224 rfl ?_
      refine ia_iconst (pc := 1225) F dL_law_1225 ?_
      refine jal (pc := 1226) F (z114 hZ) 0 rfl (by decide) ((congrFun (f2 114 (by decide)) 0).trans (ia_u_self _ _ _ _)) dL_law_1226 ?_
      refine ia_iload (pc := 1227) F dL_law_1227 rfl ?_
      have r9 := wash_rng c0.1 c0.2
      have e9 : (wash a b) = (wash a b) := rfl
      refine ia_i2lr (pc := 1229) F dL_law_1229 (by omega) ?_
      refine lq_lcmp (pc := 1230) F dL_law_1230 e9 ?_
      refine lq_if0 (pc := 1231) F 1236 dL_law_1231 rfl ?_
      refine ia_goto (pc := 1236) F 2404 dL_law_1236 rfl ?_
      refine jw [false, false, false, false, false, false, true, true, true] rfl ?_
      refine lq_wid (c2 := cells + 30) (s2 := slots + 7000) (by omega) (by omega) ?_
      exact kk _ _ (LvI_keep hJ hj p2 (fun p hp hs => ((f2 p (nsub hp (by decide))).trans (rowN (nne hp (by decide))))) ((f2 100 (by decide)).trans (rowN (by decide))) ((f2 103 (by decide)).trans (rowN (by decide))) (fun z h9 => by rw [y99]; simp only [up, if_neg h9]))
    · exfalso; omega
    · exfalso; omega
  · refine j1 ?_
    refine ia_istore (pc := 1188) F (ls' := [(4, ((ia_E0 + 400 : Nat) : Int)), (4, ((0 : Nat) : Int)), (4, ((99 : Nat) : Int)), (4, ((114 : Nat) : Int)), (4, ((115 : Nat) : Int)), (0, (ix : Int)), (0, 1), (9, 0), (9, 0)]) dL_law_1188 (Nat.le_of_ble_eq_true rfl) rfl rfl ?_
    refine ia_aload_n (pc := 1190) F dL_law_1190 rfl ?_
    refine ia_aload_n (pc := 1191) F dL_law_1191 rfl ?_
    refine ia_iload (pc := 1192) F dL_law_1192 rfl ?_
    refine ia_iconst (pc := 1194) F dL_law_1194 ?_
    refine ia_iadd (pc := 1195) F dL_law_1195 ?_
    refine ia_sl (pc := 1196) F hX (ix + 1) (by omega) ⟨by omega, hi.2⟩ ea0 dL_law_1196 ?_
    refine ia_aload_n (pc := 1197) F dL_law_1197 rfl ?_
    refine ia_iload (pc := 1198) F dL_law_1198 rfl ?_
    refine ia_iconst (pc := 1200) F dL_law_1200 ?_
    refine ia_iadd (pc := 1201) F dL_law_1201 ?_
    refine ia_sl (pc := 1202) F hX (ix + 2) (by omega) ⟨by omega, hi.2⟩ ea1 dL_law_1202 ?_
    refine jV (pc := 1203) F 0 0 (z99 hZ) cls11.1 (c_X8_changeMinutes a b hZ hP hB2 rfl rfl (by omega) (by omega) (fun V2 d0 d1 p2 y99 f2 => ?_) (fun V2 d0 d1 p2 y99 f2 => ?_) (fun V2 d0 p2 y99 f2 => ?_)) rfl ⟨k_X8_changeMinutes, il_RL_199, im_X8_changeMinutes, is_X8_changeMinutes, ii_RX8⟩ 2 rfl hd_X8_changeMinutes ⟨by decide, by decide, by omega, by omega, Nat.le_of_ble_eq_true rfl⟩ dL_law_1203
    · exfalso; omega
    · refine j1 ?_
      refine ia_istore (pc := 1206) F (ls' := [(4, ((ia_E0 + 400 : Nat) : Int)), (4, ((0 : Nat) : Int)), (4, ((99 : Nat) : Int)), (4, ((114 : Nat) : Int)), (4, ((115 : Nat) : Int)), (0, (ix : Int)), (0, 1), (0, 0), (9, 0)]) dL_law_1206 (Nat.le_of_ble_eq_true rfl) rfl rfl ?_
      refine ia_aload_n (pc := 1208) F dL_law_1208 rfl ?_
      refine jV (pc := 1209) F 0 0 (z99 hZ) cls11.1 (c_X8_thrown hZ p2 rfl rfl ?_) rfl ⟨k_X8_thrown, il_RL_138, im_X8_thrown, is_X8_thrown, ii_RX8⟩ 0 rfl hd_X8_thrown ⟨by decide, by decide, by omega, by omega, Nat.le_of_ble_eq_true rfl⟩ dL_law_1209
      refine j1 ?_
      refine ia_iload (pc := 1212) F dL_law_1212 rfl ?_
      refine lq_icmp (pc := 1214) F 1219 dL_law_1214 rfl (by rw [y99]; simp [up]) ?_
      refine ia_iload (pc := 1219) F dL_law_1219 rfl ?_
      refine lq_ifn (pc := 1221) F 1236 dL_law_1221 rfl (by omega) ?_
      refine ia_goto (pc := 1236) F 2404 dL_law_1236 rfl ?_
      refine jw [false, false, false, false, false, false, true, true, true] rfl ?_
      refine lq_wid (c2 := cells + 30) (s2 := slots + 7000) (by omega) (by omega) ?_
      exact kk _ _ (LvI_keep hJ hj p2 (fun p hp hs => ((f2 p (nsub hp (by decide))).trans rfl)) (f2 100 (by decide)) (f2 103 (by decide)) (fun z h9 => by rw [y99]; simp only [up, if_neg h9]))
    · refine j1 ?_
      refine ia_istore (pc := 1206) F (ls' := [(4, ((ia_E0 + 400 : Nat) : Int)), (4, ((0 : Nat) : Int)), (4, ((99 : Nat) : Int)), (4, ((114 : Nat) : Int)), (4, ((115 : Nat) : Int)), (0, (ix : Int)), (0, 1), (0, 0), (9, 0)]) dL_law_1206 (Nat.le_of_ble_eq_true rfl) rfl rfl ?_
      refine ia_aload_n (pc := 1208) F dL_law_1208 rfl ?_
      refine jV (pc := 1209) F 0 0 (z99 hZ) cls11.1 (c_X8_thrown hZ p2 rfl rfl ?_) rfl ⟨k_X8_thrown, il_RL_138, im_X8_thrown, is_X8_thrown, ii_RX8⟩ 0 rfl hd_X8_thrown ⟨by decide, by decide, by omega, by omega, Nat.le_of_ble_eq_true rfl⟩ dL_law_1209
      refine j1 ?_
      refine ia_iload (pc := 1212) F dL_law_1212 rfl ?_
      refine lq_icmp (pc := 1214) F 1219 dL_law_1214 rfl (by rw [y99]; simp [up]) ?_
      refine ia_iload (pc := 1219) F dL_law_1219 rfl ?_
      refine lq_ifn (pc := 1221) F 1236 dL_law_1221 rfl (by omega) ?_
      refine ia_goto (pc := 1236) F 2404 dL_law_1236 rfl ?_
      refine jw [false, false, false, false, false, false, true, true, true] rfl ?_
      refine lq_wid (c2 := cells + 30) (s2 := slots + 7000) (by omega) (by omega) ?_
      exact kk _ _ (LvI_keep hJ hj p2 (fun p hp hs => ((f2 p (nsub hp (by decide))).trans rfl)) (f2 100 (by decide)) (f2 103 (by decide)) (fun z h9 => by rw [y99]; simp only [up, if_neg h9]))
set_option maxRecDepth 100000 in
set_option maxHeartbeats 2000000 in
set_option linter.constructorNameAsVariable false in
theorem lcs_19 {X : ia_X} {cells slots LX ix jj : Nat} {xs : Nat → Int32} {Z : ia_Z} {V : ia_H} (F : ia_Fix X RL cL_law 9 20 20000 3600000) (hX : LSc X LX xs) (hi : ix + 2 < LX ∧ LX ≤ 1536) (hJ : LvI jj Z V) (hj : jj < 512) (hc : cells + 30 ≤ 20000 ∧ slots + 7000 ≤ 3600000) (kk : ∀ (Z9 : ia_Z) (V9 : ia_H), LvI (jj + 1) Z9 V9 → ia_G X (cells + 30) (slots + 7000) 2404 [(4, ((ia_E0 + 400 : Nat) : Int)), (4, ((0 : Nat) : Int)), (4, ((99 : Nat) : Int)), (4, ((114 : Nat) : Int)), (4, ((115 : Nat) : Int)), (0, (ix : Int)), (9, 0), (9, 0), (9, 0)] [] Z9 V9) : ia_G X cells slots 1239 [(4, ((ia_E0 + 400 : Nat) : Int)), (4, ((0 : Nat) : Int)), (4, ((99 : Nat) : Int)), (4, ((114 : Nat) : Int)), (4, ((115 : Nat) : Int)), (0, (ix : Int)), (9, 0), (9, 0), (9, 0)] [] Z V := by
  obtain ⟨⟨hZ, hP, hz, hj2⟩, ⟨hB1, hB2⟩, hC, hD, hE, ⟨nT, qT, lT, hn6, h20, hT⟩, ⟨nU, qU, lU, hn7, h15, hU⟩, hne⟩ := id hJ
  obtain ⟨s0, s1, s2, s3, s4, s5, s6, s7, s18, sb, sw, se, sp⟩ := id hB2
  have hχ := hC.1
  have hd : 0 ≤ V 99 10 ∧ V 99 10 ≤ 8 := by have := hC.2.1; omega
  have hd1 := hC.2.1
  have h7 : (V 100 0).toNat ≤ 7 := by omega
  refine ia_aload_n (pc := 1239) F dL_law_1239 rfl ?_
  refine jV (pc := 1240) F 0 0 (z0 hZ) cls10.1 (c_X7_pressColour hZ hP hB1 hB2 ?_) rfl ⟨k_X7_pressColour, il_RL_200, im_X7_pressColour, is_X7_pressColour, ii_RX7⟩ 0 rfl hd_X7_pressColour ⟨by decide, by decide, by omega, by omega, Nat.le_of_ble_eq_true rfl⟩ dL_law_1240
  refine j1 ?_
  refine ia_aload_n (pc := 1243) F dL_law_1243 rfl ?_
  refine jV (pc := 1244) F 0 0 (z99 hZ) cls11.1 (c_X8_pressColour hZ hP hB2 rfl rfl (fun V2 p2 y99 f2 => ?_)) rfl ⟨k_X8_pressColour, il_RL_203, im_X8_pressColour, is_X8_pressColour, ii_RX8⟩ 0 rfl hd_X8_pressColour ⟨by decide, by decide, by omega, by omega, Nat.le_of_ble_eq_true rfl⟩ dL_law_1244
  refine j1 ?_
  refine lq_icmp (pc := 1247) F 2404 dL_law_1247 rfl rfl ?_
  refine jw [false, false, false, false, false, false, true, true, true] rfl ?_
  refine lq_wid (c2 := cells + 30) (s2 := slots + 7000) (by omega) (by omega) ?_
  exact kk _ _ (LvI_keep hJ hj p2 (fun p hp hs => ((f2 p (nsub hp (by decide))).trans rfl)) (f2 100 (by decide)) (f2 103 (by decide)) (fun z h9 => by rw [y99]; simp only [up, if_neg h9]))
set_option maxRecDepth 100000 in
set_option maxHeartbeats 2000000 in
set_option linter.constructorNameAsVariable false in
theorem lcs_20 {X : ia_X} {cells slots LX ix jj : Nat} {xs : Nat → Int32} {Z : ia_Z} {V : ia_H} (F : ia_Fix X RL cL_law 9 20 20000 3600000) (hX : LSc X LX xs) (hi : ix + 2 < LX ∧ LX ≤ 1536) (hJ : LvI jj Z V) (hj : jj < 512) (hc : cells + 30 ≤ 20000 ∧ slots + 7000 ≤ 3600000) (kk : ∀ (Z9 : ia_Z) (V9 : ia_H), LvI (jj + 1) Z9 V9 → ia_G X (cells + 30) (slots + 7000) 2404 [(4, ((ia_E0 + 400 : Nat) : Int)), (4, ((0 : Nat) : Int)), (4, ((99 : Nat) : Int)), (4, ((114 : Nat) : Int)), (4, ((115 : Nat) : Int)), (0, (ix : Int)), (9, 0), (9, 0), (9, 0)] [] Z9 V9) : ia_G X cells slots 1252 [(4, ((ia_E0 + 400 : Nat) : Int)), (4, ((0 : Nat) : Int)), (4, ((99 : Nat) : Int)), (4, ((114 : Nat) : Int)), (4, ((115 : Nat) : Int)), (0, (ix : Int)), (9, 0), (9, 0), (9, 0)] [] Z V := by
  obtain ⟨⟨hZ, hP, hz, hj2⟩, ⟨hB1, hB2⟩, hC, hD, hE, ⟨nT, qT, lT, hn6, h20, hT⟩, ⟨nU, qU, lU, hn7, h15, hU⟩, hne⟩ := id hJ
  obtain ⟨s0, s1, s2, s3, s4, s5, s6, s7, s18, sb, sw, se, sp⟩ := id hB2
  have hχ := hC.1
  have hd : 0 ≤ V 99 10 ∧ V 99 10 ≤ 8 := by have := hC.2.1; omega
  have hd1 := hC.2.1
  have h7 : (V 100 0).toNat ≤ 7 := by omega
  refine ia_aload_n (pc := 1252) F dL_law_1252 rfl ?_
  refine jV (pc := 1253) F 0 0 (z0 hZ) cls10.1 (c_X7_fewestMinutes hZ hP hB1 hB2 rfl rfl rfl rfl rfl (fun V1 p1 f1 => ?_)) rfl ⟨k_X7_fewestMinutes, il_RL_204, im_X7_fewestMinutes, is_X7_fewestMinutes, ii_RX7⟩ 0 rfl hd_X7_fewestMinutes ⟨by decide, by decide, by omega, by omega, Nat.le_of_ble_eq_true rfl⟩ dL_law_1253
  refine j1 ?_
  refine ia_aload_n (pc := 1256) F dL_law_1256 rfl ?_
  refine jV (pc := 1257) F 0 0 (z99 hZ) cls11.1 (c_X8_fewestMinutes hZ p1 hB2 (f1 99 (by decide)) (f1 100 (by decide)) (f1 104 (by decide)) (fun V2 p2 y99 f2 => ?_)) rfl ⟨k_X8_fewestMinutes, il_RL_207, im_X8_fewestMinutes, is_X8_fewestMinutes, ii_RX8⟩ 0 rfl hd_X8_fewestMinutes ⟨by decide, by decide, by omega, by omega, Nat.le_of_ble_eq_true rfl⟩ dL_law_1257
  refine j1 ?_
  refine lq_icmp (pc := 1260) F 2404 dL_law_1260 rfl (ord_mcl h7) ?_
  refine jw [false, false, false, false, false, false, true, true, true] rfl ?_
  refine lq_wid (c2 := cells + 30) (s2 := slots + 7000) (by omega) (by omega) ?_
  exact kk _ _ (LvI_keep hJ hj p2 (fun p hp hs => ((f2 p (nsub hp (by decide))).trans (f1 p (nsub hp (by decide))))) ((f2 100 (by decide)).trans (f1 100 (by decide))) ((f2 103 (by decide)).trans (f1 103 (by decide))) (fun z h9 => by rw [y99]; simp only [up, if_neg h9]))
set_option maxRecDepth 100000 in
set_option maxHeartbeats 2000000 in
set_option linter.constructorNameAsVariable false in
theorem lcs_21 {X : ia_X} {cells slots LX ix jj : Nat} {xs : Nat → Int32} {Z : ia_Z} {V : ia_H} (F : ia_Fix X RL cL_law 9 20 20000 3600000) (hX : LSc X LX xs) (hi : ix + 2 < LX ∧ LX ≤ 1536) (hJ : LvI jj Z V) (hj : jj < 512) (hc : cells + 30 ≤ 20000 ∧ slots + 7000 ≤ 3600000) (kk : ∀ (Z9 : ia_Z) (V9 : ia_H), LvI (jj + 1) Z9 V9 → ia_G X (cells + 30) (slots + 7000) 2404 [(4, ((ia_E0 + 400 : Nat) : Int)), (4, ((0 : Nat) : Int)), (4, ((99 : Nat) : Int)), (4, ((114 : Nat) : Int)), (4, ((115 : Nat) : Int)), (0, (ix : Int)), (9, 0), (9, 0), (9, 0)] [] Z9 V9) : ia_G X cells slots 1265 [(4, ((ia_E0 + 400 : Nat) : Int)), (4, ((0 : Nat) : Int)), (4, ((99 : Nat) : Int)), (4, ((114 : Nat) : Int)), (4, ((115 : Nat) : Int)), (0, (ix : Int)), (9, 0), (9, 0), (9, 0)] [] Z V := by
  obtain ⟨⟨hZ, hP, hz, hj2⟩, ⟨hB1, hB2⟩, hC, hD, hE, ⟨nT, qT, lT, hn6, h20, hT⟩, ⟨nU, qU, lU, hn7, h15, hU⟩, hne⟩ := id hJ
  obtain ⟨s0, s1, s2, s3, s4, s5, s6, s7, s18, sb, sw, se, sp⟩ := id hB2
  have hχ := hC.1
  have hd : 0 ≤ V 99 10 ∧ V 99 10 ≤ 8 := by have := hC.2.1; omega
  have hd1 := hC.2.1
  have h7 : (V 100 0).toNat ≤ 7 := by omega
  refine ia_aload_n (pc := 1265) F dL_law_1265 rfl ?_
  refine jV (pc := 1266) F 0 0 (z0 hZ) cls10.1 (c_X7_minutesByOrders hZ hP hB1 hB2 rfl rfl rfl (fun V1 p1 f1 => ?_)) rfl ⟨k_X7_minutesByOrders, il_RL_208, im_X7_minutesByOrders, is_X7_minutesByOrders, ii_RX7⟩ 0 rfl hd_X7_minutesByOrders ⟨by decide, by decide, by omega, by omega, Nat.le_of_ble_eq_true rfl⟩ dL_law_1266
  refine j1 ?_
  refine ia_aload_n (pc := 1269) F dL_law_1269 rfl ?_
  refine jV (pc := 1270) F 0 0 (z99 hZ) cls11.1 (c_X8_minutesByOrders hZ p1 hB2 (f1 99 (by decide)) (f1 100 (by decide)) (f1 104 (by decide)) (fun V2 p2 y99 f2 => ?_)) rfl ⟨k_X8_minutesByOrders, il_RL_211, im_X8_minutesByOrders, is_X8_minutesByOrders, ii_RX8⟩ 0 rfl hd_X8_minutesByOrders ⟨by decide, by decide, by omega, by omega, Nat.le_of_ble_eq_true rfl⟩ dL_law_1270
  refine j1 ?_
  refine lq_icmp (pc := 1273) F 2404 dL_law_1273 rfl (ord_kr hB2) ?_
  refine jw [false, false, false, false, false, false, true, true, true] rfl ?_
  refine lq_wid (c2 := cells + 30) (s2 := slots + 7000) (by omega) (by omega) ?_
  exact kk _ _ (LvI_keep hJ hj p2 (fun p hp hs => ((f2 p (nsub hp (by decide))).trans (f1 p (nsub hp (by decide))))) ((f2 100 (by decide)).trans (f1 100 (by decide))) ((f2 103 (by decide)).trans (f1 103 (by decide))) (fun z h9 => by rw [y99]; simp only [up, if_neg h9]))
