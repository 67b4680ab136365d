/-! x -/
set_option maxRecDepth 100000 in
set_option maxHeartbeats 2000000 in
set_option linter.constructorNameAsVariable false in
theorem lcs_46 {X : ia_X} {cells slots LX ix jj : Nat} {xs : Nat → Int32} {Z : ia_Z} {V : ia_H} (F : ia_Fix X RL cL_law 9 20 20000 3600000) (hX : LSc X LX xs) (hi : ix + 2 < LX ∧ LX ≤ 1536) (hJ : LvI jj Z V) (hj : jj < 512) (hc : cells + 30 ≤ 20000 ∧ slots + 7000 ≤ 3600000) (kk : ∀ (Z9 : ia_Z) (V9 : ia_H), LvI (jj + 1) Z9 V9 → ia_G X (cells + 30) (slots + 7000) 2404 [(4, ((ia_E0 + 400 : Nat) : Int)), (4, ((0 : Nat) : Int)), (4, ((99 : Nat) : Int)), (4, ((114 : Nat) : Int)), (4, ((115 : Nat) : Int)), (0, (ix : Int)), (9, 0), (9, 0), (9, 0)] [] Z9 V9) : ia_G X cells slots 2171 [(4, ((ia_E0 + 400 : Nat) : Int)), (4, ((0 : Nat) : Int)), (4, ((99 : Nat) : Int)), (4, ((114 : Nat) : Int)), (4, ((115 : Nat) : Int)), (0, (ix : Int)), (9, 0), (9, 0), (9, 0)] [] Z V := by
  obtain ⟨⟨hZ, hP, hz, hj2⟩, ⟨hB1, hB2⟩, hC, hD, hE, ⟨nT, qT, lT, hn6, h20, hT⟩, ⟨nU, qU, lU, hn7, h15, hU⟩, hne⟩ := id hJ
  obtain ⟨s0, s1, s2, s3, s4, s5, s6, s7, s18, sb, sw, se, sp⟩ := id hB2
  have hχ := hC.1
  have hd : 0 ≤ V 99 10 ∧ V 99 10 ≤ 8 := by have := hC.2.1; omega
  have hd1 := hC.2.1
  have h7 : (V 100 0).toNat ≤ 7 := by omega
  refine ia_aload_n (pc := 2171) F dL_law_2171 rfl ?_
  refine ia_aload_n (pc := 2172) F dL_law_2172 rfl ?_
  refine jSH (pc := 2173) F (h_execute nT qT lT (V 110) hZ hP hB1 hB2 rfl rfl rfl rfl rfl rfl hT (by omega) hχ (by omega) (fun kc V1 c0 c1 c2 c3 p1 w0 w15 f1 x0 x1 x2 x3 => ?_) (fun kc V1 c0 c1 c2 p1 w0 f1 x0 x1 => ?_) (fun kc jc V1 c0 c1 c2 c3 c4 c5 p1 w0 w15 f1 x0 x1 x2 => ?_)) rfl ⟨k_L_execute, il_RL_299, it_L_execute, ii_RL⟩ 2 rfl hd_L_execute ⟨by decide, by decide, by omega, by omega, Nat.le_of_ble_eq_true rfl⟩ dL_law_2173
  · refine j1 ?_
    refine ia_istore (pc := 2176) F (ls' := [(4, ((ia_E0 + 400 : Nat) : Int)), (4, ((0 : Nat) : Int)), (4, ((99 : Nat) : Int)), (4, ((114 : Nat) : Int)), (4, ((115 : Nat) : Int)), (0, (ix : Int)), (0, 0), (9, 0), (9, 0)]) dL_law_2176 (Nat.le_of_ble_eq_true rfl) rfl rfl ?_
    refine ia_aload_n (pc := 2178) F dL_law_2178 rfl ?_
    refine jV (pc := 2179) F 0 0 (z99 hZ) cls11.1 (c_X8_execute nT hZ (PI_u p1 rfl) hB2 ((rowN (by decide)).trans (f1 99 (by decide))) ((rowN (by decide)).trans (f1 100 (by decide))) ((rowN (by decide)).trans (f1 101 (by decide))) ((rowN (by decide)).trans (f1 103 (by decide))) ((rowN (by decide)).trans (f1 104 (by decide))) ((rowN (by decide)).trans (f1 105 (by decide))) ((rowN (by decide)).trans (f1 108 (by decide))) ((rowN (by decide)).trans (f1 110 (by decide))) ((rowN (by decide)).trans (f1 111 (by decide))) ((rowN (by decide)).trans (f1 112 (by decide))) ((rowN (by decide)).trans (f1 113 (by decide))) h20 (by omega) (SB_rng hT) hd (by omega) (fun km μ1m V2 d0 d1 d2 d3 d4 d5 d6 d7 p2 y99 y101 y100 y103 f2 => ?_) (fun km μ1m V2 d0 d1 d2 d3 d4 d5 d6 d7 p2 y99 y101 y100 y103 f2 => ?_) (fun km jm μ1m V2 d0 d1 d2 d3 d4 d5 d6 d7 d8 d9 d10 p2 y99 y101 y100 y103 f2 => ?_)) rfl ⟨k_X8_execute, il_RL_302, im_X8_execute, is_X8_execute, ii_RX8⟩ 0 rfl hd_X8_execute ⟨by decide, by decide, by omega, by omega, Nat.le_of_ble_eq_true rfl⟩ dL_law_2179
    · refine j1 ?_
      have ek : kc = km := (fst_eq (P := fun z => ¬ tx_mo (V 110) nT z) (fun z hz9 g => g (c0 z hz9)) (fun g => by have := g.2.1; omega) (fun z hz9 g => g (d0 z hz9)) (fun g => by have := g.2.1; omega))
      subst ek
      refine ia_istore (pc := 2182) F (ls' := [(4, ((ia_E0 + 400 : Nat) : Int)), (4, ((0 : Nat) : Int)), (4, ((99 : Nat) : Int)), (4, ((114 : Nat) : Int)), (4, ((115 : Nat) : Int)), (0, (ix : Int)), (0, 0), (0, ((kc : Int) + 1)), (9, 0)]) dL_law_2182 (Nat.le_of_ble_eq_true rfl) rfl rfl ?_
      refine ia_aload_n (pc := 2184) F dL_law_2184 rfl ?_
      refine jV (pc := 2185) F 0 0 (z99 hZ) cls11.1 (c_X8_thrown hZ p2 rfl rfl ?_) rfl ⟨k_X8_thrown, il_RL_138, im_X8_thrown, is_X8_thrown, ii_RX8⟩ 0 rfl hd_X8_thrown ⟨by decide, by decide, by omega, by omega, Nat.le_of_ble_eq_true rfl⟩ dL_law_2185
      refine j1 ?_
      refine ia_iload (pc := 2188) F dL_law_2188 rfl ?_
      refine lq_icmp (pc := 2190) F 2195 dL_law_2190 rfl (by rw [y99]; exact d4) ?_
      refine ia_iload (pc := 2195) F dL_law_2195 rfl ?_
      refine lq_ifz (pc := 2197) F dL_law_2197 2212 rfl ?_
      refine ia_aload_n (pc := 2200) F dL_law_2200 rfl ?_
      refine ia_iconst (pc := 2201) F dL_law_2201 ?_
      refine jal (pc := 2202) F (z114 hZ) 0 rfl (by decide) ((congrFun (f2 114 (by decide)) 0).trans (ia_u_self _ _ _ _)) dL_law_2202 ?_
      refine ia_iload (pc := 2203) F dL_law_2203 rfl ?_
      have r9 := tx_ps_rng kc c0
      have e9 : ((kc : Int) + 1) = ((kc : Int) + 1) := rfl
      refine ia_i2lr (pc := 2205) F dL_law_2205 (by omega) ?_
      refine lq_lcmp (pc := 2206) F dL_law_2206 e9 ?_
      refine lq_if0 (pc := 2207) F 2212 dL_law_2207 rfl ?_
      refine ia_goto (pc := 2212) F 2404 dL_law_2212 rfl ?_
      refine jw [false, false, false, false, false, false, true, true, true] rfl ?_
      refine lq_wid (c2 := cells + 30) (s2 := slots + 7000) (by omega) (by omega) ?_
      have rk := tx_ps_rng kc c0
      have hT2 : LvT Z V2 := ⟨0, qT, lT, by omega, by rw [y99]; exact d6, SB_mv (SB_u (x2 (V2 110)) (by decide) (by decide)) (fun p hp => f2 p (by simp; omega))⟩
      have e92 : V2 92 0 = V 92 0 := (congrFun ((f2 92 (by decide)).trans (rowN (by decide))) 0).trans ((x2 (V 110)).2.2.1.trans hT.2.2.1.symm)
      have e13 : V2 99 13 = V 99 13 := by rw [y99]; exact d7 13 (Or.inl rfl)
      have e15 : V2 99 15 = V 99 15 := by rw [y99]; exact d7 15 (Or.inr rfl)
      have g0 : V2 0 = V 0 := ((f2 0 (by decide)).trans ((rowN (by decide)).trans w0))
      exact kk _ _ (LvI_new hJ hj p2 (by rw [y100]; exact Sh_fr (Sh_u x0 (by decide)) f2 (by decide)) (by rw [y100]; exact SI_le (SI_opN (K := tx_K (V 110) nT) (A := (fun i => tx_cF (V 110) nT (tx_ps (V 110) nT i))) (B := (fun i => tx_cS (V 110) nT (tx_ps (V 110) nT i))) (fun _ => tx_K_lt) hB2 (kc + 1) (by omega) c3) (by omega)) (LvC_push hC hj ((f2 15 (by decide)).trans ((rowN (by decide)).trans w15)) (by rw [y99]; exact d5.1) y103 (Sh_mv x1 (fun p g1 g2 => (f2 p (by simp; omega)).trans (rowN (by omega)))) hB2 (fun p g1 g2 g3 => (f2 p (by simp; omega)).trans ((rowN (by omega)).trans (x3 p g3 (by simp; omega))))) (congrFun g0 8) (LvE_keep hE g0 (by rw [y99]; exact d5.2.1) (by rw [y99]; exact d5.2.2)) hT2 e92 e13 e15 (fun p hp hs => (f2 p (nsub hp (by decide))).trans ((rowN (nne hp (by decide))).trans (x3 p hs (nsub hp (by decide))))))
    · exfalso
      have ek := (fst_eq (P := fun z => ¬ tx_mo (V 110) nT z) (fun z hz9 g => g (c0 z hz9)) (fun g => by have := g.2.1; omega) (fun z hz9 g => g (d0 z hz9)) d1)
      subst ek
      rcases d2.2 with g | g
      · rw [c1] at g; exact absurd g (by decide)
      · omega
    · exfalso
      have ek := (fst_eq (P := fun z => ¬ tx_mo (V 110) nT z) (fun z hz9 g => g (c0 z hz9)) (fun g => by have := g.2.1; omega) (fun z hz9 g => g (d0 z hz9)) (fun g => by have := g.2.1; omega))
      subst ek
      exact d5 (c3 jm d3)
  · refine j1 ?_
    refine ia_istore (pc := 2176) F (ls' := [(4, ((ia_E0 + 400 : Nat) : Int)), (4, ((0 : Nat) : Int)), (4, ((99 : Nat) : Int)), (4, ((114 : Nat) : Int)), (4, ((115 : Nat) : Int)), (0, (ix : Int)), (0, 1), (9, 0), (9, 0)]) dL_law_2176 (Nat.le_of_ble_eq_true rfl) rfl rfl ?_
    refine ia_aload_n (pc := 2178) F dL_law_2178 rfl ?_
    refine jV (pc := 2179) F 0 0 (z99 hZ) cls11.1 (c_X8_execute nT hZ p1 hB2 (f1 99 (by decide)) (f1 100 (by decide)) (f1 101 (by decide)) (f1 103 (by decide)) (f1 104 (by decide)) (f1 105 (by decide)) (f1 108 (by decide)) (f1 110 (by decide)) (f1 111 (by decide)) (f1 112 (by decide)) (f1 113 (by decide)) h20 (by omega) (SB_rng hT) hd (by omega) (fun km μ1m V2 d0 d1 d2 d3 d4 d5 d6 d7 p2 y99 y101 y100 y103 f2 => ?_) (fun km μ1m V2 d0 d1 d2 d3 d4 d5 d6 d7 p2 y99 y101 y100 y103 f2 => ?_) (fun km jm μ1m V2 d0 d1 d2 d3 d4 d5 d6 d7 d8 d9 d10 p2 y99 y101 y100 y103 f2 => ?_)) rfl ⟨k_X8_execute, il_RL_302, im_X8_execute, is_X8_execute, ii_RX8⟩ 0 rfl hd_X8_execute ⟨by decide, by decide, by omega, by omega, Nat.le_of_ble_eq_true rfl⟩ dL_law_2179
    · exfalso
      have ek := (fst_eq (P := fun z => ¬ tx_mo (V 110) nT z) (fun z hz9 g => g (c0 z hz9)) c1 (fun z hz9 g => g (d0 z hz9)) (fun g => by have := g.2.1; omega))
      subst ek
      rcases c2.2 with g | g
      · rw [d1] at g; exact absurd g (by decide)
      · omega
    · refine j1 ?_
      have ek : kc = km := (fst_eq (P := fun z => ¬ tx_mo (V 110) nT z) (fun z hz9 g => g (c0 z hz9)) c1 (fun z hz9 g => g (d0 z hz9)) d1)
      subst ek
      refine ia_istore (pc := 2182) F (ls' := [(4, ((ia_E0 + 400 : Nat) : Int)), (4, ((0 : Nat) : Int)), (4, ((99 : Nat) : Int)), (4, ((114 : Nat) : Int)), (4, ((115 : Nat) : Int)), (0, (ix : Int)), (0, 1), (0, 0), (9, 0)]) dL_law_2182 (Nat.le_of_ble_eq_true rfl) rfl rfl ?_
      refine ia_aload_n (pc := 2184) F dL_law_2184 rfl ?_
      refine jV (pc := 2185) F 0 0 (z99 hZ) cls11.1 (c_X8_thrown hZ p2 rfl rfl ?_) rfl ⟨k_X8_thrown, il_RL_138, im_X8_thrown, is_X8_thrown, ii_RX8⟩ 0 rfl hd_X8_thrown ⟨by decide, by decide, by omega, by omega, Nat.le_of_ble_eq_true rfl⟩ dL_law_2185
      refine j1 ?_
      refine ia_iload (pc := 2188) F dL_law_2188 rfl ?_
      refine lq_icmp (pc := 2190) F 2195 dL_law_2190 rfl (by rw [y99]; exact d3) ?_
      refine ia_iload (pc := 2195) F dL_law_2195 rfl ?_
      refine lq_ifn (pc := 2197) F 2212 dL_law_2197 rfl (by omega) ?_
      refine ia_goto (pc := 2212) F 2404 dL_law_2212 rfl ?_
      refine jw [false, false, false, false, false, false, true, true, true] rfl ?_
      refine lq_wid (c2 := cells + 30) (s2 := slots + 7000) (by omega) (by omega) ?_
      have rk := tx_ps_rng kc c0
      have hT2 : LvT Z V2 := ⟨0, qT, lT, by omega, by rw [y99]; exact d6, SB_mv (x0 (V2 110)) (fun p hp => f2 p (by simp; omega))⟩
      have e92 : V2 92 0 = V 92 0 := (congrFun (f2 92 (by decide)) 0).trans ((x0 (V 110)).2.2.1.trans hT.2.2.1.symm)
      have e13 : V2 99 13 = V 99 13 := by rw [y99]; exact d7 13 (Or.inl rfl)
      have e15 : V2 99 15 = V 99 15 := by rw [y99]; exact d7 15 (Or.inr rfl)
      have g0 : V2 0 = up (V 0) 9 ((tx_cP (V 110) nT (tx_ps (V 110) nT kc) : Nat) : Int) := ((f2 0 (by decide)).trans w0)
      have hE2 : LvE V2 := by
        unfold LvE
        rw [g0, y99, up_self, up_ne (by decide), d5, d4.2]
        exact ⟨⟨by have := c2.1; omega, rfl⟩, hE.2⟩
      exact kk _ _ (LvI_new hJ hj p2 (by rw [y100]; exact Sh_mv hB1 (fun p g1 g2 => (f2 p (by simp; omega)).trans (x1 p (by simp; omega)))) (by rw [y100]; exact SI_le hB2 (by omega)) (LvC_keep hC hj ((f2 15 (by decide)).trans (x1 15 (by decide))) (by rw [y99]; exact d4.1) y103 (fun p g1 g2 _ => (f2 p (by simp; omega)).trans (x1 p (by simp; omega)))) (by rw [g0, up_ne (by decide)]) hE2 hT2 e92 e13 e15 (fun p hp hs => (f2 p (nsub hp (by decide))).trans (x1 p (nsub hp (by decide)))))
    · exfalso
      have ek := (fst_eq (P := fun z => ¬ tx_mo (V 110) nT z) (fun z hz9 g => g (c0 z hz9)) c1 (fun z hz9 g => g (d0 z hz9)) (fun g => by have := g.2.1; omega))
      subst ek
      rcases c2.2 with g | g
      · rw [d1] at g; exact absurd g (by decide)
      · omega
  · refine j1 ?_
    refine ia_istore (pc := 2176) F (ls' := [(4, ((ia_E0 + 400 : Nat) : Int)), (4, ((0 : Nat) : Int)), (4, ((99 : Nat) : Int)), (4, ((114 : Nat) : Int)), (4, ((115 : Nat) : Int)), (0, (ix : Int)), (0, 2), (9, 0), (9, 0)]) dL_law_2176 (Nat.le_of_ble_eq_true rfl) rfl rfl ?_
    refine ia_aload_n (pc := 2178) F dL_law_2178 rfl ?_
    refine jV (pc := 2179) F 0 0 (z99 hZ) cls11.1 (c_X8_execute nT hZ p1 hB2 (f1 99 (by decide)) (f1 100 (by decide)) (f1 101 (by decide)) (f1 103 (by decide)) (f1 104 (by decide)) (f1 105 (by decide)) (f1 108 (by decide)) (f1 110 (by decide)) (f1 111 (by decide)) (f1 112 (by decide)) (f1 113 (by decide)) h20 (by omega) (SB_rng hT) hd (by omega) (fun km μ1m V2 d0 d1 d2 d3 d4 d5 d6 d7 p2 y99 y101 y100 y103 f2 => ?_) (fun km μ1m V2 d0 d1 d2 d3 d4 d5 d6 d7 p2 y99 y101 y100 y103 f2 => ?_) (fun km jm μ1m V2 d0 d1 d2 d3 d4 d5 d6 d7 d8 d9 d10 p2 y99 y101 y100 y103 f2 => ?_)) rfl ⟨k_X8_execute, il_RL_302, im_X8_execute, is_X8_execute, ii_RX8⟩ 0 rfl hd_X8_execute ⟨by decide, by decide, by omega, by omega, Nat.le_of_ble_eq_true rfl⟩ dL_law_2179
    · exfalso
      have ek := (fst_eq (P := fun z => ¬ tx_mo (V 110) nT z) (fun z hz9 g => g (c0 z hz9)) (fun g => by have := g.2.1; omega) (fun z hz9 g => g (d0 z hz9)) (fun g => by have := g.2.1; omega))
      subst ek
      exact c5 (d3 jc c3)
    · exfalso
      have ek := (fst_eq (P := fun z => ¬ tx_mo (V 110) nT z) (fun z hz9 g => g (c0 z hz9)) (fun g => by have := g.2.1; omega) (fun z hz9 g => g (d0 z hz9)) d1)
      subst ek
      rcases d2.2 with g | g
      · rw [c1] at g; exact absurd g (by decide)
      · omega
    · refine j1 ?_
      have ek : kc = km := (fst_eq (P := fun z => ¬ tx_mo (V 110) nT z) (fun z hz9 g => g (c0 z hz9)) (fun g => by have := g.2.1; omega) (fun z hz9 g => g (d0 z hz9)) (fun g => by have := g.2.1; omega))
      subst ek
      have ej : jc = jm := ex_j c4 c5 d4 d5
      subst ej
      refine ia_istore (pc := 2182) F (ls' := [(4, ((ia_E0 + 400 : Nat) : Int)), (4, ((0 : Nat) : Int)), (4, ((99 : Nat) : Int)), (4, ((114 : Nat) : Int)), (4, ((115 : Nat) : Int)), (0, (ix : Int)), (0, 2), (0, 0), (9, 0)]) dL_law_2182 (Nat.le_of_ble_eq_true rfl) rfl rfl ?_
      refine ia_aload_n (pc := 2184) F dL_law_2184 rfl ?_
      refine jV (pc := 2185) F 0 0 (z99 hZ) cls11.1 (c_X8_thrown hZ p2 rfl rfl ?_) rfl ⟨k_X8_thrown, il_RL_138, im_X8_thrown, is_X8_thrown, ii_RX8⟩ 0 rfl hd_X8_thrown ⟨by decide, by decide, by omega, by omega, Nat.le_of_ble_eq_true rfl⟩ dL_law_2185
      refine j1 ?_
      refine ia_iload (pc := 2188) F dL_law_2188 rfl ?_
      refine lq_icmp (pc := 2190) F 2195 dL_law_2190 rfl (by rw [y99]; exact d6) ?_
      refine ia_iload (pc := 2195) F dL_law_2195 rfl ?_
      refine lq_ifn (pc := 2197) F 2212 dL_law_2197 rfl (by omega) ?_
      refine ia_goto (pc := 2212) F 2404 dL_law_2212 rfl ?_
      refine jw [false, false, false, false, false, false, true, true, true] rfl ?_
      refine lq_wid (c2 := cells + 30) (s2 := slots + 7000) (by omega) (by omega) ?_
      have rk := tx_ps_rng kc c0
      have hT2 : LvT Z V2 := ⟨0, qT, lT, by omega, by rw [y99]; exact d9, SB_mv (x1 (V2 110)) (fun p hp => f2 p (by simp; omega))⟩
      have e92 : V2 92 0 = V 92 0 := (congrFun (f2 92 (by decide)) 0).trans ((x1 (V 110)).2.2.1.trans hT.2.2.1.symm)
      have e13 : V2 99 13 = V 99 13 := by rw [y99]; exact d10 13 (Or.inl rfl)
      have e15 : V2 99 15 = V 99 15 := by rw [y99]; exact d10 15 (Or.inr rfl)
      have g0 : V2 0 = up (V 0) 10 (jc : Int) := ((f2 0 (by decide)).trans w0)
      have hE2 : LvE V2 := by
        unfold LvE
        rw [g0, y99, up_self, up_ne (by decide), d8, d7.2]
        exact ⟨hE.1, by omega, rfl⟩
      have c72 := cpy2_72 y100
      exact kk _ _ (LvI_new hJ hj p2 (Sh_ext (Sh_fr x0 f2 (by decide)) c72) (SI_ext (SI_le hB2 (by omega)) c72) (LvC_keep hC hj ((f2 15 (by decide)).trans w15) (by rw [y99]; exact d7.1) y103 (fun p g1 g2 g3 => (f2 p (by simp; omega)).trans (x2 p g3 (by simp; omega)))) (by rw [g0, up_ne (by decide)]) hE2 hT2 e92 e13 e15 (fun p hp hs => (f2 p (nsub hp (by decide))).trans (x2 p hs (nsub hp (by decide)))))
