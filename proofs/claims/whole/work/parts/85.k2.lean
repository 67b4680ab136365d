/-! x -/
set_option maxRecDepth 100000 in
set_option maxHeartbeats 2000000 in
set_option linter.constructorNameAsVariable false in
theorem lcs_22 {X : ia_X} {cells slots LX ix jj : Nat} {xs : Nat → Int32} {Z : ia_Z} {V : ia_H} (F : ia_Fix X RL cL_law 9 20 20000 3600000) (hX : LSc X LX xs) (hi : ix + 2 < LX ∧ LX ≤ 1536) (hJ : LvI jj Z V) (hj : jj < 512) (hc : cells + 30 ≤ 20000 ∧ slots + 7000 ≤ 3600000) (kk : ∀ (Z9 : ia_Z) (V9 : ia_H), LvI (jj + 1) Z9 V9 → ia_G X (cells + 30) (slots + 7000) 2404 [(4, ((ia_E0 + 400 : Nat) : Int)), (4, ((0 : Nat) : Int)), (4, ((99 : Nat) : Int)), (4, ((114 : Nat) : Int)), (4, ((115 : Nat) : Int)), (0, (ix : Int)), (9, 0), (9, 0), (9, 0)] [] Z9 V9) : ia_G X cells slots 1278 [(4, ((ia_E0 + 400 : Nat) : Int)), (4, ((0 : Nat) : Int)), (4, ((99 : Nat) : Int)), (4, ((114 : Nat) : Int)), (4, ((115 : Nat) : Int)), (0, (ix : Int)), (9, 0), (9, 0), (9, 0)] [] Z V := by
  obtain ⟨⟨hZ, hP, hz, hj2⟩, ⟨hB1, hB2⟩, hC, hD, hE, ⟨nT, qT, lT, hn6, h20, hT⟩, ⟨nU, qU, lU, hn7, h15, hU⟩, hne⟩ := id hJ
  obtain ⟨s0, s1, s2, s3, s4, s5, s6, s7, s18, sb, sw, se, sp⟩ := id hB2
  have hχ := hC.1
  have hd : 0 ≤ V 99 10 ∧ V 99 10 ≤ 8 := by have := hC.2.1; omega
  have hd1 := hC.2.1
  have h7 : (V 100 0).toNat ≤ 7 := by omega
  have hol := opm_len (σ := V 100) h7
  obtain ⟨q, ea0⟩ : ∃ y : Int, (xs (ix + 1)).toInt = y := ⟨_, rfl⟩
  have ra0 := i32_rng (xs (ix + 1))
  rw [ea0] at ra0
  refine ia_aload_n (pc := 1278) F dL_law_1278 rfl ?_
  refine ia_aload_n (pc := 1279) F dL_law_1279 rfl ?_
  refine ia_iload (pc := 1280) F dL_law_1280 rfl ?_
  refine ia_iconst (pc := 1282) F dL_law_1282 ?_
  refine ia_iadd (pc := 1283) F dL_law_1283 ?_
  refine ia_sl (pc := 1284) F hX (ix + 1) (by omega) ⟨by omega, hi.2⟩ ea0 dL_law_1284 ?_
  refine ia_aload_n (pc := 1285) F dL_law_1285 rfl ?_
  refine jSH (pc := 1286) F (h_editionAt q hZ hP hB1 hB2 rfl rfl rfl rfl rfl (by omega) (fun V1 c0 p1 f1 => ?_) (fun V1 c0 p1 f1 => ?_)) rfl ⟨k_L_editionAt, il_RL_212, it_L_editionAt, ii_RL⟩ 3 rfl hd_L_editionAt ⟨by decide, by decide, by omega, by omega, Nat.le_of_ble_eq_true rfl⟩ dL_law_1286
  · refine j1 ?_
    refine ia_istore (pc := 1289) F (ls' := [(4, ((ia_E0 + 400 : Nat) : Int)), (4, ((0 : Nat) : Int)), (4, ((99 : Nat) : Int)), (4, ((114 : Nat) : Int)), (4, ((115 : Nat) : Int)), (0, (ix : Int)), (0, 0), (9, 0), (9, 0)]) dL_law_1289 (Nat.le_of_ble_eq_true rfl) rfl rfl ?_
    refine ia_aload_n (pc := 1291) F dL_law_1291 rfl ?_
    refine ia_aload_n (pc := 1292) F dL_law_1292 rfl ?_
    refine ia_iload (pc := 1293) F dL_law_1293 rfl ?_
    refine ia_iconst (pc := 1295) F dL_law_1295 ?_
    refine ia_iadd (pc := 1296) F dL_law_1296 ?_
    refine ia_sl (pc := 1297) F hX (ix + 1) (by omega) ⟨by omega, hi.2⟩ ea0 dL_law_1297 ?_
    refine jV (pc := 1298) F 0 0 (z99 hZ) cls11.1 (c_X8_editionAt q hZ (PI_u p1 rfl) hB2 ((rowN (by decide)).trans (f1 99 (by decide))) ((rowN (by decide)).trans (f1 100 (by decide))) ((rowN (by decide)).trans (f1 104 (by decide))) ((rowN (by decide)).trans (f1 108 (by decide))) (by omega) (fun V2 d0 p2 y99 f2 => ?_) (fun V2 d0 p2 y99 f2 => ?_)) rfl ⟨k_X8_editionAt, il_RL_214, im_X8_editionAt, is_X8_editionAt, ii_RX8⟩ 1 rfl hd_X8_editionAt ⟨by decide, by decide, by omega, by omega, Nat.le_of_ble_eq_true rfl⟩ dL_law_1298
    · refine j1 ?_
      refine ia_istore (pc := 1301) F (ls' := [(4, ((ia_E0 + 400 : Nat) : Int)), (4, ((0 : Nat) : Int)), (4, ((99 : Nat) : Int)), (4, ((114 : Nat) : Int)), (4, ((115 : Nat) : Int)), (0, (ix : Int)), (0, 0), (0, (((opm (V 100)).getD q.toNat 0 : Nat) : Int)), (9, 0)]) dL_law_1301 (Nat.le_of_ble_eq_true rfl) rfl rfl ?_
      refine ia_aload_n (pc := 1303) F dL_law_1303 rfl ?_
      refine jV (pc := 1304) F 0 0 (z99 hZ) cls11.1 (c_X8_thrown hZ p2 rfl rfl ?_) rfl ⟨k_X8_thrown, il_RL_138, im_X8_thrown, is_X8_thrown, ii_RX8⟩ 0 rfl hd_X8_thrown ⟨by decide, by decide, by omega, by omega, Nat.le_of_ble_eq_true rfl⟩ dL_law_1304
      refine j1 ?_
      refine ia_iload (pc := 1307) F dL_law_1307 rfl ?_
      refine lq_icmp (pc := 1309) F 1314 dL_law_1309 rfl (by rw [y99]; simp [up]) ?_
      refine ia_iload (pc := 1314) F dL_law_1314 rfl ?_
      refine lq_ifz (pc := 1316) F dL_law_1316 1331 rfl ?_
      refine ia_aload_n (pc := 1319) F dL_law_1319 rfl ?_
      refine ia_iconst (pc := 1320) F dL_law_1320 ?_
      refine jal (pc := 1321) F (z114 hZ) 0 rfl (by decide) ((congrFun (f2 114 (by decide)) 0).trans (ia_u_self _ _ _ _)) dL_law_1321 ?_
      refine ia_iload (pc := 1322) F dL_law_1322 rfl ?_
      have r9 := oO_rng (σ := V 100) ((V 100) 0).toNat ((mol (oC (V 100) ((V 100) 0).toNat) ((V 100) 4) (lot 0 (oc (V 100) ((V 100) 0).toNat))).getD q.toNat 0)
      have e9 : (oO (V 100) ((V 100) 0).toNat ((mol (oC (V 100) ((V 100) 0).toNat) ((V 100) 4) (lot 0 (oc (V 100) ((V 100) 0).toNat))).getD q.toNat 0)) = (((opm (V 100)).getD q.toNat 0 : Nat) : Int) := (ord_at h7 (by omega))
      refine ia_i2lr (pc := 1324) F dL_law_1324 (by omega) ?_
      refine lq_lcmp (pc := 1325) F dL_law_1325 e9 ?_
      refine lq_if0 (pc := 1326) F 1331 dL_law_1326 rfl ?_
      refine ia_goto (pc := 1331) F 2404 dL_law_1331 rfl ?_
      refine jw [false, false, false, false, false, false, true, true, true] rfl ?_
      refine lq_wid (c2 := cells + 30) (s2 := slots + 7000) (by omega) (by omega) ?_
      exact kk _ _ (LvI_keep hJ hj p2 (fun p hp hs => ((f2 p (nsub hp (by decide))).trans ((rowN (nne hp (by decide))).trans (f1 p (nsub hp (by decide)))))) ((f2 100 (by decide)).trans ((rowN (by decide)).trans (f1 100 (by decide)))) ((f2 103 (by decide)).trans ((rowN (by decide)).trans (f1 103 (by decide)))) (fun z h9 => by rw [y99]; simp only [up, if_neg h9]))
    · exfalso; omega
  · refine j1 ?_
    refine ia_istore (pc := 1289) F (ls' := [(4, ((ia_E0 + 400 : Nat) : Int)), (4, ((0 : Nat) : Int)), (4, ((99 : Nat) : Int)), (4, ((114 : Nat) : Int)), (4, ((115 : Nat) : Int)), (0, (ix : Int)), (0, 1), (9, 0), (9, 0)]) dL_law_1289 (Nat.le_of_ble_eq_true rfl) rfl rfl ?_
    refine ia_aload_n (pc := 1291) F dL_law_1291 rfl ?_
    refine ia_aload_n (pc := 1292) F dL_law_1292 rfl ?_
    refine ia_iload (pc := 1293) F dL_law_1293 rfl ?_
    refine ia_iconst (pc := 1295) F dL_law_1295 ?_
    refine ia_iadd (pc := 1296) F dL_law_1296 ?_
    refine ia_sl (pc := 1297) F hX (ix + 1) (by omega) ⟨by omega, hi.2⟩ ea0 dL_law_1297 ?_
    refine jV (pc := 1298) F 0 0 (z99 hZ) cls11.1 (c_X8_editionAt q hZ p1 hB2 (f1 99 (by decide)) (f1 100 (by decide)) (f1 104 (by decide)) (f1 108 (by decide)) (by omega) (fun V2 d0 p2 y99 f2 => ?_) (fun V2 d0 p2 y99 f2 => ?_)) rfl ⟨k_X8_editionAt, il_RL_214, im_X8_editionAt, is_X8_editionAt, ii_RX8⟩ 1 rfl hd_X8_editionAt ⟨by decide, by decide, by omega, by omega, Nat.le_of_ble_eq_true rfl⟩ dL_law_1298
    · exfalso; omega
    · refine j1 ?_
      refine ia_istore (pc := 1301) F (ls' := [(4, ((ia_E0 + 400 : Nat) : Int)), (4, ((0 : Nat) : Int)), (4, ((99 : Nat) : Int)), (4, ((114 : Nat) : Int)), (4, ((115 : Nat) : Int)), (0, (ix : Int)), (0, 1), (0, 0), (9, 0)]) dL_law_1301 (Nat.le_of_ble_eq_true rfl) rfl rfl ?_
      refine ia_aload_n (pc := 1303) F dL_law_1303 rfl ?_
      refine jV (pc := 1304) F 0 0 (z99 hZ) cls11.1 (c_X8_thrown hZ p2 rfl rfl ?_) rfl ⟨k_X8_thrown, il_RL_138, im_X8_thrown, is_X8_thrown, ii_RX8⟩ 0 rfl hd_X8_thrown ⟨by decide, by decide, by omega, by omega, Nat.le_of_ble_eq_true rfl⟩ dL_law_1304
      refine j1 ?_
      refine ia_iload (pc := 1307) F dL_law_1307 rfl ?_
      refine lq_icmp (pc := 1309) F 1314 dL_law_1309 rfl (by rw [y99]; simp [up]) ?_
      refine ia_iload (pc := 1314) F dL_law_1314 rfl ?_
      refine lq_ifn (pc := 1316) F 1331 dL_law_1316 rfl (by omega) ?_
      refine ia_goto (pc := 1331) F 2404 dL_law_1331 rfl ?_
      refine jw [false, false, false, false, false, false, true, true, true] rfl ?_
      refine lq_wid (c2 := cells + 30) (s2 := slots + 7000) (by omega) (by omega) ?_
      exact kk _ _ (LvI_keep hJ hj p2 (fun p hp hs => ((f2 p (nsub hp (by decide))).trans (f1 p (nsub hp (by decide))))) ((f2 100 (by decide)).trans (f1 100 (by decide))) ((f2 103 (by decide)).trans (f1 103 (by decide))) (fun z h9 => by rw [y99]; simp only [up, if_neg h9]))
set_option maxRecDepth 100000 in
set_option maxHeartbeats 2000000 in
set_option linter.constructorNameAsVariable false in
theorem lcs_23 {X : ia_X} {cells slots LX ix jj : Nat} {xs : Nat → Int32} {Z : ia_Z} {V : ia_H} (F : ia_Fix X RL cL_law 9 20 20000 3600000) (hX : LSc X LX xs) (hi : ix + 2 < LX ∧ LX ≤ 1536) (hJ : LvI jj Z V) (hj : jj < 512) (hc : cells + 30 ≤ 20000 ∧ slots + 7000 ≤ 3600000) (kk : ∀ (Z9 : ia_Z) (V9 : ia_H), LvI (jj + 1) Z9 V9 → ia_G X (cells + 30) (slots + 7000) 2404 [(4, ((ia_E0 + 400 : Nat) : Int)), (4, ((0 : Nat) : Int)), (4, ((99 : Nat) : Int)), (4, ((114 : Nat) : Int)), (4, ((115 : Nat) : Int)), (0, (ix : Int)), (9, 0), (9, 0), (9, 0)] [] Z9 V9) : ia_G X cells slots 1334 [(4, ((ia_E0 + 400 : Nat) : Int)), (4, ((0 : Nat) : Int)), (4, ((99 : Nat) : Int)), (4, ((114 : Nat) : Int)), (4, ((115 : Nat) : Int)), (0, (ix : Int)), (9, 0), (9, 0), (9, 0)] [] Z V := by
  obtain ⟨⟨hZ, hP, hz, hj2⟩, ⟨hB1, hB2⟩, hC, hD, hE, ⟨nT, qT, lT, hn6, h20, hT⟩, ⟨nU, qU, lU, hn7, h15, hU⟩, hne⟩ := id hJ
  obtain ⟨s0, s1, s2, s3, s4, s5, s6, s7, s18, sb, sw, se, sp⟩ := id hB2
  have hχ := hC.1
  have hd : 0 ≤ V 99 10 ∧ V 99 10 ≤ 8 := by have := hC.2.1; omega
  have hd1 := hC.2.1
  have h7 : (V 100 0).toNat ≤ 7 := by omega
  obtain ⟨e, ea0⟩ : ∃ y : Int, (xs (ix + 1)).toInt = y := ⟨_, rfl⟩
  have ra0 := i32_rng (xs (ix + 1))
  rw [ea0] at ra0
  refine ia_aload_n (pc := 1334) F dL_law_1334 rfl ?_
  refine ia_aload_n (pc := 1335) F dL_law_1335 rfl ?_
  refine ia_iload (pc := 1336) F dL_law_1336 rfl ?_
  refine ia_iconst (pc := 1338) F dL_law_1338 ?_
  refine ia_iadd (pc := 1339) F dL_law_1339 ?_
  refine ia_sl (pc := 1340) F hX (ix + 1) (by omega) ⟨by omega, hi.2⟩ ea0 dL_law_1340 ?_
  refine ia_aload_n (pc := 1341) F dL_law_1341 rfl ?_
  refine jSH (pc := 1342) F (h_shareOf e hZ hP hB1 hB2 rfl (by omega) (fun V1 c0 p1 f1 => ?_) (fun c0 => ?_)) rfl ⟨k_L_shareOf, il_RL_215, it_L_shareOf, ii_RL⟩ 3 rfl hd_L_shareOf ⟨by decide, by decide, by omega, by omega, Nat.le_of_ble_eq_true rfl⟩ dL_law_1342
  · refine j1 ?_
    refine ia_istore (pc := 1345) F (ls' := [(4, ((ia_E0 + 400 : Nat) : Int)), (4, ((0 : Nat) : Int)), (4, ((99 : Nat) : Int)), (4, ((114 : Nat) : Int)), (4, ((115 : Nat) : Int)), (0, (ix : Int)), (0, 0), (9, 0), (9, 0)]) dL_law_1345 (Nat.le_of_ble_eq_true rfl) rfl rfl ?_
    refine ia_aload_n (pc := 1347) F dL_law_1347 rfl ?_
    refine ia_aload_n (pc := 1348) F dL_law_1348 rfl ?_
    refine ia_iload (pc := 1349) F dL_law_1349 rfl ?_
    refine ia_iconst (pc := 1351) F dL_law_1351 ?_
    refine ia_iadd (pc := 1352) F dL_law_1352 ?_
    refine ia_sl (pc := 1353) F hX (ix + 1) (by omega) ⟨by omega, hi.2⟩ ea0 dL_law_1353 ?_
    refine jV (pc := 1354) F 0 0 (z99 hZ) cls11.1 (c_X8_shareOf e hZ (PI_u p1 rfl) hB2 ((rowN (by decide)).trans (f1 99 (by decide))) ((rowN (by decide)).trans (f1 100 (by decide))) ((rowN (by decide)).trans (f1 105 (by decide))) (by omega) (fun V2 d0 p2 y99 f2 => ?_) (fun V2 d0 p2 y99 f2 => ?_)) rfl ⟨k_X8_shareOf, il_RL_217, im_X8_shareOf, is_X8_shareOf, ii_RX8⟩ 1 rfl hd_X8_shareOf ⟨by decide, by decide, by omega, by omega, Nat.le_of_ble_eq_true rfl⟩ dL_law_1354
    · refine j1 ?_
      refine ia_istore (pc := 1357) F (ls' := [(4, ((ia_E0 + 400 : Nat) : Int)), (4, ((0 : Nat) : Int)), (4, ((99 : Nat) : Int)), (4, ((114 : Nat) : Int)), (4, ((115 : Nat) : Int)), (0, (ix : Int)), (0, 0), (0, (shA (V 100) e.toNat)), (9, 0)]) dL_law_1357 (Nat.le_of_ble_eq_true rfl) rfl rfl ?_
      refine ia_aload_n (pc := 1359) F dL_law_1359 rfl ?_
      refine jV (pc := 1360) F 0 0 (z99 hZ) cls11.1 (c_X8_thrown hZ p2 rfl rfl ?_) rfl ⟨k_X8_thrown, il_RL_138, im_X8_thrown, is_X8_thrown, ii_RX8⟩ 0 rfl hd_X8_thrown ⟨by decide, by decide, by omega, by omega, Nat.le_of_ble_eq_true rfl⟩ dL_law_1360
      refine j1 ?_
      refine ia_iload (pc := 1363) F dL_law_1363 rfl ?_
      refine lq_icmp (pc := 1365) F 1370 dL_law_1365 rfl (by rw [y99]; simp [up]) ?_
      refine ia_iload (pc := 1370) F dL_law_1370 rfl ?_
      refine lq_ifz (pc := 1372) F dL_law_1372 1387 rfl ?_
      refine ia_aload_n (pc := 1375) F dL_law_1375 rfl ?_
      refine ia_iconst (pc := 1376) F dL_law_1376 ?_
      refine jal (pc := 1377) F (z114 hZ) 0 rfl (by decide) ((congrFun (f2 114 (by decide)) 0).trans (ia_u_self _ _ _ _)) dL_law_1377 ?_
      refine ia_iload (pc := 1378) F dL_law_1378 rfl ?_
      have r9 := shs_rng (σ := V 100) e.toNat ((V 100) 2).toNat
      have e9 : (shs (V 100) ((V 100) 2).toNat e.toNat) = (shA (V 100) e.toNat) := rfl
      refine ia_i2lr (pc := 1380) F dL_law_1380 (by omega) ?_
      refine lq_lcmp (pc := 1381) F dL_law_1381 e9 ?_
      refine lq_if0 (pc := 1382) F 1387 dL_law_1382 rfl ?_
      refine ia_goto (pc := 1387) F 2404 dL_law_1387 rfl ?_
      refine jw [false, false, false, false, false, false, true, true, true] rfl ?_
      refine lq_wid (c2 := cells + 30) (s2 := slots + 7000) (by omega) (by omega) ?_
      exact kk _ _ (LvI_keep hJ hj p2 (fun p hp hs => ((f2 p (nsub hp (by decide))).trans ((rowN (nne hp (by decide))).trans (f1 p (nsub hp (by decide)))))) ((f2 100 (by decide)).trans ((rowN (by decide)).trans (f1 100 (by decide)))) ((f2 103 (by decide)).trans ((rowN (by decide)).trans (f1 103 (by decide)))) (fun z h9 => by rw [y99]; simp only [up, if_neg h9]))
    · exfalso; omega
  · refine j1 ?_
    refine ia_istore (pc := 1345) F (ls' := [(4, ((ia_E0 + 400 : Nat) : Int)), (4, ((0 : Nat) : Int)), (4, ((99 : Nat) : Int)), (4, ((114 : Nat) : Int)), (4, ((115 : Nat) : Int)), (0, (ix : Int)), (0, 1), (9, 0), (9, 0)]) dL_law_1345 (Nat.le_of_ble_eq_true rfl) rfl rfl ?_
    refine ia_aload_n (pc := 1347) F dL_law_1347 rfl ?_
    refine ia_aload_n (pc := 1348) F dL_law_1348 rfl ?_
    refine ia_iload (pc := 1349) F dL_law_1349 rfl ?_
    refine ia_iconst (pc := 1351) F dL_law_1351 ?_
    refine ia_iadd (pc := 1352) F dL_law_1352 ?_
    refine ia_sl (pc := 1353) F hX (ix + 1) (by omega) ⟨by omega, hi.2⟩ ea0 dL_law_1353 ?_
    refine jV (pc := 1354) F 0 0 (z99 hZ) cls11.1 (c_X8_shareOf e hZ hP hB2 rfl rfl rfl (by omega) (fun V2 d0 p2 y99 f2 => ?_) (fun V2 d0 p2 y99 f2 => ?_)) rfl ⟨k_X8_shareOf, il_RL_217, im_X8_shareOf, is_X8_shareOf, ii_RX8⟩ 1 rfl hd_X8_shareOf ⟨by decide, by decide, by omega, by omega, Nat.le_of_ble_eq_true rfl⟩ dL_law_1354
    · exfalso; omega
    · refine j1 ?_
      refine ia_istore (pc := 1357) F (ls' := [(4, ((ia_E0 + 400 : Nat) : Int)), (4, ((0 : Nat) : Int)), (4, ((99 : Nat) : Int)), (4, ((114 : Nat) : Int)), (4, ((115 : Nat) : Int)), (0, (ix : Int)), (0, 1), (0, 0), (9, 0)]) dL_law_1357 (Nat.le_of_ble_eq_true rfl) rfl rfl ?_
      refine ia_aload_n (pc := 1359) F dL_law_1359 rfl ?_
      refine jV (pc := 1360) F 0 0 (z99 hZ) cls11.1 (c_X8_thrown hZ p2 rfl rfl ?_) rfl ⟨k_X8_thrown, il_RL_138, im_X8_thrown, is_X8_thrown, ii_RX8⟩ 0 rfl hd_X8_thrown ⟨by decide, by decide, by omega, by omega, Nat.le_of_ble_eq_true rfl⟩ dL_law_1360
      refine j1 ?_
      refine ia_iload (pc := 1363) F dL_law_1363 rfl ?_
      refine lq_icmp (pc := 1365) F 1370 dL_law_1365 rfl (by rw [y99]; simp [up]) ?_
      refine ia_iload (pc := 1370) F dL_law_1370 rfl ?_
      refine lq_ifn (pc := 1372) F 1387 dL_law_1372 rfl (by omega) ?_
      refine ia_goto (pc := 1387) F 2404 dL_law_1387 rfl ?_
      refine jw [false, false, false, false, false, false, true, true, true] rfl ?_
      refine lq_wid (c2 := cells + 30) (s2 := slots + 7000) (by omega) (by omega) ?_
      exact kk _ _ (LvI_keep hJ hj p2 (fun p hp hs => ((f2 p (nsub hp (by decide))).trans rfl)) (f2 100 (by decide)) (f2 103 (by decide)) (fun z h9 => by rw [y99]; simp only [up, if_neg h9]))
set_option maxRecDepth 100000 in
set_option maxHeartbeats 2000000 in
set_option linter.constructorNameAsVariable false in
theorem lcs_24 {X : ia_X} {cells slots LX ix jj : Nat} {xs : Nat → Int32} {Z : ia_Z} {V : ia_H} (F : ia_Fix X RL cL_law 9 20 20000 3600000) (hX : LSc X LX xs) (hi : ix + 2 < LX ∧ LX ≤ 1536) (hJ : LvI jj Z V) (hj : jj < 512) (hc : cells + 30 ≤ 20000 ∧ slots + 7000 ≤ 3600000) (kk : ∀ (Z9 : ia_Z) (V9 : ia_H), LvI (jj + 1) Z9 V9 → ia_G X (cells + 30) (slots + 7000) 2404 [(4, ((ia_E0 + 400 : Nat) : Int)), (4, ((0 : Nat) : Int)), (4, ((99 : Nat) : Int)), (4, ((114 : Nat) : Int)), (4, ((115 : Nat) : Int)), (0, (ix : Int)), (9, 0), (9, 0), (9, 0)] [] Z9 V9) : ia_G X cells slots 1390 [(4, ((ia_E0 + 400 : Nat) : Int)), (4, ((0 : Nat) : Int)), (4, ((99 : Nat) : Int)), (4, ((114 : Nat) : Int)), (4, ((115 : Nat) : Int)), (0, (ix : Int)), (9, 0), (9, 0), (9, 0)] [] Z V := by
  obtain ⟨⟨hZ, hP, hz, hj2⟩, ⟨hB1, hB2⟩, hC, hD, hE, ⟨nT, qT, lT, hn6, h20, hT⟩, ⟨nU, qU, lU, hn7, h15, hU⟩, hne⟩ := id hJ
  obtain ⟨s0, s1, s2, s3, s4, s5, s6, s7, s18, sb, sw, se, sp⟩ := id hB2
  have hχ := hC.1
  have hd : 0 ≤ V 99 10 ∧ V 99 10 ≤ 8 := by have := hC.2.1; omega
  have hd1 := hC.2.1
  have h7 : (V 100 0).toNat ≤ 7 := by omega
  obtain ⟨e, ea0⟩ : ∃ y : Int, (xs (ix + 1)).toInt = y := ⟨_, rfl⟩
  have ra0 := i32_rng (xs (ix + 1))
  rw [ea0] at ra0
  refine ia_aload_n (pc := 1390) F dL_law_1390 rfl ?_
  refine ia_aload_n (pc := 1391) F dL_law_1391 rfl ?_
  refine ia_iload (pc := 1392) F dL_law_1392 rfl ?_
  refine ia_iconst (pc := 1394) F dL_law_1394 ?_
  refine ia_iadd (pc := 1395) F dL_law_1395 ?_
  refine ia_sl (pc := 1396) F hX (ix + 1) (by omega) ⟨by omega, hi.2⟩ ea0 dL_law_1396 ?_
  refine ia_aload_n (pc := 1397) F dL_law_1397 rfl ?_
  refine jSH (pc := 1398) F (h_shareByLevel e hZ hP hB1 hB2 rfl (by omega) (fun Lc V1 c0 c1 c2 c3 p1 f1 => ?_) (fun c0 => ?_)) rfl ⟨k_L_shareByLevel, il_RL_218, it_L_shareByLevel, ii_RL⟩ 3 rfl hd_L_shareByLevel ⟨by decide, by decide, by omega, by omega, Nat.le_of_ble_eq_true rfl⟩ dL_law_1398
  · refine j1 ?_
    refine ia_istore (pc := 1401) F (ls' := [(4, ((ia_E0 + 400 : Nat) : Int)), (4, ((0 : Nat) : Int)), (4, ((99 : Nat) : Int)), (4, ((114 : Nat) : Int)), (4, ((115 : Nat) : Int)), (0, (ix : Int)), (0, 0), (9, 0), (9, 0)]) dL_law_1401 (Nat.le_of_ble_eq_true rfl) rfl rfl ?_
    refine ia_aload_n (pc := 1403) F dL_law_1403 rfl ?_
    refine ia_aload_n (pc := 1404) F dL_law_1404 rfl ?_
    refine ia_iload (pc := 1405) F dL_law_1405 rfl ?_
    refine ia_iconst (pc := 1407) F dL_law_1407 ?_
    refine ia_iadd (pc := 1408) F dL_law_1408 ?_
    refine ia_sl (pc := 1409) F hX (ix + 1) (by omega) ⟨by omega, hi.2⟩ ea0 dL_law_1409 ?_
    refine jV (pc := 1410) F 0 0 (z99 hZ) cls11.1 (c_X8_shareByLevel e hZ (PI_u p1 rfl) hB2 ((rowN (by decide)).trans (f1 99 (by decide))) ((rowN (by decide)).trans (f1 100 (by decide))) ((rowN (by decide)).trans (f1 105 (by decide))) (by omega) (fun V2 d0 p2 y99 f2 => ?_) (fun V2 d0 p2 y99 f2 => ?_)) rfl ⟨k_X8_shareByLevel, il_RL_220, im_X8_shareByLevel, is_X8_shareByLevel, ii_RX8⟩ 1 rfl hd_X8_shareByLevel ⟨by decide, by decide, by omega, by omega, Nat.le_of_ble_eq_true rfl⟩ dL_law_1410
    · refine j1 ?_
      refine ia_istore (pc := 1413) F (ls' := [(4, ((ia_E0 + 400 : Nat) : Int)), (4, ((0 : Nat) : Int)), (4, ((99 : Nat) : Int)), (4, ((114 : Nat) : Int)), (4, ((115 : Nat) : Int)), (0, (ix : Int)), (0, 0), (0, (shA (V 100) e.toNat)), (9, 0)]) dL_law_1413 (Nat.le_of_ble_eq_true rfl) rfl rfl ?_
      refine ia_aload_n (pc := 1415) F dL_law_1415 rfl ?_
      refine jV (pc := 1416) F 0 0 (z99 hZ) cls11.1 (c_X8_thrown hZ p2 rfl rfl ?_) rfl ⟨k_X8_thrown, il_RL_138, im_X8_thrown, is_X8_thrown, ii_RX8⟩ 0 rfl hd_X8_thrown ⟨by decide, by decide, by omega, by omega, Nat.le_of_ble_eq_true rfl⟩ dL_law_1416
      refine j1 ?_
      refine ia_iload (pc := 1419) F dL_law_1419 rfl ?_
      refine lq_icmp (pc := 1421) F 1426 dL_law_1421 rfl (by rw [y99]; simp [up]) ?_
      refine ia_iload (pc := 1426) F dL_law_1426 rfl ?_
      refine lq_ifz (pc := 1428) F dL_law_1428 1443 rfl ?_
      refine ia_aload_n (pc := 1431) F dL_law_1431 rfl ?_
      refine ia_iconst (pc := 1432) F dL_law_1432 ?_
      refine jal (pc := 1433) F (z114 hZ) 0 rfl (by decide) ((congrFun (f2 114 (by decide)) 0).trans (ia_u_self _ _ _ _)) dL_law_1433 ?_
      refine ia_iload (pc := 1434) F dL_law_1434 rfl ?_
      have r9 := shs_rng (σ := V 100) e.toNat ((V 100) 2).toNat
      have r8 : shA (V 100) e.toNat = shs (V 100) ((V 100) 2).toNat e.toNat := rfl
      have e9 : (lvv (V 100) Lc ((V 100) 2 - slv (V 100) Lc ((V 100) 0).toNat) e.toNat) = (shA (V 100) e.toNat) := (lvl_eq hB2 c1 c2 c3 (by omega))
      refine ia_i2lr (pc := 1436) F dL_law_1436 (by omega) ?_
      refine lq_lcmp (pc := 1437) F dL_law_1437 e9 ?_
      refine lq_if0 (pc := 1438) F 1443 dL_law_1438 rfl ?_
      refine ia_goto (pc := 1443) F 2404 dL_law_1443 rfl ?_
      refine jw [false, false, false, false, false, false, true, true, true] rfl ?_
      refine lq_wid (c2 := cells + 30) (s2 := slots + 7000) (by omega) (by omega) ?_
      exact kk _ _ (LvI_keep hJ hj p2 (fun p hp hs => ((f2 p (nsub hp (by decide))).trans ((rowN (nne hp (by decide))).trans (f1 p (nsub hp (by decide)))))) ((f2 100 (by decide)).trans ((rowN (by decide)).trans (f1 100 (by decide)))) ((f2 103 (by decide)).trans ((rowN (by decide)).trans (f1 103 (by decide)))) (fun z h9 => by rw [y99]; simp only [up, if_neg h9]))
    · exfalso; omega
  · refine j1 ?_
    refine ia_istore (pc := 1401) F (ls' := [(4, ((ia_E0 + 400 : Nat) : Int)), (4, ((0 : Nat) : Int)), (4, ((99 : Nat) : Int)), (4, ((114 : Nat) : Int)), (4, ((115 : Nat) : Int)), (0, (ix : Int)), (0, 1), (9, 0), (9, 0)]) dL_law_1401 (Nat.le_of_ble_eq_true rfl) rfl rfl ?_
    refine ia_aload_n (pc := 1403) F dL_law_1403 rfl ?_
    refine ia_aload_n (pc := 1404) F dL_law_1404 rfl ?_
    refine ia_iload (pc := 1405) F dL_law_1405 rfl ?_
    refine ia_iconst (pc := 1407) F dL_law_1407 ?_
    refine ia_iadd (pc := 1408) F dL_law_1408 ?_
    refine ia_sl (pc := 1409) F hX (ix + 1) (by omega) ⟨by omega, hi.2⟩ ea0 dL_law_1409 ?_
    refine jV (pc := 1410) F 0 0 (z99 hZ) cls11.1 (c_X8_shareByLevel e hZ hP hB2 rfl rfl rfl (by omega) (fun V2 d0 p2 y99 f2 => ?_) (fun V2 d0 p2 y99 f2 => ?_)) rfl ⟨k_X8_shareByLevel, il_RL_220, im_X8_shareByLevel, is_X8_shareByLevel, ii_RX8⟩ 1 rfl hd_X8_shareByLevel ⟨by decide, by decide, by omega, by omega, Nat.le_of_ble_eq_true rfl⟩ dL_law_1410
    · exfalso; omega
    · refine j1 ?_
      refine ia_istore (pc := 1413) F (ls' := [(4, ((ia_E0 + 400 : Nat) : Int)), (4, ((0 : Nat) : Int)), (4, ((99 : Nat) : Int)), (4, ((114 : Nat) : Int)), (4, ((115 : Nat) : Int)), (0, (ix : Int)), (0, 1), (0, 0), (9, 0)]) dL_law_1413 (Nat.le_of_ble_eq_true rfl) rfl rfl ?_
      refine ia_aload_n (pc := 1415) F dL_law_1415 rfl ?_
      refine jV (pc := 1416) F 0 0 (z99 hZ) cls11.1 (c_X8_thrown hZ p2 rfl rfl ?_) rfl ⟨k_X8_thrown, il_RL_138, im_X8_thrown, is_X8_thrown, ii_RX8⟩ 0 rfl hd_X8_thrown ⟨by decide, by decide, by omega, by omega, Nat.le_of_ble_eq_true rfl⟩ dL_law_1416
      refine j1 ?_
      refine ia_iload (pc := 1419) F dL_law_1419 rfl ?_
      refine lq_icmp (pc := 1421) F 1426 dL_law_1421 rfl (by rw [y99]; simp [up]) ?_
      refine ia_iload (pc := 1426) F dL_law_1426 rfl ?_
      refine lq_ifn (pc := 1428) F 1443 dL_law_1428 rfl (by omega) ?_
      refine ia_goto (pc := 1443) F 2404 dL_law_1443 rfl ?_
      refine jw [false, false, false, false, false, false, true, true, true] rfl ?_
      refine lq_wid (c2 := cells + 30) (s2 := slots + 7000) (by omega) (by omega) ?_
      exact kk _ _ (LvI_keep hJ hj p2 (fun p hp hs => ((f2 p (nsub hp (by decide))).trans rfl)) (f2 100 (by decide)) (f2 103 (by decide)) (fun z h9 => by rw [y99]; simp only [up, if_neg h9]))
set_option maxRecDepth 100000 in
set_option maxHeartbeats 2000000 in
set_option linter.constructorNameAsVariable false in
theorem lcs_25 {X : ia_X} {cells slots LX ix jj : Nat} {xs : Nat → Int32} {Z : ia_Z} {V : ia_H} (F : ia_Fix X RL cL_law 9 20 20000 3600000) (hX : LSc X LX xs) (hi : ix + 2 < LX ∧ LX ≤ 1536) (hJ : LvI jj Z V) (hj : jj < 512) (hc : cells + 30 ≤ 20000 ∧ slots + 7000 ≤ 3600000) (kk : ∀ (Z9 : ia_Z) (V9 : ia_H), LvI (jj + 1) Z9 V9 → ia_G X (cells + 30) (slots + 7000) 2404 [(4, ((ia_E0 + 400 : Nat) : Int)), (4, ((0 : Nat) : Int)), (4, ((99 : Nat) : Int)), (4, ((114 : Nat) : Int)), (4, ((115 : Nat) : Int)), (0, (ix : Int)), (9, 0), (9, 0), (9, 0)] [] Z9 V9) : ia_G X cells slots 1446 [(4, ((ia_E0 + 400 : Nat) : Int)), (4, ((0 : Nat) : Int)), (4, ((99 : Nat) : Int)), (4, ((114 : Nat) : Int)), (4, ((115 : Nat) : Int)), (0, (ix : Int)), (9, 0), (9, 0), (9, 0)] [] Z V := by
  obtain ⟨⟨hZ, hP, hz, hj2⟩, ⟨hB1, hB2⟩, hC, hD, hE, ⟨nT, qT, lT, hn6, h20, hT⟩, ⟨nU, qU, lU, hn7, h15, hU⟩, hne⟩ := id hJ
  obtain ⟨s0, s1, s2, s3, s4, s5, s6, s7, s18, sb, sw, se, sp⟩ := id hB2
  have hχ := hC.1
  have hd : 0 ≤ V 99 10 ∧ V 99 10 ≤ 8 := by have := hC.2.1; omega
  have hd1 := hC.2.1
  have h7 : (V 100 0).toNat ≤ 7 := by omega
  obtain ⟨e, ea0⟩ : ∃ y : Int, (xs (ix + 1)).toInt = y := ⟨_, rfl⟩
  have ra0 := i32_rng (xs (ix + 1))
  rw [ea0] at ra0
  refine ia_aload_n (pc := 1446) F dL_law_1446 rfl ?_
  refine ia_aload_n (pc := 1447) F dL_law_1447 rfl ?_
  refine ia_iload (pc := 1448) F dL_law_1448 rfl ?_
  refine ia_iconst (pc := 1450) F dL_law_1450 ?_
  refine ia_iadd (pc := 1451) F dL_law_1451 ?_
  refine ia_sl (pc := 1452) F hX (ix + 1) (by omega) ⟨by omega, hi.2⟩ ea0 dL_law_1452 ?_
  refine ia_aload_n (pc := 1453) F dL_law_1453 rfl ?_
  refine jSH (pc := 1454) F (h_editionByMissing e hZ hP hB1 hB2 (by omega) (fun jc c0 c1 c2 c3 => ?_) (fun c0 c1 => ?_) (fun c0 => ?_)) rfl ⟨k_L_editionByMissing, il_RL_221, it_L_editionByMissing, ii_RL⟩ 3 rfl hd_L_editionByMissing ⟨by decide, by decide, by omega, by omega, Nat.le_of_ble_eq_true rfl⟩ dL_law_1454
  · refine j1 ?_
    refine ia_istore (pc := 1457) F (ls' := [(4, ((ia_E0 + 400 : Nat) : Int)), (4, ((0 : Nat) : Int)), (4, ((99 : Nat) : Int)), (4, ((114 : Nat) : Int)), (4, ((115 : Nat) : Int)), (0, (ix : Int)), (0, 0), (9, 0), (9, 0)]) dL_law_1457 (Nat.le_of_ble_eq_true rfl) rfl rfl ?_
    refine ia_aload_n (pc := 1459) F dL_law_1459 rfl ?_
    refine ia_aload_n (pc := 1460) F dL_law_1460 rfl ?_
    refine ia_iload (pc := 1461) F dL_law_1461 rfl ?_
    refine ia_iconst (pc := 1463) F dL_law_1463 ?_
    refine ia_iadd (pc := 1464) F dL_law_1464 ?_
    refine ia_sl (pc := 1465) F hX (ix + 1) (by omega) ⟨by omega, hi.2⟩ ea0 dL_law_1465 ?_
    refine jV (pc := 1466) F 0 0 (z99 hZ) cls11.1 (c_X8_editionByMissing e hZ (PI_u hP rfl) hB2 (rowN (by decide)) (rowN (by decide)) (by omega) (fun km V2 d0 d1 d2 p2 y99 f2 => ?_) (fun V2 d0 p2 y99 f2 => ?_)) rfl ⟨k_X8_editionByMissing, il_RL_223, im_X8_editionByMissing, is_X8_editionByMissing, ii_RX8⟩ 1 rfl hd_X8_editionByMissing ⟨by decide, by decide, by omega, by omega, Nat.le_of_ble_eq_true rfl⟩ dL_law_1466
    · refine j1 ?_
      refine ia_istore (pc := 1469) F (ls' := [(4, ((ia_E0 + 400 : Nat) : Int)), (4, ((0 : Nat) : Int)), (4, ((99 : Nat) : Int)), (4, ((114 : Nat) : Int)), (4, ((115 : Nat) : Int)), (0, (ix : Int)), (0, 0), (0, (km : Int)), (9, 0)]) dL_law_1469 (Nat.le_of_ble_eq_true rfl) rfl rfl ?_
      refine ia_aload_n (pc := 1471) F dL_law_1471 rfl ?_
      refine jV (pc := 1472) F 0 0 (z99 hZ) cls11.1 (c_X8_thrown hZ p2 rfl rfl ?_) rfl ⟨k_X8_thrown, il_RL_138, im_X8_thrown, is_X8_thrown, ii_RX8⟩ 0 rfl hd_X8_thrown ⟨by decide, by decide, by omega, by omega, Nat.le_of_ble_eq_true rfl⟩ dL_law_1472
      refine j1 ?_
      refine ia_iload (pc := 1475) F dL_law_1475 rfl ?_
      refine lq_icmp (pc := 1477) F 1482 dL_law_1477 rfl (by rw [y99]; simp [up]) ?_
      refine ia_iload (pc := 1482) F dL_law_1482 rfl ?_
      refine lq_ifz (pc := 1484) F dL_law_1484 1499 rfl ?_
      refine ia_aload_n (pc := 1487) F dL_law_1487 rfl ?_
      refine ia_iconst (pc := 1488) F dL_law_1488 ?_
      refine jal (pc := 1489) F (z114 hZ) 0 rfl (by decide) ((congrFun (f2 114 (by decide)) 0).trans (ia_u_self _ _ _ _)) dL_law_1489 ?_
      refine ia_iload (pc := 1490) F dL_law_1490 rfl ?_
      have e9 : (jc : Int) = (km : Int) := (congrArg (fun x : Nat => (x : Int)) (fst_eq (P := fun i => ahd (V 100) i (V 100 0).toNat = e) c2 c3 d1 d2))
      refine ia_i2lr (pc := 1492) F dL_law_1492 (by omega) ?_
      refine lq_lcmp (pc := 1493) F dL_law_1493 e9 ?_
      refine lq_if0 (pc := 1494) F 1499 dL_law_1494 rfl ?_
      refine ia_goto (pc := 1499) F 2404 dL_law_1499 rfl ?_
      refine jw [false, false, false, false, false, false, true, true, true] rfl ?_
      refine lq_wid (c2 := cells + 30) (s2 := slots + 7000) (by omega) (by omega) ?_
      exact kk _ _ (LvI_keep hJ hj p2 (fun p hp hs => ((f2 p (nsub hp (by decide))).trans (rowN (nne hp (by decide))))) ((f2 100 (by decide)).trans (rowN (by decide))) ((f2 103 (by decide)).trans (rowN (by decide))) (fun z h9 => by rw [y99]; simp only [up, if_neg h9]))
    · exact absurd c3 (d0 jc (by omega))
  · refine j1 ?_
    refine ia_istore (pc := 1457) F (ls' := [(4, ((ia_E0 + 400 : Nat) : Int)), (4, ((0 : Nat) : Int)), (4, ((99 : Nat) : Int)), (4, ((114 : Nat) : Int)), (4, ((115 : Nat) : Int)), (0, (ix : Int)), (0, 0), (9, 0), (9, 0)]) dL_law_1457 (Nat.le_of_ble_eq_true rfl) rfl rfl ?_
    refine ia_aload_n (pc := 1459) F dL_law_1459 rfl ?_
    refine ia_aload_n (pc := 1460) F dL_law_1460 rfl ?_
    refine ia_iload (pc := 1461) F dL_law_1461 rfl ?_
    refine ia_iconst (pc := 1463) F dL_law_1463 ?_
    refine ia_iadd (pc := 1464) F dL_law_1464 ?_
    refine ia_sl (pc := 1465) F hX (ix + 1) (by omega) ⟨by omega, hi.2⟩ ea0 dL_law_1465 ?_
    refine jV (pc := 1466) F 0 0 (z99 hZ) cls11.1 (c_X8_editionByMissing e hZ (PI_u hP rfl) hB2 (rowN (by decide)) (rowN (by decide)) (by omega) (fun km V2 d0 d1 d2 p2 y99 f2 => ?_) (fun V2 d0 p2 y99 f2 => ?_)) rfl ⟨k_X8_editionByMissing, il_RL_223, im_X8_editionByMissing, is_X8_editionByMissing, ii_RX8⟩ 1 rfl hd_X8_editionByMissing ⟨by decide, by decide, by omega, by omega, Nat.le_of_ble_eq_true rfl⟩ dL_law_1466
    · exact absurd d2 (c1 km (by omega))
    · obtain ⟨x, hx, hx2⟩ := ahd_all (σ := V 100) (V 100 0).toNat e (by omega) (by omega)
      exact absurd hx2 (c1 x (by omega))
  · refine j1 ?_
    refine ia_istore (pc := 1457) F (ls' := [(4, ((ia_E0 + 400 : Nat) : Int)), (4, ((0 : Nat) : Int)), (4, ((99 : Nat) : Int)), (4, ((114 : Nat) : Int)), (4, ((115 : Nat) : Int)), (0, (ix : Int)), (0, 1), (9, 0), (9, 0)]) dL_law_1457 (Nat.le_of_ble_eq_true rfl) rfl rfl ?_
    refine ia_aload_n (pc := 1459) F dL_law_1459 rfl ?_
    refine ia_aload_n (pc := 1460) F dL_law_1460 rfl ?_
    refine ia_iload (pc := 1461) F dL_law_1461 rfl ?_
    refine ia_iconst (pc := 1463) F dL_law_1463 ?_
    refine ia_iadd (pc := 1464) F dL_law_1464 ?_
    refine ia_sl (pc := 1465) F hX (ix + 1) (by omega) ⟨by omega, hi.2⟩ ea0 dL_law_1465 ?_
    refine jV (pc := 1466) F 0 0 (z99 hZ) cls11.1 (c_X8_editionByMissing e hZ hP hB2 rfl rfl (by omega) (fun km V2 d0 d1 d2 p2 y99 f2 => ?_) (fun V2 d0 p2 y99 f2 => ?_)) rfl ⟨k_X8_editionByMissing, il_RL_223, im_X8_editionByMissing, is_X8_editionByMissing, ii_RX8⟩ 1 rfl hd_X8_editionByMissing ⟨by decide, by decide, by omega, by omega, Nat.le_of_ble_eq_true rfl⟩ dL_law_1466
    · have r9 := ahd_lt (σ := V 100) (k := km) (V 100 0).toNat (by omega)
      have r8 := ahd_rng (σ := V 100) (k := km) (V 100 0).toNat
      omega
    · refine j1 ?_
      refine ia_istore (pc := 1469) F (ls' := [(4, ((ia_E0 + 400 : Nat) : Int)), (4, ((0 : Nat) : Int)), (4, ((99 : Nat) : Int)), (4, ((114 : Nat) : Int)), (4, ((115 : Nat) : Int)), (0, (ix : Int)), (0, 1), (0, 0), (9, 0)]) dL_law_1469 (Nat.le_of_ble_eq_true rfl) rfl rfl ?_
      refine ia_aload_n (pc := 1471) F dL_law_1471 rfl ?_
      refine jV (pc := 1472) F 0 0 (z99 hZ) cls11.1 (c_X8_thrown hZ p2 rfl rfl ?_) rfl ⟨k_X8_thrown, il_RL_138, im_X8_thrown, is_X8_thrown, ii_RX8⟩ 0 rfl hd_X8_thrown ⟨by decide, by decide, by omega, by omega, Nat.le_of_ble_eq_true rfl⟩ dL_law_1472
      refine j1 ?_
      refine ia_iload (pc := 1475) F dL_law_1475 rfl ?_
      refine lq_icmp (pc := 1477) F 1482 dL_law_1477 rfl (by rw [y99]; simp [up]) ?_
      refine ia_iload (pc := 1482) F dL_law_1482 rfl ?_
      refine lq_ifn (pc := 1484) F 1499 dL_law_1484 rfl (by omega) ?_
      refine ia_goto (pc := 1499) F 2404 dL_law_1499 rfl ?_
      refine jw [false, false, false, false, false, false, true, true, true] rfl ?_
      refine lq_wid (c2 := cells + 30) (s2 := slots + 7000) (by omega) (by omega) ?_
      exact kk _ _ (LvI_keep hJ hj p2 (fun p hp hs => ((f2 p (nsub hp (by decide))).trans rfl)) (f2 100 (by decide)) (f2 103 (by decide)) (fun z h9 => by rw [y99]; simp only [up, if_neg h9]))
set_option maxRecDepth 100000 in
set_option maxHeartbeats 2000000 in
set_option linter.constructorNameAsVariable false in
theorem lcs_26 {X : ia_X} {cells slots LX ix jj : Nat} {xs : Nat → Int32} {Z : ia_Z} {V : ia_H} (F : ia_Fix X RL cL_law 9 20 20000 3600000) (hX : LSc X LX xs) (hi : ix + 2 < LX ∧ LX ≤ 1536) (hJ : LvI jj Z V) (hj : jj < 512) (hc : cells + 30 ≤ 20000 ∧ slots + 7000 ≤ 3600000) (kk : ∀ (Z9 : ia_Z) (V9 : ia_H), LvI (jj + 1) Z9 V9 → ia_G X (cells + 30) (slots + 7000) 2404 [(4, ((ia_E0 + 400 : Nat) : Int)), (4, ((0 : Nat) : Int)), (4, ((99 : Nat) : Int)), (4, ((114 : Nat) : Int)), (4, ((115 : Nat) : Int)), (0, (ix : Int)), (9, 0), (9, 0), (9, 0)] [] Z9 V9) : ia_G X cells slots 1502 [(4, ((ia_E0 + 400 : Nat) : Int)), (4, ((0 : Nat) : Int)), (4, ((99 : Nat) : Int)), (4, ((114 : Nat) : Int)), (4, ((115 : Nat) : Int)), (0, (ix : Int)), (9, 0), (9, 0), (9, 0)] [] Z V := by
  obtain ⟨⟨hZ, hP, hz, hj2⟩, ⟨hB1, hB2⟩, hC, hD, hE, ⟨nT, qT, lT, hn6, h20, hT⟩, ⟨nU, qU, lU, hn7, h15, hU⟩, hne⟩ := id hJ
  obtain ⟨s0, s1, s2, s3, s4, s5, s6, s7, s18, sb, sw, se, sp⟩ := id hB2
  have hχ := hC.1
  have hd : 0 ≤ V 99 10 ∧ V 99 10 ≤ 8 := by have := hC.2.1; omega
  have hd1 := hC.2.1
  have h7 : (V 100 0).toNat ≤ 7 := by omega
  obtain ⟨u, ea0⟩ : ∃ y : Int, (xs (ix + 1)).toInt = y := ⟨_, rfl⟩
  have ra0 := i32_rng (xs (ix + 1))
  rw [ea0] at ra0
  refine ia_aload_n (pc := 1502) F dL_law_1502 rfl ?_
  refine ia_aload_n (pc := 1503) F dL_law_1503 rfl ?_
  refine ia_iload (pc := 1504) F dL_law_1504 rfl ?_
  refine ia_iconst (pc := 1506) F dL_law_1506 ?_
  refine ia_iadd (pc := 1507) F dL_law_1507 ?_
  refine ia_sl (pc := 1508) F hX (ix + 1) (by omega) ⟨by omega, hi.2⟩ ea0 dL_law_1508 ?_
  refine ia_aload_n (pc := 1509) F dL_law_1509 rfl ?_
  refine jSH (pc := 1510) F (h_addProof u hZ hP hB1 hB2 rfl hχ (by omega) (fun V1 c0 p1 f1 x0 => ?_) (fun V1 c0 c1 p1 f1 x0 => ?_) (fun V1 c0 c1 p1 w15 f1 x0 x1 x2 => ?_)) rfl ⟨k_L_addProof, il_RL_224, it_L_addProof, ii_RL⟩ 3 rfl hd_L_addProof ⟨by decide, by decide, by omega, by omega, Nat.le_of_ble_eq_true rfl⟩ dL_law_1510
  · refine j1 ?_
    refine ia_istore (pc := 1513) F (ls' := [(4, ((ia_E0 + 400 : Nat) : Int)), (4, ((0 : Nat) : Int)), (4, ((99 : Nat) : Int)), (4, ((114 : Nat) : Int)), (4, ((115 : Nat) : Int)), (0, (ix : Int)), (0, 1), (9, 0), (9, 0)]) dL_law_1513 (Nat.le_of_ble_eq_true rfl) rfl rfl ?_
    refine ia_aload_n (pc := 1515) F dL_law_1515 rfl ?_
    refine ia_aload_n (pc := 1516) F dL_law_1516 rfl ?_
    refine ia_iload (pc := 1517) F dL_law_1517 rfl ?_
    refine ia_iconst (pc := 1519) F dL_law_1519 ?_
    refine ia_iadd (pc := 1520) F dL_law_1520 ?_
    refine ia_sl (pc := 1521) F hX (ix + 1) (by omega) ⟨by omega, hi.2⟩ ea0 dL_law_1521 ?_
    refine jV (pc := 1522) F 0 0 (z99 hZ) cls11.1 (c_X8_addProof u hZ p1 hB2 (f1 99 (by decide)) (f1 100 (by decide)) (f1 101 (by decide)) (f1 103 (by decide)) (by omega) hd (fun V2 d0 p2 y99 y100 y101 y103 f2 => ?_) (fun V2 d0 d1 p2 y99 y100 y101 y103 f2 => ?_) (fun V2 d0 d1 p2 y99 y100 y101 y103 f2 => ?_)) rfl ⟨k_X8_addProof, il_RL_226, im_X8_addProof, is_X8_addProof, ii_RX8⟩ 1 rfl hd_X8_addProof ⟨by decide, by decide, by omega, by omega, Nat.le_of_ble_eq_true rfl⟩ dL_law_1522
    · refine j1 ?_
      refine ia_istore (pc := 1525) F (ls' := [(4, ((ia_E0 + 400 : Nat) : Int)), (4, ((0 : Nat) : Int)), (4, ((99 : Nat) : Int)), (4, ((114 : Nat) : Int)), (4, ((115 : Nat) : Int)), (0, (ix : Int)), (0, 1), (0, 0), (9, 0)]) dL_law_1525 (Nat.le_of_ble_eq_true rfl) rfl rfl ?_
      refine ia_aload_n (pc := 1527) F dL_law_1527 rfl ?_
      refine jV (pc := 1528) F 0 0 (z99 hZ) cls11.1 (c_X8_thrown hZ p2 rfl rfl ?_) rfl ⟨k_X8_thrown, il_RL_138, im_X8_thrown, is_X8_thrown, ii_RX8⟩ 0 rfl hd_X8_thrown ⟨by decide, by decide, by omega, by omega, Nat.le_of_ble_eq_true rfl⟩ dL_law_1528
      refine j1 ?_
      refine ia_iload (pc := 1531) F dL_law_1531 rfl ?_
      refine lq_icmp (pc := 1533) F 1538 dL_law_1533 rfl (by rw [y99]; simp [up]) ?_
      refine ia_iload (pc := 1538) F dL_law_1538 rfl ?_
      refine lq_ifn (pc := 1540) F 1555 dL_law_1540 rfl (by omega) ?_
      refine ia_goto (pc := 1555) F 2404 dL_law_1555 rfl ?_
      refine jw [false, false, false, false, false, false, true, true, true] rfl ?_
      refine lq_wid (c2 := cells + 30) (s2 := slots + 7000) (by omega) (by omega) ?_
      exact kk _ _ (LvI_keep hJ hj p2 (fun p hp hs => ((f2 p (nsub hp (by decide))).trans (x0 p hs))) y100 y103 (fun z h9 => by rw [y99]; simp only [up, if_neg h9]))
    · exfalso; omega
    · exfalso; omega
  · refine j1 ?_
    refine ia_istore (pc := 1513) F (ls' := [(4, ((ia_E0 + 400 : Nat) : Int)), (4, ((0 : Nat) : Int)), (4, ((99 : Nat) : Int)), (4, ((114 : Nat) : Int)), (4, ((115 : Nat) : Int)), (0, (ix : Int)), (0, 2), (9, 0), (9, 0)]) dL_law_1513 (Nat.le_of_ble_eq_true rfl) rfl rfl ?_
    refine ia_aload_n (pc := 1515) F dL_law_1515 rfl ?_
    refine ia_aload_n (pc := 1516) F dL_law_1516 rfl ?_
    refine ia_iload (pc := 1517) F dL_law_1517 rfl ?_
    refine ia_iconst (pc := 1519) F dL_law_1519 ?_
    refine ia_iadd (pc := 1520) F dL_law_1520 ?_
    refine ia_sl (pc := 1521) F hX (ix + 1) (by omega) ⟨by omega, hi.2⟩ ea0 dL_law_1521 ?_
    refine jV (pc := 1522) F 0 0 (z99 hZ) cls11.1 (c_X8_addProof u hZ p1 hB2 (f1 99 (by decide)) (f1 100 (by decide)) (f1 101 (by decide)) (f1 103 (by decide)) (by omega) hd (fun V2 d0 p2 y99 y100 y101 y103 f2 => ?_) (fun V2 d0 d1 p2 y99 y100 y101 y103 f2 => ?_) (fun V2 d0 d1 p2 y99 y100 y101 y103 f2 => ?_)) rfl ⟨k_X8_addProof, il_RL_226, im_X8_addProof, is_X8_addProof, ii_RX8⟩ 1 rfl hd_X8_addProof ⟨by decide, by decide, by omega, by omega, Nat.le_of_ble_eq_true rfl⟩ dL_law_1522
    · exfalso; omega
    · refine j1 ?_
      refine ia_istore (pc := 1525) F (ls' := [(4, ((ia_E0 + 400 : Nat) : Int)), (4, ((0 : Nat) : Int)), (4, ((99 : Nat) : Int)), (4, ((114 : Nat) : Int)), (4, ((115 : Nat) : Int)), (0, (ix : Int)), (0, 2), (0, 0), (9, 0)]) dL_law_1525 (Nat.le_of_ble_eq_true rfl) rfl rfl ?_
      refine ia_aload_n (pc := 1527) F dL_law_1527 rfl ?_
      refine jV (pc := 1528) F 0 0 (z99 hZ) cls11.1 (c_X8_thrown hZ p2 rfl rfl ?_) rfl ⟨k_X8_thrown, il_RL_138, im_X8_thrown, is_X8_thrown, ii_RX8⟩ 0 rfl hd_X8_thrown ⟨by decide, by decide, by omega, by omega, Nat.le_of_ble_eq_true rfl⟩ dL_law_1528
      refine j1 ?_
      refine ia_iload (pc := 1531) F dL_law_1531 rfl ?_
      refine lq_icmp (pc := 1533) F 1538 dL_law_1533 rfl (by rw [y99]; simp [up]) ?_
      refine ia_iload (pc := 1538) F dL_law_1538 rfl ?_
      refine lq_ifn (pc := 1540) F 1555 dL_law_1540 rfl (by omega) ?_
      refine ia_goto (pc := 1555) F 2404 dL_law_1555 rfl ?_
      refine jw [false, false, false, false, false, false, true, true, true] rfl ?_
      refine lq_wid (c2 := cells + 30) (s2 := slots + 7000) (by omega) (by omega) ?_
      exact kk _ _ (LvI_keep hJ hj p2 (fun p hp hs => ((f2 p (nsub hp (by decide))).trans (x0 p hs))) y100 y103 (fun z h9 => by rw [y99]; simp only [up, if_neg h9]))
    · exfalso; omega
  · refine j1 ?_
    refine ia_istore (pc := 1513) F (ls' := [(4, ((ia_E0 + 400 : Nat) : Int)), (4, ((0 : Nat) : Int)), (4, ((99 : Nat) : Int)), (4, ((114 : Nat) : Int)), (4, ((115 : Nat) : Int)), (0, (ix : Int)), (0, 0), (9, 0), (9, 0)]) dL_law_1513 (Nat.le_of_ble_eq_true rfl) rfl rfl ?_
    refine ia_aload_n (pc := 1515) F dL_law_1515 rfl ?_
    refine ia_aload_n (pc := 1516) F dL_law_1516 rfl ?_
    refine ia_iload (pc := 1517) F dL_law_1517 rfl ?_
    refine ia_iconst (pc := 1519) F dL_law_1519 ?_
    refine ia_iadd (pc := 1520) F dL_law_1520 ?_
    refine ia_sl (pc := 1521) F hX (ix + 1) (by omega) ⟨by omega, hi.2⟩ ea0 dL_law_1521 ?_
    refine jV (pc := 1522) F 0 0 (z99 hZ) cls11.1 (c_X8_addProof u hZ (PI_u p1 rfl) hB2 ((rowN (by decide)).trans (f1 99 (by decide))) ((rowN (by decide)).trans (f1 100 (by decide))) ((rowN (by decide)).trans (f1 101 (by decide))) ((rowN (by decide)).trans (f1 103 (by decide))) (by omega) hd (fun V2 d0 p2 y99 y100 y101 y103 f2 => ?_) (fun V2 d0 d1 p2 y99 y100 y101 y103 f2 => ?_) (fun V2 d0 d1 p2 y99 y100 y101 y103 f2 => ?_)) rfl ⟨k_X8_addProof, il_RL_226, im_X8_addProof, is_X8_addProof, ii_RX8⟩ 1 rfl hd_X8_addProof ⟨by decide, by decide, by omega, by omega, Nat.le_of_ble_eq_true rfl⟩ dL_law_1522
    · exfalso; omega
    · exfalso; omega
    · refine j1 ?_
      refine ia_istore (pc := 1525) F (ls' := [(4, ((ia_E0 + 400 : Nat) : Int)), (4, ((0 : Nat) : Int)), (4, ((99 : Nat) : Int)), (4, ((114 : Nat) : Int)), (4, ((115 : Nat) : Int)), (0, (ix : Int)), (0, 0), (0, ((V 100) 1 + 1 - 1)), (9, 0)]) dL_law_1525 (Nat.le_of_ble_eq_true rfl) rfl rfl ?_
      refine ia_aload_n (pc := 1527) F dL_law_1527 rfl ?_
      refine jV (pc := 1528) F 0 0 (z99 hZ) cls11.1 (c_X8_thrown hZ p2 rfl rfl ?_) rfl ⟨k_X8_thrown, il_RL_138, im_X8_thrown, is_X8_thrown, ii_RX8⟩ 0 rfl hd_X8_thrown ⟨by decide, by decide, by omega, by omega, Nat.le_of_ble_eq_true rfl⟩ dL_law_1528
      refine j1 ?_
      refine ia_iload (pc := 1531) F dL_law_1531 rfl ?_
      refine lq_icmp (pc := 1533) F 1538 dL_law_1533 rfl (by rw [y99]; simp [up]) ?_
      refine ia_iload (pc := 1538) F dL_law_1538 rfl ?_
      refine lq_ifz (pc := 1540) F dL_law_1540 1555 rfl ?_
      refine ia_aload_n (pc := 1543) F dL_law_1543 rfl ?_
      refine ia_iconst (pc := 1544) F dL_law_1544 ?_
      refine jal (pc := 1545) F (z114 hZ) 0 rfl (by decide) ((congrFun (f2 114 (by decide)) 0).trans (ia_u_self _ _ _ _)) dL_law_1545 ?_
      refine ia_iload (pc := 1546) F dL_law_1546 rfl ?_
      have e9 : ((V 100) 1) = ((V 100) 1 + 1 - 1) := (by omega)
      refine ia_i2lr (pc := 1548) F dL_law_1548 (by omega) ?_
      refine lq_lcmp (pc := 1549) F dL_law_1549 e9 ?_
      refine lq_if0 (pc := 1550) F 1555 dL_law_1550 rfl ?_
      refine ia_goto (pc := 1555) F 2404 dL_law_1555 rfl ?_
      refine jw [false, false, false, false, false, false, true, true, true] rfl ?_
      refine lq_wid (c2 := cells + 30) (s2 := slots + 7000) (by omega) (by omega) ?_
      exact kk _ _ (LvI_mod hJ hj p2 (by rw [y100]; exact Sh_fr (Sh_u x0 (by decide)) f2 (by decide)) (by rw [y100]; exact SI_prove c0 (by omega) hB2 (by omega)) ((f2 15 (by decide)).trans ((rowN (by decide)).trans w15)) (Sh_mv x1 (fun p g1 g2 => (f2 p (by simp; omega)).trans (rowN (by omega)))) (by first | exact y103 | rw [y103, up_ne (by decide)]) (by rw [y99, up_self]; try rw [up_ne (by decide)]) (fun z h9 h10 => by rw [y99]; simp only [up, if_neg h9, if_neg h10]) (fun p hp hs => ((f2 p (nsub hp (by decide))).trans ((rowN (nne hp (by decide))).trans (x2 p hs (nsub hp (by decide)))))))
set_option maxRecDepth 100000 in
set_option maxHeartbeats 2000000 in
set_option linter.constructorNameAsVariable false in
theorem lcs_27 {X : ia_X} {cells slots LX ix jj : Nat} {xs : Nat → Int32} {Z : ia_Z} {V : ia_H} (F : ia_Fix X RL cL_law 9 20 20000 3600000) (hX : LSc X LX xs) (hi : ix + 2 < LX ∧ LX ≤ 1536) (hJ : LvI jj Z V) (hj : jj < 512) (hc : cells + 30 ≤ 20000 ∧ slots + 7000 ≤ 3600000) (kk : ∀ (Z9 : ia_Z) (V9 : ia_H), LvI (jj + 1) Z9 V9 → ia_G X (cells + 30) (slots + 7000) 2404 [(4, ((ia_E0 + 400 : Nat) : Int)), (4, ((0 : Nat) : Int)), (4, ((99 : Nat) : Int)), (4, ((114 : Nat) : Int)), (4, ((115 : Nat) : Int)), (0, (ix : Int)), (9, 0), (9, 0), (9, 0)] [] Z9 V9) : ia_G X cells slots 1558 [(4, ((ia_E0 + 400 : Nat) : Int)), (4, ((0 : Nat) : Int)), (4, ((99 : Nat) : Int)), (4, ((114 : Nat) : Int)), (4, ((115 : Nat) : Int)), (0, (ix : Int)), (9, 0), (9, 0), (9, 0)] [] Z V := by
  obtain ⟨⟨hZ, hP, hz, hj2⟩, ⟨hB1, hB2⟩, hC, hD, hE, ⟨nT, qT, lT, hn6, h20, hT⟩, ⟨nU, qU, lU, hn7, h15, hU⟩, hne⟩ := id hJ
  obtain ⟨s0, s1, s2, s3, s4, s5, s6, s7, s18, sb, sw, se, sp⟩ := id hB2
  have hχ := hC.1
  have hd : 0 ≤ V 99 10 ∧ V 99 10 ≤ 8 := by have := hC.2.1; omega
  have hd1 := hC.2.1
  have h7 : (V 100 0).toNat ≤ 7 := by omega
  obtain ⟨e, ea0⟩ : ∃ y : Int, (xs (ix + 1)).toInt = y := ⟨_, rfl⟩
  have ra0 := i32_rng (xs (ix + 1))
  rw [ea0] at ra0
  refine ia_aload_n (pc := 1558) F dL_law_1558 rfl ?_
  refine ia_aload_n (pc := 1559) F dL_law_1559 rfl ?_
  refine ia_iload (pc := 1560) F dL_law_1560 rfl ?_
  refine ia_iconst (pc := 1562) F dL_law_1562 ?_
  refine ia_iadd (pc := 1563) F dL_law_1563 ?_
  refine ia_sl (pc := 1564) F hX (ix + 1) (by omega) ⟨by omega, hi.2⟩ ea0 dL_law_1564 ?_
  refine ia_aload_n (pc := 1565) F dL_law_1565 rfl ?_
  refine jSH (pc := 1566) F (h_dropProof e hZ hP hB1 hB2 rfl hχ (by omega) (fun V1 c0 p1 f1 x0 => ?_) (fun V1 c0 p1 w15 f1 x0 x1 x2 => ?_)) rfl ⟨k_L_dropProof, il_RL_227, it_L_dropProof, ii_RL⟩ 3 rfl hd_L_dropProof ⟨by decide, by decide, by omega, by omega, Nat.le_of_ble_eq_true rfl⟩ dL_law_1566
  · refine j1 ?_
    refine ia_istore (pc := 1569) F (ls' := [(4, ((ia_E0 + 400 : Nat) : Int)), (4, ((0 : Nat) : Int)), (4, ((99 : Nat) : Int)), (4, ((114 : Nat) : Int)), (4, ((115 : Nat) : Int)), (0, (ix : Int)), (0, 1), (9, 0), (9, 0)]) dL_law_1569 (Nat.le_of_ble_eq_true rfl) rfl rfl ?_
    refine ia_aload_n (pc := 1571) F dL_law_1571 rfl ?_
    refine ia_aload_n (pc := 1572) F dL_law_1572 rfl ?_
    refine ia_iload (pc := 1573) F dL_law_1573 rfl ?_
    refine ia_iconst (pc := 1575) F dL_law_1575 ?_
    refine ia_iadd (pc := 1576) F dL_law_1576 ?_
    refine ia_sl (pc := 1577) F hX (ix + 1) (by omega) ⟨by omega, hi.2⟩ ea0 dL_law_1577 ?_
    refine jV (pc := 1578) F 0 0 (z99 hZ) cls11.1 (c_X8_dropProof e hZ p1 hB2 (f1 99 (by decide)) (f1 100 (by decide)) (f1 101 (by decide)) (f1 103 (by decide)) (by omega) hd (fun V2 d0 p2 y99 y100 y101 y103 f2 => ?_) (fun V2 d0 p2 y99 y100 y101 y103 f2 => ?_)) rfl ⟨k_X8_dropProof, il_RL_229, im_X8_dropProof, is_X8_dropProof, ii_RX8⟩ 1 rfl hd_X8_dropProof ⟨by decide, by decide, by omega, by omega, Nat.le_of_ble_eq_true rfl⟩ dL_law_1578
    · exfalso; omega
    · refine j1 ?_
      refine ia_istore (pc := 1581) F (ls' := [(4, ((ia_E0 + 400 : Nat) : Int)), (4, ((0 : Nat) : Int)), (4, ((99 : Nat) : Int)), (4, ((114 : Nat) : Int)), (4, ((115 : Nat) : Int)), (0, (ix : Int)), (0, 1), (0, 0), (9, 0)]) dL_law_1581 (Nat.le_of_ble_eq_true rfl) rfl rfl ?_
      refine ia_aload_n (pc := 1583) F dL_law_1583 rfl ?_
      refine jV (pc := 1584) F 0 0 (z99 hZ) cls11.1 (c_X8_thrown hZ p2 rfl rfl ?_) rfl ⟨k_X8_thrown, il_RL_138, im_X8_thrown, is_X8_thrown, ii_RX8⟩ 0 rfl hd_X8_thrown ⟨by decide, by decide, by omega, by omega, Nat.le_of_ble_eq_true rfl⟩ dL_law_1584
      refine j1 ?_
      refine ia_iload (pc := 1587) F dL_law_1587 rfl ?_
      refine lq_icmp (pc := 1589) F 1594 dL_law_1589 rfl (by rw [y99]; simp [up]) ?_
      refine ia_iload (pc := 1594) F dL_law_1594 rfl ?_
      refine lq_ifn (pc := 1596) F 1611 dL_law_1596 rfl (by omega) ?_
      refine ia_goto (pc := 1611) F 2404 dL_law_1611 rfl ?_
      refine jw [false, false, false, false, false, false, true, true, true] rfl ?_
      refine lq_wid (c2 := cells + 30) (s2 := slots + 7000) (by omega) (by omega) ?_
      exact kk _ _ (LvI_keep hJ hj p2 (fun p hp hs => ((f2 p (nsub hp (by decide))).trans (x0 p hs))) y100 y103 (fun z h9 => by rw [y99]; simp only [up, if_neg h9]))
  · refine j1 ?_
    refine ia_istore (pc := 1569) F (ls' := [(4, ((ia_E0 + 400 : Nat) : Int)), (4, ((0 : Nat) : Int)), (4, ((99 : Nat) : Int)), (4, ((114 : Nat) : Int)), (4, ((115 : Nat) : Int)), (0, (ix : Int)), (0, 0), (9, 0), (9, 0)]) dL_law_1569 (Nat.le_of_ble_eq_true rfl) rfl rfl ?_
    refine ia_aload_n (pc := 1571) F dL_law_1571 rfl ?_
    refine ia_aload_n (pc := 1572) F dL_law_1572 rfl ?_
    refine ia_iload (pc := 1573) F dL_law_1573 rfl ?_
    refine ia_iconst (pc := 1575) F dL_law_1575 ?_
    refine ia_iadd (pc := 1576) F dL_law_1576 ?_
    refine ia_sl (pc := 1577) F hX (ix + 1) (by omega) ⟨by omega, hi.2⟩ ea0 dL_law_1577 ?_
    refine jV (pc := 1578) F 0 0 (z99 hZ) cls11.1 (c_X8_dropProof e hZ (PI_u p1 rfl) hB2 ((rowN (by decide)).trans (f1 99 (by decide))) ((rowN (by decide)).trans (f1 100 (by decide))) ((rowN (by decide)).trans (f1 101 (by decide))) ((rowN (by decide)).trans (f1 103 (by decide))) (by omega) hd (fun V2 d0 p2 y99 y100 y101 y103 f2 => ?_) (fun V2 d0 p2 y99 y100 y101 y103 f2 => ?_)) rfl ⟨k_X8_dropProof, il_RL_229, im_X8_dropProof, is_X8_dropProof, ii_RX8⟩ 1 rfl hd_X8_dropProof ⟨by decide, by decide, by omega, by omega, Nat.le_of_ble_eq_true rfl⟩ dL_law_1578
    · refine j1 ?_
      refine ia_istore (pc := 1581) F (ls' := [(4, ((ia_E0 + 400 : Nat) : Int)), (4, ((0 : Nat) : Int)), (4, ((99 : Nat) : Int)), (4, ((114 : Nat) : Int)), (4, ((115 : Nat) : Int)), (0, (ix : Int)), (0, 0), (0, ((V 100) 1 - 1)), (9, 0)]) dL_law_1581 (Nat.le_of_ble_eq_true rfl) rfl rfl ?_
      refine ia_aload_n (pc := 1583) F dL_law_1583 rfl ?_
      refine jV (pc := 1584) F 0 0 (z99 hZ) cls11.1 (c_X8_thrown hZ p2 rfl rfl ?_) rfl ⟨k_X8_thrown, il_RL_138, im_X8_thrown, is_X8_thrown, ii_RX8⟩ 0 rfl hd_X8_thrown ⟨by decide, by decide, by omega, by omega, Nat.le_of_ble_eq_true rfl⟩ dL_law_1584
      refine j1 ?_
      refine ia_iload (pc := 1587) F dL_law_1587 rfl ?_
      refine lq_icmp (pc := 1589) F 1594 dL_law_1589 rfl (by rw [y99]; simp [up]) ?_
      refine ia_iload (pc := 1594) F dL_law_1594 rfl ?_
      refine lq_ifz (pc := 1596) F dL_law_1596 1611 rfl ?_
      refine ia_aload_n (pc := 1599) F dL_law_1599 rfl ?_
      refine ia_iconst (pc := 1600) F dL_law_1600 ?_
      refine jal (pc := 1601) F (z114 hZ) 0 rfl (by decide) ((congrFun (f2 114 (by decide)) 0).trans (ia_u_self _ _ _ _)) dL_law_1601 ?_
      refine ia_iload (pc := 1602) F dL_law_1602 rfl ?_
      have e9 : ((V 100) 1 - 1) = ((V 100) 1 - 1) := rfl
      refine ia_i2lr (pc := 1604) F dL_law_1604 (by omega) ?_
      refine lq_lcmp (pc := 1605) F dL_law_1605 e9 ?_
      refine lq_if0 (pc := 1606) F 1611 dL_law_1606 rfl ?_
      refine ia_goto (pc := 1611) F 2404 dL_law_1611 rfl ?_
      refine jw [false, false, false, false, false, false, true, true, true] rfl ?_
      refine lq_wid (c2 := cells + 30) (s2 := slots + 7000) (by omega) (by omega) ?_
      exact kk _ _ (LvI_mod hJ hj p2 (by rw [y100]; exact Sh_fr (Sh_u x0 (by decide)) f2 (by decide)) (by rw [y100]; exact SI_drop (by omega) hB2 (by omega)) ((f2 15 (by decide)).trans ((rowN (by decide)).trans w15)) (Sh_mv x1 (fun p g1 g2 => (f2 p (by simp; omega)).trans (rowN (by omega)))) (by first | exact y103 | rw [y103, up_ne (by decide)]) (by rw [y99, up_self]; try rw [up_ne (by decide)]) (fun z h9 h10 => by rw [y99]; simp only [up, if_neg h9, if_neg h10]) (fun p hp hs => ((f2 p (nsub hp (by decide))).trans ((rowN (nne hp (by decide))).trans (x2 p hs (nsub hp (by decide)))))))
    · exfalso; omega
set_option maxRecDepth 100000 in
set_option maxHeartbeats 2000000 in
set_option linter.constructorNameAsVariable false in
theorem lcs_28 {X : ia_X} {cells slots LX ix jj : Nat} {xs : Nat → Int32} {Z : ia_Z} {V : ia_H} (F : ia_Fix X RL cL_law 9 20 20000 3600000) (hX : LSc X LX xs) (hi : ix + 2 < LX ∧ LX ≤ 1536) (hJ : LvI jj Z V) (hj : jj < 512) (hc : cells + 30 ≤ 20000 ∧ slots + 7000 ≤ 3600000) (kk : ∀ (Z9 : ia_Z) (V9 : ia_H), LvI (jj + 1) Z9 V9 → ia_G X (cells + 30) (slots + 7000) 2404 [(4, ((ia_E0 + 400 : Nat) : Int)), (4, ((0 : Nat) : Int)), (4, ((99 : Nat) : Int)), (4, ((114 : Nat) : Int)), (4, ((115 : Nat) : Int)), (0, (ix : Int)), (9, 0), (9, 0), (9, 0)] [] Z9 V9) : ia_G X cells slots 1614 [(4, ((ia_E0 + 400 : Nat) : Int)), (4, ((0 : Nat) : Int)), (4, ((99 : Nat) : Int)), (4, ((114 : Nat) : Int)), (4, ((115 : Nat) : Int)), (0, (ix : Int)), (9, 0), (9, 0), (9, 0)] [] Z V := by
  obtain ⟨⟨hZ, hP, hz, hj2⟩, ⟨hB1, hB2⟩, hC, hD, hE, ⟨nT, qT, lT, hn6, h20, hT⟩, ⟨nU, qU, lU, hn7, h15, hU⟩, hne⟩ := id hJ
  obtain ⟨s0, s1, s2, s3, s4, s5, s6, s7, s18, sb, sw, se, sp⟩ := id hB2
  have hχ := hC.1
  have hd : 0 ≤ V 99 10 ∧ V 99 10 ≤ 8 := by have := hC.2.1; omega
  have hd1 := hC.2.1
  have h7 : (V 100 0).toNat ≤ 7 := by omega
  refine ia_aload_n (pc := 1614) F dL_law_1614 rfl ?_
  refine jV (pc := 1615) F 0 0 (z0 hZ) cls10.1 (c_X7_proofCount hZ hP hB1 hB2 ?_) rfl ⟨k_X7_proofCount, il_RL_230, im_X7_proofCount, is_X7_proofCount, ii_RX7⟩ 0 rfl hd_X7_proofCount ⟨by decide, by decide, by omega, by omega, Nat.le_of_ble_eq_true rfl⟩ dL_law_1615
  refine j1 ?_
  refine ia_aload_n (pc := 1618) F dL_law_1618 rfl ?_
  refine jV (pc := 1619) F 0 0 (z99 hZ) cls11.1 (c_X8_proofCount hZ hP hB2 rfl rfl (fun V2 p2 y99 f2 => ?_)) rfl ⟨k_X8_proofCount, il_RL_233, im_X8_proofCount, is_X8_proofCount, ii_RX8⟩ 0 rfl hd_X8_proofCount ⟨by decide, by decide, by omega, by omega, Nat.le_of_ble_eq_true rfl⟩ dL_law_1619
  refine j1 ?_
  refine lq_icmp (pc := 1622) F 2404 dL_law_1622 rfl rfl ?_
  refine jw [false, false, false, false, false, false, true, true, true] rfl ?_
  refine lq_wid (c2 := cells + 30) (s2 := slots + 7000) (by omega) (by omega) ?_
  exact kk _ _ (LvI_keep hJ hj p2 (fun p hp hs => ((f2 p (nsub hp (by decide))).trans rfl)) (f2 100 (by decide)) (f2 103 (by decide)) (fun z h9 => by rw [y99]; simp only [up, if_neg h9]))
set_option maxRecDepth 100000 in
set_option maxHeartbeats 2000000 in
set_option linter.constructorNameAsVariable false in
theorem lcs_29 {X : ia_X} {cells slots LX ix jj : Nat} {xs : Nat → Int32} {Z : ia_Z} {V : ia_H} (F : ia_Fix X RL cL_law 9 20 20000 3600000) (hX : LSc X LX xs) (hi : ix + 2 < LX ∧ LX ≤ 1536) (hJ : LvI jj Z V) (hj : jj < 512) (hc : cells + 30 ≤ 20000 ∧ slots + 7000 ≤ 3600000) (kk : ∀ (Z9 : ia_Z) (V9 : ia_H), LvI (jj + 1) Z9 V9 → ia_G X (cells + 30) (slots + 7000) 2404 [(4, ((ia_E0 + 400 : Nat) : Int)), (4, ((0 : Nat) : Int)), (4, ((99 : Nat) : Int)), (4, ((114 : Nat) : Int)), (4, ((115 : Nat) : Int)), (0, (ix : Int)), (9, 0), (9, 0), (9, 0)] [] Z9 V9) : ia_G X cells slots 1627 [(4, ((ia_E0 + 400 : Nat) : Int)), (4, ((0 : Nat) : Int)), (4, ((99 : Nat) : Int)), (4, ((114 : Nat) : Int)), (4, ((115 : Nat) : Int)), (0, (ix : Int)), (9, 0), (9, 0), (9, 0)] [] Z V := by
  obtain ⟨⟨hZ, hP, hz, hj2⟩, ⟨hB1, hB2⟩, hC, hD, hE, ⟨nT, qT, lT, hn6, h20, hT⟩, ⟨nU, qU, lU, hn7, h15, hU⟩, hne⟩ := id hJ
  obtain ⟨s0, s1, s2, s3, s4, s5, s6, s7, s18, sb, sw, se, sp⟩ := id hB2
  have hχ := hC.1
  have hd : 0 ≤ V 99 10 ∧ V 99 10 ≤ 8 := by have := hC.2.1; omega
  have hd1 := hC.2.1
  have h7 : (V 100 0).toNat ≤ 7 := by omega
  obtain ⟨p, ea0⟩ : ∃ y : Int, (xs (ix + 1)).toInt = y := ⟨_, rfl⟩
  have ra0 := i32_rng (xs (ix + 1))
  rw [ea0] at ra0
  refine ia_aload_n (pc := 1627) F dL_law_1627 rfl ?_
  refine ia_aload_n (pc := 1628) F dL_law_1628 rfl ?_
  refine ia_iload (pc := 1629) F dL_law_1629 rfl ?_
  refine ia_iconst (pc := 1631) F dL_law_1631 ?_
  refine ia_iadd (pc := 1632) F dL_law_1632 ?_
  refine ia_sl (pc := 1633) F hX (ix + 1) (by omega) ⟨by omega, hi.2⟩ ea0 dL_law_1633 ?_
  refine ia_aload_n (pc := 1634) F dL_law_1634 rfl ?_
  refine jSH (pc := 1635) F (h_marksOf p hZ hP hB1 hB2 (by omega) (fun c0 => ?_) (fun c0 => ?_)) rfl ⟨k_L_marksOf, il_RL_234, it_L_marksOf, ii_RL⟩ 3 rfl hd_L_marksOf ⟨by decide, by decide, by omega, by omega, Nat.le_of_ble_eq_true rfl⟩ dL_law_1635
  · refine j1 ?_
    refine ia_istore (pc := 1638) F (ls' := [(4, ((ia_E0 + 400 : Nat) : Int)), (4, ((0 : Nat) : Int)), (4, ((99 : Nat) : Int)), (4, ((114 : Nat) : Int)), (4, ((115 : Nat) : Int)), (0, (ix : Int)), (0, 0), (9, 0), (9, 0)]) dL_law_1638 (Nat.le_of_ble_eq_true rfl) rfl rfl ?_
    refine ia_aload_n (pc := 1640) F dL_law_1640 rfl ?_
    refine ia_aload_n (pc := 1641) F dL_law_1641 rfl ?_
    refine ia_iload (pc := 1642) F dL_law_1642 rfl ?_
    refine ia_iconst (pc := 1644) F dL_law_1644 ?_
    refine ia_iadd (pc := 1645) F dL_law_1645 ?_
    refine ia_sl (pc := 1646) F hX (ix + 1) (by omega) ⟨by omega, hi.2⟩ ea0 dL_law_1646 ?_
    refine jV (pc := 1647) F 0 0 (z99 hZ) cls11.1 (c_X8_marksOf p hZ (PI_u hP rfl) hB2 (rowN (by decide)) (rowN (by decide)) (by omega) (fun V2 d0 p2 y99 f2 => ?_) (fun V2 d0 p2 y99 f2 => ?_)) rfl ⟨k_X8_marksOf, il_RL_236, im_X8_marksOf, is_X8_marksOf, ii_RX8⟩ 1 rfl hd_X8_marksOf ⟨by decide, by decide, by omega, by omega, Nat.le_of_ble_eq_true rfl⟩ dL_law_1647
    · refine j1 ?_
      refine ia_istore (pc := 1650) F (ls' := [(4, ((ia_E0 + 400 : Nat) : Int)), (4, ((0 : Nat) : Int)), (4, ((99 : Nat) : Int)), (4, ((114 : Nat) : Int)), (4, ((115 : Nat) : Int)), (0, (ix : Int)), (0, 0), (0, (mrk (V 100) p.toNat)), (9, 0)]) dL_law_1650 (Nat.le_of_ble_eq_true rfl) rfl rfl ?_
      refine ia_aload_n (pc := 1652) F dL_law_1652 rfl ?_
      refine jV (pc := 1653) F 0 0 (z99 hZ) cls11.1 (c_X8_thrown hZ p2 rfl rfl ?_) rfl ⟨k_X8_thrown, il_RL_138, im_X8_thrown, is_X8_thrown, ii_RX8⟩ 0 rfl hd_X8_thrown ⟨by decide, by decide, by omega, by omega, Nat.le_of_ble_eq_true rfl⟩ dL_law_1653
      refine j1 ?_
      refine ia_iload (pc := 1656) F dL_law_1656 rfl ?_
      refine lq_icmp (pc := 1658) F 1663 dL_law_1658 rfl (by rw [y99]; simp [up]) ?_
      refine ia_iload (pc := 1663) F dL_law_1663 rfl ?_
      refine lq_ifz (pc := 1665) F dL_law_1665 1680 rfl ?_
      refine ia_aload_n (pc := 1668) F dL_law_1668 rfl ?_
      refine ia_iconst (pc := 1669) F dL_law_1669 ?_
      refine jal (pc := 1670) F (z114 hZ) 0 rfl (by decide) ((congrFun (f2 114 (by decide)) 0).trans (ia_u_self _ _ _ _)) dL_law_1670 ?_
      refine ia_iload (pc := 1671) F dL_law_1671 rfl ?_
      have r9 := sp p.toNat (by omega)
      have e9 : (mrk (V 100) p.toNat) = (mrk (V 100) p.toNat) := rfl
      refine ia_i2lr (pc := 1673) F dL_law_1673 (by omega) ?_
      refine lq_lcmp (pc := 1674) F dL_law_1674 e9 ?_
      refine lq_if0 (pc := 1675) F 1680 dL_law_1675 rfl ?_
      refine ia_goto (pc := 1680) F 2404 dL_law_1680 rfl ?_
      refine jw [false, false, false, false, false, false, true, true, true] rfl ?_
      refine lq_wid (c2 := cells + 30) (s2 := slots + 7000) (by omega) (by omega) ?_
      exact kk _ _ (LvI_keep hJ hj p2 (fun p hp hs => ((f2 p (nsub hp (by decide))).trans (rowN (nne hp (by decide))))) ((f2 100 (by decide)).trans (rowN (by decide))) ((f2 103 (by decide)).trans (rowN (by decide))) (fun z h9 => by rw [y99]; simp only [up, if_neg h9]))
    · exfalso; omega
  · refine j1 ?_
    refine ia_istore (pc := 1638) F (ls' := [(4, ((ia_E0 + 400 : Nat) : Int)), (4, ((0 : Nat) : Int)), (4, ((99 : Nat) : Int)), (4, ((114 : Nat) : Int)), (4, ((115 : Nat) : Int)), (0, (ix : Int)), (0, 1), (9, 0), (9, 0)]) dL_law_1638 (Nat.le_of_ble_eq_true rfl) rfl rfl ?_
    refine ia_aload_n (pc := 1640) F dL_law_1640 rfl ?_
    refine ia_aload_n (pc := 1641) F dL_law_1641 rfl ?_
    refine ia_iload (pc := 1642) F dL_law_1642 rfl ?_
    refine ia_iconst (pc := 1644) F dL_law_1644 ?_
    refine ia_iadd (pc := 1645) F dL_law_1645 ?_
    refine ia_sl (pc := 1646) F hX (ix + 1) (by omega) ⟨by omega, hi.2⟩ ea0 dL_law_1646 ?_
    refine jV (pc := 1647) F 0 0 (z99 hZ) cls11.1 (c_X8_marksOf p hZ hP hB2 rfl rfl (by omega) (fun V2 d0 p2 y99 f2 => ?_) (fun V2 d0 p2 y99 f2 => ?_)) rfl ⟨k_X8_marksOf, il_RL_236, im_X8_marksOf, is_X8_marksOf, ii_RX8⟩ 1 rfl hd_X8_marksOf ⟨by decide, by decide, by omega, by omega, Nat.le_of_ble_eq_true rfl⟩ dL_law_1647
    · exfalso; omega
    · refine j1 ?_
      refine ia_istore (pc := 1650) F (ls' := [(4, ((ia_E0 + 400 : Nat) : Int)), (4, ((0 : Nat) : Int)), (4, ((99 : Nat) : Int)), (4, ((114 : Nat) : Int)), (4, ((115 : Nat) : Int)), (0, (ix : Int)), (0, 1), (0, 0), (9, 0)]) dL_law_1650 (Nat.le_of_ble_eq_true rfl) rfl rfl ?_
      refine ia_aload_n (pc := 1652) F dL_law_1652 rfl ?_
      refine jV (pc := 1653) F 0 0 (z99 hZ) cls11.1 (c_X8_thrown hZ p2 rfl rfl ?_) rfl ⟨k_X8_thrown, il_RL_138, im_X8_thrown, is_X8_thrown, ii_RX8⟩ 0 rfl hd_X8_thrown ⟨by decide, by decide, by omega, by omega, Nat.le_of_ble_eq_true rfl⟩ dL_law_1653
      refine j1 ?_
      refine ia_iload (pc := 1656) F dL_law_1656 rfl ?_
      refine lq_icmp (pc := 1658) F 1663 dL_law_1658 rfl (by rw [y99]; simp [up]) ?_
      refine ia_iload (pc := 1663) F dL_law_1663 rfl ?_
      refine lq_ifn (pc := 1665) F 1680 dL_law_1665 rfl (by omega) ?_
      refine ia_goto (pc := 1680) F 2404 dL_law_1680 rfl ?_
      refine jw [false, false, false, false, false, false, true, true, true] rfl ?_
      refine lq_wid (c2 := cells + 30) (s2 := slots + 7000) (by omega) (by omega) ?_
      exact kk _ _ (LvI_keep hJ hj p2 (fun p hp hs => ((f2 p (nsub hp (by decide))).trans rfl)) (f2 100 (by decide)) (f2 103 (by decide)) (fun z h9 => by rw [y99]; simp only [up, if_neg h9]))
set_option maxRecDepth 100000 in
set_option maxHeartbeats 2000000 in
set_option linter.constructorNameAsVariable false in
theorem lcs_30 {X : ia_X} {cells slots LX ix jj : Nat} {xs : Nat → Int32} {Z : ia_Z} {V : ia_H} (F : ia_Fix X RL cL_law 9 20 20000 3600000) (hX : LSc X LX xs) (hi : ix + 2 < LX ∧ LX ≤ 1536) (hJ : LvI jj Z V) (hj : jj < 512) (hc : cells + 30 ≤ 20000 ∧ slots + 7000 ≤ 3600000) (kk : ∀ (Z9 : ia_Z) (V9 : ia_H), LvI (jj + 1) Z9 V9 → ia_G X (cells + 30) (slots + 7000) 2404 [(4, ((ia_E0 + 400 : Nat) : Int)), (4, ((0 : Nat) : Int)), (4, ((99 : Nat) : Int)), (4, ((114 : Nat) : Int)), (4, ((115 : Nat) : Int)), (0, (ix : Int)), (9, 0), (9, 0), (9, 0)] [] Z9 V9) : ia_G X cells slots 1683 [(4, ((ia_E0 + 400 : Nat) : Int)), (4, ((0 : Nat) : Int)), (4, ((99 : Nat) : Int)), (4, ((114 : Nat) : Int)), (4, ((115 : Nat) : Int)), (0, (ix : Int)), (9, 0), (9, 0), (9, 0)] [] Z V := by
  obtain ⟨⟨hZ, hP, hz, hj2⟩, ⟨hB1, hB2⟩, hC, hD, hE, ⟨nT, qT, lT, hn6, h20, hT⟩, ⟨nU, qU, lU, hn7, h15, hU⟩, hne⟩ := id hJ
  obtain ⟨s0, s1, s2, s3, s4, s5, s6, s7, s18, sb, sw, se, sp⟩ := id hB2
  have hχ := hC.1
  have hd : 0 ≤ V 99 10 ∧ V 99 10 ≤ 8 := by have := hC.2.1; omega
  have hd1 := hC.2.1
  have h7 : (V 100 0).toNat ≤ 7 := by omega
  obtain ⟨p, ea0⟩ : ∃ y : Int, (xs (ix + 1)).toInt = y := ⟨_, rfl⟩
  have ra0 := i32_rng (xs (ix + 1))
  rw [ea0] at ra0
  refine ia_aload_n (pc := 1683) F dL_law_1683 rfl ?_
  refine ia_aload_n (pc := 1684) F dL_law_1684 rfl ?_
  refine ia_iload (pc := 1685) F dL_law_1685 rfl ?_
  refine ia_iconst (pc := 1687) F dL_law_1687 ?_
  refine ia_iadd (pc := 1688) F dL_law_1688 ?_
  refine ia_sl (pc := 1689) F hX (ix + 1) (by omega) ⟨by omega, hi.2⟩ ea0 dL_law_1689 ?_
  refine ia_aload_n (pc := 1690) F dL_law_1690 rfl ?_
  refine jSH (pc := 1691) F (h_hourOf p hZ hP hB1 hB2 (by omega) (fun c0 => ?_) (fun c0 => ?_)) rfl ⟨k_L_hourOf, il_RL_237, it_L_hourOf, ii_RL⟩ 3 rfl hd_L_hourOf ⟨by decide, by decide, by omega, by omega, Nat.le_of_ble_eq_true rfl⟩ dL_law_1691
  · refine j1 ?_
    refine ia_istore (pc := 1694) F (ls' := [(4, ((ia_E0 + 400 : Nat) : Int)), (4, ((0 : Nat) : Int)), (4, ((99 : Nat) : Int)), (4, ((114 : Nat) : Int)), (4, ((115 : Nat) : Int)), (0, (ix : Int)), (0, 0), (9, 0), (9, 0)]) dL_law_1694 (Nat.le_of_ble_eq_true rfl) rfl rfl ?_
    refine ia_aload_n (pc := 1696) F dL_law_1696 rfl ?_
    refine ia_aload_n (pc := 1697) F dL_law_1697 rfl ?_
    refine ia_iload (pc := 1698) F dL_law_1698 rfl ?_
    refine ia_iconst (pc := 1700) F dL_law_1700 ?_
    refine ia_iadd (pc := 1701) F dL_law_1701 ?_
    refine ia_sl (pc := 1702) F hX (ix + 1) (by omega) ⟨by omega, hi.2⟩ ea0 dL_law_1702 ?_
    refine jV (pc := 1703) F 0 0 (z99 hZ) cls11.1 (c_X8_hourOf p hZ (PI_u hP rfl) hB2 (rowN (by decide)) (rowN (by decide)) (by omega) (fun V2 d0 p2 y99 f2 => ?_) (fun V2 d0 p2 y99 f2 => ?_)) rfl ⟨k_X8_hourOf, il_RL_239, im_X8_hourOf, is_X8_hourOf, ii_RX8⟩ 1 rfl hd_X8_hourOf ⟨by decide, by decide, by omega, by omega, Nat.le_of_ble_eq_true rfl⟩ dL_law_1703
    · refine j1 ?_
      refine ia_istore (pc := 1706) F (ls' := [(4, ((ia_E0 + 400 : Nat) : Int)), (4, ((0 : Nat) : Int)), (4, ((99 : Nat) : Int)), (4, ((114 : Nat) : Int)), (4, ((115 : Nat) : Int)), (0, (ix : Int)), (0, 0), (0, (mad (V 100) p.toNat)), (9, 0)]) dL_law_1706 (Nat.le_of_ble_eq_true rfl) rfl rfl ?_
      refine ia_aload_n (pc := 1708) F dL_law_1708 rfl ?_
      refine jV (pc := 1709) F 0 0 (z99 hZ) cls11.1 (c_X8_thrown hZ p2 rfl rfl ?_) rfl ⟨k_X8_thrown, il_RL_138, im_X8_thrown, is_X8_thrown, ii_RX8⟩ 0 rfl hd_X8_thrown ⟨by decide, by decide, by omega, by omega, Nat.le_of_ble_eq_true rfl⟩ dL_law_1709
      refine j1 ?_
      refine ia_iload (pc := 1712) F dL_law_1712 rfl ?_
      refine lq_icmp (pc := 1714) F 1719 dL_law_1714 rfl (by rw [y99]; simp [up]) ?_
      refine ia_iload (pc := 1719) F dL_law_1719 rfl ?_
      refine lq_ifz (pc := 1721) F dL_law_1721 1736 rfl ?_
      refine ia_aload_n (pc := 1724) F dL_law_1724 rfl ?_
      refine ia_iconst (pc := 1725) F dL_law_1725 ?_
      refine jal (pc := 1726) F (z114 hZ) 0 rfl (by decide) ((congrFun (f2 114 (by decide)) 0).trans (ia_u_self _ _ _ _)) dL_law_1726 ?_
      refine ia_iload (pc := 1727) F dL_law_1727 rfl ?_
      have r9 := sp p.toNat (by omega)
      have e9 : (mad (V 100) p.toNat) = (mad (V 100) p.toNat) := rfl
      refine ia_i2lr (pc := 1729) F dL_law_1729 (by omega) ?_
      refine lq_lcmp (pc := 1730) F dL_law_1730 e9 ?_
      refine lq_if0 (pc := 1731) F 1736 dL_law_1731 rfl ?_
      refine ia_goto (pc := 1736) F 2404 dL_law_1736 rfl ?_
      refine jw [false, false, false, false, false, false, true, true, true] rfl ?_
      refine lq_wid (c2 := cells + 30) (s2 := slots + 7000) (by omega) (by omega) ?_
      exact kk _ _ (LvI_keep hJ hj p2 (fun p hp hs => ((f2 p (nsub hp (by decide))).trans (rowN (nne hp (by decide))))) ((f2 100 (by decide)).trans (rowN (by decide))) ((f2 103 (by decide)).trans (rowN (by decide))) (fun z h9 => by rw [y99]; simp only [up, if_neg h9]))
    · exfalso; omega
  · refine j1 ?_
    refine ia_istore (pc := 1694) F (ls' := [(4, ((ia_E0 + 400 : Nat) : Int)), (4, ((0 : Nat) : Int)), (4, ((99 : Nat) : Int)), (4, ((114 : Nat) : Int)), (4, ((115 : Nat) : Int)), (0, (ix : Int)), (0, 1), (9, 0), (9, 0)]) dL_law_1694 (Nat.le_of_ble_eq_true rfl) rfl rfl ?_
    refine ia_aload_n (pc := 1696) F dL_law_1696 rfl ?_
    refine ia_aload_n (pc := 1697) F dL_law_1697 rfl ?_
    refine ia_iload (pc := 1698) F dL_law_1698 rfl ?_
    refine ia_iconst (pc := 1700) F dL_law_1700 ?_
    refine ia_iadd (pc := 1701) F dL_law_1701 ?_
    refine ia_sl (pc := 1702) F hX (ix + 1) (by omega) ⟨by omega, hi.2⟩ ea0 dL_law_1702 ?_
    refine jV (pc := 1703) F 0 0 (z99 hZ) cls11.1 (c_X8_hourOf p hZ hP hB2 rfl rfl (by omega) (fun V2 d0 p2 y99 f2 => ?_) (fun V2 d0 p2 y99 f2 => ?_)) rfl ⟨k_X8_hourOf, il_RL_239, im_X8_hourOf, is_X8_hourOf, ii_RX8⟩ 1 rfl hd_X8_hourOf ⟨by decide, by decide, by omega, by omega, Nat.le_of_ble_eq_true rfl⟩ dL_law_1703
    · exfalso; omega
    · refine j1 ?_
      refine ia_istore (pc := 1706) F (ls' := [(4, ((ia_E0 + 400 : Nat) : Int)), (4, ((0 : Nat) : Int)), (4, ((99 : Nat) : Int)), (4, ((114 : Nat) : Int)), (4, ((115 : Nat) : Int)), (0, (ix : Int)), (0, 1), (0, 0), (9, 0)]) dL_law_1706 (Nat.le_of_ble_eq_true rfl) rfl rfl ?_
      refine ia_aload_n (pc := 1708) F dL_law_1708 rfl ?_
      refine jV (pc := 1709) F 0 0 (z99 hZ) cls11.1 (c_X8_thrown hZ p2 rfl rfl ?_) rfl ⟨k_X8_thrown, il_RL_138, im_X8_thrown, is_X8_thrown, ii_RX8⟩ 0 rfl hd_X8_thrown ⟨by decide, by decide, by omega, by omega, Nat.le_of_ble_eq_true rfl⟩ dL_law_1709
      refine j1 ?_
      refine ia_iload (pc := 1712) F dL_law_1712 rfl ?_
      refine lq_icmp (pc := 1714) F 1719 dL_law_1714 rfl (by rw [y99]; simp [up]) ?_
      refine ia_iload (pc := 1719) F dL_law_1719 rfl ?_
      refine lq_ifn (pc := 1721) F 1736 dL_law_1721 rfl (by omega) ?_
      refine ia_goto (pc := 1736) F 2404 dL_law_1736 rfl ?_
      refine jw [false, false, false, false, false, false, true, true, true] rfl ?_
      refine lq_wid (c2 := cells + 30) (s2 := slots + 7000) (by omega) (by omega) ?_
      exact kk _ _ (LvI_keep hJ hj p2 (fun p hp hs => ((f2 p (nsub hp (by decide))).trans rfl)) (f2 100 (by decide)) (f2 103 (by decide)) (fun z h9 => by rw [y99]; simp only [up, if_neg h9]))
set_option maxRecDepth 100000 in
set_option maxHeartbeats 2000000 in
set_option linter.constructorNameAsVariable false in
theorem lcs_31 {X : ia_X} {cells slots LX ix jj : Nat} {xs : Nat → Int32} {Z : ia_Z} {V : ia_H} (F : ia_Fix X RL cL_law 9 20 20000 3600000) (hX : LSc X LX xs) (hi : ix + 2 < LX ∧ LX ≤ 1536) (hJ : LvI jj Z V) (hj : jj < 512) (hc : cells + 30 ≤ 20000 ∧ slots + 7000 ≤ 3600000) (kk : ∀ (Z9 : ia_Z) (V9 : ia_H), LvI (jj + 1) Z9 V9 → ia_G X (cells + 30) (slots + 7000) 2404 [(4, ((ia_E0 + 400 : Nat) : Int)), (4, ((0 : Nat) : Int)), (4, ((99 : Nat) : Int)), (4, ((114 : Nat) : Int)), (4, ((115 : Nat) : Int)), (0, (ix : Int)), (9, 0), (9, 0), (9, 0)] [] Z9 V9) : ia_G X cells slots 1739 [(4, ((ia_E0 + 400 : Nat) : Int)), (4, ((0 : Nat) : Int)), (4, ((99 : Nat) : Int)), (4, ((114 : Nat) : Int)), (4, ((115 : Nat) : Int)), (0, (ix : Int)), (9, 0), (9, 0), (9, 0)] [] Z V := by
  obtain ⟨⟨hZ, hP, hz, hj2⟩, ⟨hB1, hB2⟩, hC, hD, hE, ⟨nT, qT, lT, hn6, h20, hT⟩, ⟨nU, qU, lU, hn7, h15, hU⟩, hne⟩ := id hJ
  obtain ⟨s0, s1, s2, s3, s4, s5, s6, s7, s18, sb, sw, se, sp⟩ := id hB2
  have hχ := hC.1
  have hd : 0 ≤ V 99 10 ∧ V 99 10 ≤ 8 := by have := hC.2.1; omega
  have hd1 := hC.2.1
  have h7 : (V 100 0).toNat ≤ 7 := by omega
  refine ia_aload_n (pc := 1739) F dL_law_1739 rfl ?_
  refine jV (pc := 1740) F 0 0 (z0 hZ) cls10.1 (c_X7_longestRise hZ hP hB1 hB2 rfl rfl (fun V1 p1 f1 => ?_)) rfl ⟨k_X7_longestRise, il_RL_240, im_X7_longestRise, is_X7_longestRise, ii_RX7⟩ 0 rfl hd_X7_longestRise ⟨by decide, by decide, by omega, by omega, Nat.le_of_ble_eq_true rfl⟩ dL_law_1740
  refine j1 ?_
  refine ia_aload_n (pc := 1743) F dL_law_1743 rfl ?_
  refine jV (pc := 1744) F 0 0 (z99 hZ) cls11.1 (c_X8_longestRise hZ p1 hB2 (f1 99 (by decide)) (f1 100 (by decide)) (f1 106 (by decide)) (f1 107 (by decide)) (fun V2 p2 y99 y106 y107 f2 => ?_)) rfl ⟨k_X8_longestRise, il_RL_243, im_X8_longestRise, is_X8_longestRise, ii_RX8⟩ 0 rfl hd_X8_longestRise ⟨by decide, by decide, by omega, by omega, Nat.le_of_ble_eq_true rfl⟩ dL_law_1744
  refine j1 ?_
  refine lq_icmp (pc := 1747) F 2404 dL_law_1747 rfl rfl ?_
  refine jw [false, false, false, false, false, false, true, true, true] rfl ?_
  refine lq_wid (c2 := cells + 30) (s2 := slots + 7000) (by omega) (by omega) ?_
  exact kk _ _ (LvI_keep hJ hj p2 (fun p hp hs => ((f2 p (nsub hp (by decide))).trans (f1 p (nsub hp (by decide))))) ((f2 100 (by decide)).trans (f1 100 (by decide))) ((f2 103 (by decide)).trans (f1 103 (by decide))) (fun z h9 => by rw [y99]; simp only [up, if_neg h9]))
set_option maxRecDepth 100000 in
set_option maxHeartbeats 2000000 in
set_option linter.constructorNameAsVariable false in
theorem lcs_32 {X : ia_X} {cells slots LX ix jj : Nat} {xs : Nat → Int32} {Z : ia_Z} {V : ia_H} (F : ia_Fix X RL cL_law 9 20 20000 3600000) (hX : LSc X LX xs) (hi : ix + 2 < LX ∧ LX ≤ 1536) (hJ : LvI jj Z V) (hj : jj < 512) (hc : cells + 30 ≤ 20000 ∧ slots + 7000 ≤ 3600000) (kk : ∀ (Z9 : ia_Z) (V9 : ia_H), LvI (jj + 1) Z9 V9 → ia_G X (cells + 30) (slots + 7000) 2404 [(4, ((ia_E0 + 400 : Nat) : Int)), (4, ((0 : Nat) : Int)), (4, ((99 : Nat) : Int)), (4, ((114 : Nat) : Int)), (4, ((115 : Nat) : Int)), (0, (ix : Int)), (9, 0), (9, 0), (9, 0)] [] Z9 V9) : ia_G X cells slots 1752 [(4, ((ia_E0 + 400 : Nat) : Int)), (4, ((0 : Nat) : Int)), (4, ((99 : Nat) : Int)), (4, ((114 : Nat) : Int)), (4, ((115 : Nat) : Int)), (0, (ix : Int)), (9, 0), (9, 0), (9, 0)] [] Z V := by
  obtain ⟨⟨hZ, hP, hz, hj2⟩, ⟨hB1, hB2⟩, hC, hD, hE, ⟨nT, qT, lT, hn6, h20, hT⟩, ⟨nU, qU, lU, hn7, h15, hU⟩, hne⟩ := id hJ
  obtain ⟨s0, s1, s2, s3, s4, s5, s6, s7, s18, sb, sw, se, sp⟩ := id hB2
  have hχ := hC.1
  have hd : 0 ≤ V 99 10 ∧ V 99 10 ≤ 8 := by have := hC.2.1; omega
  have hd1 := hC.2.1
  have h7 : (V 100 0).toNat ≤ 7 := by omega
  refine ia_aload_n (pc := 1752) F dL_law_1752 rfl ?_
  refine jV (pc := 1753) F 0 0 (z0 hZ) cls10.1 (c_X7_riseByEnds hZ hP hB1 hB2 rfl (fun V1 p1 f1 => ?_)) rfl ⟨k_X7_riseByEnds, il_RL_244, im_X7_riseByEnds, is_X7_riseByEnds, ii_RX7⟩ 0 rfl hd_X7_riseByEnds ⟨by decide, by decide, by omega, by omega, Nat.le_of_ble_eq_true rfl⟩ dL_law_1753
  refine j1 ?_
  refine ia_aload_n (pc := 1756) F dL_law_1756 rfl ?_
  refine jV (pc := 1757) F 0 0 (z99 hZ) cls11.1 (c_X8_riseByEnds hZ p1 hB2 (f1 99 (by decide)) (f1 100 (by decide)) (f1 106 (by decide)) (f1 107 (by decide)) (fun V2 p2 y99 y106 y107 f2 => ?_)) rfl ⟨k_X8_riseByEnds, il_RL_247, im_X8_riseByEnds, is_X8_riseByEnds, ii_RX8⟩ 0 rfl hd_X8_riseByEnds ⟨by decide, by decide, by omega, by omega, Nat.le_of_ble_eq_true rfl⟩ dL_law_1757
  refine j1 ?_
  refine lq_icmp (pc := 1760) F 2404 dL_law_1760 rfl rfl ?_
  refine jw [false, false, false, false, false, false, true, true, true] rfl ?_
  refine lq_wid (c2 := cells + 30) (s2 := slots + 7000) (by omega) (by omega) ?_
  exact kk _ _ (LvI_keep hJ hj p2 (fun p hp hs => ((f2 p (nsub hp (by decide))).trans (f1 p (nsub hp (by decide))))) ((f2 100 (by decide)).trans (f1 100 (by decide))) ((f2 103 (by decide)).trans (f1 103 (by decide))) (fun z h9 => by rw [y99]; simp only [up, if_neg h9]))
set_option maxRecDepth 100000 in
set_option maxHeartbeats 2000000 in
set_option linter.constructorNameAsVariable false in
theorem lcs_33 {X : ia_X} {cells slots LX ix jj : Nat} {xs : Nat → Int32} {Z : ia_Z} {V : ia_H} (F : ia_Fix X RL cL_law 9 20 20000 3600000) (hX : LSc X LX xs) (hi : ix + 2 < LX ∧ LX ≤ 1536) (hJ : LvI jj Z V) (hj : jj < 512) (hc : cells + 30 ≤ 20000 ∧ slots + 7000 ≤ 3600000) (kk : ∀ (Z9 : ia_Z) (V9 : ia_H), LvI (jj + 1) Z9 V9 → ia_G X (cells + 30) (slots + 7000) 2404 [(4, ((ia_E0 + 400 : Nat) : Int)), (4, ((0 : Nat) : Int)), (4, ((99 : Nat) : Int)), (4, ((114 : Nat) : Int)), (4, ((115 : Nat) : Int)), (0, (ix : Int)), (9, 0), (9, 0), (9, 0)] [] Z9 V9) : ia_G X cells slots 1765 [(4, ((ia_E0 + 400 : Nat) : Int)), (4, ((0 : Nat) : Int)), (4, ((99 : Nat) : Int)), (4, ((114 : Nat) : Int)), (4, ((115 : Nat) : Int)), (0, (ix : Int)), (9, 0), (9, 0), (9, 0)] [] Z V := by
  obtain ⟨⟨hZ, hP, hz, hj2⟩, ⟨hB1, hB2⟩, hC, hD, hE, ⟨nT, qT, lT, hn6, h20, hT⟩, ⟨nU, qU, lU, hn7, h15, hU⟩, hne⟩ := id hJ
  obtain ⟨s0, s1, s2, s3, s4, s5, s6, s7, s18, sb, sw, se, sp⟩ := id hB2
  have hχ := hC.1
  have hd : 0 ≤ V 99 10 ∧ V 99 10 ≤ 8 := by have := hC.2.1; omega
  have hd1 := hC.2.1
  have h7 : (V 100 0).toNat ≤ 7 := by omega
  refine ia_aload_n (pc := 1765) F dL_law_1765 rfl ?_
  refine jV (pc := 1766) F 0 0 (z0 hZ) cls10.1 (c_X7_riseCount hZ hP hB1 hB2 rfl rfl (fun V1 p1 f1 => ?_)) rfl ⟨k_X7_riseCount, il_RL_248, im_X7_riseCount, is_X7_riseCount, ii_RX7⟩ 0 rfl hd_X7_riseCount ⟨by decide, by decide, by omega, by omega, Nat.le_of_ble_eq_true rfl⟩ dL_law_1766
  refine j1 ?_
  refine ia_aload_n (pc := 1769) F dL_law_1769 rfl ?_
  refine jV (pc := 1770) F 0 0 (z99 hZ) cls11.1 (c_X8_riseCount hZ p1 hB2 (f1 99 (by decide)) (f1 100 (by decide)) (f1 106 (by decide)) (f1 107 (by decide)) (fun V2 p2 y99 y106 y107 f2 => ?_)) rfl ⟨k_X8_riseCount, il_RL_251, im_X8_riseCount, is_X8_riseCount, ii_RX8⟩ 0 rfl hd_X8_riseCount ⟨by decide, by decide, by omega, by omega, Nat.le_of_ble_eq_true rfl⟩ dL_law_1770
  refine j1 ?_
  refine lq_icmp (pc := 1773) F 2404 dL_law_1773 rfl rfl ?_
  refine jw [false, false, false, false, false, false, true, true, true] rfl ?_
  refine lq_wid (c2 := cells + 30) (s2 := slots + 7000) (by omega) (by omega) ?_
  exact kk _ _ (LvI_keep hJ hj p2 (fun p hp hs => ((f2 p (nsub hp (by decide))).trans (f1 p (nsub hp (by decide))))) ((f2 100 (by decide)).trans (f1 100 (by decide))) ((f2 103 (by decide)).trans (f1 103 (by decide))) (fun z h9 => by rw [y99]; simp only [up, if_neg h9]))
set_option maxRecDepth 100000 in
set_option maxHeartbeats 2000000 in
set_option linter.constructorNameAsVariable false in
theorem lcs_34 {X : ia_X} {cells slots LX ix jj : Nat} {xs : Nat → Int32} {Z : ia_Z} {V : ia_H} (F : ia_Fix X RL cL_law 9 20 20000 3600000) (hX : LSc X LX xs) (hi : ix + 2 < LX ∧ LX ≤ 1536) (hJ : LvI jj Z V) (hj : jj < 512) (hc : cells + 30 ≤ 20000 ∧ slots + 7000 ≤ 3600000) (kk : ∀ (Z9 : ia_Z) (V9 : ia_H), LvI (jj + 1) Z9 V9 → ia_G X (cells + 30) (slots + 7000) 2404 [(4, ((ia_E0 + 400 : Nat) : Int)), (4, ((0 : Nat) : Int)), (4, ((99 : Nat) : Int)), (4, ((114 : Nat) : Int)), (4, ((115 : Nat) : Int)), (0, (ix : Int)), (9, 0), (9, 0), (9, 0)] [] Z9 V9) : ia_G X cells slots 1778 [(4, ((ia_E0 + 400 : Nat) : Int)), (4, ((0 : Nat) : Int)), (4, ((99 : Nat) : Int)), (4, ((114 : Nat) : Int)), (4, ((115 : Nat) : Int)), (0, (ix : Int)), (9, 0), (9, 0), (9, 0)] [] Z V := by
  obtain ⟨⟨hZ, hP, hz, hj2⟩, ⟨hB1, hB2⟩, hC, hD, hE, ⟨nT, qT, lT, hn6, h20, hT⟩, ⟨nU, qU, lU, hn7, h15, hU⟩, hne⟩ := id hJ
  obtain ⟨s0, s1, s2, s3, s4, s5, s6, s7, s18, sb, sw, se, sp⟩ := id hB2
  have hχ := hC.1
  have hd : 0 ≤ V 99 10 ∧ V 99 10 ≤ 8 := by have := hC.2.1; omega
  have hd1 := hC.2.1
  have h7 : (V 100 0).toNat ≤ 7 := by omega
  refine ia_aload_n (pc := 1778) F dL_law_1778 rfl ?_
  refine jV (pc := 1779) F 0 0 (z0 hZ) cls10.1 (c_X7_minutes hZ hP hB1 hB2 ?_) rfl ⟨k_X7_minutes, il_RL_252, im_X7_minutes, is_X7_minutes, ii_RX7⟩ 0 rfl hd_X7_minutes ⟨by decide, by decide, by omega, by omega, Nat.le_of_ble_eq_true rfl⟩ dL_law_1779
  refine j1 ?_
  refine ia_aload_n (pc := 1782) F dL_law_1782 rfl ?_
  refine jV (pc := 1783) F 0 0 (z99 hZ) cls11.1 (c_X8_minutes hZ hP hB2 rfl rfl (fun V2 p2 y99 f2 => ?_)) rfl ⟨k_X8_minutes, il_RL_255, im_X8_minutes, is_X8_minutes, ii_RX8⟩ 0 rfl hd_X8_minutes ⟨by decide, by decide, by omega, by omega, Nat.le_of_ble_eq_true rfl⟩ dL_law_1783
  refine j1 ?_
  refine lq_icmp (pc := 1786) F 2404 dL_law_1786 rfl rfl ?_
  refine jw [false, false, false, false, false, false, true, true, true] rfl ?_
  refine lq_wid (c2 := cells + 30) (s2 := slots + 7000) (by omega) (by omega) ?_
  exact kk _ _ (LvI_keep hJ hj p2 (fun p hp hs => ((f2 p (nsub hp (by decide))).trans rfl)) (f2 100 (by decide)) (f2 103 (by decide)) (fun z h9 => by rw [y99]; simp only [up, if_neg h9]))
set_option maxRecDepth 100000 in
set_option maxHeartbeats 2000000 in
set_option linter.constructorNameAsVariable false in
theorem lcs_35 {X : ia_X} {cells slots LX ix jj : Nat} {xs : Nat → Int32} {Z : ia_Z} {V : ia_H} (F : ia_Fix X RL cL_law 9 20 20000 3600000) (hX : LSc X LX xs) (hi : ix + 2 < LX ∧ LX ≤ 1536) (hJ : LvI jj Z V) (hj : jj < 512) (hc : cells + 30 ≤ 20000 ∧ slots + 7000 ≤ 3600000) (kk : ∀ (Z9 : ia_Z) (V9 : ia_H), LvI (jj + 1) Z9 V9 → ia_G X (cells + 30) (slots + 7000) 2404 [(4, ((ia_E0 + 400 : Nat) : Int)), (4, ((0 : Nat) : Int)), (4, ((99 : Nat) : Int)), (4, ((114 : Nat) : Int)), (4, ((115 : Nat) : Int)), (0, (ix : Int)), (9, 0), (9, 0), (9, 0)] [] Z9 V9) : ia_G X cells slots 1791 [(4, ((ia_E0 + 400 : Nat) : Int)), (4, ((0 : Nat) : Int)), (4, ((99 : Nat) : Int)), (4, ((114 : Nat) : Int)), (4, ((115 : Nat) : Int)), (0, (ix : Int)), (9, 0), (9, 0), (9, 0)] [] Z V := by
  obtain ⟨⟨hZ, hP, hz, hj2⟩, ⟨hB1, hB2⟩, hC, hD, hE, ⟨nT, qT, lT, hn6, h20, hT⟩, ⟨nU, qU, lU, hn7, h15, hU⟩, hne⟩ := id hJ
  obtain ⟨s0, s1, s2, s3, s4, s5, s6, s7, s18, sb, sw, se, sp⟩ := id hB2
  have hχ := hC.1
  have hd : 0 ≤ V 99 10 ∧ V 99 10 ≤ 8 := by have := hC.2.1; omega
  have hd1 := hC.2.1
  have h7 : (V 100 0).toNat ≤ 7 := by omega
  refine ia_aload_n (pc := 1791) F dL_law_1791 rfl ?_
  refine jV (pc := 1792) F 0 0 (z0 hZ) cls10.1 (c_X7_poured hZ hP hB1 hB2 ?_) rfl ⟨k_X7_poured, il_RL_256, im_X7_poured, is_X7_poured, ii_RX7⟩ 0 rfl hd_X7_poured ⟨by decide, by decide, by omega, by omega, Nat.le_of_ble_eq_true rfl⟩ dL_law_1792
  refine j1 ?_
  refine ia_aload_n (pc := 1795) F dL_law_1795 rfl ?_
  refine jV (pc := 1796) F 0 0 (z99 hZ) cls11.1 (c_X8_poured hZ hP hB2 rfl rfl (fun V2 p2 y99 f2 => ?_)) rfl ⟨k_X8_poured, il_RL_259, im_X8_poured, is_X8_poured, ii_RX8⟩ 0 rfl hd_X8_poured ⟨by decide, by decide, by omega, by omega, Nat.le_of_ble_eq_true rfl⟩ dL_law_1796
  refine j1 ?_
  refine lq_icmp (pc := 1799) F 2404 dL_law_1799 rfl rfl ?_
  refine jw [false, false, false, false, false, false, true, true, true] rfl ?_
  refine lq_wid (c2 := cells + 30) (s2 := slots + 7000) (by omega) (by omega) ?_
  exact kk _ _ (LvI_keep hJ hj p2 (fun p hp hs => ((f2 p (nsub hp (by decide))).trans rfl)) (f2 100 (by decide)) (f2 103 (by decide)) (fun z h9 => by rw [y99]; simp only [up, if_neg h9]))
set_option maxRecDepth 100000 in
set_option maxHeartbeats 2000000 in
set_option linter.constructorNameAsVariable false in
theorem lcs_36 {X : ia_X} {cells slots LX ix jj : Nat} {xs : Nat → Int32} {Z : ia_Z} {V : ia_H} (F : ia_Fix X RL cL_law 9 20 20000 3600000) (hX : LSc X LX xs) (hi : ix + 2 < LX ∧ LX ≤ 1536) (hJ : LvI jj Z V) (hj : jj < 512) (hc : cells + 30 ≤ 20000 ∧ slots + 7000 ≤ 3600000) (kk : ∀ (Z9 : ia_Z) (V9 : ia_H), LvI (jj + 1) Z9 V9 → ia_G X (cells + 30) (slots + 7000) 2404 [(4, ((ia_E0 + 400 : Nat) : Int)), (4, ((0 : Nat) : Int)), (4, ((99 : Nat) : Int)), (4, ((114 : Nat) : Int)), (4, ((115 : Nat) : Int)), (0, (ix : Int)), (9, 0), (9, 0), (9, 0)] [] Z9 V9) : ia_G X cells slots 1804 [(4, ((ia_E0 + 400 : Nat) : Int)), (4, ((0 : Nat) : Int)), (4, ((99 : Nat) : Int)), (4, ((114 : Nat) : Int)), (4, ((115 : Nat) : Int)), (0, (ix : Int)), (9, 0), (9, 0), (9, 0)] [] Z V := by
  obtain ⟨⟨hZ, hP, hz, hj2⟩, ⟨hB1, hB2⟩, hC, hD, hE, ⟨nT, qT, lT, hn6, h20, hT⟩, ⟨nU, qU, lU, hn7, h15, hU⟩, hne⟩ := id hJ
  obtain ⟨s0, s1, s2, s3, s4, s5, s6, s7, s18, sb, sw, se, sp⟩ := id hB2
  have hχ := hC.1
  have hd : 0 ≤ V 99 10 ∧ V 99 10 ≤ 8 := by have := hC.2.1; omega
  have hd1 := hC.2.1
  have h7 : (V 100 0).toNat ≤ 7 := by omega
  refine ia_aload_n (pc := 1804) F dL_law_1804 rfl ?_
  refine jV (pc := 1805) F 0 0 (z0 hZ) cls10.1 (c_X7_used hZ hP hB1 hB2 ?_) rfl ⟨k_X7_used, il_RL_260, im_X7_used, is_X7_used, ii_RX7⟩ 0 rfl hd_X7_used ⟨by decide, by decide, by omega, by omega, Nat.le_of_ble_eq_true rfl⟩ dL_law_1805
  refine j1 ?_
  refine ia_aload_n (pc := 1808) F dL_law_1808 rfl ?_
  refine jV (pc := 1809) F 0 0 (z99 hZ) cls11.1 (c_X8_used hZ hP hB2 rfl rfl (fun V2 p2 y99 f2 => ?_)) rfl ⟨k_X8_used, il_RL_263, im_X8_used, is_X8_used, ii_RX8⟩ 0 rfl hd_X8_used ⟨by decide, by decide, by omega, by omega, Nat.le_of_ble_eq_true rfl⟩ dL_law_1809
  refine j1 ?_
  refine lq_icmp (pc := 1812) F 2404 dL_law_1812 rfl rfl ?_
  refine jw [false, false, false, false, false, false, true, true, true] rfl ?_
  refine lq_wid (c2 := cells + 30) (s2 := slots + 7000) (by omega) (by omega) ?_
  exact kk _ _ (LvI_keep hJ hj p2 (fun p hp hs => ((f2 p (nsub hp (by decide))).trans rfl)) (f2 100 (by decide)) (f2 103 (by decide)) (fun z h9 => by rw [y99]; simp only [up, if_neg h9]))
set_option maxRecDepth 100000 in
set_option maxHeartbeats 2000000 in
set_option linter.constructorNameAsVariable false in
theorem lcs_37 {X : ia_X} {cells slots LX ix jj : Nat} {xs : Nat → Int32} {Z : ia_Z} {V : ia_H} (F : ia_Fix X RL cL_law 9 20 20000 3600000) (hX : LSc X LX xs) (hi : ix + 2 < LX ∧ LX ≤ 1536) (hJ : LvI jj Z V) (hj : jj < 512) (hc : cells + 30 ≤ 20000 ∧ slots + 7000 ≤ 3600000) (kk : ∀ (Z9 : ia_Z) (V9 : ia_H), LvI (jj + 1) Z9 V9 → ia_G X (cells + 30) (slots + 7000) 2404 [(4, ((ia_E0 + 400 : Nat) : Int)), (4, ((0 : Nat) : Int)), (4, ((99 : Nat) : Int)), (4, ((114 : Nat) : Int)), (4, ((115 : Nat) : Int)), (0, (ix : Int)), (9, 0), (9, 0), (9, 0)] [] Z9 V9) : ia_G X cells slots 1817 [(4, ((ia_E0 + 400 : Nat) : Int)), (4, ((0 : Nat) : Int)), (4, ((99 : Nat) : Int)), (4, ((114 : Nat) : Int)), (4, ((115 : Nat) : Int)), (0, (ix : Int)), (9, 0), (9, 0), (9, 0)] [] Z V := by
  obtain ⟨⟨hZ, hP, hz, hj2⟩, ⟨hB1, hB2⟩, hC, hD, hE, ⟨nT, qT, lT, hn6, h20, hT⟩, ⟨nU, qU, lU, hn7, h15, hU⟩, hne⟩ := id hJ
  obtain ⟨s0, s1, s2, s3, s4, s5, s6, s7, s18, sb, sw, se, sp⟩ := id hB2
  have hχ := hC.1
  have hd : 0 ≤ V 99 10 ∧ V 99 10 ≤ 8 := by have := hC.2.1; omega
  have hd1 := hC.2.1
  have h7 : (V 100 0).toNat ≤ 7 := by omega
  refine ia_aload_n (pc := 1817) F dL_law_1817 rfl ?_
  refine jV (pc := 1818) F 0 0 (z0 hZ) cls10.1 (c_X7_faded hZ hP hB1 hB2 ?_) rfl ⟨k_X7_faded, il_RL_264, im_X7_faded, is_X7_faded, ii_RX7⟩ 0 rfl hd_X7_faded ⟨by decide, by decide, by omega, by omega, Nat.le_of_ble_eq_true rfl⟩ dL_law_1818
  refine j1 ?_
  refine ia_aload_n (pc := 1821) F dL_law_1821 rfl ?_
  refine jV (pc := 1822) F 0 0 (z99 hZ) cls11.1 (c_X8_faded hZ hP hB2 rfl rfl (fun V2 p2 y99 f2 => ?_)) rfl ⟨k_X8_faded, il_RL_268, im_X8_faded, is_X8_faded, ii_RX8⟩ 0 rfl hd_X8_faded ⟨by decide, by decide, by omega, by omega, Nat.le_of_ble_eq_true rfl⟩ dL_law_1822
  refine j1 ?_
  refine lq_lcmp (pc := 1825) F dL_law_1825 rfl ?_
  refine lq_if0 (pc := 1826) F 2404 dL_law_1826 rfl ?_
  refine jw [false, false, false, false, false, false, true, true, true] rfl ?_
  refine lq_wid (c2 := cells + 30) (s2 := slots + 7000) (by omega) (by omega) ?_
  exact kk _ _ (LvI_keep hJ hj p2 (fun p hp hs => ((f2 p (nsub hp (by decide))).trans rfl)) (f2 100 (by decide)) (f2 103 (by decide)) (fun z h9 => by rw [y99]; simp only [up, if_neg h9]))
set_option maxRecDepth 100000 in
set_option maxHeartbeats 2000000 in
set_option linter.constructorNameAsVariable false in
theorem lcs_38 {X : ia_X} {cells slots LX ix jj : Nat} {xs : Nat → Int32} {Z : ia_Z} {V : ia_H} (F : ia_Fix X RL cL_law 9 20 20000 3600000) (hX : LSc X LX xs) (hi : ix + 2 < LX ∧ LX ≤ 1536) (hJ : LvI jj Z V) (hj : jj < 512) (hc : cells + 30 ≤ 20000 ∧ slots + 7000 ≤ 3600000) (kk : ∀ (Z9 : ia_Z) (V9 : ia_H), LvI (jj + 1) Z9 V9 → ia_G X (cells + 30) (slots + 7000) 2404 [(4, ((ia_E0 + 400 : Nat) : Int)), (4, ((0 : Nat) : Int)), (4, ((99 : Nat) : Int)), (4, ((114 : Nat) : Int)), (4, ((115 : Nat) : Int)), (0, (ix : Int)), (9, 0), (9, 0), (9, 0)] [] Z9 V9) : ia_G X cells slots 1831 [(4, ((ia_E0 + 400 : Nat) : Int)), (4, ((0 : Nat) : Int)), (4, ((99 : Nat) : Int)), (4, ((114 : Nat) : Int)), (4, ((115 : Nat) : Int)), (0, (ix : Int)), (9, 0), (9, 0), (9, 0)] [] Z V := by
  obtain ⟨⟨hZ, hP, hz, hj2⟩, ⟨hB1, hB2⟩, hC, hD, hE, ⟨nT, qT, lT, hn6, h20, hT⟩, ⟨nU, qU, lU, hn7, h15, hU⟩, hne⟩ := id hJ
  obtain ⟨s0, s1, s2, s3, s4, s5, s6, s7, s18, sb, sw, se, sp⟩ := id hB2
  have hχ := hC.1
  have hd : 0 ≤ V 99 10 ∧ V 99 10 ≤ 8 := by have := hC.2.1; omega
  have hd1 := hC.2.1
  have h7 : (V 100 0).toNat ≤ 7 := by omega
  refine ia_aload_n (pc := 1831) F dL_law_1831 rfl ?_
  refine jV (pc := 1832) F 0 0 (z0 hZ) cls10.1 (c_X7_inkInWells hZ hP hB1 hB2 ?_) rfl ⟨k_X7_inkInWells, il_RL_269, im_X7_inkInWells, is_X7_inkInWells, ii_RX7⟩ 0 rfl hd_X7_inkInWells ⟨by decide, by decide, by omega, by omega, Nat.le_of_ble_eq_true rfl⟩ dL_law_1832
  refine j1 ?_
  refine ia_aload_n (pc := 1835) F dL_law_1835 rfl ?_
  refine jV (pc := 1836) F 0 0 (z99 hZ) cls11.1 (c_X8_inkInWells hZ hP hB2 rfl rfl (fun V2 p2 y99 f2 => ?_)) rfl ⟨k_X8_inkInWells, il_RL_272, im_X8_inkInWells, is_X8_inkInWells, ii_RX8⟩ 0 rfl hd_X8_inkInWells ⟨by decide, by decide, by omega, by omega, Nat.le_of_ble_eq_true rfl⟩ dL_law_1836
  refine j1 ?_
  refine lq_icmp (pc := 1839) F 2404 dL_law_1839 rfl rfl ?_
  refine jw [false, false, false, false, false, false, true, true, true] rfl ?_
  refine lq_wid (c2 := cells + 30) (s2 := slots + 7000) (by omega) (by omega) ?_
  exact kk _ _ (LvI_keep hJ hj p2 (fun p hp hs => ((f2 p (nsub hp (by decide))).trans rfl)) (f2 100 (by decide)) (f2 103 (by decide)) (fun z h9 => by rw [y99]; simp only [up, if_neg h9]))
set_option maxRecDepth 100000 in
set_option maxHeartbeats 2000000 in
set_option linter.constructorNameAsVariable false in
theorem lcs_39 {X : ia_X} {cells slots LX ix jj : Nat} {xs : Nat → Int32} {Z : ia_Z} {V : ia_H} (F : ia_Fix X RL cL_law 9 20 20000 3600000) (hX : LSc X LX xs) (hi : ix + 2 < LX ∧ LX ≤ 1536) (hJ : LvI jj Z V) (hj : jj < 512) (hc : cells + 30 ≤ 20000 ∧ slots + 7000 ≤ 3600000) (kk : ∀ (Z9 : ia_Z) (V9 : ia_H), LvI (jj + 1) Z9 V9 → ia_G X (cells + 30) (slots + 7000) 2404 [(4, ((ia_E0 + 400 : Nat) : Int)), (4, ((0 : Nat) : Int)), (4, ((99 : Nat) : Int)), (4, ((114 : Nat) : Int)), (4, ((115 : Nat) : Int)), (0, (ix : Int)), (9, 0), (9, 0), (9, 0)] [] Z9 V9) : ia_G X cells slots 1844 [(4, ((ia_E0 + 400 : Nat) : Int)), (4, ((0 : Nat) : Int)), (4, ((99 : Nat) : Int)), (4, ((114 : Nat) : Int)), (4, ((115 : Nat) : Int)), (0, (ix : Int)), (9, 0), (9, 0), (9, 0)] [] Z V := by
  obtain ⟨⟨hZ, hP, hz, hj2⟩, ⟨hB1, hB2⟩, hC, hD, hE, ⟨nT, qT, lT, hn6, h20, hT⟩, ⟨nU, qU, lU, hn7, h15, hU⟩, hne⟩ := id hJ
  obtain ⟨s0, s1, s2, s3, s4, s5, s6, s7, s18, sb, sw, se, sp⟩ := id hB2
  have hχ := hC.1
  have hd : 0 ≤ V 99 10 ∧ V 99 10 ≤ 8 := by have := hC.2.1; omega
  have hd1 := hC.2.1
  have h7 : (V 100 0).toNat ≤ 7 := by omega
  refine ia_aload_n (pc := 1844) F dL_law_1844 rfl ?_
  refine ia_aload (pc := 1845) F dL_law_1845 rfl ?_
  refine jSH (pc := 1847) F (h_meanRun hZ hP hB1 hB2 (fun c0 => ?_) (fun c0 => ?_)) rfl ⟨k_L_meanRun, il_RL_273, it_L_meanRun, ii_RL⟩ 2 rfl hd_L_meanRun ⟨by decide, by decide, by omega, by omega, Nat.le_of_ble_eq_true rfl⟩ dL_law_1847
  · refine j1 ?_
    refine ia_istore (pc := 1850) F (ls' := [(4, ((ia_E0 + 400 : Nat) : Int)), (4, ((0 : Nat) : Int)), (4, ((99 : Nat) : Int)), (4, ((114 : Nat) : Int)), (4, ((115 : Nat) : Int)), (0, (ix : Int)), (0, 0), (9, 0), (9, 0)]) dL_law_1850 (Nat.le_of_ble_eq_true rfl) rfl rfl ?_
    refine ia_aload_n (pc := 1852) F dL_law_1852 rfl ?_
    refine jV (pc := 1853) F 0 0 (z99 hZ) cls11.1 (c_X8_meanRun hZ (PI_u hP rfl) hB2 (rowN (by decide)) (rowN (by decide)) (fun V2 d0 p2 y99 f2 => ?_) (fun V2 d0 p2 y99 f2 => ?_)) rfl ⟨k_X8_meanRun, il_RL_276, im_X8_meanRun, is_X8_meanRun, ii_RX8⟩ 0 rfl hd_X8_meanRun ⟨by decide, by decide, by omega, by omega, Nat.le_of_ble_eq_true rfl⟩ dL_law_1853
    · refine j1 ?_
      refine ia_dstore (pc := 1856) F (ls' := [(4, ((ia_E0 + 400 : Nat) : Int)), (4, ((0 : Nat) : Int)), (4, ((99 : Nat) : Int)), (4, ((114 : Nat) : Int)), (4, ((115 : Nat) : Int)), (0, (ix : Int)), (0, 0), (3, (ia_ddiv (ia_i2d (psum (run (V 100)) ((V 100) 0).toNat)) (ia_i2d ((V 100) 0)))), (9, 0)]) dL_law_1856 (Nat.le_of_ble_eq_true rfl) rfl rfl rfl ?_
      refine ia_aload_n (pc := 1858) F dL_law_1858 rfl ?_
      refine jV (pc := 1859) F 0 0 (z99 hZ) cls11.1 (c_X8_thrown hZ p2 rfl rfl ?_) rfl ⟨k_X8_thrown, il_RL_138, im_X8_thrown, is_X8_thrown, ii_RX8⟩ 0 rfl hd_X8_thrown ⟨by decide, by decide, by omega, by omega, Nat.le_of_ble_eq_true rfl⟩ dL_law_1859
      refine j1 ?_
      refine ia_iload (pc := 1862) F dL_law_1862 rfl ?_
      refine lq_icmp (pc := 1864) F 1869 dL_law_1864 rfl (by rw [y99]; simp [up]) ?_
      refine ia_iload (pc := 1869) F dL_law_1869 rfl ?_
      refine lq_ifz (pc := 1871) F dL_law_1871 1906 rfl ?_
      refine ia_aload (pc := 1874) F dL_law_1874 rfl ?_
      refine ia_iconst (pc := 1876) F dL_law_1876 ?_
      refine ia_daload (pc := 1877) F 115 0 rfl rfl (z115 hZ).1 (z115 hZ).2.1 (by rw [(z115 hZ).2.2]; decide) ((congrFun (f2 115 (by decide)) 0).trans (ia_u_self _ _ _ _)) dL_law_1877 ?_
      refine ia_dload (pc := 1878) F dL_law_1878 rfl ?_
      refine ia_dcmpl (pc := 1880) F dL_law_1880 ?_
      rw [fl_dcd (by omega)]
      refine lq_if0 (pc := 1881) F 1906 dL_law_1881 rfl ?_
      refine ia_goto (pc := 1906) F 2404 dL_law_1906 rfl ?_
      refine jw [false, false, false, false, false, false, true, true, true] rfl ?_
      refine lq_wid (c2 := cells + 30) (s2 := slots + 7000) (by omega) (by omega) ?_
      exact kk _ _ (LvI_keep hJ hj p2 (fun p hp hs => ((f2 p (nsub hp (by decide))).trans (rowN (nne hp (by decide))))) ((f2 100 (by decide)).trans (rowN (by decide))) ((f2 103 (by decide)).trans (rowN (by decide))) (fun z h9 => by rw [y99]; simp only [up, if_neg h9]))
    · exfalso; omega
  · refine j1 ?_
    refine ia_istore (pc := 1850) F (ls' := [(4, ((ia_E0 + 400 : Nat) : Int)), (4, ((0 : Nat) : Int)), (4, ((99 : Nat) : Int)), (4, ((114 : Nat) : Int)), (4, ((115 : Nat) : Int)), (0, (ix : Int)), (0, 1), (9, 0), (9, 0)]) dL_law_1850 (Nat.le_of_ble_eq_true rfl) rfl rfl ?_
    refine ia_aload_n (pc := 1852) F dL_law_1852 rfl ?_
    refine jV (pc := 1853) F 0 0 (z99 hZ) cls11.1 (c_X8_meanRun hZ hP hB2 rfl rfl (fun V2 d0 p2 y99 f2 => ?_) (fun V2 d0 p2 y99 f2 => ?_)) rfl ⟨k_X8_meanRun, il_RL_276, im_X8_meanRun, is_X8_meanRun, ii_RX8⟩ 0 rfl hd_X8_meanRun ⟨by decide, by decide, by omega, by omega, Nat.le_of_ble_eq_true rfl⟩ dL_law_1853
    · exfalso; omega
    · refine j1 ?_
      refine ia_dstore (pc := 1856) F (ls' := [(4, ((ia_E0 + 400 : Nat) : Int)), (4, ((0 : Nat) : Int)), (4, ((99 : Nat) : Int)), (4, ((114 : Nat) : Int)), (4, ((115 : Nat) : Int)), (0, (ix : Int)), (0, 1), (3, ((FP.dconst0.toNat : Nat) : Int)), (9, 0)]) dL_law_1856 (Nat.le_of_ble_eq_true rfl) rfl rfl rfl ?_
      refine ia_aload_n (pc := 1858) F dL_law_1858 rfl ?_
      refine jV (pc := 1859) F 0 0 (z99 hZ) cls11.1 (c_X8_thrown hZ p2 rfl rfl ?_) rfl ⟨k_X8_thrown, il_RL_138, im_X8_thrown, is_X8_thrown, ii_RX8⟩ 0 rfl hd_X8_thrown ⟨by decide, by decide, by omega, by omega, Nat.le_of_ble_eq_true rfl⟩ dL_law_1859
      refine j1 ?_
      refine ia_iload (pc := 1862) F dL_law_1862 rfl ?_
      refine lq_icmp (pc := 1864) F 1869 dL_law_1864 rfl (by rw [y99]; simp [up]) ?_
      refine ia_iload (pc := 1869) F dL_law_1869 rfl ?_
      refine lq_ifn (pc := 1871) F 1906 dL_law_1871 rfl (by omega) ?_
      refine ia_goto (pc := 1906) F 2404 dL_law_1906 rfl ?_
      refine jw [false, false, false, false, false, false, true, true, true] rfl ?_
      refine lq_wid (c2 := cells + 30) (s2 := slots + 7000) (by omega) (by omega) ?_
      exact kk _ _ (LvI_keep hJ hj p2 (fun p hp hs => ((f2 p (nsub hp (by decide))).trans rfl)) (f2 100 (by decide)) (f2 103 (by decide)) (fun z h9 => by rw [y99]; simp only [up, if_neg h9]))
set_option maxRecDepth 100000 in
set_option maxHeartbeats 2000000 in
set_option linter.constructorNameAsVariable false in
theorem lcs_40 {X : ia_X} {cells slots LX ix jj : Nat} {xs : Nat → Int32} {Z : ia_Z} {V : ia_H} (F : ia_Fix X RL cL_law 9 20 20000 3600000) (hX : LSc X LX xs) (hi : ix + 2 < LX ∧ LX ≤ 1536) (hJ : LvI jj Z V) (hj : jj < 512) (hc : cells + 30 ≤ 20000 ∧ slots + 7000 ≤ 3600000) (kk : ∀ (Z9 : ia_Z) (V9 : ia_H), LvI (jj + 1) Z9 V9 → ia_G X (cells + 30) (slots + 7000) 2404 [(4, ((ia_E0 + 400 : Nat) : Int)), (4, ((0 : Nat) : Int)), (4, ((99 : Nat) : Int)), (4, ((114 : Nat) : Int)), (4, ((115 : Nat) : Int)), (0, (ix : Int)), (9, 0), (9, 0), (9, 0)] [] Z9 V9) : ia_G X cells slots 1909 [(4, ((ia_E0 + 400 : Nat) : Int)), (4, ((0 : Nat) : Int)), (4, ((99 : Nat) : Int)), (4, ((114 : Nat) : Int)), (4, ((115 : Nat) : Int)), (0, (ix : Int)), (9, 0), (9, 0), (9, 0)] [] Z V := by
  obtain ⟨⟨hZ, hP, hz, hj2⟩, ⟨hB1, hB2⟩, hC, hD, hE, ⟨nT, qT, lT, hn6, h20, hT⟩, ⟨nU, qU, lU, hn7, h15, hU⟩, hne⟩ := id hJ
  obtain ⟨s0, s1, s2, s3, s4, s5, s6, s7, s18, sb, sw, se, sp⟩ := id hB2
  have hχ := hC.1
  have hd : 0 ≤ V 99 10 ∧ V 99 10 ≤ 8 := by have := hC.2.1; omega
  have hd1 := hC.2.1
  have h7 : (V 100 0).toNat ≤ 7 := by omega
  refine ia_aload_n (pc := 1909) F dL_law_1909 rfl ?_
  refine ia_aload (pc := 1910) F dL_law_1910 rfl ?_
  refine jSH (pc := 1912) F (h_fadedShare hZ hP hB1 hB2 (fun c0 => ?_) (fun c0 => ?_)) rfl ⟨k_L_fadedShare, il_RL_277, it_L_fadedShare, ii_RL⟩ 2 rfl hd_L_fadedShare ⟨by decide, by decide, by omega, by omega, Nat.le_of_ble_eq_true rfl⟩ dL_law_1912
  · refine j1 ?_
    refine ia_istore (pc := 1915) F (ls' := [(4, ((ia_E0 + 400 : Nat) : Int)), (4, ((0 : Nat) : Int)), (4, ((99 : Nat) : Int)), (4, ((114 : Nat) : Int)), (4, ((115 : Nat) : Int)), (0, (ix : Int)), (0, 0), (9, 0), (9, 0)]) dL_law_1915 (Nat.le_of_ble_eq_true rfl) rfl rfl ?_
    refine ia_aload_n (pc := 1917) F dL_law_1917 rfl ?_
    refine jV (pc := 1918) F 0 0 (z99 hZ) cls11.1 (c_X8_fadedShare hZ (PI_u hP rfl) hB2 (rowN (by decide)) (rowN (by decide)) (fun V2 d0 p2 y99 f2 => ?_) (fun V2 d0 p2 y99 f2 => ?_)) rfl ⟨k_X8_fadedShare, il_RL_279, im_X8_fadedShare, is_X8_fadedShare, ii_RX8⟩ 0 rfl hd_X8_fadedShare ⟨by decide, by decide, by omega, by omega, Nat.le_of_ble_eq_true rfl⟩ dL_law_1918
    · refine j1 ?_
      refine ia_fstore (pc := 1921) F (ls' := [(4, ((ia_E0 + 400 : Nat) : Int)), (4, ((0 : Nat) : Int)), (4, ((99 : Nat) : Int)), (4, ((114 : Nat) : Int)), (4, ((115 : Nat) : Int)), (0, (ix : Int)), (0, 0), (2, (ia_fdiv (ia_i2f ((V 100) 18)) (ia_i2f ((V 100) 6)))), (9, 0)]) dL_law_1921 (Nat.le_of_ble_eq_true rfl) rfl rfl ?_
      refine ia_aload_n (pc := 1923) F dL_law_1923 rfl ?_
      refine jV (pc := 1924) F 0 0 (z99 hZ) cls11.1 (c_X8_thrown hZ p2 rfl rfl ?_) rfl ⟨k_X8_thrown, il_RL_138, im_X8_thrown, is_X8_thrown, ii_RX8⟩ 0 rfl hd_X8_thrown ⟨by decide, by decide, by omega, by omega, Nat.le_of_ble_eq_true rfl⟩ dL_law_1924
      refine j1 ?_
      refine ia_iload (pc := 1927) F dL_law_1927 rfl ?_
      refine lq_icmp (pc := 1929) F 1934 dL_law_1929 rfl (by rw [y99]; simp [up]) ?_
      refine ia_iload (pc := 1934) F dL_law_1934 rfl ?_
      refine lq_ifz (pc := 1936) F dL_law_1936 1972 rfl ?_
      refine ia_aload (pc := 1939) F dL_law_1939 rfl ?_
      refine ia_iconst (pc := 1941) F dL_law_1941 ?_
      refine ia_daload (pc := 1942) F 115 0 rfl rfl (z115 hZ).1 (z115 hZ).2.1 (by rw [(z115 hZ).2.2]; decide) ((congrFun (f2 115 (by decide)) 0).trans (ia_u_self _ _ _ _)) dL_law_1942 ?_
      refine ia_fload (pc := 1943) F dL_law_1943 rfl ?_
      refine ia_f2dr (pc := 1945) F dL_law_1945 (fl_f2d (by omega)) ?_
      refine ia_dcmpl (pc := 1946) F dL_law_1946 ?_
      rw [fl_dcf (by omega)]
      refine lq_if0 (pc := 1947) F 1972 dL_law_1947 rfl ?_
      refine ia_goto (pc := 1972) F 2404 dL_law_1972 rfl ?_
      refine jw [false, false, false, false, false, false, true, true, true] rfl ?_
      refine lq_wid (c2 := cells + 30) (s2 := slots + 7000) (by omega) (by omega) ?_
      exact kk _ _ (LvI_keep hJ hj p2 (fun p hp hs => ((f2 p (nsub hp (by decide))).trans (rowN (nne hp (by decide))))) ((f2 100 (by decide)).trans (rowN (by decide))) ((f2 103 (by decide)).trans (rowN (by decide))) (fun z h9 => by rw [y99]; simp only [up, if_neg h9]))
    · exfalso; omega
  · refine j1 ?_
    refine ia_istore (pc := 1915) F (ls' := [(4, ((ia_E0 + 400 : Nat) : Int)), (4, ((0 : Nat) : Int)), (4, ((99 : Nat) : Int)), (4, ((114 : Nat) : Int)), (4, ((115 : Nat) : Int)), (0, (ix : Int)), (0, 1), (9, 0), (9, 0)]) dL_law_1915 (Nat.le_of_ble_eq_true rfl) rfl rfl ?_
    refine ia_aload_n (pc := 1917) F dL_law_1917 rfl ?_
    refine jV (pc := 1918) F 0 0 (z99 hZ) cls11.1 (c_X8_fadedShare hZ hP hB2 rfl rfl (fun V2 d0 p2 y99 f2 => ?_) (fun V2 d0 p2 y99 f2 => ?_)) rfl ⟨k_X8_fadedShare, il_RL_279, im_X8_fadedShare, is_X8_fadedShare, ii_RX8⟩ 0 rfl hd_X8_fadedShare ⟨by decide, by decide, by omega, by omega, Nat.le_of_ble_eq_true rfl⟩ dL_law_1918
    · exfalso; omega
    · refine j1 ?_
      refine ia_fstore (pc := 1921) F (ls' := [(4, ((ia_E0 + 400 : Nat) : Int)), (4, ((0 : Nat) : Int)), (4, ((99 : Nat) : Int)), (4, ((114 : Nat) : Int)), (4, ((115 : Nat) : Int)), (0, (ix : Int)), (0, 1), (2, ((FP.fconst0.toNat : Nat) : Int)), (9, 0)]) dL_law_1921 (Nat.le_of_ble_eq_true rfl) rfl rfl ?_
      refine ia_aload_n (pc := 1923) F dL_law_1923 rfl ?_
      refine jV (pc := 1924) F 0 0 (z99 hZ) cls11.1 (c_X8_thrown hZ p2 rfl rfl ?_) rfl ⟨k_X8_thrown, il_RL_138, im_X8_thrown, is_X8_thrown, ii_RX8⟩ 0 rfl hd_X8_thrown ⟨by decide, by decide, by omega, by omega, Nat.le_of_ble_eq_true rfl⟩ dL_law_1924
      refine j1 ?_
      refine ia_iload (pc := 1927) F dL_law_1927 rfl ?_
      refine lq_icmp (pc := 1929) F 1934 dL_law_1929 rfl (by rw [y99]; simp [up]) ?_
      refine ia_iload (pc := 1934) F dL_law_1934 rfl ?_
      refine lq_ifn (pc := 1936) F 1972 dL_law_1936 rfl (by omega) ?_
      refine ia_goto (pc := 1972) F 2404 dL_law_1972 rfl ?_
      refine jw [false, false, false, false, false, false, true, true, true] rfl ?_
      refine lq_wid (c2 := cells + 30) (s2 := slots + 7000) (by omega) (by omega) ?_
      exact kk _ _ (LvI_keep hJ hj p2 (fun p hp hs => ((f2 p (nsub hp (by decide))).trans rfl)) (f2 100 (by decide)) (f2 103 (by decide)) (fun z h9 => by rw [y99]; simp only [up, if_neg h9]))
