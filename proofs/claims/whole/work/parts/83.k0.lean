/-! x -/
theorem cpy2_72 {σ β f g : Nat → Int} (h : g = cpy (cpy σ β 0 0 72) f 0 0 72) : ∀ z : Nat, z < 72 → g z = σ z := fun z hz => by
  rw [h, cpy_at (by omega), cpy_at (by omega)]
  exact congrArg σ (by omega)
theorem nsub {S T : List Nat} {p : Nat} (hp : p ∉ T) (h : ∀ x, x ∈ S → x ∈ T) : p ∉ S := fun g => hp (h p g)
theorem nne {T : List Nat} {p q : Nat} (hp : p ∉ T) (h : q ∈ T) : p ≠ q := fun e => hp (e ▸ h)
theorem fst_eq {P : Nat → Prop} {j k : Nat} (h1 : ∀ i, i < j → ¬ P i) (h2 : P j) (h3 : ∀ i, i < k → ¬ P i) (h4 : P k) : j = k := by
  rcases Nat.lt_trichotomy j k with g | g | g
  · exact absurd h2 (h3 j g)
  · exact g
  · exact absurd h4 (h1 k g)
theorem ahd_lt {σ : Nat → Int} {k : Nat} : ∀ o : Nat, k < o → ahd σ k o + 1 ≤ (o : Int)
  | 0, h => absurd h (Nat.not_lt_zero _)
  | o + 1, h => by
    by_cases g : k = o
    · subst g
      rw [ahd_n (by omega)]
      have := ahd_rng (σ := σ) (k := k) k
      omega
    · have ih := ahd_lt (σ := σ) (k := k) o (by omega)
      rw [ahd_s]
      split <;> omega
theorem ex_j {t : Nat → Int} {n j k : Nat} {A B σ : Nat → Int} (h1 : ∀ i : Nat, i < j → ¬ opB (tx_K t n i) (A i) (B i) (opN (tx_K t n) A B σ i)) (h2 : ¬ ¬ opB (tx_K t n j) (A j) (B j) (opN (tx_K t n) A B σ j)) (h3 : ∀ i : Nat, i < k → ¬ opB (tx_K t n i) (A i) (B i) (opN (tx_K t n) A B σ i)) (h4 : ¬ ¬ opB (tx_K t n k) (A k) (B k) (opN (tx_K t n) A B σ k)) : j = k := by
  rcases Nat.lt_trichotomy j k with g | g | g
  · exact absurd (h3 j g) h2
  · exact g
  · exact absurd (h1 k g) h4
set_option maxRecDepth 100000 in
set_option maxHeartbeats 2000000 in
set_option linter.constructorNameAsVariable false in
theorem lcs_0 {X : ia_X} {cells slots LX ix jj : Nat} {xs : Nat → Int32} {Z : ia_Z} {V : ia_H} (F : ia_Fix X RL cL_law 9 20 20000 3600000) (hX : LSc X LX xs) (hi : ix + 2 < LX ∧ LX ≤ 1536) (hJ : LvI jj Z V) (hj : jj < 512) (hc : cells + 30 ≤ 20000 ∧ slots + 7000 ≤ 3600000) (kk : ∀ (Z9 : ia_Z) (V9 : ia_H), LvI (jj + 1) Z9 V9 → ia_G X (cells + 30) (slots + 7000) 2404 [(4, ((ia_E0 + 400 : Nat) : Int)), (4, ((0 : Nat) : Int)), (4, ((99 : Nat) : Int)), (4, ((114 : Nat) : Int)), (4, ((115 : Nat) : Int)), (0, (ix : Int)), (9, 0), (9, 0), (9, 0)] [] Z9 V9) : ia_G X cells slots 268 [(4, ((ia_E0 + 400 : Nat) : Int)), (4, ((0 : Nat) : Int)), (4, ((99 : Nat) : Int)), (4, ((114 : Nat) : Int)), (4, ((115 : Nat) : Int)), (0, (ix : Int)), (9, 0), (9, 0), (9, 0)] [] Z V := by
  obtain ⟨⟨hZ, hP, hz, hj2⟩, ⟨hB1, hB2⟩, hC, hD, hE, ⟨nT, qT, lT, hn6, h20, hT⟩, ⟨nU, qU, lU, hn7, h15, hU⟩, hne⟩ := id hJ
  obtain ⟨s0, s1, s2, s3, s4, s5, s6, s7, s18, sb, sw, se, sp⟩ := id hB2
  have hχ := hC.1
  have hd : 0 ≤ V 99 10 ∧ V 99 10 ≤ 8 := by have := hC.2.1; omega
  have hd1 := hC.2.1
  have h7 : (V 100 0).toNat ≤ 7 := by omega
  obtain ⟨c, ea0⟩ : ∃ y : Int, (xs (ix + 1)).toInt = y := ⟨_, rfl⟩
  have ra0 := i32_rng (xs (ix + 1))
  rw [ea0] at ra0
  obtain ⟨u, ea1⟩ : ∃ y : Int, (xs (ix + 2)).toInt = y := ⟨_, rfl⟩
  have ra1 := i32_rng (xs (ix + 2))
  rw [ea1] at ra1
  refine ia_aload_n (pc := 268) F dL_law_268 rfl ?_
  refine ia_aload_n (pc := 269) F dL_law_269 rfl ?_
  refine ia_iload (pc := 270) F dL_law_270 rfl ?_
  refine ia_iconst (pc := 272) F dL_law_272 ?_
  refine ia_iadd (pc := 273) F dL_law_273 ?_
  refine ia_sl (pc := 274) F hX (ix + 1) (by omega) ⟨by omega, hi.2⟩ ea0 dL_law_274 ?_
  refine ia_aload_n (pc := 275) F dL_law_275 rfl ?_
  refine ia_iload (pc := 276) F dL_law_276 rfl ?_
  refine ia_iconst (pc := 278) F dL_law_278 ?_
  refine ia_iadd (pc := 279) F dL_law_279 ?_
  refine ia_sl (pc := 280) F hX (ix + 2) (by omega) ⟨by omega, hi.2⟩ ea1 dL_law_280 ?_
  refine ia_aload_n (pc := 281) F dL_law_281 rfl ?_
  refine jSH (pc := 282) F (h_addInk c u hZ hP hB1 hB2 rfl hχ (by omega) (by omega) (fun V1 c0 p1 f1 x0 => ?_) (fun V1 c0 c1 p1 f1 x0 => ?_) (fun V1 c0 c1 p1 w15 f1 x0 x1 x2 => ?_)) rfl ⟨k_L_addInk, il_RL_132, it_L_addInk, ii_RL⟩ 4 rfl hd_L_addInk ⟨by decide, by decide, by omega, by omega, Nat.le_of_ble_eq_true rfl⟩ dL_law_282
  · refine j1 ?_
    refine ia_istore (pc := 285) F (ls' := [(4, ((ia_E0 + 400 : Nat) : Int)), (4, ((0 : Nat) : Int)), (4, ((99 : Nat) : Int)), (4, ((114 : Nat) : Int)), (4, ((115 : Nat) : Int)), (0, (ix : Int)), (0, 1), (9, 0), (9, 0)]) dL_law_285 (Nat.le_of_ble_eq_true rfl) rfl rfl ?_
    refine ia_aload_n (pc := 287) F dL_law_287 rfl ?_
    refine ia_aload_n (pc := 288) F dL_law_288 rfl ?_
    refine ia_iload (pc := 289) F dL_law_289 rfl ?_
    refine ia_iconst (pc := 291) F dL_law_291 ?_
    refine ia_iadd (pc := 292) F dL_law_292 ?_
    refine ia_sl (pc := 293) F hX (ix + 1) (by omega) ⟨by omega, hi.2⟩ ea0 dL_law_293 ?_
    refine ia_aload_n (pc := 294) F dL_law_294 rfl ?_
    refine ia_iload (pc := 295) F dL_law_295 rfl ?_
    refine ia_iconst (pc := 297) F dL_law_297 ?_
    refine ia_iadd (pc := 298) F dL_law_298 ?_
    refine ia_sl (pc := 299) F hX (ix + 2) (by omega) ⟨by omega, hi.2⟩ ea1 dL_law_299 ?_
    refine jV (pc := 300) F 0 0 (z99 hZ) cls11.1 (c_X8_addInk c u hZ p1 hB2 (f1 99 (by decide)) (f1 100 (by decide)) (f1 101 (by decide)) (f1 103 (by decide)) (by omega) (by omega) hd (fun V2 d0 p2 y99 y100 y101 y103 f2 => ?_) (fun V2 d0 d1 p2 y99 y100 y101 y103 f2 => ?_) (fun V2 d0 d1 p2 y99 y100 y101 y103 f2 => ?_)) rfl ⟨k_X8_addInk, il_RL_137, im_X8_addInk, is_X8_addInk, ii_RX8⟩ 2 rfl hd_X8_addInk ⟨by decide, by decide, by omega, by omega, Nat.le_of_ble_eq_true rfl⟩ dL_law_300
    · refine j1 ?_
      refine ia_istore (pc := 303) F (ls' := [(4, ((ia_E0 + 400 : Nat) : Int)), (4, ((0 : Nat) : Int)), (4, ((99 : Nat) : Int)), (4, ((114 : Nat) : Int)), (4, ((115 : Nat) : Int)), (0, (ix : Int)), (0, 1), (0, 0), (9, 0)]) dL_law_303 (Nat.le_of_ble_eq_true rfl) rfl rfl ?_
      refine ia_aload_n (pc := 305) F dL_law_305 rfl ?_
      refine jV (pc := 306) F 0 0 (z99 hZ) cls11.1 (c_X8_thrown hZ p2 rfl rfl ?_) rfl ⟨k_X8_thrown, il_RL_138, im_X8_thrown, is_X8_thrown, ii_RX8⟩ 0 rfl hd_X8_thrown ⟨by decide, by decide, by omega, by omega, Nat.le_of_ble_eq_true rfl⟩ dL_law_306
      refine j1 ?_
      refine ia_iload (pc := 309) F dL_law_309 rfl ?_
      refine lq_icmp (pc := 311) F 316 dL_law_311 rfl (by rw [y99]; simp [up]) ?_
      refine ia_iload (pc := 316) F dL_law_316 rfl ?_
      refine lq_ifn (pc := 318) F 333 dL_law_318 rfl (by omega) ?_
      refine ia_goto (pc := 333) F 2404 dL_law_333 rfl ?_
      refine jw [false, false, false, false, false, false, true, true, true] rfl ?_
      refine lq_wid (c2 := cells + 30) (s2 := slots + 7000) (by omega) (by omega) ?_
      exact kk _ _ (LvI_keep hJ hj p2 (fun p hp hs => ((f2 p (nsub hp (by decide))).trans (x0 p hs))) y100 y103 (fun z h9 => by rw [y99]; simp only [up, if_neg h9]))
    · exfalso; omega
    · exfalso; omega
  · refine j1 ?_
    refine ia_istore (pc := 285) F (ls' := [(4, ((ia_E0 + 400 : Nat) : Int)), (4, ((0 : Nat) : Int)), (4, ((99 : Nat) : Int)), (4, ((114 : Nat) : Int)), (4, ((115 : Nat) : Int)), (0, (ix : Int)), (0, 2), (9, 0), (9, 0)]) dL_law_285 (Nat.le_of_ble_eq_true rfl) rfl rfl ?_
    refine ia_aload_n (pc := 287) F dL_law_287 rfl ?_
    refine ia_aload_n (pc := 288) F dL_law_288 rfl ?_
    refine ia_iload (pc := 289) F dL_law_289 rfl ?_
    refine ia_iconst (pc := 291) F dL_law_291 ?_
    refine ia_iadd (pc := 292) F dL_law_292 ?_
    refine ia_sl (pc := 293) F hX (ix + 1) (by omega) ⟨by omega, hi.2⟩ ea0 dL_law_293 ?_
    refine ia_aload_n (pc := 294) F dL_law_294 rfl ?_
    refine ia_iload (pc := 295) F dL_law_295 rfl ?_
    refine ia_iconst (pc := 297) F dL_law_297 ?_
    refine ia_iadd (pc := 298) F dL_law_298 ?_
    refine ia_sl (pc := 299) F hX (ix + 2) (by omega) ⟨by omega, hi.2⟩ ea1 dL_law_299 ?_
    refine jV (pc := 300) F 0 0 (z99 hZ) cls11.1 (c_X8_addInk c u hZ p1 hB2 (f1 99 (by decide)) (f1 100 (by decide)) (f1 101 (by decide)) (f1 103 (by decide)) (by omega) (by omega) hd (fun V2 d0 p2 y99 y100 y101 y103 f2 => ?_) (fun V2 d0 d1 p2 y99 y100 y101 y103 f2 => ?_) (fun V2 d0 d1 p2 y99 y100 y101 y103 f2 => ?_)) rfl ⟨k_X8_addInk, il_RL_137, im_X8_addInk, is_X8_addInk, ii_RX8⟩ 2 rfl hd_X8_addInk ⟨by decide, by decide, by omega, by omega, Nat.le_of_ble_eq_true rfl⟩ dL_law_300
    · exfalso; omega
    · refine j1 ?_
      refine ia_istore (pc := 303) F (ls' := [(4, ((ia_E0 + 400 : Nat) : Int)), (4, ((0 : Nat) : Int)), (4, ((99 : Nat) : Int)), (4, ((114 : Nat) : Int)), (4, ((115 : Nat) : Int)), (0, (ix : Int)), (0, 2), (0, 0), (9, 0)]) dL_law_303 (Nat.le_of_ble_eq_true rfl) rfl rfl ?_
      refine ia_aload_n (pc := 305) F dL_law_305 rfl ?_
      refine jV (pc := 306) F 0 0 (z99 hZ) cls11.1 (c_X8_thrown hZ p2 rfl rfl ?_) rfl ⟨k_X8_thrown, il_RL_138, im_X8_thrown, is_X8_thrown, ii_RX8⟩ 0 rfl hd_X8_thrown ⟨by decide, by decide, by omega, by omega, Nat.le_of_ble_eq_true rfl⟩ dL_law_306
      refine j1 ?_
      refine ia_iload (pc := 309) F dL_law_309 rfl ?_
      refine lq_icmp (pc := 311) F 316 dL_law_311 rfl (by rw [y99]; simp [up]) ?_
      refine ia_iload (pc := 316) F dL_law_316 rfl ?_
      refine lq_ifn (pc := 318) F 333 dL_law_318 rfl (by omega) ?_
      refine ia_goto (pc := 333) F 2404 dL_law_333 rfl ?_
      refine jw [false, false, false, false, false, false, true, true, true] rfl ?_
      refine lq_wid (c2 := cells + 30) (s2 := slots + 7000) (by omega) (by omega) ?_
      exact kk _ _ (LvI_keep hJ hj p2 (fun p hp hs => ((f2 p (nsub hp (by decide))).trans (x0 p hs))) y100 y103 (fun z h9 => by rw [y99]; simp only [up, if_neg h9]))
    · exfalso; omega
  · refine j1 ?_
    refine ia_istore (pc := 285) F (ls' := [(4, ((ia_E0 + 400 : Nat) : Int)), (4, ((0 : Nat) : Int)), (4, ((99 : Nat) : Int)), (4, ((114 : Nat) : Int)), (4, ((115 : Nat) : Int)), (0, (ix : Int)), (0, 0), (9, 0), (9, 0)]) dL_law_285 (Nat.le_of_ble_eq_true rfl) rfl rfl ?_
    refine ia_aload_n (pc := 287) F dL_law_287 rfl ?_
    refine ia_aload_n (pc := 288) F dL_law_288 rfl ?_
    refine ia_iload (pc := 289) F dL_law_289 rfl ?_
    refine ia_iconst (pc := 291) F dL_law_291 ?_
    refine ia_iadd (pc := 292) F dL_law_292 ?_
    refine ia_sl (pc := 293) F hX (ix + 1) (by omega) ⟨by omega, hi.2⟩ ea0 dL_law_293 ?_
    refine ia_aload_n (pc := 294) F dL_law_294 rfl ?_
    refine ia_iload (pc := 295) F dL_law_295 rfl ?_
    refine ia_iconst (pc := 297) F dL_law_297 ?_
    refine ia_iadd (pc := 298) F dL_law_298 ?_
    refine ia_sl (pc := 299) F hX (ix + 2) (by omega) ⟨by omega, hi.2⟩ ea1 dL_law_299 ?_
    refine jV (pc := 300) F 0 0 (z99 hZ) cls11.1 (c_X8_addInk c u hZ (PI_u p1 rfl) hB2 ((rowN (by decide)).trans (f1 99 (by decide))) ((rowN (by decide)).trans (f1 100 (by decide))) ((rowN (by decide)).trans (f1 101 (by decide))) ((rowN (by decide)).trans (f1 103 (by decide))) (by omega) (by omega) hd (fun V2 d0 p2 y99 y100 y101 y103 f2 => ?_) (fun V2 d0 d1 p2 y99 y100 y101 y103 f2 => ?_) (fun V2 d0 d1 p2 y99 y100 y101 y103 f2 => ?_)) rfl ⟨k_X8_addInk, il_RL_137, im_X8_addInk, is_X8_addInk, ii_RX8⟩ 2 rfl hd_X8_addInk ⟨by decide, by decide, by omega, by omega, Nat.le_of_ble_eq_true rfl⟩ dL_law_300
    · exfalso; omega
    · exfalso; omega
    · refine j1 ?_
      refine ia_istore (pc := 303) F (ls' := [(4, ((ia_E0 + 400 : Nat) : Int)), (4, ((0 : Nat) : Int)), (4, ((99 : Nat) : Int)), (4, ((114 : Nat) : Int)), (4, ((115 : Nat) : Int)), (0, (ix : Int)), (0, 0), (0, (wel (V 100) c.toNat + u)), (9, 0)]) dL_law_303 (Nat.le_of_ble_eq_true rfl) rfl rfl ?_
      refine ia_aload_n (pc := 305) F dL_law_305 rfl ?_
      refine jV (pc := 306) F 0 0 (z99 hZ) cls11.1 (c_X8_thrown hZ p2 rfl rfl ?_) rfl ⟨k_X8_thrown, il_RL_138, im_X8_thrown, is_X8_thrown, ii_RX8⟩ 0 rfl hd_X8_thrown ⟨by decide, by decide, by omega, by omega, Nat.le_of_ble_eq_true rfl⟩ dL_law_306
      refine j1 ?_
      refine ia_iload (pc := 309) F dL_law_309 rfl ?_
      refine lq_icmp (pc := 311) F 316 dL_law_311 rfl (by rw [y99]; simp [up]) ?_
      refine ia_iload (pc := 316) F dL_law_316 rfl ?_
      refine lq_ifz (pc := 318) F dL_law_318 333 rfl ?_
      refine ia_aload_n (pc := 321) F dL_law_321 rfl ?_
      refine ia_iconst (pc := 322) F dL_law_322 ?_
      refine jal (pc := 323) F (z114 hZ) 0 rfl (by decide) ((congrFun (f2 114 (by decide)) 0).trans (ia_u_self _ _ _ _)) dL_law_323 ?_
      refine ia_iload (pc := 324) F dL_law_324 rfl ?_
      have r9 := sw c.toNat (by omega)
      have e9 : (wel (V 100) c.toNat + u) = (wel (V 100) c.toNat + u) := rfl
      refine ia_i2lr (pc := 326) F dL_law_326 (by omega) ?_
      refine lq_lcmp (pc := 327) F dL_law_327 e9 ?_
      refine lq_if0 (pc := 328) F 333 dL_law_328 rfl ?_
      refine ia_goto (pc := 333) F 2404 dL_law_333 rfl ?_
      refine jw [false, false, false, false, false, false, true, true, true] rfl ?_
      refine lq_wid (c2 := cells + 30) (s2 := slots + 7000) (by omega) (by omega) ?_
      have r9 := sw c.toNat (by omega)
      exact kk _ _ (LvI_mod hJ hj p2 (by rw [y100]; exact Sh_fr (Sh_u x0 (by decide)) f2 (by decide)) (by rw [y100]; exact SI_pour (by omega) c0.2 c1 hB2 (by omega)) ((f2 15 (by decide)).trans ((rowN (by decide)).trans w15)) (Sh_mv x1 (fun p g1 g2 => (f2 p (by simp; omega)).trans (rowN (by omega)))) (by first | exact y103 | rw [y103, up_ne (by decide)]) (by rw [y99, up_self]; try rw [up_ne (by decide)]) (fun z h9 h10 => by rw [y99]; simp only [up, if_neg h9, if_neg h10]) (fun p hp hs => ((f2 p (nsub hp (by decide))).trans ((rowN (nne hp (by decide))).trans (x2 p hs (nsub hp (by decide)))))))
set_option maxRecDepth 100000 in
set_option maxHeartbeats 2000000 in
set_option linter.constructorNameAsVariable false in
theorem lcs_1 {X : ia_X} {cells slots LX ix jj : Nat} {xs : Nat → Int32} {Z : ia_Z} {V : ia_H} (F : ia_Fix X RL cL_law 9 20 20000 3600000) (hX : LSc X LX xs) (hi : ix + 2 < LX ∧ LX ≤ 1536) (hJ : LvI jj Z V) (hj : jj < 512) (hc : cells + 30 ≤ 20000 ∧ slots + 7000 ≤ 3600000) (kk : ∀ (Z9 : ia_Z) (V9 : ia_H), LvI (jj + 1) Z9 V9 → ia_G X (cells + 30) (slots + 7000) 2404 [(4, ((ia_E0 + 400 : Nat) : Int)), (4, ((0 : Nat) : Int)), (4, ((99 : Nat) : Int)), (4, ((114 : Nat) : Int)), (4, ((115 : Nat) : Int)), (0, (ix : Int)), (9, 0), (9, 0), (9, 0)] [] Z9 V9) : ia_G X cells slots 336 [(4, ((ia_E0 + 400 : Nat) : Int)), (4, ((0 : Nat) : Int)), (4, ((99 : Nat) : Int)), (4, ((114 : Nat) : Int)), (4, ((115 : Nat) : Int)), (0, (ix : Int)), (9, 0), (9, 0), (9, 0)] [] Z V := by
  obtain ⟨⟨hZ, hP, hz, hj2⟩, ⟨hB1, hB2⟩, hC, hD, hE, ⟨nT, qT, lT, hn6, h20, hT⟩, ⟨nU, qU, lU, hn7, h15, hU⟩, hne⟩ := id hJ
  obtain ⟨s0, s1, s2, s3, s4, s5, s6, s7, s18, sb, sw, se, sp⟩ := id hB2
  have hχ := hC.1
  have hd : 0 ≤ V 99 10 ∧ V 99 10 ≤ 8 := by have := hC.2.1; omega
  have hd1 := hC.2.1
  have h7 : (V 100 0).toNat ≤ 7 := by omega
  obtain ⟨u, ea0⟩ : ∃ y : Int, (xs (ix + 1)).toInt = y := ⟨_, rfl⟩
  have ra0 := i32_rng (xs (ix + 1))
  rw [ea0] at ra0
  refine ia_aload_n (pc := 336) F dL_law_336 rfl ?_
  refine ia_aload_n (pc := 337) F dL_law_337 rfl ?_
  refine ia_iload (pc := 338) F dL_law_338 rfl ?_
  refine ia_iconst (pc := 340) F dL_law_340 ?_
  refine ia_iadd (pc := 341) F dL_law_341 ?_
  refine ia_sl (pc := 342) F hX (ix + 1) (by omega) ⟨by omega, hi.2⟩ ea0 dL_law_342 ?_
  refine ia_aload_n (pc := 343) F dL_law_343 rfl ?_
  refine jSH (pc := 344) F (h_addPaper u hZ hP hB1 hB2 rfl hχ (by omega) (fun V1 c0 p1 f1 x0 => ?_) (fun V1 c0 c1 p1 f1 x0 => ?_) (fun V1 c0 c1 p1 w15 f1 x0 x1 x2 => ?_)) rfl ⟨k_L_addPaper, il_RL_141, it_L_addPaper, ii_RL⟩ 3 rfl hd_L_addPaper ⟨by decide, by decide, by omega, by omega, Nat.le_of_ble_eq_true rfl⟩ dL_law_344
  · refine j1 ?_
    refine ia_istore (pc := 347) F (ls' := [(4, ((ia_E0 + 400 : Nat) : Int)), (4, ((0 : Nat) : Int)), (4, ((99 : Nat) : Int)), (4, ((114 : Nat) : Int)), (4, ((115 : Nat) : Int)), (0, (ix : Int)), (0, 1), (9, 0), (9, 0)]) dL_law_347 (Nat.le_of_ble_eq_true rfl) rfl rfl ?_
    refine ia_aload_n (pc := 349) F dL_law_349 rfl ?_
    refine ia_aload_n (pc := 350) F dL_law_350 rfl ?_
    refine ia_iload (pc := 351) F dL_law_351 rfl ?_
    refine ia_iconst (pc := 353) F dL_law_353 ?_
    refine ia_iadd (pc := 354) F dL_law_354 ?_
    refine ia_sl (pc := 355) F hX (ix + 1) (by omega) ⟨by omega, hi.2⟩ ea0 dL_law_355 ?_
    refine jV (pc := 356) F 0 0 (z99 hZ) cls11.1 (c_X8_addPaper u hZ p1 hB2 (f1 99 (by decide)) (f1 100 (by decide)) (f1 101 (by decide)) (f1 103 (by decide)) (by omega) hd (fun V2 d0 p2 y99 y100 y101 y103 f2 => ?_) (fun V2 d0 d1 p2 y99 y100 y101 y103 f2 => ?_) (fun V2 d0 d1 p2 y99 y100 y101 y103 f2 => ?_)) rfl ⟨k_X8_addPaper, il_RL_144, im_X8_addPaper, is_X8_addPaper, ii_RX8⟩ 1 rfl hd_X8_addPaper ⟨by decide, by decide, by omega, by omega, Nat.le_of_ble_eq_true rfl⟩ dL_law_356
    · refine j1 ?_
      refine ia_istore (pc := 359) F (ls' := [(4, ((ia_E0 + 400 : Nat) : Int)), (4, ((0 : Nat) : Int)), (4, ((99 : Nat) : Int)), (4, ((114 : Nat) : Int)), (4, ((115 : Nat) : Int)), (0, (ix : Int)), (0, 1), (0, 0), (9, 0)]) dL_law_359 (Nat.le_of_ble_eq_true rfl) rfl rfl ?_
      refine ia_aload_n (pc := 361) F dL_law_361 rfl ?_
      refine jV (pc := 362) F 0 0 (z99 hZ) cls11.1 (c_X8_thrown hZ p2 rfl rfl ?_) rfl ⟨k_X8_thrown, il_RL_138, im_X8_thrown, is_X8_thrown, ii_RX8⟩ 0 rfl hd_X8_thrown ⟨by decide, by decide, by omega, by omega, Nat.le_of_ble_eq_true rfl⟩ dL_law_362
      refine j1 ?_
      refine ia_iload (pc := 365) F dL_law_365 rfl ?_
      refine lq_icmp (pc := 367) F 372 dL_law_367 rfl (by rw [y99]; simp [up]) ?_
      refine ia_iload (pc := 372) F dL_law_372 rfl ?_
      refine lq_ifn (pc := 374) F 389 dL_law_374 rfl (by omega) ?_
      refine ia_goto (pc := 389) F 2404 dL_law_389 rfl ?_
      refine jw [false, false, false, false, false, false, true, true, true] rfl ?_
      refine lq_wid (c2 := cells + 30) (s2 := slots + 7000) (by omega) (by omega) ?_
      exact kk _ _ (LvI_keep hJ hj p2 (fun p hp hs => ((f2 p (nsub hp (by decide))).trans (x0 p hs))) y100 y103 (fun z h9 => by rw [y99]; simp only [up, if_neg h9]))
    · exfalso; omega
    · exfalso; omega
  · refine j1 ?_
    refine ia_istore (pc := 347) F (ls' := [(4, ((ia_E0 + 400 : Nat) : Int)), (4, ((0 : Nat) : Int)), (4, ((99 : Nat) : Int)), (4, ((114 : Nat) : Int)), (4, ((115 : Nat) : Int)), (0, (ix : Int)), (0, 2), (9, 0), (9, 0)]) dL_law_347 (Nat.le_of_ble_eq_true rfl) rfl rfl ?_
    refine ia_aload_n (pc := 349) F dL_law_349 rfl ?_
    refine ia_aload_n (pc := 350) F dL_law_350 rfl ?_
    refine ia_iload (pc := 351) F dL_law_351 rfl ?_
    refine ia_iconst (pc := 353) F dL_law_353 ?_
    refine ia_iadd (pc := 354) F dL_law_354 ?_
    refine ia_sl (pc := 355) F hX (ix + 1) (by omega) ⟨by omega, hi.2⟩ ea0 dL_law_355 ?_
    refine jV (pc := 356) F 0 0 (z99 hZ) cls11.1 (c_X8_addPaper u hZ p1 hB2 (f1 99 (by decide)) (f1 100 (by decide)) (f1 101 (by decide)) (f1 103 (by decide)) (by omega) hd (fun V2 d0 p2 y99 y100 y101 y103 f2 => ?_) (fun V2 d0 d1 p2 y99 y100 y101 y103 f2 => ?_) (fun V2 d0 d1 p2 y99 y100 y101 y103 f2 => ?_)) rfl ⟨k_X8_addPaper, il_RL_144, im_X8_addPaper, is_X8_addPaper, ii_RX8⟩ 1 rfl hd_X8_addPaper ⟨by decide, by decide, by omega, by omega, Nat.le_of_ble_eq_true rfl⟩ dL_law_356
    · exfalso; omega
    · refine j1 ?_
      refine ia_istore (pc := 359) F (ls' := [(4, ((ia_E0 + 400 : Nat) : Int)), (4, ((0 : Nat) : Int)), (4, ((99 : Nat) : Int)), (4, ((114 : Nat) : Int)), (4, ((115 : Nat) : Int)), (0, (ix : Int)), (0, 2), (0, 0), (9, 0)]) dL_law_359 (Nat.le_of_ble_eq_true rfl) rfl rfl ?_
      refine ia_aload_n (pc := 361) F dL_law_361 rfl ?_
      refine jV (pc := 362) F 0 0 (z99 hZ) cls11.1 (c_X8_thrown hZ p2 rfl rfl ?_) rfl ⟨k_X8_thrown, il_RL_138, im_X8_thrown, is_X8_thrown, ii_RX8⟩ 0 rfl hd_X8_thrown ⟨by decide, by decide, by omega, by omega, Nat.le_of_ble_eq_true rfl⟩ dL_law_362
      refine j1 ?_
      refine ia_iload (pc := 365) F dL_law_365 rfl ?_
      refine lq_icmp (pc := 367) F 372 dL_law_367 rfl (by rw [y99]; simp [up]) ?_
      refine ia_iload (pc := 372) F dL_law_372 rfl ?_
      refine lq_ifn (pc := 374) F 389 dL_law_374 rfl (by omega) ?_
      refine ia_goto (pc := 389) F 2404 dL_law_389 rfl ?_
      refine jw [false, false, false, false, false, false, true, true, true] rfl ?_
      refine lq_wid (c2 := cells + 30) (s2 := slots + 7000) (by omega) (by omega) ?_
      exact kk _ _ (LvI_keep hJ hj p2 (fun p hp hs => ((f2 p (nsub hp (by decide))).trans (x0 p hs))) y100 y103 (fun z h9 => by rw [y99]; simp only [up, if_neg h9]))
    · exfalso; omega
  · refine j1 ?_
    refine ia_istore (pc := 347) F (ls' := [(4, ((ia_E0 + 400 : Nat) : Int)), (4, ((0 : Nat) : Int)), (4, ((99 : Nat) : Int)), (4, ((114 : Nat) : Int)), (4, ((115 : Nat) : Int)), (0, (ix : Int)), (0, 0), (9, 0), (9, 0)]) dL_law_347 (Nat.le_of_ble_eq_true rfl) rfl rfl ?_
    refine ia_aload_n (pc := 349) F dL_law_349 rfl ?_
    refine ia_aload_n (pc := 350) F dL_law_350 rfl ?_
    refine ia_iload (pc := 351) F dL_law_351 rfl ?_
    refine ia_iconst (pc := 353) F dL_law_353 ?_
    refine ia_iadd (pc := 354) F dL_law_354 ?_
    refine ia_sl (pc := 355) F hX (ix + 1) (by omega) ⟨by omega, hi.2⟩ ea0 dL_law_355 ?_
    refine jV (pc := 356) F 0 0 (z99 hZ) cls11.1 (c_X8_addPaper u hZ (PI_u p1 rfl) hB2 ((rowN (by decide)).trans (f1 99 (by decide))) ((rowN (by decide)).trans (f1 100 (by decide))) ((rowN (by decide)).trans (f1 101 (by decide))) ((rowN (by decide)).trans (f1 103 (by decide))) (by omega) hd (fun V2 d0 p2 y99 y100 y101 y103 f2 => ?_) (fun V2 d0 d1 p2 y99 y100 y101 y103 f2 => ?_) (fun V2 d0 d1 p2 y99 y100 y101 y103 f2 => ?_)) rfl ⟨k_X8_addPaper, il_RL_144, im_X8_addPaper, is_X8_addPaper, ii_RX8⟩ 1 rfl hd_X8_addPaper ⟨by decide, by decide, by omega, by omega, Nat.le_of_ble_eq_true rfl⟩ dL_law_356
    · exfalso; omega
    · exfalso; omega
    · refine j1 ?_
      refine ia_istore (pc := 359) F (ls' := [(4, ((ia_E0 + 400 : Nat) : Int)), (4, ((0 : Nat) : Int)), (4, ((99 : Nat) : Int)), (4, ((114 : Nat) : Int)), (4, ((115 : Nat) : Int)), (0, (ix : Int)), (0, 0), (0, ((V 100) 2 + u)), (9, 0)]) dL_law_359 (Nat.le_of_ble_eq_true rfl) rfl rfl ?_
      refine ia_aload_n (pc := 361) F dL_law_361 rfl ?_
      refine jV (pc := 362) F 0 0 (z99 hZ) cls11.1 (c_X8_thrown hZ p2 rfl rfl ?_) rfl ⟨k_X8_thrown, il_RL_138, im_X8_thrown, is_X8_thrown, ii_RX8⟩ 0 rfl hd_X8_thrown ⟨by decide, by decide, by omega, by omega, Nat.le_of_ble_eq_true rfl⟩ dL_law_362
      refine j1 ?_
      refine ia_iload (pc := 365) F dL_law_365 rfl ?_
      refine lq_icmp (pc := 367) F 372 dL_law_367 rfl (by rw [y99]; simp [up]) ?_
      refine ia_iload (pc := 372) F dL_law_372 rfl ?_
      refine lq_ifz (pc := 374) F dL_law_374 389 rfl ?_
      refine ia_aload_n (pc := 377) F dL_law_377 rfl ?_
      refine ia_iconst (pc := 378) F dL_law_378 ?_
      refine jal (pc := 379) F (z114 hZ) 0 rfl (by decide) ((congrFun (f2 114 (by decide)) 0).trans (ia_u_self _ _ _ _)) dL_law_379 ?_
      refine ia_iload (pc := 380) F dL_law_380 rfl ?_
      have e9 : ((V 100) 2 + u) = ((V 100) 2 + u) := rfl
      refine ia_i2lr (pc := 382) F dL_law_382 (by omega) ?_
      refine lq_lcmp (pc := 383) F dL_law_383 e9 ?_
      refine lq_if0 (pc := 384) F 389 dL_law_384 rfl ?_
      refine ia_goto (pc := 389) F 2404 dL_law_389 rfl ?_
      refine jw [false, false, false, false, false, false, true, true, true] rfl ?_
      refine lq_wid (c2 := cells + 30) (s2 := slots + 7000) (by omega) (by omega) ?_
      exact kk _ _ (LvI_mod hJ hj p2 (by rw [y100]; exact Sh_fr (Sh_u x0 (by decide)) f2 (by decide)) (by rw [y100]; exact SI_buy c0.1 c1 hB2 (by omega)) ((f2 15 (by decide)).trans ((rowN (by decide)).trans w15)) (Sh_mv x1 (fun p g1 g2 => (f2 p (by simp; omega)).trans (rowN (by omega)))) (by first | exact y103 | rw [y103, up_ne (by decide)]) (by rw [y99, up_self]; try rw [up_ne (by decide)]) (fun z h9 h10 => by rw [y99]; simp only [up, if_neg h9, if_neg h10]) (fun p hp hs => ((f2 p (nsub hp (by decide))).trans ((rowN (nne hp (by decide))).trans (x2 p hs (nsub hp (by decide)))))))
set_option maxRecDepth 100000 in
set_option maxHeartbeats 2000000 in
set_option linter.constructorNameAsVariable false in
theorem lcs_2 {X : ia_X} {cells slots LX ix jj : Nat} {xs : Nat → Int32} {Z : ia_Z} {V : ia_H} (F : ia_Fix X RL cL_law 9 20 20000 3600000) (hX : LSc X LX xs) (hi : ix + 2 < LX ∧ LX ≤ 1536) (hJ : LvI jj Z V) (hj : jj < 512) (hc : cells + 30 ≤ 20000 ∧ slots + 7000 ≤ 3600000) (kk : ∀ (Z9 : ia_Z) (V9 : ia_H), LvI (jj + 1) Z9 V9 → ia_G X (cells + 30) (slots + 7000) 2404 [(4, ((ia_E0 + 400 : Nat) : Int)), (4, ((0 : Nat) : Int)), (4, ((99 : Nat) : Int)), (4, ((114 : Nat) : Int)), (4, ((115 : Nat) : Int)), (0, (ix : Int)), (9, 0), (9, 0), (9, 0)] [] Z9 V9) : ia_G X cells slots 392 [(4, ((ia_E0 + 400 : Nat) : Int)), (4, ((0 : Nat) : Int)), (4, ((99 : Nat) : Int)), (4, ((114 : Nat) : Int)), (4, ((115 : Nat) : Int)), (0, (ix : Int)), (9, 0), (9, 0), (9, 0)] [] Z V := by
  obtain ⟨⟨hZ, hP, hz, hj2⟩, ⟨hB1, hB2⟩, hC, hD, hE, ⟨nT, qT, lT, hn6, h20, hT⟩, ⟨nU, qU, lU, hn7, h15, hU⟩, hne⟩ := id hJ
  obtain ⟨s0, s1, s2, s3, s4, s5, s6, s7, s18, sb, sw, se, sp⟩ := id hB2
  have hχ := hC.1
  have hd : 0 ≤ V 99 10 ∧ V 99 10 ≤ 8 := by have := hC.2.1; omega
  have hd1 := hC.2.1
  have h7 : (V 100 0).toNat ≤ 7 := by omega
  obtain ⟨h, ea0⟩ : ∃ y : Int, (xs (ix + 1)).toInt = y := ⟨_, rfl⟩
  have ra0 := i32_rng (xs (ix + 1))
  rw [ea0] at ra0
  refine ia_aload_n (pc := 392) F dL_law_392 rfl ?_
  refine ia_aload_n (pc := 393) F dL_law_393 rfl ?_
  refine ia_iload (pc := 394) F dL_law_394 rfl ?_
  refine ia_iconst (pc := 396) F dL_law_396 ?_
  refine ia_iadd (pc := 397) F dL_law_397 ?_
  refine ia_sl (pc := 398) F hX (ix + 1) (by omega) ⟨by omega, hi.2⟩ ea0 dL_law_398 ?_
  refine ia_aload_n (pc := 399) F dL_law_399 rfl ?_
  refine jSH (pc := 400) F (h_pass h hZ hP hB1 hB2 rfl hχ (by omega) (fun V1 c0 p1 f1 x0 => ?_) (fun V1 c0 p1 w15 f1 x0 x1 x2 => ?_)) rfl ⟨k_L_pass, il_RL_145, it_L_pass, ii_RL⟩ 3 rfl hd_L_pass ⟨by decide, by decide, by omega, by omega, Nat.le_of_ble_eq_true rfl⟩ dL_law_400
  · refine j1 ?_
    refine ia_istore (pc := 403) F (ls' := [(4, ((ia_E0 + 400 : Nat) : Int)), (4, ((0 : Nat) : Int)), (4, ((99 : Nat) : Int)), (4, ((114 : Nat) : Int)), (4, ((115 : Nat) : Int)), (0, (ix : Int)), (0, 1), (9, 0), (9, 0)]) dL_law_403 (Nat.le_of_ble_eq_true rfl) rfl rfl ?_
    refine ia_aload_n (pc := 405) F dL_law_405 rfl ?_
    refine ia_aload_n (pc := 406) F dL_law_406 rfl ?_
    refine ia_iload (pc := 407) F dL_law_407 rfl ?_
    refine ia_iconst (pc := 409) F dL_law_409 ?_
    refine ia_iadd (pc := 410) F dL_law_410 ?_
    refine ia_sl (pc := 411) F hX (ix + 1) (by omega) ⟨by omega, hi.2⟩ ea0 dL_law_411 ?_
    refine jV (pc := 412) F 0 0 (z99 hZ) cls11.1 (c_X8_pass h hZ p1 hB2 (f1 99 (by decide)) (f1 100 (by decide)) (f1 101 (by decide)) (f1 103 (by decide)) (by omega) hd (fun V2 d0 p2 y99 y100 y101 y103 f2 => ?_) (fun V2 d0 p2 y99 y100 y101 y103 f2 => ?_)) rfl ⟨k_X8_pass, il_RL_147, im_X8_pass, is_X8_pass, ii_RX8⟩ 1 rfl hd_X8_pass ⟨by decide, by decide, by omega, by omega, Nat.le_of_ble_eq_true rfl⟩ dL_law_412
    · exfalso; omega
    · refine j1 ?_
      refine ia_istore (pc := 415) F (ls' := [(4, ((ia_E0 + 400 : Nat) : Int)), (4, ((0 : Nat) : Int)), (4, ((99 : Nat) : Int)), (4, ((114 : Nat) : Int)), (4, ((115 : Nat) : Int)), (0, (ix : Int)), (0, 1), (0, 0), (9, 0)]) dL_law_415 (Nat.le_of_ble_eq_true rfl) rfl rfl ?_
      refine ia_aload_n (pc := 417) F dL_law_417 rfl ?_
      refine jV (pc := 418) F 0 0 (z99 hZ) cls11.1 (c_X8_thrown hZ p2 rfl rfl ?_) rfl ⟨k_X8_thrown, il_RL_138, im_X8_thrown, is_X8_thrown, ii_RX8⟩ 0 rfl hd_X8_thrown ⟨by decide, by decide, by omega, by omega, Nat.le_of_ble_eq_true rfl⟩ dL_law_418
      refine j1 ?_
      refine ia_iload (pc := 421) F dL_law_421 rfl ?_
      refine lq_icmp (pc := 423) F 428 dL_law_423 rfl (by rw [y99]; simp [up]) ?_
      refine ia_iload (pc := 428) F dL_law_428 rfl ?_
      refine lq_ifn (pc := 430) F 445 dL_law_430 rfl (by omega) ?_
      refine ia_goto (pc := 445) F 2404 dL_law_445 rfl ?_
      refine jw [false, false, false, false, false, false, true, true, true] rfl ?_
      refine lq_wid (c2 := cells + 30) (s2 := slots + 7000) (by omega) (by omega) ?_
      exact kk _ _ (LvI_keep hJ hj p2 (fun p hp hs => ((f2 p (nsub hp (by decide))).trans (x0 p hs))) y100 y103 (fun z h9 => by rw [y99]; simp only [up, if_neg h9]))
  · refine j1 ?_
    refine ia_istore (pc := 403) F (ls' := [(4, ((ia_E0 + 400 : Nat) : Int)), (4, ((0 : Nat) : Int)), (4, ((99 : Nat) : Int)), (4, ((114 : Nat) : Int)), (4, ((115 : Nat) : Int)), (0, (ix : Int)), (0, 0), (9, 0), (9, 0)]) dL_law_403 (Nat.le_of_ble_eq_true rfl) rfl rfl ?_
    refine ia_aload_n (pc := 405) F dL_law_405 rfl ?_
    refine ia_aload_n (pc := 406) F dL_law_406 rfl ?_
    refine ia_iload (pc := 407) F dL_law_407 rfl ?_
    refine ia_iconst (pc := 409) F dL_law_409 ?_
    refine ia_iadd (pc := 410) F dL_law_410 ?_
    refine ia_sl (pc := 411) F hX (ix + 1) (by omega) ⟨by omega, hi.2⟩ ea0 dL_law_411 ?_
    refine jV (pc := 412) F 0 0 (z99 hZ) cls11.1 (c_X8_pass h hZ (PI_u p1 rfl) hB2 ((rowN (by decide)).trans (f1 99 (by decide))) ((rowN (by decide)).trans (f1 100 (by decide))) ((rowN (by decide)).trans (f1 101 (by decide))) ((rowN (by decide)).trans (f1 103 (by decide))) (by omega) hd (fun V2 d0 p2 y99 y100 y101 y103 f2 => ?_) (fun V2 d0 p2 y99 y100 y101 y103 f2 => ?_)) rfl ⟨k_X8_pass, il_RL_147, im_X8_pass, is_X8_pass, ii_RX8⟩ 1 rfl hd_X8_pass ⟨by decide, by decide, by omega, by omega, Nat.le_of_ble_eq_true rfl⟩ dL_law_412
    · refine j1 ?_
      refine ia_istore (pc := 415) F (ls' := [(4, ((ia_E0 + 400 : Nat) : Int)), (4, ((0 : Nat) : Int)), (4, ((99 : Nat) : Int)), (4, ((114 : Nat) : Int)), (4, ((115 : Nat) : Int)), (0, (ix : Int)), (0, 0), (0, (lostN (V 100) h.toNat)), (9, 0)]) dL_law_415 (Nat.le_of_ble_eq_true rfl) rfl rfl ?_
      refine ia_aload_n (pc := 417) F dL_law_417 rfl ?_
      refine jV (pc := 418) F 0 0 (z99 hZ) cls11.1 (c_X8_thrown hZ p2 rfl rfl ?_) rfl ⟨k_X8_thrown, il_RL_138, im_X8_thrown, is_X8_thrown, ii_RX8⟩ 0 rfl hd_X8_thrown ⟨by decide, by decide, by omega, by omega, Nat.le_of_ble_eq_true rfl⟩ dL_law_418
      refine j1 ?_
      refine ia_iload (pc := 421) F dL_law_421 rfl ?_
      refine lq_icmp (pc := 423) F 428 dL_law_423 rfl (by rw [y99]; simp [up]) ?_
      refine ia_iload (pc := 428) F dL_law_428 rfl ?_
      refine lq_ifz (pc := 430) F dL_law_430 445 rfl ?_
      refine ia_aload_n (pc := 433) F dL_law_433 rfl ?_
      refine ia_iconst (pc := 434) F dL_law_434 ?_
      refine jal (pc := 435) F (z114 hZ) 0 rfl (by decide) ((congrFun (f2 114 (by decide)) 0).trans (ia_u_self _ _ _ _)) dL_law_435 ?_
      refine ia_iload (pc := 436) F dL_law_436 rfl ?_
      have r9 := lostN_rng sw h.toNat
      have e9 : (lostN (V 100) h.toNat) = (lostN (V 100) h.toNat) := rfl
      refine ia_i2lr (pc := 438) F dL_law_438 (by omega) ?_
      refine lq_lcmp (pc := 439) F dL_law_439 e9 ?_
      refine lq_if0 (pc := 440) F 445 dL_law_440 rfl ?_
      refine ia_goto (pc := 445) F 2404 dL_law_445 rfl ?_
      refine jw [false, false, false, false, false, false, true, true, true] rfl ?_
      refine lq_wid (c2 := cells + 30) (s2 := slots + 7000) (by omega) (by omega) ?_
      have r9 := lostN_rng sw h.toNat
      exact kk _ _ (LvI_mod hJ hj p2 (by rw [y100]; exact Sh_fr (Sh_u x0 (by decide)) f2 (by decide)) (by rw [y100]; exact SI_pass (by omega) hB2 (by omega)) ((f2 15 (by decide)).trans ((rowN (by decide)).trans w15)) (Sh_mv x1 (fun p g1 g2 => (f2 p (by simp; omega)).trans (rowN (by omega)))) (by first | exact y103 | rw [y103, up_ne (by decide)]) (by rw [y99, up_self]; try rw [up_ne (by decide)]) (fun z h9 h10 => by rw [y99]; simp only [up, if_neg h9, if_neg h10]) (fun p hp hs => ((f2 p (nsub hp (by decide))).trans ((rowN (nne hp (by decide))).trans (x2 p hs (nsub hp (by decide)))))))
    · exfalso; omega
set_option maxRecDepth 100000 in
set_option maxHeartbeats 2000000 in
set_option linter.constructorNameAsVariable false in
theorem lcs_3 {X : ia_X} {cells slots LX ix jj : Nat} {xs : Nat → Int32} {Z : ia_Z} {V : ia_H} (F : ia_Fix X RL cL_law 9 20 20000 3600000) (hX : LSc X LX xs) (hi : ix + 2 < LX ∧ LX ≤ 1536) (hJ : LvI jj Z V) (hj : jj < 512) (hc : cells + 30 ≤ 20000 ∧ slots + 7000 ≤ 3600000) (kk : ∀ (Z9 : ia_Z) (V9 : ia_H), LvI (jj + 1) Z9 V9 → ia_G X (cells + 30) (slots + 7000) 2404 [(4, ((ia_E0 + 400 : Nat) : Int)), (4, ((0 : Nat) : Int)), (4, ((99 : Nat) : Int)), (4, ((114 : Nat) : Int)), (4, ((115 : Nat) : Int)), (0, (ix : Int)), (9, 0), (9, 0), (9, 0)] [] Z9 V9) : ia_G X cells slots 448 [(4, ((ia_E0 + 400 : Nat) : Int)), (4, ((0 : Nat) : Int)), (4, ((99 : Nat) : Int)), (4, ((114 : Nat) : Int)), (4, ((115 : Nat) : Int)), (0, (ix : Int)), (9, 0), (9, 0), (9, 0)] [] Z V := by
  obtain ⟨⟨hZ, hP, hz, hj2⟩, ⟨hB1, hB2⟩, hC, hD, hE, ⟨nT, qT, lT, hn6, h20, hT⟩, ⟨nU, qU, lU, hn7, h15, hU⟩, hne⟩ := id hJ
  obtain ⟨s0, s1, s2, s3, s4, s5, s6, s7, s18, sb, sw, se, sp⟩ := id hB2
  have hχ := hC.1
  have hd : 0 ≤ V 99 10 ∧ V 99 10 ≤ 8 := by have := hC.2.1; omega
  have hd1 := hC.2.1
  have h7 : (V 100 0).toNat ≤ 7 := by omega
  obtain ⟨c, ea0⟩ : ∃ y : Int, (xs (ix + 1)).toInt = y := ⟨_, rfl⟩
  have ra0 := i32_rng (xs (ix + 1))
  rw [ea0] at ra0
  refine ia_aload_n (pc := 448) F dL_law_448 rfl ?_
  refine ia_aload_n (pc := 449) F dL_law_449 rfl ?_
  refine ia_iload (pc := 450) F dL_law_450 rfl ?_
  refine ia_iconst (pc := 452) F dL_law_452 ?_
  refine ia_iadd (pc := 453) F dL_law_453 ?_
  refine ia_sl (pc := 454) F hX (ix + 1) (by omega) ⟨by omega, hi.2⟩ ea0 dL_law_454 ?_
  refine ia_aload_n (pc := 455) F dL_law_455 rfl ?_
  refine jSH (pc := 456) F (h_ink c hZ hP hB1 hB2 (by omega) (fun c0 => ?_) (fun c0 => ?_)) rfl ⟨k_L_ink, il_RL_148, it_L_ink, ii_RL⟩ 3 rfl hd_L_ink ⟨by decide, by decide, by omega, by omega, Nat.le_of_ble_eq_true rfl⟩ dL_law_456
  · refine j1 ?_
    refine ia_istore (pc := 459) F (ls' := [(4, ((ia_E0 + 400 : Nat) : Int)), (4, ((0 : Nat) : Int)), (4, ((99 : Nat) : Int)), (4, ((114 : Nat) : Int)), (4, ((115 : Nat) : Int)), (0, (ix : Int)), (0, 0), (9, 0), (9, 0)]) dL_law_459 (Nat.le_of_ble_eq_true rfl) rfl rfl ?_
    refine ia_aload_n (pc := 461) F dL_law_461 rfl ?_
    refine ia_aload_n (pc := 462) F dL_law_462 rfl ?_
    refine ia_iload (pc := 463) F dL_law_463 rfl ?_
    refine ia_iconst (pc := 465) F dL_law_465 ?_
    refine ia_iadd (pc := 466) F dL_law_466 ?_
    refine ia_sl (pc := 467) F hX (ix + 1) (by omega) ⟨by omega, hi.2⟩ ea0 dL_law_467 ?_
    refine jV (pc := 468) F 0 0 (z99 hZ) cls11.1 (c_X8_ink c hZ (PI_u hP rfl) hB2 (rowN (by decide)) (rowN (by decide)) (by omega) (fun V2 d0 p2 y99 f2 => ?_) (fun V2 d0 p2 y99 f2 => ?_)) rfl ⟨k_X8_ink, il_RL_150, im_X8_ink, is_X8_ink, ii_RX8⟩ 1 rfl hd_X8_ink ⟨by decide, by decide, by omega, by omega, Nat.le_of_ble_eq_true rfl⟩ dL_law_468
    · refine j1 ?_
      refine ia_istore (pc := 471) F (ls' := [(4, ((ia_E0 + 400 : Nat) : Int)), (4, ((0 : Nat) : Int)), (4, ((99 : Nat) : Int)), (4, ((114 : Nat) : Int)), (4, ((115 : Nat) : Int)), (0, (ix : Int)), (0, 0), (0, wel (V 100) c.toNat), (9, 0)]) dL_law_471 (Nat.le_of_ble_eq_true rfl) rfl rfl ?_
      refine ia_aload_n (pc := 473) F dL_law_473 rfl ?_
      refine jV (pc := 474) F 0 0 (z99 hZ) cls11.1 (c_X8_thrown hZ p2 rfl rfl ?_) rfl ⟨k_X8_thrown, il_RL_138, im_X8_thrown, is_X8_thrown, ii_RX8⟩ 0 rfl hd_X8_thrown ⟨by decide, by decide, by omega, by omega, Nat.le_of_ble_eq_true rfl⟩ dL_law_474
      refine j1 ?_
      refine ia_iload (pc := 477) F dL_law_477 rfl ?_
      refine lq_icmp (pc := 479) F 484 dL_law_479 rfl (by rw [y99]; simp [up]) ?_
      refine ia_iload (pc := 484) F dL_law_484 rfl ?_
      refine lq_ifz (pc := 486) F dL_law_486 501 rfl ?_
      refine ia_aload_n (pc := 489) F dL_law_489 rfl ?_
      refine ia_iconst (pc := 490) F dL_law_490 ?_
      refine jal (pc := 491) F (z114 hZ) 0 rfl (by decide) ((congrFun (f2 114 (by decide)) 0).trans (ia_u_self _ _ _ _)) dL_law_491 ?_
      refine ia_iload (pc := 492) F dL_law_492 rfl ?_
      have r9 := sw c.toNat (by omega)
      have e9 : (wel (V 100) c.toNat) = (wel (V 100) c.toNat) := rfl
      refine ia_i2lr (pc := 494) F dL_law_494 (by omega) ?_
      refine lq_lcmp (pc := 495) F dL_law_495 e9 ?_
      refine lq_if0 (pc := 496) F 501 dL_law_496 rfl ?_
      refine ia_goto (pc := 501) F 2404 dL_law_501 rfl ?_
      refine jw [false, false, false, false, false, false, true, true, true] rfl ?_
      refine lq_wid (c2 := cells + 30) (s2 := slots + 7000) (by omega) (by omega) ?_
      exact kk _ _ (LvI_keep hJ hj p2 (fun p hp hs => ((f2 p (nsub hp (by decide))).trans (rowN (nne hp (by decide))))) ((f2 100 (by decide)).trans (rowN (by decide))) ((f2 103 (by decide)).trans (rowN (by decide))) (fun z h9 => by rw [y99]; simp only [up, if_neg h9]))
    · exfalso; omega
  · refine j1 ?_
    refine ia_istore (pc := 459) F (ls' := [(4, ((ia_E0 + 400 : Nat) : Int)), (4, ((0 : Nat) : Int)), (4, ((99 : Nat) : Int)), (4, ((114 : Nat) : Int)), (4, ((115 : Nat) : Int)), (0, (ix : Int)), (0, 1), (9, 0), (9, 0)]) dL_law_459 (Nat.le_of_ble_eq_true rfl) rfl rfl ?_
    refine ia_aload_n (pc := 461) F dL_law_461 rfl ?_
    refine ia_aload_n (pc := 462) F dL_law_462 rfl ?_
    refine ia_iload (pc := 463) F dL_law_463 rfl ?_
    refine ia_iconst (pc := 465) F dL_law_465 ?_
    refine ia_iadd (pc := 466) F dL_law_466 ?_
    refine ia_sl (pc := 467) F hX (ix + 1) (by omega) ⟨by omega, hi.2⟩ ea0 dL_law_467 ?_
    refine jV (pc := 468) F 0 0 (z99 hZ) cls11.1 (c_X8_ink c hZ hP hB2 rfl rfl (by omega) (fun V2 d0 p2 y99 f2 => ?_) (fun V2 d0 p2 y99 f2 => ?_)) rfl ⟨k_X8_ink, il_RL_150, im_X8_ink, is_X8_ink, ii_RX8⟩ 1 rfl hd_X8_ink ⟨by decide, by decide, by omega, by omega, Nat.le_of_ble_eq_true rfl⟩ dL_law_468
    · exfalso; omega
    · refine j1 ?_
      refine ia_istore (pc := 471) F (ls' := [(4, ((ia_E0 + 400 : Nat) : Int)), (4, ((0 : Nat) : Int)), (4, ((99 : Nat) : Int)), (4, ((114 : Nat) : Int)), (4, ((115 : Nat) : Int)), (0, (ix : Int)), (0, 1), (0, 0), (9, 0)]) dL_law_471 (Nat.le_of_ble_eq_true rfl) rfl rfl ?_
      refine ia_aload_n (pc := 473) F dL_law_473 rfl ?_
      refine jV (pc := 474) F 0 0 (z99 hZ) cls11.1 (c_X8_thrown hZ p2 rfl rfl ?_) rfl ⟨k_X8_thrown, il_RL_138, im_X8_thrown, is_X8_thrown, ii_RX8⟩ 0 rfl hd_X8_thrown ⟨by decide, by decide, by omega, by omega, Nat.le_of_ble_eq_true rfl⟩ dL_law_474
      refine j1 ?_
      refine ia_iload (pc := 477) F dL_law_477 rfl ?_
      refine lq_icmp (pc := 479) F 484 dL_law_479 rfl (by rw [y99]; simp [up]) ?_
      refine ia_iload (pc := 484) F dL_law_484 rfl ?_
      refine lq_ifn (pc := 486) F 501 dL_law_486 rfl (by omega) ?_
      refine ia_goto (pc := 501) F 2404 dL_law_501 rfl ?_
      refine jw [false, false, false, false, false, false, true, true, true] rfl ?_
      refine lq_wid (c2 := cells + 30) (s2 := slots + 7000) (by omega) (by omega) ?_
      exact kk _ _ (LvI_keep hJ hj p2 (fun p hp hs => ((f2 p (nsub hp (by decide))).trans rfl)) (f2 100 (by decide)) (f2 103 (by decide)) (fun z h9 => by rw [y99]; simp only [up, if_neg h9]))
set_option maxRecDepth 100000 in
set_option maxHeartbeats 2000000 in
set_option linter.constructorNameAsVariable false in
theorem lcs_4 {X : ia_X} {cells slots LX ix jj : Nat} {xs : Nat → Int32} {Z : ia_Z} {V : ia_H} (F : ia_Fix X RL cL_law 9 20 20000 3600000) (hX : LSc X LX xs) (hi : ix + 2 < LX ∧ LX ≤ 1536) (hJ : LvI jj Z V) (hj : jj < 512) (hc : cells + 30 ≤ 20000 ∧ slots + 7000 ≤ 3600000) (kk : ∀ (Z9 : ia_Z) (V9 : ia_H), LvI (jj + 1) Z9 V9 → ia_G X (cells + 30) (slots + 7000) 2404 [(4, ((ia_E0 + 400 : Nat) : Int)), (4, ((0 : Nat) : Int)), (4, ((99 : Nat) : Int)), (4, ((114 : Nat) : Int)), (4, ((115 : Nat) : Int)), (0, (ix : Int)), (9, 0), (9, 0), (9, 0)] [] Z9 V9) : ia_G X cells slots 504 [(4, ((ia_E0 + 400 : Nat) : Int)), (4, ((0 : Nat) : Int)), (4, ((99 : Nat) : Int)), (4, ((114 : Nat) : Int)), (4, ((115 : Nat) : Int)), (0, (ix : Int)), (9, 0), (9, 0), (9, 0)] [] Z V := by
  obtain ⟨⟨hZ, hP, hz, hj2⟩, ⟨hB1, hB2⟩, hC, hD, hE, ⟨nT, qT, lT, hn6, h20, hT⟩, ⟨nU, qU, lU, hn7, h15, hU⟩, hne⟩ := id hJ
  obtain ⟨s0, s1, s2, s3, s4, s5, s6, s7, s18, sb, sw, se, sp⟩ := id hB2
  have hχ := hC.1
  have hd : 0 ≤ V 99 10 ∧ V 99 10 ≤ 8 := by have := hC.2.1; omega
  have hd1 := hC.2.1
  have h7 : (V 100 0).toNat ≤ 7 := by omega
  refine ia_aload_n (pc := 504) F dL_law_504 rfl ?_
  refine jV (pc := 505) F 0 0 (z0 hZ) cls10.1 (c_X7_paper hZ hP hB1 hB2 ?_) rfl ⟨k_X7_paper, il_RL_151, im_X7_paper, is_X7_paper, ii_RX7⟩ 0 rfl hd_X7_paper ⟨by decide, by decide, by omega, by omega, Nat.le_of_ble_eq_true rfl⟩ dL_law_505
  refine j1 ?_
  refine ia_aload_n (pc := 508) F dL_law_508 rfl ?_
  refine jV (pc := 509) F 0 0 (z99 hZ) cls11.1 (c_X8_paper hZ hP hB2 rfl rfl (fun V2 p2 y99 f2 => ?_)) rfl ⟨k_X8_paper, il_RL_154, im_X8_paper, is_X8_paper, ii_RX8⟩ 0 rfl hd_X8_paper ⟨by decide, by decide, by omega, by omega, Nat.le_of_ble_eq_true rfl⟩ dL_law_509
  refine j1 ?_
  refine lq_icmp (pc := 512) F 2404 dL_law_512 rfl rfl ?_
  refine jw [false, false, false, false, false, false, true, true, true] rfl ?_
  refine lq_wid (c2 := cells + 30) (s2 := slots + 7000) (by omega) (by omega) ?_
  exact kk _ _ (LvI_keep hJ hj p2 (fun p hp hs => ((f2 p (nsub hp (by decide))).trans rfl)) (f2 100 (by decide)) (f2 103 (by decide)) (fun z h9 => by rw [y99]; simp only [up, if_neg h9]))
set_option maxRecDepth 100000 in
set_option maxHeartbeats 2000000 in
set_option linter.constructorNameAsVariable false in
theorem lcs_5 {X : ia_X} {cells slots LX ix jj : Nat} {xs : Nat → Int32} {Z : ia_Z} {V : ia_H} (F : ia_Fix X RL cL_law 9 20 20000 3600000) (hX : LSc X LX xs) (hi : ix + 2 < LX ∧ LX ≤ 1536) (hJ : LvI jj Z V) (hj : jj < 512) (hc : cells + 30 ≤ 20000 ∧ slots + 7000 ≤ 3600000) (kk : ∀ (Z9 : ia_Z) (V9 : ia_H), LvI (jj + 1) Z9 V9 → ia_G X (cells + 30) (slots + 7000) 2404 [(4, ((ia_E0 + 400 : Nat) : Int)), (4, ((0 : Nat) : Int)), (4, ((99 : Nat) : Int)), (4, ((114 : Nat) : Int)), (4, ((115 : Nat) : Int)), (0, (ix : Int)), (9, 0), (9, 0), (9, 0)] [] Z9 V9) : ia_G X cells slots 517 [(4, ((ia_E0 + 400 : Nat) : Int)), (4, ((0 : Nat) : Int)), (4, ((99 : Nat) : Int)), (4, ((114 : Nat) : Int)), (4, ((115 : Nat) : Int)), (0, (ix : Int)), (9, 0), (9, 0), (9, 0)] [] Z V := by
  obtain ⟨⟨hZ, hP, hz, hj2⟩, ⟨hB1, hB2⟩, hC, hD, hE, ⟨nT, qT, lT, hn6, h20, hT⟩, ⟨nU, qU, lU, hn7, h15, hU⟩, hne⟩ := id hJ
  obtain ⟨s0, s1, s2, s3, s4, s5, s6, s7, s18, sb, sw, se, sp⟩ := id hB2
  have hχ := hC.1
  have hd : 0 ≤ V 99 10 ∧ V 99 10 ≤ 8 := by have := hC.2.1; omega
  have hd1 := hC.2.1
  have h7 : (V 100 0).toNat ≤ 7 := by omega
  refine ia_aload_n (pc := 517) F dL_law_517 rfl ?_
  refine jV (pc := 518) F 0 0 (z0 hZ) cls10.1 (c_X7_hour hZ hP hB1 hB2 ?_) rfl ⟨k_X7_hour, il_RL_155, im_X7_hour, is_X7_hour, ii_RX7⟩ 0 rfl hd_X7_hour ⟨by decide, by decide, by omega, by omega, Nat.le_of_ble_eq_true rfl⟩ dL_law_518
  refine j1 ?_
  refine ia_aload_n (pc := 521) F dL_law_521 rfl ?_
  refine jV (pc := 522) F 0 0 (z99 hZ) cls11.1 (c_X8_hour hZ hP hB2 rfl rfl (fun V2 p2 y99 f2 => ?_)) rfl ⟨k_X8_hour, il_RL_158, im_X8_hour, is_X8_hour, ii_RX8⟩ 0 rfl hd_X8_hour ⟨by decide, by decide, by omega, by omega, Nat.le_of_ble_eq_true rfl⟩ dL_law_522
  refine j1 ?_
  refine lq_icmp (pc := 525) F 2404 dL_law_525 rfl rfl ?_
  refine jw [false, false, false, false, false, false, true, true, true] rfl ?_
  refine lq_wid (c2 := cells + 30) (s2 := slots + 7000) (by omega) (by omega) ?_
  exact kk _ _ (LvI_keep hJ hj p2 (fun p hp hs => ((f2 p (nsub hp (by decide))).trans rfl)) (f2 100 (by decide)) (f2 103 (by decide)) (fun z h9 => by rw [y99]; simp only [up, if_neg h9]))
set_option maxRecDepth 100000 in
set_option maxHeartbeats 2000000 in
set_option linter.constructorNameAsVariable false in
theorem lcs_6 {X : ia_X} {cells slots LX ix jj : Nat} {xs : Nat → Int32} {Z : ia_Z} {V : ia_H} (F : ia_Fix X RL cL_law 9 20 20000 3600000) (hX : LSc X LX xs) (hi : ix + 2 < LX ∧ LX ≤ 1536) (hJ : LvI jj Z V) (hj : jj < 512) (hc : cells + 30 ≤ 20000 ∧ slots + 7000 ≤ 3600000) (kk : ∀ (Z9 : ia_Z) (V9 : ia_H), LvI (jj + 1) Z9 V9 → ia_G X (cells + 30) (slots + 7000) 2404 [(4, ((ia_E0 + 400 : Nat) : Int)), (4, ((0 : Nat) : Int)), (4, ((99 : Nat) : Int)), (4, ((114 : Nat) : Int)), (4, ((115 : Nat) : Int)), (0, (ix : Int)), (9, 0), (9, 0), (9, 0)] [] Z9 V9) : ia_G X cells slots 530 [(4, ((ia_E0 + 400 : Nat) : Int)), (4, ((0 : Nat) : Int)), (4, ((99 : Nat) : Int)), (4, ((114 : Nat) : Int)), (4, ((115 : Nat) : Int)), (0, (ix : Int)), (9, 0), (9, 0), (9, 0)] [] Z V := by
  obtain ⟨⟨hZ, hP, hz, hj2⟩, ⟨hB1, hB2⟩, hC, hD, hE, ⟨nT, qT, lT, hn6, h20, hT⟩, ⟨nU, qU, lU, hn7, h15, hU⟩, hne⟩ := id hJ
  obtain ⟨s0, s1, s2, s3, s4, s5, s6, s7, s18, sb, sw, se, sp⟩ := id hB2
  have hχ := hC.1
  have hd : 0 ≤ V 99 10 ∧ V 99 10 ≤ 8 := by have := hC.2.1; omega
  have hd1 := hC.2.1
  have h7 : (V 100 0).toNat ≤ 7 := by omega
  obtain ⟨c, ea0⟩ : ∃ y : Int, (xs (ix + 1)).toInt = y := ⟨_, rfl⟩
  have ra0 := i32_rng (xs (ix + 1))
  rw [ea0] at ra0
  obtain ⟨h, ea1⟩ : ∃ y : Int, (xs (ix + 2)).toInt = y := ⟨_, rfl⟩
  have ra1 := i32_rng (xs (ix + 2))
  rw [ea1] at ra1
  refine ia_aload_n (pc := 530) F dL_law_530 rfl ?_
  refine ia_aload_n (pc := 531) F dL_law_531 rfl ?_
  refine ia_iload (pc := 532) F dL_law_532 rfl ?_
  refine ia_iconst (pc := 534) F dL_law_534 ?_
  refine ia_iadd (pc := 535) F dL_law_535 ?_
  refine ia_sl (pc := 536) F hX (ix + 1) (by omega) ⟨by omega, hi.2⟩ ea0 dL_law_536 ?_
  refine ia_aload_n (pc := 537) F dL_law_537 rfl ?_
  refine ia_iload (pc := 538) F dL_law_538 rfl ?_
  refine ia_iconst (pc := 540) F dL_law_540 ?_
  refine ia_iadd (pc := 541) F dL_law_541 ?_
  refine ia_sl (pc := 542) F hX (ix + 2) (by omega) ⟨by omega, hi.2⟩ ea1 dL_law_542 ?_
  refine ia_aload_n (pc := 543) F dL_law_543 rfl ?_
  refine jSH (pc := 544) F (h_inkAfter c h hZ hP hB1 hB2 (by omega) (by omega) (fun c0 => ?_) (fun c0 => ?_)) rfl ⟨k_L_inkAfter, il_RL_159, it_L_inkAfter, ii_RL⟩ 4 rfl hd_L_inkAfter ⟨by decide, by decide, by omega, by omega, Nat.le_of_ble_eq_true rfl⟩ dL_law_544
  · refine j1 ?_
    refine ia_istore (pc := 547) F (ls' := [(4, ((ia_E0 + 400 : Nat) : Int)), (4, ((0 : Nat) : Int)), (4, ((99 : Nat) : Int)), (4, ((114 : Nat) : Int)), (4, ((115 : Nat) : Int)), (0, (ix : Int)), (0, 0), (9, 0), (9, 0)]) dL_law_547 (Nat.le_of_ble_eq_true rfl) rfl rfl ?_
    refine ia_aload_n (pc := 549) F dL_law_549 rfl ?_
    refine ia_aload_n (pc := 550) F dL_law_550 rfl ?_
    refine ia_iload (pc := 551) F dL_law_551 rfl ?_
    refine ia_iconst (pc := 553) F dL_law_553 ?_
    refine ia_iadd (pc := 554) F dL_law_554 ?_
    refine ia_sl (pc := 555) F hX (ix + 1) (by omega) ⟨by omega, hi.2⟩ ea0 dL_law_555 ?_
    refine ia_aload_n (pc := 556) F dL_law_556 rfl ?_
    refine ia_iload (pc := 557) F dL_law_557 rfl ?_
    refine ia_iconst (pc := 559) F dL_law_559 ?_
    refine ia_iadd (pc := 560) F dL_law_560 ?_
    refine ia_sl (pc := 561) F hX (ix + 2) (by omega) ⟨by omega, hi.2⟩ ea1 dL_law_561 ?_
    refine jV (pc := 562) F 0 0 (z99 hZ) cls11.1 (c_X8_inkAfter c h hZ (PI_u hP rfl) hB2 (rowN (by decide)) (rowN (by decide)) (by omega) (by omega) (fun V2 d0 d1 p2 y99 f2 => ?_) (fun V2 d0 d1 p2 y99 f2 => ?_) (fun V2 d0 p2 y99 f2 => ?_)) rfl ⟨k_X8_inkAfter, il_RL_161, im_X8_inkAfter, is_X8_inkAfter, ii_RX8⟩ 2 rfl hd_X8_inkAfter ⟨by decide, by decide, by omega, by omega, Nat.le_of_ble_eq_true rfl⟩ dL_law_562
    · refine j1 ?_
      refine ia_istore (pc := 565) F (ls' := [(4, ((ia_E0 + 400 : Nat) : Int)), (4, ((0 : Nat) : Int)), (4, ((99 : Nat) : Int)), (4, ((114 : Nat) : Int)), (4, ((115 : Nat) : Int)), (0, (ix : Int)), (0, 0), (0, (la (V 100) c.toNat h.toNat)), (9, 0)]) dL_law_565 (Nat.le_of_ble_eq_true rfl) rfl rfl ?_
      refine ia_aload_n (pc := 567) F dL_law_567 rfl ?_
      refine jV (pc := 568) F 0 0 (z99 hZ) cls11.1 (c_X8_thrown hZ p2 rfl rfl ?_) rfl ⟨k_X8_thrown, il_RL_138, im_X8_thrown, is_X8_thrown, ii_RX8⟩ 0 rfl hd_X8_thrown ⟨by decide, by decide, by omega, by omega, Nat.le_of_ble_eq_true rfl⟩ dL_law_568
      refine j1 ?_
      refine ia_iload (pc := 571) F dL_law_571 rfl ?_
      refine lq_icmp (pc := 573) F 578 dL_law_573 rfl (by rw [y99]; simp [up]) ?_
      refine ia_iload (pc := 578) F dL_law_578 rfl ?_
      refine lq_ifz (pc := 580) F dL_law_580 595 rfl ?_
      refine ia_aload_n (pc := 583) F dL_law_583 rfl ?_
      refine ia_iconst (pc := 584) F dL_law_584 ?_
      refine jal (pc := 585) F (z114 hZ) 0 rfl (by decide) ((congrFun (f2 114 (by decide)) 0).trans (ia_u_self _ _ _ _)) dL_law_585 ?_
      refine ia_iload (pc := 586) F dL_law_586 rfl ?_
      have r9 := la_rng (sw c.toNat (by omega)) h.toNat
      have e9 : (la (V 100) c.toNat h.toNat) = (la (V 100) c.toNat h.toNat) := rfl
      refine ia_i2lr (pc := 588) F dL_law_588 (by omega) ?_
      refine lq_lcmp (pc := 589) F dL_law_589 e9 ?_
      refine lq_if0 (pc := 590) F 595 dL_law_590 rfl ?_
      refine ia_goto (pc := 595) F 2404 dL_law_595 rfl ?_
      refine jw [false, false, false, false, false, false, true, true, true] rfl ?_
      refine lq_wid (c2 := cells + 30) (s2 := slots + 7000) (by omega) (by omega) ?_
      exact kk _ _ (LvI_keep hJ hj p2 (fun p hp hs => ((f2 p (nsub hp (by decide))).trans (rowN (nne hp (by decide))))) ((f2 100 (by decide)).trans (rowN (by decide))) ((f2 103 (by decide)).trans (rowN (by decide))) (fun z h9 => by rw [y99]; simp only [up, if_neg h9]))
    · exfalso; omega
    · exfalso; omega
  · refine j1 ?_
    refine ia_istore (pc := 547) F (ls' := [(4, ((ia_E0 + 400 : Nat) : Int)), (4, ((0 : Nat) : Int)), (4, ((99 : Nat) : Int)), (4, ((114 : Nat) : Int)), (4, ((115 : Nat) : Int)), (0, (ix : Int)), (0, 1), (9, 0), (9, 0)]) dL_law_547 (Nat.le_of_ble_eq_true rfl) rfl rfl ?_
    refine ia_aload_n (pc := 549) F dL_law_549 rfl ?_
    refine ia_aload_n (pc := 550) F dL_law_550 rfl ?_
    refine ia_iload (pc := 551) F dL_law_551 rfl ?_
    refine ia_iconst (pc := 553) F dL_law_553 ?_
    refine ia_iadd (pc := 554) F dL_law_554 ?_
    refine ia_sl (pc := 555) F hX (ix + 1) (by omega) ⟨by omega, hi.2⟩ ea0 dL_law_555 ?_
    refine ia_aload_n (pc := 556) F dL_law_556 rfl ?_
    refine ia_iload (pc := 557) F dL_law_557 rfl ?_
    refine ia_iconst (pc := 559) F dL_law_559 ?_
    refine ia_iadd (pc := 560) F dL_law_560 ?_
    refine ia_sl (pc := 561) F hX (ix + 2) (by omega) ⟨by omega, hi.2⟩ ea1 dL_law_561 ?_
    refine jV (pc := 562) F 0 0 (z99 hZ) cls11.1 (c_X8_inkAfter c h hZ hP hB2 rfl rfl (by omega) (by omega) (fun V2 d0 d1 p2 y99 f2 => ?_) (fun V2 d0 d1 p2 y99 f2 => ?_) (fun V2 d0 p2 y99 f2 => ?_)) rfl ⟨k_X8_inkAfter, il_RL_161, im_X8_inkAfter, is_X8_inkAfter, ii_RX8⟩ 2 rfl hd_X8_inkAfter ⟨by decide, by decide, by omega, by omega, Nat.le_of_ble_eq_true rfl⟩ dL_law_562
    · exfalso; omega
    · refine j1 ?_
      refine ia_istore (pc := 565) F (ls' := [(4, ((ia_E0 + 400 : Nat) : Int)), (4, ((0 : Nat) : Int)), (4, ((99 : Nat) : Int)), (4, ((114 : Nat) : Int)), (4, ((115 : Nat) : Int)), (0, (ix : Int)), (0, 1), (0, 0), (9, 0)]) dL_law_565 (Nat.le_of_ble_eq_true rfl) rfl rfl ?_
      refine ia_aload_n (pc := 567) F dL_law_567 rfl ?_
      refine jV (pc := 568) F 0 0 (z99 hZ) cls11.1 (c_X8_thrown hZ p2 rfl rfl ?_) rfl ⟨k_X8_thrown, il_RL_138, im_X8_thrown, is_X8_thrown, ii_RX8⟩ 0 rfl hd_X8_thrown ⟨by decide, by decide, by omega, by omega, Nat.le_of_ble_eq_true rfl⟩ dL_law_568
      refine j1 ?_
      refine ia_iload (pc := 571) F dL_law_571 rfl ?_
      refine lq_icmp (pc := 573) F 578 dL_law_573 rfl (by rw [y99]; simp [up]) ?_
      refine ia_iload (pc := 578) F dL_law_578 rfl ?_
      refine lq_ifn (pc := 580) F 595 dL_law_580 rfl (by omega) ?_
      refine ia_goto (pc := 595) F 2404 dL_law_595 rfl ?_
      refine jw [false, false, false, false, false, false, true, true, true] rfl ?_
      refine lq_wid (c2 := cells + 30) (s2 := slots + 7000) (by omega) (by omega) ?_
      exact kk _ _ (LvI_keep hJ hj p2 (fun p hp hs => ((f2 p (nsub hp (by decide))).trans rfl)) (f2 100 (by decide)) (f2 103 (by decide)) (fun z h9 => by rw [y99]; simp only [up, if_neg h9]))
    · refine j1 ?_
      refine ia_istore (pc := 565) F (ls' := [(4, ((ia_E0 + 400 : Nat) : Int)), (4, ((0 : Nat) : Int)), (4, ((99 : Nat) : Int)), (4, ((114 : Nat) : Int)), (4, ((115 : Nat) : Int)), (0, (ix : Int)), (0, 1), (0, 0), (9, 0)]) dL_law_565 (Nat.le_of_ble_eq_true rfl) rfl rfl ?_
      refine ia_aload_n (pc := 567) F dL_law_567 rfl ?_
      refine jV (pc := 568) F 0 0 (z99 hZ) cls11.1 (c_X8_thrown hZ p2 rfl rfl ?_) rfl ⟨k_X8_thrown, il_RL_138, im_X8_thrown, is_X8_thrown, ii_RX8⟩ 0 rfl hd_X8_thrown ⟨by decide, by decide, by omega, by omega, Nat.le_of_ble_eq_true rfl⟩ dL_law_568
      refine j1 ?_
      refine ia_iload (pc := 571) F dL_law_571 rfl ?_
      refine lq_icmp (pc := 573) F 578 dL_law_573 rfl (by rw [y99]; simp [up]) ?_
      refine ia_iload (pc := 578) F dL_law_578 rfl ?_
      refine lq_ifn (pc := 580) F 595 dL_law_580 rfl (by omega) ?_
      refine ia_goto (pc := 595) F 2404 dL_law_595 rfl ?_
      refine jw [false, false, false, false, false, false, true, true, true] rfl ?_
      refine lq_wid (c2 := cells + 30) (s2 := slots + 7000) (by omega) (by omega) ?_
      exact kk _ _ (LvI_keep hJ hj p2 (fun p hp hs => ((f2 p (nsub hp (by decide))).trans rfl)) (f2 100 (by decide)) (f2 103 (by decide)) (fun z h9 => by rw [y99]; simp only [up, if_neg h9]))
set_option maxRecDepth 100000 in
set_option maxHeartbeats 2000000 in
set_option linter.constructorNameAsVariable false in
theorem lcs_7 {X : ia_X} {cells slots LX ix jj : Nat} {xs : Nat → Int32} {Z : ia_Z} {V : ia_H} (F : ia_Fix X RL cL_law 9 20 20000 3600000) (hX : LSc X LX xs) (hi : ix + 2 < LX ∧ LX ≤ 1536) (hJ : LvI jj Z V) (hj : jj < 512) (hc : cells + 30 ≤ 20000 ∧ slots + 7000 ≤ 3600000) (kk : ∀ (Z9 : ia_Z) (V9 : ia_H), LvI (jj + 1) Z9 V9 → ia_G X (cells + 30) (slots + 7000) 2404 [(4, ((ia_E0 + 400 : Nat) : Int)), (4, ((0 : Nat) : Int)), (4, ((99 : Nat) : Int)), (4, ((114 : Nat) : Int)), (4, ((115 : Nat) : Int)), (0, (ix : Int)), (9, 0), (9, 0), (9, 0)] [] Z9 V9) : ia_G X cells slots 598 [(4, ((ia_E0 + 400 : Nat) : Int)), (4, ((0 : Nat) : Int)), (4, ((99 : Nat) : Int)), (4, ((114 : Nat) : Int)), (4, ((115 : Nat) : Int)), (0, (ix : Int)), (9, 0), (9, 0), (9, 0)] [] Z V := by
  obtain ⟨⟨hZ, hP, hz, hj2⟩, ⟨hB1, hB2⟩, hC, hD, hE, ⟨nT, qT, lT, hn6, h20, hT⟩, ⟨nU, qU, lU, hn7, h15, hU⟩, hne⟩ := id hJ
  obtain ⟨s0, s1, s2, s3, s4, s5, s6, s7, s18, sb, sw, se, sp⟩ := id hB2
  have hχ := hC.1
  have hd : 0 ≤ V 99 10 ∧ V 99 10 ≤ 8 := by have := hC.2.1; omega
  have hd1 := hC.2.1
  have h7 : (V 100 0).toNat ≤ 7 := by omega
  obtain ⟨c, ea0⟩ : ∃ y : Int, (xs (ix + 1)).toInt = y := ⟨_, rfl⟩
  have ra0 := i32_rng (xs (ix + 1))
  rw [ea0] at ra0
  obtain ⟨h, ea1⟩ : ∃ y : Int, (xs (ix + 2)).toInt = y := ⟨_, rfl⟩
  have ra1 := i32_rng (xs (ix + 2))
  rw [ea1] at ra1
  refine ia_aload_n (pc := 598) F dL_law_598 rfl ?_
  refine ia_aload_n (pc := 599) F dL_law_599 rfl ?_
  refine ia_iload (pc := 600) F dL_law_600 rfl ?_
  refine ia_iconst (pc := 602) F dL_law_602 ?_
  refine ia_iadd (pc := 603) F dL_law_603 ?_
  refine ia_sl (pc := 604) F hX (ix + 1) (by omega) ⟨by omega, hi.2⟩ ea0 dL_law_604 ?_
  refine ia_aload_n (pc := 605) F dL_law_605 rfl ?_
  refine ia_iload (pc := 606) F dL_law_606 rfl ?_
  refine ia_iconst (pc := 608) F dL_law_608 ?_
  refine ia_iadd (pc := 609) F dL_law_609 ?_
  refine ia_sl (pc := 610) F hX (ix + 2) (by omega) ⟨by omega, hi.2⟩ ea1 dL_law_610 ?_
  refine ia_aload_n (pc := 611) F dL_law_611 rfl ?_
  refine jSH (pc := 612) F (h_inkByHalvings c h hZ hP hB1 hB2 (by omega) (by omega) (fun c0 => ?_) (fun c0 => ?_)) rfl ⟨k_L_inkByHalvings, il_RL_162, it_L_inkByHalvings, ii_RL⟩ 4 rfl hd_L_inkByHalvings ⟨by decide, by decide, by omega, by omega, Nat.le_of_ble_eq_true rfl⟩ dL_law_612
  · refine j1 ?_
    refine ia_istore (pc := 615) F (ls' := [(4, ((ia_E0 + 400 : Nat) : Int)), (4, ((0 : Nat) : Int)), (4, ((99 : Nat) : Int)), (4, ((114 : Nat) : Int)), (4, ((115 : Nat) : Int)), (0, (ix : Int)), (0, 0), (9, 0), (9, 0)]) dL_law_615 (Nat.le_of_ble_eq_true rfl) rfl rfl ?_
    refine ia_aload_n (pc := 617) F dL_law_617 rfl ?_
    refine ia_aload_n (pc := 618) F dL_law_618 rfl ?_
    refine ia_iload (pc := 619) F dL_law_619 rfl ?_
    refine ia_iconst (pc := 621) F dL_law_621 ?_
    refine ia_iadd (pc := 622) F dL_law_622 ?_
    refine ia_sl (pc := 623) F hX (ix + 1) (by omega) ⟨by omega, hi.2⟩ ea0 dL_law_623 ?_
    refine ia_aload_n (pc := 624) F dL_law_624 rfl ?_
    refine ia_iload (pc := 625) F dL_law_625 rfl ?_
    refine ia_iconst (pc := 627) F dL_law_627 ?_
    refine ia_iadd (pc := 628) F dL_law_628 ?_
    refine ia_sl (pc := 629) F hX (ix + 2) (by omega) ⟨by omega, hi.2⟩ ea1 dL_law_629 ?_
    refine jV (pc := 630) F 0 0 (z99 hZ) cls11.1 (c_X8_inkByHalvings c h hZ (PI_u hP rfl) hB2 (rowN (by decide)) (rowN (by decide)) (by omega) (by omega) (fun V2 d0 d1 p2 y99 f2 => ?_) (fun V2 d0 d1 p2 y99 f2 => ?_) (fun V2 d0 p2 y99 f2 => ?_)) rfl ⟨k_X8_inkByHalvings, il_RL_164, im_X8_inkByHalvings, is_X8_inkByHalvings, ii_RX8⟩ 2 rfl hd_X8_inkByHalvings ⟨by decide, by decide, by omega, by omega, Nat.le_of_ble_eq_true rfl⟩ dL_law_630
    · refine j1 ?_
      refine ia_istore (pc := 633) F (ls' := [(4, ((ia_E0 + 400 : Nat) : Int)), (4, ((0 : Nat) : Int)), (4, ((99 : Nat) : Int)), (4, ((114 : Nat) : Int)), (4, ((115 : Nat) : Int)), (0, (ix : Int)), (0, 0), (0, (la (V 100) c.toNat h.toNat)), (9, 0)]) dL_law_633 (Nat.le_of_ble_eq_true rfl) rfl rfl ?_
      refine ia_aload_n (pc := 635) F dL_law_635 rfl ?_
      refine jV (pc := 636) F 0 0 (z99 hZ) cls11.1 (c_X8_thrown hZ p2 rfl rfl ?_) rfl ⟨k_X8_thrown, il_RL_138, im_X8_thrown, is_X8_thrown, ii_RX8⟩ 0 rfl hd_X8_thrown ⟨by decide, by decide, by omega, by omega, Nat.le_of_ble_eq_true rfl⟩ dL_law_636
      refine j1 ?_
      refine ia_iload (pc := 639) F dL_law_639 rfl ?_
      refine lq_icmp (pc := 641) F 646 dL_law_641 rfl (by rw [y99]; simp [up]) ?_
      refine ia_iload (pc := 646) F dL_law_646 rfl ?_
      refine lq_ifz (pc := 648) F dL_law_648 663 rfl ?_
      refine ia_aload_n (pc := 651) F dL_law_651 rfl ?_
      refine ia_iconst (pc := 652) F dL_law_652 ?_
      refine jal (pc := 653) F (z114 hZ) 0 rfl (by decide) ((congrFun (f2 114 (by decide)) 0).trans (ia_u_self _ _ _ _)) dL_law_653 ?_
      refine ia_iload (pc := 654) F dL_law_654 rfl ?_
      have r9 := la_rng (sw c.toNat (by omega)) h.toNat
      have e9 : (la (V 100) c.toNat h.toNat) = (la (V 100) c.toNat h.toNat) := rfl
      refine ia_i2lr (pc := 656) F dL_law_656 (by omega) ?_
      refine lq_lcmp (pc := 657) F dL_law_657 e9 ?_
      refine lq_if0 (pc := 658) F 663 dL_law_658 rfl ?_
      refine ia_goto (pc := 663) F 2404 dL_law_663 rfl ?_
      refine jw [false, false, false, false, false, false, true, true, true] rfl ?_
      refine lq_wid (c2 := cells + 30) (s2 := slots + 7000) (by omega) (by omega) ?_
      exact kk _ _ (LvI_keep hJ hj p2 (fun p hp hs => ((f2 p (nsub hp (by decide))).trans (rowN (nne hp (by decide))))) ((f2 100 (by decide)).trans (rowN (by decide))) ((f2 103 (by decide)).trans (rowN (by decide))) (fun z h9 => by rw [y99]; simp only [up, if_neg h9]))
    · exfalso; omega
    · exfalso; omega
  · refine j1 ?_
    refine ia_istore (pc := 615) F (ls' := [(4, ((ia_E0 + 400 : Nat) : Int)), (4, ((0 : Nat) : Int)), (4, ((99 : Nat) : Int)), (4, ((114 : Nat) : Int)), (4, ((115 : Nat) : Int)), (0, (ix : Int)), (0, 1), (9, 0), (9, 0)]) dL_law_615 (Nat.le_of_ble_eq_true rfl) rfl rfl ?_
    refine ia_aload_n (pc := 617) F dL_law_617 rfl ?_
    refine ia_aload_n (pc := 618) F dL_law_618 rfl ?_
    refine ia_iload (pc := 619) F dL_law_619 rfl ?_
    refine ia_iconst (pc := 621) F dL_law_621 ?_
    refine ia_iadd (pc := 622) F dL_law_622 ?_
    refine ia_sl (pc := 623) F hX (ix + 1) (by omega) ⟨by omega, hi.2⟩ ea0 dL_law_623 ?_
    refine ia_aload_n (pc := 624) F dL_law_624 rfl ?_
    refine ia_iload (pc := 625) F dL_law_625 rfl ?_
    refine ia_iconst (pc := 627) F dL_law_627 ?_
    refine ia_iadd (pc := 628) F dL_law_628 ?_
    refine ia_sl (pc := 629) F hX (ix + 2) (by omega) ⟨by omega, hi.2⟩ ea1 dL_law_629 ?_
    refine jV (pc := 630) F 0 0 (z99 hZ) cls11.1 (c_X8_inkByHalvings c h hZ hP hB2 rfl rfl (by omega) (by omega) (fun V2 d0 d1 p2 y99 f2 => ?_) (fun V2 d0 d1 p2 y99 f2 => ?_) (fun V2 d0 p2 y99 f2 => ?_)) rfl ⟨k_X8_inkByHalvings, il_RL_164, im_X8_inkByHalvings, is_X8_inkByHalvings, ii_RX8⟩ 2 rfl hd_X8_inkByHalvings ⟨by decide, by decide, by omega, by omega, Nat.le_of_ble_eq_true rfl⟩ dL_law_630
    · exfalso; omega
    · refine j1 ?_
      refine ia_istore (pc := 633) F (ls' := [(4, ((ia_E0 + 400 : Nat) : Int)), (4, ((0 : Nat) : Int)), (4, ((99 : Nat) : Int)), (4, ((114 : Nat) : Int)), (4, ((115 : Nat) : Int)), (0, (ix : Int)), (0, 1), (0, 0), (9, 0)]) dL_law_633 (Nat.le_of_ble_eq_true rfl) rfl rfl ?_
      refine ia_aload_n (pc := 635) F dL_law_635 rfl ?_
      refine jV (pc := 636) F 0 0 (z99 hZ) cls11.1 (c_X8_thrown hZ p2 rfl rfl ?_) rfl ⟨k_X8_thrown, il_RL_138, im_X8_thrown, is_X8_thrown, ii_RX8⟩ 0 rfl hd_X8_thrown ⟨by decide, by decide, by omega, by omega, Nat.le_of_ble_eq_true rfl⟩ dL_law_636
      refine j1 ?_
      refine ia_iload (pc := 639) F dL_law_639 rfl ?_
      refine lq_icmp (pc := 641) F 646 dL_law_641 rfl (by rw [y99]; simp [up]) ?_
      refine ia_iload (pc := 646) F dL_law_646 rfl ?_
      refine lq_ifn (pc := 648) F 663 dL_law_648 rfl (by omega) ?_
      refine ia_goto (pc := 663) F 2404 dL_law_663 rfl ?_
      refine jw [false, false, false, false, false, false, true, true, true] rfl ?_
      refine lq_wid (c2 := cells + 30) (s2 := slots + 7000) (by omega) (by omega) ?_
      exact kk _ _ (LvI_keep hJ hj p2 (fun p hp hs => ((f2 p (nsub hp (by decide))).trans rfl)) (f2 100 (by decide)) (f2 103 (by decide)) (fun z h9 => by rw [y99]; simp only [up, if_neg h9]))
    · refine j1 ?_
      refine ia_istore (pc := 633) F (ls' := [(4, ((ia_E0 + 400 : Nat) : Int)), (4, ((0 : Nat) : Int)), (4, ((99 : Nat) : Int)), (4, ((114 : Nat) : Int)), (4, ((115 : Nat) : Int)), (0, (ix : Int)), (0, 1), (0, 0), (9, 0)]) dL_law_633 (Nat.le_of_ble_eq_true rfl) rfl rfl ?_
      refine ia_aload_n (pc := 635) F dL_law_635 rfl ?_
      refine jV (pc := 636) F 0 0 (z99 hZ) cls11.1 (c_X8_thrown hZ p2 rfl rfl ?_) rfl ⟨k_X8_thrown, il_RL_138, im_X8_thrown, is_X8_thrown, ii_RX8⟩ 0 rfl hd_X8_thrown ⟨by decide, by decide, by omega, by omega, Nat.le_of_ble_eq_true rfl⟩ dL_law_636
      refine j1 ?_
      refine ia_iload (pc := 639) F dL_law_639 rfl ?_
      refine lq_icmp (pc := 641) F 646 dL_law_641 rfl (by rw [y99]; simp [up]) ?_
      refine ia_iload (pc := 646) F dL_law_646 rfl ?_
      refine lq_ifn (pc := 648) F 663 dL_law_648 rfl (by omega) ?_
      refine ia_goto (pc := 663) F 2404 dL_law_663 rfl ?_
      refine jw [false, false, false, false, false, false, true, true, true] rfl ?_
      refine lq_wid (c2 := cells + 30) (s2 := slots + 7000) (by omega) (by omega) ?_
      exact kk _ _ (LvI_keep hJ hj p2 (fun p hp hs => ((f2 p (nsub hp (by decide))).trans rfl)) (f2 100 (by decide)) (f2 103 (by decide)) (fun z h9 => by rw [y99]; simp only [up, if_neg h9]))
set_option maxRecDepth 100000 in
set_option maxHeartbeats 2000000 in
set_option linter.constructorNameAsVariable false in
theorem lcs_8 {X : ia_X} {cells slots LX ix jj : Nat} {xs : Nat → Int32} {Z : ia_Z} {V : ia_H} (F : ia_Fix X RL cL_law 9 20 20000 3600000) (hX : LSc X LX xs) (hi : ix + 2 < LX ∧ LX ≤ 1536) (hJ : LvI jj Z V) (hj : jj < 512) (hc : cells + 30 ≤ 20000 ∧ slots + 7000 ≤ 3600000) (kk : ∀ (Z9 : ia_Z) (V9 : ia_H), LvI (jj + 1) Z9 V9 → ia_G X (cells + 30) (slots + 7000) 2404 [(4, ((ia_E0 + 400 : Nat) : Int)), (4, ((0 : Nat) : Int)), (4, ((99 : Nat) : Int)), (4, ((114 : Nat) : Int)), (4, ((115 : Nat) : Int)), (0, (ix : Int)), (9, 0), (9, 0), (9, 0)] [] Z9 V9) : ia_G X cells slots 666 [(4, ((ia_E0 + 400 : Nat) : Int)), (4, ((0 : Nat) : Int)), (4, ((99 : Nat) : Int)), (4, ((114 : Nat) : Int)), (4, ((115 : Nat) : Int)), (0, (ix : Int)), (9, 0), (9, 0), (9, 0)] [] Z V := by
  obtain ⟨⟨hZ, hP, hz, hj2⟩, ⟨hB1, hB2⟩, hC, hD, hE, ⟨nT, qT, lT, hn6, h20, hT⟩, ⟨nU, qU, lU, hn7, h15, hU⟩, hne⟩ := id hJ
  obtain ⟨s0, s1, s2, s3, s4, s5, s6, s7, s18, sb, sw, se, sp⟩ := id hB2
  have hχ := hC.1
  have hd : 0 ≤ V 99 10 ∧ V 99 10 ≤ 8 := by have := hC.2.1; omega
  have hd1 := hC.2.1
  have h7 : (V 100 0).toNat ≤ 7 := by omega
  obtain ⟨c, ea0⟩ : ∃ y : Int, (xs (ix + 1)).toInt = y := ⟨_, rfl⟩
  have ra0 := i32_rng (xs (ix + 1))
  rw [ea0] at ra0
  obtain ⟨u, ea1⟩ : ∃ y : Int, (xs (ix + 2)).toInt = y := ⟨_, rfl⟩
  have ra1 := i32_rng (xs (ix + 2))
  rw [ea1] at ra1
  refine ia_aload_n (pc := 666) F dL_law_666 rfl ?_
  refine ia_aload_n (pc := 667) F dL_law_667 rfl ?_
  refine ia_iload (pc := 668) F dL_law_668 rfl ?_
  refine ia_iconst (pc := 670) F dL_law_670 ?_
  refine ia_iadd (pc := 671) F dL_law_671 ?_
  refine ia_sl (pc := 672) F hX (ix + 1) (by omega) ⟨by omega, hi.2⟩ ea0 dL_law_672 ?_
  refine ia_aload_n (pc := 673) F dL_law_673 rfl ?_
  refine ia_iload (pc := 674) F dL_law_674 rfl ?_
  refine ia_iconst (pc := 676) F dL_law_676 ?_
  refine ia_iadd (pc := 677) F dL_law_677 ?_
  refine ia_sl (pc := 678) F hX (ix + 2) (by omega) ⟨by omega, hi.2⟩ ea1 dL_law_678 ?_
  refine ia_aload_n (pc := 679) F dL_law_679 rfl ?_
  refine jSH (pc := 680) F (h_hoursUntilLess c u hZ hP hB1 hB2 (by omega) (by omega) (fun jc c0 c1 c2 c3 => ?_) (fun c0 => ?_)) rfl ⟨k_L_hoursUntilLess, il_RL_165, it_L_hoursUntilLess, ii_RL⟩ 4 rfl hd_L_hoursUntilLess ⟨by decide, by decide, by omega, by omega, Nat.le_of_ble_eq_true rfl⟩ dL_law_680
  · refine j1 ?_
    refine ia_istore (pc := 683) F (ls' := [(4, ((ia_E0 + 400 : Nat) : Int)), (4, ((0 : Nat) : Int)), (4, ((99 : Nat) : Int)), (4, ((114 : Nat) : Int)), (4, ((115 : Nat) : Int)), (0, (ix : Int)), (0, 0), (9, 0), (9, 0)]) dL_law_683 (Nat.le_of_ble_eq_true rfl) rfl rfl ?_
    refine ia_aload_n (pc := 685) F dL_law_685 rfl ?_
    refine ia_aload_n (pc := 686) F dL_law_686 rfl ?_
    refine ia_iload (pc := 687) F dL_law_687 rfl ?_
    refine ia_iconst (pc := 689) F dL_law_689 ?_
    refine ia_iadd (pc := 690) F dL_law_690 ?_
    refine ia_sl (pc := 691) F hX (ix + 1) (by omega) ⟨by omega, hi.2⟩ ea0 dL_law_691 ?_
    refine ia_aload_n (pc := 692) F dL_law_692 rfl ?_
    refine ia_iload (pc := 693) F dL_law_693 rfl ?_
    refine ia_iconst (pc := 695) F dL_law_695 ?_
    refine ia_iadd (pc := 696) F dL_law_696 ?_
    refine ia_sl (pc := 697) F hX (ix + 2) (by omega) ⟨by omega, hi.2⟩ ea1 dL_law_697 ?_
    refine jV (pc := 698) F 0 0 (z99 hZ) cls11.1 (c_X8_hoursUntilLess c u hZ (PI_u hP rfl) hB2 (rowN (by decide)) (rowN (by decide)) (by omega) (by omega) (fun V2 d0 p2 y99 f2 => ?_) (fun km V2 d0 d1 d2 d3 p2 y99 f2 => ?_)) rfl ⟨k_X8_hoursUntilLess, il_RL_167, im_X8_hoursUntilLess, is_X8_hoursUntilLess, ii_RX8⟩ 2 rfl hd_X8_hoursUntilLess ⟨by decide, by decide, by omega, by omega, Nat.le_of_ble_eq_true rfl⟩ dL_law_698
    · exfalso; omega
    · refine j1 ?_
      refine ia_istore (pc := 701) F (ls' := [(4, ((ia_E0 + 400 : Nat) : Int)), (4, ((0 : Nat) : Int)), (4, ((99 : Nat) : Int)), (4, ((114 : Nat) : Int)), (4, ((115 : Nat) : Int)), (0, (ix : Int)), (0, 0), (0, (km : Int)), (9, 0)]) dL_law_701 (Nat.le_of_ble_eq_true rfl) rfl rfl ?_
      refine ia_aload_n (pc := 703) F dL_law_703 rfl ?_
      refine jV (pc := 704) F 0 0 (z99 hZ) cls11.1 (c_X8_thrown hZ p2 rfl rfl ?_) rfl ⟨k_X8_thrown, il_RL_138, im_X8_thrown, is_X8_thrown, ii_RX8⟩ 0 rfl hd_X8_thrown ⟨by decide, by decide, by omega, by omega, Nat.le_of_ble_eq_true rfl⟩ dL_law_704
      refine j1 ?_
      refine ia_iload (pc := 707) F dL_law_707 rfl ?_
      refine lq_icmp (pc := 709) F 714 dL_law_709 rfl (by rw [y99]; simp [up]) ?_
      refine ia_iload (pc := 714) F dL_law_714 rfl ?_
      refine lq_ifz (pc := 716) F dL_law_716 731 rfl ?_
      refine ia_aload_n (pc := 719) F dL_law_719 rfl ?_
      refine ia_iconst (pc := 720) F dL_law_720 ?_
      refine jal (pc := 721) F (z114 hZ) 0 rfl (by decide) ((congrFun (f2 114 (by decide)) 0).trans (ia_u_self _ _ _ _)) dL_law_721 ?_
      refine ia_iload (pc := 722) F dL_law_722 rfl ?_
      have e9 : (jc : Int) = (km : Int) := (congrArg (fun x : Nat => (x : Int)) (fst_eq (P := fun i => la (V 100) c.toNat i < u) (fun i hi => by have := c2 i hi; omega) c3 (fun i hi => by have := d2 i hi; omega) d3))
      refine ia_i2lr (pc := 724) F dL_law_724 (by omega) ?_
      refine lq_lcmp (pc := 725) F dL_law_725 e9 ?_
      refine lq_if0 (pc := 726) F 731 dL_law_726 rfl ?_
      refine ia_goto (pc := 731) F 2404 dL_law_731 rfl ?_
      refine jw [false, false, false, false, false, false, true, true, true] rfl ?_
      refine lq_wid (c2 := cells + 30) (s2 := slots + 7000) (by omega) (by omega) ?_
      exact kk _ _ (LvI_keep hJ hj p2 (fun p hp hs => ((f2 p (nsub hp (by decide))).trans (rowN (nne hp (by decide))))) ((f2 100 (by decide)).trans (rowN (by decide))) ((f2 103 (by decide)).trans (rowN (by decide))) (fun z h9 => by rw [y99]; simp only [up, if_neg h9]))
  · refine j1 ?_
    refine ia_istore (pc := 683) F (ls' := [(4, ((ia_E0 + 400 : Nat) : Int)), (4, ((0 : Nat) : Int)), (4, ((99 : Nat) : Int)), (4, ((114 : Nat) : Int)), (4, ((115 : Nat) : Int)), (0, (ix : Int)), (0, 1), (9, 0), (9, 0)]) dL_law_683 (Nat.le_of_ble_eq_true rfl) rfl rfl ?_
    refine ia_aload_n (pc := 685) F dL_law_685 rfl ?_
    refine ia_aload_n (pc := 686) F dL_law_686 rfl ?_
    refine ia_iload (pc := 687) F dL_law_687 rfl ?_
    refine ia_iconst (pc := 689) F dL_law_689 ?_
    refine ia_iadd (pc := 690) F dL_law_690 ?_
    refine ia_sl (pc := 691) F hX (ix + 1) (by omega) ⟨by omega, hi.2⟩ ea0 dL_law_691 ?_
    refine ia_aload_n (pc := 692) F dL_law_692 rfl ?_
    refine ia_iload (pc := 693) F dL_law_693 rfl ?_
    refine ia_iconst (pc := 695) F dL_law_695 ?_
    refine ia_iadd (pc := 696) F dL_law_696 ?_
    refine ia_sl (pc := 697) F hX (ix + 2) (by omega) ⟨by omega, hi.2⟩ ea1 dL_law_697 ?_
    refine jV (pc := 698) F 0 0 (z99 hZ) cls11.1 (c_X8_hoursUntilLess c u hZ hP hB2 rfl rfl (by omega) (by omega) (fun V2 d0 p2 y99 f2 => ?_) (fun km V2 d0 d1 d2 d3 p2 y99 f2 => ?_)) rfl ⟨k_X8_hoursUntilLess, il_RL_167, im_X8_hoursUntilLess, is_X8_hoursUntilLess, ii_RX8⟩ 2 rfl hd_X8_hoursUntilLess ⟨by decide, by decide, by omega, by omega, Nat.le_of_ble_eq_true rfl⟩ dL_law_698
    · refine j1 ?_
      refine ia_istore (pc := 701) F (ls' := [(4, ((ia_E0 + 400 : Nat) : Int)), (4, ((0 : Nat) : Int)), (4, ((99 : Nat) : Int)), (4, ((114 : Nat) : Int)), (4, ((115 : Nat) : Int)), (0, (ix : Int)), (0, 1), (0, 0), (9, 0)]) dL_law_701 (Nat.le_of_ble_eq_true rfl) rfl rfl ?_
      refine ia_aload_n (pc := 703) F dL_law_703 rfl ?_
      refine jV (pc := 704) F 0 0 (z99 hZ) cls11.1 (c_X8_thrown hZ p2 rfl rfl ?_) rfl ⟨k_X8_thrown, il_RL_138, im_X8_thrown, is_X8_thrown, ii_RX8⟩ 0 rfl hd_X8_thrown ⟨by decide, by decide, by omega, by omega, Nat.le_of_ble_eq_true rfl⟩ dL_law_704
      refine j1 ?_
      refine ia_iload (pc := 707) F dL_law_707 rfl ?_
      refine lq_icmp (pc := 709) F 714 dL_law_709 rfl (by rw [y99]; simp [up]) ?_
      refine ia_iload (pc := 714) F dL_law_714 rfl ?_
      refine lq_ifn (pc := 716) F 731 dL_law_716 rfl (by omega) ?_
      refine ia_goto (pc := 731) F 2404 dL_law_731 rfl ?_
      refine jw [false, false, false, false, false, false, true, true, true] rfl ?_
      refine lq_wid (c2 := cells + 30) (s2 := slots + 7000) (by omega) (by omega) ?_
      exact kk _ _ (LvI_keep hJ hj p2 (fun p hp hs => ((f2 p (nsub hp (by decide))).trans rfl)) (f2 100 (by decide)) (f2 103 (by decide)) (fun z h9 => by rw [y99]; simp only [up, if_neg h9]))
    · exfalso; omega
