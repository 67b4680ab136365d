/-! the law: its loop (made by wip/whole/start.py) -/
theorem LvI_idle {j : Nat} {Z : ia_Z} {V : ia_H} (h : LvI j Z V) (hj : j < 512) : LvI (j + 1) Z V := LvI_keep h hj h.1.2.1 (fun _ _ _ => rfl) rfl rfl (fun _ _ => rfl)
set_option maxRecDepth 100000 in
set_option maxHeartbeats 2000000 in
theorem lcs_any {X : ia_X} {cells slots LX jj : Nat} {xs : Nat → Int32} {Z : ia_Z} {V : ia_H} (F : ia_Fix X RL cL_law 9 20 20000 3600000) (hX : LSc X LX xs) (hi : 3 * jj + 2 < LX ∧ LX ≤ 1536) (hJ : LvI jj Z V) (hj : jj < 512) (hc : cells + 30 ≤ 20000 ∧ slots + 7000 ≤ 3600000) (kk : ∀ (Z9 : ia_Z) (V9 : ia_H), LvI (jj + 1) Z9 V9 → ia_G X (cells + 30) (slots + 7000) 2404 [(4, ((ia_E0 + 400 : Nat) : Int)), (4, ((0 : Nat) : Int)), (4, ((99 : Nat) : Int)), (4, ((114 : Nat) : Int)), (4, ((115 : Nat) : Int)), (0, ((3 * jj : Nat) : Int)), (9, 0), (9, 0), (9, 0)] [] Z9 V9) (w : Nat) (hw : w ≤ 63) : ia_G X cells slots 44 [(4, ((ia_E0 + 400 : Nat) : Int)), (4, ((0 : Nat) : Int)), (4, ((99 : Nat) : Int)), (4, ((114 : Nat) : Int)), (4, ((115 : Nat) : Int)), (0, ((3 * jj : Nat) : Int)), (9, 0), (9, 0), (9, 0)] [(0, (w : Int))] Z V := by
  by_cases g0 : w = 0
  · subst g0
    exact ia_sw (pc := 44) F 268 0 dL_law_44 (by omega) rfl (by decide) rfl rfl (lcs_0 F hX hi hJ hj hc kk)
  by_cases g1 : w = 1
  · subst g1
    exact ia_sw (pc := 44) F 336 1 dL_law_44 (by omega) rfl (by decide) rfl rfl (lcs_1 F hX hi hJ hj hc kk)
  by_cases g2 : w = 2
  · subst g2
    exact ia_sw (pc := 44) F 392 2 dL_law_44 (by omega) rfl (by decide) rfl rfl (lcs_2 F hX hi hJ hj hc kk)
  by_cases g3 : w = 3
  · subst g3
    exact ia_sw (pc := 44) F 448 3 dL_law_44 (by omega) rfl (by decide) rfl rfl (lcs_3 F hX hi hJ hj hc kk)
  by_cases g4 : w = 4
  · subst g4
    exact ia_sw (pc := 44) F 504 4 dL_law_44 (by omega) rfl (by decide) rfl rfl (lcs_4 F hX hi hJ hj hc kk)
  by_cases g5 : w = 5
  · subst g5
    exact ia_sw (pc := 44) F 517 5 dL_law_44 (by omega) rfl (by decide) rfl rfl (lcs_5 F hX hi hJ hj hc kk)
  by_cases g6 : w = 6
  · subst g6
    exact ia_sw (pc := 44) F 530 6 dL_law_44 (by omega) rfl (by decide) rfl rfl (lcs_6 F hX hi hJ hj hc kk)
  by_cases g7 : w = 7
  · subst g7
    exact ia_sw (pc := 44) F 598 7 dL_law_44 (by omega) rfl (by decide) rfl rfl (lcs_7 F hX hi hJ hj hc kk)
  by_cases g8 : w = 8
  · subst g8
    exact ia_sw (pc := 44) F 666 8 dL_law_44 (by omega) rfl (by decide) rfl rfl (lcs_8 F hX hi hJ hj hc kk)
  by_cases g9 : w = 9
  · subst g9
    exact ia_sw (pc := 44) F 734 9 dL_law_44 (by omega) rfl (by decide) rfl rfl (lcs_9 F hX hi hJ hj hc kk)
  by_cases g10 : w = 10
  · subst g10
    exact ia_sw (pc := 44) F 802 10 dL_law_44 (by omega) rfl (by decide) rfl rfl (lcs_10 F hX hi hJ hj hc kk)
  by_cases g11 : w = 11
  · subst g11
    exact ia_sw (pc := 44) F 858 11 dL_law_44 (by omega) rfl (by decide) rfl rfl (lcs_11 F hX hi hJ hj hc kk)
  by_cases g12 : w = 12
  · subst g12
    exact ia_sw (pc := 44) F 914 12 dL_law_44 (by omega) rfl (by decide) rfl rfl (lcs_12 F hX hi hJ hj hc kk)
  by_cases g13 : w = 13
  · subst g13
    exact ia_sw (pc := 44) F 927 13 dL_law_44 (by omega) rfl (by decide) rfl rfl (lcs_13 F hX hi hJ hj hc kk)
  by_cases g14 : w = 14
  · subst g14
    exact ia_sw (pc := 44) F 940 14 dL_law_44 (by omega) rfl (by decide) rfl rfl (lcs_14 F hX hi hJ hj hc kk)
  by_cases g15 : w = 15
  · subst g15
    exact ia_sw (pc := 44) F 996 15 dL_law_44 (by omega) rfl (by decide) rfl rfl (lcs_15 F hX hi hJ hj hc kk)
  by_cases g16 : w = 16
  · subst g16
    exact ia_sw (pc := 44) F 1052 16 dL_law_44 (by omega) rfl (by decide) rfl rfl (lcs_16 F hX hi hJ hj hc kk)
  by_cases g17 : w = 17
  · subst g17
    exact ia_sw (pc := 44) F 1108 17 dL_law_44 (by omega) rfl (by decide) rfl rfl (lcs_17 F hX hi hJ hj hc kk)
  by_cases g18 : w = 18
  · subst g18
    exact ia_sw (pc := 44) F 1171 18 dL_law_44 (by omega) rfl (by decide) rfl rfl (lcs_18 F hX hi hJ hj hc kk)
  by_cases g19 : w = 19
  · subst g19
    exact ia_sw (pc := 44) F 1239 19 dL_law_44 (by omega) rfl (by decide) rfl rfl (lcs_19 F hX hi hJ hj hc kk)
  by_cases g20 : w = 20
  · subst g20
    exact ia_sw (pc := 44) F 1252 20 dL_law_44 (by omega) rfl (by decide) rfl rfl (lcs_20 F hX hi hJ hj hc kk)
  by_cases g21 : w = 21
  · subst g21
    exact ia_sw (pc := 44) F 1265 21 dL_law_44 (by omega) rfl (by decide) rfl rfl (lcs_21 F hX hi hJ hj hc kk)
  by_cases g22 : w = 22
  · subst g22
    exact ia_sw (pc := 44) F 1278 22 dL_law_44 (by omega) rfl (by decide) rfl rfl (lcs_22 F hX hi hJ hj hc kk)
  by_cases g23 : w = 23
  · subst g23
    exact ia_sw (pc := 44) F 1334 23 dL_law_44 (by omega) rfl (by decide) rfl rfl (lcs_23 F hX hi hJ hj hc kk)
  by_cases g24 : w = 24
  · subst g24
    exact ia_sw (pc := 44) F 1390 24 dL_law_44 (by omega) rfl (by decide) rfl rfl (lcs_24 F hX hi hJ hj hc kk)
  by_cases g25 : w = 25
  · subst g25
    exact ia_sw (pc := 44) F 1446 25 dL_law_44 (by omega) rfl (by decide) rfl rfl (lcs_25 F hX hi hJ hj hc kk)
  by_cases g26 : w = 26
  · subst g26
    exact ia_sw (pc := 44) F 1502 26 dL_law_44 (by omega) rfl (by decide) rfl rfl (lcs_26 F hX hi hJ hj hc kk)
  by_cases g27 : w = 27
  · subst g27
    exact ia_sw (pc := 44) F 1558 27 dL_law_44 (by omega) rfl (by decide) rfl rfl (lcs_27 F hX hi hJ hj hc kk)
  by_cases g28 : w = 28
  · subst g28
    exact ia_sw (pc := 44) F 1614 28 dL_law_44 (by omega) rfl (by decide) rfl rfl (lcs_28 F hX hi hJ hj hc kk)
  by_cases g29 : w = 29
  · subst g29
    exact ia_sw (pc := 44) F 1627 29 dL_law_44 (by omega) rfl (by decide) rfl rfl (lcs_29 F hX hi hJ hj hc kk)
  by_cases g30 : w = 30
  · subst g30
    exact ia_sw (pc := 44) F 1683 30 dL_law_44 (by omega) rfl (by decide) rfl rfl (lcs_30 F hX hi hJ hj hc kk)
  by_cases g31 : w = 31
  · subst g31
    exact ia_sw (pc := 44) F 1739 31 dL_law_44 (by omega) rfl (by decide) rfl rfl (lcs_31 F hX hi hJ hj hc kk)
  by_cases g32 : w = 32
  · subst g32
    exact ia_sw (pc := 44) F 1752 32 dL_law_44 (by omega) rfl (by decide) rfl rfl (lcs_32 F hX hi hJ hj hc kk)
  by_cases g33 : w = 33
  · subst g33
    exact ia_sw (pc := 44) F 1765 33 dL_law_44 (by omega) rfl (by decide) rfl rfl (lcs_33 F hX hi hJ hj hc kk)
  by_cases g34 : w = 34
  · subst g34
    exact ia_sw (pc := 44) F 1778 34 dL_law_44 (by omega) rfl (by decide) rfl rfl (lcs_34 F hX hi hJ hj hc kk)
  by_cases g35 : w = 35
  · subst g35
    exact ia_sw (pc := 44) F 1791 35 dL_law_44 (by omega) rfl (by decide) rfl rfl (lcs_35 F hX hi hJ hj hc kk)
  by_cases g36 : w = 36
  · subst g36
    exact ia_sw (pc := 44) F 1804 36 dL_law_44 (by omega) rfl (by decide) rfl rfl (lcs_36 F hX hi hJ hj hc kk)
  by_cases g37 : w = 37
  · subst g37
    exact ia_sw (pc := 44) F 1817 37 dL_law_44 (by omega) rfl (by decide) rfl rfl (lcs_37 F hX hi hJ hj hc kk)
  by_cases g38 : w = 38
  · subst g38
    exact ia_sw (pc := 44) F 1831 38 dL_law_44 (by omega) rfl (by decide) rfl rfl (lcs_38 F hX hi hJ hj hc kk)
  by_cases g39 : w = 39
  · subst g39
    exact ia_sw (pc := 44) F 1844 39 dL_law_44 (by omega) rfl (by decide) rfl rfl (lcs_39 F hX hi hJ hj hc kk)
  by_cases g40 : w = 40
  · subst g40
    exact ia_sw (pc := 44) F 1909 40 dL_law_44 (by omega) rfl (by decide) rfl rfl (lcs_40 F hX hi hJ hj hc kk)
  by_cases g41 : w = 41
  · subst g41
    exact ia_sw (pc := 44) F 1975 41 dL_law_44 (by omega) rfl (by decide) rfl rfl (lcs_41 F hX hi hJ hj hc kk)
  by_cases g42 : w = 42
  · subst g42
    exact ia_sw (pc := 44) F 2031 42 dL_law_44 (by omega) rfl (by decide) rfl rfl (lcs_42 F hX hi hJ hj hc kk)
  by_cases g43 : w = 43
  · subst g43
    exact ia_sw (pc := 44) F 2044 43 dL_law_44 (by omega) rfl (by decide) rfl rfl (lcs_43 F hX hi hJ hj hc kk)
  by_cases g44 : w = 44
  · subst g44
    exact ia_sw (pc := 44) F 2100 44 dL_law_44 (by omega) rfl (by decide) rfl rfl (lcs_44 F hX hi hJ hj hc kk)
  by_cases g45 : w = 45
  · subst g45
    exact ia_sw (pc := 44) F 2113 45 dL_law_44 (by omega) rfl (by decide) rfl rfl (lcs_45 F hX hi hJ hj hc kk)
  by_cases g46 : w = 46
  · subst g46
    exact ia_sw (pc := 44) F 2171 46 dL_law_44 (by omega) rfl (by decide) rfl rfl (lcs_46 F hX hi hJ hj hc kk)
  by_cases g47 : w = 47
  · subst g47
    exact ia_sw (pc := 44) F 2215 47 dL_law_44 (by omega) rfl (by decide) rfl rfl (lcs_47 F hX hi hJ hj hc kk)
  by_cases g48 : w = 48
  · subst g48
    exact ia_sw (pc := 44) F 2259 48 dL_law_44 (by omega) rfl (by decide) rfl rfl (lcs_48 F hX hi hJ hj hc kk)
  by_cases g49 : w = 49
  · subst g49
    exact ia_sw (pc := 44) F 2303 49 dL_law_44 (by omega) rfl (by decide) rfl rfl (lcs_49 F hX hi hJ hj hc kk)
  by_cases g50 : w = 50
  · subst g50
    exact ia_sw (pc := 44) F 2347 50 dL_law_44 (by omega) rfl (by decide) rfl rfl (lcs_50 F hX hi hJ hj hc kk)
  by_cases g51 : w = 51
  · subst g51
    exact ia_sw (pc := 44) F 2360 51 dL_law_44 (by omega) rfl (by decide) rfl rfl (lcs_51 F hX hi hJ hj hc kk)
  refine ia_swo (pc := 44) F 2404 dL_law_44 (by omega) (Or.inr (by omega)) rfl ?_
  exact lq_wid (c2 := cells + 30) (s2 := slots + 7000) (by omega) (by omega) (kk Z V (LvI_idle hJ hj))
set_option maxRecDepth 100000 in
theorem law_loop {X : ia_X} {LX : Nat} {xs : Nat → Int32} (F : ia_Fix X RL cL_law 9 20 20000 3600000) (hX : LSc X LX xs) (hL : LX ≤ 1536) (kend : ∀ (cells slots : Nat) (ls : List (Nat × Int)) (Z : ia_Z) (V : ia_H), cells ≤ 20000 → slots ≤ 3600000 → ia_G X cells slots 2410 ls [] Z V) : ∀ (fu jj cells slots : Nat) (Z : ia_Z) (V : ia_H), 513 ≤ jj + fu → cells = 200 + 30 * jj → slots = 5000 + 7000 * jj → LvI jj Z V → ia_G X cells slots 28 [(4, ((ia_E0 + 400 : Nat) : Int)), (4, ((0 : Nat) : Int)), (4, ((99 : Nat) : Int)), (4, ((114 : Nat) : Int)), (4, ((115 : Nat) : Int)), (0, ((3 * jj : Nat) : Int)), (9, 0), (9, 0), (9, 0)] [] Z V := by
  intro fu
  induction fu with
  | zero => intro jj cells slots Z V h1 h2 h3 hJ; exact absurd hJ.1.2.2.2 (by omega)
  | succ fu ih =>
    intro jj cells slots Z V h1 h2 h3 hJ
    have hj9 := hJ.1.2.2.2
    refine ia_iload (pc := 28) F dL_law_28 rfl ?_
    refine ia_aload_n (pc := 30) F dL_law_30 rfl ?_
    refine ia_slen (pc := 31) F hX dL_law_31 ?_
    refine ia_iconst (pc := 32) F dL_law_32 ?_
    refine ia_isub (pc := 33) F dL_law_33 ?_
    refine ia_icmp_gt (pc := 34) F 2410 dL_law_34 rfl (by omega) (by omega) (fun _ => ?_) (fun hlt => ?_)
    · exact kend cells slots _ Z V (by omega) (by omega)
    · have hj : jj < 512 := by omega
      have hi : 3 * jj + 2 < LX ∧ LX ≤ 1536 := ⟨by omega, hL⟩
      refine ia_aload_n (pc := 37) F dL_law_37 rfl ?_
      refine ia_iload (pc := 38) F dL_law_38 rfl ?_
      refine ia_sl (pc := 40) F hX (3 * jj) rfl ⟨by omega, hL⟩ rfl dL_law_40 ?_
      refine ia_bipush (pc := 41) F dL_law_41 (by decide) ?_
      refine ia_iand (pc := 43) F dL_law_43 ?_
      have h63 := and63 (xs (3 * jj)).toInt
      obtain ⟨w, hw⟩ : ∃ w : Nat, ia_and (xs (3 * jj)).toInt 63 = (w : Int) := ⟨(ia_and (xs (3 * jj)).toInt 63).toNat, by omega⟩
      rw [hw]
      refine lcs_any F hX hi hJ hj ⟨by omega, by omega⟩ (fun Z9 V9 h9 => ?_) w (by omega)
      refine ia_iinc (pc := 2404) F (y := ((3 * (jj + 1) : Nat) : Int)) (ls' := [(4, ((ia_E0 + 400 : Nat) : Int)), (4, ((0 : Nat) : Int)), (4, ((99 : Nat) : Int)), (4, ((114 : Nat) : Int)), (4, ((115 : Nat) : Int)), (0, ((3 * (jj + 1) : Nat) : Int)), (9, 0), (9, 0), (9, 0)]) dL_law_2404 rfl (by omega) rfl rfl ?_
      refine ia_goto (pc := 2407) F 28 dL_law_2407 rfl ?_
      exact ih (jj + 1) (cells + 30) (slots + 7000) Z9 V9 (by omega) (by omega) (by omega) h9
