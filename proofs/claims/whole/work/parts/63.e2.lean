/-! the class: execute (made by wip/whole/exec.py) -/
set_option maxRecDepth 100000 in
set_option maxHeartbeats 1000000 in
set_option linter.constructorNameAsVariable false in
theorem c_X7_execute {Z : ia_Z} {V : ia_H} {Q : ia_O → ia_Z → ia_H → Prop} {σ : Nat → Int} {ζ : Nat → Int} {χ : Nat → Int} {π : Nat → Int} {k4 : Nat → Int} {k5 : Nat → Int} {k6 : Nat → Int} {m : Int} (n q L : Nat) (t : Nat → Int) (hZ : ZI Z) (hP : PI V) (hS : Sh 1 V σ) (hI : SI σ m) (h0 : V 0 = ζ) (h15 : V 15 = χ) (h91 : V 91 = π) (h94 : V 94 = k4) (h95 : V 95 = k5) (h96 : V 96 = k6) (hT : SB 92 Z V n t q L) (hn6 : n ≤ 60) (hχ : (0 ≤ χ 1 ∧ χ 1 < 9) ∧ 0 ≤ χ 2 ∧ χ 2 ≤ 8) (hm : m + 16 ≤ 20000) (q1 : ∀ (k : Nat) (V1 : ia_H), (∀ i, i < k → tx_mo t n i) → (tx_cW t n (tx_ps t n k) = 0) → (tx_cP t n (tx_ps t n k) = n) → (∀ i : Nat, i < k + 1 → ¬ opB (tx_K t n i) ((fun i => tx_cF t n (tx_ps t n i)) i) ((fun i => tx_cS t n (tx_ps t n i)) i) (opN (tx_K t n) (fun i => tx_cF t n (tx_ps t n i)) (fun i => tx_cS t n (tx_ps t n i)) σ i)) → PI V1 → (V1 0 = ζ) → (V1 15 = up (up χ 1 ((χ 1 + 1) % 9)) 2 (min (χ 2 + 1) 8)) → (∀ pp, pp ∉ ([0, 1, 2, 3, 4, 5, 6, 7, 15, 17, 18, 19, 20, 21, 22, 23, 24, 25, 26, 27, 28, 29, 30, 31, 32, 33, 34, 35, 36, 37, 38, 39, 40, 41, 42, 43, 44, 45, 46, 47, 48, 49, 50, 51, 52, 53, 54, 55, 56, 57, 58, 59, 60, 61, 62, 63, 64, 65, 66, 67, 68, 69, 70, 71, 72, 73, 74, 75, 76, 77, 78, 79, 80, 81, 82, 83, 84, 86, 91, 92, 94, 95, 96] : List Nat) → V1 pp = V pp) → (Sh 1 V1 (opN (tx_K t n) (fun i => tx_cF t n (tx_ps t n i)) (fun i => tx_cS t n (tx_ps t n i)) σ (k + 1))) → (Sh (17 + 7 * (χ 1).toNat) V1 σ) → (∀ t1 : Nat → Int, SB 92 Z V1 0 t1 q L) → (∀ p : Nat, p < 17 + 7 * (χ 1).toNat ∨ 17 + 7 * (χ 1).toNat + 6 < p → p ∉ ([0, 1, 2, 3, 4, 5, 6, 7, 15, 80, 81, 82, 83, 84, 86, 91, 92, 94, 95, 96] : List Nat) → V1 p = V p) → Q (.inl (some (0, ((k : Int) + 1)))) Z V1) (q2 : ∀ (k : Nat) (V1 : ia_H), (∀ i, i < k → tx_mo t n i) → (¬ tx_mo t n k) → (tx_cP t n (tx_ps t n k) ≤ n ∧ (tx_cW t n (tx_ps t n k) = 1 ∨ tx_cP t n (tx_ps t n k) < n)) → PI V1 → (V1 0 = up ζ 9 ((tx_cP t n (tx_ps t n k) : Nat) : Int)) → (∀ pp, pp ∉ ([0, 1, 2, 3, 4, 5, 6, 7, 15, 17, 18, 19, 20, 21, 22, 23, 24, 25, 26, 27, 28, 29, 30, 31, 32, 33, 34, 35, 36, 37, 38, 39, 40, 41, 42, 43, 44, 45, 46, 47, 48, 49, 50, 51, 52, 53, 54, 55, 56, 57, 58, 59, 60, 61, 62, 63, 64, 65, 66, 67, 68, 69, 70, 71, 72, 73, 74, 75, 76, 77, 78, 79, 80, 81, 82, 83, 84, 86, 91, 92, 94, 95, 96] : List Nat) → V1 pp = V pp) → (∀ t1 : Nat → Int, SB 92 Z V1 0 t1 q L) → (∀ p : Nat, p ∉ ([0, 91, 92, 94, 95, 96] : List Nat) → V1 p = V p) → Q (.inr "java/lang/IllegalArgumentException") Z V1) (q3 : ∀ (k j : Nat) (V1 : ia_H), (∀ i, i < k → tx_mo t n i) → (tx_cW t n (tx_ps t n k) = 0) → (tx_cP t n (tx_ps t n k) = n) → (j < k + 1) → (∀ i : Nat, i < j → ¬ opB (tx_K t n i) ((fun i => tx_cF t n (tx_ps t n i)) i) ((fun i => tx_cS t n (tx_ps t n i)) i) (opN (tx_K t n) (fun i => tx_cF t n (tx_ps t n i)) (fun i => tx_cS t n (tx_ps t n i)) σ i)) → (¬ ¬ opB (tx_K t n j) ((fun i => tx_cF t n (tx_ps t n i)) j) ((fun i => tx_cS t n (tx_ps t n i)) j) (opN (tx_K t n) (fun i => tx_cF t n (tx_ps t n i)) (fun i => tx_cS t n (tx_ps t n i)) σ j)) → PI V1 → (V1 0 = up ζ 10 (j : Int)) → (V1 15 = χ) → (∀ pp, pp ∉ ([0, 1, 2, 3, 4, 5, 6, 7, 15, 17, 18, 19, 20, 21, 22, 23, 24, 25, 26, 27, 28, 29, 30, 31, 32, 33, 34, 35, 36, 37, 38, 39, 40, 41, 42, 43, 44, 45, 46, 47, 48, 49, 50, 51, 52, 53, 54, 55, 56, 57, 58, 59, 60, 61, 62, 63, 64, 65, 66, 67, 68, 69, 70, 71, 72, 73, 74, 75, 76, 77, 78, 79, 80, 81, 82, 83, 84, 86, 91, 92, 94, 95, 96] : List Nat) → V1 pp = V pp) → (Sh 1 V1 σ) → (∀ t1 : Nat → Int, SB 92 Z V1 0 t1 q L) → (∀ p : Nat, p < 17 + 7 * (χ 1).toNat ∨ 17 + 7 * (χ 1).toNat + 6 < p → p ∉ ([0, 1, 2, 3, 4, 5, 6, 7, 15, 80, 81, 82, 83, 84, 86, 91, 92, 94, 95, 96] : List Nat) → V1 p = V p) → Q (.inr "java/lang/IllegalStateException") Z V1) : ia_K yX7_execute cX7_execute 3 (some .int) [(4, ((0 : Nat) : Int))] Z V 9 2 310 Q := by
  refine ia_start RX7 "execute" ⟨by decide, rfl, rfl⟩ (Nat.le_of_ble_eq_true rfl) (ia_tg rfl) (fun X F M => ?_)
  show ia_G X 0 0 0 [(4, ((0 : Nat) : Int)), (9, 0), (9, 0)] [] Z V
  obtain ⟨s0, s1, s2, s3, s4, s5, s6, s7, s18, sb, sw, se, sp⟩ := id hI
  refine ia_aload_n (pc := 0) F dX7_execute_0 rfl ?_
  refine jg (pc := 1) F (z0 hZ) cls10 f10_6 (hP 0 6 91 rfl) il_RX7_50 dX7_execute_1 ?_
  refine jV (pc := 4) F 0 0 (z91 hZ) cls5.1 (c_X2_read n q L t hZ hP h91 h94 h95 h96 hT (SB_rng hT) hn6 (fun k_1 V_2 h_3 h_4 h_5 p_6 w_7 w_8 w_9 w_10 f_11 => ?_) (fun k_12 V_13 h_14 h_15 h_16 p_17 w_18 f_19 => ?_)) rfl ⟨k_X2_read, il_RX7_292, im_X2_read, is_X2_read, ii_RX2⟩ 0 rfl hd_X2_read ⟨by decide, by decide, by decide, by decide, Nat.le_of_ble_eq_true rfl⟩ dX7_execute_4
  · refine j1 ?_
    refine ia_istore_n (pc := 7) F (ls' := [(4, ((0 : Nat) : Int)), (0, 1), (9, 0)]) dX7_execute_7 (Nat.le_of_ble_eq_true rfl) rfl rfl ?_
    refine ia_aload_n (pc := 8) F dX7_execute_8 rfl ?_
    refine jg (pc := 9) F (z0 hZ) cls10 f10_6 (p_6 0 6 91 rfl) il_RX7_50 dX7_execute_9 ?_
    refine jV (pc := 12) F 1 300 (z91 hZ) cls5.1 (c_X2_empty n q L t hZ p_6 (SB_fr hT f_11 (by decide) (by decide)) (fun V_20 p_21 f_22 x_23 => ?_)) rfl ⟨k_X2_empty, il_RX7_295, im_X2_empty, is_X2_empty, ii_RX2⟩ 0 rfl hd_X2_empty ⟨by decide, by decide, by decide, by decide, Nat.le_of_ble_eq_true rfl⟩ dX7_execute_12
    refine j0 ?_
    refine ia_iload_n (pc := 15) F dX7_execute_15 rfl ?_
    refine ia_if_ne (pc := 16) F 41 dX7_execute_16 rfl (by omega) (fun _ => ?_) (fun h9 => absurd h9 (by omega))
    refine ia_aload_n (pc := 41) F dX7_execute_41 rfl ?_
    refine jg (pc := 42) F (z0 hZ) cls10 f10_2 (p_21 0 2 15 rfl) il_RX7_22 dX7_execute_42 ?_
    refine ia_aload_n (pc := 45) F dX7_execute_45 rfl ?_
    refine jg (pc := 46) F (z0 hZ) cls10 f10_0 (p_21 0 0 1 rfl) il_RX7_12 dX7_execute_46 ?_
    refine jV (pc := 49) F 1 300 (z15 hZ) cls6.1 (c_X3_note hZ p_21 (Sh_fr (Sh_fr hS f_11 (by decide)) f_22 (by decide)) ((f_22 15 (by decide)).trans ((f_11 15 (by decide)).trans h15)) (by omega) (fun V_24 p_25 f_26 x_27 x_28 => ?_)) rfl ⟨k_X3_note, il_RX7_306, im_X3_note, is_X3_note, ii_RX3⟩ 1 rfl hd_X3_note ⟨by decide, by decide, by decide, by decide, Nat.le_of_ble_eq_true rfl⟩ dX7_execute_49
    refine j0 ?_
    have hcc := tx_ps_rng k_1 h_3
    have hww := tx_mo_W h_3 h_4
    have hkk : ∀ i : Nat, i < k_1 + 1 → tx_cK t n (tx_ps t n i) = tx_K t n i := fun i hi => tx_K_eq (hww i hi)
    have r94 := ((f_26 94 (by decide)).trans ((f_22 94 (by decide)).trans w_8))
    have r95 := ((f_26 95 (by decide)).trans ((f_22 95 (by decide)).trans w_9))
    have r96 := ((f_26 96 (by decide)).trans ((f_22 96 (by decide)).trans w_10))
    refine ia_aload_n (pc := 52) F dX7_execute_52 rfl ?_
    refine jV (pc := 53) F 1 300 (z0 hZ) cls10.1 (c_X7_carryOutText (k_1 + 1) (tx_K t n) (fun i => tx_cF t n (tx_ps t n i)) (fun i => tx_cS t n (tx_ps t n i)) hZ p_25 (Sh_fr (Sh_fr (Sh_fr hS f_11 (by decide)) f_22 (by decide)) f_26 (by decide)) hI ((f_26 91 (by decide)).trans ((f_22 91 (by decide)).trans w_7)) ((f_26 94 (by decide)).trans ((f_22 94 (by decide)).trans w_8)) ((f_26 95 (by decide)).trans ((f_22 95 (by decide)).trans w_9)) ((f_26 96 (by decide)).trans ((f_22 96 (by decide)).trans w_10)) (up_self _ _ _) (by omega) (fun i hi => by rw [mgk_lt hi, hkk i hi]) (fun i hi => mgk_lt hi) (fun i hi => mgk_lt hi) (fun _ => tx_K_lt) (fun _ => tx_cF_rng) (fun _ => tx_cS_rng) hm (fun V_29 h_30 p_31 f_32 x_33 => ?_) (fun j_34 V_35 h_36 h_37 h_38 p_39 f_40 => ?_)) rfl ⟨k_X7_carryOutText, il_RX7_309, im_X7_carryOutText, is_X7_carryOutText, ii_RX7⟩ 0 rfl hd_X7_carryOutText ⟨by decide, by decide, by decide, by decide, Nat.le_of_ble_eq_true rfl⟩ dX7_execute_53
    · refine j1 ?_
      refine ia_istore_n (pc := 56) F (ls' := [(4, ((0 : Nat) : Int)), (0, 1), (0, (-1))]) dX7_execute_56 (Nat.le_of_ble_eq_true rfl) rfl rfl ?_
      have n_sl : Sh (17 + 7 * (χ 1).toNat) V_29 σ := Sh_mv x_28 (fun p h1 h2 => f_32 p (by simp; omega))
      have n_sb : ∀ t1 : Nat → Int, SB 92 Z V_29 0 t1 q L := fun t1 => SB_fr (SB_fr (x_23 t1) f_26 (by decide) (by decide)) f_32 (by decide) (by decide)
      have n_hf : ∀ p : Nat, p < 17 + 7 * (χ 1).toNat ∨ 17 + 7 * (χ 1).toNat + 6 < p → p ∉ ([0, 1, 2, 3, 4, 5, 6, 7, 15, 80, 81, 82, 83, 84, 86, 91, 92, 94, 95, 96] : List Nat) → V_29 p = V p := fun p hp hq => ((f_32 p (by simp at hq ⊢; omega)).trans (x_27 p hp)).trans ((f_22 p (by simp at hq ⊢; omega)).trans (f_11 p (by simp at hq ⊢; omega)))
      refine ia_iload_n (pc := 57) F dX7_execute_57 rfl ?_
      refine ia_iconst (pc := 58) F dX7_execute_58 ?_
      refine ia_icmp_eq (pc := 59) F 89 dX7_execute_59 rfl (by omega) (by omega) (fun _ => ?_) (fun h9 => absurd h9 (by omega))
      refine ia_aload_n (pc := 89) F dX7_execute_89 rfl ?_
      refine jg (pc := 90) F (z0 hZ) cls10 f10_2 (p_31 0 2 15 rfl) il_RX7_22 dX7_execute_90 ?_
      refine jV (pc := 93) F 1 300 (z15 hZ) cls6.1 (c_X3_keepNoted hZ p_31 ((f_32 15 (by decide)).trans ((f_26 15 (by decide)).trans ((f_22 15 (by decide)).trans ((f_11 15 (by decide)).trans h15)))) (by omega) (fun V_41 p_42 w_43 f_44 => ?_)) rfl ⟨k_X3_keepNoted, il_RX7_320, im_X3_keepNoted, is_X3_keepNoted, ii_RX3⟩ 0 rfl hd_X3_keepNoted ⟨by decide, by decide, by decide, by decide, Nat.le_of_ble_eq_true rfl⟩ dX7_execute_93
      refine j0 ?_
      refine ia_aload_n (pc := 96) F dX7_execute_96 rfl ?_
      refine jg (pc := 97) F (z0 hZ) cls10 f10_6 (p_42 0 6 91 rfl) il_RX7_50 dX7_execute_97 ?_
      refine jg (pc := 100) F (x := ((k_1 : Int) + 1)) (z91 hZ) cls5 f5_4 ((congrFun ((f_44 91 (by decide)).trans ((f_32 91 (by decide)).trans ((f_26 91 (by decide)).trans ((f_22 91 (by decide)).trans w_7)))) 4).trans (up_self _ _ _)) il_RX7_323 dX7_execute_100 ?_
      refine ia_ireturn (pc := 103) F M (by decide) (by decide) dX7_execute_103 ?_
      exact q1 k_1 _ h_3 h_4 h_5 h_30 p_42 ((f_44 0 (by decide)).trans ((f_32 0 (by decide)).trans ((f_26 0 (by decide)).trans ((f_22 0 (by decide)).trans ((f_11 0 (by decide)).trans h0))))) w_43 (Fr_c (Fr_c (Fr_c (Fr_c (Fr_c (Fr_0 (V := V) (S := [0, 1, 2, 3, 4, 5, 6, 7, 15, 17, 18, 19, 20, 21, 22, 23, 24, 25, 26, 27, 28, 29, 30, 31, 32, 33, 34, 35, 36, 37, 38, 39, 40, 41, 42, 43, 44, 45, 46, 47, 48, 49, 50, 51, 52, 53, 54, 55, 56, 57, 58, 59, 60, 61, 62, 63, 64, 65, 66, 67, 68, 69, 70, 71, 72, 73, 74, 75, 76, 77, 78, 79, 80, 81, 82, 83, 84, 86, 91, 92, 94, 95, 96])) f_11 (by decide)) f_22 (by decide)) f_26 (by decide)) f_32 (by decide)) f_44 (by decide)) (Sh_fr x_33 f_44 (by decide)) (Sh_mv n_sl (fun p h1 h2 => f_44 p (by simp; omega))) (fun t1 => SB_fr (n_sb t1) f_44 (by decide) (by decide)) (fun p hp hq => (f_44 p (by simp at hq ⊢; omega)).trans (n_hf p hp hq))
    · refine j1 ?_
      refine ia_istore_n (pc := 56) F (ls' := [(4, ((0 : Nat) : Int)), (0, 1), (0, (j_34 : Int))]) dX7_execute_56 (Nat.le_of_ble_eq_true rfl) rfl rfl ?_
      have n_sl : Sh (17 + 7 * (χ 1).toNat) V_35 σ := Sh_mv x_28 (fun p h1 h2 => f_40 p (by simp; omega))
      have n_sb : ∀ t1 : Nat → Int, SB 92 Z V_35 0 t1 q L := fun t1 => SB_fr (SB_fr (x_23 t1) f_26 (by decide) (by decide)) f_40 (by decide) (by decide)
      have n_hf : ∀ p : Nat, p < 17 + 7 * (χ 1).toNat ∨ 17 + 7 * (χ 1).toNat + 6 < p → p ∉ ([0, 1, 2, 3, 4, 5, 6, 7, 15, 80, 81, 82, 83, 84, 86, 91, 92, 94, 95, 96] : List Nat) → V_35 p = V p := fun p hp hq => ((f_40 p (by simp at hq ⊢; omega)).trans (x_27 p hp)).trans ((f_22 p (by simp at hq ⊢; omega)).trans (f_11 p (by simp at hq ⊢; omega)))
      refine ia_iload_n (pc := 57) F dX7_execute_57 rfl ?_
      refine ia_iconst (pc := 58) F dX7_execute_58 ?_
      refine ia_icmp_eq (pc := 59) F 89 dX7_execute_59 rfl (by omega) (by omega) (fun h9 => absurd h9 (by omega)) (fun _ => ?_)
      refine ia_aload_n (pc := 62) F dX7_execute_62 rfl ?_
      refine jg (pc := 63) F (z0 hZ) cls10 f10_2 (p_39 0 2 15 rfl) il_RX7_22 dX7_execute_63 ?_
      refine ia_aload_n (pc := 66) F dX7_execute_66 rfl ?_
      refine jg (pc := 67) F (z0 hZ) cls10 f10_0 (p_39 0 0 1 rfl) il_RX7_12 dX7_execute_67 ?_
      refine jV (pc := 70) F 1 300 (z15 hZ) cls6.1 (c_X3_takeBackNoted σ hZ p_39 ((f_40 15 (by decide)).trans ((f_26 15 (by decide)).trans ((f_22 15 (by decide)).trans ((f_11 15 (by decide)).trans h15)))) (by omega) n_sl (fun V_45 p_46 f_47 x_48 => ?_)) rfl ⟨k_X3_takeBackNoted, il_RX7_312, im_X3_takeBackNoted, is_X3_takeBackNoted, ii_RX3⟩ 1 rfl hd_X3_takeBackNoted ⟨by decide, by decide, by decide, by decide, Nat.le_of_ble_eq_true rfl⟩ dX7_execute_70
      refine j0 ?_
      refine ia_aload_n (pc := 73) F dX7_execute_73 rfl ?_
      refine ia_iload_n (pc := 74) F dX7_execute_74 rfl ?_
      refine jp (pc := 75) F (z0 hZ) cls10 f10_10 rfl (ia_nI rfl _) il_RX7_69 dX7_execute_75 ?_
      refine th_RX7_315_317_319 (pc := 78) F M dX7_execute_78 dX7_execute_81 dX7_execute_82 dX7_execute_85 dX7_execute_88 ⟨by decide, by decide, by decide, by decide, by decide⟩ ?_
      exact q3 k_1 j_34 _ h_3 h_4 h_5 h_36 h_37 h_38 (PI_u p_46 rfl) (rowU ((f_47 0 (by decide)).trans ((f_40 0 (by decide)).trans ((f_26 0 (by decide)).trans ((f_22 0 (by decide)).trans ((f_11 0 (by decide)).trans h0)))))) ((rowN (by decide)).trans ((f_47 15 (by decide)).trans ((f_40 15 (by decide)).trans ((f_26 15 (by decide)).trans ((f_22 15 (by decide)).trans ((f_11 15 (by decide)).trans h15)))))) (Fr_u (Fr_c (Fr_c (Fr_c (Fr_c (Fr_c (Fr_0 (V := V) (S := [0, 1, 2, 3, 4, 5, 6, 7, 15, 17, 18, 19, 20, 21, 22, 23, 24, 25, 26, 27, 28, 29, 30, 31, 32, 33, 34, 35, 36, 37, 38, 39, 40, 41, 42, 43, 44, 45, 46, 47, 48, 49, 50, 51, 52, 53, 54, 55, 56, 57, 58, 59, 60, 61, 62, 63, 64, 65, 66, 67, 68, 69, 70, 71, 72, 73, 74, 75, 76, 77, 78, 79, 80, 81, 82, 83, 84, 86, 91, 92, 94, 95, 96])) f_11 (by decide)) f_22 (by decide)) f_26 (by decide)) f_40 (by decide)) f_47 (by decide)) (by decide)) (Sh_u x_48 (by decide)) (fun t1 => SB_u (SB_fr (n_sb t1) f_47 (by decide) (by decide)) (by decide) (by decide)) (fun p hp hq => (rowN (by simp at hq; omega)).trans ((f_47 p (by simp at hq ⊢; omega)).trans (n_hf p hp hq)))
  · refine j1 ?_
    refine ia_istore_n (pc := 7) F (ls' := [(4, ((0 : Nat) : Int)), (0, 0), (9, 0)]) dX7_execute_7 (Nat.le_of_ble_eq_true rfl) rfl rfl ?_
    refine ia_aload_n (pc := 8) F dX7_execute_8 rfl ?_
    refine jg (pc := 9) F (z0 hZ) cls10 f10_6 (p_17 0 6 91 rfl) il_RX7_50 dX7_execute_9 ?_
    refine jV (pc := 12) F 1 300 (z91 hZ) cls5.1 (c_X2_empty n q L t hZ p_17 (SB_fr hT f_19 (by decide) (by decide)) (fun V_49 p_50 f_51 x_52 => ?_)) rfl ⟨k_X2_empty, il_RX7_295, im_X2_empty, is_X2_empty, ii_RX2⟩ 0 rfl hd_X2_empty ⟨by decide, by decide, by decide, by decide, Nat.le_of_ble_eq_true rfl⟩ dX7_execute_12
    refine j0 ?_
    refine ia_iload_n (pc := 15) F dX7_execute_15 rfl ?_
    refine ia_if_ne (pc := 16) F 41 dX7_execute_16 rfl (by omega) (fun h9 => absurd h9 (by omega)) (fun _ => ?_)
    refine ia_aload_n (pc := 19) F dX7_execute_19 rfl ?_
    refine ia_aload_n (pc := 20) F dX7_execute_20 rfl ?_
    refine jg (pc := 21) F (z0 hZ) cls10 f10_6 (p_50 0 6 91 rfl) il_RX7_50 dX7_execute_21 ?_
    refine jg (pc := 24) F (x := ((tx_cP t n (tx_ps t n k_12) : Nat) : Int)) (z91 hZ) cls5 f5_5 ((congrFun ((f_51 91 (by decide)).trans w_18) 5).trans (up_self _ _ _)) il_RX7_298 dX7_execute_24 ?_
    refine jp (pc := 27) F (z0 hZ) cls10 f10_9 rfl (ia_nI rfl _) il_RX7_65 dX7_execute_27 ?_
    refine th_RX7_301_303_305 (pc := 30) F M dX7_execute_30 dX7_execute_33 dX7_execute_34 dX7_execute_37 dX7_execute_40 ⟨by decide, by decide, by decide, by decide, by decide⟩ ?_
    exact q2 k_12 _ h_14 h_15 h_16 (PI_u p_50 rfl) (rowU ((f_51 0 (by decide)).trans ((f_19 0 (by decide)).trans h0))) (Fr_u (Fr_c (Fr_c (Fr_0 (V := V) (S := [0, 1, 2, 3, 4, 5, 6, 7, 15, 17, 18, 19, 20, 21, 22, 23, 24, 25, 26, 27, 28, 29, 30, 31, 32, 33, 34, 35, 36, 37, 38, 39, 40, 41, 42, 43, 44, 45, 46, 47, 48, 49, 50, 51, 52, 53, 54, 55, 56, 57, 58, 59, 60, 61, 62, 63, 64, 65, 66, 67, 68, 69, 70, 71, 72, 73, 74, 75, 76, 77, 78, 79, 80, 81, 82, 83, 84, 86, 91, 92, 94, 95, 96])) f_19 (by decide)) f_51 (by decide)) (by decide)) (fun t1 => SB_u (x_52 t1) (by decide) (by decide)) (fun p hp => (rowN (by simp at hp; omega)).trans ((f_51 p (by simp at hp ⊢; omega)).trans (f_19 p (by simp at hp ⊢; omega))))
