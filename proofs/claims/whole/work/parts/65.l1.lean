/-! lines: the class (made by wip/whole/lines.py) -/
def ln_en (σ : Nat → Int) (e : Int) : Nat := (0 + wd_n e + 1 + wd_n (col σ e.toNat) + 1 + wd_n (prt σ e.toNat) + 1 + wd_n (run σ e.toNat))
def ln_et (κ σ : Nat → Int) (e : Int) : Nat → Int := (wd_a (up (wd_a (up (wd_a (up (wd_a κ 0 e) (0 + wd_n e) 99) (0 + wd_n e + 1) (col σ e.toNat)) (0 + wd_n e + 1 + wd_n (col σ e.toNat)) 58) (0 + wd_n e + 1 + wd_n (col σ e.toNat) + 1) (prt σ e.toNat)) (0 + wd_n e + 1 + wd_n (col σ e.toNat) + 1 + wd_n (prt σ e.toNat)) 47) (0 + wd_n e + 1 + wd_n (col σ e.toNat) + 1 + wd_n (prt σ e.toNat) + 1) (run σ e.toNat))
def ln_wn (σ : Nat → Int) : Nat := (0 + wd_n (wel σ 0) + 1 + wd_n (wel σ 1) + 1 + wd_n (wel σ 2) + 1 + wd_n (wel σ 3) + 1 + wd_n (wel σ 4) + 1 + wd_n (wel σ 5) + 1 + wd_n (wel σ 6) + 1 + wd_n (wel σ 7) + 1 + wd_n (wel σ 8) + 1 + wd_n (wel σ 9))
def ln_wt (κ σ : Nat → Int) : Nat → Int := (wd_a (up (wd_a (up (wd_a (up (wd_a (up (wd_a (up (wd_a (up (wd_a (up (wd_a (up (wd_a (up (wd_a κ 0 (wel σ 0)) (0 + wd_n (wel σ 0)) 32) (0 + wd_n (wel σ 0) + 1) (wel σ 1)) (0 + wd_n (wel σ 0) + 1 + wd_n (wel σ 1)) 32) (0 + wd_n (wel σ 0) + 1 + wd_n (wel σ 1) + 1) (wel σ 2)) (0 + wd_n (wel σ 0) + 1 + wd_n (wel σ 1) + 1 + wd_n (wel σ 2)) 32) (0 + wd_n (wel σ 0) + 1 + wd_n (wel σ 1) + 1 + wd_n (wel σ 2) + 1) (wel σ 3)) (0 + wd_n (wel σ 0) + 1 + wd_n (wel σ 1) + 1 + wd_n (wel σ 2) + 1 + wd_n (wel σ 3)) 32) (0 + wd_n (wel σ 0) + 1 + wd_n (wel σ 1) + 1 + wd_n (wel σ 2) + 1 + wd_n (wel σ 3) + 1) (wel σ 4)) (0 + wd_n (wel σ 0) + 1 + wd_n (wel σ 1) + 1 + wd_n (wel σ 2) + 1 + wd_n (wel σ 3) + 1 + wd_n (wel σ 4)) 32) (0 + wd_n (wel σ 0) + 1 + wd_n (wel σ 1) + 1 + wd_n (wel σ 2) + 1 + wd_n (wel σ 3) + 1 + wd_n (wel σ 4) + 1) (wel σ 5)) (0 + wd_n (wel σ 0) + 1 + wd_n (wel σ 1) + 1 + wd_n (wel σ 2) + 1 + wd_n (wel σ 3) + 1 + wd_n (wel σ 4) + 1 + wd_n (wel σ 5)) 32) (0 + wd_n (wel σ 0) + 1 + wd_n (wel σ 1) + 1 + wd_n (wel σ 2) + 1 + wd_n (wel σ 3) + 1 + wd_n (wel σ 4) + 1 + wd_n (wel σ 5) + 1) (wel σ 6)) (0 + wd_n (wel σ 0) + 1 + wd_n (wel σ 1) + 1 + wd_n (wel σ 2) + 1 + wd_n (wel σ 3) + 1 + wd_n (wel σ 4) + 1 + wd_n (wel σ 5) + 1 + wd_n (wel σ 6)) 32) (0 + wd_n (wel σ 0) + 1 + wd_n (wel σ 1) + 1 + wd_n (wel σ 2) + 1 + wd_n (wel σ 3) + 1 + wd_n (wel σ 4) + 1 + wd_n (wel σ 5) + 1 + wd_n (wel σ 6) + 1) (wel σ 7)) (0 + wd_n (wel σ 0) + 1 + wd_n (wel σ 1) + 1 + wd_n (wel σ 2) + 1 + wd_n (wel σ 3) + 1 + wd_n (wel σ 4) + 1 + wd_n (wel σ 5) + 1 + wd_n (wel σ 6) + 1 + wd_n (wel σ 7)) 32) (0 + wd_n (wel σ 0) + 1 + wd_n (wel σ 1) + 1 + wd_n (wel σ 2) + 1 + wd_n (wel σ 3) + 1 + wd_n (wel σ 4) + 1 + wd_n (wel σ 5) + 1 + wd_n (wel σ 6) + 1 + wd_n (wel σ 7) + 1) (wel σ 8)) (0 + wd_n (wel σ 0) + 1 + wd_n (wel σ 1) + 1 + wd_n (wel σ 2) + 1 + wd_n (wel σ 3) + 1 + wd_n (wel σ 4) + 1 + wd_n (wel σ 5) + 1 + wd_n (wel σ 6) + 1 + wd_n (wel σ 7) + 1 + wd_n (wel σ 8)) 32) (0 + wd_n (wel σ 0) + 1 + wd_n (wel σ 1) + 1 + wd_n (wel σ 2) + 1 + wd_n (wel σ 3) + 1 + wd_n (wel σ 4) + 1 + wd_n (wel σ 5) + 1 + wd_n (wel σ 6) + 1 + wd_n (wel σ 7) + 1 + wd_n (wel σ 8) + 1) (wel σ 9))
theorem ln_en_le {σ : Nat → Int} {e : Int} : ln_en σ e ≤ 39 := by
  unfold ln_en
  have d0 := wd_n_rng (v := e)
  have d2 := wd_n_rng (v := (col σ e.toNat))
  have d4 := wd_n_rng (v := (prt σ e.toNat))
  have d6 := wd_n_rng (v := (run σ e.toNat))
  omega
theorem ln_wn_le {σ : Nat → Int} : ln_wn σ ≤ 39 := by
  unfold ln_wn
  have d0 := wd_n_rng (v := (wel σ 0))
  have d2 := wd_n_rng (v := (wel σ 1))
  have d4 := wd_n_rng (v := (wel σ 2))
  have d6 := wd_n_rng (v := (wel σ 3))
  have d8 := wd_n_rng (v := (wel σ 4))
  have d10 := wd_n_rng (v := (wel σ 5))
  have d12 := wd_n_rng (v := (wel σ 6))
  have d14 := wd_n_rng (v := (wel σ 7))
  have d16 := wd_n_rng (v := (wel σ 8))
  have d18 := wd_n_rng (v := (wel σ 9))
  omega
theorem BX_e {b n q L n' : Nat} {Z : ia_Z} {V V1 : ia_H} {t t' : Nat → Int} (h : SB b Z V n t q L) (h1 : SB b Z V1 n' t' q L) (hF : ∀ pp, pp ∉ ([b] : List Nat) → V1 pp = V pp) : BX b 0 Z V Z V1 :=
  ⟨⟨Nat.le_refl _, Nat.le_refl _⟩, fun _ _ => ⟨rfl, rfl⟩, fun p _ hb _ => hF p (by simp; exact hb), Or.inl (h1.2.2.1.trans h.2.2.1.symm)⟩
theorem wd_b1 {v : Int} {f : Nat → Int} {n : Nat} (h : 0 ≤ v ∧ v < 10) : up f n (48 + v / 1 % 10) = wd_a f n v := by
  rw [← wd_a1 h, show v / 1 % 10 = v by omega]
theorem wd_b2 {v : Int} {f : Nat → Int} {n : Nat} (h : 10 ≤ v ∧ v < 100) : up (up f n (48 + v / 10 % 10)) (n + 1) (48 + v / 1 % 10) = wd_a f n v := by
  rw [← wd_a2 h, up_comm (by omega), show v / 10 % 10 = v / 10 by omega, show v / 1 % 10 = v % 10 by omega]
theorem wd_b3 {v : Int} {f : Nat → Int} {n : Nat} (h : 100 ≤ v ∧ v ≤ 999) : up (up (up f n (48 + v / 100 % 10)) (n + 1) (48 + v / 10 % 10)) (n + 2) (48 + v / 1 % 10) = wd_a f n v := by
  rw [← wd_a3 h, show v / 100 % 10 = v / 100 by omega, show v / 1 % 10 = v % 10 by omega, up_comm (i := n + 1) (j := n + 2) (by omega), up_comm (i := n) (j := n + 2) (by omega), up_comm (i := n) (j := n + 1) (by omega)]
set_option maxRecDepth 100000 in
set_option maxHeartbeats 4000000 in
theorem c_X7_writeEdition {Z : ia_Z} {V : ia_H} {Q : ia_O → ia_Z → ia_H → Prop} {σ : Nat → Int} {m : Int} (e : Int) (n q L : Nat) (t : Nat → Int) (κ : Nat → Int) (hZ : ZI Z) (hP : PI V) (hS : Sh 1 V σ) (hI : SI σ m)  (re : -2147483648 ≤ e ∧ e ≤ 2147483647) (hU : SB 97 Z V n t q L) (hz : Z.2.2 ≤ 800000) (q1 : ∀ (Z1 : ia_Z) (V1 : ia_H) (q1 L1 : Nat), (0 ≤ e ∧ e < σ 0) → (SB 97 Z1 V1 (ln_en σ e) (ln_et κ σ e) q1 L1) → (BX 97 7 Z V Z1 V1) → Q (.inl (some (0, ((ln_en σ e : Nat) : Int)))) Z1 V1) (q2 : (¬ (0 ≤ e ∧ e < σ 0)) → Q (.inr "java/lang/IndexOutOfBoundsException") Z V) : ia_K yX7_writeEdition cX7_writeEdition 2 (some .int) [(4, ((0 : Nat) : Int)), (0, e)] Z V 9 8 2400 Q := by
  refine ia_start RX7 "writeEdition" ⟨by decide, rfl, rfl⟩ (Nat.le_of_ble_eq_true rfl) (ia_tg rfl) (fun X F M => ?_)
  show ia_G X 0 0 0 [(4, ((0 : Nat) : Int)), (0, e)] [] Z V
  obtain ⟨s0, s1, s2, s3, s4, s5, s6, s7, s18, sb, sw, se, sp⟩ := id hI
  have d0 := wd_n_rng (v := e)
  have d2 := wd_n_rng (v := (col σ e.toNat))
  have d4 := wd_n_rng (v := (prt σ e.toNat))
  have d6 := wd_n_rng (v := (run σ e.toNat))
  refine ia_aload_n (pc := 0) F dX7_writeEdition_0 rfl ?_
  refine jg (pc := 1) F (z0 hZ) cls10 f10_0 (hP 0 0 1 rfl) il_RX7_12 dX7_writeEdition_1 ?_
  refine ia_iload_n (pc := 4) F dX7_writeEdition_4 rfl ?_
  refine jV (pc := 5) F 0 0 (z1 hZ) cls9.1 (c_X6_hasEdition e hZ hP hS hI (by omega) (fun h_1 => ?_) (fun h_2 => ?_)) rfl ⟨k_X6_hasEdition, il_RX7_135, im_X6_hasEdition, is_X6_hasEdition, ii_RX6⟩ 1 rfl hd_X6_hasEdition ⟨by decide, by decide, by decide, by decide, Nat.le_of_ble_eq_true rfl⟩ dX7_writeEdition_5
  · refine j1 ?_
    refine jS (pc := 8) F 0 0 (c_X7_requireIndex_1  ?_) rfl ⟨k_X7_requireIndex, il_RX7_138, it_X7_requireIndex, ii_RX7⟩ rfl 1 rfl hd_X7_requireIndex ⟨by decide, by decide, by decide, by decide, Nat.le_of_ble_eq_true rfl⟩ dX7_writeEdition_8
    refine j0 ?_
    refine ia_aload_n (pc := 11) F dX7_writeEdition_11 rfl ?_
    refine jg (pc := 12) F (z0 hZ) cls10 f10_7 (hP 0 7 97 rfl) il_RX7_57 dX7_writeEdition_12 ?_
    refine ia_iconst (pc := 15) F dX7_writeEdition_15 ?_
    refine jV (pc := 16) F 1 300 (z97 hZ) cls1.1 (c_J4_setLength0 97 q n L t hP hU (fun _ => rfl) (fun V_3 p_4 f_5 x_6 => ?_)) rfl ⟨k_J4_setLength_d00df, il_RX7_243, im_J4_setLength_d00df, is_J4_setLength_d00df, ii_RJ4⟩ 1 rfl hd_J4_setLength_d00df ⟨by decide, by decide, by decide, by decide, Nat.le_of_ble_eq_true rfl⟩ dX7_writeEdition_16
    refine j0 ?_
    have hU0 := x_6 κ
    have hB0 := BX_e hU hU0 f_5
    refine ia_aload_n (pc := 19) F dX7_writeEdition_19 rfl ?_
    refine jg (pc := 20) F (z0 hZ) cls10 f10_7 (p_4 0 7 97 rfl) il_RX7_57 dX7_writeEdition_20 ?_
    refine ia_iload_n (pc := 23) F dX7_writeEdition_23 rfl ?_
    refine jV (pc := 24) F 2 600 (z97 hZ) cls1.1 (c_J4_appendI 97 q 0 L κ e hU0 (by omega) (by omega) ⟨hZ.1, by omega⟩ (fun Z1_7 V1_8 q1_9 L1_10 h_11 h_12 => ?_)) rfl ⟨k_J4_append_bf812, il_RX7_247, im_J4_append_bf812, is_J4_append_bf812, ii_RJ4⟩ 1 rfl hd_J4_append_bf812 ⟨by decide, by decide, by decide, by decide, Nat.le_of_ble_eq_true rfl⟩ dX7_writeEdition_24
    have o9 := hU0
    have hP9 := BX_PI h_12 p_4 hZ (Or.inr rfl) o9.2.2.1 o9.2.2.2.2.2.2.2.2
    have hS9 := Sh_BX (Sh_fr hS f_5 (by decide)) h_12 hZ (Or.inr rfl) o9.2.2.1 o9.2.2.2.2.2.2.2.2
    have hB9 := BX_trans hB0 h_12
    have z9 := h_12.1
    have hZ := BX_ZI h_12 hZ (by omega)
    refine j1 ?_
    refine ia_pop (pc := 27) F dX7_writeEdition_27 (Or.inr (Or.inr rfl)) ?_
    refine ia_aload_n (pc := 28) F dX7_writeEdition_28 rfl ?_
    refine jg (pc := 29) F (z0 hZ) cls10 f10_7 (hP9 0 7 97 rfl) il_RX7_57 dX7_writeEdition_29 ?_
    refine ia_bipush (pc := 32) F dX7_writeEdition_32 (by decide) ?_
    refine jV (pc := 34) F 3 900 (z97 hZ) cls1.1 (c_J4_appendC 97 q1_9 (0 + wd_n e) L1_10 (wd_a κ 0 e) 99 h_11 (by omega) (by omega) ⟨hZ.1, by omega⟩ (fun Z1_13 V1_14 q1_15 L1_16 h_17 h_18 => ?_)) rfl ⟨k_J4_append_cf468, il_RX7_251, im_J4_append_cf468, is_J4_append_cf468, ii_RJ4⟩ 1 rfl hd_J4_append_cf468 ⟨by decide, by decide, by decide, by decide, Nat.le_of_ble_eq_true rfl⟩ dX7_writeEdition_34
    have o9 := h_11
    have hP9 := BX_PI h_18 hP9 hZ (Or.inr rfl) o9.2.2.1 o9.2.2.2.2.2.2.2.2
    have hS9 := Sh_BX hS9 h_18 hZ (Or.inr rfl) o9.2.2.1 o9.2.2.2.2.2.2.2.2
    have hB9 := BX_trans hB9 h_18
    have z9 := h_18.1
    have hZ := BX_ZI h_18 hZ (by omega)
    refine j1 ?_
    refine ia_pop (pc := 37) F dX7_writeEdition_37 (Or.inr (Or.inr rfl)) ?_
    refine ia_aload_n (pc := 38) F dX7_writeEdition_38 rfl ?_
    refine jg (pc := 39) F (z0 hZ) cls10 f10_7 (hP9 0 7 97 rfl) il_RX7_57 dX7_writeEdition_39 ?_
    refine ia_aload_n (pc := 42) F dX7_writeEdition_42 rfl ?_
    refine jg (pc := 43) F (z0 hZ) cls10 f10_0 (hP9 0 0 1 rfl) il_RX7_12 dX7_writeEdition_43 ?_
    refine jg (pc := 46) F (z1 hZ) cls9 f9_1 (hP9 1 1 3 rfl) il_RX7_141 dX7_writeEdition_46 ?_
    refine ia_iload_n (pc := 49) F dX7_writeEdition_49 rfl ?_
    have r_19 := se e.toNat (by omega)
    refine ja (pc := 50) F (v := col σ e.toNat) (z3 hZ) e.toNat (by omega) (by omega) (hS9.col e.toNat (by omega)) dX7_writeEdition_50 ?_
    refine jV (pc := 51) F 4 1200 (z97 hZ) cls1.1 (c_J4_appendI 97 q1_15 ((0 + wd_n e) + 1) L1_16 (up (wd_a κ 0 e) (0 + wd_n e) 99) (col σ e.toNat) h_17 (by omega) (by omega) ⟨hZ.1, by omega⟩ (fun Z1_20 V1_21 q1_22 L1_23 h_24 h_25 => ?_)) rfl ⟨k_J4_append_bf812, il_RX7_247, im_J4_append_bf812, is_J4_append_bf812, ii_RJ4⟩ 1 rfl hd_J4_append_bf812 ⟨by decide, by decide, by decide, by decide, Nat.le_of_ble_eq_true rfl⟩ dX7_writeEdition_51
    have o9 := h_17
    have hP9 := BX_PI h_25 hP9 hZ (Or.inr rfl) o9.2.2.1 o9.2.2.2.2.2.2.2.2
    have hS9 := Sh_BX hS9 h_25 hZ (Or.inr rfl) o9.2.2.1 o9.2.2.2.2.2.2.2.2
    have hB9 := BX_trans hB9 h_25
    have z9 := h_25.1
    have hZ := BX_ZI h_25 hZ (by omega)
    refine j1 ?_
    refine ia_pop (pc := 54) F dX7_writeEdition_54 (Or.inr (Or.inr rfl)) ?_
    refine ia_aload_n (pc := 55) F dX7_writeEdition_55 rfl ?_
    refine jg (pc := 56) F (z0 hZ) cls10 f10_7 (hP9 0 7 97 rfl) il_RX7_57 dX7_writeEdition_56 ?_
    refine ia_bipush (pc := 59) F dX7_writeEdition_59 (by decide) ?_
    refine jV (pc := 61) F 5 1500 (z97 hZ) cls1.1 (c_J4_appendC 97 q1_22 (((0 + wd_n e) + 1) + wd_n (col σ e.toNat)) L1_23 (wd_a (up (wd_a κ 0 e) (0 + wd_n e) 99) ((0 + wd_n e) + 1) (col σ e.toNat)) 58 h_24 (by omega) (by omega) ⟨hZ.1, by omega⟩ (fun Z1_26 V1_27 q1_28 L1_29 h_30 h_31 => ?_)) rfl ⟨k_J4_append_cf468, il_RX7_251, im_J4_append_cf468, is_J4_append_cf468, ii_RJ4⟩ 1 rfl hd_J4_append_cf468 ⟨by decide, by decide, by decide, by decide, Nat.le_of_ble_eq_true rfl⟩ dX7_writeEdition_61
    have o9 := h_24
    have hP9 := BX_PI h_31 hP9 hZ (Or.inr rfl) o9.2.2.1 o9.2.2.2.2.2.2.2.2
    have hS9 := Sh_BX hS9 h_31 hZ (Or.inr rfl) o9.2.2.1 o9.2.2.2.2.2.2.2.2
    have hB9 := BX_trans hB9 h_31
    have z9 := h_31.1
    have hZ := BX_ZI h_31 hZ (by omega)
    refine j1 ?_
    refine ia_pop (pc := 64) F dX7_writeEdition_64 (Or.inr (Or.inr rfl)) ?_
    refine ia_aload_n (pc := 65) F dX7_writeEdition_65 rfl ?_
    refine jg (pc := 66) F (z0 hZ) cls10 f10_7 (hP9 0 7 97 rfl) il_RX7_57 dX7_writeEdition_66 ?_
    refine ia_aload_n (pc := 69) F dX7_writeEdition_69 rfl ?_
    refine jg (pc := 70) F (z0 hZ) cls10 f10_0 (hP9 0 0 1 rfl) il_RX7_12 dX7_writeEdition_70 ?_
    refine jg (pc := 73) F (z1 hZ) cls9 f9_3 (hP9 1 3 5 rfl) il_RX7_147 dX7_writeEdition_73 ?_
    refine ia_iload_n (pc := 76) F dX7_writeEdition_76 rfl ?_
    have r_32 := se e.toNat (by omega)
    refine ja (pc := 77) F (v := prt σ e.toNat) (z5 hZ) e.toNat (by omega) (by omega) (hS9.prt e.toNat (by omega)) dX7_writeEdition_77 ?_
    refine jV (pc := 78) F 6 1800 (z97 hZ) cls1.1 (c_J4_appendI 97 q1_28 ((((0 + wd_n e) + 1) + wd_n (col σ e.toNat)) + 1) L1_29 (up (wd_a (up (wd_a κ 0 e) (0 + wd_n e) 99) ((0 + wd_n e) + 1) (col σ e.toNat)) (((0 + wd_n e) + 1) + wd_n (col σ e.toNat)) 58) (prt σ e.toNat) h_30 (by omega) (by omega) ⟨hZ.1, by omega⟩ (fun Z1_33 V1_34 q1_35 L1_36 h_37 h_38 => ?_)) rfl ⟨k_J4_append_bf812, il_RX7_247, im_J4_append_bf812, is_J4_append_bf812, ii_RJ4⟩ 1 rfl hd_J4_append_bf812 ⟨by decide, by decide, by decide, by decide, Nat.le_of_ble_eq_true rfl⟩ dX7_writeEdition_78
    have o9 := h_30
    have hP9 := BX_PI h_38 hP9 hZ (Or.inr rfl) o9.2.2.1 o9.2.2.2.2.2.2.2.2
    have hS9 := Sh_BX hS9 h_38 hZ (Or.inr rfl) o9.2.2.1 o9.2.2.2.2.2.2.2.2
    have hB9 := BX_trans hB9 h_38
    have z9 := h_38.1
    have hZ := BX_ZI h_38 hZ (by omega)
    refine j1 ?_
    refine ia_pop (pc := 81) F dX7_writeEdition_81 (Or.inr (Or.inr rfl)) ?_
    refine ia_aload_n (pc := 82) F dX7_writeEdition_82 rfl ?_
    refine jg (pc := 83) F (z0 hZ) cls10 f10_7 (hP9 0 7 97 rfl) il_RX7_57 dX7_writeEdition_83 ?_
    refine ia_bipush (pc := 86) F dX7_writeEdition_86 (by decide) ?_
    refine jV (pc := 88) F 7 2100 (z97 hZ) cls1.1 (c_J4_appendC 97 q1_35 (((((0 + wd_n e) + 1) + wd_n (col σ e.toNat)) + 1) + wd_n (prt σ e.toNat)) L1_36 (wd_a (up (wd_a (up (wd_a κ 0 e) (0 + wd_n e) 99) ((0 + wd_n e) + 1) (col σ e.toNat)) (((0 + wd_n e) + 1) + wd_n (col σ e.toNat)) 58) ((((0 + wd_n e) + 1) + wd_n (col σ e.toNat)) + 1) (prt σ e.toNat)) 47 h_37 (by omega) (by omega) ⟨hZ.1, by omega⟩ (fun Z1_39 V1_40 q1_41 L1_42 h_43 h_44 => ?_)) rfl ⟨k_J4_append_cf468, il_RX7_251, im_J4_append_cf468, is_J4_append_cf468, ii_RJ4⟩ 1 rfl hd_J4_append_cf468 ⟨by decide, by decide, by decide, by decide, Nat.le_of_ble_eq_true rfl⟩ dX7_writeEdition_88
    have o9 := h_37
    have hP9 := BX_PI h_44 hP9 hZ (Or.inr rfl) o9.2.2.1 o9.2.2.2.2.2.2.2.2
    have hS9 := Sh_BX hS9 h_44 hZ (Or.inr rfl) o9.2.2.1 o9.2.2.2.2.2.2.2.2
    have hB9 := BX_trans hB9 h_44
    have z9 := h_44.1
    have hZ := BX_ZI h_44 hZ (by omega)
    refine j1 ?_
    refine ia_pop (pc := 91) F dX7_writeEdition_91 (Or.inr (Or.inr rfl)) ?_
    refine ia_aload_n (pc := 92) F dX7_writeEdition_92 rfl ?_
    refine jg (pc := 93) F (z0 hZ) cls10 f10_7 (hP9 0 7 97 rfl) il_RX7_57 dX7_writeEdition_93 ?_
    refine ia_aload_n (pc := 96) F dX7_writeEdition_96 rfl ?_
    refine jg (pc := 97) F (z0 hZ) cls10 f10_0 (hP9 0 0 1 rfl) il_RX7_12 dX7_writeEdition_97 ?_
    refine jg (pc := 100) F (z1 hZ) cls9 f9_2 (hP9 1 2 4 rfl) il_RX7_144 dX7_writeEdition_100 ?_
    refine ia_iload_n (pc := 103) F dX7_writeEdition_103 rfl ?_
    have r_45 := se e.toNat (by omega)
    refine ja (pc := 104) F (v := run σ e.toNat) (z4 hZ) e.toNat (by omega) (by omega) (hS9.run e.toNat (by omega)) dX7_writeEdition_104 ?_
    refine jV (pc := 105) F 8 2400 (z97 hZ) cls1.1 (c_J4_appendI 97 q1_41 ((((((0 + wd_n e) + 1) + wd_n (col σ e.toNat)) + 1) + wd_n (prt σ e.toNat)) + 1) L1_42 (up (wd_a (up (wd_a (up (wd_a κ 0 e) (0 + wd_n e) 99) ((0 + wd_n e) + 1) (col σ e.toNat)) (((0 + wd_n e) + 1) + wd_n (col σ e.toNat)) 58) ((((0 + wd_n e) + 1) + wd_n (col σ e.toNat)) + 1) (prt σ e.toNat)) (((((0 + wd_n e) + 1) + wd_n (col σ e.toNat)) + 1) + wd_n (prt σ e.toNat)) 47) (run σ e.toNat) h_43 (by omega) (by omega) ⟨hZ.1, by omega⟩ (fun Z1_46 V1_47 q1_48 L1_49 h_50 h_51 => ?_)) rfl ⟨k_J4_append_bf812, il_RX7_247, im_J4_append_bf812, is_J4_append_bf812, ii_RJ4⟩ 1 rfl hd_J4_append_bf812 ⟨by decide, by decide, by decide, by decide, Nat.le_of_ble_eq_true rfl⟩ dX7_writeEdition_105
    have o9 := h_43
    have hP9 := BX_PI h_51 hP9 hZ (Or.inr rfl) o9.2.2.1 o9.2.2.2.2.2.2.2.2
    have hS9 := Sh_BX hS9 h_51 hZ (Or.inr rfl) o9.2.2.1 o9.2.2.2.2.2.2.2.2
    have hB9 := BX_trans hB9 h_51
    have z9 := h_51.1
    have hZ := BX_ZI h_51 hZ (by omega)
    refine j1 ?_
    refine ia_pop (pc := 108) F dX7_writeEdition_108 (Or.inr (Or.inr rfl)) ?_
    refine ia_aload_n (pc := 109) F dX7_writeEdition_109 rfl ?_
    refine jg (pc := 110) F (z0 hZ) cls10 f10_7 (hP9 0 7 97 rfl) il_RX7_57 dX7_writeEdition_110 ?_
    refine jV (pc := 113) F 8 2400 (z97 hZ) cls1.1 (c_J4_length 97 q1_48 (((((((0 + wd_n e) + 1) + wd_n (col σ e.toNat)) + 1) + wd_n (prt σ e.toNat)) + 1) + wd_n (run σ e.toNat)) L1_49 (wd_a (up (wd_a (up (wd_a (up (wd_a κ 0 e) (0 + wd_n e) 99) ((0 + wd_n e) + 1) (col σ e.toNat)) (((0 + wd_n e) + 1) + wd_n (col σ e.toNat)) 58) ((((0 + wd_n e) + 1) + wd_n (col σ e.toNat)) + 1) (prt σ e.toNat)) (((((0 + wd_n e) + 1) + wd_n (col σ e.toNat)) + 1) + wd_n (prt σ e.toNat)) 47) ((((((0 + wd_n e) + 1) + wd_n (col σ e.toNat)) + 1) + wd_n (prt σ e.toNat)) + 1) (run σ e.toNat)) h_50 ?_) rfl ⟨k_J4_length_8abf5, il_RX7_254, im_J4_length_8abf5, is_J4_length_8abf5, ii_RJ4⟩ 0 rfl hd_J4_length_8abf5 ⟨by decide, by decide, by decide, by decide, Nat.le_of_ble_eq_true rfl⟩ dX7_writeEdition_113
    refine j1 ?_
    refine ia_ireturn (pc := 116) F M (by decide) (by decide) dX7_writeEdition_116 ?_
    exact q1 _ _ _ _ (by omega) h_50 (BX_le hB9 (by decide))
  · refine j1 ?_
    refine jS (pc := 8) F 1 6 (c_X7_requireIndex_0  ?_) rfl ⟨k_X7_requireIndex, il_RX7_138, it_X7_requireIndex, ii_RX7⟩ rfl 1 rfl hd_X7_requireIndex ⟨by decide, by decide, by decide, by decide, Nat.le_of_ble_eq_true rfl⟩ dX7_writeEdition_8
    refine jx ?_
    refine ia_out F M (by decide) (by decide) ?_
    exact q2 (by omega)
set_option maxRecDepth 100000 in
set_option maxHeartbeats 8000000 in
theorem c_X7_writeWells {Z : ia_Z} {V : ia_H} {Q : ia_O → ia_Z → ia_H → Prop} {σ : Nat → Int} {m : Int} (n q L : Nat) (t : Nat → Int) (κ : Nat → Int) (hZ : ZI Z) (hP : PI V) (hS : Sh 1 V σ) (hI : SI σ m)  (hU : SB 97 Z V n t q L) (hz : Z.2.2 ≤ 800000) (q1 : ∀ (Z1 : ia_Z) (V1 : ia_H) (q1 L1 : Nat), (SB 97 Z1 V1 (ln_wn σ) (ln_wt κ σ) q1 L1) → (BX 97 19 Z V Z1 V1) → Q (.inl (some (0, ((ln_wn σ : Nat) : Int)))) Z1 V1) : ia_K yX7_writeWells cX7_writeWells 2 (some .int) [(4, ((0 : Nat) : Int))] Z V 9 20 6000 Q := by
  refine ia_start RX7 "writeWells" ⟨by decide, rfl, rfl⟩ (Nat.le_of_ble_eq_true rfl) (ia_tg rfl) (fun X F M => ?_)
  show ia_G X 0 0 0 [(4, ((0 : Nat) : Int)), (9, 0)] [] Z V
  obtain ⟨s0, s1, s2, s3, s4, s5, s6, s7, s18, sb, sw, se, sp⟩ := id hI
  have d0 := wd_n_rng (v := (wel σ 0))
  have d2 := wd_n_rng (v := (wel σ 1))
  have d4 := wd_n_rng (v := (wel σ 2))
  have d6 := wd_n_rng (v := (wel σ 3))
  have d8 := wd_n_rng (v := (wel σ 4))
  have d10 := wd_n_rng (v := (wel σ 5))
  have d12 := wd_n_rng (v := (wel σ 6))
  have d14 := wd_n_rng (v := (wel σ 7))
  have d16 := wd_n_rng (v := (wel σ 8))
  have d18 := wd_n_rng (v := (wel σ 9))
  have v0 := sw 0 (by omega)
  have v1 := sw 1 (by omega)
  have v2 := sw 2 (by omega)
  have v3 := sw 3 (by omega)
  have v4 := sw 4 (by omega)
  have v5 := sw 5 (by omega)
  have v6 := sw 6 (by omega)
  have v7 := sw 7 (by omega)
  have v8 := sw 8 (by omega)
  have v9 := sw 9 (by omega)
  refine ia_aload_n (pc := 0) F dX7_writeWells_0 rfl ?_
  refine jg (pc := 1) F (z0 hZ) cls10 f10_7 (hP 0 7 97 rfl) il_RX7_57 dX7_writeWells_1 ?_
  refine ia_iconst (pc := 4) F dX7_writeWells_4 ?_
  refine jV (pc := 5) F 1 300 (z97 hZ) cls1.1 (c_J4_setLength0 97 q n L t hP hU (fun _ => rfl) (fun V_1 p_2 f_3 x_4 => ?_)) rfl ⟨k_J4_setLength_d00df, il_RX7_243, im_J4_setLength_d00df, is_J4_setLength_d00df, ii_RJ4⟩ 1 rfl hd_J4_setLength_d00df ⟨by decide, by decide, by decide, by decide, Nat.le_of_ble_eq_true rfl⟩ dX7_writeWells_5
  refine j0 ?_
  have hU0 := x_4 κ
  have hB0 := BX_e hU hU0 f_3
  refine ia_iconst (pc := 8) F dX7_writeWells_8 ?_
  refine ia_istore_n (pc := 9) F (ls' := [(4, ((0 : Nat) : Int)), (0, 0)]) dX7_writeWells_9 (Nat.le_of_ble_eq_true rfl) rfl rfl ?_
  refine ia_iload_n (pc := 10) F dX7_writeWells_10 rfl ?_
  refine ia_bipush (pc := 11) F dX7_writeWells_11 (by decide) ?_
  refine ia_icmp_ge (pc := 13) F 53 dX7_writeWells_13 rfl (by omega) (by omega) (fun h9 => absurd h9 (by omega)) (fun _ => ?_)
  refine ia_iload_n (pc := 16) F dX7_writeWells_16 rfl ?_
  refine ia_if_le (pc := 17) F 30 dX7_writeWells_17 rfl (by omega) (fun _ => ?_) (fun h9 => absurd h9 (by omega))
  refine ia_aload_n (pc := 30) F dX7_writeWells_30 rfl ?_
  refine jg (pc := 31) F (z0 hZ) cls10 f10_7 (p_2 0 7 97 rfl) il_RX7_57 dX7_writeWells_31 ?_
  refine ia_aload_n (pc := 34) F dX7_writeWells_34 rfl ?_
  refine jg (pc := 35) F (z0 hZ) cls10 f10_0 (p_2 0 0 1 rfl) il_RX7_12 dX7_writeWells_35 ?_
  refine jg (pc := 38) F (z1 hZ) cls9 f9_0 (p_2 1 0 2 rfl) il_RX7_96 dX7_writeWells_38 ?_
  refine ia_iload_n (pc := 41) F dX7_writeWells_41 rfl ?_
  have r_5 := sw 0 (by omega)
  refine ja (pc := 42) F (v := wel σ 0) (z2 hZ) 0 rfl (by omega) ((Sh_fr hS f_3 (by decide)).wel 0 (by omega)) dX7_writeWells_42 ?_
  refine jV (pc := 43) F 2 600 (z97 hZ) cls1.1 (c_J4_appendI 97 q 0 L κ (wel σ 0) hU0 (by omega) (by omega) ⟨hZ.1, by omega⟩ (fun Z1_6 V1_7 q1_8 L1_9 h_10 h_11 => ?_)) rfl ⟨k_J4_append_bf812, il_RX7_247, im_J4_append_bf812, is_J4_append_bf812, ii_RJ4⟩ 1 rfl hd_J4_append_bf812 ⟨by decide, by decide, by decide, by decide, Nat.le_of_ble_eq_true rfl⟩ dX7_writeWells_43
  have o9 := hU0
  have hP9 := BX_PI h_11 p_2 hZ (Or.inr rfl) o9.2.2.1 o9.2.2.2.2.2.2.2.2
  have hS9 := Sh_BX (Sh_fr hS f_3 (by decide)) h_11 hZ (Or.inr rfl) o9.2.2.1 o9.2.2.2.2.2.2.2.2
  have hB9 := BX_trans hB0 h_11
  have z9 := h_11.1
  have hZ := BX_ZI h_11 hZ (by omega)
  refine j1 ?_
  refine ia_pop (pc := 46) F dX7_writeWells_46 (Or.inr (Or.inr rfl)) ?_
  refine ia_iinc (pc := 47) F (ls' := [(4, ((0 : Nat) : Int)), (0, 1)]) dX7_writeWells_47 rfl (by decide) rfl rfl ?_
  refine ia_goto (pc := 50) F 10 dX7_writeWells_50 rfl ?_
  refine ia_iload_n (pc := 10) F dX7_writeWells_10 rfl ?_
  refine ia_bipush (pc := 11) F dX7_writeWells_11 (by decide) ?_
  refine ia_icmp_ge (pc := 13) F 53 dX7_writeWells_13 rfl (by omega) (by omega) (fun h9 => absurd h9 (by omega)) (fun _ => ?_)
  refine ia_iload_n (pc := 16) F dX7_writeWells_16 rfl ?_
  refine ia_if_le (pc := 17) F 30 dX7_writeWells_17 rfl (by omega) (fun h9 => absurd h9 (by omega)) (fun _ => ?_)
  refine ia_aload_n (pc := 20) F dX7_writeWells_20 rfl ?_
  refine jg (pc := 21) F (z0 hZ) cls10 f10_7 (hP9 0 7 97 rfl) il_RX7_57 dX7_writeWells_21 ?_
  refine ia_bipush (pc := 24) F dX7_writeWells_24 (by decide) ?_
  refine jV (pc := 26) F 3 900 (z97 hZ) cls1.1 (c_J4_appendC 97 q1_8 (0 + wd_n (wel σ 0)) L1_9 (wd_a κ 0 (wel σ 0)) 32 h_10 (by omega) (by omega) ⟨hZ.1, by omega⟩ (fun Z1_12 V1_13 q1_14 L1_15 h_16 h_17 => ?_)) rfl ⟨k_J4_append_cf468, il_RX7_251, im_J4_append_cf468, is_J4_append_cf468, ii_RJ4⟩ 1 rfl hd_J4_append_cf468 ⟨by decide, by decide, by decide, by decide, Nat.le_of_ble_eq_true rfl⟩ dX7_writeWells_26
  have o9 := h_10
  have hP9 := BX_PI h_17 hP9 hZ (Or.inr rfl) o9.2.2.1 o9.2.2.2.2.2.2.2.2
  have hS9 := Sh_BX hS9 h_17 hZ (Or.inr rfl) o9.2.2.1 o9.2.2.2.2.2.2.2.2
  have hB9 := BX_trans hB9 h_17
  have z9 := h_17.1
  have hZ := BX_ZI h_17 hZ (by omega)
  refine j1 ?_
  refine ia_pop (pc := 29) F dX7_writeWells_29 (Or.inr (Or.inr rfl)) ?_
  refine ia_aload_n (pc := 30) F dX7_writeWells_30 rfl ?_
  refine jg (pc := 31) F (z0 hZ) cls10 f10_7 (hP9 0 7 97 rfl) il_RX7_57 dX7_writeWells_31 ?_
  refine ia_aload_n (pc := 34) F dX7_writeWells_34 rfl ?_
  refine jg (pc := 35) F (z0 hZ) cls10 f10_0 (hP9 0 0 1 rfl) il_RX7_12 dX7_writeWells_35 ?_
  refine jg (pc := 38) F (z1 hZ) cls9 f9_0 (hP9 1 0 2 rfl) il_RX7_96 dX7_writeWells_38 ?_
  refine ia_iload_n (pc := 41) F dX7_writeWells_41 rfl ?_
  have r_18 := sw 1 (by omega)
  refine ja (pc := 42) F (v := wel σ 1) (z2 hZ) 1 rfl (by omega) (hS9.wel 1 (by omega)) dX7_writeWells_42 ?_
  refine jV (pc := 43) F 4 1200 (z97 hZ) cls1.1 (c_J4_appendI 97 q1_14 ((0 + wd_n (wel σ 0)) + 1) L1_15 (up (wd_a κ 0 (wel σ 0)) (0 + wd_n (wel σ 0)) 32) (wel σ 1) h_16 (by omega) (by omega) ⟨hZ.1, by omega⟩ (fun Z1_19 V1_20 q1_21 L1_22 h_23 h_24 => ?_)) rfl ⟨k_J4_append_bf812, il_RX7_247, im_J4_append_bf812, is_J4_append_bf812, ii_RJ4⟩ 1 rfl hd_J4_append_bf812 ⟨by decide, by decide, by decide, by decide, Nat.le_of_ble_eq_true rfl⟩ dX7_writeWells_43
  have o9 := h_16
  have hP9 := BX_PI h_24 hP9 hZ (Or.inr rfl) o9.2.2.1 o9.2.2.2.2.2.2.2.2
  have hS9 := Sh_BX hS9 h_24 hZ (Or.inr rfl) o9.2.2.1 o9.2.2.2.2.2.2.2.2
  have hB9 := BX_trans hB9 h_24
  have z9 := h_24.1
  have hZ := BX_ZI h_24 hZ (by omega)
  refine j1 ?_
  refine ia_pop (pc := 46) F dX7_writeWells_46 (Or.inr (Or.inr rfl)) ?_
  refine ia_iinc (pc := 47) F (ls' := [(4, ((0 : Nat) : Int)), (0, 2)]) dX7_writeWells_47 rfl (by decide) rfl rfl ?_
  refine ia_goto (pc := 50) F 10 dX7_writeWells_50 rfl ?_
  refine ia_iload_n (pc := 10) F dX7_writeWells_10 rfl ?_
  refine ia_bipush (pc := 11) F dX7_writeWells_11 (by decide) ?_
  refine ia_icmp_ge (pc := 13) F 53 dX7_writeWells_13 rfl (by omega) (by omega) (fun h9 => absurd h9 (by omega)) (fun _ => ?_)
  refine ia_iload_n (pc := 16) F dX7_writeWells_16 rfl ?_
  refine ia_if_le (pc := 17) F 30 dX7_writeWells_17 rfl (by omega) (fun h9 => absurd h9 (by omega)) (fun _ => ?_)
  refine ia_aload_n (pc := 20) F dX7_writeWells_20 rfl ?_
  refine jg (pc := 21) F (z0 hZ) cls10 f10_7 (hP9 0 7 97 rfl) il_RX7_57 dX7_writeWells_21 ?_
  refine ia_bipush (pc := 24) F dX7_writeWells_24 (by decide) ?_
  refine jV (pc := 26) F 5 1500 (z97 hZ) cls1.1 (c_J4_appendC 97 q1_21 (((0 + wd_n (wel σ 0)) + 1) + wd_n (wel σ 1)) L1_22 (wd_a (up (wd_a κ 0 (wel σ 0)) (0 + wd_n (wel σ 0)) 32) ((0 + wd_n (wel σ 0)) + 1) (wel σ 1)) 32 h_23 (by omega) (by omega) ⟨hZ.1, by omega⟩ (fun Z1_25 V1_26 q1_27 L1_28 h_29 h_30 => ?_)) rfl ⟨k_J4_append_cf468, il_RX7_251, im_J4_append_cf468, is_J4_append_cf468, ii_RJ4⟩ 1 rfl hd_J4_append_cf468 ⟨by decide, by decide, by decide, by decide, Nat.le_of_ble_eq_true rfl⟩ dX7_writeWells_26
  have o9 := h_23
  have hP9 := BX_PI h_30 hP9 hZ (Or.inr rfl) o9.2.2.1 o9.2.2.2.2.2.2.2.2
  have hS9 := Sh_BX hS9 h_30 hZ (Or.inr rfl) o9.2.2.1 o9.2.2.2.2.2.2.2.2
  have hB9 := BX_trans hB9 h_30
  have z9 := h_30.1
  have hZ := BX_ZI h_30 hZ (by omega)
  refine j1 ?_
  refine ia_pop (pc := 29) F dX7_writeWells_29 (Or.inr (Or.inr rfl)) ?_
  refine ia_aload_n (pc := 30) F dX7_writeWells_30 rfl ?_
  refine jg (pc := 31) F (z0 hZ) cls10 f10_7 (hP9 0 7 97 rfl) il_RX7_57 dX7_writeWells_31 ?_
  refine ia_aload_n (pc := 34) F dX7_writeWells_34 rfl ?_
  refine jg (pc := 35) F (z0 hZ) cls10 f10_0 (hP9 0 0 1 rfl) il_RX7_12 dX7_writeWells_35 ?_
  refine jg (pc := 38) F (z1 hZ) cls9 f9_0 (hP9 1 0 2 rfl) il_RX7_96 dX7_writeWells_38 ?_
  refine ia_iload_n (pc := 41) F dX7_writeWells_41 rfl ?_
  have r_31 := sw 2 (by omega)
  refine ja (pc := 42) F (v := wel σ 2) (z2 hZ) 2 rfl (by omega) (hS9.wel 2 (by omega)) dX7_writeWells_42 ?_
  refine jV (pc := 43) F 6 1800 (z97 hZ) cls1.1 (c_J4_appendI 97 q1_27 ((((0 + wd_n (wel σ 0)) + 1) + wd_n (wel σ 1)) + 1) L1_28 (up (wd_a (up (wd_a κ 0 (wel σ 0)) (0 + wd_n (wel σ 0)) 32) ((0 + wd_n (wel σ 0)) + 1) (wel σ 1)) (((0 + wd_n (wel σ 0)) + 1) + wd_n (wel σ 1)) 32) (wel σ 2) h_29 (by omega) (by omega) ⟨hZ.1, by omega⟩ (fun Z1_32 V1_33 q1_34 L1_35 h_36 h_37 => ?_)) rfl ⟨k_J4_append_bf812, il_RX7_247, im_J4_append_bf812, is_J4_append_bf812, ii_RJ4⟩ 1 rfl hd_J4_append_bf812 ⟨by decide, by decide, by decide, by decide, Nat.le_of_ble_eq_true rfl⟩ dX7_writeWells_43
  have o9 := h_29
  have hP9 := BX_PI h_37 hP9 hZ (Or.inr rfl) o9.2.2.1 o9.2.2.2.2.2.2.2.2
  have hS9 := Sh_BX hS9 h_37 hZ (Or.inr rfl) o9.2.2.1 o9.2.2.2.2.2.2.2.2
  have hB9 := BX_trans hB9 h_37
  have z9 := h_37.1
  have hZ := BX_ZI h_37 hZ (by omega)
  refine j1 ?_
  refine ia_pop (pc := 46) F dX7_writeWells_46 (Or.inr (Or.inr rfl)) ?_
  refine ia_iinc (pc := 47) F (ls' := [(4, ((0 : Nat) : Int)), (0, 3)]) dX7_writeWells_47 rfl (by decide) rfl rfl ?_
  refine ia_goto (pc := 50) F 10 dX7_writeWells_50 rfl ?_
  refine ia_iload_n (pc := 10) F dX7_writeWells_10 rfl ?_
  refine ia_bipush (pc := 11) F dX7_writeWells_11 (by decide) ?_
  refine ia_icmp_ge (pc := 13) F 53 dX7_writeWells_13 rfl (by omega) (by omega) (fun h9 => absurd h9 (by omega)) (fun _ => ?_)
  refine ia_iload_n (pc := 16) F dX7_writeWells_16 rfl ?_
  refine ia_if_le (pc := 17) F 30 dX7_writeWells_17 rfl (by omega) (fun h9 => absurd h9 (by omega)) (fun _ => ?_)
  refine ia_aload_n (pc := 20) F dX7_writeWells_20 rfl ?_
  refine jg (pc := 21) F (z0 hZ) cls10 f10_7 (hP9 0 7 97 rfl) il_RX7_57 dX7_writeWells_21 ?_
  refine ia_bipush (pc := 24) F dX7_writeWells_24 (by decide) ?_
  refine jV (pc := 26) F 7 2100 (z97 hZ) cls1.1 (c_J4_appendC 97 q1_34 (((((0 + wd_n (wel σ 0)) + 1) + wd_n (wel σ 1)) + 1) + wd_n (wel σ 2)) L1_35 (wd_a (up (wd_a (up (wd_a κ 0 (wel σ 0)) (0 + wd_n (wel σ 0)) 32) ((0 + wd_n (wel σ 0)) + 1) (wel σ 1)) (((0 + wd_n (wel σ 0)) + 1) + wd_n (wel σ 1)) 32) ((((0 + wd_n (wel σ 0)) + 1) + wd_n (wel σ 1)) + 1) (wel σ 2)) 32 h_36 (by omega) (by omega) ⟨hZ.1, by omega⟩ (fun Z1_38 V1_39 q1_40 L1_41 h_42 h_43 => ?_)) rfl ⟨k_J4_append_cf468, il_RX7_251, im_J4_append_cf468, is_J4_append_cf468, ii_RJ4⟩ 1 rfl hd_J4_append_cf468 ⟨by decide, by decide, by decide, by decide, Nat.le_of_ble_eq_true rfl⟩ dX7_writeWells_26
  have o9 := h_36
  have hP9 := BX_PI h_43 hP9 hZ (Or.inr rfl) o9.2.2.1 o9.2.2.2.2.2.2.2.2
  have hS9 := Sh_BX hS9 h_43 hZ (Or.inr rfl) o9.2.2.1 o9.2.2.2.2.2.2.2.2
  have hB9 := BX_trans hB9 h_43
  have z9 := h_43.1
  have hZ := BX_ZI h_43 hZ (by omega)
  refine j1 ?_
  refine ia_pop (pc := 29) F dX7_writeWells_29 (Or.inr (Or.inr rfl)) ?_
  refine ia_aload_n (pc := 30) F dX7_writeWells_30 rfl ?_
  refine jg (pc := 31) F (z0 hZ) cls10 f10_7 (hP9 0 7 97 rfl) il_RX7_57 dX7_writeWells_31 ?_
  refine ia_aload_n (pc := 34) F dX7_writeWells_34 rfl ?_
  refine jg (pc := 35) F (z0 hZ) cls10 f10_0 (hP9 0 0 1 rfl) il_RX7_12 dX7_writeWells_35 ?_
  refine jg (pc := 38) F (z1 hZ) cls9 f9_0 (hP9 1 0 2 rfl) il_RX7_96 dX7_writeWells_38 ?_
  refine ia_iload_n (pc := 41) F dX7_writeWells_41 rfl ?_
  have r_44 := sw 3 (by omega)
  refine ja (pc := 42) F (v := wel σ 3) (z2 hZ) 3 rfl (by omega) (hS9.wel 3 (by omega)) dX7_writeWells_42 ?_
  refine jV (pc := 43) F 8 2400 (z97 hZ) cls1.1 (c_J4_appendI 97 q1_40 ((((((0 + wd_n (wel σ 0)) + 1) + wd_n (wel σ 1)) + 1) + wd_n (wel σ 2)) + 1) L1_41 (up (wd_a (up (wd_a (up (wd_a κ 0 (wel σ 0)) (0 + wd_n (wel σ 0)) 32) ((0 + wd_n (wel σ 0)) + 1) (wel σ 1)) (((0 + wd_n (wel σ 0)) + 1) + wd_n (wel σ 1)) 32) ((((0 + wd_n (wel σ 0)) + 1) + wd_n (wel σ 1)) + 1) (wel σ 2)) (((((0 + wd_n (wel σ 0)) + 1) + wd_n (wel σ 1)) + 1) + wd_n (wel σ 2)) 32) (wel σ 3) h_42 (by omega) (by omega) ⟨hZ.1, by omega⟩ (fun Z1_45 V1_46 q1_47 L1_48 h_49 h_50 => ?_)) rfl ⟨k_J4_append_bf812, il_RX7_247, im_J4_append_bf812, is_J4_append_bf812, ii_RJ4⟩ 1 rfl hd_J4_append_bf812 ⟨by decide, by decide, by decide, by decide, Nat.le_of_ble_eq_true rfl⟩ dX7_writeWells_43
  have o9 := h_42
  have hP9 := BX_PI h_50 hP9 hZ (Or.inr rfl) o9.2.2.1 o9.2.2.2.2.2.2.2.2
  have hS9 := Sh_BX hS9 h_50 hZ (Or.inr rfl) o9.2.2.1 o9.2.2.2.2.2.2.2.2
  have hB9 := BX_trans hB9 h_50
  have z9 := h_50.1
  have hZ := BX_ZI h_50 hZ (by omega)
  refine j1 ?_
  refine ia_pop (pc := 46) F dX7_writeWells_46 (Or.inr (Or.inr rfl)) ?_
  refine ia_iinc (pc := 47) F (ls' := [(4, ((0 : Nat) : Int)), (0, 4)]) dX7_writeWells_47 rfl (by decide) rfl rfl ?_
  refine ia_goto (pc := 50) F 10 dX7_writeWells_50 rfl ?_
  refine ia_iload_n (pc := 10) F dX7_writeWells_10 rfl ?_
  refine ia_bipush (pc := 11) F dX7_writeWells_11 (by decide) ?_
  refine ia_icmp_ge (pc := 13) F 53 dX7_writeWells_13 rfl (by omega) (by omega) (fun h9 => absurd h9 (by omega)) (fun _ => ?_)
  refine ia_iload_n (pc := 16) F dX7_writeWells_16 rfl ?_
  refine ia_if_le (pc := 17) F 30 dX7_writeWells_17 rfl (by omega) (fun h9 => absurd h9 (by omega)) (fun _ => ?_)
  refine ia_aload_n (pc := 20) F dX7_writeWells_20 rfl ?_
  refine jg (pc := 21) F (z0 hZ) cls10 f10_7 (hP9 0 7 97 rfl) il_RX7_57 dX7_writeWells_21 ?_
  refine ia_bipush (pc := 24) F dX7_writeWells_24 (by decide) ?_
  refine jV (pc := 26) F 9 2700 (z97 hZ) cls1.1 (c_J4_appendC 97 q1_47 (((((((0 + wd_n (wel σ 0)) + 1) + wd_n (wel σ 1)) + 1) + wd_n (wel σ 2)) + 1) + wd_n (wel σ 3)) L1_48 (wd_a (up (wd_a (up (wd_a (up (wd_a κ 0 (wel σ 0)) (0 + wd_n (wel σ 0)) 32) ((0 + wd_n (wel σ 0)) + 1) (wel σ 1)) (((0 + wd_n (wel σ 0)) + 1) + wd_n (wel σ 1)) 32) ((((0 + wd_n (wel σ 0)) + 1) + wd_n (wel σ 1)) + 1) (wel σ 2)) (((((0 + wd_n (wel σ 0)) + 1) + wd_n (wel σ 1)) + 1) + wd_n (wel σ 2)) 32) ((((((0 + wd_n (wel σ 0)) + 1) + wd_n (wel σ 1)) + 1) + wd_n (wel σ 2)) + 1) (wel σ 3)) 32 h_49 (by omega) (by omega) ⟨hZ.1, by omega⟩ (fun Z1_51 V1_52 q1_53 L1_54 h_55 h_56 => ?_)) rfl ⟨k_J4_append_cf468, il_RX7_251, im_J4_append_cf468, is_J4_append_cf468, ii_RJ4⟩ 1 rfl hd_J4_append_cf468 ⟨by decide, by decide, by decide, by decide, Nat.le_of_ble_eq_true rfl⟩ dX7_writeWells_26
  have o9 := h_49
  have hP9 := BX_PI h_56 hP9 hZ (Or.inr rfl) o9.2.2.1 o9.2.2.2.2.2.2.2.2
  have hS9 := Sh_BX hS9 h_56 hZ (Or.inr rfl) o9.2.2.1 o9.2.2.2.2.2.2.2.2
  have hB9 := BX_trans hB9 h_56
  have z9 := h_56.1
  have hZ := BX_ZI h_56 hZ (by omega)
  refine j1 ?_
  refine ia_pop (pc := 29) F dX7_writeWells_29 (Or.inr (Or.inr rfl)) ?_
  refine ia_aload_n (pc := 30) F dX7_writeWells_30 rfl ?_
  refine jg (pc := 31) F (z0 hZ) cls10 f10_7 (hP9 0 7 97 rfl) il_RX7_57 dX7_writeWells_31 ?_
  refine ia_aload_n (pc := 34) F dX7_writeWells_34 rfl ?_
  refine jg (pc := 35) F (z0 hZ) cls10 f10_0 (hP9 0 0 1 rfl) il_RX7_12 dX7_writeWells_35 ?_
  refine jg (pc := 38) F (z1 hZ) cls9 f9_0 (hP9 1 0 2 rfl) il_RX7_96 dX7_writeWells_38 ?_
  refine ia_iload_n (pc := 41) F dX7_writeWells_41 rfl ?_
  have r_57 := sw 4 (by omega)
  refine ja (pc := 42) F (v := wel σ 4) (z2 hZ) 4 rfl (by omega) (hS9.wel 4 (by omega)) dX7_writeWells_42 ?_
  refine jV (pc := 43) F 10 3000 (z97 hZ) cls1.1 (c_J4_appendI 97 q1_53 ((((((((0 + wd_n (wel σ 0)) + 1) + wd_n (wel σ 1)) + 1) + wd_n (wel σ 2)) + 1) + wd_n (wel σ 3)) + 1) L1_54 (up (wd_a (up (wd_a (up (wd_a (up (wd_a κ 0 (wel σ 0)) (0 + wd_n (wel σ 0)) 32) ((0 + wd_n (wel σ 0)) + 1) (wel σ 1)) (((0 + wd_n (wel σ 0)) + 1) + wd_n (wel σ 1)) 32) ((((0 + wd_n (wel σ 0)) + 1) + wd_n (wel σ 1)) + 1) (wel σ 2)) (((((0 + wd_n (wel σ 0)) + 1) + wd_n (wel σ 1)) + 1) + wd_n (wel σ 2)) 32) ((((((0 + wd_n (wel σ 0)) + 1) + wd_n (wel σ 1)) + 1) + wd_n (wel σ 2)) + 1) (wel σ 3)) (((((((0 + wd_n (wel σ 0)) + 1) + wd_n (wel σ 1)) + 1) + wd_n (wel σ 2)) + 1) + wd_n (wel σ 3)) 32) (wel σ 4) h_55 (by omega) (by omega) ⟨hZ.1, by omega⟩ (fun Z1_58 V1_59 q1_60 L1_61 h_62 h_63 => ?_)) rfl ⟨k_J4_append_bf812, il_RX7_247, im_J4_append_bf812, is_J4_append_bf812, ii_RJ4⟩ 1 rfl hd_J4_append_bf812 ⟨by decide, by decide, by decide, by decide, Nat.le_of_ble_eq_true rfl⟩ dX7_writeWells_43
  have o9 := h_55
  have hP9 := BX_PI h_63 hP9 hZ (Or.inr rfl) o9.2.2.1 o9.2.2.2.2.2.2.2.2
  have hS9 := Sh_BX hS9 h_63 hZ (Or.inr rfl) o9.2.2.1 o9.2.2.2.2.2.2.2.2
  have hB9 := BX_trans hB9 h_63
  have z9 := h_63.1
  have hZ := BX_ZI h_63 hZ (by omega)
  refine j1 ?_
  refine ia_pop (pc := 46) F dX7_writeWells_46 (Or.inr (Or.inr rfl)) ?_
  refine ia_iinc (pc := 47) F (ls' := [(4, ((0 : Nat) : Int)), (0, 5)]) dX7_writeWells_47 rfl (by decide) rfl rfl ?_
  refine ia_goto (pc := 50) F 10 dX7_writeWells_50 rfl ?_
  refine ia_iload_n (pc := 10) F dX7_writeWells_10 rfl ?_
  refine ia_bipush (pc := 11) F dX7_writeWells_11 (by decide) ?_
  refine ia_icmp_ge (pc := 13) F 53 dX7_writeWells_13 rfl (by omega) (by omega) (fun h9 => absurd h9 (by omega)) (fun _ => ?_)
  refine ia_iload_n (pc := 16) F dX7_writeWells_16 rfl ?_
  refine ia_if_le (pc := 17) F 30 dX7_writeWells_17 rfl (by omega) (fun h9 => absurd h9 (by omega)) (fun _ => ?_)
  refine ia_aload_n (pc := 20) F dX7_writeWells_20 rfl ?_
  refine jg (pc := 21) F (z0 hZ) cls10 f10_7 (hP9 0 7 97 rfl) il_RX7_57 dX7_writeWells_21 ?_
  refine ia_bipush (pc := 24) F dX7_writeWells_24 (by decide) ?_
  refine jV (pc := 26) F 11 3300 (z97 hZ) cls1.1 (c_J4_appendC 97 q1_60 (((((((((0 + wd_n (wel σ 0)) + 1) + wd_n (wel σ 1)) + 1) + wd_n (wel σ 2)) + 1) + wd_n (wel σ 3)) + 1) + wd_n (wel σ 4)) L1_61 (wd_a (up (wd_a (up (wd_a (up (wd_a (up (wd_a κ 0 (wel σ 0)) (0 + wd_n (wel σ 0)) 32) ((0 + wd_n (wel σ 0)) + 1) (wel σ 1)) (((0 + wd_n (wel σ 0)) + 1) + wd_n (wel σ 1)) 32) ((((0 + wd_n (wel σ 0)) + 1) + wd_n (wel σ 1)) + 1) (wel σ 2)) (((((0 + wd_n (wel σ 0)) + 1) + wd_n (wel σ 1)) + 1) + wd_n (wel σ 2)) 32) ((((((0 + wd_n (wel σ 0)) + 1) + wd_n (wel σ 1)) + 1) + wd_n (wel σ 2)) + 1) (wel σ 3)) (((((((0 + wd_n (wel σ 0)) + 1) + wd_n (wel σ 1)) + 1) + wd_n (wel σ 2)) + 1) + wd_n (wel σ 3)) 32) ((((((((0 + wd_n (wel σ 0)) + 1) + wd_n (wel σ 1)) + 1) + wd_n (wel σ 2)) + 1) + wd_n (wel σ 3)) + 1) (wel σ 4)) 32 h_62 (by omega) (by omega) ⟨hZ.1, by omega⟩ (fun Z1_64 V1_65 q1_66 L1_67 h_68 h_69 => ?_)) rfl ⟨k_J4_append_cf468, il_RX7_251, im_J4_append_cf468, is_J4_append_cf468, ii_RJ4⟩ 1 rfl hd_J4_append_cf468 ⟨by decide, by decide, by decide, by decide, Nat.le_of_ble_eq_true rfl⟩ dX7_writeWells_26
  have o9 := h_62
  have hP9 := BX_PI h_69 hP9 hZ (Or.inr rfl) o9.2.2.1 o9.2.2.2.2.2.2.2.2
  have hS9 := Sh_BX hS9 h_69 hZ (Or.inr rfl) o9.2.2.1 o9.2.2.2.2.2.2.2.2
  have hB9 := BX_trans hB9 h_69
  have z9 := h_69.1
  have hZ := BX_ZI h_69 hZ (by omega)
  refine j1 ?_
  refine ia_pop (pc := 29) F dX7_writeWells_29 (Or.inr (Or.inr rfl)) ?_
  refine ia_aload_n (pc := 30) F dX7_writeWells_30 rfl ?_
  refine jg (pc := 31) F (z0 hZ) cls10 f10_7 (hP9 0 7 97 rfl) il_RX7_57 dX7_writeWells_31 ?_
  refine ia_aload_n (pc := 34) F dX7_writeWells_34 rfl ?_
  refine jg (pc := 35) F (z0 hZ) cls10 f10_0 (hP9 0 0 1 rfl) il_RX7_12 dX7_writeWells_35 ?_
  refine jg (pc := 38) F (z1 hZ) cls9 f9_0 (hP9 1 0 2 rfl) il_RX7_96 dX7_writeWells_38 ?_
  refine ia_iload_n (pc := 41) F dX7_writeWells_41 rfl ?_
  have r_70 := sw 5 (by omega)
  refine ja (pc := 42) F (v := wel σ 5) (z2 hZ) 5 rfl (by omega) (hS9.wel 5 (by omega)) dX7_writeWells_42 ?_
  refine jV (pc := 43) F 12 3600 (z97 hZ) cls1.1 (c_J4_appendI 97 q1_66 ((((((((((0 + wd_n (wel σ 0)) + 1) + wd_n (wel σ 1)) + 1) + wd_n (wel σ 2)) + 1) + wd_n (wel σ 3)) + 1) + wd_n (wel σ 4)) + 1) L1_67 (up (wd_a (up (wd_a (up (wd_a (up (wd_a (up (wd_a κ 0 (wel σ 0)) (0 + wd_n (wel σ 0)) 32) ((0 + wd_n (wel σ 0)) + 1) (wel σ 1)) (((0 + wd_n (wel σ 0)) + 1) + wd_n (wel σ 1)) 32) ((((0 + wd_n (wel σ 0)) + 1) + wd_n (wel σ 1)) + 1) (wel σ 2)) (((((0 + wd_n (wel σ 0)) + 1) + wd_n (wel σ 1)) + 1) + wd_n (wel σ 2)) 32) ((((((0 + wd_n (wel σ 0)) + 1) + wd_n (wel σ 1)) + 1) + wd_n (wel σ 2)) + 1) (wel σ 3)) (((((((0 + wd_n (wel σ 0)) + 1) + wd_n (wel σ 1)) + 1) + wd_n (wel σ 2)) + 1) + wd_n (wel σ 3)) 32) ((((((((0 + wd_n (wel σ 0)) + 1) + wd_n (wel σ 1)) + 1) + wd_n (wel σ 2)) + 1) + wd_n (wel σ 3)) + 1) (wel σ 4)) (((((((((0 + wd_n (wel σ 0)) + 1) + wd_n (wel σ 1)) + 1) + wd_n (wel σ 2)) + 1) + wd_n (wel σ 3)) + 1) + wd_n (wel σ 4)) 32) (wel σ 5) h_68 (by omega) (by omega) ⟨hZ.1, by omega⟩ (fun Z1_71 V1_72 q1_73 L1_74 h_75 h_76 => ?_)) rfl ⟨k_J4_append_bf812, il_RX7_247, im_J4_append_bf812, is_J4_append_bf812, ii_RJ4⟩ 1 rfl hd_J4_append_bf812 ⟨by decide, by decide, by decide, by decide, Nat.le_of_ble_eq_true rfl⟩ dX7_writeWells_43
  have o9 := h_68
  have hP9 := BX_PI h_76 hP9 hZ (Or.inr rfl) o9.2.2.1 o9.2.2.2.2.2.2.2.2
  have hS9 := Sh_BX hS9 h_76 hZ (Or.inr rfl) o9.2.2.1 o9.2.2.2.2.2.2.2.2
  have hB9 := BX_trans hB9 h_76
  have z9 := h_76.1
  have hZ := BX_ZI h_76 hZ (by omega)
  refine j1 ?_
  refine ia_pop (pc := 46) F dX7_writeWells_46 (Or.inr (Or.inr rfl)) ?_
  refine ia_iinc (pc := 47) F (ls' := [(4, ((0 : Nat) : Int)), (0, 6)]) dX7_writeWells_47 rfl (by decide) rfl rfl ?_
  refine ia_goto (pc := 50) F 10 dX7_writeWells_50 rfl ?_
  refine ia_iload_n (pc := 10) F dX7_writeWells_10 rfl ?_
  refine ia_bipush (pc := 11) F dX7_writeWells_11 (by decide) ?_
  refine ia_icmp_ge (pc := 13) F 53 dX7_writeWells_13 rfl (by omega) (by omega) (fun h9 => absurd h9 (by omega)) (fun _ => ?_)
  refine ia_iload_n (pc := 16) F dX7_writeWells_16 rfl ?_
  refine ia_if_le (pc := 17) F 30 dX7_writeWells_17 rfl (by omega) (fun h9 => absurd h9 (by omega)) (fun _ => ?_)
  refine ia_aload_n (pc := 20) F dX7_writeWells_20 rfl ?_
  refine jg (pc := 21) F (z0 hZ) cls10 f10_7 (hP9 0 7 97 rfl) il_RX7_57 dX7_writeWells_21 ?_
  refine ia_bipush (pc := 24) F dX7_writeWells_24 (by decide) ?_
  refine jV (pc := 26) F 13 3900 (z97 hZ) cls1.1 (c_J4_appendC 97 q1_73 (((((((((((0 + wd_n (wel σ 0)) + 1) + wd_n (wel σ 1)) + 1) + wd_n (wel σ 2)) + 1) + wd_n (wel σ 3)) + 1) + wd_n (wel σ 4)) + 1) + wd_n (wel σ 5)) L1_74 (wd_a (up (wd_a (up (wd_a (up (wd_a (up (wd_a (up (wd_a κ 0 (wel σ 0)) (0 + wd_n (wel σ 0)) 32) ((0 + wd_n (wel σ 0)) + 1) (wel σ 1)) (((0 + wd_n (wel σ 0)) + 1) + wd_n (wel σ 1)) 32) ((((0 + wd_n (wel σ 0)) + 1) + wd_n (wel σ 1)) + 1) (wel σ 2)) (((((0 + wd_n (wel σ 0)) + 1) + wd_n (wel σ 1)) + 1) + wd_n (wel σ 2)) 32) ((((((0 + wd_n (wel σ 0)) + 1) + wd_n (wel σ 1)) + 1) + wd_n (wel σ 2)) + 1) (wel σ 3)) (((((((0 + wd_n (wel σ 0)) + 1) + wd_n (wel σ 1)) + 1) + wd_n (wel σ 2)) + 1) + wd_n (wel σ 3)) 32) ((((((((0 + wd_n (wel σ 0)) + 1) + wd_n (wel σ 1)) + 1) + wd_n (wel σ 2)) + 1) + wd_n (wel σ 3)) + 1) (wel σ 4)) (((((((((0 + wd_n (wel σ 0)) + 1) + wd_n (wel σ 1)) + 1) + wd_n (wel σ 2)) + 1) + wd_n (wel σ 3)) + 1) + wd_n (wel σ 4)) 32) ((((((((((0 + wd_n (wel σ 0)) + 1) + wd_n (wel σ 1)) + 1) + wd_n (wel σ 2)) + 1) + wd_n (wel σ 3)) + 1) + wd_n (wel σ 4)) + 1) (wel σ 5)) 32 h_75 (by omega) (by omega) ⟨hZ.1, by omega⟩ (fun Z1_77 V1_78 q1_79 L1_80 h_81 h_82 => ?_)) rfl ⟨k_J4_append_cf468, il_RX7_251, im_J4_append_cf468, is_J4_append_cf468, ii_RJ4⟩ 1 rfl hd_J4_append_cf468 ⟨by decide, by decide, by decide, by decide, Nat.le_of_ble_eq_true rfl⟩ dX7_writeWells_26
  have o9 := h_75
  have hP9 := BX_PI h_82 hP9 hZ (Or.inr rfl) o9.2.2.1 o9.2.2.2.2.2.2.2.2
  have hS9 := Sh_BX hS9 h_82 hZ (Or.inr rfl) o9.2.2.1 o9.2.2.2.2.2.2.2.2
  have hB9 := BX_trans hB9 h_82
  have z9 := h_82.1
  have hZ := BX_ZI h_82 hZ (by omega)
  refine j1 ?_
  refine ia_pop (pc := 29) F dX7_writeWells_29 (Or.inr (Or.inr rfl)) ?_
  refine ia_aload_n (pc := 30) F dX7_writeWells_30 rfl ?_
  refine jg (pc := 31) F (z0 hZ) cls10 f10_7 (hP9 0 7 97 rfl) il_RX7_57 dX7_writeWells_31 ?_
  refine ia_aload_n (pc := 34) F dX7_writeWells_34 rfl ?_
  refine jg (pc := 35) F (z0 hZ) cls10 f10_0 (hP9 0 0 1 rfl) il_RX7_12 dX7_writeWells_35 ?_
  refine jg (pc := 38) F (z1 hZ) cls9 f9_0 (hP9 1 0 2 rfl) il_RX7_96 dX7_writeWells_38 ?_
  refine ia_iload_n (pc := 41) F dX7_writeWells_41 rfl ?_
  have r_83 := sw 6 (by omega)
  refine ja (pc := 42) F (v := wel σ 6) (z2 hZ) 6 rfl (by omega) (hS9.wel 6 (by omega)) dX7_writeWells_42 ?_
  refine jV (pc := 43) F 14 4200 (z97 hZ) cls1.1 (c_J4_appendI 97 q1_79 ((((((((((((0 + wd_n (wel σ 0)) + 1) + wd_n (wel σ 1)) + 1) + wd_n (wel σ 2)) + 1) + wd_n (wel σ 3)) + 1) + wd_n (wel σ 4)) + 1) + wd_n (wel σ 5)) + 1) L1_80 (up (wd_a (up (wd_a (up (wd_a (up (wd_a (up (wd_a (up (wd_a κ 0 (wel σ 0)) (0 + wd_n (wel σ 0)) 32) ((0 + wd_n (wel σ 0)) + 1) (wel σ 1)) (((0 + wd_n (wel σ 0)) + 1) + wd_n (wel σ 1)) 32) ((((0 + wd_n (wel σ 0)) + 1) + wd_n (wel σ 1)) + 1) (wel σ 2)) (((((0 + wd_n (wel σ 0)) + 1) + wd_n (wel σ 1)) + 1) + wd_n (wel σ 2)) 32) ((((((0 + wd_n (wel σ 0)) + 1) + wd_n (wel σ 1)) + 1) + wd_n (wel σ 2)) + 1) (wel σ 3)) (((((((0 + wd_n (wel σ 0)) + 1) + wd_n (wel σ 1)) + 1) + wd_n (wel σ 2)) + 1) + wd_n (wel σ 3)) 32) ((((((((0 + wd_n (wel σ 0)) + 1) + wd_n (wel σ 1)) + 1) + wd_n (wel σ 2)) + 1) + wd_n (wel σ 3)) + 1) (wel σ 4)) (((((((((0 + wd_n (wel σ 0)) + 1) + wd_n (wel σ 1)) + 1) + wd_n (wel σ 2)) + 1) + wd_n (wel σ 3)) + 1) + wd_n (wel σ 4)) 32) ((((((((((0 + wd_n (wel σ 0)) + 1) + wd_n (wel σ 1)) + 1) + wd_n (wel σ 2)) + 1) + wd_n (wel σ 3)) + 1) + wd_n (wel σ 4)) + 1) (wel σ 5)) (((((((((((0 + wd_n (wel σ 0)) + 1) + wd_n (wel σ 1)) + 1) + wd_n (wel σ 2)) + 1) + wd_n (wel σ 3)) + 1) + wd_n (wel σ 4)) + 1) + wd_n (wel σ 5)) 32) (wel σ 6) h_81 (by omega) (by omega) ⟨hZ.1, by omega⟩ (fun Z1_84 V1_85 q1_86 L1_87 h_88 h_89 => ?_)) rfl ⟨k_J4_append_bf812, il_RX7_247, im_J4_append_bf812, is_J4_append_bf812, ii_RJ4⟩ 1 rfl hd_J4_append_bf812 ⟨by decide, by decide, by decide, by decide, Nat.le_of_ble_eq_true rfl⟩ dX7_writeWells_43
  have o9 := h_81
  have hP9 := BX_PI h_89 hP9 hZ (Or.inr rfl) o9.2.2.1 o9.2.2.2.2.2.2.2.2
  have hS9 := Sh_BX hS9 h_89 hZ (Or.inr rfl) o9.2.2.1 o9.2.2.2.2.2.2.2.2
  have hB9 := BX_trans hB9 h_89
  have z9 := h_89.1
  have hZ := BX_ZI h_89 hZ (by omega)
  refine j1 ?_
  refine ia_pop (pc := 46) F dX7_writeWells_46 (Or.inr (Or.inr rfl)) ?_
  refine ia_iinc (pc := 47) F (ls' := [(4, ((0 : Nat) : Int)), (0, 7)]) dX7_writeWells_47 rfl (by decide) rfl rfl ?_
  refine ia_goto (pc := 50) F 10 dX7_writeWells_50 rfl ?_
  refine ia_iload_n (pc := 10) F dX7_writeWells_10 rfl ?_
  refine ia_bipush (pc := 11) F dX7_writeWells_11 (by decide) ?_
  refine ia_icmp_ge (pc := 13) F 53 dX7_writeWells_13 rfl (by omega) (by omega) (fun h9 => absurd h9 (by omega)) (fun _ => ?_)
  refine ia_iload_n (pc := 16) F dX7_writeWells_16 rfl ?_
  refine ia_if_le (pc := 17) F 30 dX7_writeWells_17 rfl (by omega) (fun h9 => absurd h9 (by omega)) (fun _ => ?_)
  refine ia_aload_n (pc := 20) F dX7_writeWells_20 rfl ?_
  refine jg (pc := 21) F (z0 hZ) cls10 f10_7 (hP9 0 7 97 rfl) il_RX7_57 dX7_writeWells_21 ?_
  refine ia_bipush (pc := 24) F dX7_writeWells_24 (by decide) ?_
  refine jV (pc := 26) F 15 4500 (z97 hZ) cls1.1 (c_J4_appendC 97 q1_86 (((((((((((((0 + wd_n (wel σ 0)) + 1) + wd_n (wel σ 1)) + 1) + wd_n (wel σ 2)) + 1) + wd_n (wel σ 3)) + 1) + wd_n (wel σ 4)) + 1) + wd_n (wel σ 5)) + 1) + wd_n (wel σ 6)) L1_87 (wd_a (up (wd_a (up (wd_a (up (wd_a (up (wd_a (up (wd_a (up (wd_a κ 0 (wel σ 0)) (0 + wd_n (wel σ 0)) 32) ((0 + wd_n (wel σ 0)) + 1) (wel σ 1)) (((0 + wd_n (wel σ 0)) + 1) + wd_n (wel σ 1)) 32) ((((0 + wd_n (wel σ 0)) + 1) + wd_n (wel σ 1)) + 1) (wel σ 2)) (((((0 + wd_n (wel σ 0)) + 1) + wd_n (wel σ 1)) + 1) + wd_n (wel σ 2)) 32) ((((((0 + wd_n (wel σ 0)) + 1) + wd_n (wel σ 1)) + 1) + wd_n (wel σ 2)) + 1) (wel σ 3)) (((((((0 + wd_n (wel σ 0)) + 1) + wd_n (wel σ 1)) + 1) + wd_n (wel σ 2)) + 1) + wd_n (wel σ 3)) 32) ((((((((0 + wd_n (wel σ 0)) + 1) + wd_n (wel σ 1)) + 1) + wd_n (wel σ 2)) + 1) + wd_n (wel σ 3)) + 1) (wel σ 4)) (((((((((0 + wd_n (wel σ 0)) + 1) + wd_n (wel σ 1)) + 1) + wd_n (wel σ 2)) + 1) + wd_n (wel σ 3)) + 1) + wd_n (wel σ 4)) 32) ((((((((((0 + wd_n (wel σ 0)) + 1) + wd_n (wel σ 1)) + 1) + wd_n (wel σ 2)) + 1) + wd_n (wel σ 3)) + 1) + wd_n (wel σ 4)) + 1) (wel σ 5)) (((((((((((0 + wd_n (wel σ 0)) + 1) + wd_n (wel σ 1)) + 1) + wd_n (wel σ 2)) + 1) + wd_n (wel σ 3)) + 1) + wd_n (wel σ 4)) + 1) + wd_n (wel σ 5)) 32) ((((((((((((0 + wd_n (wel σ 0)) + 1) + wd_n (wel σ 1)) + 1) + wd_n (wel σ 2)) + 1) + wd_n (wel σ 3)) + 1) + wd_n (wel σ 4)) + 1) + wd_n (wel σ 5)) + 1) (wel σ 6)) 32 h_88 (by omega) (by omega) ⟨hZ.1, by omega⟩ (fun Z1_90 V1_91 q1_92 L1_93 h_94 h_95 => ?_)) rfl ⟨k_J4_append_cf468, il_RX7_251, im_J4_append_cf468, is_J4_append_cf468, ii_RJ4⟩ 1 rfl hd_J4_append_cf468 ⟨by decide, by decide, by decide, by decide, Nat.le_of_ble_eq_true rfl⟩ dX7_writeWells_26
  have o9 := h_88
  have hP9 := BX_PI h_95 hP9 hZ (Or.inr rfl) o9.2.2.1 o9.2.2.2.2.2.2.2.2
  have hS9 := Sh_BX hS9 h_95 hZ (Or.inr rfl) o9.2.2.1 o9.2.2.2.2.2.2.2.2
  have hB9 := BX_trans hB9 h_95
  have z9 := h_95.1
  have hZ := BX_ZI h_95 hZ (by omega)
  refine j1 ?_
  refine ia_pop (pc := 29) F dX7_writeWells_29 (Or.inr (Or.inr rfl)) ?_
  refine ia_aload_n (pc := 30) F dX7_writeWells_30 rfl ?_
  refine jg (pc := 31) F (z0 hZ) cls10 f10_7 (hP9 0 7 97 rfl) il_RX7_57 dX7_writeWells_31 ?_
  refine ia_aload_n (pc := 34) F dX7_writeWells_34 rfl ?_
  refine jg (pc := 35) F (z0 hZ) cls10 f10_0 (hP9 0 0 1 rfl) il_RX7_12 dX7_writeWells_35 ?_
  refine jg (pc := 38) F (z1 hZ) cls9 f9_0 (hP9 1 0 2 rfl) il_RX7_96 dX7_writeWells_38 ?_
  refine ia_iload_n (pc := 41) F dX7_writeWells_41 rfl ?_
  have r_96 := sw 7 (by omega)
  refine ja (pc := 42) F (v := wel σ 7) (z2 hZ) 7 rfl (by omega) (hS9.wel 7 (by omega)) dX7_writeWells_42 ?_
  refine jV (pc := 43) F 16 4800 (z97 hZ) cls1.1 (c_J4_appendI 97 q1_92 ((((((((((((((0 + wd_n (wel σ 0)) + 1) + wd_n (wel σ 1)) + 1) + wd_n (wel σ 2)) + 1) + wd_n (wel σ 3)) + 1) + wd_n (wel σ 4)) + 1) + wd_n (wel σ 5)) + 1) + wd_n (wel σ 6)) + 1) L1_93 (up (wd_a (up (wd_a (up (wd_a (up (wd_a (up (wd_a (up (wd_a (up (wd_a κ 0 (wel σ 0)) (0 + wd_n (wel σ 0)) 32) ((0 + wd_n (wel σ 0)) + 1) (wel σ 1)) (((0 + wd_n (wel σ 0)) + 1) + wd_n (wel σ 1)) 32) ((((0 + wd_n (wel σ 0)) + 1) + wd_n (wel σ 1)) + 1) (wel σ 2)) (((((0 + wd_n (wel σ 0)) + 1) + wd_n (wel σ 1)) + 1) + wd_n (wel σ 2)) 32) ((((((0 + wd_n (wel σ 0)) + 1) + wd_n (wel σ 1)) + 1) + wd_n (wel σ 2)) + 1) (wel σ 3)) (((((((0 + wd_n (wel σ 0)) + 1) + wd_n (wel σ 1)) + 1) + wd_n (wel σ 2)) + 1) + wd_n (wel σ 3)) 32) ((((((((0 + wd_n (wel σ 0)) + 1) + wd_n (wel σ 1)) + 1) + wd_n (wel σ 2)) + 1) + wd_n (wel σ 3)) + 1) (wel σ 4)) (((((((((0 + wd_n (wel σ 0)) + 1) + wd_n (wel σ 1)) + 1) + wd_n (wel σ 2)) + 1) + wd_n (wel σ 3)) + 1) + wd_n (wel σ 4)) 32) ((((((((((0 + wd_n (wel σ 0)) + 1) + wd_n (wel σ 1)) + 1) + wd_n (wel σ 2)) + 1) + wd_n (wel σ 3)) + 1) + wd_n (wel σ 4)) + 1) (wel σ 5)) (((((((((((0 + wd_n (wel σ 0)) + 1) + wd_n (wel σ 1)) + 1) + wd_n (wel σ 2)) + 1) + wd_n (wel σ 3)) + 1) + wd_n (wel σ 4)) + 1) + wd_n (wel σ 5)) 32) ((((((((((((0 + wd_n (wel σ 0)) + 1) + wd_n (wel σ 1)) + 1) + wd_n (wel σ 2)) + 1) + wd_n (wel σ 3)) + 1) + wd_n (wel σ 4)) + 1) + wd_n (wel σ 5)) + 1) (wel σ 6)) (((((((((((((0 + wd_n (wel σ 0)) + 1) + wd_n (wel σ 1)) + 1) + wd_n (wel σ 2)) + 1) + wd_n (wel σ 3)) + 1) + wd_n (wel σ 4)) + 1) + wd_n (wel σ 5)) + 1) + wd_n (wel σ 6)) 32) (wel σ 7) h_94 (by omega) (by omega) ⟨hZ.1, by omega⟩ (fun Z1_97 V1_98 q1_99 L1_100 h_101 h_102 => ?_)) rfl ⟨k_J4_append_bf812, il_RX7_247, im_J4_append_bf812, is_J4_append_bf812, ii_RJ4⟩ 1 rfl hd_J4_append_bf812 ⟨by decide, by decide, by decide, by decide, Nat.le_of_ble_eq_true rfl⟩ dX7_writeWells_43
  have o9 := h_94
  have hP9 := BX_PI h_102 hP9 hZ (Or.inr rfl) o9.2.2.1 o9.2.2.2.2.2.2.2.2
  have hS9 := Sh_BX hS9 h_102 hZ (Or.inr rfl) o9.2.2.1 o9.2.2.2.2.2.2.2.2
  have hB9 := BX_trans hB9 h_102
  have z9 := h_102.1
  have hZ := BX_ZI h_102 hZ (by omega)
  refine j1 ?_
  refine ia_pop (pc := 46) F dX7_writeWells_46 (Or.inr (Or.inr rfl)) ?_
  refine ia_iinc (pc := 47) F (ls' := [(4, ((0 : Nat) : Int)), (0, 8)]) dX7_writeWells_47 rfl (by decide) rfl rfl ?_
  refine ia_goto (pc := 50) F 10 dX7_writeWells_50 rfl ?_
  refine ia_iload_n (pc := 10) F dX7_writeWells_10 rfl ?_
  refine ia_bipush (pc := 11) F dX7_writeWells_11 (by decide) ?_
  refine ia_icmp_ge (pc := 13) F 53 dX7_writeWells_13 rfl (by omega) (by omega) (fun h9 => absurd h9 (by omega)) (fun _ => ?_)
  refine ia_iload_n (pc := 16) F dX7_writeWells_16 rfl ?_
  refine ia_if_le (pc := 17) F 30 dX7_writeWells_17 rfl (by omega) (fun h9 => absurd h9 (by omega)) (fun _ => ?_)
  refine ia_aload_n (pc := 20) F dX7_writeWells_20 rfl ?_
  refine jg (pc := 21) F (z0 hZ) cls10 f10_7 (hP9 0 7 97 rfl) il_RX7_57 dX7_writeWells_21 ?_
  refine ia_bipush (pc := 24) F dX7_writeWells_24 (by decide) ?_
  refine jV (pc := 26) F 17 5100 (z97 hZ) cls1.1 (c_J4_appendC 97 q1_99 (((((((((((((((0 + wd_n (wel σ 0)) + 1) + wd_n (wel σ 1)) + 1) + wd_n (wel σ 2)) + 1) + wd_n (wel σ 3)) + 1) + wd_n (wel σ 4)) + 1) + wd_n (wel σ 5)) + 1) + wd_n (wel σ 6)) + 1) + wd_n (wel σ 7)) L1_100 (wd_a (up (wd_a (up (wd_a (up (wd_a (up (wd_a (up (wd_a (up (wd_a (up (wd_a κ 0 (wel σ 0)) (0 + wd_n (wel σ 0)) 32) ((0 + wd_n (wel σ 0)) + 1) (wel σ 1)) (((0 + wd_n (wel σ 0)) + 1) + wd_n (wel σ 1)) 32) ((((0 + wd_n (wel σ 0)) + 1) + wd_n (wel σ 1)) + 1) (wel σ 2)) (((((0 + wd_n (wel σ 0)) + 1) + wd_n (wel σ 1)) + 1) + wd_n (wel σ 2)) 32) ((((((0 + wd_n (wel σ 0)) + 1) + wd_n (wel σ 1)) + 1) + wd_n (wel σ 2)) + 1) (wel σ 3)) (((((((0 + wd_n (wel σ 0)) + 1) + wd_n (wel σ 1)) + 1) + wd_n (wel σ 2)) + 1) + wd_n (wel σ 3)) 32) ((((((((0 + wd_n (wel σ 0)) + 1) + wd_n (wel σ 1)) + 1) + wd_n (wel σ 2)) + 1) + wd_n (wel σ 3)) + 1) (wel σ 4)) (((((((((0 + wd_n (wel σ 0)) + 1) + wd_n (wel σ 1)) + 1) + wd_n (wel σ 2)) + 1) + wd_n (wel σ 3)) + 1) + wd_n (wel σ 4)) 32) ((((((((((0 + wd_n (wel σ 0)) + 1) + wd_n (wel σ 1)) + 1) + wd_n (wel σ 2)) + 1) + wd_n (wel σ 3)) + 1) + wd_n (wel σ 4)) + 1) (wel σ 5)) (((((((((((0 + wd_n (wel σ 0)) + 1) + wd_n (wel σ 1)) + 1) + wd_n (wel σ 2)) + 1) + wd_n (wel σ 3)) + 1) + wd_n (wel σ 4)) + 1) + wd_n (wel σ 5)) 32) ((((((((((((0 + wd_n (wel σ 0)) + 1) + wd_n (wel σ 1)) + 1) + wd_n (wel σ 2)) + 1) + wd_n (wel σ 3)) + 1) + wd_n (wel σ 4)) + 1) + wd_n (wel σ 5)) + 1) (wel σ 6)) (((((((((((((0 + wd_n (wel σ 0)) + 1) + wd_n (wel σ 1)) + 1) + wd_n (wel σ 2)) + 1) + wd_n (wel σ 3)) + 1) + wd_n (wel σ 4)) + 1) + wd_n (wel σ 5)) + 1) + wd_n (wel σ 6)) 32) ((((((((((((((0 + wd_n (wel σ 0)) + 1) + wd_n (wel σ 1)) + 1) + wd_n (wel σ 2)) + 1) + wd_n (wel σ 3)) + 1) + wd_n (wel σ 4)) + 1) + wd_n (wel σ 5)) + 1) + wd_n (wel σ 6)) + 1) (wel σ 7)) 32 h_101 (by omega) (by omega) ⟨hZ.1, by omega⟩ (fun Z1_103 V1_104 q1_105 L1_106 h_107 h_108 => ?_)) rfl ⟨k_J4_append_cf468, il_RX7_251, im_J4_append_cf468, is_J4_append_cf468, ii_RJ4⟩ 1 rfl hd_J4_append_cf468 ⟨by decide, by decide, by decide, by decide, Nat.le_of_ble_eq_true rfl⟩ dX7_writeWells_26
  have o9 := h_101
  have hP9 := BX_PI h_108 hP9 hZ (Or.inr rfl) o9.2.2.1 o9.2.2.2.2.2.2.2.2
  have hS9 := Sh_BX hS9 h_108 hZ (Or.inr rfl) o9.2.2.1 o9.2.2.2.2.2.2.2.2
  have hB9 := BX_trans hB9 h_108
  have z9 := h_108.1
  have hZ := BX_ZI h_108 hZ (by omega)
  refine j1 ?_
  refine ia_pop (pc := 29) F dX7_writeWells_29 (Or.inr (Or.inr rfl)) ?_
  refine ia_aload_n (pc := 30) F dX7_writeWells_30 rfl ?_
  refine jg (pc := 31) F (z0 hZ) cls10 f10_7 (hP9 0 7 97 rfl) il_RX7_57 dX7_writeWells_31 ?_
  refine ia_aload_n (pc := 34) F dX7_writeWells_34 rfl ?_
  refine jg (pc := 35) F (z0 hZ) cls10 f10_0 (hP9 0 0 1 rfl) il_RX7_12 dX7_writeWells_35 ?_
  refine jg (pc := 38) F (z1 hZ) cls9 f9_0 (hP9 1 0 2 rfl) il_RX7_96 dX7_writeWells_38 ?_
  refine ia_iload_n (pc := 41) F dX7_writeWells_41 rfl ?_
  have r_109 := sw 8 (by omega)
  refine ja (pc := 42) F (v := wel σ 8) (z2 hZ) 8 rfl (by omega) (hS9.wel 8 (by omega)) dX7_writeWells_42 ?_
  refine jV (pc := 43) F 18 5400 (z97 hZ) cls1.1 (c_J4_appendI 97 q1_105 ((((((((((((((((0 + wd_n (wel σ 0)) + 1) + wd_n (wel σ 1)) + 1) + wd_n (wel σ 2)) + 1) + wd_n (wel σ 3)) + 1) + wd_n (wel σ 4)) + 1) + wd_n (wel σ 5)) + 1) + wd_n (wel σ 6)) + 1) + wd_n (wel σ 7)) + 1) L1_106 (up (wd_a (up (wd_a (up (wd_a (up (wd_a (up (wd_a (up (wd_a (up (wd_a (up (wd_a κ 0 (wel σ 0)) (0 + wd_n (wel σ 0)) 32) ((0 + wd_n (wel σ 0)) + 1) (wel σ 1)) (((0 + wd_n (wel σ 0)) + 1) + wd_n (wel σ 1)) 32) ((((0 + wd_n (wel σ 0)) + 1) + wd_n (wel σ 1)) + 1) (wel σ 2)) (((((0 + wd_n (wel σ 0)) + 1) + wd_n (wel σ 1)) + 1) + wd_n (wel σ 2)) 32) ((((((0 + wd_n (wel σ 0)) + 1) + wd_n (wel σ 1)) + 1) + wd_n (wel σ 2)) + 1) (wel σ 3)) (((((((0 + wd_n (wel σ 0)) + 1) + wd_n (wel σ 1)) + 1) + wd_n (wel σ 2)) + 1) + wd_n (wel σ 3)) 32) ((((((((0 + wd_n (wel σ 0)) + 1) + wd_n (wel σ 1)) + 1) + wd_n (wel σ 2)) + 1) + wd_n (wel σ 3)) + 1) (wel σ 4)) (((((((((0 + wd_n (wel σ 0)) + 1) + wd_n (wel σ 1)) + 1) + wd_n (wel σ 2)) + 1) + wd_n (wel σ 3)) + 1) + wd_n (wel σ 4)) 32) ((((((((((0 + wd_n (wel σ 0)) + 1) + wd_n (wel σ 1)) + 1) + wd_n (wel σ 2)) + 1) + wd_n (wel σ 3)) + 1) + wd_n (wel σ 4)) + 1) (wel σ 5)) (((((((((((0 + wd_n (wel σ 0)) + 1) + wd_n (wel σ 1)) + 1) + wd_n (wel σ 2)) + 1) + wd_n (wel σ 3)) + 1) + wd_n (wel σ 4)) + 1) + wd_n (wel σ 5)) 32) ((((((((((((0 + wd_n (wel σ 0)) + 1) + wd_n (wel σ 1)) + 1) + wd_n (wel σ 2)) + 1) + wd_n (wel σ 3)) + 1) + wd_n (wel σ 4)) + 1) + wd_n (wel σ 5)) + 1) (wel σ 6)) (((((((((((((0 + wd_n (wel σ 0)) + 1) + wd_n (wel σ 1)) + 1) + wd_n (wel σ 2)) + 1) + wd_n (wel σ 3)) + 1) + wd_n (wel σ 4)) + 1) + wd_n (wel σ 5)) + 1) + wd_n (wel σ 6)) 32) ((((((((((((((0 + wd_n (wel σ 0)) + 1) + wd_n (wel σ 1)) + 1) + wd_n (wel σ 2)) + 1) + wd_n (wel σ 3)) + 1) + wd_n (wel σ 4)) + 1) + wd_n (wel σ 5)) + 1) + wd_n (wel σ 6)) + 1) (wel σ 7)) (((((((((((((((0 + wd_n (wel σ 0)) + 1) + wd_n (wel σ 1)) + 1) + wd_n (wel σ 2)) + 1) + wd_n (wel σ 3)) + 1) + wd_n (wel σ 4)) + 1) + wd_n (wel σ 5)) + 1) + wd_n (wel σ 6)) + 1) + wd_n (wel σ 7)) 32) (wel σ 8) h_107 (by omega) (by omega) ⟨hZ.1, by omega⟩ (fun Z1_110 V1_111 q1_112 L1_113 h_114 h_115 => ?_)) rfl ⟨k_J4_append_bf812, il_RX7_247, im_J4_append_bf812, is_J4_append_bf812, ii_RJ4⟩ 1 rfl hd_J4_append_bf812 ⟨by decide, by decide, by decide, by decide, Nat.le_of_ble_eq_true rfl⟩ dX7_writeWells_43
  have o9 := h_107
  have hP9 := BX_PI h_115 hP9 hZ (Or.inr rfl) o9.2.2.1 o9.2.2.2.2.2.2.2.2
  have hS9 := Sh_BX hS9 h_115 hZ (Or.inr rfl) o9.2.2.1 o9.2.2.2.2.2.2.2.2
  have hB9 := BX_trans hB9 h_115
  have z9 := h_115.1
  have hZ := BX_ZI h_115 hZ (by omega)
  refine j1 ?_
  refine ia_pop (pc := 46) F dX7_writeWells_46 (Or.inr (Or.inr rfl)) ?_
  refine ia_iinc (pc := 47) F (ls' := [(4, ((0 : Nat) : Int)), (0, 9)]) dX7_writeWells_47 rfl (by decide) rfl rfl ?_
  refine ia_goto (pc := 50) F 10 dX7_writeWells_50 rfl ?_
  refine ia_iload_n (pc := 10) F dX7_writeWells_10 rfl ?_
  refine ia_bipush (pc := 11) F dX7_writeWells_11 (by decide) ?_
  refine ia_icmp_ge (pc := 13) F 53 dX7_writeWells_13 rfl (by omega) (by omega) (fun h9 => absurd h9 (by omega)) (fun _ => ?_)
  refine ia_iload_n (pc := 16) F dX7_writeWells_16 rfl ?_
  refine ia_if_le (pc := 17) F 30 dX7_writeWells_17 rfl (by omega) (fun h9 => absurd h9 (by omega)) (fun _ => ?_)
  refine ia_aload_n (pc := 20) F dX7_writeWells_20 rfl ?_
  refine jg (pc := 21) F (z0 hZ) cls10 f10_7 (hP9 0 7 97 rfl) il_RX7_57 dX7_writeWells_21 ?_
  refine ia_bipush (pc := 24) F dX7_writeWells_24 (by decide) ?_
  refine jV (pc := 26) F 19 5700 (z97 hZ) cls1.1 (c_J4_appendC 97 q1_112 (((((((((((((((((0 + wd_n (wel σ 0)) + 1) + wd_n (wel σ 1)) + 1) + wd_n (wel σ 2)) + 1) + wd_n (wel σ 3)) + 1) + wd_n (wel σ 4)) + 1) + wd_n (wel σ 5)) + 1) + wd_n (wel σ 6)) + 1) + wd_n (wel σ 7)) + 1) + wd_n (wel σ 8)) L1_113 (wd_a (up (wd_a (up (wd_a (up (wd_a (up (wd_a (up (wd_a (up (wd_a (up (wd_a (up (wd_a κ 0 (wel σ 0)) (0 + wd_n (wel σ 0)) 32) ((0 + wd_n (wel σ 0)) + 1) (wel σ 1)) (((0 + wd_n (wel σ 0)) + 1) + wd_n (wel σ 1)) 32) ((((0 + wd_n (wel σ 0)) + 1) + wd_n (wel σ 1)) + 1) (wel σ 2)) (((((0 + wd_n (wel σ 0)) + 1) + wd_n (wel σ 1)) + 1) + wd_n (wel σ 2)) 32) ((((((0 + wd_n (wel σ 0)) + 1) + wd_n (wel σ 1)) + 1) + wd_n (wel σ 2)) + 1) (wel σ 3)) (((((((0 + wd_n (wel σ 0)) + 1) + wd_n (wel σ 1)) + 1) + wd_n (wel σ 2)) + 1) + wd_n (wel σ 3)) 32) ((((((((0 + wd_n (wel σ 0)) + 1) + wd_n (wel σ 1)) + 1) + wd_n (wel σ 2)) + 1) + wd_n (wel σ 3)) + 1) (wel σ 4)) (((((((((0 + wd_n (wel σ 0)) + 1) + wd_n (wel σ 1)) + 1) + wd_n (wel σ 2)) + 1) + wd_n (wel σ 3)) + 1) + wd_n (wel σ 4)) 32) ((((((((((0 + wd_n (wel σ 0)) + 1) + wd_n (wel σ 1)) + 1) + wd_n (wel σ 2)) + 1) + wd_n (wel σ 3)) + 1) + wd_n (wel σ 4)) + 1) (wel σ 5)) (((((((((((0 + wd_n (wel σ 0)) + 1) + wd_n (wel σ 1)) + 1) + wd_n (wel σ 2)) + 1) + wd_n (wel σ 3)) + 1) + wd_n (wel σ 4)) + 1) + wd_n (wel σ 5)) 32) ((((((((((((0 + wd_n (wel σ 0)) + 1) + wd_n (wel σ 1)) + 1) + wd_n (wel σ 2)) + 1) + wd_n (wel σ 3)) + 1) + wd_n (wel σ 4)) + 1) + wd_n (wel σ 5)) + 1) (wel σ 6)) (((((((((((((0 + wd_n (wel σ 0)) + 1) + wd_n (wel σ 1)) + 1) + wd_n (wel σ 2)) + 1) + wd_n (wel σ 3)) + 1) + wd_n (wel σ 4)) + 1) + wd_n (wel σ 5)) + 1) + wd_n (wel σ 6)) 32) ((((((((((((((0 + wd_n (wel σ 0)) + 1) + wd_n (wel σ 1)) + 1) + wd_n (wel σ 2)) + 1) + wd_n (wel σ 3)) + 1) + wd_n (wel σ 4)) + 1) + wd_n (wel σ 5)) + 1) + wd_n (wel σ 6)) + 1) (wel σ 7)) (((((((((((((((0 + wd_n (wel σ 0)) + 1) + wd_n (wel σ 1)) + 1) + wd_n (wel σ 2)) + 1) + wd_n (wel σ 3)) + 1) + wd_n (wel σ 4)) + 1) + wd_n (wel σ 5)) + 1) + wd_n (wel σ 6)) + 1) + wd_n (wel σ 7)) 32) ((((((((((((((((0 + wd_n (wel σ 0)) + 1) + wd_n (wel σ 1)) + 1) + wd_n (wel σ 2)) + 1) + wd_n (wel σ 3)) + 1) + wd_n (wel σ 4)) + 1) + wd_n (wel σ 5)) + 1) + wd_n (wel σ 6)) + 1) + wd_n (wel σ 7)) + 1) (wel σ 8)) 32 h_114 (by omega) (by omega) ⟨hZ.1, by omega⟩ (fun Z1_116 V1_117 q1_118 L1_119 h_120 h_121 => ?_)) rfl ⟨k_J4_append_cf468, il_RX7_251, im_J4_append_cf468, is_J4_append_cf468, ii_RJ4⟩ 1 rfl hd_J4_append_cf468 ⟨by decide, by decide, by decide, by decide, Nat.le_of_ble_eq_true rfl⟩ dX7_writeWells_26
  have o9 := h_114
  have hP9 := BX_PI h_121 hP9 hZ (Or.inr rfl) o9.2.2.1 o9.2.2.2.2.2.2.2.2
  have hS9 := Sh_BX hS9 h_121 hZ (Or.inr rfl) o9.2.2.1 o9.2.2.2.2.2.2.2.2
  have hB9 := BX_trans hB9 h_121
  have z9 := h_121.1
  have hZ := BX_ZI h_121 hZ (by omega)
  refine j1 ?_
  refine ia_pop (pc := 29) F dX7_writeWells_29 (Or.inr (Or.inr rfl)) ?_
  refine ia_aload_n (pc := 30) F dX7_writeWells_30 rfl ?_
  refine jg (pc := 31) F (z0 hZ) cls10 f10_7 (hP9 0 7 97 rfl) il_RX7_57 dX7_writeWells_31 ?_
  refine ia_aload_n (pc := 34) F dX7_writeWells_34 rfl ?_
  refine jg (pc := 35) F (z0 hZ) cls10 f10_0 (hP9 0 0 1 rfl) il_RX7_12 dX7_writeWells_35 ?_
  refine jg (pc := 38) F (z1 hZ) cls9 f9_0 (hP9 1 0 2 rfl) il_RX7_96 dX7_writeWells_38 ?_
  refine ia_iload_n (pc := 41) F dX7_writeWells_41 rfl ?_
  have r_122 := sw 9 (by omega)
  refine ja (pc := 42) F (v := wel σ 9) (z2 hZ) 9 rfl (by omega) (hS9.wel 9 (by omega)) dX7_writeWells_42 ?_
  refine jV (pc := 43) F 20 6000 (z97 hZ) cls1.1 (c_J4_appendI 97 q1_118 ((((((((((((((((((0 + wd_n (wel σ 0)) + 1) + wd_n (wel σ 1)) + 1) + wd_n (wel σ 2)) + 1) + wd_n (wel σ 3)) + 1) + wd_n (wel σ 4)) + 1) + wd_n (wel σ 5)) + 1) + wd_n (wel σ 6)) + 1) + wd_n (wel σ 7)) + 1) + wd_n (wel σ 8)) + 1) L1_119 (up (wd_a (up (wd_a (up (wd_a (up (wd_a (up (wd_a (up (wd_a (up (wd_a (up (wd_a (up (wd_a κ 0 (wel σ 0)) (0 + wd_n (wel σ 0)) 32) ((0 + wd_n (wel σ 0)) + 1) (wel σ 1)) (((0 + wd_n (wel σ 0)) + 1) + wd_n (wel σ 1)) 32) ((((0 + wd_n (wel σ 0)) + 1) + wd_n (wel σ 1)) + 1) (wel σ 2)) (((((0 + wd_n (wel σ 0)) + 1) + wd_n (wel σ 1)) + 1) + wd_n (wel σ 2)) 32) ((((((0 + wd_n (wel σ 0)) + 1) + wd_n (wel σ 1)) + 1) + wd_n (wel σ 2)) + 1) (wel σ 3)) (((((((0 + wd_n (wel σ 0)) + 1) + wd_n (wel σ 1)) + 1) + wd_n (wel σ 2)) + 1) + wd_n (wel σ 3)) 32) ((((((((0 + wd_n (wel σ 0)) + 1) + wd_n (wel σ 1)) + 1) + wd_n (wel σ 2)) + 1) + wd_n (wel σ 3)) + 1) (wel σ 4)) (((((((((0 + wd_n (wel σ 0)) + 1) + wd_n (wel σ 1)) + 1) + wd_n (wel σ 2)) + 1) + wd_n (wel σ 3)) + 1) + wd_n (wel σ 4)) 32) ((((((((((0 + wd_n (wel σ 0)) + 1) + wd_n (wel σ 1)) + 1) + wd_n (wel σ 2)) + 1) + wd_n (wel σ 3)) + 1) + wd_n (wel σ 4)) + 1) (wel σ 5)) (((((((((((0 + wd_n (wel σ 0)) + 1) + wd_n (wel σ 1)) + 1) + wd_n (wel σ 2)) + 1) + wd_n (wel σ 3)) + 1) + wd_n (wel σ 4)) + 1) + wd_n (wel σ 5)) 32) ((((((((((((0 + wd_n (wel σ 0)) + 1) + wd_n (wel σ 1)) + 1) + wd_n (wel σ 2)) + 1) + wd_n (wel σ 3)) + 1) + wd_n (wel σ 4)) + 1) + wd_n (wel σ 5)) + 1) (wel σ 6)) (((((((((((((0 + wd_n (wel σ 0)) + 1) + wd_n (wel σ 1)) + 1) + wd_n (wel σ 2)) + 1) + wd_n (wel σ 3)) + 1) + wd_n (wel σ 4)) + 1) + wd_n (wel σ 5)) + 1) + wd_n (wel σ 6)) 32) ((((((((((((((0 + wd_n (wel σ 0)) + 1) + wd_n (wel σ 1)) + 1) + wd_n (wel σ 2)) + 1) + wd_n (wel σ 3)) + 1) + wd_n (wel σ 4)) + 1) + wd_n (wel σ 5)) + 1) + wd_n (wel σ 6)) + 1) (wel σ 7)) (((((((((((((((0 + wd_n (wel σ 0)) + 1) + wd_n (wel σ 1)) + 1) + wd_n (wel σ 2)) + 1) + wd_n (wel σ 3)) + 1) + wd_n (wel σ 4)) + 1) + wd_n (wel σ 5)) + 1) + wd_n (wel σ 6)) + 1) + wd_n (wel σ 7)) 32) ((((((((((((((((0 + wd_n (wel σ 0)) + 1) + wd_n (wel σ 1)) + 1) + wd_n (wel σ 2)) + 1) + wd_n (wel σ 3)) + 1) + wd_n (wel σ 4)) + 1) + wd_n (wel σ 5)) + 1) + wd_n (wel σ 6)) + 1) + wd_n (wel σ 7)) + 1) (wel σ 8)) (((((((((((((((((0 + wd_n (wel σ 0)) + 1) + wd_n (wel σ 1)) + 1) + wd_n (wel σ 2)) + 1) + wd_n (wel σ 3)) + 1) + wd_n (wel σ 4)) + 1) + wd_n (wel σ 5)) + 1) + wd_n (wel σ 6)) + 1) + wd_n (wel σ 7)) + 1) + wd_n (wel σ 8)) 32) (wel σ 9) h_120 (by omega) (by omega) ⟨hZ.1, by omega⟩ (fun Z1_123 V1_124 q1_125 L1_126 h_127 h_128 => ?_)) rfl ⟨k_J4_append_bf812, il_RX7_247, im_J4_append_bf812, is_J4_append_bf812, ii_RJ4⟩ 1 rfl hd_J4_append_bf812 ⟨by decide, by decide, by decide, by decide, Nat.le_of_ble_eq_true rfl⟩ dX7_writeWells_43
  have o9 := h_120
  have hP9 := BX_PI h_128 hP9 hZ (Or.inr rfl) o9.2.2.1 o9.2.2.2.2.2.2.2.2
  have hS9 := Sh_BX hS9 h_128 hZ (Or.inr rfl) o9.2.2.1 o9.2.2.2.2.2.2.2.2
  have hB9 := BX_trans hB9 h_128
  have z9 := h_128.1
  have hZ := BX_ZI h_128 hZ (by omega)
  refine j1 ?_
  refine ia_pop (pc := 46) F dX7_writeWells_46 (Or.inr (Or.inr rfl)) ?_
  refine ia_iinc (pc := 47) F (ls' := [(4, ((0 : Nat) : Int)), (0, 10)]) dX7_writeWells_47 rfl (by decide) rfl rfl ?_
  refine ia_goto (pc := 50) F 10 dX7_writeWells_50 rfl ?_
  refine ia_iload_n (pc := 10) F dX7_writeWells_10 rfl ?_
  refine ia_bipush (pc := 11) F dX7_writeWells_11 (by decide) ?_
  refine ia_icmp_ge (pc := 13) F 53 dX7_writeWells_13 rfl (by omega) (by omega) (fun _ => ?_) (fun h9 => absurd h9 (by omega))
  refine ia_aload_n (pc := 53) F dX7_writeWells_53 rfl ?_
  refine jg (pc := 54) F (z0 hZ) cls10 f10_7 (hP9 0 7 97 rfl) il_RX7_57 dX7_writeWells_54 ?_
  refine jV (pc := 57) F 20 6000 (z97 hZ) cls1.1 (c_J4_length 97 q1_125 (((((((((((((((((((0 + wd_n (wel σ 0)) + 1) + wd_n (wel σ 1)) + 1) + wd_n (wel σ 2)) + 1) + wd_n (wel σ 3)) + 1) + wd_n (wel σ 4)) + 1) + wd_n (wel σ 5)) + 1) + wd_n (wel σ 6)) + 1) + wd_n (wel σ 7)) + 1) + wd_n (wel σ 8)) + 1) + wd_n (wel σ 9)) L1_126 (wd_a (up (wd_a (up (wd_a (up (wd_a (up (wd_a (up (wd_a (up (wd_a (up (wd_a (up (wd_a (up (wd_a κ 0 (wel σ 0)) (0 + wd_n (wel σ 0)) 32) ((0 + wd_n (wel σ 0)) + 1) (wel σ 1)) (((0 + wd_n (wel σ 0)) + 1) + wd_n (wel σ 1)) 32) ((((0 + wd_n (wel σ 0)) + 1) + wd_n (wel σ 1)) + 1) (wel σ 2)) (((((0 + wd_n (wel σ 0)) + 1) + wd_n (wel σ 1)) + 1) + wd_n (wel σ 2)) 32) ((((((0 + wd_n (wel σ 0)) + 1) + wd_n (wel σ 1)) + 1) + wd_n (wel σ 2)) + 1) (wel σ 3)) (((((((0 + wd_n (wel σ 0)) + 1) + wd_n (wel σ 1)) + 1) + wd_n (wel σ 2)) + 1) + wd_n (wel σ 3)) 32) ((((((((0 + wd_n (wel σ 0)) + 1) + wd_n (wel σ 1)) + 1) + wd_n (wel σ 2)) + 1) + wd_n (wel σ 3)) + 1) (wel σ 4)) (((((((((0 + wd_n (wel σ 0)) + 1) + wd_n (wel σ 1)) + 1) + wd_n (wel σ 2)) + 1) + wd_n (wel σ 3)) + 1) + wd_n (wel σ 4)) 32) ((((((((((0 + wd_n (wel σ 0)) + 1) + wd_n (wel σ 1)) + 1) + wd_n (wel σ 2)) + 1) + wd_n (wel σ 3)) + 1) + wd_n (wel σ 4)) + 1) (wel σ 5)) (((((((((((0 + wd_n (wel σ 0)) + 1) + wd_n (wel σ 1)) + 1) + wd_n (wel σ 2)) + 1) + wd_n (wel σ 3)) + 1) + wd_n (wel σ 4)) + 1) + wd_n (wel σ 5)) 32) ((((((((((((0 + wd_n (wel σ 0)) + 1) + wd_n (wel σ 1)) + 1) + wd_n (wel σ 2)) + 1) + wd_n (wel σ 3)) + 1) + wd_n (wel σ 4)) + 1) + wd_n (wel σ 5)) + 1) (wel σ 6)) (((((((((((((0 + wd_n (wel σ 0)) + 1) + wd_n (wel σ 1)) + 1) + wd_n (wel σ 2)) + 1) + wd_n (wel σ 3)) + 1) + wd_n (wel σ 4)) + 1) + wd_n (wel σ 5)) + 1) + wd_n (wel σ 6)) 32) ((((((((((((((0 + wd_n (wel σ 0)) + 1) + wd_n (wel σ 1)) + 1) + wd_n (wel σ 2)) + 1) + wd_n (wel σ 3)) + 1) + wd_n (wel σ 4)) + 1) + wd_n (wel σ 5)) + 1) + wd_n (wel σ 6)) + 1) (wel σ 7)) (((((((((((((((0 + wd_n (wel σ 0)) + 1) + wd_n (wel σ 1)) + 1) + wd_n (wel σ 2)) + 1) + wd_n (wel σ 3)) + 1) + wd_n (wel σ 4)) + 1) + wd_n (wel σ 5)) + 1) + wd_n (wel σ 6)) + 1) + wd_n (wel σ 7)) 32) ((((((((((((((((0 + wd_n (wel σ 0)) + 1) + wd_n (wel σ 1)) + 1) + wd_n (wel σ 2)) + 1) + wd_n (wel σ 3)) + 1) + wd_n (wel σ 4)) + 1) + wd_n (wel σ 5)) + 1) + wd_n (wel σ 6)) + 1) + wd_n (wel σ 7)) + 1) (wel σ 8)) (((((((((((((((((0 + wd_n (wel σ 0)) + 1) + wd_n (wel σ 1)) + 1) + wd_n (wel σ 2)) + 1) + wd_n (wel σ 3)) + 1) + wd_n (wel σ 4)) + 1) + wd_n (wel σ 5)) + 1) + wd_n (wel σ 6)) + 1) + wd_n (wel σ 7)) + 1) + wd_n (wel σ 8)) 32) ((((((((((((((((((0 + wd_n (wel σ 0)) + 1) + wd_n (wel σ 1)) + 1) + wd_n (wel σ 2)) + 1) + wd_n (wel σ 3)) + 1) + wd_n (wel σ 4)) + 1) + wd_n (wel σ 5)) + 1) + wd_n (wel σ 6)) + 1) + wd_n (wel σ 7)) + 1) + wd_n (wel σ 8)) + 1) (wel σ 9)) h_127 ?_) rfl ⟨k_J4_length_8abf5, il_RX7_254, im_J4_length_8abf5, is_J4_length_8abf5, ii_RJ4⟩ 0 rfl hd_J4_length_8abf5 ⟨by decide, by decide, by decide, by decide, Nat.le_of_ble_eq_true rfl⟩ dX7_writeWells_57
  refine j1 ?_
  refine ia_ireturn (pc := 60) F M (by decide) (by decide) dX7_writeWells_60 ?_
  exact q1 _ _ _ _ h_127 (BX_le hB9 (by decide))
set_option maxRecDepth 100000 in
theorem c_X7_lineAt {Z : ia_Z} {V : ia_H} {Q : ia_O → ia_Z → ia_H → Prop} (i : Int) (n q L : Nat) (t : Nat → Int) (hZ : ZI Z) (hP : PI V)  (ri : -2147483648 ≤ i ∧ i ≤ 2147483647) (hU : SB 97 Z V n t q L) (hn : n ≤ 100) (q1 : (0 ≤ i ∧ i < (n : Int)) → Q (.inl (some (0, (t i.toNat)))) Z V) (q2 : (¬ (0 ≤ i ∧ i < (n : Int))) → Q (.inr "java/lang/IndexOutOfBoundsException") Z V) : ia_K yX7_lineAt cX7_lineAt 2 (some .char) [(4, ((0 : Nat) : Int)), (0, i)] Z V 9 1 6 Q := by
  refine ia_start RX7 "lineAt" ⟨by decide, rfl, rfl⟩ (Nat.le_of_ble_eq_true rfl) (ia_tg rfl) (fun X F M => ?_)
  show ia_G X 0 0 0 [(4, ((0 : Nat) : Int)), (0, i)] [] Z V
  refine ia_iload_n (pc := 0) F dX7_lineAt_0 rfl ?_
  refine ia_iconst (pc := 1) F dX7_lineAt_1 ?_
  refine ia_aload_n (pc := 2) F dX7_lineAt_2 rfl ?_
  refine jg (pc := 3) F (z0 hZ) cls10 f10_7 (hP 0 7 97 rfl) il_RX7_57 dX7_lineAt_3 ?_
  refine jV (pc := 6) F 0 0 (z97 hZ) cls1.1 (c_J4_length 97 q n L t hU ?_) rfl ⟨k_J4_length_8abf5, il_RX7_254, im_J4_length_8abf5, is_J4_length_8abf5, ii_RJ4⟩ 0 rfl hd_J4_length_8abf5 ⟨by decide, by decide, by decide, by decide, Nat.le_of_ble_eq_true rfl⟩ dX7_lineAt_6
  refine j1 ?_
  refine ia_iconst (pc := 9) F dX7_lineAt_9 ?_
  refine ia_isub (pc := 10) F dX7_lineAt_10 ?_
  refine jS (pc := 11) F 0 0 (c_X7_isWithin i 0 ((n : Int) - 1) (by omega) (by omega) (by omega) (fun h_1 => ?_) (fun h_2 => ?_)) rfl ⟨k_X7_isWithin, il_RX7_106, it_X7_isWithin, ii_RX7⟩ rfl 3 rfl hd_X7_isWithin ⟨by decide, by decide, by decide, by decide, Nat.le_of_ble_eq_true rfl⟩ dX7_lineAt_11
  · refine j1 ?_
    refine jS (pc := 14) F 0 0 (c_X7_requireIndex_1  ?_) rfl ⟨k_X7_requireIndex, il_RX7_138, it_X7_requireIndex, ii_RX7⟩ rfl 1 rfl hd_X7_requireIndex ⟨by decide, by decide, by decide, by decide, Nat.le_of_ble_eq_true rfl⟩ dX7_lineAt_14
    refine j0 ?_
    refine ia_aload_n (pc := 17) F dX7_lineAt_17 rfl ?_
    refine jg (pc := 18) F (z0 hZ) cls10 f10_7 (hP 0 7 97 rfl) il_RX7_57 dX7_lineAt_18 ?_
    refine ia_iload_n (pc := 21) F dX7_lineAt_21 rfl ?_
    have r9 := SB_rng hU i.toNat (by omega)
    rw [show i = ((i.toNat : Nat) : Int) from by omega]
    refine jV (pc := 22) F 0 0 (z97 hZ) cls1.1 (c_J4_charAt 97 q n L t i.toNat hU (by omega) ?_) rfl ⟨k_J4_charAt_5068e, il_RX7_258, im_J4_charAt_5068e, is_J4_charAt_5068e, ii_RJ4⟩ 1 rfl hd_J4_charAt_5068e ⟨by decide, by decide, by decide, by decide, Nat.le_of_ble_eq_true rfl⟩ dX7_lineAt_22
    refine j1 ?_
    refine ia_creturnI (pc := 25) F M (by omega) (by decide) (by decide) dX7_lineAt_25 ?_
    exact q1 (by omega)
  · refine j1 ?_
    refine jS (pc := 14) F 1 6 (c_X7_requireIndex_0  ?_) rfl ⟨k_X7_requireIndex, il_RX7_138, it_X7_requireIndex, ii_RX7⟩ rfl 1 rfl hd_X7_requireIndex ⟨by decide, by decide, by decide, by decide, Nat.le_of_ble_eq_true rfl⟩ dX7_lineAt_14
    refine jx ?_
    refine ia_out F M (by decide) (by decide) ?_
    exact q2 (by omega)
