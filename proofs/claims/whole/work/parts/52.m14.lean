/-! the model: numbers, words (made by wip/whole/m3.py) -/
theorem ia_and255 {x : Int} (h : 0 ≤ x ∧ x ≤ 126) : ia_and x 255 = x := by
  have e : ∀ y : Fin 127, ia_and ((y.val : Nat) : Int) 255 = ((y.val : Nat) : Int) := by decide +kernel
  have := e ⟨x.toNat, by omega⟩
  rw [show x = ((x.toNat : Nat) : Int) by omega]
  exact this
theorem ia_i8n {x : Int} (h : 0 ≤ x ∧ x ≤ 126) : ia_i8 x = x := by
  have e : ∀ y : Fin 127, ia_i8 ((y.val : Nat) : Int) = ((y.val : Nat) : Int) := by decide +kernel
  have := e ⟨x.toNat, by omega⟩
  rw [show x = ((x.toNat : Nat) : Int) by omega]
  exact this
theorem tp_mk {μ : Nat → Int} {p w k : Int} : up (up (up μ 22 p) 23 k) 24 w = tpm μ p w k := by
  funext j
  unfold up tpm
  by_cases h : j = 24
  · subst h; rfl
  · rw [if_neg h]
    by_cases h3 : j = 23
    · subst h3; rfl
    · rw [if_neg h3]
      by_cases h2 : j = 22
      · rw [if_pos h2, if_pos h2]
      · rw [if_neg h2, if_neg h2, if_neg h3, if_neg h]
theorem mgk_s0 {f g : Nat → Int} {x : Int} (h : x = f 0) : up g 0 x = mgk 1 f g := by
  funext j
  unfold up mgk
  by_cases c : j = 0
  · rw [if_pos c, if_pos (by omega), c, h]
  · rw [if_neg c, if_neg (by omega)]
set_option maxRecDepth 100000 in
theorem c_X8_markT {Z : ia_Z} {V : ia_H} {Q : ia_O → ia_Z → ia_H → Prop} {μ : Nat → Int} {ι : Nat → Int} (a n : Nat) (tw tk : Int) (hZ : ZI Z) (hP : PI V) (h99 : V 99 = (tpm μ (a : Int) tw tk)) (h110 : V 110 = ι) (hn : μ 21 = (n : Int)) (hn6 : n ≤ 60) (han : a ≤ n) (ht : ∀ i : Nat, i < n → 0 ≤ ι i ∧ ι i ≤ 126) (hw : tw = 0 ∨ tw = 1) (q1 : (¬ tw = 0) → Q (.inl (some (0, (-1)))) Z V) (q2 : (tw = 0) → (n ≤ a) → Q (.inl (some (0, (-1)))) Z V) (q3 : (tw = 0) → (a < n) → Q (.inl (some (0, (ι a)))) Z V) : ia_K yX8_mark cX8_mark 1 (some .int) [(4, ((99 : Nat) : Int))] Z V 1 0 0 Q := by
  refine ia_start RX8 "mark" ⟨by decide, rfl, rfl⟩ (Nat.le_of_ble_eq_true rfl) (ia_tg rfl) (fun X F M => ?_)
  show ia_G X 0 0 0 [(4, ((99 : Nat) : Int))] [] Z V
  refine ia_aload_n (pc := 0) F dX8_mark_0 rfl ?_
  refine jg (pc := 1) F (x := tw) (z99 hZ) cls11 f11_24 ((congrFun h99 24).trans tp_24) il_RX8_84 dX8_mark_1 ?_
  refine ia_if_ne (pc := 4) F 30 dX8_mark_4 rfl (by omega) (fun h_1 => ?_) (fun h_1 => ?_)
  · refine ia_iconst (pc := 30) F dX8_mark_30 ?_
    refine ia_ireturn (pc := 31) F M (by decide) (by decide) dX8_mark_31 ?_
    first | exact q1 (by omega) | exact q2 (by omega) (by omega)
  · have r9 : a < n → 0 ≤ ι a ∧ ι a ≤ 126 := fun h => ht a h
    refine ia_aload_n (pc := 7) F dX8_mark_7 rfl ?_
    refine jg (pc := 8) F (x := (a : Int)) (z99 hZ) cls11 f11_22 ((congrFun h99 22).trans tp_22) il_RX8_78 dX8_mark_8 ?_
    refine ia_aload_n (pc := 11) F dX8_mark_11 rfl ?_
    refine jg (pc := 12) F (x := μ 21) (z99 hZ) cls11 f11_21 ((congrFun h99 21).trans (tp_o (by decide))) il_RX8_75 dX8_mark_12 ?_
    refine ia_icmp_ge (pc := 15) F 30 dX8_mark_15 rfl (by omega) (by omega) (fun h_2 => ?_) (fun h_2 => ?_)
    · refine ia_iconst (pc := 30) F dX8_mark_30 ?_
      refine ia_ireturn (pc := 31) F M (by decide) (by decide) dX8_mark_31 ?_
      first | exact q1 (by omega) | exact q2 (by omega) (by omega)
    · refine ia_aload_n (pc := 18) F dX8_mark_18 rfl ?_
      refine jg (pc := 19) F (z99 hZ) cls11 f11_16 (hP 99 16 110 rfl) il_RX8_60 dX8_mark_19 ?_
      refine ia_aload_n (pc := 22) F dX8_mark_22 rfl ?_
      refine jg (pc := 23) F (x := (a : Int)) (z99 hZ) cls11 f11_22 ((congrFun h99 22).trans tp_22) il_RX8_78 dX8_mark_23 ?_
      refine ja (pc := 26) F (v := ι a) (z110 hZ) a rfl (by omega) (congrFun h110 a) dX8_mark_26 ?_
      refine ia_goto (pc := 27) F 31 dX8_mark_27 rfl ?_
      refine ia_ireturn (pc := 31) F M (by decide) (by decide) dX8_mark_31 ?_
      exact q3 (by omega) (by omega)
set_option maxRecDepth 100000 in
theorem c_X8_number {Z : ia_Z} {V : ia_H} {Q : ia_O → ia_Z → ia_H → Prop} {μ : Nat → Int} {ι : Nat → Int} (d a n : Nat) (tw tk : Int) (hZ : ZI Z) (hP : PI V) (h99 : V 99 = (tpm μ (a : Int) tw tk)) (h110 : V 110 = ι) (hn : μ 21 = (n : Int)) (hn6 : n ≤ 60) (han : a ≤ n) (ht : ∀ i : Nat, i < n → 0 ≤ ι i ∧ ι i ≤ 126) (hw : tw = 0 ∨ tw = 1) (hd : 1 ≤ d ∧ d ≤ 3) (q1 : ∀ (V1 : ia_H), (tw = 0) → PI V1 → (V1 99 = tpm μ ((tx_nP ι n a d : Nat) : Int) (tx_nW ι n a) tk) → (∀ pp, pp ∉ ([99] : List Nat) → V1 pp = V pp) → Q (.inl (some (0, (tx_nV ι n a d)))) Z V1) (q2 : ∀ (V1 : ia_H), (tw = 1) → PI V1 → (V1 99 = tpm μ (a : Int) 1 tk) → (∀ pp, pp ∉ ([99] : List Nat) → V1 pp = V pp) → Q (.inl (some (0, 0))) Z V1) : ia_K yX8_number cX8_number 4 (some .int) [(4, ((99 : Nat) : Int)), (0, (d : Int))] Z V 3 0 0 Q := by
  refine ia_start RX8 "number" ⟨by decide, rfl, rfl⟩ (Nat.le_of_ble_eq_true rfl) (ia_tg rfl) (fun X F M => ?_)
  show ia_G X 0 0 0 [(4, ((99 : Nat) : Int)), (0, (d : Int)), (9, 0), (9, 0)] [] Z V
  have r7 : a + 1 < n → 0 ≤ ι (a + 1) ∧ ι (a + 1) ≤ 126 := fun h => ht _ h
  have r6 : a < n → 0 ≤ ι a ∧ ι a ≤ 126 := fun h => ht _ h
  rcases hw with hw | hw <;> subst hw
  · refine ia_aload_n (pc := 0) F dX8_number_0 rfl ?_
    refine ia_dup (pc := 1) F dX8_number_1 (Or.inr (Or.inr rfl)) ?_
    refine jg (pc := 2) F (x := 0) (z99 hZ) cls11 f11_24 ((congrFun h99 24).trans tp_24) il_RX8_84 dX8_number_2 ?_
    refine ia_aload_n (pc := 5) F dX8_number_5 rfl ?_
    refine jV (pc := 6) F 0 0 (z99 hZ) cls11.1 (c_X8_markT a n 0 tk hZ hP h99 h110 hn hn6 (by omega) ht (by omega) (fun h_1 => ?_) (fun h_2 h_3 => ?_) (fun h_4 h_5 => ?_)) rfl ⟨k_X8_mark, il_RX8_235, im_X8_mark, is_X8_mark, ii_RX8⟩ 0 rfl hd_X8_mark ⟨by decide, by decide, by decide, by decide, Nat.le_of_ble_eq_true rfl⟩ dX8_number_6
    · exfalso
      omega
    · refine j1 ?_
      refine ia_bipush (pc := 9) F dX8_number_9 (by decide) ?_
      refine ia_icmp_eq (pc := 11) F 18 dX8_number_11 rfl (by omega) (by omega) (fun h9 => absurd h9 (by omega)) (fun _ => ?_)
      refine ia_iconst (pc := 14) F dX8_number_14 ?_
      refine ia_goto (pc := 15) F 19 dX8_number_15 rfl ?_
      refine ia_ior (pc := 19) F dX8_number_19 ?_
      rw [show ia_or 0 1 = 1 from by decide +kernel]
      refine jp (pc := 20) F (z99 hZ) cls11 f11_24 rfl (ia_nZ rfl (Or.inr rfl)) il_RX8_84 dX8_number_20 ?_
      refine ia_aload_n (pc := 23) F dX8_number_23 rfl ?_
      refine ia_dup (pc := 24) F dX8_number_24 (Or.inr (Or.inr rfl)) ?_
      refine jg (pc := 25) F (x := (a : Int)) (z99 hZ) cls11 f11_22 ((congrFun ((rowU h99).trans tp_u24) 22).trans tp_22) il_RX8_78 dX8_number_25 ?_
      refine ia_aload_n (pc := 28) F dX8_number_28 rfl ?_
      refine jg (pc := 29) F (x := 1) (z99 hZ) cls11 f11_24 ((congrFun ((rowU h99).trans tp_u24) 24).trans tp_24) il_RX8_84 dX8_number_29 ?_
      refine ia_if_eq (pc := 32) F 39 dX8_number_32 rfl (by omega) (fun h9 => absurd h9 (by omega)) (fun _ => ?_)
      refine ia_iconst (pc := 35) F dX8_number_35 ?_
      refine ia_goto (pc := 36) F 40 dX8_number_36 rfl ?_
      refine ia_iadd (pc := 40) F dX8_number_40 ?_
      rw [show ((a : Int) + 0) = (a : Int) from by omega]
      refine jp (pc := 41) F (z99 hZ) cls11 f11_22 rfl (ia_nI rfl _) il_RX8_78 dX8_number_41 ?_
      refine ia_aload_n (pc := 44) F dX8_number_44 rfl ?_
      refine ia_dup (pc := 45) F dX8_number_45 (Or.inr (Or.inr rfl)) ?_
      refine jg (pc := 46) F (x := 1) (z99 hZ) cls11 f11_24 ((congrFun ((rowU ((rowU h99).trans tp_u24)).trans tp_u22) 24).trans tp_24) il_RX8_84 dX8_number_46 ?_
      refine ia_aload_n (pc := 49) F dX8_number_49 rfl ?_
      refine jV (pc := 50) F 0 0 (z99 hZ) cls11.1 (c_X8_markT a n 1 tk hZ (PI_u (PI_u hP rfl) rfl) ((rowU ((rowU h99).trans tp_u24)).trans tp_u22) ((rowN (by decide)).trans ((rowN (by decide)).trans h110)) hn hn6 (by omega) ht (by omega) (fun h_6 => ?_) (fun h_7 h_8 => ?_) (fun h_9 h_10 => ?_)) rfl ⟨k_X8_mark, il_RX8_235, im_X8_mark, is_X8_mark, ii_RX8⟩ 0 rfl hd_X8_mark ⟨by decide, by decide, by decide, by decide, Nat.le_of_ble_eq_true rfl⟩ dX8_number_50
      · refine j1 ?_
        refine ia_bipush (pc := 53) F dX8_number_53 (by decide) ?_
        refine ia_bipush (pc := 55) F dX8_number_55 (by decide) ?_
        refine jS (pc := 57) F 0 0 (c_X8_in (-1) 48 57 (by omega) (by omega) (by omega) (fun h_11 => ?_) (fun h_12 => ?_)) rfl ⟨k_X8_in, il_RX8_91, it_X8_in, ii_RX8⟩ rfl 3 rfl hd_X8_in ⟨by decide, by decide, by decide, by decide, Nat.le_of_ble_eq_true rfl⟩ dX8_number_57
        · exfalso
          omega
        · refine j1 ?_
          refine ia_if_ne (pc := 60) F 67 dX8_number_60 rfl (by omega) (fun h9 => absurd h9 (by omega)) (fun _ => ?_)
          refine ia_iconst (pc := 63) F dX8_number_63 ?_
          refine ia_goto (pc := 64) F 68 dX8_number_64 rfl ?_
          refine ia_ior (pc := 68) F dX8_number_68 ?_
          rw [show ia_or 1 1 = 1 from by decide +kernel]
          refine jp (pc := 69) F (z99 hZ) cls11 f11_24 rfl (ia_nZ rfl (Or.inr rfl)) il_RX8_84 dX8_number_69 ?_
          refine ia_iconst (pc := 72) F dX8_number_72 ?_
          refine ia_istore_n (pc := 73) F (ls' := [(4, ((99 : Nat) : Int)), (0, (d : Int)), (0, 0), (9, 0)]) dX8_number_73 (Nat.le_of_ble_eq_true rfl) rfl rfl ?_
          refine ia_iconst (pc := 74) F dX8_number_74 ?_
          refine ia_istore_n (pc := 75) F (ls' := [(4, ((99 : Nat) : Int)), (0, (d : Int)), (0, 0), (0, 0)]) dX8_number_75 (Nat.le_of_ble_eq_true rfl) rfl rfl ?_
          refine ia_iload_n (pc := 76) F dX8_number_76 rfl ?_
          refine ia_iload_n (pc := 77) F dX8_number_77 rfl ?_
          refine ia_icmp_ge (pc := 78) F 129 dX8_number_78 rfl (by omega) (by omega) (fun h_13 => ?_) (fun h_13 => ?_)
          · refine ia_iload_n (pc := 129) F dX8_number_129 rfl ?_
            refine ia_ireturn (pc := 130) F M (by decide) (by decide) dX8_number_130 ?_
            have e2 := tx_n_b1 (t := ι) (n := n) (a := a) (d := d) (fun e => by omega)
            rw [e2.2.2, e2.2.1, e2.1] at q1
            exact q1 _ rfl (PI_u (PI_u (PI_u hP rfl) rfl) rfl) ((rowU ((rowU ((rowU h99).trans tp_u24)).trans tp_u22)).trans tp_u24) (Fr_u (Fr_u (Fr_u (Fr_0 (V := V) (S := [99])) (by decide)) (by decide)) (by decide))
          · refine ia_aload_n (pc := 81) F dX8_number_81 rfl ?_
            refine jV (pc := 82) F 0 0 (z99 hZ) cls11.1 (c_X8_markT a n 1 tk hZ (PI_u (PI_u (PI_u hP rfl) rfl) rfl) ((rowU ((rowU ((rowU h99).trans tp_u24)).trans tp_u22)).trans tp_u24) ((rowN (by decide)).trans ((rowN (by decide)).trans ((rowN (by decide)).trans h110))) hn hn6 (by first | exact hle | omega) ht (by omega) (fun h_14 => ?_) (fun h_15 h_16 => ?_) (fun h_17 h_18 => ?_)) rfl ⟨k_X8_mark, il_RX8_235, im_X8_mark, is_X8_mark, ii_RX8⟩ 0 rfl hd_X8_mark ⟨by decide, by decide, by decide, by decide, Nat.le_of_ble_eq_true rfl⟩ dX8_number_82
            · refine j1 ?_
              refine ia_bipush (pc := 85) F dX8_number_85 (by decide) ?_
              refine ia_bipush (pc := 87) F dX8_number_87 (by decide) ?_
              refine jS (pc := 89) F 0 0 (c_X8_in (-1) 48 57 (by omega) (by omega) (by omega) (fun h_19 => ?_) (fun h_20 => ?_)) rfl ⟨k_X8_in, il_RX8_91, it_X8_in, ii_RX8⟩ rfl 3 rfl hd_X8_in ⟨by decide, by decide, by decide, by decide, Nat.le_of_ble_eq_true rfl⟩ dX8_number_89
              · exfalso
                omega
              · refine j1 ?_
                refine ia_if_eq (pc := 92) F 129 dX8_number_92 rfl (by omega) (fun _ => ?_) (fun h9 => absurd h9 (by omega))
                refine ia_iload_n (pc := 129) F dX8_number_129 rfl ?_
                refine ia_ireturn (pc := 130) F M (by decide) (by decide) dX8_number_130 ?_
                have e2 := tx_n_b1 (t := ι) (n := n) (a := a) (d := d) (fun e => by omega)
                rw [e2.2.2, e2.2.1, e2.1] at q1
                exact q1 _ rfl (PI_u (PI_u (PI_u hP rfl) rfl) rfl) ((rowU ((rowU ((rowU h99).trans tp_u24)).trans tp_u22)).trans tp_u24) (Fr_u (Fr_u (Fr_u (Fr_0 (V := V) (S := [99])) (by decide)) (by decide)) (by decide))
            · exfalso
              omega
            · exfalso
              omega
      · exfalso
        omega
      · exfalso
        omega
    · refine j1 ?_
      refine ia_bipush (pc := 9) F dX8_number_9 (by decide) ?_
      refine ia_icmp_eq (pc := 11) F 18 dX8_number_11 rfl (by omega) (by omega) (fun h_21 => ?_) (fun h_21 => ?_)
      · refine ia_iconst (pc := 18) F dX8_number_18 ?_
        refine ia_ior (pc := 19) F dX8_number_19 ?_
        rw [show ia_or 0 0 = 0 from by decide +kernel]
        refine jp (pc := 20) F (z99 hZ) cls11 f11_24 rfl (ia_nZ rfl (Or.inl rfl)) il_RX8_84 dX8_number_20 ?_
        refine ia_aload_n (pc := 23) F dX8_number_23 rfl ?_
        refine ia_dup (pc := 24) F dX8_number_24 (Or.inr (Or.inr rfl)) ?_
        refine jg (pc := 25) F (x := (a : Int)) (z99 hZ) cls11 f11_22 ((congrFun ((rowU h99).trans tp_u24) 22).trans tp_22) il_RX8_78 dX8_number_25 ?_
        refine ia_aload_n (pc := 28) F dX8_number_28 rfl ?_
        refine jg (pc := 29) F (x := 0) (z99 hZ) cls11 f11_24 ((congrFun ((rowU h99).trans tp_u24) 24).trans tp_24) il_RX8_84 dX8_number_29 ?_
        refine ia_if_eq (pc := 32) F 39 dX8_number_32 rfl (by omega) (fun _ => ?_) (fun h9 => absurd h9 (by omega))
        refine ia_iconst (pc := 39) F dX8_number_39 ?_
        refine ia_iadd (pc := 40) F dX8_number_40 ?_
        refine jp (pc := 41) F (z99 hZ) cls11 f11_22 rfl (ia_nI rfl _) il_RX8_78 dX8_number_41 ?_
        refine ia_aload_n (pc := 44) F dX8_number_44 rfl ?_
        refine ia_dup (pc := 45) F dX8_number_45 (Or.inr (Or.inr rfl)) ?_
        refine jg (pc := 46) F (x := 0) (z99 hZ) cls11 f11_24 ((congrFun ((rowU ((rowU h99).trans tp_u24)).trans tp_u22) 24).trans tp_24) il_RX8_84 dX8_number_46 ?_
        refine ia_aload_n (pc := 49) F dX8_number_49 rfl ?_
        refine jV (pc := 50) F 0 0 (z99 hZ) cls11.1 (c_X8_markT (a + 1) n 0 tk hZ (PI_u (PI_u hP rfl) rfl) ((rowU ((rowU h99).trans tp_u24)).trans tp_u22) ((rowN (by decide)).trans ((rowN (by decide)).trans h110)) hn hn6 (by omega) ht (by omega) (fun h_22 => ?_) (fun h_23 h_24 => ?_) (fun h_25 h_26 => ?_)) rfl ⟨k_X8_mark, il_RX8_235, im_X8_mark, is_X8_mark, ii_RX8⟩ 0 rfl hd_X8_mark ⟨by decide, by decide, by decide, by decide, Nat.le_of_ble_eq_true rfl⟩ dX8_number_50
        · exfalso
          omega
        · refine j1 ?_
          refine ia_bipush (pc := 53) F dX8_number_53 (by decide) ?_
          refine ia_bipush (pc := 55) F dX8_number_55 (by decide) ?_
          refine jS (pc := 57) F 0 0 (c_X8_in (-1) 48 57 (by omega) (by omega) (by omega) (fun h_27 => ?_) (fun h_28 => ?_)) rfl ⟨k_X8_in, il_RX8_91, it_X8_in, ii_RX8⟩ rfl 3 rfl hd_X8_in ⟨by decide, by decide, by decide, by decide, Nat.le_of_ble_eq_true rfl⟩ dX8_number_57
          · exfalso
            omega
          · refine j1 ?_
            refine ia_if_ne (pc := 60) F 67 dX8_number_60 rfl (by omega) (fun h9 => absurd h9 (by omega)) (fun _ => ?_)
            refine ia_iconst (pc := 63) F dX8_number_63 ?_
            refine ia_goto (pc := 64) F 68 dX8_number_64 rfl ?_
            refine ia_ior (pc := 68) F dX8_number_68 ?_
            rw [show ia_or 0 1 = 1 from by decide +kernel]
            refine jp (pc := 69) F (z99 hZ) cls11 f11_24 rfl (ia_nZ rfl (Or.inr rfl)) il_RX8_84 dX8_number_69 ?_
            refine ia_iconst (pc := 72) F dX8_number_72 ?_
            refine ia_istore_n (pc := 73) F (ls' := [(4, ((99 : Nat) : Int)), (0, (d : Int)), (0, 0), (9, 0)]) dX8_number_73 (Nat.le_of_ble_eq_true rfl) rfl rfl ?_
            refine ia_iconst (pc := 74) F dX8_number_74 ?_
            refine ia_istore_n (pc := 75) F (ls' := [(4, ((99 : Nat) : Int)), (0, (d : Int)), (0, 0), (0, 0)]) dX8_number_75 (Nat.le_of_ble_eq_true rfl) rfl rfl ?_
            refine ia_iload_n (pc := 76) F dX8_number_76 rfl ?_
            refine ia_iload_n (pc := 77) F dX8_number_77 rfl ?_
            refine ia_icmp_ge (pc := 78) F 129 dX8_number_78 rfl (by omega) (by omega) (fun h_29 => ?_) (fun h_29 => ?_)
            · refine ia_iload_n (pc := 129) F dX8_number_129 rfl ?_
              refine ia_ireturn (pc := 130) F M (by decide) (by decide) dX8_number_130 ?_
              have e2 := tx_n_b2 (t := ι) (n := n) (a := a) (d := d) (by omega) (fun e => by obtain ⟨e1, e2, e3⟩ := e; omega)
              rw [e2.2.2, e2.2.1, e2.1] at q1
              exact q1 _ rfl (PI_u (PI_u (PI_u hP rfl) rfl) rfl) ((rowU ((rowU ((rowU h99).trans tp_u24)).trans tp_u22)).trans tp_u24) (Fr_u (Fr_u (Fr_u (Fr_0 (V := V) (S := [99])) (by decide)) (by decide)) (by decide))
            · refine ia_aload_n (pc := 81) F dX8_number_81 rfl ?_
              refine jV (pc := 82) F 0 0 (z99 hZ) cls11.1 (c_X8_markT (a + 1) n 1 tk hZ (PI_u (PI_u (PI_u hP rfl) rfl) rfl) ((rowU ((rowU ((rowU h99).trans tp_u24)).trans tp_u22)).trans tp_u24) ((rowN (by decide)).trans ((rowN (by decide)).trans ((rowN (by decide)).trans h110))) hn hn6 (by first | exact hle | omega) ht (by omega) (fun h_30 => ?_) (fun h_31 h_32 => ?_) (fun h_33 h_34 => ?_)) rfl ⟨k_X8_mark, il_RX8_235, im_X8_mark, is_X8_mark, ii_RX8⟩ 0 rfl hd_X8_mark ⟨by decide, by decide, by decide, by decide, Nat.le_of_ble_eq_true rfl⟩ dX8_number_82
              · refine j1 ?_
                refine ia_bipush (pc := 85) F dX8_number_85 (by decide) ?_
                refine ia_bipush (pc := 87) F dX8_number_87 (by decide) ?_
                refine jS (pc := 89) F 0 0 (c_X8_in (-1) 48 57 (by omega) (by omega) (by omega) (fun h_35 => ?_) (fun h_36 => ?_)) rfl ⟨k_X8_in, il_RX8_91, it_X8_in, ii_RX8⟩ rfl 3 rfl hd_X8_in ⟨by decide, by decide, by decide, by decide, Nat.le_of_ble_eq_true rfl⟩ dX8_number_89
                · exfalso
                  omega
                · refine j1 ?_
                  refine ia_if_eq (pc := 92) F 129 dX8_number_92 rfl (by omega) (fun _ => ?_) (fun h9 => absurd h9 (by omega))
                  refine ia_iload_n (pc := 129) F dX8_number_129 rfl ?_
                  refine ia_ireturn (pc := 130) F M (by decide) (by decide) dX8_number_130 ?_
                  have e2 := tx_n_b2 (t := ι) (n := n) (a := a) (d := d) (by omega) (fun e => by obtain ⟨e1, e2, e3⟩ := e; omega)
                  rw [e2.2.2, e2.2.1, e2.1] at q1
                  exact q1 _ rfl (PI_u (PI_u (PI_u hP rfl) rfl) rfl) ((rowU ((rowU ((rowU h99).trans tp_u24)).trans tp_u22)).trans tp_u24) (Fr_u (Fr_u (Fr_u (Fr_0 (V := V) (S := [99])) (by decide)) (by decide)) (by decide))
              · exfalso
                omega
              · exfalso
                omega
        · refine j1 ?_
          refine ia_bipush (pc := 53) F dX8_number_53 (by decide) ?_
          refine ia_bipush (pc := 55) F dX8_number_55 (by decide) ?_
          refine jS (pc := 57) F 0 0 (c_X8_in (ι (a + 1)) 48 57 (by omega) (by omega) (by omega) (fun h_37 => ?_) (fun h_38 => ?_)) rfl ⟨k_X8_in, il_RX8_91, it_X8_in, ii_RX8⟩ rfl 3 rfl hd_X8_in ⟨by decide, by decide, by decide, by decide, Nat.le_of_ble_eq_true rfl⟩ dX8_number_57
          · refine j1 ?_
            refine ia_if_ne (pc := 60) F 67 dX8_number_60 rfl (by omega) (fun _ => ?_) (fun h9 => absurd h9 (by omega))
            refine ia_iconst (pc := 67) F dX8_number_67 ?_
            refine ia_ior (pc := 68) F dX8_number_68 ?_
            rw [show ia_or 0 0 = 0 from by decide +kernel]
            refine jp (pc := 69) F (z99 hZ) cls11 f11_24 rfl (ia_nZ rfl (Or.inl rfl)) il_RX8_84 dX8_number_69 ?_
            refine ia_iconst (pc := 72) F dX8_number_72 ?_
            refine ia_istore_n (pc := 73) F (ls' := [(4, ((99 : Nat) : Int)), (0, (d : Int)), (0, 0), (9, 0)]) dX8_number_73 (Nat.le_of_ble_eq_true rfl) rfl rfl ?_
            refine ia_iconst (pc := 74) F dX8_number_74 ?_
            refine ia_istore_n (pc := 75) F (ls' := [(4, ((99 : Nat) : Int)), (0, (d : Int)), (0, 0), (0, 0)]) dX8_number_75 (Nat.le_of_ble_eq_true rfl) rfl rfl ?_
            have L76 : ∀ (fu : Nat) (k : Nat) (V2 : ia_H), (d - k < fu) → (k ≤ d) → (tx_nd ι n (a + 1) k = k) → (a + 1 + k ≤ n) → (PI V2) → (V2 99 = tpm μ ((a + 1 + k : Nat) : Int) 0 tk) → (∀ pp, pp ∉ ([99] : List Nat) → V2 pp = V pp) → ia_G X 0 0 76 [(4, ((99 : Nat) : Int)), (0, (d : Int)), (0, (tx_vd ι (a + 1) k)), (0, (k : Int))] [] Z V2 := by
              intro fu
              induction fu with
              | zero => intro k V2 hm; exact absurd hm (Nat.not_lt_zero _)
              | succ fu ih =>
                intro k V2 hm hk hx hle hP2 w2_99 hF2
                have ih76 := ih
                refine ia_iload_n (pc := 76) F dX8_number_76 rfl ?_
                refine ia_iload_n (pc := 77) F dX8_number_77 rfl ?_
                refine ia_icmp_ge (pc := 78) F 129 dX8_number_78 rfl (by omega) (by omega) (fun h_39 => ?_) (fun h_39 => ?_)
                · refine ia_iload_n (pc := 129) F dX8_number_129 rfl ?_
                  refine ia_ireturn (pc := 130) F M (by decide) (by decide) dX8_number_130 ?_
                  have e1 : tx_nd ι n (a + 1) d = k := (by first | (rw [show d = k by omega]; exact hx) | exact tx_nd_stop hx (fun e => by obtain ⟨e1, e2, e3⟩ := e; omega) d (by omega))
                  have e2 := tx_n_ok (t := ι) (n := n) (a := a) (d := d) (by omega) (by refine ⟨?_, ?_, ?_⟩ <;> omega)
                  rw [e2.2.2, e2.2.1, e2.1, e1] at q1
                  exact q1 _ rfl hP2 w2_99 hF2
                · have r9 : a + 1 + k < n → 0 ≤ ι (a + 1 + k) ∧ ι (a + 1 + k) ≤ 126 := fun h => ht _ h
                  have r8 := tx_vd_rng (t := ι) (n := n) (p := a + 1) k hx
                  refine ia_aload_n (pc := 81) F dX8_number_81 rfl ?_
                  refine jV (pc := 82) F 0 0 (z99 hZ) cls11.1 (c_X8_markT (a + 1 + k) n 0 tk hZ hP2 w2_99 ((hF2 110 (by decide)).trans h110) hn hn6 (by first | exact hle | omega) ht (by omega) (fun h_40 => ?_) (fun h_41 h_42 => ?_) (fun h_43 h_44 => ?_)) rfl ⟨k_X8_mark, il_RX8_235, im_X8_mark, is_X8_mark, ii_RX8⟩ 0 rfl hd_X8_mark ⟨by decide, by decide, by decide, by decide, Nat.le_of_ble_eq_true rfl⟩ dX8_number_82
                  · exfalso
                    omega
                  · refine j1 ?_
                    refine ia_bipush (pc := 85) F dX8_number_85 (by decide) ?_
                    refine ia_bipush (pc := 87) F dX8_number_87 (by decide) ?_
                    refine jS (pc := 89) F 0 0 (c_X8_in (-1) 48 57 (by omega) (by omega) (by omega) (fun h_45 => ?_) (fun h_46 => ?_)) rfl ⟨k_X8_in, il_RX8_91, it_X8_in, ii_RX8⟩ rfl 3 rfl hd_X8_in ⟨by decide, by decide, by decide, by decide, Nat.le_of_ble_eq_true rfl⟩ dX8_number_89
                    · exfalso
                      omega
                    · refine j1 ?_
                      refine ia_if_eq (pc := 92) F 129 dX8_number_92 rfl (by omega) (fun _ => ?_) (fun h9 => absurd h9 (by omega))
                      refine ia_iload_n (pc := 129) F dX8_number_129 rfl ?_
                      refine ia_ireturn (pc := 130) F M (by decide) (by decide) dX8_number_130 ?_
                      have e1 : tx_nd ι n (a + 1) d = k := (by first | (rw [show d = k by omega]; exact hx) | exact tx_nd_stop hx (fun e => by obtain ⟨e1, e2, e3⟩ := e; omega) d (by omega))
                      have e2 := tx_n_ok (t := ι) (n := n) (a := a) (d := d) (by omega) (by refine ⟨?_, ?_, ?_⟩ <;> omega)
                      rw [e2.2.2, e2.2.1, e2.1, e1] at q1
                      exact q1 _ rfl hP2 w2_99 hF2
                  · refine j1 ?_
                    refine ia_bipush (pc := 85) F dX8_number_85 (by decide) ?_
                    refine ia_bipush (pc := 87) F dX8_number_87 (by decide) ?_
                    refine jS (pc := 89) F 0 0 (c_X8_in (ι (a + 1 + k)) 48 57 (by omega) (by omega) (by omega) (fun h_47 => ?_) (fun h_48 => ?_)) rfl ⟨k_X8_in, il_RX8_91, it_X8_in, ii_RX8⟩ rfl 3 rfl hd_X8_in ⟨by decide, by decide, by decide, by decide, Nat.le_of_ble_eq_true rfl⟩ dX8_number_89
                    · refine j1 ?_
                      refine ia_if_eq (pc := 92) F 129 dX8_number_92 rfl (by omega) (fun h9 => absurd h9 (by omega)) (fun _ => ?_)
                      refine ia_bipush (pc := 95) F dX8_number_95 (by decide) ?_
                      refine ia_iload_n (pc := 97) F dX8_number_97 rfl ?_
                      refine ia_imul (pc := 98) F dX8_number_98 ?_
                      refine ia_aload_n (pc := 99) F dX8_number_99 rfl ?_
                      refine jg (pc := 100) F (z99 hZ) cls11 f11_16 (hP2 99 16 110 rfl) il_RX8_60 dX8_number_100 ?_
                      refine ia_aload_n (pc := 103) F dX8_number_103 rfl ?_
                      refine jg (pc := 104) F (x := ((a + 1 + k : Nat) : Int)) (z99 hZ) cls11 f11_22 ((congrFun w2_99 22).trans tp_22) il_RX8_78 dX8_number_104 ?_
                      refine ja (pc := 107) F (v := ι (a + 1 + k)) (z110 hZ) (a + 1 + k) rfl (by omega) (congrFun ((hF2 110 (by decide)).trans h110) (a + 1 + k)) dX8_number_107 ?_
                      refine ia_iadd (pc := 108) F dX8_number_108 ?_
                      refine ia_bipush (pc := 109) F dX8_number_109 (by decide) ?_
                      refine ia_isub (pc := 111) F dX8_number_111 ?_
                      refine ia_istore_n (pc := 112) F (ls' := [(4, ((99 : Nat) : Int)), (0, (d : Int)), (0, (((10 * (tx_vd ι (a + 1) k)) + ι (a + 1 + k)) - 48)), (0, (k : Int))]) dX8_number_112 (Nat.le_of_ble_eq_true rfl) rfl rfl ?_
                      refine ia_aload_n (pc := 113) F dX8_number_113 rfl ?_
                      refine ia_dup (pc := 114) F dX8_number_114 (Or.inr (Or.inr rfl)) ?_
                      refine jg (pc := 115) F (x := ((a + 1 + k : Nat) : Int)) (z99 hZ) cls11 f11_22 ((congrFun w2_99 22).trans tp_22) il_RX8_78 dX8_number_115 ?_
                      refine ia_iconst (pc := 118) F dX8_number_118 ?_
                      refine ia_iadd (pc := 119) F dX8_number_119 ?_
                      refine jp (pc := 120) F (z99 hZ) cls11 f11_22 rfl (ia_nI rfl _) il_RX8_78 dX8_number_120 ?_
                      refine ia_iinc (pc := 123) F (ls' := [(4, ((99 : Nat) : Int)), (0, (d : Int)), (0, (((10 * (tx_vd ι (a + 1) k)) + ι (a + 1 + k)) - 48)), (0, ((k + 1 : Nat) : Int))]) dX8_number_123 rfl rfl rfl rfl ?_
                      refine ia_goto (pc := 126) F 76 dX8_number_126 rfl ?_
                      exact ih76 (k + 1) _ (by omega) (by omega) (tx_nd_s hx (by refine ⟨?_, ?_, ?_⟩ <;> omega)) (by omega) (PI_u hP2 rfl) (((rowU w2_99).trans tp_u22).trans rfl) (Fr_u hF2 (by decide))
                    · refine j1 ?_
                      refine ia_if_eq (pc := 92) F 129 dX8_number_92 rfl (by omega) (fun _ => ?_) (fun h9 => absurd h9 (by omega))
                      refine ia_iload_n (pc := 129) F dX8_number_129 rfl ?_
                      refine ia_ireturn (pc := 130) F M (by decide) (by decide) dX8_number_130 ?_
                      have e1 : tx_nd ι n (a + 1) d = k := (by first | (rw [show d = k by omega]; exact hx) | exact tx_nd_stop hx (fun e => by obtain ⟨e1, e2, e3⟩ := e; omega) d (by omega))
                      have e2 := tx_n_ok (t := ι) (n := n) (a := a) (d := d) (by omega) (by refine ⟨?_, ?_, ?_⟩ <;> omega)
                      rw [e2.2.2, e2.2.1, e2.1, e1] at q1
                      exact q1 _ rfl hP2 w2_99 hF2
            exact L76 (d + 1) 0 _ (by omega) (by omega) rfl (by omega) (PI_u (PI_u (PI_u hP rfl) rfl) rfl) ((rowU ((rowU ((rowU h99).trans tp_u24)).trans tp_u22)).trans tp_u24) (Fr_u (Fr_u (Fr_u (Fr_0 (V := V) (S := [99])) (by decide)) (by decide)) (by decide))
          · refine j1 ?_
            refine ia_if_ne (pc := 60) F 67 dX8_number_60 rfl (by omega) (fun h9 => absurd h9 (by omega)) (fun _ => ?_)
            refine ia_iconst (pc := 63) F dX8_number_63 ?_
            refine ia_goto (pc := 64) F 68 dX8_number_64 rfl ?_
            refine ia_ior (pc := 68) F dX8_number_68 ?_
            rw [show ia_or 0 1 = 1 from by decide +kernel]
            refine jp (pc := 69) F (z99 hZ) cls11 f11_24 rfl (ia_nZ rfl (Or.inr rfl)) il_RX8_84 dX8_number_69 ?_
            refine ia_iconst (pc := 72) F dX8_number_72 ?_
            refine ia_istore_n (pc := 73) F (ls' := [(4, ((99 : Nat) : Int)), (0, (d : Int)), (0, 0), (9, 0)]) dX8_number_73 (Nat.le_of_ble_eq_true rfl) rfl rfl ?_
            refine ia_iconst (pc := 74) F dX8_number_74 ?_
            refine ia_istore_n (pc := 75) F (ls' := [(4, ((99 : Nat) : Int)), (0, (d : Int)), (0, 0), (0, 0)]) dX8_number_75 (Nat.le_of_ble_eq_true rfl) rfl rfl ?_
            refine ia_iload_n (pc := 76) F dX8_number_76 rfl ?_
            refine ia_iload_n (pc := 77) F dX8_number_77 rfl ?_
            refine ia_icmp_ge (pc := 78) F 129 dX8_number_78 rfl (by omega) (by omega) (fun h_49 => ?_) (fun h_49 => ?_)
            · refine ia_iload_n (pc := 129) F dX8_number_129 rfl ?_
              refine ia_ireturn (pc := 130) F M (by decide) (by decide) dX8_number_130 ?_
              have e2 := tx_n_b2 (t := ι) (n := n) (a := a) (d := d) (by omega) (fun e => by obtain ⟨e1, e2, e3⟩ := e; omega)
              rw [e2.2.2, e2.2.1, e2.1] at q1
              exact q1 _ rfl (PI_u (PI_u (PI_u hP rfl) rfl) rfl) ((rowU ((rowU ((rowU h99).trans tp_u24)).trans tp_u22)).trans tp_u24) (Fr_u (Fr_u (Fr_u (Fr_0 (V := V) (S := [99])) (by decide)) (by decide)) (by decide))
            · refine ia_aload_n (pc := 81) F dX8_number_81 rfl ?_
              refine jV (pc := 82) F 0 0 (z99 hZ) cls11.1 (c_X8_markT (a + 1) n 1 tk hZ (PI_u (PI_u (PI_u hP rfl) rfl) rfl) ((rowU ((rowU ((rowU h99).trans tp_u24)).trans tp_u22)).trans tp_u24) ((rowN (by decide)).trans ((rowN (by decide)).trans ((rowN (by decide)).trans h110))) hn hn6 (by first | exact hle | omega) ht (by omega) (fun h_50 => ?_) (fun h_51 h_52 => ?_) (fun h_53 h_54 => ?_)) rfl ⟨k_X8_mark, il_RX8_235, im_X8_mark, is_X8_mark, ii_RX8⟩ 0 rfl hd_X8_mark ⟨by decide, by decide, by decide, by decide, Nat.le_of_ble_eq_true rfl⟩ dX8_number_82
              · refine j1 ?_
                refine ia_bipush (pc := 85) F dX8_number_85 (by decide) ?_
                refine ia_bipush (pc := 87) F dX8_number_87 (by decide) ?_
                refine jS (pc := 89) F 0 0 (c_X8_in (-1) 48 57 (by omega) (by omega) (by omega) (fun h_55 => ?_) (fun h_56 => ?_)) rfl ⟨k_X8_in, il_RX8_91, it_X8_in, ii_RX8⟩ rfl 3 rfl hd_X8_in ⟨by decide, by decide, by decide, by decide, Nat.le_of_ble_eq_true rfl⟩ dX8_number_89
                · exfalso
                  omega
                · refine j1 ?_
                  refine ia_if_eq (pc := 92) F 129 dX8_number_92 rfl (by omega) (fun _ => ?_) (fun h9 => absurd h9 (by omega))
                  refine ia_iload_n (pc := 129) F dX8_number_129 rfl ?_
                  refine ia_ireturn (pc := 130) F M (by decide) (by decide) dX8_number_130 ?_
                  have e2 := tx_n_b2 (t := ι) (n := n) (a := a) (d := d) (by omega) (fun e => by obtain ⟨e1, e2, e3⟩ := e; omega)
                  rw [e2.2.2, e2.2.1, e2.1] at q1
                  exact q1 _ rfl (PI_u (PI_u (PI_u hP rfl) rfl) rfl) ((rowU ((rowU ((rowU h99).trans tp_u24)).trans tp_u22)).trans tp_u24) (Fr_u (Fr_u (Fr_u (Fr_0 (V := V) (S := [99])) (by decide)) (by decide)) (by decide))
              · exfalso
                omega
              · exfalso
                omega
      · refine ia_iconst (pc := 14) F dX8_number_14 ?_
        refine ia_goto (pc := 15) F 19 dX8_number_15 rfl ?_
        refine ia_ior (pc := 19) F dX8_number_19 ?_
        rw [show ia_or 0 1 = 1 from by decide +kernel]
        refine jp (pc := 20) F (z99 hZ) cls11 f11_24 rfl (ia_nZ rfl (Or.inr rfl)) il_RX8_84 dX8_number_20 ?_
        refine ia_aload_n (pc := 23) F dX8_number_23 rfl ?_
        refine ia_dup (pc := 24) F dX8_number_24 (Or.inr (Or.inr rfl)) ?_
        refine jg (pc := 25) F (x := (a : Int)) (z99 hZ) cls11 f11_22 ((congrFun ((rowU h99).trans tp_u24) 22).trans tp_22) il_RX8_78 dX8_number_25 ?_
        refine ia_aload_n (pc := 28) F dX8_number_28 rfl ?_
        refine jg (pc := 29) F (x := 1) (z99 hZ) cls11 f11_24 ((congrFun ((rowU h99).trans tp_u24) 24).trans tp_24) il_RX8_84 dX8_number_29 ?_
        refine ia_if_eq (pc := 32) F 39 dX8_number_32 rfl (by omega) (fun h9 => absurd h9 (by omega)) (fun _ => ?_)
        refine ia_iconst (pc := 35) F dX8_number_35 ?_
        refine ia_goto (pc := 36) F 40 dX8_number_36 rfl ?_
        refine ia_iadd (pc := 40) F dX8_number_40 ?_
        rw [show ((a : Int) + 0) = (a : Int) from by omega]
        refine jp (pc := 41) F (z99 hZ) cls11 f11_22 rfl (ia_nI rfl _) il_RX8_78 dX8_number_41 ?_
        refine ia_aload_n (pc := 44) F dX8_number_44 rfl ?_
        refine ia_dup (pc := 45) F dX8_number_45 (Or.inr (Or.inr rfl)) ?_
        refine jg (pc := 46) F (x := 1) (z99 hZ) cls11 f11_24 ((congrFun ((rowU ((rowU h99).trans tp_u24)).trans tp_u22) 24).trans tp_24) il_RX8_84 dX8_number_46 ?_
        refine ia_aload_n (pc := 49) F dX8_number_49 rfl ?_
        refine jV (pc := 50) F 0 0 (z99 hZ) cls11.1 (c_X8_markT a n 1 tk hZ (PI_u (PI_u hP rfl) rfl) ((rowU ((rowU h99).trans tp_u24)).trans tp_u22) ((rowN (by decide)).trans ((rowN (by decide)).trans h110)) hn hn6 (by omega) ht (by omega) (fun h_57 => ?_) (fun h_58 h_59 => ?_) (fun h_60 h_61 => ?_)) rfl ⟨k_X8_mark, il_RX8_235, im_X8_mark, is_X8_mark, ii_RX8⟩ 0 rfl hd_X8_mark ⟨by decide, by decide, by decide, by decide, Nat.le_of_ble_eq_true rfl⟩ dX8_number_50
        · refine j1 ?_
          refine ia_bipush (pc := 53) F dX8_number_53 (by decide) ?_
          refine ia_bipush (pc := 55) F dX8_number_55 (by decide) ?_
          refine jS (pc := 57) F 0 0 (c_X8_in (-1) 48 57 (by omega) (by omega) (by omega) (fun h_62 => ?_) (fun h_63 => ?_)) rfl ⟨k_X8_in, il_RX8_91, it_X8_in, ii_RX8⟩ rfl 3 rfl hd_X8_in ⟨by decide, by decide, by decide, by decide, Nat.le_of_ble_eq_true rfl⟩ dX8_number_57
          · exfalso
            omega
          · refine j1 ?_
            refine ia_if_ne (pc := 60) F 67 dX8_number_60 rfl (by omega) (fun h9 => absurd h9 (by omega)) (fun _ => ?_)
            refine ia_iconst (pc := 63) F dX8_number_63 ?_
            refine ia_goto (pc := 64) F 68 dX8_number_64 rfl ?_
            refine ia_ior (pc := 68) F dX8_number_68 ?_
            rw [show ia_or 1 1 = 1 from by decide +kernel]
            refine jp (pc := 69) F (z99 hZ) cls11 f11_24 rfl (ia_nZ rfl (Or.inr rfl)) il_RX8_84 dX8_number_69 ?_
            refine ia_iconst (pc := 72) F dX8_number_72 ?_
            refine ia_istore_n (pc := 73) F (ls' := [(4, ((99 : Nat) : Int)), (0, (d : Int)), (0, 0), (9, 0)]) dX8_number_73 (Nat.le_of_ble_eq_true rfl) rfl rfl ?_
            refine ia_iconst (pc := 74) F dX8_number_74 ?_
            refine ia_istore_n (pc := 75) F (ls' := [(4, ((99 : Nat) : Int)), (0, (d : Int)), (0, 0), (0, 0)]) dX8_number_75 (Nat.le_of_ble_eq_true rfl) rfl rfl ?_
            refine ia_iload_n (pc := 76) F dX8_number_76 rfl ?_
            refine ia_iload_n (pc := 77) F dX8_number_77 rfl ?_
            refine ia_icmp_ge (pc := 78) F 129 dX8_number_78 rfl (by omega) (by omega) (fun h_64 => ?_) (fun h_64 => ?_)
            · refine ia_iload_n (pc := 129) F dX8_number_129 rfl ?_
              refine ia_ireturn (pc := 130) F M (by decide) (by decide) dX8_number_130 ?_
              have e2 := tx_n_b1 (t := ι) (n := n) (a := a) (d := d) (fun e => by omega)
              rw [e2.2.2, e2.2.1, e2.1] at q1
              exact q1 _ rfl (PI_u (PI_u (PI_u hP rfl) rfl) rfl) ((rowU ((rowU ((rowU h99).trans tp_u24)).trans tp_u22)).trans tp_u24) (Fr_u (Fr_u (Fr_u (Fr_0 (V := V) (S := [99])) (by decide)) (by decide)) (by decide))
            · refine ia_aload_n (pc := 81) F dX8_number_81 rfl ?_
              refine jV (pc := 82) F 0 0 (z99 hZ) cls11.1 (c_X8_markT a n 1 tk hZ (PI_u (PI_u (PI_u hP rfl) rfl) rfl) ((rowU ((rowU ((rowU h99).trans tp_u24)).trans tp_u22)).trans tp_u24) ((rowN (by decide)).trans ((rowN (by decide)).trans ((rowN (by decide)).trans h110))) hn hn6 (by first | exact hle | omega) ht (by omega) (fun h_65 => ?_) (fun h_66 h_67 => ?_) (fun h_68 h_69 => ?_)) rfl ⟨k_X8_mark, il_RX8_235, im_X8_mark, is_X8_mark, ii_RX8⟩ 0 rfl hd_X8_mark ⟨by decide, by decide, by decide, by decide, Nat.le_of_ble_eq_true rfl⟩ dX8_number_82
              · refine j1 ?_
                refine ia_bipush (pc := 85) F dX8_number_85 (by decide) ?_
                refine ia_bipush (pc := 87) F dX8_number_87 (by decide) ?_
                refine jS (pc := 89) F 0 0 (c_X8_in (-1) 48 57 (by omega) (by omega) (by omega) (fun h_70 => ?_) (fun h_71 => ?_)) rfl ⟨k_X8_in, il_RX8_91, it_X8_in, ii_RX8⟩ rfl 3 rfl hd_X8_in ⟨by decide, by decide, by decide, by decide, Nat.le_of_ble_eq_true rfl⟩ dX8_number_89
                · exfalso
                  omega
                · refine j1 ?_
                  refine ia_if_eq (pc := 92) F 129 dX8_number_92 rfl (by omega) (fun _ => ?_) (fun h9 => absurd h9 (by omega))
                  refine ia_iload_n (pc := 129) F dX8_number_129 rfl ?_
                  refine ia_ireturn (pc := 130) F M (by decide) (by decide) dX8_number_130 ?_
                  have e2 := tx_n_b1 (t := ι) (n := n) (a := a) (d := d) (fun e => by omega)
                  rw [e2.2.2, e2.2.1, e2.1] at q1
                  exact q1 _ rfl (PI_u (PI_u (PI_u hP rfl) rfl) rfl) ((rowU ((rowU ((rowU h99).trans tp_u24)).trans tp_u22)).trans tp_u24) (Fr_u (Fr_u (Fr_u (Fr_0 (V := V) (S := [99])) (by decide)) (by decide)) (by decide))
              · exfalso
                omega
              · exfalso
                omega
        · exfalso
          omega
        · exfalso
          omega
  · refine ia_aload_n (pc := 0) F dX8_number_0 rfl ?_
    refine ia_dup (pc := 1) F dX8_number_1 (Or.inr (Or.inr rfl)) ?_
    refine jg (pc := 2) F (x := 1) (z99 hZ) cls11 f11_24 ((congrFun h99 24).trans tp_24) il_RX8_84 dX8_number_2 ?_
    refine ia_aload_n (pc := 5) F dX8_number_5 rfl ?_
    refine jV (pc := 6) F 0 0 (z99 hZ) cls11.1 (c_X8_markT a n 1 tk hZ hP h99 h110 hn hn6 (by omega) ht (by omega) (fun h_72 => ?_) (fun h_73 h_74 => ?_) (fun h_75 h_76 => ?_)) rfl ⟨k_X8_mark, il_RX8_235, im_X8_mark, is_X8_mark, ii_RX8⟩ 0 rfl hd_X8_mark ⟨by decide, by decide, by decide, by decide, Nat.le_of_ble_eq_true rfl⟩ dX8_number_6
    · refine j1 ?_
      refine ia_bipush (pc := 9) F dX8_number_9 (by decide) ?_
      refine ia_icmp_eq (pc := 11) F 18 dX8_number_11 rfl (by omega) (by omega) (fun h9 => absurd h9 (by omega)) (fun _ => ?_)
      refine ia_iconst (pc := 14) F dX8_number_14 ?_
      refine ia_goto (pc := 15) F 19 dX8_number_15 rfl ?_
      refine ia_ior (pc := 19) F dX8_number_19 ?_
      rw [show ia_or 1 1 = 1 from by decide +kernel]
      refine jp (pc := 20) F (z99 hZ) cls11 f11_24 rfl (ia_nZ rfl (Or.inr rfl)) il_RX8_84 dX8_number_20 ?_
      refine ia_aload_n (pc := 23) F dX8_number_23 rfl ?_
      refine ia_dup (pc := 24) F dX8_number_24 (Or.inr (Or.inr rfl)) ?_
      refine jg (pc := 25) F (x := (a : Int)) (z99 hZ) cls11 f11_22 ((congrFun ((rowU h99).trans tp_u24) 22).trans tp_22) il_RX8_78 dX8_number_25 ?_
      refine ia_aload_n (pc := 28) F dX8_number_28 rfl ?_
      refine jg (pc := 29) F (x := 1) (z99 hZ) cls11 f11_24 ((congrFun ((rowU h99).trans tp_u24) 24).trans tp_24) il_RX8_84 dX8_number_29 ?_
      refine ia_if_eq (pc := 32) F 39 dX8_number_32 rfl (by omega) (fun h9 => absurd h9 (by omega)) (fun _ => ?_)
      refine ia_iconst (pc := 35) F dX8_number_35 ?_
      refine ia_goto (pc := 36) F 40 dX8_number_36 rfl ?_
      refine ia_iadd (pc := 40) F dX8_number_40 ?_
      rw [show ((a : Int) + 0) = (a : Int) from by omega]
      refine jp (pc := 41) F (z99 hZ) cls11 f11_22 rfl (ia_nI rfl _) il_RX8_78 dX8_number_41 ?_
      refine ia_aload_n (pc := 44) F dX8_number_44 rfl ?_
      refine ia_dup (pc := 45) F dX8_number_45 (Or.inr (Or.inr rfl)) ?_
      refine jg (pc := 46) F (x := 1) (z99 hZ) cls11 f11_24 ((congrFun ((rowU ((rowU h99).trans tp_u24)).trans tp_u22) 24).trans tp_24) il_RX8_84 dX8_number_46 ?_
      refine ia_aload_n (pc := 49) F dX8_number_49 rfl ?_
      refine jV (pc := 50) F 0 0 (z99 hZ) cls11.1 (c_X8_markT a n 1 tk hZ (PI_u (PI_u hP rfl) rfl) ((rowU ((rowU h99).trans tp_u24)).trans tp_u22) ((rowN (by decide)).trans ((rowN (by decide)).trans h110)) hn hn6 (by omega) ht (by omega) (fun h_77 => ?_) (fun h_78 h_79 => ?_) (fun h_80 h_81 => ?_)) rfl ⟨k_X8_mark, il_RX8_235, im_X8_mark, is_X8_mark, ii_RX8⟩ 0 rfl hd_X8_mark ⟨by decide, by decide, by decide, by decide, Nat.le_of_ble_eq_true rfl⟩ dX8_number_50
      · refine j1 ?_
        refine ia_bipush (pc := 53) F dX8_number_53 (by decide) ?_
        refine ia_bipush (pc := 55) F dX8_number_55 (by decide) ?_
        refine jS (pc := 57) F 0 0 (c_X8_in (-1) 48 57 (by omega) (by omega) (by omega) (fun h_82 => ?_) (fun h_83 => ?_)) rfl ⟨k_X8_in, il_RX8_91, it_X8_in, ii_RX8⟩ rfl 3 rfl hd_X8_in ⟨by decide, by decide, by decide, by decide, Nat.le_of_ble_eq_true rfl⟩ dX8_number_57
        · exfalso
          omega
        · refine j1 ?_
          refine ia_if_ne (pc := 60) F 67 dX8_number_60 rfl (by omega) (fun h9 => absurd h9 (by omega)) (fun _ => ?_)
          refine ia_iconst (pc := 63) F dX8_number_63 ?_
          refine ia_goto (pc := 64) F 68 dX8_number_64 rfl ?_
          refine ia_ior (pc := 68) F dX8_number_68 ?_
          rw [show ia_or 1 1 = 1 from by decide +kernel]
          refine jp (pc := 69) F (z99 hZ) cls11 f11_24 rfl (ia_nZ rfl (Or.inr rfl)) il_RX8_84 dX8_number_69 ?_
          refine ia_iconst (pc := 72) F dX8_number_72 ?_
          refine ia_istore_n (pc := 73) F (ls' := [(4, ((99 : Nat) : Int)), (0, (d : Int)), (0, 0), (9, 0)]) dX8_number_73 (Nat.le_of_ble_eq_true rfl) rfl rfl ?_
          refine ia_iconst (pc := 74) F dX8_number_74 ?_
          refine ia_istore_n (pc := 75) F (ls' := [(4, ((99 : Nat) : Int)), (0, (d : Int)), (0, 0), (0, 0)]) dX8_number_75 (Nat.le_of_ble_eq_true rfl) rfl rfl ?_
          refine ia_iload_n (pc := 76) F dX8_number_76 rfl ?_
          refine ia_iload_n (pc := 77) F dX8_number_77 rfl ?_
          refine ia_icmp_ge (pc := 78) F 129 dX8_number_78 rfl (by omega) (by omega) (fun h_84 => ?_) (fun h_84 => ?_)
          · refine ia_iload_n (pc := 129) F dX8_number_129 rfl ?_
            refine ia_ireturn (pc := 130) F M (by decide) (by decide) dX8_number_130 ?_
            exact q2 _ rfl (PI_u (PI_u (PI_u hP rfl) rfl) rfl) ((rowU ((rowU ((rowU h99).trans tp_u24)).trans tp_u22)).trans tp_u24) (Fr_u (Fr_u (Fr_u (Fr_0 (V := V) (S := [99])) (by decide)) (by decide)) (by decide))
          · refine ia_aload_n (pc := 81) F dX8_number_81 rfl ?_
            refine jV (pc := 82) F 0 0 (z99 hZ) cls11.1 (c_X8_markT a n 1 tk hZ (PI_u (PI_u (PI_u hP rfl) rfl) rfl) ((rowU ((rowU ((rowU h99).trans tp_u24)).trans tp_u22)).trans tp_u24) ((rowN (by decide)).trans ((rowN (by decide)).trans ((rowN (by decide)).trans h110))) hn hn6 (by first | exact hle | omega) ht (by omega) (fun h_85 => ?_) (fun h_86 h_87 => ?_) (fun h_88 h_89 => ?_)) rfl ⟨k_X8_mark, il_RX8_235, im_X8_mark, is_X8_mark, ii_RX8⟩ 0 rfl hd_X8_mark ⟨by decide, by decide, by decide, by decide, Nat.le_of_ble_eq_true rfl⟩ dX8_number_82
            · refine j1 ?_
              refine ia_bipush (pc := 85) F dX8_number_85 (by decide) ?_
              refine ia_bipush (pc := 87) F dX8_number_87 (by decide) ?_
              refine jS (pc := 89) F 0 0 (c_X8_in (-1) 48 57 (by omega) (by omega) (by omega) (fun h_90 => ?_) (fun h_91 => ?_)) rfl ⟨k_X8_in, il_RX8_91, it_X8_in, ii_RX8⟩ rfl 3 rfl hd_X8_in ⟨by decide, by decide, by decide, by decide, Nat.le_of_ble_eq_true rfl⟩ dX8_number_89
              · exfalso
                omega
              · refine j1 ?_
                refine ia_if_eq (pc := 92) F 129 dX8_number_92 rfl (by omega) (fun _ => ?_) (fun h9 => absurd h9 (by omega))
                refine ia_iload_n (pc := 129) F dX8_number_129 rfl ?_
                refine ia_ireturn (pc := 130) F M (by decide) (by decide) dX8_number_130 ?_
                exact q2 _ rfl (PI_u (PI_u (PI_u hP rfl) rfl) rfl) ((rowU ((rowU ((rowU h99).trans tp_u24)).trans tp_u22)).trans tp_u24) (Fr_u (Fr_u (Fr_u (Fr_0 (V := V) (S := [99])) (by decide)) (by decide)) (by decide))
            · exfalso
              omega
            · exfalso
              omega
      · exfalso
        omega
      · exfalso
        omega
    · exfalso
      omega
    · exfalso
      omega
set_option maxRecDepth 100000 in
theorem c_X8_word {Z : ia_Z} {V : ia_H} {Q : ia_O → ia_Z → ia_H → Prop} {μ : Nat → Int} {ι : Nat → Int} (a n : Nat) (tk : Int) (hZ : ZI Z) (hP : PI V) (h99 : V 99 = (tpm μ (a : Int) 0 tk)) (h110 : V 110 = ι) (hn : μ 21 = (n : Int)) (hn6 : n ≤ 60) (han : a ≤ n) (ht : ∀ i : Nat, i < n → 0 ≤ ι i ∧ ι i ≤ 126) (q1 : ∀ (V1 : ia_H), (tx_cK ι n a < 9) → PI V1 → (V1 99 = tpm μ ((tx_wP ι n a : Nat) : Int) 0 tk) → (∀ pp, pp ∉ ([99] : List Nat) → V1 pp = V pp) → Q (.inl (some (0, ((tx_cK ι n a : Nat) : Int)))) Z V1) (q2 : ∀ (V1 : ia_H), (tx_cK ι n a = 9) → PI V1 → (V1 99 = tpm μ ((tx_wP ι n a : Nat) : Int) 1 tk) → (∀ pp, pp ∉ ([99] : List Nat) → V1 pp = V pp) → Q (.inl (some (0, 0))) Z V1) : ia_K yX8_word cX8_word 4 (some .int) [(4, ((99 : Nat) : Int))] Z V 3 0 0 Q := by
  refine ia_start RX8 "word" ⟨by decide, rfl, rfl⟩ (Nat.le_of_ble_eq_true rfl) (ia_tg rfl) (fun X F M => ?_)
  show ia_G X 0 0 0 [(4, ((99 : Nat) : Int)), (9, 0), (9, 0), (9, 0)] [] Z V
  refine ia_iconst (pc := 0) F dX8_word_0 ?_
  refine ia_istore_n (pc := 1) F (ls' := [(4, ((99 : Nat) : Int)), (0, 0), (9, 0), (9, 0)]) dX8_word_1 (Nat.le_of_ble_eq_true rfl) rfl rfl ?_
  refine ia_iconst (pc := 2) F dX8_word_2 ?_
  refine ia_istore_n (pc := 3) F (ls' := [(4, ((99 : Nat) : Int)), (0, 0), (0, 0), (9, 0)]) dX8_word_3 (Nat.le_of_ble_eq_true rfl) rfl rfl ?_
  have L4 : ∀ (fu : Nat) (i : Nat) (b : Int) (V2 : ia_H), (9 - i < fu) → (i ≤ 9) → (tx_wk ι n a i = 9) → (b = ((tx_bs ι n a i : Nat) : Int)) → (PI V2) → (V2 99 = tpm μ (a : Int) 0 tk) → (∀ pp, pp ∉ ([99] : List Nat) → V2 pp = V pp) → ia_G X 0 0 4 [(4, ((99 : Nat) : Int)), (0, b), (0, (i : Int)), (9, 0)] [] Z V2 := by
    intro fu
    induction fu with
    | zero => intro i b V2 hm; exact absurd hm (Nat.not_lt_zero _)
    | succ fu ih =>
      intro i b V2 hm hi h9 hb hP2 w2_99 hF2
      have ih4 := ih
      refine ia_iload_n (pc := 4) F dX8_word_4 rfl ?_
      refine ia_bipush (pc := 5) F dX8_word_5 (by decide) ?_
      refine ia_icmp_ge (pc := 7) F 95 dX8_word_7 rfl (by omega) (by omega) (fun h_1 => ?_) (fun h_1 => ?_)
      · have s6 := tx_bs_rng (t := ι) han i
        refine ia_aload_n (pc := 95) F dX8_word_95 rfl ?_
        refine ia_dup (pc := 96) F dX8_word_96 (Or.inr (Or.inr rfl)) ?_
        refine jg (pc := 97) F (x := (a : Int)) (z99 hZ) cls11 f11_22 ((congrFun w2_99 22).trans tp_22) il_RX8_78 dX8_word_97 ?_
        refine ia_iload_n (pc := 100) F dX8_word_100 rfl ?_
        refine ia_iadd (pc := 101) F dX8_word_101 ?_
        refine jp (pc := 102) F (z99 hZ) cls11 f11_22 rfl (ia_nI rfl _) il_RX8_78 dX8_word_102 ?_
        refine ia_aload_n (pc := 105) F dX8_word_105 rfl ?_
        refine ia_iconst (pc := 106) F dX8_word_106 ?_
        refine jp (pc := 107) F (z99 hZ) cls11 f11_24 rfl (ia_nZ rfl (Or.inr rfl)) il_RX8_84 dX8_word_107 ?_
        refine ia_iconst (pc := 110) F dX8_word_110 ?_
        refine ia_ireturn (pc := 111) F M (by decide) (by decide) dX8_word_111 ?_
        have e9 : i = 9 := by omega
        subst e9
        have e2 := tx_cK_n (t := ι) (n := n) (a := a) h9
        rw [e2.1, e2.2] at q2
        exact q2 _ rfl (PI_u (PI_u hP2 rfl) rfl) (((rowU ((rowU w2_99).trans tp_u22)).trans tp_u24).trans (by rw [hb]; rfl)) (Fr_u (Fr_u hF2 (by decide)) (by decide))
      · refine ia_iconst (pc := 10) F dX8_word_10 ?_
        refine ia_istore_n (pc := 11) F (ls' := [(4, ((99 : Nat) : Int)), (0, b), (0, (i : Int)), (0, 0)]) dX8_word_11 (Nat.le_of_ble_eq_true rfl) rfl rfl ?_
        have L12 : ∀ (fu : Nat) (j : Nat) (V3 : ia_H), (8 - j < fu) → (j ≤ 7) → (tx_ag ι n a i j = j) → (PI V3) → (V3 99 = tpm μ (a : Int) 0 tk) → (∀ pp, pp ∉ ([99] : List Nat) → V3 pp = V pp) → ia_G X 0 0 12 [(4, ((99 : Nat) : Int)), (0, b), (0, (i : Int)), (0, (j : Int))] [] Z V3 := by
          intro fu
          induction fu with
          | zero => intro j V3 hm; exact absurd hm (Nat.not_lt_zero _)
          | succ fu ih =>
            intro j V3 hm hj hx hP3 w3_99 hF3
            have ih12 := ih
            refine ia_iload_n (pc := 12) F dX8_word_12 rfl ?_
            refine ia_iload_n (pc := 13) F dX8_word_13 rfl ?_
            refine jS (pc := 14) F 0 0 (c_X8_spelled (i : Int) (j : Int) (by omega) (by omega) ?_) rfl ⟨k_X8_spelled, il_RX8_242, it_X8_spelled, ii_RX8⟩ rfl 2 rfl hd_X8_spelled ⟨by decide, by decide, by decide, by decide, Nat.le_of_ble_eq_true rfl⟩ dX8_word_14
            change ia_ct X _ _ (14 + 3) _ _ _ (.inl (some (0, (spl i j)))) _ _
            refine j1 ?_
            have s1 := spl_pos (i := i) (j := j) (by omega) (by omega)
            have s2 := tx_wl_rng (i := i) (by omega)
            have s3 := spl_rng (i := i) (j := j) (by omega) (by omega)
            have s4 : a + j < n → 0 ≤ ι (a + j) ∧ ι (a + j) ≤ 126 := fun h => ht _ h
            refine ia_if_le (pc := 17) F 58 dX8_word_17 rfl (by omega) (fun h_2 => ?_) (fun h_2 => ?_)
            · have s1 := spl_pos (i := i) (j := j) (by omega) (by omega)
              have s2 := tx_wl_rng (i := i) (by omega)
              have s3 := spl_rng (i := i) (j := j) (by omega) (by omega)
              have e1 : tx_AG ι n a i = j := tx_AG_at (by omega) (by omega) hx (fun e => by obtain ⟨e1, e2, e3⟩ := e; omega)
              have s5 := tx_AG_rng (t := ι) (i := i) han
              have s6 := tx_bs_rng (t := ι) han i
              refine ia_iload_n (pc := 58) F dX8_word_58 rfl ?_
              refine ia_iload_n (pc := 59) F dX8_word_59 rfl ?_
              refine jS (pc := 60) F 0 0 (c_X8_spelled (i : Int) (j : Int) (by omega) (by omega) ?_) rfl ⟨k_X8_spelled, il_RX8_242, it_X8_spelled, ii_RX8⟩ rfl 2 rfl hd_X8_spelled ⟨by decide, by decide, by decide, by decide, Nat.le_of_ble_eq_true rfl⟩ dX8_word_60
              change ia_ct X _ _ (60 + 3) _ _ _ (.inl (some (0, (spl i j)))) _ _
              refine j1 ?_
              refine ia_if_ne (pc := 63) F 78 dX8_word_63 rfl (by omega) (fun h_3 => ?_) (fun h_3 => ?_)
              · refine ia_iload_n (pc := 78) F dX8_word_78 rfl ?_
                refine ia_iload_n (pc := 79) F dX8_word_79 rfl ?_
                refine ia_icmp_le (pc := 80) F 87 dX8_word_80 rfl (by omega) (by omega) (fun h_4 => ?_) (fun h_4 => ?_)
                · refine ia_iload_n (pc := 87) F dX8_word_87 rfl ?_
                  refine ia_istore_n (pc := 88) F (ls' := [(4, ((99 : Nat) : Int)), (0, b), (0, (i : Int)), (0, (j : Int))]) dX8_word_88 (Nat.le_of_ble_eq_true rfl) rfl rfl ?_
                  refine ia_iinc (pc := 89) F (ls' := [(4, ((99 : Nat) : Int)), (0, b), (0, ((i + 1 : Nat) : Int)), (0, (j : Int))]) dX8_word_89 rfl rfl rfl rfl ?_
                  refine ia_goto (pc := 92) F 4 dX8_word_92 rfl ?_
                  refine jw (ls' := [(4, ((99 : Nat) : Int)), (0, b), (0, ((i + 1 : Nat) : Int)), (9, 0)]) [false, false, false, true] rfl ?_
                  exact ih4 (i + 1) b _ (by omega) (by omega) (tx_wk_n h9 (by omega)) (by first | (rw [tx_bs_1 (by omega)]; omega) | (rw [tx_bs_0 (by omega)]; omega)) hP3 w3_99 hF3
                · refine ia_iload_n (pc := 83) F dX8_word_83 rfl ?_
                  refine ia_goto (pc := 84) F 88 dX8_word_84 rfl ?_
                  refine ia_istore_n (pc := 88) F (ls' := [(4, ((99 : Nat) : Int)), (0, (j : Int)), (0, (i : Int)), (0, (j : Int))]) dX8_word_88 (Nat.le_of_ble_eq_true rfl) rfl rfl ?_
                  refine ia_iinc (pc := 89) F (ls' := [(4, ((99 : Nat) : Int)), (0, (j : Int)), (0, ((i + 1 : Nat) : Int)), (0, (j : Int))]) dX8_word_89 rfl rfl rfl rfl ?_
                  refine ia_goto (pc := 92) F 4 dX8_word_92 rfl ?_
                  refine jw (ls' := [(4, ((99 : Nat) : Int)), (0, (j : Int)), (0, ((i + 1 : Nat) : Int)), (9, 0)]) [false, false, false, true] rfl ?_
                  exact ih4 (i + 1) (j : Int) _ (by omega) (by omega) (tx_wk_n h9 (by omega)) (by first | (rw [tx_bs_1 (by omega)]; omega) | (rw [tx_bs_0 (by omega)]; omega)) hP3 w3_99 hF3
              · refine ia_aload_n (pc := 66) F dX8_word_66 rfl ?_
                refine ia_dup (pc := 67) F dX8_word_67 (Or.inr (Or.inr rfl)) ?_
                refine jg (pc := 68) F (x := (a : Int)) (z99 hZ) cls11 f11_22 ((congrFun w3_99 22).trans tp_22) il_RX8_78 dX8_word_68 ?_
                refine ia_iload_n (pc := 71) F dX8_word_71 rfl ?_
                refine ia_iadd (pc := 72) F dX8_word_72 ?_
                refine jp (pc := 73) F (z99 hZ) cls11 f11_22 rfl (ia_nI rfl _) il_RX8_78 dX8_word_73 ?_
                refine ia_iload_n (pc := 76) F dX8_word_76 rfl ?_
                refine ia_ireturn (pc := 77) F M (by decide) (by decide) dX8_word_77 ?_
                have e2 := tx_cK_y (t := ι) (n := n) (a := a) (i := i) (by omega) h9 (by omega)
                rw [e2.1, e2.2] at q1
                exact q1 _ (by omega) (PI_u hP3 rfl) (((rowU w3_99).trans tp_u22).trans (by rw [show tx_wl i = j by omega]; rfl)) (Fr_u hF3 (by decide))
            · refine ia_aload_n (pc := 20) F dX8_word_20 rfl ?_
              refine jg (pc := 21) F (x := (a : Int)) (z99 hZ) cls11 f11_22 ((congrFun w3_99 22).trans tp_22) il_RX8_78 dX8_word_21 ?_
              refine ia_iload_n (pc := 24) F dX8_word_24 rfl ?_
              refine ia_iadd (pc := 25) F dX8_word_25 ?_
              refine ia_aload_n (pc := 26) F dX8_word_26 rfl ?_
              refine jg (pc := 27) F (x := μ 21) (z99 hZ) cls11 f11_21 ((congrFun w3_99 21).trans (tp_o (by decide))) il_RX8_75 dX8_word_27 ?_
              refine ia_icmp_ge (pc := 30) F 58 dX8_word_30 rfl (by omega) (by omega) (fun h_5 => ?_) (fun h_5 => ?_)
              · have s1 := spl_pos (i := i) (j := j) (by omega) (by omega)
                have s2 := tx_wl_rng (i := i) (by omega)
                have s3 := spl_rng (i := i) (j := j) (by omega) (by omega)
                have e1 : tx_AG ι n a i = j := tx_AG_at (by omega) (by omega) hx (fun e => by obtain ⟨e1, e2, e3⟩ := e; omega)
                have s5 := tx_AG_rng (t := ι) (i := i) han
                have s6 := tx_bs_rng (t := ι) han i
                refine ia_iload_n (pc := 58) F dX8_word_58 rfl ?_
                refine ia_iload_n (pc := 59) F dX8_word_59 rfl ?_
                refine jS (pc := 60) F 0 0 (c_X8_spelled (i : Int) (j : Int) (by omega) (by omega) ?_) rfl ⟨k_X8_spelled, il_RX8_242, it_X8_spelled, ii_RX8⟩ rfl 2 rfl hd_X8_spelled ⟨by decide, by decide, by decide, by decide, Nat.le_of_ble_eq_true rfl⟩ dX8_word_60
                change ia_ct X _ _ (60 + 3) _ _ _ (.inl (some (0, (spl i j)))) _ _
                refine j1 ?_
                refine ia_if_ne (pc := 63) F 78 dX8_word_63 rfl (by omega) (fun h_6 => ?_) (fun h_6 => ?_)
                · refine ia_iload_n (pc := 78) F dX8_word_78 rfl ?_
                  refine ia_iload_n (pc := 79) F dX8_word_79 rfl ?_
                  refine ia_icmp_le (pc := 80) F 87 dX8_word_80 rfl (by omega) (by omega) (fun h_7 => ?_) (fun h_7 => ?_)
                  · refine ia_iload_n (pc := 87) F dX8_word_87 rfl ?_
                    refine ia_istore_n (pc := 88) F (ls' := [(4, ((99 : Nat) : Int)), (0, b), (0, (i : Int)), (0, (j : Int))]) dX8_word_88 (Nat.le_of_ble_eq_true rfl) rfl rfl ?_
                    refine ia_iinc (pc := 89) F (ls' := [(4, ((99 : Nat) : Int)), (0, b), (0, ((i + 1 : Nat) : Int)), (0, (j : Int))]) dX8_word_89 rfl rfl rfl rfl ?_
                    refine ia_goto (pc := 92) F 4 dX8_word_92 rfl ?_
                    refine jw (ls' := [(4, ((99 : Nat) : Int)), (0, b), (0, ((i + 1 : Nat) : Int)), (9, 0)]) [false, false, false, true] rfl ?_
                    exact ih4 (i + 1) b _ (by omega) (by omega) (tx_wk_n h9 (by omega)) (by first | (rw [tx_bs_1 (by omega)]; omega) | (rw [tx_bs_0 (by omega)]; omega)) hP3 w3_99 hF3
                  · refine ia_iload_n (pc := 83) F dX8_word_83 rfl ?_
                    refine ia_goto (pc := 84) F 88 dX8_word_84 rfl ?_
                    refine ia_istore_n (pc := 88) F (ls' := [(4, ((99 : Nat) : Int)), (0, (j : Int)), (0, (i : Int)), (0, (j : Int))]) dX8_word_88 (Nat.le_of_ble_eq_true rfl) rfl rfl ?_
                    refine ia_iinc (pc := 89) F (ls' := [(4, ((99 : Nat) : Int)), (0, (j : Int)), (0, ((i + 1 : Nat) : Int)), (0, (j : Int))]) dX8_word_89 rfl rfl rfl rfl ?_
                    refine ia_goto (pc := 92) F 4 dX8_word_92 rfl ?_
                    refine jw (ls' := [(4, ((99 : Nat) : Int)), (0, (j : Int)), (0, ((i + 1 : Nat) : Int)), (9, 0)]) [false, false, false, true] rfl ?_
                    exact ih4 (i + 1) (j : Int) _ (by omega) (by omega) (tx_wk_n h9 (by omega)) (by first | (rw [tx_bs_1 (by omega)]; omega) | (rw [tx_bs_0 (by omega)]; omega)) hP3 w3_99 hF3
                · refine ia_aload_n (pc := 66) F dX8_word_66 rfl ?_
                  refine ia_dup (pc := 67) F dX8_word_67 (Or.inr (Or.inr rfl)) ?_
                  refine jg (pc := 68) F (x := (a : Int)) (z99 hZ) cls11 f11_22 ((congrFun w3_99 22).trans tp_22) il_RX8_78 dX8_word_68 ?_
                  refine ia_iload_n (pc := 71) F dX8_word_71 rfl ?_
                  refine ia_iadd (pc := 72) F dX8_word_72 ?_
                  refine jp (pc := 73) F (z99 hZ) cls11 f11_22 rfl (ia_nI rfl _) il_RX8_78 dX8_word_73 ?_
                  refine ia_iload_n (pc := 76) F dX8_word_76 rfl ?_
                  refine ia_ireturn (pc := 77) F M (by decide) (by decide) dX8_word_77 ?_
                  have e2 := tx_cK_y (t := ι) (n := n) (a := a) (i := i) (by omega) h9 (by omega)
                  rw [e2.1, e2.2] at q1
                  exact q1 _ (by omega) (PI_u hP3 rfl) (((rowU w3_99).trans tp_u22).trans (by rw [show tx_wl i = j by omega]; rfl)) (Fr_u hF3 (by decide))
              · refine ia_aload_n (pc := 33) F dX8_word_33 rfl ?_
                refine jg (pc := 34) F (z99 hZ) cls11 f11_16 (hP3 99 16 110 rfl) il_RX8_60 dX8_word_34 ?_
                refine ia_aload_n (pc := 37) F dX8_word_37 rfl ?_
                refine jg (pc := 38) F (x := (a : Int)) (z99 hZ) cls11 f11_22 ((congrFun w3_99 22).trans tp_22) il_RX8_78 dX8_word_38 ?_
                refine ia_iload_n (pc := 41) F dX8_word_41 rfl ?_
                refine ia_iadd (pc := 42) F dX8_word_42 ?_
                refine ja (pc := 43) F (v := ι (a + j)) (z110 hZ) (a + j) rfl (by omega) (congrFun ((hF3 110 (by decide)).trans h110) (a + j)) dX8_word_43 ?_
                refine ia_iload_n (pc := 44) F dX8_word_44 rfl ?_
                refine ia_iload_n (pc := 45) F dX8_word_45 rfl ?_
                refine jS (pc := 46) F 0 0 (c_X8_spelled (i : Int) (j : Int) (by omega) (by omega) ?_) rfl ⟨k_X8_spelled, il_RX8_242, it_X8_spelled, ii_RX8⟩ rfl 2 rfl hd_X8_spelled ⟨by decide, by decide, by decide, by decide, Nat.le_of_ble_eq_true rfl⟩ dX8_word_46
                change ia_ct X _ _ (46 + 3) _ _ _ (.inl (some (0, (spl i j)))) _ _
                refine j1 ?_
                refine ia_icmp_ne (pc := 49) F 58 dX8_word_49 rfl (by omega) (by omega) (fun h_8 => ?_) (fun h_8 => ?_)
                · have s1 := spl_pos (i := i) (j := j) (by omega) (by omega)
                  have s2 := tx_wl_rng (i := i) (by omega)
                  have s3 := spl_rng (i := i) (j := j) (by omega) (by omega)
                  have e1 : tx_AG ι n a i = j := tx_AG_at (by omega) (by omega) hx (fun e => by obtain ⟨e1, e2, e3⟩ := e; omega)
                  have s5 := tx_AG_rng (t := ι) (i := i) han
                  have s6 := tx_bs_rng (t := ι) han i
                  refine ia_iload_n (pc := 58) F dX8_word_58 rfl ?_
                  refine ia_iload_n (pc := 59) F dX8_word_59 rfl ?_
                  refine jS (pc := 60) F 0 0 (c_X8_spelled (i : Int) (j : Int) (by omega) (by omega) ?_) rfl ⟨k_X8_spelled, il_RX8_242, it_X8_spelled, ii_RX8⟩ rfl 2 rfl hd_X8_spelled ⟨by decide, by decide, by decide, by decide, Nat.le_of_ble_eq_true rfl⟩ dX8_word_60
                  change ia_ct X _ _ (60 + 3) _ _ _ (.inl (some (0, (spl i j)))) _ _
                  refine j1 ?_
                  refine ia_if_ne (pc := 63) F 78 dX8_word_63 rfl (by omega) (fun h_9 => ?_) (fun h_9 => ?_)
                  · refine ia_iload_n (pc := 78) F dX8_word_78 rfl ?_
                    refine ia_iload_n (pc := 79) F dX8_word_79 rfl ?_
                    refine ia_icmp_le (pc := 80) F 87 dX8_word_80 rfl (by omega) (by omega) (fun h_10 => ?_) (fun h_10 => ?_)
                    · refine ia_iload_n (pc := 87) F dX8_word_87 rfl ?_
                      refine ia_istore_n (pc := 88) F (ls' := [(4, ((99 : Nat) : Int)), (0, b), (0, (i : Int)), (0, (j : Int))]) dX8_word_88 (Nat.le_of_ble_eq_true rfl) rfl rfl ?_
                      refine ia_iinc (pc := 89) F (ls' := [(4, ((99 : Nat) : Int)), (0, b), (0, ((i + 1 : Nat) : Int)), (0, (j : Int))]) dX8_word_89 rfl rfl rfl rfl ?_
                      refine ia_goto (pc := 92) F 4 dX8_word_92 rfl ?_
                      refine jw (ls' := [(4, ((99 : Nat) : Int)), (0, b), (0, ((i + 1 : Nat) : Int)), (9, 0)]) [false, false, false, true] rfl ?_
                      exact ih4 (i + 1) b _ (by omega) (by omega) (tx_wk_n h9 (by omega)) (by first | (rw [tx_bs_1 (by omega)]; omega) | (rw [tx_bs_0 (by omega)]; omega)) hP3 w3_99 hF3
                    · refine ia_iload_n (pc := 83) F dX8_word_83 rfl ?_
                      refine ia_goto (pc := 84) F 88 dX8_word_84 rfl ?_
                      refine ia_istore_n (pc := 88) F (ls' := [(4, ((99 : Nat) : Int)), (0, (j : Int)), (0, (i : Int)), (0, (j : Int))]) dX8_word_88 (Nat.le_of_ble_eq_true rfl) rfl rfl ?_
                      refine ia_iinc (pc := 89) F (ls' := [(4, ((99 : Nat) : Int)), (0, (j : Int)), (0, ((i + 1 : Nat) : Int)), (0, (j : Int))]) dX8_word_89 rfl rfl rfl rfl ?_
                      refine ia_goto (pc := 92) F 4 dX8_word_92 rfl ?_
                      refine jw (ls' := [(4, ((99 : Nat) : Int)), (0, (j : Int)), (0, ((i + 1 : Nat) : Int)), (9, 0)]) [false, false, false, true] rfl ?_
                      exact ih4 (i + 1) (j : Int) _ (by omega) (by omega) (tx_wk_n h9 (by omega)) (by first | (rw [tx_bs_1 (by omega)]; omega) | (rw [tx_bs_0 (by omega)]; omega)) hP3 w3_99 hF3
                  · refine ia_aload_n (pc := 66) F dX8_word_66 rfl ?_
                    refine ia_dup (pc := 67) F dX8_word_67 (Or.inr (Or.inr rfl)) ?_
                    refine jg (pc := 68) F (x := (a : Int)) (z99 hZ) cls11 f11_22 ((congrFun w3_99 22).trans tp_22) il_RX8_78 dX8_word_68 ?_
                    refine ia_iload_n (pc := 71) F dX8_word_71 rfl ?_
                    refine ia_iadd (pc := 72) F dX8_word_72 ?_
                    refine jp (pc := 73) F (z99 hZ) cls11 f11_22 rfl (ia_nI rfl _) il_RX8_78 dX8_word_73 ?_
                    refine ia_iload_n (pc := 76) F dX8_word_76 rfl ?_
                    refine ia_ireturn (pc := 77) F M (by decide) (by decide) dX8_word_77 ?_
                    have e2 := tx_cK_y (t := ι) (n := n) (a := a) (i := i) (by omega) h9 (by omega)
                    rw [e2.1, e2.2] at q1
                    exact q1 _ (by omega) (PI_u hP3 rfl) (((rowU w3_99).trans tp_u22).trans (by rw [show tx_wl i = j by omega]; rfl)) (Fr_u hF3 (by decide))
                · refine ia_iinc (pc := 52) F (ls' := [(4, ((99 : Nat) : Int)), (0, b), (0, (i : Int)), (0, ((j + 1 : Nat) : Int))]) dX8_word_52 rfl rfl rfl rfl ?_
                  refine ia_goto (pc := 55) F 12 dX8_word_55 rfl ?_
                  exact ih12 (j + 1) _ (by omega) (by omega) (tx_ag_s hx (by omega)) hP3 w3_99 hF3
        exact L12 (8 + 1) 0 _ (by omega) (by omega) rfl hP2 w2_99 hF2
  exact L4 (9 + 1) 0 0 _ (by omega) (by omega) rfl rfl hP h99 (Fr_0 (V := V) (S := [99]))
