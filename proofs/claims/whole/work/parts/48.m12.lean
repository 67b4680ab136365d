/-! the model: its text, first parts (made by wip/whole/m2.py) -/
set_option maxRecDepth 100000 in
theorem c_X8_firstDigits {Z : ia_Z} {V : ia_H} {Q : ia_O → ia_Z → ia_H → Prop} (k : Int)   (hk : 0 ≤ k ∧ k ≤ 8) (q1 : (¬ k = 1) → (k = 6) → Q (.inl (some (0, 2))) Z V) (q2 : (¬ k = 1) → (¬ k = 6) → (k = 7) → Q (.inl (some (0, 2))) Z V) (q3 : (¬ k = 1) → (¬ k = 6) → (¬ k = 7) → (¬ k = 8) → Q (.inl (some (0, 1))) Z V) (q4 : (¬ k = 1) → (¬ k = 6) → (¬ k = 7) → (k = 8) → Q (.inl (some (0, 2))) Z V) (q5 : (k = 1) → Q (.inl (some (0, 3))) Z V) : ia_K yX8_firstDigits cX8_firstDigits 1 (some .int) [(0, k)] Z V 1 0 0 Q := by
  refine ia_start RX8 "firstDigits" ⟨by decide, rfl, rfl⟩ (Nat.le_of_ble_eq_true rfl) (ia_tg rfl) (fun X F M => ?_)
  show ia_G X 0 0 0 [(0, k)] [] Z V
  refine ia_iload_n (pc := 0) F dX8_firstDigits_0 rfl ?_
  refine ia_iconst (pc := 1) F dX8_firstDigits_1 ?_
  refine ia_icmp_ne (pc := 2) F 9 dX8_firstDigits_2 rfl (by omega) (by omega) (fun h_1 => ?_) (fun h_1 => ?_)
  · refine ia_iload_n (pc := 9) F dX8_firstDigits_9 rfl ?_
    refine ia_bipush (pc := 10) F dX8_firstDigits_10 (by decide) ?_
    refine ia_icmp_eq (pc := 12) F 27 dX8_firstDigits_12 rfl (by omega) (by omega) (fun h_2 => ?_) (fun h_2 => ?_)
    · refine ia_iconst (pc := 27) F dX8_firstDigits_27 ?_
      refine ia_goto (pc := 28) F 32 dX8_firstDigits_28 rfl ?_
      refine ia_ireturn (pc := 32) F M (by decide) (by decide) dX8_firstDigits_32 ?_
      exact q1 h_1 h_2
    · refine ia_iload_n (pc := 15) F dX8_firstDigits_15 rfl ?_
      refine ia_bipush (pc := 16) F dX8_firstDigits_16 (by decide) ?_
      refine ia_icmp_eq (pc := 18) F 27 dX8_firstDigits_18 rfl (by omega) (by omega) (fun h_3 => ?_) (fun h_3 => ?_)
      · refine ia_iconst (pc := 27) F dX8_firstDigits_27 ?_
        refine ia_goto (pc := 28) F 32 dX8_firstDigits_28 rfl ?_
        refine ia_ireturn (pc := 32) F M (by decide) (by decide) dX8_firstDigits_32 ?_
        exact q2 h_1 h_2 h_3
      · refine ia_iload_n (pc := 21) F dX8_firstDigits_21 rfl ?_
        refine ia_bipush (pc := 22) F dX8_firstDigits_22 (by decide) ?_
        refine ia_icmp_ne (pc := 24) F 31 dX8_firstDigits_24 rfl (by omega) (by omega) (fun h_4 => ?_) (fun h_4 => ?_)
        · refine ia_iconst (pc := 31) F dX8_firstDigits_31 ?_
          refine ia_ireturn (pc := 32) F M (by decide) (by decide) dX8_firstDigits_32 ?_
          exact q3 h_1 h_2 h_3 h_4
        · refine ia_iconst (pc := 27) F dX8_firstDigits_27 ?_
          refine ia_goto (pc := 28) F 32 dX8_firstDigits_28 rfl ?_
          refine ia_ireturn (pc := 32) F M (by decide) (by decide) dX8_firstDigits_32 ?_
          exact q4 h_1 h_2 h_3 h_4
  · refine ia_iconst (pc := 5) F dX8_firstDigits_5 ?_
    refine ia_goto (pc := 6) F 32 dX8_firstDigits_6 rfl ?_
    refine ia_ireturn (pc := 32) F M (by decide) (by decide) dX8_firstDigits_32 ?_
    exact q5 h_1
set_option maxRecDepth 100000 in
theorem c_X8_mark {Z : ia_Z} {V : ia_H} {Q : ia_O → ia_Z → ia_H → Prop} {σ : Nat → Int} {μ : Nat → Int} {ι : Nat → Int} (hZ : ZI Z) (hP : PI V) (h99 : V 99 = μ) (h100 : V 100 = σ) (h110 : V 110 = ι) (ht : 0 ≤ μ 22 ∧ 0 ≤ μ 21 ∧ μ 21 ≤ 60) (hw : μ 24 = 0 ∨ μ 24 = 1) (h22 : μ 22 ≤ 1000) (q1 : (¬ μ 24 = 0) → Q (.inl (some (0, (-1)))) Z V) (q2 : (μ 24 = 0) → (μ 21 ≤ μ 22) → Q (.inl (some (0, (-1)))) Z V) (q3 : (μ 24 = 0) → (¬ μ 21 ≤ μ 22) → Q (.inl (some (0, ι ((μ 22).toNat)))) Z V) : ia_K yX8_mark cX8_mark 1 (some .int) [(4, ((99 : Nat) : Int))] Z V 1 0 0 Q := by
  refine ia_start RX8 "mark" ⟨by decide, rfl, rfl⟩ (Nat.le_of_ble_eq_true rfl) (ia_tg rfl) (fun X F M => ?_)
  show ia_G X 0 0 0 [(4, ((99 : Nat) : Int))] [] Z V
  refine ia_aload_n (pc := 0) F dX8_mark_0 rfl ?_
  refine jg (pc := 1) F (x := μ 24) (z99 hZ) cls11 f11_24 (congrFun h99 24) il_RX8_84 dX8_mark_1 ?_
  refine ia_if_ne (pc := 4) F 30 dX8_mark_4 rfl (by omega) (fun h_1 => ?_) (fun h_1 => ?_)
  · refine ia_iconst (pc := 30) F dX8_mark_30 ?_
    refine ia_ireturn (pc := 31) F M (by decide) (by decide) dX8_mark_31 ?_
    exact q1 h_1
  · refine ia_aload_n (pc := 7) F dX8_mark_7 rfl ?_
    refine jg (pc := 8) F (x := μ 22) (z99 hZ) cls11 f11_22 (congrFun h99 22) il_RX8_78 dX8_mark_8 ?_
    refine ia_aload_n (pc := 11) F dX8_mark_11 rfl ?_
    refine jg (pc := 12) F (x := μ 21) (z99 hZ) cls11 f11_21 (congrFun h99 21) il_RX8_75 dX8_mark_12 ?_
    refine ia_icmp_ge (pc := 15) F 30 dX8_mark_15 rfl (by omega) (by omega) (fun h_2 => ?_) (fun h_2 => ?_)
    · refine ia_iconst (pc := 30) F dX8_mark_30 ?_
      refine ia_ireturn (pc := 31) F M (by decide) (by decide) dX8_mark_31 ?_
      exact q2 h_1 h_2
    · refine ia_aload_n (pc := 18) F dX8_mark_18 rfl ?_
      refine jg (pc := 19) F (z99 hZ) cls11 f11_16 (hP 99 16 110 rfl) il_RX8_60 dX8_mark_19 ?_
      refine ia_aload_n (pc := 22) F dX8_mark_22 rfl ?_
      refine jg (pc := 23) F (x := μ 22) (z99 hZ) cls11 f11_22 (congrFun h99 22) il_RX8_78 dX8_mark_23 ?_
      refine ja (pc := 26) F (v := ι ((μ 22).toNat)) (z110 hZ) ((μ 22).toNat) (by omega) (by omega) (congrFun h110 ((μ 22).toNat)) dX8_mark_26 ?_
      refine ia_goto (pc := 27) F 31 dX8_mark_27 rfl ?_
      refine ia_ireturn (pc := 31) F M (by decide) (by decide) dX8_mark_31 ?_
      exact q3 h_1 h_2
set_option maxRecDepth 100000 in
theorem c_X8_type {Z : ia_Z} {V : ia_H} {Q : ia_O → ia_Z → ia_H → Prop} {σ : Nat → Int} {μ : Nat → Int} {ι : Nat → Int} (c : Int) (hZ : ZI Z) (hP : PI V) (h99 : V 99 = μ) (h100 : V 100 = σ) (h110 : V 110 = ι) (ht : 0 ≤ μ 20 ∧ μ 20 ≤ 60) (hc : 0 ≤ c ∧ c ≤ 65535) (q1 : ∀ (V1 : ia_H), (32 ≤ c ∧ c ≤ 126) → (¬ μ 20 = 60) → PI V1 → (V1 99 = (up (up μ 9 0) 20 (μ 20 + 1))) → (V1 110 = (up ι ((μ 20).toNat) c)) → (∀ pp, pp ∉ ([99, 110] : List Nat) → V1 pp = V pp) → Q (.inl (some (0, (μ 20 + 1)))) Z V1) (q2 : ∀ (V1 : ia_H), (32 ≤ c ∧ c ≤ 126) → (μ 20 = 60) → PI V1 → (V1 99 = (up μ 9 2)) → (V1 110 = ι) → (∀ pp, pp ∉ ([99, 110] : List Nat) → V1 pp = V pp) → Q (.inl (some (0, 0))) Z V1) (q3 : ∀ (V1 : ia_H), (¬ (32 ≤ c ∧ c ≤ 126)) → PI V1 → (V1 99 = (up μ 9 1)) → (V1 110 = ι) → (∀ pp, pp ∉ ([99, 110] : List Nat) → V1 pp = V pp) → Q (.inl (some (0, 0))) Z V1) : ia_K yX8_type cX8_type 2 (some .int) [(4, ((99 : Nat) : Int)), (0, c)] Z V 3 0 0 Q := by
  refine ia_start RX8 "type" ⟨by decide, rfl, rfl⟩ (Nat.le_of_ble_eq_true rfl) (ia_tg rfl) (fun X F M => ?_)
  show ia_G X 0 0 0 [(4, ((99 : Nat) : Int)), (0, c)] [] Z V
  refine ia_aload_n (pc := 0) F dX8_type_0 rfl ?_
  refine ia_iload_n (pc := 1) F dX8_type_1 rfl ?_
  refine ia_bipush (pc := 2) F dX8_type_2 (by decide) ?_
  refine ia_bipush (pc := 4) F dX8_type_4 (by decide) ?_
  refine jS (pc := 6) F 0 0 (c_X8_in c 32 126 (by omega) (by omega) (by omega) (fun h_1 => ?_) (fun h_2 => ?_)) rfl ⟨k_X8_in, il_RX8_91, it_X8_in, ii_RX8⟩ rfl 3 rfl hd_X8_in ⟨by decide, by decide, by decide, by decide, Nat.le_of_ble_eq_true rfl⟩ dX8_type_6
  · refine j1 ?_
    refine ia_if_ne (pc := 9) F 16 dX8_type_9 rfl (by omega) (fun _ => ?_) (fun h9 => absurd h9 (by omega))
    refine ia_aload_n (pc := 16) F dX8_type_16 rfl ?_
    refine jg (pc := 17) F (x := μ 20) (z99 hZ) cls11 f11_20 (congrFun h99 20) il_RX8_72 dX8_type_17 ?_
    refine ia_bipush (pc := 20) F dX8_type_20 (by decide) ?_
    refine ia_icmp_ne (pc := 22) F 29 dX8_type_22 rfl (by omega) (by omega) (fun h_3 => ?_) (fun h_3 => ?_)
    · refine ia_iconst (pc := 29) F dX8_type_29 ?_
      refine jp (pc := 30) F (z99 hZ) cls11 f11_9 rfl (ia_nI rfl _) il_RX8_37 dX8_type_30 ?_
      refine ia_aload_n (pc := 33) F dX8_type_33 rfl ?_
      refine jg (pc := 34) F (x := 0) (z99 hZ) cls11 f11_9 ((congrFun (rowU h99) 9).trans (up_self _ _ _)) il_RX8_37 dX8_type_34 ?_
      refine ia_if_le (pc := 37) F 42 dX8_type_37 rfl (by omega) (fun _ => ?_) (fun h9 => absurd h9 (by omega))
      refine ia_aload_n (pc := 42) F dX8_type_42 rfl ?_
      refine jg (pc := 43) F (z99 hZ) cls11 f11_16 ((PI_u hP rfl) 99 16 110 rfl) il_RX8_60 dX8_type_43 ?_
      refine ia_aload_n (pc := 46) F dX8_type_46 rfl ?_
      refine jg (pc := 47) F (x := μ 20) (z99 hZ) cls11 f11_20 ((congrFun (rowU h99) 20).trans (up_ne (by decide))) il_RX8_72 dX8_type_47 ?_
      refine ia_iload_n (pc := 50) F dX8_type_50 rfl ?_
      refine js (pc := 51) F (z110 hZ) ((μ 20).toNat) (by omega) (by omega) dX8_type_51 ?_
      refine ia_aload_n (pc := 52) F dX8_type_52 rfl ?_
      refine ia_dup (pc := 53) F dX8_type_53 (Or.inr (Or.inr rfl)) ?_
      refine jg (pc := 54) F (x := μ 20) (z99 hZ) cls11 f11_20 ((congrFun ((rowN (by decide)).trans (rowU h99)) 20).trans (up_ne (by decide))) il_RX8_72 dX8_type_54 ?_
      refine ia_iconst (pc := 57) F dX8_type_57 ?_
      refine ia_iadd (pc := 58) F dX8_type_58 ?_
      refine jp (pc := 59) F (z99 hZ) cls11 f11_20 rfl (ia_nI rfl _) il_RX8_72 dX8_type_59 ?_
      refine ia_aload_n (pc := 62) F dX8_type_62 rfl ?_
      refine jg (pc := 63) F (x := (μ 20 + 1)) (z99 hZ) cls11 f11_20 ((congrFun (rowU ((rowN (by decide)).trans (rowU h99))) 20).trans (up_self _ _ _)) il_RX8_72 dX8_type_63 ?_
      refine ia_ireturn (pc := 66) F M (by decide) (by decide) dX8_type_66 ?_
      exact q1 _ h_1 h_3 (PI_u (PI_u (PI_u hP rfl) rfl) rfl) (rowU ((rowN (by decide)).trans (rowU h99))) ((rowN (by decide)).trans (rowU ((rowN (by decide)).trans h110))) (Fr_u (Fr_u (Fr_u (Fr_0 (V := V) (S := [99, 110])) (by decide)) (by decide)) (by decide))
    · refine ia_iconst (pc := 25) F dX8_type_25 ?_
      refine ia_goto (pc := 26) F 30 dX8_type_26 rfl ?_
      refine jp (pc := 30) F (z99 hZ) cls11 f11_9 rfl (ia_nI rfl _) il_RX8_37 dX8_type_30 ?_
      refine ia_aload_n (pc := 33) F dX8_type_33 rfl ?_
      refine jg (pc := 34) F (x := 2) (z99 hZ) cls11 f11_9 ((congrFun (rowU h99) 9).trans (up_self _ _ _)) il_RX8_37 dX8_type_34 ?_
      refine ia_if_le (pc := 37) F 42 dX8_type_37 rfl (by omega) (fun h9 => absurd h9 (by omega)) (fun _ => ?_)
      refine ia_iconst (pc := 40) F dX8_type_40 ?_
      refine ia_ireturn (pc := 41) F M (by decide) (by decide) dX8_type_41 ?_
      exact q2 _ h_1 h_3 (PI_u hP rfl) (rowU h99) ((rowN (by decide)).trans h110) (Fr_u (Fr_0 (V := V) (S := [99, 110])) (by decide))
  · refine j1 ?_
    refine ia_if_ne (pc := 9) F 16 dX8_type_9 rfl (by omega) (fun h9 => absurd h9 (by omega)) (fun _ => ?_)
    refine ia_iconst (pc := 12) F dX8_type_12 ?_
    refine ia_goto (pc := 13) F 30 dX8_type_13 rfl ?_
    refine jp (pc := 30) F (z99 hZ) cls11 f11_9 rfl (ia_nI rfl _) il_RX8_37 dX8_type_30 ?_
    refine ia_aload_n (pc := 33) F dX8_type_33 rfl ?_
    refine jg (pc := 34) F (x := 1) (z99 hZ) cls11 f11_9 ((congrFun (rowU h99) 9).trans (up_self _ _ _)) il_RX8_37 dX8_type_34 ?_
    refine ia_if_le (pc := 37) F 42 dX8_type_37 rfl (by omega) (fun h9 => absurd h9 (by omega)) (fun _ => ?_)
    refine ia_iconst (pc := 40) F dX8_type_40 ?_
    refine ia_ireturn (pc := 41) F M (by decide) (by decide) dX8_type_41 ?_
    exact q3 _ h_2 (PI_u hP rfl) (rowU h99) ((rowN (by decide)).trans h110) (Fr_u (Fr_0 (V := V) (S := [99, 110])) (by decide))
set_option maxRecDepth 100000 in
theorem c_X8_write {Z : ia_Z} {V : ia_H} {Q : ia_O → ia_Z → ia_H → Prop} {σ : Nat → Int} {μ : Nat → Int} {κ : Nat → Int} (c : Int) (hZ : ZI Z) (hP : PI V) (h99 : V 99 = μ) (h100 : V 100 = σ) (h109 : V 109 = κ) (ht : 0 ≤ μ 15 ∧ μ 15 ≤ 11) (q1 : ∀ (V1 : ia_H), PI V1 → (V1 99 = (up μ 15 (μ 15 + 1))) → (V1 109 = (up κ ((μ 15).toNat) c)) → (∀ pp, pp ∉ ([99, 109] : List Nat) → V1 pp = V pp) → Q (.inl none) Z V1) : ia_K yX8_write cX8_write 2 none [(4, ((99 : Nat) : Int)), (0, c)] Z V 2 0 0 Q := by
  refine ia_start RX8 "write" ⟨by decide, rfl, rfl⟩ (Nat.le_of_ble_eq_true rfl) (ia_tg rfl) (fun X F M => ?_)
  show ia_G X 0 0 0 [(4, ((99 : Nat) : Int)), (0, c)] [] Z V
  refine ia_aload_n (pc := 0) F dX8_write_0 rfl ?_
  refine jg (pc := 1) F (z99 hZ) cls11 f11_14 (hP 99 14 109 rfl) il_RX8_54 dX8_write_1 ?_
  refine ia_aload_n (pc := 4) F dX8_write_4 rfl ?_
  refine jg (pc := 5) F (x := μ 15) (z99 hZ) cls11 f11_15 (congrFun h99 15) il_RX8_57 dX8_write_5 ?_
  refine ia_iload_n (pc := 8) F dX8_write_8 rfl ?_
  refine js (pc := 9) F (z109 hZ) ((μ 15).toNat) (by omega) (by omega) dX8_write_9 ?_
  refine ia_aload_n (pc := 10) F dX8_write_10 rfl ?_
  refine ia_dup (pc := 11) F dX8_write_11 (Or.inr (Or.inr rfl)) ?_
  refine jg (pc := 12) F (x := μ 15) (z99 hZ) cls11 f11_15 (congrFun ((rowN (by decide)).trans h99) 15) il_RX8_57 dX8_write_12 ?_
  refine ia_iconst (pc := 15) F dX8_write_15 ?_
  refine ia_iadd (pc := 16) F dX8_write_16 ?_
  refine jp (pc := 17) F (z99 hZ) cls11 f11_15 rfl (ia_nI rfl _) il_RX8_57 dX8_write_17 ?_
  refine ia_return (pc := 20) F M (by decide) (by decide) dX8_write_20 ?_
  exact q1 _ (PI_u (PI_u hP rfl) rfl) (rowU ((rowN (by decide)).trans h99)) ((rowN (by decide)).trans (rowU h109)) (Fr_u (Fr_u (Fr_0 (V := V) (S := [99, 109])) (by decide)) (by decide))
