/-! the class: shares of paper, rises (made by wip/whole/c1.py) -/
set_option maxRecDepth 100000 in
theorem c_X5_nextToGet {Z : ia_Z} {V : ia_H} {Q : ia_O → ia_Z → ia_H → Prop} {σ : Nat → Int} {δ : Nat → Int} {m : Int} (hZ : ZI Z) (hP : PI V) (hS : Sh 1 V σ) (hI : SI σ m) (h86 : V 86 = δ) (hδ : ∀ j, j < 7 → 0 ≤ δ j ∧ δ j ≤ 10000) (q1 : Q (.inl (some (0, (nsh σ δ (σ 0).toNat)))) Z V) : ia_K yX5_nextToGet cX5_nextToGet 5 (some .int) [(4, ((85 : Nat) : Int)), (4, ((1 : Nat) : Int))] Z V 3 0 0 Q := by
  refine ia_start RX5 "nextToGet" ⟨by decide, rfl, rfl⟩ (Nat.le_of_ble_eq_true rfl) (ia_tg rfl) (fun X F M => ?_)
  show ia_G X 0 0 0 [(4, ((85 : Nat) : Int)), (4, ((1 : Nat) : Int)), (9, 0), (9, 0), (9, 0)] [] Z V
  obtain ⟨s0, s1, s2, s3, s4, s5, s6, s7, s18, sb, sw, se, sp⟩ := id hI
  refine ia_iconst (pc := 0) F dX5_nextToGet_0 ?_
  refine ia_istore_n (pc := 1) F (ls' := [(4, ((85 : Nat) : Int)), (4, ((1 : Nat) : Int)), (0, (-1)), (9, 0), (9, 0)]) dX5_nextToGet_1 (Nat.le_of_ble_eq_true rfl) rfl rfl ?_
  refine ia_iconst (pc := 2) F dX5_nextToGet_2 ?_
  refine ia_istore_n (pc := 3) F (ls' := [(4, ((85 : Nat) : Int)), (4, ((1 : Nat) : Int)), (0, (-1)), (0, 0), (9, 0)]) dX5_nextToGet_3 (Nat.le_of_ble_eq_true rfl) rfl rfl ?_
  have L4 : ∀ (fu : Nat) (j : Nat) (a : Int), (7 - j < fu) → ((j : Int) ≤ σ 0) → (a = nsh σ δ j) → ia_G X 0 0 4 [(4, ((85 : Nat) : Int)), (4, ((1 : Nat) : Int)), (0, a), (0, (j : Int)), (9, 0)] [] Z V := by
    intro fu
    induction fu with
    | zero => intro j a hm; exact absurd hm (Nat.not_lt_zero _)
    | succ fu ih =>
      intro j a hm hj ha
      have ih4 := ih
      refine ia_iload_n (pc := 4) F dX5_nextToGet_4 rfl ?_
      refine ia_aload_n (pc := 5) F dX5_nextToGet_5 rfl ?_
      refine jg (pc := 6) F (x := σ 0) (z1 hZ) cls9 f9_6 hS.f6 il_RX5_25 dX5_nextToGet_6 ?_
      refine ia_icmp_ge (pc := 9) F 66 dX5_nextToGet_9 rfl (by omega) (by omega) (fun h_1 => ?_) (fun h_1 => ?_)
      · refine ia_iload_n (pc := 66) F dX5_nextToGet_66 rfl ?_
        refine ia_ireturn (pc := 67) F M (by decide) (by decide) dX5_nextToGet_67 ?_
        rw [show (σ 0).toNat = j by omega, ← ha] at q1
        exact q1
      · have r9 := nsh_rng (σ := σ) (f := δ) j
        rw [← ha] at r9
        have r8 := se j (by omega)
        have r7 : miss σ j = run σ j - prt σ j := rfl
        have r6 := hδ j (by omega)
        have r5 := fun h => hδ a.toNat h
        refine ia_aload_n (pc := 12) F dX5_nextToGet_12 rfl ?_
        refine jg (pc := 13) F (z85 hZ) cls8 f8_0 (hP 85 0 86 rfl) il_RX5_9 dX5_nextToGet_13 ?_
        refine ia_iload_n (pc := 16) F dX5_nextToGet_16 rfl ?_
        refine ja (pc := 17) F (v := δ j) (z86 hZ) j rfl (by omega) (congrFun h86 j) dX5_nextToGet_17 ?_
        refine ia_aload_n (pc := 18) F dX5_nextToGet_18 rfl ?_
        refine ia_iload_n (pc := 19) F dX5_nextToGet_19 rfl ?_
        refine jV (pc := 20) F 0 0 (z1 hZ) cls9.1 (c_X6_missing (j : Int) hZ hP hS hI (by omega) ?_) rfl ⟨k_X6_missing, il_RX5_28, im_X6_missing, is_X6_missing, ii_RX6⟩ 1 rfl hd_X6_missing ⟨by decide, by decide, by decide, by decide, Nat.le_of_ble_eq_true rfl⟩ dX5_nextToGet_20
        change ia_ct X _ _ (20 + 3) _ _ _ (.inl (some (0, (miss σ j)))) _ _
        refine j1 ?_
        refine ia_icmp_ge (pc := 23) F 30 dX5_nextToGet_23 rfl (by omega) (by omega) (fun h_2 => ?_) (fun h_2 => ?_)
        · refine ia_iconst (pc := 30) F dX5_nextToGet_30 ?_
          refine ia_istore (pc := 31) F (ls' := [(4, ((85 : Nat) : Int)), (4, ((1 : Nat) : Int)), (0, a), (0, (j : Int)), (0, 0)]) dX5_nextToGet_31 (Nat.le_of_ble_eq_true rfl) rfl rfl ?_
          refine ia_iload (pc := 33) F dX5_nextToGet_33 rfl ?_
          refine ia_if_eq (pc := 35) F 60 dX5_nextToGet_35 rfl (by omega) (fun _ => ?_) (fun h9 => absurd h9 (by omega))
          refine ia_iinc (pc := 60) F (ls' := [(4, ((85 : Nat) : Int)), (4, ((1 : Nat) : Int)), (0, a), (0, ((j + 1 : Nat) : Int)), (0, 0)]) dX5_nextToGet_60 rfl rfl rfl rfl ?_
          refine ia_goto (pc := 63) F 4 dX5_nextToGet_63 rfl ?_
          refine jw (ls' := [(4, ((85 : Nat) : Int)), (4, ((1 : Nat) : Int)), (0, a), (0, ((j + 1 : Nat) : Int)), (9, 0)]) [false, false, false, false, true] rfl ?_
          exact ih4 (j + 1) _ (by omega) (by omega) (by unfold nsh; rw [← ha]; first | rw [if_pos ⟨by omega, Or.inl (by omega)⟩] | rw [if_pos ⟨by omega, Or.inr (by omega)⟩] | rw [if_neg (by omega)] | (rw [if_neg (fun e => by have := e.1; omega)]) | (rw [if_neg (fun e => by rcases e.2 with e | e <;> omega)]))
        · refine ia_iconst (pc := 26) F dX5_nextToGet_26 ?_
          refine ia_goto (pc := 27) F 31 dX5_nextToGet_27 rfl ?_
          refine ia_istore (pc := 31) F (ls' := [(4, ((85 : Nat) : Int)), (4, ((1 : Nat) : Int)), (0, a), (0, (j : Int)), (0, 1)]) dX5_nextToGet_31 (Nat.le_of_ble_eq_true rfl) rfl rfl ?_
          refine ia_iload (pc := 33) F dX5_nextToGet_33 rfl ?_
          refine ia_if_eq (pc := 35) F 60 dX5_nextToGet_35 rfl (by omega) (fun h9 => absurd h9 (by omega)) (fun _ => ?_)
          refine ia_iload_n (pc := 38) F dX5_nextToGet_38 rfl ?_
          refine ia_iconst (pc := 39) F dX5_nextToGet_39 ?_
          refine ia_icmp_eq (pc := 40) F 58 dX5_nextToGet_40 rfl (by omega) (by omega) (fun h_3 => ?_) (fun h_3 => ?_)
          · refine ia_iload_n (pc := 58) F dX5_nextToGet_58 rfl ?_
            refine ia_istore_n (pc := 59) F (ls' := [(4, ((85 : Nat) : Int)), (4, ((1 : Nat) : Int)), (0, (j : Int)), (0, (j : Int)), (0, 1)]) dX5_nextToGet_59 (Nat.le_of_ble_eq_true rfl) rfl rfl ?_
            refine ia_iinc (pc := 60) F (ls' := [(4, ((85 : Nat) : Int)), (4, ((1 : Nat) : Int)), (0, (j : Int)), (0, ((j + 1 : Nat) : Int)), (0, 1)]) dX5_nextToGet_60 rfl rfl rfl rfl ?_
            refine ia_goto (pc := 63) F 4 dX5_nextToGet_63 rfl ?_
            refine jw (ls' := [(4, ((85 : Nat) : Int)), (4, ((1 : Nat) : Int)), (0, (j : Int)), (0, ((j + 1 : Nat) : Int)), (9, 0)]) [false, false, false, false, true] rfl ?_
            exact ih4 (j + 1) _ (by omega) (by omega) (by unfold nsh; rw [← ha]; first | rw [if_pos ⟨by omega, Or.inl (by omega)⟩] | rw [if_pos ⟨by omega, Or.inr (by omega)⟩] | rw [if_neg (by omega)] | (rw [if_neg (fun e => by have := e.1; omega)]) | (rw [if_neg (fun e => by rcases e.2 with e | e <;> omega)]))
          · have r4 := r5 (by omega)
            refine ia_aload_n (pc := 43) F dX5_nextToGet_43 rfl ?_
            refine jg (pc := 44) F (z85 hZ) cls8 f8_0 (hP 85 0 86 rfl) il_RX5_9 dX5_nextToGet_44 ?_
            refine ia_iload_n (pc := 47) F dX5_nextToGet_47 rfl ?_
            refine ja (pc := 48) F (v := δ j) (z86 hZ) j rfl (by omega) (congrFun h86 j) dX5_nextToGet_48 ?_
            refine ia_aload_n (pc := 49) F dX5_nextToGet_49 rfl ?_
            refine jg (pc := 50) F (z85 hZ) cls8 f8_0 (hP 85 0 86 rfl) il_RX5_9 dX5_nextToGet_50 ?_
            refine ia_iload_n (pc := 53) F dX5_nextToGet_53 rfl ?_
            refine ja (pc := 54) F (v := δ a.toNat) (z86 hZ) a.toNat (by omega) (by omega) (congrFun h86 a.toNat) dX5_nextToGet_54 ?_
            refine ia_icmp_ge (pc := 55) F 60 dX5_nextToGet_55 rfl (by omega) (by omega) (fun h_4 => ?_) (fun h_4 => ?_)
            · refine ia_iinc (pc := 60) F (ls' := [(4, ((85 : Nat) : Int)), (4, ((1 : Nat) : Int)), (0, a), (0, ((j + 1 : Nat) : Int)), (0, 1)]) dX5_nextToGet_60 rfl rfl rfl rfl ?_
              refine ia_goto (pc := 63) F 4 dX5_nextToGet_63 rfl ?_
              refine jw (ls' := [(4, ((85 : Nat) : Int)), (4, ((1 : Nat) : Int)), (0, a), (0, ((j + 1 : Nat) : Int)), (9, 0)]) [false, false, false, false, true] rfl ?_
              exact ih4 (j + 1) _ (by omega) (by omega) (by unfold nsh; rw [← ha]; first | rw [if_pos ⟨by omega, Or.inl (by omega)⟩] | rw [if_pos ⟨by omega, Or.inr (by omega)⟩] | rw [if_neg (by omega)] | (rw [if_neg (fun e => by have := e.1; omega)]) | (rw [if_neg (fun e => by rcases e.2 with e | e <;> omega)]))
            · refine ia_iload_n (pc := 58) F dX5_nextToGet_58 rfl ?_
              refine ia_istore_n (pc := 59) F (ls' := [(4, ((85 : Nat) : Int)), (4, ((1 : Nat) : Int)), (0, (j : Int)), (0, (j : Int)), (0, 1)]) dX5_nextToGet_59 (Nat.le_of_ble_eq_true rfl) rfl rfl ?_
              refine ia_iinc (pc := 60) F (ls' := [(4, ((85 : Nat) : Int)), (4, ((1 : Nat) : Int)), (0, (j : Int)), (0, ((j + 1 : Nat) : Int)), (0, 1)]) dX5_nextToGet_60 rfl rfl rfl rfl ?_
              refine ia_goto (pc := 63) F 4 dX5_nextToGet_63 rfl ?_
              refine jw (ls' := [(4, ((85 : Nat) : Int)), (4, ((1 : Nat) : Int)), (0, (j : Int)), (0, ((j + 1 : Nat) : Int)), (9, 0)]) [false, false, false, false, true] rfl ?_
              exact ih4 (j + 1) _ (by omega) (by omega) (by unfold nsh; rw [← ha]; first | rw [if_pos ⟨by omega, Or.inl (by omega)⟩] | rw [if_pos ⟨by omega, Or.inr (by omega)⟩] | rw [if_neg (by omega)] | (rw [if_neg (fun e => by have := e.1; omega)]) | (rw [if_neg (fun e => by rcases e.2 with e | e <;> omega)]))
  exact L4 8 0 _ (by omega) (by omega) rfl
set_option maxRecDepth 100000 in
theorem c_X5_dealSheetBySheet {Z : ia_Z} {V : ia_H} {Q : ia_O → ia_Z → ia_H → Prop} {σ : Nat → Int} {δ : Nat → Int} {m : Int} (hZ : ZI Z) (hP : PI V) (hS : Sh 1 V σ) (hI : SI σ m) (h86 : V 86 = δ)  (q1 : ∀ (V1 : ia_H), PI V1 → (V1 86 = mgk 7 (shs σ (σ 2).toNat) δ) → (∀ pp, pp ∉ ([86] : List Nat) → V1 pp = V pp) → Q (.inl none) Z V1) : ia_K yX5_dealSheetBySheet cX5_dealSheetBySheet 4 none [(4, ((85 : Nat) : Int)), (4, ((1 : Nat) : Int))] Z V 4 0 0 Q := by
  refine ia_start RX5 "dealSheetBySheet" ⟨by decide, rfl, rfl⟩ (Nat.le_of_ble_eq_true rfl) (ia_tg rfl) (fun X F M => ?_)
  show ia_G X 0 0 0 [(4, ((85 : Nat) : Int)), (4, ((1 : Nat) : Int)), (9, 0), (9, 0)] [] Z V
  obtain ⟨s0, s1, s2, s3, s4, s5, s6, s7, s18, sb, sw, se, sp⟩ := id hI
  refine ia_iconst (pc := 0) F dX5_dealSheetBySheet_0 ?_
  refine ia_istore_n (pc := 1) F (ls' := [(4, ((85 : Nat) : Int)), (4, ((1 : Nat) : Int)), (0, 0), (9, 0)]) dX5_dealSheetBySheet_1 (Nat.le_of_ble_eq_true rfl) rfl rfl ?_
  have L2 : ∀ (fu : Nat) (j : Nat) (V2 : ia_H), (7 - j < fu) → (j ≤ 7) → (PI V2) → (V2 86 = mgk j (fun _ => 0) δ) → (∀ pp, pp ∉ ([86] : List Nat) → V2 pp = V pp) → ia_G X 0 0 2 [(4, ((85 : Nat) : Int)), (4, ((1 : Nat) : Int)), (0, (j : Int)), (9, 0)] [] Z V2 := by
    intro fu
    induction fu with
    | zero => intro j V2 hm; exact absurd hm (Nat.not_lt_zero _)
    | succ fu ih =>
      intro j V2 hm hj hP2 w2_86 hF2
      have ih2 := ih
      refine ia_iload_n (pc := 2) F dX5_dealSheetBySheet_2 rfl ?_
      refine ia_bipush (pc := 3) F dX5_dealSheetBySheet_3 (by decide) ?_
      refine ia_icmp_ge (pc := 5) F 21 dX5_dealSheetBySheet_5 rfl (by omega) (by omega) (fun h_1 => ?_) (fun h_1 => ?_)
      · refine ia_aload_n (pc := 21) F dX5_dealSheetBySheet_21 rfl ?_
        refine jg (pc := 22) F (x := σ 2) (z1 hZ) cls9 f9_8 (Sh_fr hS hF2 (by decide)).f8 il_RX5_15 dX5_dealSheetBySheet_22 ?_
        refine ia_istore_n (pc := 25) F (ls' := [(4, ((85 : Nat) : Int)), (4, ((1 : Nat) : Int)), (0, σ 2), (9, 0)]) dX5_dealSheetBySheet_25 (Nat.le_of_ble_eq_true rfl) rfl rfl ?_
        have L26 : ∀ (fu : Nat) (s : Nat) (x : Int) (V3 : ia_H), ((σ 2).toNat - s < fu) → ((s : Int) ≤ σ 2) → (x = σ 2 - s) → (PI V3) → (V3 86 = mgk 7 (shs σ s) δ) → (∀ pp, pp ∉ ([86] : List Nat) → V3 pp = V pp) → ia_G X 0 0 26 [(4, ((85 : Nat) : Int)), (4, ((1 : Nat) : Int)), (0, x), (9, 0)] [] Z V3 := by
          intro fu
          induction fu with
          | zero => intro s x V3 hm; exact absurd hm (Nat.not_lt_zero _)
          | succ fu ih =>
            intro s x V3 hm hs hx hP3 w3_86 hF3
            have ih26 := ih
            refine ia_iload_n (pc := 26) F dX5_dealSheetBySheet_26 rfl ?_
            refine ia_if_le (pc := 27) F 58 dX5_dealSheetBySheet_27 rfl (by omega) (fun h_2 => ?_) (fun h_2 => ?_)
            · refine ia_return (pc := 58) F M (by decide) (by decide) dX5_dealSheetBySheet_58 ?_
              exact q1 _ hP3 (w3_86.trans (by rw [show (σ 2).toNat = s by omega])) hF3
            · have r9 := nsh_rng (σ := σ) (f := mgk 7 (shs σ s) δ) (σ 0).toNat
              refine ia_aload_n (pc := 30) F dX5_dealSheetBySheet_30 rfl ?_
              refine ia_aload_n (pc := 31) F dX5_dealSheetBySheet_31 rfl ?_
              refine jV (pc := 32) F 0 0 (z85 hZ) cls8.1 (c_X5_nextToGet hZ hP3 (Sh_fr hS hF3 (by decide)) hI w3_86 (fun j hj => by rw [mgk_lt hj]; have := shs_rng (σ := σ) j s; omega) ?_) rfl ⟨k_X5_nextToGet, il_RX5_21, im_X5_nextToGet, is_X5_nextToGet, ii_RX5⟩ 1 rfl hd_X5_nextToGet ⟨by decide, by decide, by decide, by decide, Nat.le_of_ble_eq_true rfl⟩ dX5_dealSheetBySheet_32
              refine j1 ?_
              refine ia_istore_n (pc := 35) F (ls' := [(4, ((85 : Nat) : Int)), (4, ((1 : Nat) : Int)), (0, x), (0, (nsh σ (mgk 7 (shs σ s) δ) (σ 0).toNat))]) dX5_dealSheetBySheet_35 (Nat.le_of_ble_eq_true rfl) rfl rfl ?_
              refine ia_iload_n (pc := 36) F dX5_dealSheetBySheet_36 rfl ?_
              refine ia_iconst (pc := 37) F dX5_dealSheetBySheet_37 ?_
              refine ia_icmp_ne (pc := 38) F 42 dX5_dealSheetBySheet_38 rfl (by omega) (by omega) (fun h_3 => ?_) (fun h_3 => ?_)
              · refine ia_aload_n (pc := 42) F dX5_dealSheetBySheet_42 rfl ?_
                refine jg (pc := 43) F (z85 hZ) cls8 f8_0 (hP3 85 0 86 rfl) il_RX5_9 dX5_dealSheetBySheet_43 ?_
                refine ia_iload_n (pc := 46) F dX5_dealSheetBySheet_46 rfl ?_
                refine ia_dup2 (pc := 47) F dX5_dealSheetBySheet_47 (Or.inl rfl) (Or.inr (Or.inr rfl)) ?_
                refine ja (pc := 48) F (v := (mgk 7 (shs σ s) δ) ((nsh σ (mgk 7 (shs σ s) δ) (σ 0).toNat).toNat)) (z86 hZ) ((nsh σ (mgk 7 (shs σ s) δ) (σ 0).toNat).toNat) (by omega) (by omega) (congrFun w3_86 ((nsh σ (mgk 7 (shs σ s) δ) (σ 0).toNat).toNat)) dX5_dealSheetBySheet_48 ?_
                refine ia_iconst (pc := 49) F dX5_dealSheetBySheet_49 ?_
                refine ia_iadd (pc := 50) F dX5_dealSheetBySheet_50 ?_
                refine js (pc := 51) F (z86 hZ) ((nsh σ (mgk 7 (shs σ s) δ) (σ 0).toNat).toNat) (by omega) (by omega) dX5_dealSheetBySheet_51 ?_
                refine ia_iinc (pc := 52) F (ls' := [(4, ((85 : Nat) : Int)), (4, ((1 : Nat) : Int)), (0, (x + (-1))), (0, (nsh σ (mgk 7 (shs σ s) δ) (σ 0).toNat))]) dX5_dealSheetBySheet_52 rfl rfl rfl rfl ?_
                refine ia_goto (pc := 55) F 26 dX5_dealSheetBySheet_55 rfl ?_
                refine jw (ls' := [(4, ((85 : Nat) : Int)), (4, ((1 : Nat) : Int)), (0, (x + (-1))), (9, 0)]) [false, false, false, true] rfl ?_
                exact ih26 (s + 1) (x + (-1)) _ (by omega) (by omega) (by omega) (PI_u hP3 rfl) ((rowU w3_86).trans (shs_step s0.2 rfl (by omega))) (Fr_u hF3 (by decide))
              · refine ia_return (pc := 41) F M (by decide) (by decide) dX5_dealSheetBySheet_41 ?_
                exact q1 _ hP3 (w3_86.trans (shs_fin s0.2 rfl (by omega) _ (by omega))) hF3
        exact L26 ((σ 2).toNat + 1) 0 _ _ (by omega) (by omega) (by omega) hP2 (w2_86.trans (by rw [show j = 7 by omega]; rfl)) hF2
      · refine ia_aload_n (pc := 8) F dX5_dealSheetBySheet_8 rfl ?_
        refine jg (pc := 9) F (z85 hZ) cls8 f8_0 (hP2 85 0 86 rfl) il_RX5_9 dX5_dealSheetBySheet_9 ?_
        refine ia_iload_n (pc := 12) F dX5_dealSheetBySheet_12 rfl ?_
        refine ia_iconst (pc := 13) F dX5_dealSheetBySheet_13 ?_
        refine js (pc := 14) F (z86 hZ) j rfl (by omega) dX5_dealSheetBySheet_14 ?_
        refine ia_iinc (pc := 15) F (ls' := [(4, ((85 : Nat) : Int)), (4, ((1 : Nat) : Int)), (0, ((j + 1 : Nat) : Int)), (9, 0)]) dX5_dealSheetBySheet_15 rfl rfl rfl rfl ?_
        refine ia_goto (pc := 18) F 2 dX5_dealSheetBySheet_18 rfl ?_
        exact ih2 (j + 1) _ (by omega) (by omega) (PI_u hP2 rfl) ((rowU w2_86).trans mgk_z) (Fr_u hF2 (by decide))
  exact L2 (7 + 1) 0 _ (by omega) (by omega) hP (h86.trans mgk_0) (Fr_0 (V := V) (S := [86]))
set_option maxRecDepth 100000 in
theorem c_X5_sheetsForLevel {Z : ia_Z} {V : ia_H} {Q : ia_O → ia_Z → ia_H → Prop} {σ : Nat → Int} {m : Int} (L : Int) (hZ : ZI Z) (hP : PI V) (hS : Sh 1 V σ) (hI : SI σ m)  (hL : 0 ≤ L ∧ L ≤ 50) (q1 : Q (.inl (some (0, (slv σ L (σ 0).toNat)))) Z V) : ia_K yX5_sheetsForLevel cX5_sheetsForLevel 4 (some .int) [(4, ((1 : Nat) : Int)), (0, L)] Z V 3 0 0 Q := by
  refine ia_start RX5 "sheetsForLevel" ⟨by decide, rfl, rfl⟩ (Nat.le_of_ble_eq_true rfl) (ia_tg rfl) (fun X F M => ?_)
  show ia_G X 0 0 0 [(4, ((1 : Nat) : Int)), (0, L), (9, 0), (9, 0)] [] Z V
  obtain ⟨s0, s1, s2, s3, s4, s5, s6, s7, s18, sb, sw, se, sp⟩ := id hI
  refine ia_iconst (pc := 0) F dX5_sheetsForLevel_0 ?_
  refine ia_istore_n (pc := 1) F (ls' := [(4, ((1 : Nat) : Int)), (0, L), (0, 0), (9, 0)]) dX5_sheetsForLevel_1 (Nat.le_of_ble_eq_true rfl) rfl rfl ?_
  refine ia_iconst (pc := 2) F dX5_sheetsForLevel_2 ?_
  refine ia_istore_n (pc := 3) F (ls' := [(4, ((1 : Nat) : Int)), (0, L), (0, 0), (0, 0)]) dX5_sheetsForLevel_3 (Nat.le_of_ble_eq_true rfl) rfl rfl ?_
  have L4 : ∀ (fu : Nat) (j : Nat), (7 - j < fu) → ((j : Int) ≤ σ 0) → ia_G X 0 0 4 [(4, ((1 : Nat) : Int)), (0, L), (0, (slv σ L j)), (0, (j : Int))] [] Z V := by
    intro fu
    induction fu with
    | zero => intro j hm; exact absurd hm (Nat.not_lt_zero _)
    | succ fu ih =>
      intro j hm hj
      have ih4 := ih
      refine ia_iload_n (pc := 4) F dX5_sheetsForLevel_4 rfl ?_
      refine ia_aload_n (pc := 5) F dX5_sheetsForLevel_5 rfl ?_
      refine jg (pc := 6) F (x := σ 0) (z1 hZ) cls9 f9_6 hS.f6 il_RX5_25 dX5_sheetsForLevel_6 ?_
      refine ia_icmp_ge (pc := 9) F 30 dX5_sheetsForLevel_9 rfl (by omega) (by omega) (fun h_1 => ?_) (fun h_1 => ?_)
      · refine ia_iload_n (pc := 30) F dX5_sheetsForLevel_30 rfl ?_
        refine ia_ireturn (pc := 31) F M (by decide) (by decide) dX5_sheetsForLevel_31 ?_
        rw [show (σ 0).toNat = j by omega] at q1
        exact q1
      · have r8 := se j (by omega)
        have r7 : miss σ j = run σ j - prt σ j := rfl
        refine ia_iload_n (pc := 12) F dX5_sheetsForLevel_12 rfl ?_
        refine ia_iload_n (pc := 13) F dX5_sheetsForLevel_13 rfl ?_
        refine ia_aload_n (pc := 14) F dX5_sheetsForLevel_14 rfl ?_
        refine ia_iload_n (pc := 15) F dX5_sheetsForLevel_15 rfl ?_
        refine jV (pc := 16) F 0 0 (z1 hZ) cls9.1 (c_X6_missing (j : Int) hZ hP hS hI (by omega) ?_) rfl ⟨k_X6_missing, il_RX5_28, im_X6_missing, is_X6_missing, ii_RX6⟩ 1 rfl hd_X6_missing ⟨by decide, by decide, by decide, by decide, Nat.le_of_ble_eq_true rfl⟩ dX5_sheetsForLevel_16
        change ia_ct X _ _ (16 + 3) _ _ _ (.inl (some (0, (miss σ j)))) _ _
        refine j1 ?_
        refine ia_min (pc := 19) F (by omega) (by omega) ⟨il_RX5_36, it_mmin, ii_RJ9, k_mmin⟩ ⟨by decide, Nat.le_of_ble_eq_true rfl, by decide, by decide⟩ dX5_sheetsForLevel_19 ?_
        rw [ia_minE L (miss σ j)]
        refine ia_iadd (pc := 22) F dX5_sheetsForLevel_22 ?_
        refine ia_istore_n (pc := 23) F (ls' := [(4, ((1 : Nat) : Int)), (0, L), (0, ((slv σ L j) + (min L (miss σ j)))), (0, (j : Int))]) dX5_sheetsForLevel_23 (Nat.le_of_ble_eq_true rfl) rfl rfl ?_
        refine ia_iinc (pc := 24) F (ls' := [(4, ((1 : Nat) : Int)), (0, L), (0, ((slv σ L j) + (min L (miss σ j)))), (0, ((j + 1 : Nat) : Int))]) dX5_sheetsForLevel_24 rfl rfl rfl rfl ?_
        refine ia_goto (pc := 27) F 4 dX5_sheetsForLevel_27 rfl ?_
        exact ih4 (j + 1) (by omega) (by omega)
  exact L4 8 0 (by omega) (by omega)
set_option maxRecDepth 100000 in
theorem c_X5_dealByLevel {Z : ia_Z} {V : ia_H} {Q : ia_O → ia_Z → ia_H → Prop} {σ : Nat → Int} {δ : Nat → Int} {m : Int} (hZ : ZI Z) (hP : PI V) (hS : Sh 1 V σ) (hI : SI σ m) (h86 : V 86 = δ)  (q1 : ∀ (L : Int) (V1 : ia_H), (0 ≤ L ∧ L ≤ 50) → (L = 0 ∨ slv σ L (σ 0).toNat ≤ σ 2) → (∀ M : Int, L < M → M ≤ 50 → σ 2 < slv σ M (σ 0).toNat) → PI V1 → (V1 86 = mgk (σ 0).toNat (lvv σ L (σ 2 - slv σ L (σ 0).toNat)) δ) → (∀ pp, pp ∉ ([86] : List Nat) → V1 pp = V pp) → Q (.inl none) Z V1) : ia_K yX5_dealByLevel cX5_dealByLevel 5 none [(4, ((85 : Nat) : Int)), (4, ((1 : Nat) : Int))] Z V 4 0 0 Q := by
  refine ia_start RX5 "dealByLevel" ⟨by decide, rfl, rfl⟩ (Nat.le_of_ble_eq_true rfl) (ia_tg rfl) (fun X F M => ?_)
  show ia_G X 0 0 0 [(4, ((85 : Nat) : Int)), (4, ((1 : Nat) : Int)), (9, 0), (9, 0), (9, 0)] [] Z V
  obtain ⟨s0, s1, s2, s3, s4, s5, s6, s7, s18, sb, sw, se, sp⟩ := id hI
  refine ia_bipush (pc := 0) F dX5_dealByLevel_0 (by decide) ?_
  refine ia_istore_n (pc := 2) F (ls' := [(4, ((85 : Nat) : Int)), (4, ((1 : Nat) : Int)), (0, 50), (9, 0), (9, 0)]) dX5_dealByLevel_2 (Nat.le_of_ble_eq_true rfl) rfl rfl ?_
  have L3 : ∀ (fu : Nat) (q : Nat) (x : Int) (V2 : ia_H), (50 - q < fu) → (q ≤ 50) → (x = 50 - q) → (∀ L : Int, x < L → L ≤ 50 → σ 2 < slv σ L (σ 0).toNat) → (PI V2) → (V2 86 = δ) → (∀ pp, pp ∉ ([86] : List Nat) → V2 pp = V pp) → ia_G X 0 0 3 [(4, ((85 : Nat) : Int)), (4, ((1 : Nat) : Int)), (0, x), (9, 0), (9, 0)] [] Z V2 := by
    intro fu
    induction fu with
    | zero => intro q x V2 hm; exact absurd hm (Nat.not_lt_zero _)
    | succ fu ih =>
      intro q x V2 hm hq hx hl hP2 w2_86 hF2
      have ih3 := ih
      refine ia_iload_n (pc := 3) F dX5_dealByLevel_3 rfl ?_
      refine ia_if_le (pc := 4) F 25 dX5_dealByLevel_4 rfl (by omega) (fun h_1 => ?_) (fun h_1 => ?_)
      · have r9 := slv_rng (σ := σ) (L := x) (by omega) (σ 0).toNat (fun e he => by have := se e (by omega); unfold miss; omega)
        refine ia_aload_n (pc := 25) F dX5_dealByLevel_25 rfl ?_
        refine jg (pc := 26) F (x := σ 2) (z1 hZ) cls9 f9_8 (Sh_fr hS hF2 (by decide)).f8 il_RX5_15 dX5_dealByLevel_26 ?_
        refine ia_aload_n (pc := 29) F dX5_dealByLevel_29 rfl ?_
        refine ia_iload_n (pc := 30) F dX5_dealByLevel_30 rfl ?_
        refine jS (pc := 31) F 0 0 (c_X5_sheetsForLevel x hZ hP2 (Sh_fr hS hF2 (by decide)) hI (by omega) ?_) rfl ⟨k_X5_sheetsForLevel, il_RX5_32, it_X5_sheetsForLevel, ii_RX5⟩ rfl 2 rfl hd_X5_sheetsForLevel ⟨by decide, by decide, by decide, by decide, Nat.le_of_ble_eq_true rfl⟩ dX5_dealByLevel_31
        refine j1 ?_
        refine ia_isub (pc := 34) F dX5_dealByLevel_34 ?_
        refine ia_istore_n (pc := 35) F (ls' := [(4, ((85 : Nat) : Int)), (4, ((1 : Nat) : Int)), (0, x), (0, (σ 2 - (slv σ x (σ 0).toNat))), (9, 0)]) dX5_dealByLevel_35 (Nat.le_of_ble_eq_true rfl) rfl rfl ?_
        refine ia_iconst (pc := 36) F dX5_dealByLevel_36 ?_
        refine ia_istore (pc := 37) F (ls' := [(4, ((85 : Nat) : Int)), (4, ((1 : Nat) : Int)), (0, x), (0, (σ 2 - (slv σ x (σ 0).toNat))), (0, 0)]) dX5_dealByLevel_37 (Nat.le_of_ble_eq_true rfl) rfl rfl ?_
        have L39 : ∀ (fu : Nat) (j : Nat) (y : Int) (V3 : ia_H), (7 - j < fu) → ((j : Int) ≤ σ 0) → (y = lvr σ x (σ 2 - slv σ x (σ 0).toNat) j) → (PI V3) → (V3 86 = mgk j (lvv σ x (σ 2 - slv σ x (σ 0).toNat)) δ) → (∀ pp, pp ∉ ([86] : List Nat) → V3 pp = V pp) → ia_G X 0 0 39 [(4, ((85 : Nat) : Int)), (4, ((1 : Nat) : Int)), (0, x), (0, y), (0, (j : Int))] [] Z V3 := by
          intro fu
          induction fu with
          | zero => intro j y V3 hm; exact absurd hm (Nat.not_lt_zero _)
          | succ fu ih =>
            intro j y V3 hm hj hy hP3 w3_86 hF3
            have ih39 := ih
            refine ia_iload (pc := 39) F dX5_dealByLevel_39 rfl ?_
            refine ia_aload_n (pc := 41) F dX5_dealByLevel_41 rfl ?_
            refine jg (pc := 42) F (x := σ 0) (z1 hZ) cls9 f9_6 (Sh_fr hS hF3 (by decide)).f6 il_RX5_25 dX5_dealByLevel_42 ?_
            refine ia_icmp_ge (pc := 45) F 105 dX5_dealByLevel_45 rfl (by omega) (by omega) (fun h_2 => ?_) (fun h_2 => ?_)
            · refine ia_return (pc := 105) F M (by decide) (by decide) dX5_dealByLevel_105 ?_
              exact q1 _ _ (by omega) (by omega) hl hP3 (w3_86.trans (by rw [show (σ 0).toNat = j by omega])) hF3
            · have r8 := se j (by omega)
              have r7 : miss σ j = run σ j - prt σ j := rfl
              have r6 := lvr_rng (σ := σ) (L := x) (r := σ 2 - slv σ x (σ 0).toNat) j
              rw [← hy] at r6
              refine ia_aload_n (pc := 48) F dX5_dealByLevel_48 rfl ?_
              refine jg (pc := 49) F (z85 hZ) cls8 f8_0 (hP3 85 0 86 rfl) il_RX5_9 dX5_dealByLevel_49 ?_
              refine ia_iload (pc := 52) F dX5_dealByLevel_52 rfl ?_
              refine ia_iload_n (pc := 54) F dX5_dealByLevel_54 rfl ?_
              refine ia_aload_n (pc := 55) F dX5_dealByLevel_55 rfl ?_
              refine ia_iload (pc := 56) F dX5_dealByLevel_56 rfl ?_
              refine jV (pc := 58) F 0 0 (z1 hZ) cls9.1 (c_X6_missing (j : Int) hZ hP3 (Sh_fr hS hF3 (by decide)) hI (by omega) ?_) rfl ⟨k_X6_missing, il_RX5_28, im_X6_missing, is_X6_missing, ii_RX6⟩ 1 rfl hd_X6_missing ⟨by decide, by decide, by decide, by decide, Nat.le_of_ble_eq_true rfl⟩ dX5_dealByLevel_58
              change ia_ct X _ _ (58 + 3) _ _ _ (.inl (some (0, (miss σ j)))) _ _
              refine j1 ?_
              refine ia_min (pc := 61) F (by omega) (by omega) ⟨il_RX5_36, it_mmin, ii_RJ9, k_mmin⟩ ⟨by decide, Nat.le_of_ble_eq_true rfl, by decide, by decide⟩ dX5_dealByLevel_61 ?_
              rw [ia_minE x (miss σ j)]
              refine js (pc := 64) F (z86 hZ) j rfl (by omega) dX5_dealByLevel_64 ?_
              refine ia_iload_n (pc := 65) F dX5_dealByLevel_65 rfl ?_
              refine ia_if_le (pc := 66) F 99 dX5_dealByLevel_66 rfl (by omega) (fun h_3 => ?_) (fun h_3 => ?_)
              · refine ia_iinc (pc := 99) F (ls' := [(4, ((85 : Nat) : Int)), (4, ((1 : Nat) : Int)), (0, x), (0, y), (0, ((j + 1 : Nat) : Int))]) dX5_dealByLevel_99 rfl rfl rfl rfl ?_
                refine ia_goto (pc := 102) F 39 dX5_dealByLevel_102 rfl ?_
                exact ih39 (j + 1) y _ (by omega) (by omega) (by first | (rw [lvr_1 (σ := σ) (e := j) ⟨by omega, by omega⟩, ← hy]; omega) | (rw [lvr_0 (σ := σ) (e := j) (fun g => by have := g.1; have := g.2; omega), ← hy])) (PI_u hP3 rfl) ((rowU w3_86).trans (by first | (rw [up_up, mgk_f (by rw [lvv_1 ⟨by omega, by omega⟩]; omega)]) | (rw [mgk_f (by rw [lvv_0 (fun g => by have := g.1; have := g.2; omega)])]))) (Fr_u hF3 (by decide))
              · refine ia_aload_n (pc := 69) F dX5_dealByLevel_69 rfl ?_
                refine jg (pc := 70) F (z85 hZ) cls8 f8_0 ((PI_u hP3 rfl) 85 0 86 rfl) il_RX5_9 dX5_dealByLevel_70 ?_
                refine ia_iload (pc := 73) F dX5_dealByLevel_73 rfl ?_
                refine ja (pc := 75) F (v := (min x (miss σ j))) (z86 hZ) j rfl (by omega) ((congrFun (rowU w3_86) j).trans (up_self _ _ _)) dX5_dealByLevel_75 ?_
                refine ia_aload_n (pc := 76) F dX5_dealByLevel_76 rfl ?_
                refine ia_iload (pc := 77) F dX5_dealByLevel_77 rfl ?_
                refine jV (pc := 79) F 0 0 (z1 hZ) cls9.1 (c_X6_missing (j : Int) hZ (PI_u hP3 rfl) (Sh_u (Sh_fr hS hF3 (by decide)) (by decide)) hI (by omega) ?_) rfl ⟨k_X6_missing, il_RX5_28, im_X6_missing, is_X6_missing, ii_RX6⟩ 1 rfl hd_X6_missing ⟨by decide, by decide, by decide, by decide, Nat.le_of_ble_eq_true rfl⟩ dX5_dealByLevel_79
                change ia_ct X _ _ (79 + 3) _ _ _ (.inl (some (0, (miss σ j)))) _ _
                refine j1 ?_
                refine ia_icmp_ge (pc := 82) F 99 dX5_dealByLevel_82 rfl (by omega) (by omega) (fun h_4 => ?_) (fun h_4 => ?_)
                · refine ia_iinc (pc := 99) F (ls' := [(4, ((85 : Nat) : Int)), (4, ((1 : Nat) : Int)), (0, x), (0, y), (0, ((j + 1 : Nat) : Int))]) dX5_dealByLevel_99 rfl rfl rfl rfl ?_
                  refine ia_goto (pc := 102) F 39 dX5_dealByLevel_102 rfl ?_
                  exact ih39 (j + 1) y _ (by omega) (by omega) (by first | (rw [lvr_1 (σ := σ) (e := j) ⟨by omega, by omega⟩, ← hy]; omega) | (rw [lvr_0 (σ := σ) (e := j) (fun g => by have := g.1; have := g.2; omega), ← hy])) (PI_u hP3 rfl) ((rowU w3_86).trans (by first | (rw [up_up, mgk_f (by rw [lvv_1 ⟨by omega, by omega⟩]; omega)]) | (rw [mgk_f (by rw [lvv_0 (fun g => by have := g.1; have := g.2; omega)])]))) (Fr_u hF3 (by decide))
                · refine ia_aload_n (pc := 85) F dX5_dealByLevel_85 rfl ?_
                  refine jg (pc := 86) F (z85 hZ) cls8 f8_0 ((PI_u hP3 rfl) 85 0 86 rfl) il_RX5_9 dX5_dealByLevel_86 ?_
                  refine ia_iload (pc := 89) F dX5_dealByLevel_89 rfl ?_
                  refine ia_dup2 (pc := 91) F dX5_dealByLevel_91 (Or.inl rfl) (Or.inr (Or.inr rfl)) ?_
                  refine ja (pc := 92) F (v := (min x (miss σ j))) (z86 hZ) j rfl (by omega) ((congrFun (rowU w3_86) j).trans (up_self _ _ _)) dX5_dealByLevel_92 ?_
                  refine ia_iconst (pc := 93) F dX5_dealByLevel_93 ?_
                  refine ia_iadd (pc := 94) F dX5_dealByLevel_94 ?_
                  refine js (pc := 95) F (z86 hZ) j rfl (by omega) dX5_dealByLevel_95 ?_
                  refine ia_iinc (pc := 96) F (ls' := [(4, ((85 : Nat) : Int)), (4, ((1 : Nat) : Int)), (0, x), (0, (y + (-1))), (0, (j : Int))]) dX5_dealByLevel_96 rfl rfl rfl rfl ?_
                  refine ia_iinc (pc := 99) F (ls' := [(4, ((85 : Nat) : Int)), (4, ((1 : Nat) : Int)), (0, x), (0, (y + (-1))), (0, ((j + 1 : Nat) : Int))]) dX5_dealByLevel_99 rfl rfl rfl rfl ?_
                  refine ia_goto (pc := 102) F 39 dX5_dealByLevel_102 rfl ?_
                  exact ih39 (j + 1) (y + (-1)) _ (by omega) (by omega) (by first | (rw [lvr_1 (σ := σ) (e := j) ⟨by omega, by omega⟩, ← hy]; omega) | (rw [lvr_0 (σ := σ) (e := j) (fun g => by have := g.1; have := g.2; omega), ← hy])) (PI_u (PI_u hP3 rfl) rfl) ((rowU (rowU w3_86)).trans (by first | (rw [up_up, mgk_f (by rw [lvv_1 ⟨by omega, by omega⟩]; omega)]) | (rw [mgk_f (by rw [lvv_0 (fun g => by have := g.1; have := g.2; omega)])]))) (Fr_u (Fr_u hF3 (by decide)) (by decide))
        exact L39 (7 + 1) 0 (σ 2 - (slv σ x (σ 0).toNat)) _ (by omega) (by omega) rfl hP2 (w2_86.trans mgk_0) hF2
      · have r9 := slv_rng (σ := σ) (L := x) (by omega) (σ 0).toNat (fun e he => by have := se e (by omega); unfold miss; omega)
        refine ia_aload_n (pc := 7) F dX5_dealByLevel_7 rfl ?_
        refine ia_iload_n (pc := 8) F dX5_dealByLevel_8 rfl ?_
        refine jS (pc := 9) F 0 0 (c_X5_sheetsForLevel x hZ hP2 (Sh_fr hS hF2 (by decide)) hI (by omega) ?_) rfl ⟨k_X5_sheetsForLevel, il_RX5_32, it_X5_sheetsForLevel, ii_RX5⟩ rfl 2 rfl hd_X5_sheetsForLevel ⟨by decide, by decide, by decide, by decide, Nat.le_of_ble_eq_true rfl⟩ dX5_dealByLevel_9
        refine j1 ?_
        refine ia_aload_n (pc := 12) F dX5_dealByLevel_12 rfl ?_
        refine jg (pc := 13) F (x := σ 2) (z1 hZ) cls9 f9_8 (Sh_fr hS hF2 (by decide)).f8 il_RX5_15 dX5_dealByLevel_13 ?_
        refine ia_icmp_le (pc := 16) F 25 dX5_dealByLevel_16 rfl (by omega) (by omega) (fun h_5 => ?_) (fun h_5 => ?_)
        · have r9 := slv_rng (σ := σ) (L := x) (by omega) (σ 0).toNat (fun e he => by have := se e (by omega); unfold miss; omega)
          refine ia_aload_n (pc := 25) F dX5_dealByLevel_25 rfl ?_
          refine jg (pc := 26) F (x := σ 2) (z1 hZ) cls9 f9_8 (Sh_fr hS hF2 (by decide)).f8 il_RX5_15 dX5_dealByLevel_26 ?_
          refine ia_aload_n (pc := 29) F dX5_dealByLevel_29 rfl ?_
          refine ia_iload_n (pc := 30) F dX5_dealByLevel_30 rfl ?_
          refine jS (pc := 31) F 0 0 (c_X5_sheetsForLevel x hZ hP2 (Sh_fr hS hF2 (by decide)) hI (by omega) ?_) rfl ⟨k_X5_sheetsForLevel, il_RX5_32, it_X5_sheetsForLevel, ii_RX5⟩ rfl 2 rfl hd_X5_sheetsForLevel ⟨by decide, by decide, by decide, by decide, Nat.le_of_ble_eq_true rfl⟩ dX5_dealByLevel_31
          refine j1 ?_
          refine ia_isub (pc := 34) F dX5_dealByLevel_34 ?_
          refine ia_istore_n (pc := 35) F (ls' := [(4, ((85 : Nat) : Int)), (4, ((1 : Nat) : Int)), (0, x), (0, (σ 2 - (slv σ x (σ 0).toNat))), (9, 0)]) dX5_dealByLevel_35 (Nat.le_of_ble_eq_true rfl) rfl rfl ?_
          refine ia_iconst (pc := 36) F dX5_dealByLevel_36 ?_
          refine ia_istore (pc := 37) F (ls' := [(4, ((85 : Nat) : Int)), (4, ((1 : Nat) : Int)), (0, x), (0, (σ 2 - (slv σ x (σ 0).toNat))), (0, 0)]) dX5_dealByLevel_37 (Nat.le_of_ble_eq_true rfl) rfl rfl ?_
          have L39 : ∀ (fu : Nat) (j : Nat) (y : Int) (V3 : ia_H), (7 - j < fu) → ((j : Int) ≤ σ 0) → (y = lvr σ x (σ 2 - slv σ x (σ 0).toNat) j) → (PI V3) → (V3 86 = mgk j (lvv σ x (σ 2 - slv σ x (σ 0).toNat)) δ) → (∀ pp, pp ∉ ([86] : List Nat) → V3 pp = V pp) → ia_G X 0 0 39 [(4, ((85 : Nat) : Int)), (4, ((1 : Nat) : Int)), (0, x), (0, y), (0, (j : Int))] [] Z V3 := by
            intro fu
            induction fu with
            | zero => intro j y V3 hm; exact absurd hm (Nat.not_lt_zero _)
            | succ fu ih =>
              intro j y V3 hm hj hy hP3 w3_86 hF3
              have ih39 := ih
              refine ia_iload (pc := 39) F dX5_dealByLevel_39 rfl ?_
              refine ia_aload_n (pc := 41) F dX5_dealByLevel_41 rfl ?_
              refine jg (pc := 42) F (x := σ 0) (z1 hZ) cls9 f9_6 (Sh_fr hS hF3 (by decide)).f6 il_RX5_25 dX5_dealByLevel_42 ?_
              refine ia_icmp_ge (pc := 45) F 105 dX5_dealByLevel_45 rfl (by omega) (by omega) (fun h_6 => ?_) (fun h_6 => ?_)
              · refine ia_return (pc := 105) F M (by decide) (by decide) dX5_dealByLevel_105 ?_
                exact q1 _ _ (by omega) (by omega) hl hP3 (w3_86.trans (by rw [show (σ 0).toNat = j by omega])) hF3
              · have r8 := se j (by omega)
                have r7 : miss σ j = run σ j - prt σ j := rfl
                have r6 := lvr_rng (σ := σ) (L := x) (r := σ 2 - slv σ x (σ 0).toNat) j
                rw [← hy] at r6
                refine ia_aload_n (pc := 48) F dX5_dealByLevel_48 rfl ?_
                refine jg (pc := 49) F (z85 hZ) cls8 f8_0 (hP3 85 0 86 rfl) il_RX5_9 dX5_dealByLevel_49 ?_
                refine ia_iload (pc := 52) F dX5_dealByLevel_52 rfl ?_
                refine ia_iload_n (pc := 54) F dX5_dealByLevel_54 rfl ?_
                refine ia_aload_n (pc := 55) F dX5_dealByLevel_55 rfl ?_
                refine ia_iload (pc := 56) F dX5_dealByLevel_56 rfl ?_
                refine jV (pc := 58) F 0 0 (z1 hZ) cls9.1 (c_X6_missing (j : Int) hZ hP3 (Sh_fr hS hF3 (by decide)) hI (by omega) ?_) rfl ⟨k_X6_missing, il_RX5_28, im_X6_missing, is_X6_missing, ii_RX6⟩ 1 rfl hd_X6_missing ⟨by decide, by decide, by decide, by decide, Nat.le_of_ble_eq_true rfl⟩ dX5_dealByLevel_58
                change ia_ct X _ _ (58 + 3) _ _ _ (.inl (some (0, (miss σ j)))) _ _
                refine j1 ?_
                refine ia_min (pc := 61) F (by omega) (by omega) ⟨il_RX5_36, it_mmin, ii_RJ9, k_mmin⟩ ⟨by decide, Nat.le_of_ble_eq_true rfl, by decide, by decide⟩ dX5_dealByLevel_61 ?_
                rw [ia_minE x (miss σ j)]
                refine js (pc := 64) F (z86 hZ) j rfl (by omega) dX5_dealByLevel_64 ?_
                refine ia_iload_n (pc := 65) F dX5_dealByLevel_65 rfl ?_
                refine ia_if_le (pc := 66) F 99 dX5_dealByLevel_66 rfl (by omega) (fun h_7 => ?_) (fun h_7 => ?_)
                · refine ia_iinc (pc := 99) F (ls' := [(4, ((85 : Nat) : Int)), (4, ((1 : Nat) : Int)), (0, x), (0, y), (0, ((j + 1 : Nat) : Int))]) dX5_dealByLevel_99 rfl rfl rfl rfl ?_
                  refine ia_goto (pc := 102) F 39 dX5_dealByLevel_102 rfl ?_
                  exact ih39 (j + 1) y _ (by omega) (by omega) (by first | (rw [lvr_1 (σ := σ) (e := j) ⟨by omega, by omega⟩, ← hy]; omega) | (rw [lvr_0 (σ := σ) (e := j) (fun g => by have := g.1; have := g.2; omega), ← hy])) (PI_u hP3 rfl) ((rowU w3_86).trans (by first | (rw [up_up, mgk_f (by rw [lvv_1 ⟨by omega, by omega⟩]; omega)]) | (rw [mgk_f (by rw [lvv_0 (fun g => by have := g.1; have := g.2; omega)])]))) (Fr_u hF3 (by decide))
                · refine ia_aload_n (pc := 69) F dX5_dealByLevel_69 rfl ?_
                  refine jg (pc := 70) F (z85 hZ) cls8 f8_0 ((PI_u hP3 rfl) 85 0 86 rfl) il_RX5_9 dX5_dealByLevel_70 ?_
                  refine ia_iload (pc := 73) F dX5_dealByLevel_73 rfl ?_
                  refine ja (pc := 75) F (v := (min x (miss σ j))) (z86 hZ) j rfl (by omega) ((congrFun (rowU w3_86) j).trans (up_self _ _ _)) dX5_dealByLevel_75 ?_
                  refine ia_aload_n (pc := 76) F dX5_dealByLevel_76 rfl ?_
                  refine ia_iload (pc := 77) F dX5_dealByLevel_77 rfl ?_
                  refine jV (pc := 79) F 0 0 (z1 hZ) cls9.1 (c_X6_missing (j : Int) hZ (PI_u hP3 rfl) (Sh_u (Sh_fr hS hF3 (by decide)) (by decide)) hI (by omega) ?_) rfl ⟨k_X6_missing, il_RX5_28, im_X6_missing, is_X6_missing, ii_RX6⟩ 1 rfl hd_X6_missing ⟨by decide, by decide, by decide, by decide, Nat.le_of_ble_eq_true rfl⟩ dX5_dealByLevel_79
                  change ia_ct X _ _ (79 + 3) _ _ _ (.inl (some (0, (miss σ j)))) _ _
                  refine j1 ?_
                  refine ia_icmp_ge (pc := 82) F 99 dX5_dealByLevel_82 rfl (by omega) (by omega) (fun h_8 => ?_) (fun h_8 => ?_)
                  · refine ia_iinc (pc := 99) F (ls' := [(4, ((85 : Nat) : Int)), (4, ((1 : Nat) : Int)), (0, x), (0, y), (0, ((j + 1 : Nat) : Int))]) dX5_dealByLevel_99 rfl rfl rfl rfl ?_
                    refine ia_goto (pc := 102) F 39 dX5_dealByLevel_102 rfl ?_
                    exact ih39 (j + 1) y _ (by omega) (by omega) (by first | (rw [lvr_1 (σ := σ) (e := j) ⟨by omega, by omega⟩, ← hy]; omega) | (rw [lvr_0 (σ := σ) (e := j) (fun g => by have := g.1; have := g.2; omega), ← hy])) (PI_u hP3 rfl) ((rowU w3_86).trans (by first | (rw [up_up, mgk_f (by rw [lvv_1 ⟨by omega, by omega⟩]; omega)]) | (rw [mgk_f (by rw [lvv_0 (fun g => by have := g.1; have := g.2; omega)])]))) (Fr_u hF3 (by decide))
                  · refine ia_aload_n (pc := 85) F dX5_dealByLevel_85 rfl ?_
                    refine jg (pc := 86) F (z85 hZ) cls8 f8_0 ((PI_u hP3 rfl) 85 0 86 rfl) il_RX5_9 dX5_dealByLevel_86 ?_
                    refine ia_iload (pc := 89) F dX5_dealByLevel_89 rfl ?_
                    refine ia_dup2 (pc := 91) F dX5_dealByLevel_91 (Or.inl rfl) (Or.inr (Or.inr rfl)) ?_
                    refine ja (pc := 92) F (v := (min x (miss σ j))) (z86 hZ) j rfl (by omega) ((congrFun (rowU w3_86) j).trans (up_self _ _ _)) dX5_dealByLevel_92 ?_
                    refine ia_iconst (pc := 93) F dX5_dealByLevel_93 ?_
                    refine ia_iadd (pc := 94) F dX5_dealByLevel_94 ?_
                    refine js (pc := 95) F (z86 hZ) j rfl (by omega) dX5_dealByLevel_95 ?_
                    refine ia_iinc (pc := 96) F (ls' := [(4, ((85 : Nat) : Int)), (4, ((1 : Nat) : Int)), (0, x), (0, (y + (-1))), (0, (j : Int))]) dX5_dealByLevel_96 rfl rfl rfl rfl ?_
                    refine ia_iinc (pc := 99) F (ls' := [(4, ((85 : Nat) : Int)), (4, ((1 : Nat) : Int)), (0, x), (0, (y + (-1))), (0, ((j + 1 : Nat) : Int))]) dX5_dealByLevel_99 rfl rfl rfl rfl ?_
                    refine ia_goto (pc := 102) F 39 dX5_dealByLevel_102 rfl ?_
                    exact ih39 (j + 1) (y + (-1)) _ (by omega) (by omega) (by first | (rw [lvr_1 (σ := σ) (e := j) ⟨by omega, by omega⟩, ← hy]; omega) | (rw [lvr_0 (σ := σ) (e := j) (fun g => by have := g.1; have := g.2; omega), ← hy])) (PI_u (PI_u hP3 rfl) rfl) ((rowU (rowU w3_86)).trans (by first | (rw [up_up, mgk_f (by rw [lvv_1 ⟨by omega, by omega⟩]; omega)]) | (rw [mgk_f (by rw [lvv_0 (fun g => by have := g.1; have := g.2; omega)])]))) (Fr_u (Fr_u hF3 (by decide)) (by decide))
          exact L39 (7 + 1) 0 (σ 2 - (slv σ x (σ 0).toNat)) _ (by omega) (by omega) rfl hP2 (w2_86.trans mgk_0) hF2
        · refine ia_iinc (pc := 19) F (ls' := [(4, ((85 : Nat) : Int)), (4, ((1 : Nat) : Int)), (0, (x + (-1))), (9, 0), (9, 0)]) dX5_dealByLevel_19 rfl rfl rfl rfl ?_
          refine ia_goto (pc := 22) F 3 dX5_dealByLevel_22 rfl ?_
          exact ih3 (q + 1) (x + (-1)) _ (by omega) (by omega) (by omega) (fun L h1 h2 => by rcases Int.lt_or_le x L with g | g; exact hl L g h2; rw [show L = x by omega]; omega) hP2 w2_86 hF2
  exact L3 (50 + 1) 0 _ _ (by omega) (by omega) (by omega) (fun L h1 h2 => by omega) hP h86 (Fr_0 (V := V) (S := [86]))
set_option maxRecDepth 100000 in
theorem c_X4_lengthen {Z : ia_Z} {V : ia_H} {Q : ia_O → ia_Z → ia_H → Prop} {ξ1 : Nat → Int} {ξ2 : Nat → Int} (o e : Nat) (hZ : ZI Z) (hP : PI V) (h88 : V 88 = ξ1) (h89 : V 89 = ξ2) (ho : o < 12 ∧ e < 12) (hr : (-1000 ≤ ξ1 o ∧ ξ1 o ≤ 1000) ∧ -1000 ≤ ξ1 e ∧ ξ1 e ≤ 1000) (q1 : ∀ (V1 : ia_H), (ξ1 e < ξ1 o + 1) → PI V1 → (V1 88 = up ξ1 e (ξ1 o + 1)) → (V1 89 = up ξ2 e (ξ2 o)) → (∀ pp, pp ∉ ([88, 89] : List Nat) → V1 pp = V pp) → Q (.inl none) Z V1) (q2 : ∀ (V1 : ia_H), (ξ1 o + 1 = ξ1 e) → PI V1 → (V1 88 = ξ1) → (V1 89 = up ξ2 e (ξ2 e + ξ2 o)) → (∀ pp, pp ∉ ([88, 89] : List Nat) → V1 pp = V pp) → Q (.inl none) Z V1) (q3 : (ξ1 o + 1 < ξ1 e) → Q (.inl none) Z V) : ia_K yX4_lengthen cX4_lengthen 4 none [(4, ((87 : Nat) : Int)), (0, (o : Int)), (0, (e : Int))] Z V 1 0 0 Q := by
  refine ia_start RX4 "lengthen" ⟨by decide, rfl, rfl⟩ (Nat.le_of_ble_eq_true rfl) (ia_tg rfl) (fun X F M => ?_)
  show ia_G X 0 0 0 [(4, ((87 : Nat) : Int)), (0, (o : Int)), (0, (e : Int)), (9, 0)] [] Z V
  refine ia_aload_n (pc := 0) F dX4_lengthen_0 rfl ?_
  refine jg (pc := 1) F (z87 hZ) cls7 f7_0 (hP 87 0 88 rfl) il_RX4_9 dX4_lengthen_1 ?_
  refine ia_iload_n (pc := 4) F dX4_lengthen_4 rfl ?_
  refine ja (pc := 5) F (v := ξ1 o) (z88 hZ) o rfl (by omega) (congrFun h88 o) dX4_lengthen_5 ?_
  refine ia_iconst (pc := 6) F dX4_lengthen_6 ?_
  refine ia_iadd (pc := 7) F dX4_lengthen_7 ?_
  refine ia_istore_n (pc := 8) F (ls' := [(4, ((87 : Nat) : Int)), (0, (o : Int)), (0, (e : Int)), (0, (ξ1 o + 1))]) dX4_lengthen_8 (Nat.le_of_ble_eq_true rfl) rfl rfl ?_
  refine ia_iload_n (pc := 9) F dX4_lengthen_9 rfl ?_
  refine ia_aload_n (pc := 10) F dX4_lengthen_10 rfl ?_
  refine jg (pc := 11) F (z87 hZ) cls7 f7_0 (hP 87 0 88 rfl) il_RX4_9 dX4_lengthen_11 ?_
  refine ia_iload_n (pc := 14) F dX4_lengthen_14 rfl ?_
  refine ja (pc := 15) F (v := ξ1 e) (z88 hZ) e rfl (by omega) (congrFun h88 e) dX4_lengthen_15 ?_
  refine ia_icmp_le (pc := 16) F 41 dX4_lengthen_16 rfl (by omega) (by omega) (fun h_1 => ?_) (fun h_1 => ?_)
  · refine ia_iload_n (pc := 41) F dX4_lengthen_41 rfl ?_
    refine ia_aload_n (pc := 42) F dX4_lengthen_42 rfl ?_
    refine jg (pc := 43) F (z87 hZ) cls7 f7_0 (hP 87 0 88 rfl) il_RX4_9 dX4_lengthen_43 ?_
    refine ia_iload_n (pc := 46) F dX4_lengthen_46 rfl ?_
    refine ja (pc := 47) F (v := ξ1 e) (z88 hZ) e rfl (by omega) (congrFun h88 e) dX4_lengthen_47 ?_
    refine ia_icmp_ne (pc := 48) F 66 dX4_lengthen_48 rfl (by omega) (by omega) (fun h_2 => ?_) (fun h_2 => ?_)
    · refine ia_return (pc := 66) F M (by decide) (by decide) dX4_lengthen_66 ?_
      exact q3 (by omega)
    · refine ia_aload_n (pc := 51) F dX4_lengthen_51 rfl ?_
      refine jg (pc := 52) F (z87 hZ) cls7 f7_1 (hP 87 1 89 rfl) il_RX4_15 dX4_lengthen_52 ?_
      refine ia_iload_n (pc := 55) F dX4_lengthen_55 rfl ?_
      refine ia_dup2 (pc := 56) F dX4_lengthen_56 (Or.inl rfl) (Or.inr (Or.inr rfl)) ?_
      refine ja (pc := 57) F (v := ξ2 e) (z89 hZ) e rfl (by omega) (congrFun h89 e) dX4_lengthen_57 ?_
      refine ia_aload_n (pc := 58) F dX4_lengthen_58 rfl ?_
      refine jg (pc := 59) F (z87 hZ) cls7 f7_1 (hP 87 1 89 rfl) il_RX4_15 dX4_lengthen_59 ?_
      refine ia_iload_n (pc := 62) F dX4_lengthen_62 rfl ?_
      refine ja (pc := 63) F (v := ξ2 o) (z89 hZ) o rfl (by omega) (congrFun h89 o) dX4_lengthen_63 ?_
      refine ia_iadd (pc := 64) F dX4_lengthen_64 ?_
      refine js (pc := 65) F (z89 hZ) e rfl (by omega) dX4_lengthen_65 ?_
      refine ia_return (pc := 66) F M (by decide) (by decide) dX4_lengthen_66 ?_
      exact q2 _ (by omega) (PI_u hP rfl) ((rowN (by decide)).trans h88) (rowU h89) (Fr_u (Fr_0 (V := V) (S := [88, 89])) (by decide))
  · refine ia_aload_n (pc := 19) F dX4_lengthen_19 rfl ?_
    refine jg (pc := 20) F (z87 hZ) cls7 f7_0 (hP 87 0 88 rfl) il_RX4_9 dX4_lengthen_20 ?_
    refine ia_iload_n (pc := 23) F dX4_lengthen_23 rfl ?_
    refine ia_iload_n (pc := 24) F dX4_lengthen_24 rfl ?_
    refine js (pc := 25) F (z88 hZ) e rfl (by omega) dX4_lengthen_25 ?_
    refine ia_aload_n (pc := 26) F dX4_lengthen_26 rfl ?_
    refine jg (pc := 27) F (z87 hZ) cls7 f7_1 ((PI_u hP rfl) 87 1 89 rfl) il_RX4_15 dX4_lengthen_27 ?_
    refine ia_iload_n (pc := 30) F dX4_lengthen_30 rfl ?_
    refine ia_aload_n (pc := 31) F dX4_lengthen_31 rfl ?_
    refine jg (pc := 32) F (z87 hZ) cls7 f7_1 ((PI_u hP rfl) 87 1 89 rfl) il_RX4_15 dX4_lengthen_32 ?_
    refine ia_iload_n (pc := 35) F dX4_lengthen_35 rfl ?_
    refine ja (pc := 36) F (v := ξ2 o) (z89 hZ) o rfl (by omega) (congrFun ((rowN (by decide)).trans h89) o) dX4_lengthen_36 ?_
    refine js (pc := 37) F (z89 hZ) e rfl (by omega) dX4_lengthen_37 ?_
    refine ia_goto (pc := 38) F 66 dX4_lengthen_38 rfl ?_
    refine ia_return (pc := 66) F M (by decide) (by decide) dX4_lengthen_66 ?_
    exact q1 _ (by omega) (PI_u (PI_u hP rfl) rfl) ((rowN (by decide)).trans (rowU h88)) (rowU ((rowN (by decide)).trans h89)) (Fr_u (Fr_u (Fr_0 (V := V) (S := [88, 89])) (by decide)) (by decide))
set_option maxRecDepth 100000 in
theorem c_X4_findRisesTo {Z : ia_Z} {V : ia_H} {Q : ia_O → ia_Z → ia_H → Prop} {σ : Nat → Int} {ξ1 : Nat → Int} {ξ2 : Nat → Int} {m : Int} (e : Nat) (hZ : ZI Z) (hP : PI V) (hS : Sh 1 V σ) (hI : SI σ m) (h88 : V 88 = ξ1) (h89 : V 89 = ξ2) (he : (e : Int) < σ 1) (hr : ∀ j : Nat, j < e → 1 ≤ ξ1 j ∧ ξ1 j ≤ (j : Int) + 1) (q1 : ∀ (V1 : ia_H), PI V1 → (V1 88 = up ξ1 e (rin σ ξ1 ξ2 e e).1) → (V1 89 = up ξ2 e (rin σ ξ1 ξ2 e e).2) → (∀ pp, pp ∉ ([88, 89] : List Nat) → V1 pp = V pp) → Q (.inl none) Z V1) : ia_K yX4_findRisesTo cX4_findRisesTo 4 none [(4, ((87 : Nat) : Int)), (4, ((1 : Nat) : Int)), (0, (e : Int))] Z V 2 0 0 Q := by
  refine ia_start RX4 "findRisesTo" ⟨by decide, rfl, rfl⟩ (Nat.le_of_ble_eq_true rfl) (ia_tg rfl) (fun X F M => ?_)
  show ia_G X 0 0 0 [(4, ((87 : Nat) : Int)), (4, ((1 : Nat) : Int)), (0, (e : Int)), (9, 0)] [] Z V
  obtain ⟨s0, s1, s2, s3, s4, s5, s6, s7, s18, sb, sw, se, sp⟩ := id hI
  refine ia_aload_n (pc := 0) F dX4_findRisesTo_0 rfl ?_
  refine jg (pc := 1) F (z87 hZ) cls7 f7_0 (hP 87 0 88 rfl) il_RX4_9 dX4_findRisesTo_1 ?_
  refine ia_iload_n (pc := 4) F dX4_findRisesTo_4 rfl ?_
  refine ia_iconst (pc := 5) F dX4_findRisesTo_5 ?_
  refine js (pc := 6) F (z88 hZ) e rfl (by omega) dX4_findRisesTo_6 ?_
  refine ia_aload_n (pc := 7) F dX4_findRisesTo_7 rfl ?_
  refine jg (pc := 8) F (z87 hZ) cls7 f7_1 ((PI_u hP rfl) 87 1 89 rfl) il_RX4_15 dX4_findRisesTo_8 ?_
  refine ia_iload_n (pc := 11) F dX4_findRisesTo_11 rfl ?_
  refine ia_iconst (pc := 12) F dX4_findRisesTo_12 ?_
  refine js (pc := 13) F (z89 hZ) e rfl (by omega) dX4_findRisesTo_13 ?_
  refine ia_iconst (pc := 14) F dX4_findRisesTo_14 ?_
  refine ia_istore_n (pc := 15) F (ls' := [(4, ((87 : Nat) : Int)), (4, ((1 : Nat) : Int)), (0, (e : Int)), (0, 0)]) dX4_findRisesTo_15 (Nat.le_of_ble_eq_true rfl) rfl rfl ?_
  have L16 : ∀ (fu : Nat) (o : Nat) (x y : Int) (V2 : ia_H), (e - o < fu) → (o ≤ e) → (x = (rin σ ξ1 ξ2 e o).1) → (y = (rin σ ξ1 ξ2 e o).2) → (PI V2) → (V2 88 = up ξ1 e x) → (V2 89 = up ξ2 e y) → (∀ pp, pp ∉ ([88, 89] : List Nat) → V2 pp = V pp) → ia_G X 0 0 16 [(4, ((87 : Nat) : Int)), (4, ((1 : Nat) : Int)), (0, (e : Int)), (0, (o : Int))] [] Z V2 := by
    intro fu
    induction fu with
    | zero => intro o x y V2 hm; exact absurd hm (Nat.not_lt_zero _)
    | succ fu ih =>
      intro o x y V2 hm ho hx hy hP2 w2_88 w2_89 hF2
      have ih16 := ih
      refine ia_iload_n (pc := 16) F dX4_findRisesTo_16 rfl ?_
      refine ia_iload_n (pc := 17) F dX4_findRisesTo_17 rfl ?_
      refine ia_icmp_ge (pc := 18) F 48 dX4_findRisesTo_18 rfl (by omega) (by omega) (fun h_1 => ?_) (fun h_1 => ?_)
      · refine ia_return (pc := 48) F M (by decide) (by decide) dX4_findRisesTo_48 ?_
        have ek : o = e := by omega
        rw [ek] at hx hy
        rw [← hx, ← hy] at q1
        exact q1 _ hP2 w2_88 w2_89 hF2
      · have r9 := rin_rng (σ := σ) (L := ξ1) (C := ξ2) (k := e) hr o (by omega)
        rw [← hx] at r9
        have r8 := hr o (by omega)
        have r7 := sp o (by omega)
        have r6 := sp e (by omega)
        have e1 : up ξ1 e x e = x := up_self _ _ _
        have e2 : up ξ1 e x o = ξ1 o := up_ne (by omega)
        have e3 : up ξ2 e y e = y := up_self _ _ _
        have e4 : up ξ2 e y o = ξ2 o := up_ne (by omega)
        refine ia_aload_n (pc := 21) F dX4_findRisesTo_21 rfl ?_
        refine jg (pc := 22) F (z1 hZ) cls9 f9_4 (hP2 1 4 6 rfl) il_RX4_37 dX4_findRisesTo_22 ?_
        refine ia_iload_n (pc := 25) F dX4_findRisesTo_25 rfl ?_
        have r_2 := sp o (by omega)
        refine ja (pc := 26) F (v := mrk σ o) (z6 hZ) o rfl (by omega) ((Sh_fr hS hF2 (by decide)).mrk o (by omega)) dX4_findRisesTo_26 ?_
        refine ia_aload_n (pc := 27) F dX4_findRisesTo_27 rfl ?_
        refine jg (pc := 28) F (z1 hZ) cls9 f9_4 (hP2 1 4 6 rfl) il_RX4_37 dX4_findRisesTo_28 ?_
        refine ia_iload_n (pc := 31) F dX4_findRisesTo_31 rfl ?_
        have r_3 := sp e (by omega)
        refine ja (pc := 32) F (v := mrk σ e) (z6 hZ) e rfl (by omega) ((Sh_fr hS hF2 (by decide)).mrk e (by omega)) dX4_findRisesTo_32 ?_
        refine ia_icmp_ge (pc := 33) F 42 dX4_findRisesTo_33 rfl (by omega) (by omega) (fun h_4 => ?_) (fun h_4 => ?_)
        · refine ia_iinc (pc := 42) F (ls' := [(4, ((87 : Nat) : Int)), (4, ((1 : Nat) : Int)), (0, (e : Int)), (0, ((o + 1 : Nat) : Int))]) dX4_findRisesTo_42 rfl rfl rfl rfl ?_
          refine ia_goto (pc := 45) F 16 dX4_findRisesTo_45 rfl ?_
          exact ih16 (o + 1) x y _ (by omega) (by omega) (by rw [rin_skip (by omega)]; exact hx) (by rw [rin_skip (by omega)]; exact hy) hP2 w2_88 w2_89 hF2
        · refine ia_aload_n (pc := 36) F dX4_findRisesTo_36 rfl ?_
          refine ia_iload_n (pc := 37) F dX4_findRisesTo_37 rfl ?_
          refine ia_iload_n (pc := 38) F dX4_findRisesTo_38 rfl ?_
          refine jV (pc := 39) F 0 0 (z87 hZ) cls7.1 (c_X4_lengthen o e hZ hP2 w2_88 w2_89 (by omega) (by omega) (fun V_5 h_6 p_7 w_8 w_9 f_10 => ?_) (fun V_11 h_12 p_13 w_14 w_15 f_16 => ?_) (fun h_17 => ?_)) rfl ⟨k_X4_lengthen, il_RX4_40, im_X4_lengthen, is_X4_lengthen, ii_RX4⟩ 2 rfl hd_X4_lengthen ⟨by decide, by decide, by decide, by decide, Nat.le_of_ble_eq_true rfl⟩ dX4_findRisesTo_39
          · refine j0 ?_
            refine ia_iinc (pc := 42) F (ls' := [(4, ((87 : Nat) : Int)), (4, ((1 : Nat) : Int)), (0, (e : Int)), (0, ((o + 1 : Nat) : Int))]) dX4_findRisesTo_42 rfl rfl rfl rfl ?_
            refine ia_goto (pc := 45) F 16 dX4_findRisesTo_45 rfl ?_
            exact ih16 (o + 1) (ξ1 o + 1) (ξ2 o) _ (by omega) (by omega) (by rw [rin_gt (by omega) (by omega)]) (by rw [rin_gt (by omega) (by omega)]) p_7 (w_8.trans (by rw [up_up, e2])) (w_9.trans (by rw [up_up, e4])) (Fr_c hF2 f_10 (by decide))
          · refine j0 ?_
            refine ia_iinc (pc := 42) F (ls' := [(4, ((87 : Nat) : Int)), (4, ((1 : Nat) : Int)), (0, (e : Int)), (0, ((o + 1 : Nat) : Int))]) dX4_findRisesTo_42 rfl rfl rfl rfl ?_
            refine ia_goto (pc := 45) F 16 dX4_findRisesTo_45 rfl ?_
            exact ih16 (o + 1) x (y + ξ2 o) _ (by omega) (by omega) (by rw [rin_eq (by omega) (by omega)]; omega) (by rw [rin_eq (by omega) (by omega), ← hy]) p_13 w_14 (w_15.trans (by rw [up_up, e3, e4])) (Fr_c hF2 f_16 (by decide))
          · refine j0 ?_
            refine ia_iinc (pc := 42) F (ls' := [(4, ((87 : Nat) : Int)), (4, ((1 : Nat) : Int)), (0, (e : Int)), (0, ((o + 1 : Nat) : Int))]) dX4_findRisesTo_42 rfl rfl rfl rfl ?_
            refine ia_goto (pc := 45) F 16 dX4_findRisesTo_45 rfl ?_
            exact ih16 (o + 1) x y _ (by omega) (by omega) (by rw [rin_skip (by omega)]; exact hx) (by rw [rin_skip (by omega)]; exact hy) hP2 w2_88 w2_89 hF2
  exact L16 (e + 1) 0 1 1 _ (by omega) (by omega) rfl rfl (PI_u (PI_u hP rfl) rfl) ((rowN (by decide)).trans (rowU h88)) (rowU ((rowN (by decide)).trans h89)) (Fr_u (Fr_u (Fr_0 (V := V) (S := [88, 89])) (by decide)) (by decide))
set_option maxRecDepth 100000 in
theorem c_X4_longest {Z : ia_Z} {V : ia_H} {Q : ia_O → ia_Z → ia_H → Prop} {σ : Nat → Int} {ξ1 : Nat → Int} {ξ2 : Nat → Int} {m : Int} (hZ : ZI Z) (hP : PI V) (hS : Sh 1 V σ) (hI : SI σ m) (h88 : V 88 = ξ1) (h89 : V 89 = ξ2)  (q1 : ∀ (V1 : ia_H), PI V1 → (V1 88 = mgk (σ 1).toNat (rtb σ (σ 1).toNat).1 ξ1) → (V1 89 = mgk (σ 1).toNat (rtb σ (σ 1).toNat).2 ξ2) → (∀ pp, pp ∉ ([88, 89] : List Nat) → V1 pp = V pp) → Q (.inl (some (0, (rmx σ (σ 1).toNat)))) Z V1) : ia_K yX4_longest cX4_longest 4 (some .int) [(4, ((87 : Nat) : Int)), (4, ((1 : Nat) : Int))] Z V 3 0 0 Q := by
  refine ia_start RX4 "longest" ⟨by decide, rfl, rfl⟩ (Nat.le_of_ble_eq_true rfl) (ia_tg rfl) (fun X F M => ?_)
  show ia_G X 0 0 0 [(4, ((87 : Nat) : Int)), (4, ((1 : Nat) : Int)), (9, 0), (9, 0)] [] Z V
  obtain ⟨s0, s1, s2, s3, s4, s5, s6, s7, s18, sb, sw, se, sp⟩ := id hI
  refine ia_iconst (pc := 0) F dX4_longest_0 ?_
  refine ia_istore_n (pc := 1) F (ls' := [(4, ((87 : Nat) : Int)), (4, ((1 : Nat) : Int)), (0, 0), (9, 0)]) dX4_longest_1 (Nat.le_of_ble_eq_true rfl) rfl rfl ?_
  refine ia_iconst (pc := 2) F dX4_longest_2 ?_
  refine ia_istore_n (pc := 3) F (ls' := [(4, ((87 : Nat) : Int)), (4, ((1 : Nat) : Int)), (0, 0), (0, 0)]) dX4_longest_3 (Nat.le_of_ble_eq_true rfl) rfl rfl ?_
  have L4 : ∀ (fu : Nat) (j : Nat) (a : Int) (V2 : ia_H), (12 - j < fu) → ((j : Int) ≤ σ 1) → (a = rmx σ j) → (PI V2) → (V2 88 = mgk j (rtb σ j).1 ξ1) → (V2 89 = mgk j (rtb σ j).2 ξ2) → (∀ pp, pp ∉ ([88, 89] : List Nat) → V2 pp = V pp) → ia_G X 0 0 4 [(4, ((87 : Nat) : Int)), (4, ((1 : Nat) : Int)), (0, a), (0, (j : Int))] [] Z V2 := by
    intro fu
    induction fu with
    | zero => intro j a V2 hm; exact absurd hm (Nat.not_lt_zero _)
    | succ fu ih =>
      intro j a V2 hm hj ha hP2 w2_88 w2_89 hF2
      have ih4 := ih
      refine ia_iload_n (pc := 4) F dX4_longest_4 rfl ?_
      refine ia_aload_n (pc := 5) F dX4_longest_5 rfl ?_
      refine jg (pc := 6) F (x := σ 1) (z1 hZ) cls9 f9_7 (Sh_fr hS hF2 (by decide)).f7 il_RX4_21 dX4_longest_6 ?_
      refine ia_icmp_ge (pc := 9) F 35 dX4_longest_9 rfl (by omega) (by omega) (fun h_1 => ?_) (fun h_1 => ?_)
      · refine ia_iload_n (pc := 35) F dX4_longest_35 rfl ?_
        refine ia_ireturn (pc := 36) F M (by decide) (by decide) dX4_longest_36 ?_
        have ek : (σ 1).toNat = j := by omega
        rw [ek, ← ha] at q1
        exact q1 _ hP2 w2_88 w2_89 hF2
      · have r9 := rin_rng (σ := σ) (C := (rtb σ j).2) (rtb_rng (σ := σ) j) j (Nat.le_refl _)
        rw [← rin_mg (g1 := ξ1) (g2 := ξ2)] at r9
        have r8 := rmx_rng (σ := σ) j
        rw [← ha] at r8
        refine ia_aload_n (pc := 12) F dX4_longest_12 rfl ?_
        refine ia_aload_n (pc := 13) F dX4_longest_13 rfl ?_
        refine ia_iload_n (pc := 14) F dX4_longest_14 rfl ?_
        refine jV (pc := 15) F 0 0 (z87 hZ) cls7.1 (c_X4_findRisesTo j hZ hP2 (Sh_fr hS hF2 (by decide)) hI w2_88 w2_89 (by omega) (fun i hi => by rw [mgk_lt hi]; exact rtb_rng (σ := σ) j i hi) (fun V_2 p_3 w_4 w_5 f_6 => ?_)) rfl ⟨k_X4_findRisesTo, il_RX4_27, im_X4_findRisesTo, is_X4_findRisesTo, ii_RX4⟩ 2 rfl hd_X4_findRisesTo ⟨by decide, by decide, by decide, by decide, Nat.le_of_ble_eq_true rfl⟩ dX4_longest_15
        refine j0 ?_
        refine ia_iload_n (pc := 18) F dX4_longest_18 rfl ?_
        refine ia_aload_n (pc := 19) F dX4_longest_19 rfl ?_
        refine jg (pc := 20) F (z87 hZ) cls7 f7_0 (p_3 87 0 88 rfl) il_RX4_9 dX4_longest_20 ?_
        refine ia_iload_n (pc := 23) F dX4_longest_23 rfl ?_
        refine ja (pc := 24) F (v := (rin σ (mgk j (rtb σ j).1 ξ1) (mgk j (rtb σ j).2 ξ2) j j).1) (z88 hZ) j rfl (by omega) ((congrFun w_4 j).trans (up_self _ _ _)) dX4_longest_24 ?_
        refine ia_max (pc := 25) F (by omega) (by omega) ⟨il_RX4_31, it_mmax, ii_RJ9, k_mmax⟩ ⟨by decide, Nat.le_of_ble_eq_true rfl, by decide, by decide⟩ dX4_longest_25 ?_
        rw [ia_maxE a ((rin σ (mgk j (rtb σ j).1 ξ1) (mgk j (rtb σ j).2 ξ2) j j).1)]
        refine ia_istore_n (pc := 28) F (ls' := [(4, ((87 : Nat) : Int)), (4, ((1 : Nat) : Int)), (0, (max a ((rin σ (mgk j (rtb σ j).1 ξ1) (mgk j (rtb σ j).2 ξ2) j j).1))), (0, (j : Int))]) dX4_longest_28 (Nat.le_of_ble_eq_true rfl) rfl rfl ?_
        refine ia_iinc (pc := 29) F (ls' := [(4, ((87 : Nat) : Int)), (4, ((1 : Nat) : Int)), (0, (max a ((rin σ (mgk j (rtb σ j).1 ξ1) (mgk j (rtb σ j).2 ξ2) j j).1))), (0, ((j + 1 : Nat) : Int))]) dX4_longest_29 rfl rfl rfl rfl ?_
        refine ia_goto (pc := 32) F 4 dX4_longest_32 rfl ?_
        exact ih4 (j + 1) (max a ((rin σ (mgk j (rtb σ j).1 ξ1) (mgk j (rtb σ j).2 ξ2) j j).1)) _ (by omega) (by omega) (by rw [rmx_s, ← ha, rin_mg, Int.max_def]; by_cases g : a < (rin σ (rtb σ j).1 (rtb σ j).2 j j).1; rw [if_pos g, if_pos (by omega)]; rw [if_neg g]; by_cases g2 : a ≤ (rin σ (rtb σ j).1 (rtb σ j).2 j j).1; rw [if_pos g2]; omega; rw [if_neg g2]) p_3 (w_4.trans (by rw [rin_mg, mgk_up, rtb_s1])) (w_5.trans (by rw [rin_mg, mgk_up, rtb_s2])) (Fr_c hF2 f_6 (by decide))
  exact L4 (12 + 1) 0 0 _ (by omega) (by omega) rfl hP (h88.trans mgk_0) (h89.trans mgk_0) (Fr_0 (V := V) (S := [88, 89]))
set_option maxRecDepth 100000 in
theorem c_X4_countLongest {Z : ia_Z} {V : ia_H} {Q : ia_O → ia_Z → ia_H → Prop} {σ : Nat → Int} {ξ1 : Nat → Int} {ξ2 : Nat → Int} {m : Int} (hZ : ZI Z) (hP : PI V) (hS : Sh 1 V σ) (hI : SI σ m) (h88 : V 88 = ξ1) (h89 : V 89 = ξ2)  (q1 : ∀ (V1 : ia_H), PI V1 → (V1 88 = mgk (σ 1).toNat (rtb σ (σ 1).toNat).1 ξ1) → (V1 89 = mgk (σ 1).toNat (rtb σ (σ 1).toNat).2 ξ2) → (∀ pp, pp ∉ ([88, 89] : List Nat) → V1 pp = V pp) → Q (.inl (some (0, (rct σ (σ 1).toNat)))) Z V1) : ia_K yX4_countLongest cX4_countLongest 5 (some .int) [(4, ((87 : Nat) : Int)), (4, ((1 : Nat) : Int))] Z V 4 0 0 Q := by
  refine ia_start RX4 "countLongest" ⟨by decide, rfl, rfl⟩ (Nat.le_of_ble_eq_true rfl) (ia_tg rfl) (fun X F M => ?_)
  show ia_G X 0 0 0 [(4, ((87 : Nat) : Int)), (4, ((1 : Nat) : Int)), (9, 0), (9, 0), (9, 0)] [] Z V
  obtain ⟨s0, s1, s2, s3, s4, s5, s6, s7, s18, sb, sw, se, sp⟩ := id hI
  refine ia_aload_n (pc := 0) F dX4_countLongest_0 rfl ?_
  refine ia_aload_n (pc := 1) F dX4_countLongest_1 rfl ?_
  refine jV (pc := 2) F 0 0 (z87 hZ) cls7.1 (c_X4_longest hZ hP hS hI h88 h89 (fun V_1 p_2 w_3 w_4 f_5 => ?_)) rfl ⟨k_X4_longest, il_RX4_44, im_X4_longest, is_X4_longest, ii_RX4⟩ 1 rfl hd_X4_longest ⟨by decide, by decide, by decide, by decide, Nat.le_of_ble_eq_true rfl⟩ dX4_countLongest_2
  refine j1 ?_
  refine ia_istore_n (pc := 5) F (ls' := [(4, ((87 : Nat) : Int)), (4, ((1 : Nat) : Int)), (0, (rmx σ (σ 1).toNat)), (9, 0), (9, 0)]) dX4_countLongest_5 (Nat.le_of_ble_eq_true rfl) rfl rfl ?_
  have r9 := rmx_rng (σ := σ) (σ 1).toNat
  refine ia_iload_n (pc := 6) F dX4_countLongest_6 rfl ?_
  refine ia_if_ne (pc := 7) F 12 dX4_countLongest_7 rfl (by omega) (fun h_6 => ?_) (fun h_6 => ?_)
  · refine ia_iconst (pc := 12) F dX4_countLongest_12 ?_
    refine ia_istore_n (pc := 13) F (ls' := [(4, ((87 : Nat) : Int)), (4, ((1 : Nat) : Int)), (0, (rmx σ (σ 1).toNat)), (0, 0), (9, 0)]) dX4_countLongest_13 (Nat.le_of_ble_eq_true rfl) rfl rfl ?_
    refine ia_iconst (pc := 14) F dX4_countLongest_14 ?_
    refine ia_istore (pc := 15) F (ls' := [(4, ((87 : Nat) : Int)), (4, ((1 : Nat) : Int)), (0, (rmx σ (σ 1).toNat)), (0, 0), (0, 0)]) dX4_countLongest_15 (Nat.le_of_ble_eq_true rfl) rfl rfl ?_
    have L17 : ∀ (fu : Nat) (j : Nat) (a : Int) (V2 : ia_H), (12 - j < fu) → ((j : Int) ≤ σ 1) → (a = psum (rcf σ (σ 1).toNat) j) → (PI V2) → (V2 88 = mgk (σ 1).toNat (rtb σ (σ 1).toNat).1 ξ1) → (V2 89 = mgk (σ 1).toNat (rtb σ (σ 1).toNat).2 ξ2) → (∀ pp, pp ∉ ([88, 89] : List Nat) → V2 pp = V pp) → ia_G X 0 0 17 [(4, ((87 : Nat) : Int)), (4, ((1 : Nat) : Int)), (0, (rmx σ (σ 1).toNat)), (0, a), (0, (j : Int))] [] Z V2 := by
      intro fu
      induction fu with
      | zero => intro j a V2 hm; exact absurd hm (Nat.not_lt_zero _)
      | succ fu ih =>
        intro j a V2 hm hj ha hP2 w2_88 w2_89 hF2
        have ih17 := ih
        refine ia_iload (pc := 17) F dX4_countLongest_17 rfl ?_
        refine ia_aload_n (pc := 19) F dX4_countLongest_19 rfl ?_
        refine jg (pc := 20) F (x := σ 1) (z1 hZ) cls9 f9_7 (Sh_fr hS hF2 (by decide)).f7 il_RX4_21 dX4_countLongest_20 ?_
        refine ia_icmp_ge (pc := 23) F 53 dX4_countLongest_23 rfl (by omega) (by omega) (fun h_7 => ?_) (fun h_7 => ?_)
        · refine ia_iload_n (pc := 53) F dX4_countLongest_53 rfl ?_
          refine ia_ireturn (pc := 54) F M (by decide) (by decide) dX4_countLongest_54 ?_
          have ek : (σ 1).toNat = j := by omega
          have e1 : rct σ (σ 1).toNat = a := by unfold rct; rw [if_neg (by omega), ha]; rw [ek]; omega
          rw [e1] at q1
          exact q1 _ hP2 w2_88 w2_89 hF2
        · have r8 := rtb_rng (σ := σ) (σ 1).toNat j (by omega)
          refine ia_aload_n (pc := 26) F dX4_countLongest_26 rfl ?_
          refine jg (pc := 27) F (z87 hZ) cls7 f7_0 (hP2 87 0 88 rfl) il_RX4_9 dX4_countLongest_27 ?_
          refine ia_iload (pc := 30) F dX4_countLongest_30 rfl ?_
          refine ja (pc := 32) F (v := (rtb σ (σ 1).toNat).1 j) (z88 hZ) j rfl (by omega) ((congrFun w2_88 j).trans (mgk_lt (by omega))) dX4_countLongest_32 ?_
          refine ia_iload_n (pc := 33) F dX4_countLongest_33 rfl ?_
          refine ia_icmp_ne (pc := 34) F 47 dX4_countLongest_34 rfl (by omega) (by omega) (fun h_8 => ?_) (fun h_8 => ?_)
          · refine ia_iinc (pc := 47) F (ls' := [(4, ((87 : Nat) : Int)), (4, ((1 : Nat) : Int)), (0, (rmx σ (σ 1).toNat)), (0, a), (0, ((j + 1 : Nat) : Int))]) dX4_countLongest_47 rfl rfl rfl rfl ?_
            refine ia_goto (pc := 50) F 17 dX4_countLongest_50 rfl ?_
            exact ih17 (j + 1) a _ (by omega) (by omega) (by rw [psum_s, ha]; first | (rw [rcf_1 (by omega)]) | (rw [rcf_0 (by omega)]; omega)) hP2 w2_88 w2_89 hF2
          · refine ia_iload_n (pc := 37) F dX4_countLongest_37 rfl ?_
            refine ia_aload_n (pc := 38) F dX4_countLongest_38 rfl ?_
            refine jg (pc := 39) F (z87 hZ) cls7 f7_1 (hP2 87 1 89 rfl) il_RX4_15 dX4_countLongest_39 ?_
            refine ia_iload (pc := 42) F dX4_countLongest_42 rfl ?_
            refine ja (pc := 44) F (v := (rtb σ (σ 1).toNat).2 j) (z89 hZ) j rfl (by omega) ((congrFun w2_89 j).trans (mgk_lt (by omega))) dX4_countLongest_44 ?_
            refine ia_iadd (pc := 45) F dX4_countLongest_45 ?_
            refine ia_istore_n (pc := 46) F (ls' := [(4, ((87 : Nat) : Int)), (4, ((1 : Nat) : Int)), (0, (rmx σ (σ 1).toNat)), (0, (a + (rtb σ (σ 1).toNat).2 j)), (0, (j : Int))]) dX4_countLongest_46 (Nat.le_of_ble_eq_true rfl) rfl rfl ?_
            refine ia_iinc (pc := 47) F (ls' := [(4, ((87 : Nat) : Int)), (4, ((1 : Nat) : Int)), (0, (rmx σ (σ 1).toNat)), (0, (a + (rtb σ (σ 1).toNat).2 j)), (0, ((j + 1 : Nat) : Int))]) dX4_countLongest_47 rfl rfl rfl rfl ?_
            refine ia_goto (pc := 50) F 17 dX4_countLongest_50 rfl ?_
            exact ih17 (j + 1) (a + (rtb σ (σ 1).toNat).2 j) _ (by omega) (by omega) (by rw [psum_s, ha]; first | (rw [rcf_1 (by omega)]) | (rw [rcf_0 (by omega)]; omega)) hP2 w2_88 w2_89 hF2
    exact L17 (12 + 1) 0 0 _ (by omega) (by omega) rfl p_2 w_3 w_4 (Fr_c (Fr_0 (V := V) (S := [88, 89])) f_5 (by decide))
  · refine ia_iconst (pc := 10) F dX4_countLongest_10 ?_
    refine ia_ireturn (pc := 11) F M (by decide) (by decide) dX4_countLongest_11 ?_
    have e0 := rmx_pos (σ := σ) (σ 1).toNat (by omega)
    have e1 : rct σ (σ 1).toNat = 1 := by unfold rct; rw [if_pos (by omega), e0]; rfl
    rw [e1] at q1
    exact q1 _ p_2 w_3 w_4 (Fr_c (Fr_0 (V := V) (S := [88, 89])) f_5 (by decide))
set_option maxRecDepth 100000 in
theorem c_X4_longestByEnds {Z : ia_Z} {V : ia_H} {Q : ia_O → ia_Z → ia_H → Prop} {σ : Nat → Int} {ξ3 : Nat → Int} {m : Int} (hZ : ZI Z) (hP : PI V) (hS : Sh 1 V σ) (hI : SI σ m) (h90 : V 90 = ξ3)  (q1 : ∀ (V1 : ia_H), PI V1 → (∀ pp, pp ∉ ([90] : List Nat) → V1 pp = V pp) → Q (.inl (some (0, (rmx σ (σ 1).toNat)))) Z V1) : ia_K yX4_longestByEnds cX4_longestByEnds 5 (some .int) [(4, ((87 : Nat) : Int)), (4, ((1 : Nat) : Int))] Z V 2 0 0 Q := by
  refine ia_start RX4 "longestByEnds" ⟨by decide, rfl, rfl⟩ (Nat.le_of_ble_eq_true rfl) (ia_tg rfl) (fun X F M => ?_)
  show ia_G X 0 0 0 [(4, ((87 : Nat) : Int)), (4, ((1 : Nat) : Int)), (9, 0), (9, 0), (9, 0)] [] Z V
  obtain ⟨s0, s1, s2, s3, s4, s5, s6, s7, s18, sb, sw, se, sp⟩ := id hI
  refine ia_iconst (pc := 0) F dX4_longestByEnds_0 ?_
  refine ia_istore_n (pc := 1) F (ls' := [(4, ((87 : Nat) : Int)), (4, ((1 : Nat) : Int)), (0, 0), (9, 0), (9, 0)]) dX4_longestByEnds_1 (Nat.le_of_ble_eq_true rfl) rfl rfl ?_
  refine ia_iconst (pc := 2) F dX4_longestByEnds_2 ?_
  refine ia_istore_n (pc := 3) F (ls' := [(4, ((87 : Nat) : Int)), (4, ((1 : Nat) : Int)), (0, 0), (0, 0), (9, 0)]) dX4_longestByEnds_3 (Nat.le_of_ble_eq_true rfl) rfl rfl ?_
  have L4 : ∀ (fu : Nat) (j : Nat) (a : Int) (E : Nat → Int) (V2 : ia_H), (12 - j < fu) → ((j : Int) ≤ σ 1) → (PT σ j E a) → (PI V2) → (V2 90 = E) → (∀ pp, pp ∉ ([90] : List Nat) → V2 pp = V pp) → ia_G X 0 0 4 [(4, ((87 : Nat) : Int)), (4, ((1 : Nat) : Int)), (0, a), (0, (j : Int)), (9, 0)] [] Z V2 := by
    intro fu
    induction fu with
    | zero => intro j a E V2 hm; exact absurd hm (Nat.not_lt_zero _)
    | succ fu ih =>
      intro j a E V2 hm hj ha hP2 w2_90 hF2
      have ih4 := ih
      refine ia_iload_n (pc := 4) F dX4_longestByEnds_4 rfl ?_
      refine ia_aload_n (pc := 5) F dX4_longestByEnds_5 rfl ?_
      refine jg (pc := 6) F (x := σ 1) (z1 hZ) cls9 f9_7 (Sh_fr hS hF2 (by decide)).f7 il_RX4_21 dX4_longestByEnds_6 ?_
      refine ia_icmp_ge (pc := 9) F 71 dX4_longestByEnds_9 rfl (by omega) (by omega) (fun h_1 => ?_) (fun h_1 => ?_)
      · refine ia_iload_n (pc := 71) F dX4_longestByEnds_71 rfl ?_
        refine ia_ireturn (pc := 72) F M (by decide) (by decide) dX4_longestByEnds_72 ?_
        rw [show (σ 1).toNat = j by omega, ← ha.1] at q1
        exact q1 _ hP2 hF2
      · have r9 := rmx_rng (σ := σ) j
        rw [← ha.1] at r9
        refine ia_iconst (pc := 12) F dX4_longestByEnds_12 ?_
        refine ia_istore (pc := 13) F (ls' := [(4, ((87 : Nat) : Int)), (4, ((1 : Nat) : Int)), (0, a), (0, (j : Int)), (0, 0)]) dX4_longestByEnds_13 (Nat.le_of_ble_eq_true rfl) rfl rfl ?_
        have L15 : ∀ (fu : Nat) (q : Nat) (V3 : ia_H), (12 - q < fu) → ((q : Int) ≤ a) → (∀ i : Nat, i < q → E i < mrk σ j) → (PI V3) → (V3 90 = E) → (∀ pp, pp ∉ ([90] : List Nat) → V3 pp = V pp) → ia_G X 0 0 15 [(4, ((87 : Nat) : Int)), (4, ((1 : Nat) : Int)), (0, a), (0, (j : Int)), (0, (q : Int))] [] Z V3 := by
          intro fu
          induction fu with
          | zero => intro q V3 hm; exact absurd hm (Nat.not_lt_zero _)
          | succ fu ih =>
            intro q V3 hm hq hq2 hP3 w3_90 hF3
            have ih15 := ih
            refine ia_iload (pc := 15) F dX4_longestByEnds_15 rfl ?_
            refine ia_iload_n (pc := 17) F dX4_longestByEnds_17 rfl ?_
            refine ia_icmp_ge (pc := 18) F 43 dX4_longestByEnds_18 rfl (by omega) (by omega) (fun h_2 => ?_) (fun h_2 => ?_)
            · refine ia_aload_n (pc := 43) F dX4_longestByEnds_43 rfl ?_
              refine jg (pc := 44) F (z87 hZ) cls7 f7_2 (hP3 87 2 90 rfl) il_RX4_18 dX4_longestByEnds_44 ?_
              refine ia_iload (pc := 47) F dX4_longestByEnds_47 rfl ?_
              refine ia_aload_n (pc := 49) F dX4_longestByEnds_49 rfl ?_
              refine jg (pc := 50) F (z1 hZ) cls9 f9_4 (hP3 1 4 6 rfl) il_RX4_37 dX4_longestByEnds_50 ?_
              refine ia_iload_n (pc := 53) F dX4_longestByEnds_53 rfl ?_
              have r_3 := sp j (by omega)
              refine ja (pc := 54) F (v := mrk σ j) (z6 hZ) j rfl (by omega) ((Sh_fr hS hF3 (by decide)).mrk j (by omega)) dX4_longestByEnds_54 ?_
              refine js (pc := 55) F (z90 hZ) q rfl (by omega) dX4_longestByEnds_55 ?_
              refine ia_iload_n (pc := 56) F dX4_longestByEnds_56 rfl ?_
              refine ia_iload (pc := 57) F dX4_longestByEnds_57 rfl ?_
              refine ia_iconst (pc := 59) F dX4_longestByEnds_59 ?_
              refine ia_iadd (pc := 60) F dX4_longestByEnds_60 ?_
              refine ia_max (pc := 61) F (by omega) (by omega) ⟨il_RX4_31, it_mmax, ii_RJ9, k_mmax⟩ ⟨by decide, Nat.le_of_ble_eq_true rfl, by decide, by decide⟩ dX4_longestByEnds_61 ?_
              rw [ia_maxE a ((q : Int) + 1)]
              refine ia_istore_n (pc := 64) F (ls' := [(4, ((87 : Nat) : Int)), (4, ((1 : Nat) : Int)), (0, (max a ((q : Int) + 1))), (0, (j : Int)), (0, (q : Int))]) dX4_longestByEnds_64 (Nat.le_of_ble_eq_true rfl) rfl rfl ?_
              refine ia_iinc (pc := 65) F (ls' := [(4, ((87 : Nat) : Int)), (4, ((1 : Nat) : Int)), (0, (max a ((q : Int) + 1))), (0, ((j + 1 : Nat) : Int)), (0, (q : Int))]) dX4_longestByEnds_65 rfl rfl rfl rfl ?_
              refine ia_goto (pc := 68) F 4 dX4_longestByEnds_68 rfl ?_
              refine jw (ls' := [(4, ((87 : Nat) : Int)), (4, ((1 : Nat) : Int)), (0, (max a ((q : Int) + 1))), (0, ((j + 1 : Nat) : Int)), (9, 0)]) [false, false, false, false, true] rfl ?_
              exact ih4 (j + 1) (max a ((q : Int) + 1)) (up E q (mrk σ j)) _ (by omega) (by omega) (PT_s ha (by omega) hq2 (by omega)) (PI_u hP3 rfl) (rowU w3_90) (Fr_u hF3 (by decide))
            · have rj := sp j (by omega)
              obtain ⟨i9, i8, i7, i6⟩ := ha.2.2.1 q (by omega)
              have r8 := sp i9 (by omega)
              rw [i6] at r8
              refine ia_aload_n (pc := 21) F dX4_longestByEnds_21 rfl ?_
              refine jg (pc := 22) F (z87 hZ) cls7 f7_2 (hP3 87 2 90 rfl) il_RX4_18 dX4_longestByEnds_22 ?_
              refine ia_iload (pc := 25) F dX4_longestByEnds_25 rfl ?_
              refine ja (pc := 27) F (v := E q) (z90 hZ) q rfl (by omega) (congrFun w3_90 q) dX4_longestByEnds_27 ?_
              refine ia_aload_n (pc := 28) F dX4_longestByEnds_28 rfl ?_
              refine jg (pc := 29) F (z1 hZ) cls9 f9_4 (hP3 1 4 6 rfl) il_RX4_37 dX4_longestByEnds_29 ?_
              refine ia_iload_n (pc := 32) F dX4_longestByEnds_32 rfl ?_
              have r_4 := sp j (by omega)
              refine ja (pc := 33) F (v := mrk σ j) (z6 hZ) j rfl (by omega) ((Sh_fr hS hF3 (by decide)).mrk j (by omega)) dX4_longestByEnds_33 ?_
              refine ia_icmp_ge (pc := 34) F 43 dX4_longestByEnds_34 rfl (by omega) (by omega) (fun h_5 => ?_) (fun h_5 => ?_)
              · refine ia_aload_n (pc := 43) F dX4_longestByEnds_43 rfl ?_
                refine jg (pc := 44) F (z87 hZ) cls7 f7_2 (hP3 87 2 90 rfl) il_RX4_18 dX4_longestByEnds_44 ?_
                refine ia_iload (pc := 47) F dX4_longestByEnds_47 rfl ?_
                refine ia_aload_n (pc := 49) F dX4_longestByEnds_49 rfl ?_
                refine jg (pc := 50) F (z1 hZ) cls9 f9_4 (hP3 1 4 6 rfl) il_RX4_37 dX4_longestByEnds_50 ?_
                refine ia_iload_n (pc := 53) F dX4_longestByEnds_53 rfl ?_
                refine ja (pc := 54) F (v := mrk σ j) (z6 hZ) j rfl (by omega) ((Sh_fr hS hF3 (by decide)).mrk j (by omega)) dX4_longestByEnds_54 ?_
                refine js (pc := 55) F (z90 hZ) q rfl (by omega) dX4_longestByEnds_55 ?_
                refine ia_iload_n (pc := 56) F dX4_longestByEnds_56 rfl ?_
                refine ia_iload (pc := 57) F dX4_longestByEnds_57 rfl ?_
                refine ia_iconst (pc := 59) F dX4_longestByEnds_59 ?_
                refine ia_iadd (pc := 60) F dX4_longestByEnds_60 ?_
                refine ia_max (pc := 61) F (by omega) (by omega) ⟨il_RX4_31, it_mmax, ii_RJ9, k_mmax⟩ ⟨by decide, Nat.le_of_ble_eq_true rfl, by decide, by decide⟩ dX4_longestByEnds_61 ?_
                rw [ia_maxE a ((q : Int) + 1)]
                refine ia_istore_n (pc := 64) F (ls' := [(4, ((87 : Nat) : Int)), (4, ((1 : Nat) : Int)), (0, (max a ((q : Int) + 1))), (0, (j : Int)), (0, (q : Int))]) dX4_longestByEnds_64 (Nat.le_of_ble_eq_true rfl) rfl rfl ?_
                refine ia_iinc (pc := 65) F (ls' := [(4, ((87 : Nat) : Int)), (4, ((1 : Nat) : Int)), (0, (max a ((q : Int) + 1))), (0, ((j + 1 : Nat) : Int)), (0, (q : Int))]) dX4_longestByEnds_65 rfl rfl rfl rfl ?_
                refine ia_goto (pc := 68) F 4 dX4_longestByEnds_68 rfl ?_
                refine jw (ls' := [(4, ((87 : Nat) : Int)), (4, ((1 : Nat) : Int)), (0, (max a ((q : Int) + 1))), (0, ((j + 1 : Nat) : Int)), (9, 0)]) [false, false, false, false, true] rfl ?_
                exact ih4 (j + 1) (max a ((q : Int) + 1)) (up E q (mrk σ j)) _ (by omega) (by omega) (PT_s ha (by omega) hq2 (by omega)) (PI_u hP3 rfl) (rowU w3_90) (Fr_u hF3 (by decide))
              · refine ia_iinc (pc := 37) F (ls' := [(4, ((87 : Nat) : Int)), (4, ((1 : Nat) : Int)), (0, a), (0, (j : Int)), (0, ((q + 1 : Nat) : Int))]) dX4_longestByEnds_37 rfl rfl rfl rfl ?_
                refine ia_goto (pc := 40) F 15 dX4_longestByEnds_40 rfl ?_
                exact ih15 (q + 1) _ (by omega) (by omega) (fun i hi => by rcases Nat.lt_or_ge i q with g | g; exact hq2 i g; rw [show i = q by omega]; omega) hP3 w3_90 hF3
        exact L15 (12 + 1) 0 _ (by omega) (by omega) (fun i hi => absurd hi (Nat.not_lt_zero _)) hP2 w2_90 hF2
  exact L4 (12 + 1) 0 0 ξ3 _ (by omega) (by omega) PT_0 hP h90 (Fr_0 (V := V) (S := [90]))
