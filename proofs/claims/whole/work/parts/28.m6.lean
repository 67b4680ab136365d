/-! the model: the best order laid (made by wip/whole/m1.py) -/
set_option maxRecDepth 100000 in
theorem c_X8_laysOrder {Z : ia_Z} {V : ia_H} {Q : ia_O → ia_Z → ia_H → Prop} {σ : Nat → Int} {μ : Nat → Int} {φ : Nat → Int} {ω : Nat → Int} {m : Int} (hZ : ZI Z) (hP : PI V) (hI : SI σ m) (h99 : V 99 = μ) (h100 : V 100 = σ) (h104 : V 104 = φ) (h108 : V 108 = ω)  (q1 : ∀ (f1 g : Nat → Int) (V1 : ia_H), (∀ i : Nat, i < (lin (opb σ (σ 0).toNat) (σ 0).toNat).length → g i = (((mol (col σ) (σ 4) (lin (opb σ (σ 0).toNat) (σ 0).toNat)).getD i 0 : Nat) : Int)) → PI V1 → (V1 104 = f1) → (V1 108 = g) → (∀ pp, pp ∉ ([104, 108] : List Nat) → V1 pp = V pp) → Q (.inl (some (0, (((lin (opb σ (σ 0).toNat) (σ 0).toNat).length : Nat) : Int)))) Z V1) : ia_K yX8_laysOrder cX8_laysOrder 5 (some .int) [(4, ((99 : Nat) : Int))] Z V 6 0 0 Q := by
  refine ia_start RX8 "laysOrder" ⟨by decide, rfl, rfl⟩ (Nat.le_of_ble_eq_true rfl) (ia_tg rfl) (fun X F M => ?_)
  show ia_G X 0 0 0 [(4, ((99 : Nat) : Int)), (9, 0), (9, 0), (9, 0), (9, 0)] [] Z V
  obtain ⟨s0, s1, s2, s3, s4, s5, s6, s7, s18, sb, sw, se, sp⟩ := id hI
  refine ia_aload_n (pc := 0) F dX8_laysOrder_0 rfl ?_
  refine jV (pc := 1) F 0 0 (z99 hZ) cls11.1 (c_X8_lay hZ hP hI h99 h100 h104 (fun f1_1 V_2 h_3 p_4 w_5 f_6 => ?_)) rfl ⟨k_X8_lay, il_RX8_182, im_X8_lay, is_X8_lay, ii_RX8⟩ 0 rfl hd_X8_lay ⟨by decide, by decide, by decide, by decide, Nat.le_of_ble_eq_true rfl⟩ dX8_laysOrder_1
  refine j0 ?_
  have L4 : ∀ (f1 : Nat → Int) (V9 : ia_H), (LB σ f1 (σ 0).toNat (2 ^ (σ 0).toNat)) → (PI V9) → (V9 104 = f1) → (V9 108 = ω) → (∀ pp, pp ∉ ([104, 108] : List Nat) → V9 pp = V pp) → ia_G X 0 0 4 [(4, ((99 : Nat) : Int)), (9, 0), (9, 0), (9, 0), (9, 0)] [] Z V9 := by
    intro f1 V9 hLB hP9 w9_104 w9_108 hF9
    refine ia_aload_n (pc := 4) F dX8_laysOrder_4 rfl ?_
    refine jV (pc := 5) F 0 0 (z99 hZ) cls11.1 (c_X8_open hZ hP9 hI ((hF9 99 (by decide)).trans h99) ((hF9 100 (by decide)).trans h100) ?_) rfl ⟨k_X8_open, il_RX8_185, im_X8_open, is_X8_open, ii_RX8⟩ 0 rfl hd_X8_open ⟨by decide, by decide, by decide, by decide, Nat.le_of_ble_eq_true rfl⟩ dX8_laysOrder_5
    refine j1 ?_
    refine ia_istore_n (pc := 8) F (ls' := [(4, ((99 : Nat) : Int)), (0, ((opb σ (σ 0).toNat : Nat) : Int)), (9, 0), (9, 0), (9, 0)]) dX8_laysOrder_8 (Nat.le_of_ble_eq_true rfl) rfl rfl ?_
    refine ia_bipush (pc := 9) F dX8_laysOrder_9 (by decide) ?_
    refine ia_istore_n (pc := 11) F (ls' := [(4, ((99 : Nat) : Int)), (0, ((opb σ (σ 0).toNat : Nat) : Int)), (0, 7), (9, 0), (9, 0)]) dX8_laysOrder_11 (Nat.le_of_ble_eq_true rfl) rfl rfl ?_
    refine ia_iconst (pc := 12) F dX8_laysOrder_12 ?_
    refine ia_istore_n (pc := 13) F (ls' := [(4, ((99 : Nat) : Int)), (0, ((opb σ (σ 0).toNat : Nat) : Int)), (0, 7), (0, 0), (9, 0)]) dX8_laysOrder_13 (Nat.le_of_ble_eq_true rfl) rfl rfl ?_
    have L14 : ∀ (fu : Nat) (q T l : Nat) (g : Nat → Int) (PL : List Nat) (V3 : ia_H), (T < fu) → (T < 2 ^ (σ 0).toNat) → (l = 7 ∨ (l : Int) < σ 0) → (mol (col σ) (σ 4) (lin (opb σ (σ 0).toNat) (σ 0).toNat) = PL ++ mol (col σ) (lc σ l) (lin T (σ 0).toNat)) → (PL.length = q) → (∀ i : Nat, i < q → g i = ((PL.getD i 0 : Nat) : Int)) → (q ≤ 7) → (PI V3) → (V3 104 = f1) → (V3 108 = g) → (∀ pp, pp ∉ ([104, 108] : List Nat) → V3 pp = V pp) → ia_G X 0 0 14 [(4, ((99 : Nat) : Int)), (0, (T : Int)), (0, (l : Int)), (0, (q : Int)), (9, 0)] [] Z V3 := by
      intro fu
      induction fu with
      | zero => intro q T l g PL V3 hm; exact absurd hm (Nat.not_lt_zero _)
      | succ fu ih =>
        intro q T l g PL V3 hm hT hl hM hL hO hq7 hP3 w3_104 w3_108 hF3
        have ih14 := ih
        refine ia_iload_n (pc := 14) F dX8_laysOrder_14 rfl ?_
        have hp128 := pw_le (σ 0).toNat (by omega)
        refine ia_if_eq (pc := 15) F 85 dX8_laysOrder_15 rfl (by omega) (fun h_7 => ?_) (fun h_7 => ?_)
        · refine ia_iload_n (pc := 85) F dX8_laysOrder_85 rfl ?_
          refine ia_ireturn (pc := 86) F M (by decide) (by decide) dX8_laysOrder_86 ?_
          have hT0 : T = 0 := by omega
          rw [hT0, lin_0, mol_nil, List.append_nil] at hM
          have e9 := congrArg List.length hM
          rw [mol_len, hL] at e9
          rw [← e9]
          exact q1 _ _ _ (fun i hi => by rw [hM]; exact hO i (by omega)) hP3 w3_104 w3_108 hF3
        · have hT128 := pw_le (σ 0).toNat (by omega)
          have hne : lin T (σ 0).toNat ≠ [] := fun e => by have := bt_0n (σ 0).toNat (by omega) T hT e; omega
          obtain ⟨x, e1, hx, hmin⟩ := chs_first (f := wnf σ f1 T l) (S := T) (σ 0).toNat hne
          have hx2 := (lin_mem (σ 0).toNat).mp hx
          have hLT : LB σ f1 (σ 0).toNat T := fun S9 h9 => hLB S9 (by omega)
          have e3 := LB_chs (l := l) hLT (by omega) (by omega)
          have hcl : 0 ≤ lc σ l ∧ lc σ l ≤ 9 := by rcases hl with g | g; rw [g, lc_7]; omega; rw [lc_e (by omega)]; exact (se l (by omega)).1
          have hCA : ∀ x : Nat, x < (σ 0).toNat → 0 ≤ col σ x ∧ col σ x ≤ 9 := fun x hx => (se x (by omega)).1
          have hwr : ∀ j : Nat, j < (σ 0).toNat → T.testBit j = true → 0 ≤ wnf σ f1 T l j ∧ wnf σ f1 T l j ≤ 2000 := fun j h8 h9 => by have r9 := LB_rng hLT (by omega) (by omega) hCA h8 h9; have w9 := wash_rng hcl (hCA j h8); unfold wnf; omega
          have hv : f1 (128 * l + T) = wnf σ f1 T l x := by rw [hLB T hT l (by omega), mcl_s, ← e3, e1]
          have hvr := hwr x hx2.1 hx2.2
          have hmx := mcl_at (c := lc σ l) hne (by rw [← e3, e1])
          refine ia_iconst (pc := 18) F dX8_laysOrder_18 ?_
          refine ia_istore (pc := 19) F (ls' := [(4, ((99 : Nat) : Int)), (0, (T : Int)), (0, (l : Int)), (0, (q : Int)), (0, 0)]) dX8_laysOrder_19 (Nat.le_of_ble_eq_true rfl) rfl rfl ?_
          have L21 : ∀ (fu : Nat) (j : Nat) (V4 : ia_H), (8 - j < fu) → (j ≤ x) → (PI V4) → (V4 104 = f1) → (V4 108 = g) → (∀ pp, pp ∉ ([104, 108] : List Nat) → V4 pp = V pp) → ia_G X 0 0 21 [(4, ((99 : Nat) : Int)), (0, (T : Int)), (0, (l : Int)), (0, (q : Int)), (0, (j : Int))] [] Z V4 := by
            intro fu
            induction fu with
            | zero => intro j V4 hm; exact absurd hm (Nat.not_lt_zero _)
            | succ fu ih =>
              intro j V4 hm hj hP4 w4_104 w4_108 hF4
              have ih21 := ih
              refine ia_iload_n (pc := 21) F dX8_laysOrder_21 rfl ?_
              refine ia_iload (pc := 22) F dX8_laysOrder_22 rfl ?_
              refine ia_ishr (pc := 24) F dX8_laysOrder_24 ?_
              refine ia_iconst (pc := 25) F dX8_laysOrder_25 ?_
              refine ia_iand (pc := 26) F dX8_laysOrder_26 ?_
              rw [bt_m T (by omega) j (by omega)]
              by_cases hb : T.testBit j = true
              · rw [if_pos hb]
                refine ia_if_eq (pc := 27) F 53 dX8_laysOrder_27 rfl (by omega) (fun h9 => absurd h9 (by omega)) (fun _ => ?_)
                have hwj := hwr j (by omega) hb
                refine ia_aload_n (pc := 30) F dX8_laysOrder_30 rfl ?_
                refine ia_iload_n (pc := 31) F dX8_laysOrder_31 rfl ?_
                refine ia_iload_n (pc := 32) F dX8_laysOrder_32 rfl ?_
                refine ia_iload (pc := 33) F dX8_laysOrder_33 rfl ?_
                refine jV (pc := 35) F 0 0 (z99 hZ) cls11.1 (c_X8_with T l j hZ hP4 hI ((hF4 99 (by decide)).trans h99) ((hF4 100 (by decide)).trans h100) w4_104 (by omega) (by omega) (by omega) ?_) rfl ⟨k_X8_with, il_RX8_178, im_X8_with, is_X8_with, ii_RX8⟩ 3 rfl hd_X8_with ⟨by decide, by decide, by decide, by decide, Nat.le_of_ble_eq_true rfl⟩ dX8_laysOrder_35
                refine j1 ?_
                refine ia_aload_n (pc := 38) F dX8_laysOrder_38 rfl ?_
                refine jg (pc := 39) F (z99 hZ) cls11 f11_4 (hP4 99 4 104 rfl) il_RX8_22 dX8_laysOrder_39 ?_
                refine ia_sipush (pc := 42) F dX8_laysOrder_42 (by decide) ?_
                refine ia_iload_n (pc := 45) F dX8_laysOrder_45 rfl ?_
                refine ia_imul (pc := 46) F dX8_laysOrder_46 ?_
                refine ia_iload_n (pc := 47) F dX8_laysOrder_47 rfl ?_
                refine ia_iadd (pc := 48) F dX8_laysOrder_48 ?_
                refine ja (pc := 49) F (v := f1 (128 * l + T)) (z104 hZ) (128 * l + T) rfl (by omega) (congrFun w4_104 (128 * l + T)) dX8_laysOrder_49 ?_
                refine ia_icmp_eq (pc := 50) F 59 dX8_laysOrder_50 rfl (by omega) (by omega) (fun h_8 => ?_) (fun h_8 => ?_)
                · have hjx : j = x := by rcases Nat.lt_or_ge j x with g9 | g9; have := (hmin j ((lin_mem (σ 0).toNat).mpr ⟨by omega, hb⟩)).1 g9; omega; omega
                  have hbx := bt_x T (by omega) j (by omega)
                  rw [← hjx] at hx hx2 e1 hmx
                  have hbx2 := hbx.2.2 hb
                  have hle := lin_erase (S := T) (S' := T &&& (255 - 2 ^ j)) (j := j) hb (fun k hk => bt_xb T (by omega) j (by omega) k hk) (σ 0).toNat (by omega)
                  refine ia_aload_n (pc := 59) F dX8_laysOrder_59 rfl ?_
                  refine jg (pc := 60) F (z99 hZ) cls11 f11_8 (hP4 99 8 108 rfl) il_RX8_34 dX8_laysOrder_60 ?_
                  have hq9 : q < 7 := by have e9 := congrArg List.length hM; rw [List.length_append, mol_len, mol_len, hL] at e9; have l9 := lin_lle (opb σ (σ 0).toNat) (σ 0).toNat; have l8 : 0 < (lin T (σ 0).toNat).length := List.length_pos_iff.mpr hne; omega
                  refine ia_iload_n (pc := 63) F dX8_laysOrder_63 rfl ?_
                  refine ia_iload (pc := 64) F dX8_laysOrder_64 rfl ?_
                  refine js (pc := 66) F (z108 hZ) q rfl (by omega) dX8_laysOrder_66 ?_
                  refine ia_iinc (pc := 67) F (ls' := [(4, ((99 : Nat) : Int)), (0, (T : Int)), (0, (l : Int)), (0, ((q + 1 : Nat) : Int)), (0, (j : Int))]) dX8_laysOrder_67 rfl rfl rfl rfl ?_
                  refine ia_iload_n (pc := 70) F dX8_laysOrder_70 rfl ?_
                  refine ia_iconst (pc := 71) F dX8_laysOrder_71 ?_
                  refine ia_iload (pc := 72) F dX8_laysOrder_72 rfl ?_
                  refine ia_ishl (pc := 74) F dX8_laysOrder_74 ?_
                  refine ia_iconst (pc := 75) F dX8_laysOrder_75 ?_
                  refine ia_ixor (pc := 76) F dX8_laysOrder_76 ?_
                  refine ia_iand (pc := 77) F dX8_laysOrder_77 ?_
                  rw [hbx.1]
                  refine ia_istore_n (pc := 78) F (ls' := [(4, ((99 : Nat) : Int)), (0, ((T &&& (255 - 2 ^ j) : Nat) : Int)), (0, (l : Int)), (0, ((q + 1 : Nat) : Int)), (0, (j : Int))]) dX8_laysOrder_78 (Nat.le_of_ble_eq_true rfl) rfl rfl ?_
                  refine ia_iload (pc := 79) F dX8_laysOrder_79 rfl ?_
                  refine ia_istore_n (pc := 81) F (ls' := [(4, ((99 : Nat) : Int)), (0, ((T &&& (255 - 2 ^ j) : Nat) : Int)), (0, (j : Int)), (0, ((q + 1 : Nat) : Int)), (0, (j : Int))]) dX8_laysOrder_81 (Nat.le_of_ble_eq_true rfl) rfl rfl ?_
                  refine ia_goto (pc := 82) F 14 dX8_laysOrder_82 rfl ?_
                  refine jw (ls' := [(4, ((99 : Nat) : Int)), (0, ((T &&& (255 - 2 ^ j) : Nat) : Int)), (0, (j : Int)), (0, ((q + 1 : Nat) : Int)), (9, 0)]) [false, false, false, false, true] rfl ?_
                  exact ih14 (q + 1) (T &&& (255 - 2 ^ j)) j (up g q (j : Int)) (PL ++ [j]) _ (by omega) (by omega) (Or.inr (by omega)) (by rw [hM, mol_s hx (by rw [← LB_chs (l := l) hLT (by omega) (by omega), e1]), hle, lc_e (by omega), List.append_assoc]; rfl) (by rw [List.length_append, hL]; rfl) (ord_s (A1 := fun i => ((i : Nat) : Int)) hL hO) (by omega) (PI_u hP4 rfl) ((rowN (by decide)).trans w4_104) (rowU w4_108) (Fr_u hF4 (by decide))
                · refine ia_iinc (pc := 53) F (ls' := [(4, ((99 : Nat) : Int)), (0, (T : Int)), (0, (l : Int)), (0, (q : Int)), (0, ((j + 1 : Nat) : Int))]) dX8_laysOrder_53 rfl rfl rfl rfl ?_
                  refine ia_goto (pc := 56) F 21 dX8_laysOrder_56 rfl ?_
                  exact ih21 (j + 1) _ (by omega) (by have h9 : j ≠ x := fun e => (by subst e; omega); omega) hP4 w4_104 w4_108 hF4
              · rw [if_neg hb]
                refine ia_if_eq (pc := 27) F 53 dX8_laysOrder_27 rfl (by omega) (fun _ => ?_) (fun h9 => absurd h9 (by omega))
                refine ia_iinc (pc := 53) F (ls' := [(4, ((99 : Nat) : Int)), (0, (T : Int)), (0, (l : Int)), (0, (q : Int)), (0, ((j + 1 : Nat) : Int))]) dX8_laysOrder_53 rfl rfl rfl rfl ?_
                refine ia_goto (pc := 56) F 21 dX8_laysOrder_56 rfl ?_
                exact ih21 (j + 1) _ (by omega) (by have h9 : j ≠ x := fun e => hb (e ▸ hx2.2); omega) hP4 w4_104 w4_108 hF4
          exact L21 (8 + 1) 0 _ (by omega) (by omega) hP3 w3_104 w3_108 hF3
    exact L14 ((opb σ (σ 0).toNat) + 1) 0 (opb σ (σ 0).toNat) 7 ω [] _ (by omega) (opb_lt _ (by omega)) (Or.inl rfl) rfl rfl (fun i hi => absurd hi (Nat.not_lt_zero _)) (by omega) hP9 w9_104 w9_108 hF9
  exact L4 f1_1 _ (by assumption) p_4 w_5 ((f_6 108 (by decide)).trans h108) (Fr_c (Fr_0 (V := V) (S := [104, 108])) f_6 (by decide))
