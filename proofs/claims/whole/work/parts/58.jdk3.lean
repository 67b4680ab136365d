/-! the words as texts (made by wip/whole/jdk.py) -/
theorem ia_breturn0 {X : ia_X} {own nm : String} {cc : ByteArray} {nL d mc ms cells slots pc : Nat} {ls : List (Nat × Int)} {Z : ia_Z} {V : ia_H} {Q : ia_O → ia_Z → ia_H → Prop} (F : ia_Fix X own cc nL d mc ms) (M : ia_Me X (some .byte) nm mc ms Q) (hc : cells ≤ mc) (hs : slots ≤ ms) (dg : decode cc pc = .ok (.ireturn, 1)) (hQ : Q (.inl (some (0, 0))) Z V) : ia_G X cells slots pc ls [(0, 0)] Z V := by
  intro H locs ad lsA r1 r2 r3 r4 r5 r6 r7 r8
  rw [M.1]
  exact vx_ret (W.widen hc hs (W.zret F.1.1 F.1.2.1 M.2.1 rfl (fun t ht hW => ⟨some (0, 0), Z, V, ad, rfl, hQ, by rw [ht]; exact r1, r2, r3, r4.F ht, fun u hu => by cases hu; exact ia_wfh r8⟩) r4.2.2 dg F.1.2.2.2.2.2.2.2.2.2.2.1))
set_option maxRecDepth 100000 in
theorem c_J0_isLatin1 {Z : ia_Z} {V : ia_H} {Q : ia_O → ia_Z → ia_H → Prop} (i : Nat)   (hi : i < 9) (q1 : Q (.inl (some (0, 1))) Z V) : ia_K yJ0_isLatin1_aae02 cJ0_isLatin1_aae02 1 (some .boolean) [(4, ((ia_E0 + (100 + i) : Nat) : Int))] Z V 1 0 0 Q := by
  refine ia_start RJ0 "isLatin1" ⟨by decide, rfl, rfl⟩ (Nat.le_of_ble_eq_true rfl) (ia_tg rfl) (fun X F M => ?_)
  show ia_G X 0 0 0 [(4, ((ia_E0 + (100 + i) : Nat) : Int))] [] Z V
  refine ia_getCompact (pc := 0) F il_RJ0_38 dJ0_isLatin1_aae02_0 ?_
  refine ia_if_eq (pc := 3) F 17 dJ0_isLatin1_aae02_3 rfl (by omega) (fun h9 => absurd h9 (by omega)) (fun _ => ?_)
  refine ia_aload_n (pc := 6) F dJ0_isLatin1_aae02_6 rfl ?_
  refine ia_strCoder (pc := 7) F i (by omega) il_RJ0_15 dJ0_isLatin1_aae02_7 ?_
  refine ia_if_ne (pc := 10) F 17 dJ0_isLatin1_aae02_10 rfl (by omega) (fun h9 => absurd h9 (by omega)) (fun _ => ?_)
  refine ia_iconst (pc := 13) F dJ0_isLatin1_aae02_13 ?_
  refine ia_goto (pc := 14) F 18 dJ0_isLatin1_aae02_14 rfl ?_
  refine ia_zreturn (pc := 18) F M (Or.inr rfl) (by decide) (by decide) dJ0_isLatin1_aae02_18 ?_
  exact q1
set_option maxRecDepth 100000 in
theorem c_J0_coder {Z : ia_Z} {V : ia_H} {Q : ia_O → ia_Z → ia_H → Prop} (i : Nat)   (hi : i < 9) (q1 : Q (.inl (some (0, 0))) Z V) : ia_K yJ0_coder_7d493 cJ0_coder_7d493 1 (some .byte) [(4, ((ia_E0 + (100 + i) : Nat) : Int))] Z V 1 0 0 Q := by
  refine ia_start RJ0 "coder" ⟨by decide, rfl, rfl⟩ (Nat.le_of_ble_eq_true rfl) (ia_tg rfl) (fun X F M => ?_)
  show ia_G X 0 0 0 [(4, ((ia_E0 + (100 + i) : Nat) : Int))] [] Z V
  refine ia_getCompact (pc := 0) F il_RJ0_38 dJ0_coder_7d493_0 ?_
  refine ia_if_eq (pc := 3) F 13 dJ0_coder_7d493_3 rfl (by omega) (fun h9 => absurd h9 (by omega)) (fun _ => ?_)
  refine ia_aload_n (pc := 6) F dJ0_coder_7d493_6 rfl ?_
  refine ia_strCoder (pc := 7) F i (by omega) il_RJ0_15 dJ0_coder_7d493_7 ?_
  refine ia_goto (pc := 10) F 14 dJ0_coder_7d493_10 rfl ?_
  refine ia_breturn0 (pc := 14) F M (by decide) (by decide) dJ0_coder_7d493_14 ?_
  exact q1
set_option maxRecDepth 100000 in
theorem c_J0_length {Z : ia_Z} {V : ia_H} {Q : ia_O → ia_Z → ia_H → Prop} (i : Nat)   (hi : i < 9) (q1 : Q (.inl (some (0, ((tx_wl i : Nat) : Int)))) Z V) : ia_K yJ0_length_8abf5 cJ0_length_8abf5 1 (some .int) [(4, ((ia_E0 + (100 + i) : Nat) : Int))] Z V 2 0 0 Q := by
  refine ia_start RJ0 "length" ⟨by decide, rfl, rfl⟩ (Nat.le_of_ble_eq_true rfl) (ia_tg rfl) (fun X F M => ?_)
  show ia_G X 0 0 0 [(4, ((ia_E0 + (100 + i) : Nat) : Int))] [] Z V
  have w9 := tx_wl_rng hi
  refine ia_aload_n (pc := 0) F dJ0_length_8abf5_0 rfl ?_
  refine ia_strValue (pc := 1) F i (by omega) il_RJ0_9 dJ0_length_8abf5_1 ?_
  refine ia_strLen (pc := 4) F i (by omega) (x := ((tx_wl i : Nat) : Int)) rfl dJ0_length_8abf5_4 ?_
  refine ia_aload_n (pc := 5) F dJ0_length_8abf5_5 rfl ?_
  refine jVE (pc := 6) F 0 0 i (by omega) (c_J0_coder i (by omega) ?_) rfl ⟨k_J0_coder_7d493, il_RJ0_335, im_J0_coder_7d493, is_J0_coder_7d493, ii_RJ0⟩ 0 rfl hd_J0_coder_7d493 ⟨by decide, by decide, by decide, by decide, Nat.le_of_ble_eq_true rfl⟩ dJ0_length_8abf5_6
  refine j1 ?_
  refine ia_ishr (pc := 9) F dJ0_length_8abf5_9 ?_
  rw [ia_shr0 (x := ((tx_wl i : Nat) : Int)) (by omega)]
  refine ia_ireturn (pc := 10) F M (by decide) (by decide) dJ0_length_8abf5_10 ?_
  exact q1
set_option maxRecDepth 100000 in
theorem c_J1_charAt {Z : ia_Z} {V : ia_H} {Q : ia_O → ia_Z → ia_H → Prop} (i j : Nat)   (hi : i < 9) (hj : j < tx_wl i) (q1 : Q (.inl (some (0, (spl i j)))) Z V) : ia_K yJ1_charAt_3b067 cJ1_charAt_3b067 2 (some .char) [(4, ((ia_E0 + (300 + i) : Nat) : Int)), (0, (j : Int))] Z V 3 0 0 Q := by
  refine ia_start RJ1 "charAt" ⟨by decide, rfl, rfl⟩ (Nat.le_of_ble_eq_true rfl) (ia_tg rfl) (fun X F M => ?_)
  show ia_G X 0 0 0 [(4, ((ia_E0 + (300 + i) : Nat) : Int)), (0, (j : Int))] [] Z V
  have w9 := tx_wl_rng hi
  have w8 := spl_rng (i := i) (j := j) hi (by omega)
  have w7 : j < (ia_word i).length := hj
  refine ia_iload_n (pc := 0) F dJ1_charAt_3b067_0 rfl ?_
  refine ia_aload_n (pc := 1) F dJ1_charAt_3b067_1 rfl ?_
  refine ia_strLen (pc := 2) F i (by omega) (x := ((tx_wl i : Nat) : Int)) rfl dJ1_charAt_3b067_2 ?_
  refine jS2 (pc := 3) F 0 0 (c_J0_checkIndex (j : Int) ((tx_wl i : Nat) : Int) (by omega) ?_) rfl ⟨k_J0_checkIndex_df160, il_RJ1_9, it_J0_checkIndex_df160, ii_RJ0⟩ 2 rfl hd_J0_checkIndex_df160 ⟨by decide, by decide, by decide, by decide, Nat.le_of_ble_eq_true rfl⟩ dJ1_charAt_3b067_3
  refine j0 ?_
  refine ia_aload_n (pc := 6) F dJ1_charAt_3b067_6 rfl ?_
  refine ia_iload_n (pc := 7) F dJ1_charAt_3b067_7 rfl ?_
  refine ia_strAt (pc := 8) F i (by omega) j rfl (by first | assumption | omega) dJ1_charAt_3b067_8 ?_
  rw [spl_w (i := i) (j := j) (by omega) (by omega)]
  refine ia_sipush (pc := 9) F dJ1_charAt_3b067_9 (by decide) ?_
  refine ia_iand (pc := 12) F dJ1_charAt_3b067_12 ?_
  rw [ia_and255 (x := (spl i j)) (by omega)]
  refine ia_i2c (pc := 13) F dJ1_charAt_3b067_13 ?_
  rw [show (spl i j) % 65536 = (spl i j) from by omega]
  refine ia_creturnI (pc := 14) F M (by omega) (by decide) (by decide) dJ1_charAt_3b067_14 ?_
  exact q1
set_option maxRecDepth 100000 in
theorem c_J0_charAt {Z : ia_Z} {V : ia_H} {Q : ia_O → ia_Z → ia_H → Prop} (i j : Nat)   (hi : i < 9) (hj : j < tx_wl i) (q1 : Q (.inl (some (0, (spl i j)))) Z V) : ia_K yJ0_charAt_5068e cJ0_charAt_5068e 2 (some .char) [(4, ((ia_E0 + (100 + i) : Nat) : Int)), (0, (j : Int))] Z V 4 0 0 Q := by
  refine ia_start RJ0 "charAt" ⟨by decide, rfl, rfl⟩ (Nat.le_of_ble_eq_true rfl) (ia_tg rfl) (fun X F M => ?_)
  show ia_G X 0 0 0 [(4, ((ia_E0 + (100 + i) : Nat) : Int)), (0, (j : Int))] [] Z V
  have w9 := tx_wl_rng hi
  have w8 := spl_rng (i := i) (j := j) hi (by omega)
  have w7 : j < (ia_word i).length := hj
  refine ia_aload_n (pc := 0) F dJ0_charAt_5068e_0 rfl ?_
  refine jVE (pc := 1) F 0 0 i (by omega) (c_J0_isLatin1 i (by omega) ?_) rfl ⟨k_J0_isLatin1_aae02, il_RJ0_492, im_J0_isLatin1_aae02, is_J0_isLatin1_aae02, ii_RJ0⟩ 0 rfl hd_J0_isLatin1_aae02 ⟨by decide, by decide, by decide, by decide, Nat.le_of_ble_eq_true rfl⟩ dJ0_charAt_5068e_1
  refine j1 ?_
  refine ia_if_eq (pc := 4) F 16 dJ0_charAt_5068e_4 rfl (by omega) (fun h9 => absurd h9 (by omega)) (fun _ => ?_)
  refine ia_aload_n (pc := 7) F dJ0_charAt_5068e_7 rfl ?_
  refine ia_strValue (pc := 8) F i (by omega) il_RJ0_9 dJ0_charAt_5068e_8 ?_
  refine ia_iload_n (pc := 11) F dJ0_charAt_5068e_11 rfl ?_
  refine jS2 (pc := 12) F 0 0 (c_J1_charAt i j (by omega) (by omega) ?_) rfl ⟨k_J1_charAt_3b067, il_RJ0_495, it_J1_charAt_3b067, ii_RJ1⟩ 2 rfl hd_J1_charAt_3b067 ⟨by decide, by decide, by decide, by decide, Nat.le_of_ble_eq_true rfl⟩ dJ0_charAt_5068e_12
  refine j1 ?_
  refine ia_creturnI (pc := 15) F M (by omega) (by decide) (by decide) dJ0_charAt_5068e_15 ?_
  exact q1
