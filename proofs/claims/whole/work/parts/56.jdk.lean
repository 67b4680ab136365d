/-! the builder and the texts, methods of the JDK (made by wip/whole/jdk.py) -/
set_option maxRecDepth 100000 in
theorem c_J5_isLatin1 {Z : ia_Z} {V : ia_H} {Q : ia_O → ia_Z → ia_H → Prop} (b q n L : Nat) (t : Nat → Int)   (hB : SB b Z V n t q L) (q1 : Q (.inl (some (0, 1))) Z V) : ia_K yJ5_isLatin1_aae02 cJ5_isLatin1_aae02 1 (some .boolean) [(4, ((b : Nat) : Int))] Z V 1 0 0 Q := by
  refine ia_start RJ5 "isLatin1" ⟨by decide, rfl, rfl⟩ (Nat.le_of_ble_eq_true rfl) (ia_tg rfl) (fun X F M => ?_)
  show ia_G X 0 0 0 [(4, ((b : Nat) : Int))] [] Z V
  obtain ⟨zb, zq, e0, e1, e3, hnL, ht, hr, hqq⟩ := id hB
  have hbq : b ≠ q := fun e => by have h1 := zb.2.1; have h2 := zq.2.1; rw [e] at h1; omega
  refine ia_getCompact (pc := 0) F il_RJ5_18 dJ5_isLatin1_aae02_0 ?_
  refine ia_if_eq (pc := 3) F 17 dJ5_isLatin1_aae02_3 rfl (by omega) (fun h9 => absurd h9 (by omega)) (fun _ => ?_)
  refine ia_aload_n (pc := 6) F dJ5_isLatin1_aae02_6 rfl ?_
  refine jg (pc := 7) F (x := 0) zb cls1 f1_1 e1 il_RJ5_22 dJ5_isLatin1_aae02_7 ?_
  refine ia_if_ne (pc := 10) F 17 dJ5_isLatin1_aae02_10 rfl (by omega) (fun h9 => absurd h9 (by omega)) (fun _ => ?_)
  refine ia_iconst (pc := 13) F dJ5_isLatin1_aae02_13 ?_
  refine ia_goto (pc := 14) F 18 dJ5_isLatin1_aae02_14 rfl ?_
  refine ia_zreturn (pc := 18) F M (Or.inr rfl) (by decide) (by decide) dJ5_isLatin1_aae02_18 ?_
  exact q1
set_option maxRecDepth 100000 in
theorem c_J5_length {Z : ia_Z} {V : ia_H} {Q : ia_O → ia_Z → ia_H → Prop} (b q n L : Nat) (t : Nat → Int)   (hB : SB b Z V n t q L) (q1 : Q (.inl (some (0, (n : Int)))) Z V) : ia_K yJ5_length_8abf5 cJ5_length_8abf5 1 (some .int) [(4, ((b : Nat) : Int))] Z V 1 0 0 Q := by
  refine ia_start RJ5 "length" ⟨by decide, rfl, rfl⟩ (Nat.le_of_ble_eq_true rfl) (ia_tg rfl) (fun X F M => ?_)
  show ia_G X 0 0 0 [(4, ((b : Nat) : Int))] [] Z V
  obtain ⟨zb, zq, e0, e1, e3, hnL, ht, hr, hqq⟩ := id hB
  have hbq : b ≠ q := fun e => by have h1 := zb.2.1; have h2 := zq.2.1; rw [e] at h1; omega
  refine ia_aload_n (pc := 0) F dJ5_length_8abf5_0 rfl ?_
  refine jg (pc := 1) F (x := (n : Int)) zb cls1 f1_3 e3 il_RJ5_79 dJ5_length_8abf5_1 ?_
  refine ia_ireturn (pc := 4) F M (by decide) (by decide) dJ5_length_8abf5_4 ?_
  exact q1
set_option maxRecDepth 100000 in
theorem c_J4_length {Z : ia_Z} {V : ia_H} {Q : ia_O → ia_Z → ia_H → Prop} (b q n L : Nat) (t : Nat → Int)   (hB : SB b Z V n t q L) (q1 : Q (.inl (some (0, (n : Int)))) Z V) : ia_K yJ4_length_8abf5 cJ4_length_8abf5 1 (some .int) [(4, ((b : Nat) : Int))] Z V 2 0 0 Q := by
  refine ia_start RJ4 "length" ⟨by decide, rfl, rfl⟩ (Nat.le_of_ble_eq_true rfl) (ia_tg rfl) (fun X F M => ?_)
  show ia_G X 0 0 0 [(4, ((b : Nat) : Int))] [] Z V
  obtain ⟨zb, zq, e0, e1, e3, hnL, ht, hr, hqq⟩ := id hB
  have hbq : b ≠ q := fun e => by have h1 := zb.2.1; have h2 := zq.2.1; rw [e] at h1; omega
  refine ia_aload_n (pc := 0) F dJ4_length_8abf5_0 rfl ?_
  refine jSU (pc := 1) F 0 0 zb cls1.1 (c_J5_length b q n L t hB ?_) rfl ⟨k_J5_length_8abf5, il_RJ4_343, im_J5_length_8abf5, ii_RJ5⟩ ⟨ism_J5_length_8abf5, isup_J4, by decide⟩ 0 rfl hd_J5_length_8abf5 ⟨by decide, by decide, by decide, by decide, Nat.le_of_ble_eq_true rfl⟩ dJ4_length_8abf5_1
  refine j1 ?_
  refine ia_ireturn (pc := 4) F M (by decide) (by decide) dJ4_length_8abf5_4 ?_
  exact q1
set_option maxRecDepth 100000 in
theorem c_J1_canEncode {Z : ia_Z} {V : ia_H} {Q : ia_O → ia_Z → ia_H → Prop} (c : Int)   (hc : 0 ≤ c ∧ c ≤ 126) (q1 : Q (.inl (some (0, 1))) Z V) : ia_K yJ1_canEncode_fc78d cJ1_canEncode_fc78d 1 (some .boolean) [(0, c)] Z V 1 0 0 Q := by
  refine ia_start RJ1 "canEncode" ⟨by decide, rfl, rfl⟩ (Nat.le_of_ble_eq_true rfl) (ia_tg rfl) (fun X F M => ?_)
  show ia_G X 0 0 0 [(0, c)] [] Z V
  refine ia_iload_n (pc := 0) F dJ1_canEncode_fc78d_0 rfl ?_
  refine ia_sipush (pc := 1) F dJ1_canEncode_fc78d_1 (by decide) ?_
  refine ia_icmp_gt (pc := 4) F 11 dJ1_canEncode_fc78d_4 rfl (by omega) (by omega) (fun h_1 => ?_) (fun h_1 => ?_)
  · refine ia_iconst (pc := 11) F dJ1_canEncode_fc78d_11 ?_
    refine ia_zreturn (pc := 12) F M (Or.inl rfl) (by decide) (by decide) dJ1_canEncode_fc78d_12 ?_
    exfalso
    omega
  · refine ia_iconst (pc := 7) F dJ1_canEncode_fc78d_7 ?_
    refine ia_goto (pc := 8) F 12 dJ1_canEncode_fc78d_8 rfl ?_
    refine ia_zreturn (pc := 12) F M (Or.inr rfl) (by decide) (by decide) dJ1_canEncode_fc78d_12 ?_
    exact q1
set_option maxRecDepth 100000 in
theorem c_J8_newLength {Z : ia_Z} {V : ia_H} {Q : ia_O → ia_Z → ia_H → Prop} (o : Int) (a : Int) (p : Int)   (ho : 0 ≤ o ∧ o ≤ 2000) (ha : 0 ≤ a ∧ a ≤ 2000) (hp : 1 ≤ p ∧ p ≤ 2000) (q1 : Q (.inl (some (0, (o + max a p)))) Z V) : ia_K yJ8_newLength_cabcc cJ8_newLength_cabcc 4 (some .int) [(0, o), (0, a), (0, p)] Z V 2 0 0 Q := by
  refine ia_start RJ8 "newLength" ⟨by decide, rfl, rfl⟩ (Nat.le_of_ble_eq_true rfl) (ia_tg rfl) (fun X F M => ?_)
  show ia_G X 0 0 0 [(0, o), (0, a), (0, p), (9, 0)] [] Z V
  refine ia_iload_n (pc := 0) F dJ8_newLength_cabcc_0 rfl ?_
  refine ia_iload_n (pc := 1) F dJ8_newLength_cabcc_1 rfl ?_
  refine ia_iload_n (pc := 2) F dJ8_newLength_cabcc_2 rfl ?_
  refine ia_max (pc := 3) F (by omega) (by omega) ⟨il_RJ8_194, it_mmax, ii_RJ9, k_mmax⟩ ⟨by decide, Nat.le_of_ble_eq_true rfl, by decide, by decide⟩ dJ8_newLength_cabcc_3 ?_
  rw [ia_maxE a p]
  refine ia_iadd (pc := 6) F dJ8_newLength_cabcc_6 ?_
  refine ia_istore_n (pc := 7) F (ls' := [(0, o), (0, a), (0, p), (0, (o + (max a p)))]) dJ8_newLength_cabcc_7 (Nat.le_of_ble_eq_true rfl) rfl rfl ?_
  refine ia_iconst (pc := 8) F dJ8_newLength_cabcc_8 ?_
  refine ia_iload_n (pc := 9) F dJ8_newLength_cabcc_9 rfl ?_
  refine ia_icmp_ge (pc := 10) F 21 dJ8_newLength_cabcc_10 rfl (by omega) (by omega) (fun h9 => absurd h9 (by omega)) (fun _ => ?_)
  refine ia_iload_n (pc := 13) F dJ8_newLength_cabcc_13 rfl ?_
  refine ia_ldcI (pc := 14) F (v := 2147483639) il_RJ8_200 dJ8_newLength_cabcc_14 ?_
  refine ia_icmp_gt (pc := 16) F 21 dJ8_newLength_cabcc_16 rfl (by omega) (by omega) (fun h9 => absurd h9 (by omega)) (fun _ => ?_)
  refine ia_iload_n (pc := 19) F dJ8_newLength_cabcc_19 rfl ?_
  refine ia_ireturn (pc := 20) F M (by decide) (by decide) dJ8_newLength_cabcc_20 ?_
  exact q1
set_option maxRecDepth 100000 in
theorem c_J5_newCapacity {Z : ia_Z} {V : ia_H} {Q : ia_O → ia_Z → ia_H → Prop} (b q n L : Nat) (t : Nat → Int) (x : Int)   (hB : SB b Z V n t q L) (hx : (L : Int) < x ∧ x ≤ 100) (q1 : Q (.inl (some (0, ((L : Int) + max (x - (L : Int)) ((L : Int) + 2))))) Z V) : ia_K yJ5_newCapacity_0f7a4 cJ5_newCapacity_0f7a4 6 (some .int) [(4, ((b : Nat) : Int)), (0, x)] Z V 3 0 0 Q := by
  refine ia_start RJ5 "newCapacity" ⟨by decide, rfl, rfl⟩ (Nat.le_of_ble_eq_true rfl) (ia_tg rfl) (fun X F M => ?_)
  show ia_G X 0 0 0 [(4, ((b : Nat) : Int)), (0, x), (9, 0), (9, 0), (9, 0), (9, 0)] [] Z V
  obtain ⟨zb, zq, e0, e1, e3, hnL, ht, hr, hqq⟩ := id hB
  have hbq : b ≠ q := fun e => by have h1 := zb.2.1; have h2 := zq.2.1; rw [e] at h1; omega
  refine ia_aload_n (pc := 0) F dJ5_newCapacity_0f7a4_0 rfl ?_
  refine jg (pc := 1) F zb cls1 f1_0 e0 il_RJ5_15 dJ5_newCapacity_0f7a4_1 ?_
  refine jlen (pc := 4) F zq (by decide) dJ5_newCapacity_0f7a4_4 ?_
  refine ia_istore_n (pc := 5) F (ls' := [(4, ((b : Nat) : Int)), (0, x), (0, ((L : Nat) : Int)), (9, 0), (9, 0), (9, 0)]) dJ5_newCapacity_0f7a4_5 (Nat.le_of_ble_eq_true rfl) rfl rfl ?_
  refine ia_iload_n (pc := 6) F dJ5_newCapacity_0f7a4_6 rfl ?_
  refine ia_aload_n (pc := 7) F dJ5_newCapacity_0f7a4_7 rfl ?_
  refine jg (pc := 8) F (x := 0) zb cls1 f1_1 e1 il_RJ5_22 dJ5_newCapacity_0f7a4_8 ?_
  refine ia_ishl (pc := 11) F dJ5_newCapacity_0f7a4_11 ?_
  rw [ia_shl0 (x := x) (by omega)]
  refine ia_istore_n (pc := 12) F (ls' := [(4, ((b : Nat) : Int)), (0, x), (0, ((L : Nat) : Int)), (0, x), (9, 0), (9, 0)]) dJ5_newCapacity_0f7a4_12 (Nat.le_of_ble_eq_true rfl) rfl rfl ?_
  refine ia_iload_n (pc := 13) F dJ5_newCapacity_0f7a4_13 rfl ?_
  refine ia_iload_n (pc := 14) F dJ5_newCapacity_0f7a4_14 rfl ?_
  refine ia_isub (pc := 15) F dJ5_newCapacity_0f7a4_15 ?_
  refine ia_istore (pc := 16) F (ls' := [(4, ((b : Nat) : Int)), (0, x), (0, ((L : Nat) : Int)), (0, x), (0, (x - ((L : Nat) : Int))), (9, 0)]) dJ5_newCapacity_0f7a4_16 (Nat.le_of_ble_eq_true rfl) rfl rfl ?_
  refine ia_iload_n (pc := 18) F dJ5_newCapacity_0f7a4_18 rfl ?_
  refine ia_iload (pc := 19) F dJ5_newCapacity_0f7a4_19 rfl ?_
  refine ia_iload_n (pc := 21) F dJ5_newCapacity_0f7a4_21 rfl ?_
  refine ia_iconst (pc := 22) F dJ5_newCapacity_0f7a4_22 ?_
  refine ia_aload_n (pc := 23) F dJ5_newCapacity_0f7a4_23 rfl ?_
  refine jg (pc := 24) F (x := 0) zb cls1 f1_1 e1 il_RJ5_22 dJ5_newCapacity_0f7a4_24 ?_
  refine ia_ishl (pc := 27) F dJ5_newCapacity_0f7a4_27 ?_
  rw [ia_shl0 (x := 2) (by omega)]
  refine ia_iadd (pc := 28) F dJ5_newCapacity_0f7a4_28 ?_
  refine jS2 (pc := 29) F 0 0 (c_J8_newLength ((L : Nat) : Int) (x - ((L : Nat) : Int)) (((L : Nat) : Int) + 2) (by omega) (by omega) (by omega) ?_) rfl ⟨k_J8_newLength_cabcc, il_RJ5_114, it_J8_newLength_cabcc, ii_RJ8⟩ 3 rfl hd_J8_newLength_cabcc ⟨by decide, by decide, by decide, by decide, Nat.le_of_ble_eq_true rfl⟩ dJ5_newCapacity_0f7a4_29
  refine j1 ?_
  refine ia_istore (pc := 32) F (ls' := [(4, ((b : Nat) : Int)), (0, x), (0, ((L : Nat) : Int)), (0, x), (0, (x - ((L : Nat) : Int))), (0, (((L : Nat) : Int) + max (x - ((L : Nat) : Int)) (((L : Nat) : Int) + 2)))]) dJ5_newCapacity_0f7a4_32 (Nat.le_of_ble_eq_true rfl) rfl rfl ?_
  refine ia_iload (pc := 34) F dJ5_newCapacity_0f7a4_34 rfl ?_
  refine ia_ldcI (pc := 36) F (v := 2147483647) il_RJ5_39 dJ5_newCapacity_0f7a4_36 ?_
  refine ia_icmp_ne (pc := 38) F 51 dJ5_newCapacity_0f7a4_38 rfl (by omega) (by omega) (fun _ => ?_) (fun h9 => absurd h9 (by omega))
  refine ia_iload (pc := 51) F dJ5_newCapacity_0f7a4_51 rfl ?_
  refine ia_aload_n (pc := 53) F dJ5_newCapacity_0f7a4_53 rfl ?_
  refine jg (pc := 54) F (x := 0) zb cls1 f1_1 e1 il_RJ5_22 dJ5_newCapacity_0f7a4_54 ?_
  refine ia_ishr (pc := 57) F dJ5_newCapacity_0f7a4_57 ?_
  rw [ia_shr0 (x := (((L : Nat) : Int) + max (x - ((L : Nat) : Int)) (((L : Nat) : Int) + 2))) (by omega)]
  refine ia_ireturn (pc := 58) F M (by decide) (by decide) dJ5_newCapacity_0f7a4_58 ?_
  exact q1
set_option maxRecDepth 100000 in
theorem c_J7_copyOf {Z : ia_Z} {V : ia_H} {Q : ia_O → ia_Z → ia_H → Prop} (q L m : Nat)   (zq : q < Z.2.2 ∧ Z.1 q = 3 ∧ Z.2.1 q = L) (hr : ∀ i : Nat, i < L → 0 ≤ V q i ∧ V q i ≤ 126) (hm : L < m ∧ m ≤ 300) (hz : Z.2.2 < 900000) (q1 : Q (.inl (some (4, ((Z.2.2 : Nat) : Int)))) (ia_Zn Z 3 m) (ia_cp (ia_Vn Z V (fun _ => 0)) q Z.2.2 L)) : ia_K yJ7_copyOf_9075b cJ7_copyOf_9075b 3 (some (.array .byte)) [(4, ((q : Nat) : Int)), (0, (m : Int))] Z V 2 1 300 Q := by
  refine ia_start RJ7 "copyOf" ⟨by decide, rfl, rfl⟩ (Nat.le_of_ble_eq_true rfl) (ia_tg rfl) (fun X F M => ?_)
  show ia_G X 0 0 0 [(4, ((q : Nat) : Int)), (0, (m : Int)), (9, 0)] [] Z V
  refine ia_iload_n (pc := 0) F dJ7_copyOf_9075b_0 rfl ?_
  refine ia_aload_n (pc := 1) F dJ7_copyOf_9075b_1 rfl ?_
  refine jlen (pc := 2) F zq (by decide) dJ7_copyOf_9075b_2 ?_
  refine ia_icmp_ne (pc := 3) F 14 dJ7_copyOf_9075b_3 rfl (by omega) (by omega) (fun _ => ?_) (fun h9 => absurd h9 (by omega))
  refine ia_iload_n (pc := 14) F dJ7_copyOf_9075b_14 rfl ?_
  refine ia_newaB (pc := 15) F m rfl (by omega) ia_a_byte (Nat.lt_of_lt_of_le (show Z.2.2 < 900000 by omega) (by decide)) ⟨by omega, by omega⟩ dJ7_copyOf_9075b_15 ?_
  have zn : Z.2.2 < (ia_Zn Z 3 m).2.2 ∧ (ia_Zn Z 3 m).1 Z.2.2 = 3 ∧ (ia_Zn Z 3 m).2.1 Z.2.2 = m := ⟨Nat.lt_succ_self _, if_pos rfl, if_pos rfl⟩
  have zq : q < (ia_Zn Z 3 m).2.2 ∧ (ia_Zn Z 3 m).1 q = 3 ∧ (ia_Zn Z 3 m).2.1 q = L := ⟨Nat.lt_succ_of_lt zq.1, (if_neg (by omega)).trans zq.2.1, (if_neg (by omega)).trans zq.2.2⟩
  refine ia_astore_n (pc := 17) F (ls' := [(4, ((q : Nat) : Int)), (0, (m : Int)), (4, ((Z.2.2 : Nat) : Int))]) dJ7_copyOf_9075b_17 (Nat.le_of_ble_eq_true rfl) rfl rfl ?_
  refine ia_aload_n (pc := 18) F dJ7_copyOf_9075b_18 rfl ?_
  refine ia_iconst (pc := 19) F dJ7_copyOf_9075b_19 ?_
  refine ia_aload_n (pc := 20) F dJ7_copyOf_9075b_20 rfl ?_
  refine ia_iconst (pc := 21) F dJ7_copyOf_9075b_21 ?_
  refine ia_aload_n (pc := 22) F dJ7_copyOf_9075b_22 rfl ?_
  refine jlen (pc := 23) F zq (by decide) dJ7_copyOf_9075b_23 ?_
  refine ia_iload_n (pc := 24) F dJ7_copyOf_9075b_24 rfl ?_
  refine ia_min (pc := 25) F (by omega) (by omega) ⟨il_RJ7_304, it_mmin, ii_RJ9, k_mmin⟩ ⟨by decide, Nat.le_of_ble_eq_true rfl, by omega, by omega⟩ dJ7_copyOf_9075b_25 ?_
  rw [ia_minE ((L : Nat) : Int) (m : Int)]
  rw [show (min ((L : Nat) : Int) (m : Int)) = (L : Int) from by omega]
  refine ia_arraycopyB (pc := 28) F q Z.2.2 L rfl rfl rfl zq.1 zn.1 zq.2.1 zn.2.1 (by rw [zq.2.2]; omega) (by rw [zn.2.2]; omega) (fun i hi => by rw [show ia_Vn Z V (fun _ => 0) q = V q from funext fun _ => if_neg (by omega)]; exact hr i hi) ⟨il_RJ7_150, in_arraycopy, it_arraycopy, ii_RJ10⟩ ⟨by decide, Nat.le_of_ble_eq_true rfl⟩ dJ7_copyOf_9075b_28 ?_
  refine ia_aload_n (pc := 31) F dJ7_copyOf_9075b_31 rfl ?_
  refine ia_areturn (pc := 32) F M (Or.inr ⟨_, rfl⟩) (by omega) (by omega) dJ7_copyOf_9075b_32 ?_
  exact q1
set_option maxRecDepth 100000 in
theorem c_J5_ensureCapacityInternal {Z : ia_Z} {V : ia_H} {Q : ia_O → ia_Z → ia_H → Prop} (b q n L : Nat) (t : Nat → Int) (x : Int)   (hB : SB b Z V n t q L) (hx : 0 ≤ x ∧ x ≤ 100) (hz : 116 ≤ Z.2.2 ∧ Z.2.2 < 900000) (q1 : (x ≤ (L : Int)) → Q (.inl none) Z V) (q2 : ∀ (Z1 : ia_Z) (V1 : ia_H) (q1 L1 : Nat), ((L : Int) < x) → (SB b Z1 V1 n t q1 L1) → (BX b 1 Z V Z1 V1) → (x ≤ (L1 : Int)) → Q (.inl none) Z1 V1) : ia_K yJ5_ensureCapacityInternal_d00df cJ5_ensureCapacityInternal_d00df 3 none [(4, ((b : Nat) : Int)), (0, x)] Z V 4 1 300 Q := by
  refine ia_start RJ5 "ensureCapacityInternal" ⟨by decide, rfl, rfl⟩ (Nat.le_of_ble_eq_true rfl) (ia_tg rfl) (fun X F M => ?_)
  show ia_G X 0 0 0 [(4, ((b : Nat) : Int)), (0, x), (9, 0)] [] Z V
  obtain ⟨zb, zq, e0, e1, e3, hnL, ht, hr, hqq⟩ := id hB
  have hbq : b ≠ q := fun e => by have h1 := zb.2.1; have h2 := zq.2.1; rw [e] at h1; omega
  refine ia_aload_n (pc := 0) F dJ5_ensureCapacityInternal_d00df_0 rfl ?_
  refine jg (pc := 1) F zb cls1 f1_0 e0 il_RJ5_15 dJ5_ensureCapacityInternal_d00df_1 ?_
  refine jlen (pc := 4) F zq (by decide) dJ5_ensureCapacityInternal_d00df_4 ?_
  refine ia_aload_n (pc := 5) F dJ5_ensureCapacityInternal_d00df_5 rfl ?_
  refine jg (pc := 6) F (x := 0) zb cls1 f1_1 e1 il_RJ5_22 dJ5_ensureCapacityInternal_d00df_6 ?_
  refine ia_ishr (pc := 9) F dJ5_ensureCapacityInternal_d00df_9 ?_
  rw [ia_shr0 (x := ((L : Nat) : Int)) (by omega)]
  refine ia_istore_n (pc := 10) F (ls' := [(4, ((b : Nat) : Int)), (0, x), (0, ((L : Nat) : Int))]) dJ5_ensureCapacityInternal_d00df_10 (Nat.le_of_ble_eq_true rfl) rfl rfl ?_
  refine ia_iload_n (pc := 11) F dJ5_ensureCapacityInternal_d00df_11 rfl ?_
  refine ia_iload_n (pc := 12) F dJ5_ensureCapacityInternal_d00df_12 rfl ?_
  refine ia_isub (pc := 13) F dJ5_ensureCapacityInternal_d00df_13 ?_
  refine ia_if_le (pc := 14) F 38 dJ5_ensureCapacityInternal_d00df_14 rfl (by omega) (fun h_1 => ?_) (fun h_1 => ?_)
  · refine ia_return (pc := 38) F M (by decide) (by decide) dJ5_ensureCapacityInternal_d00df_38 ?_
    exact q1 (by omega)
  · refine ia_aload_n (pc := 17) F dJ5_ensureCapacityInternal_d00df_17 rfl ?_
    refine ia_aload_n (pc := 18) F dJ5_ensureCapacityInternal_d00df_18 rfl ?_
    refine jg (pc := 19) F zb cls1 f1_0 e0 il_RJ5_15 dJ5_ensureCapacityInternal_d00df_19 ?_
    refine ia_aload_n (pc := 22) F dJ5_ensureCapacityInternal_d00df_22 rfl ?_
    refine ia_iload_n (pc := 23) F dJ5_ensureCapacityInternal_d00df_23 rfl ?_
    refine jU (pc := 24) F 0 0 zb cls1.1 (c_J5_newCapacity b q n L t x hB (by omega) ?_) rfl ⟨k_J5_newCapacity_0f7a4, il_RJ5_104, im_J5_newCapacity_0f7a4, ii_RJ5⟩ (jse_new F) 1 rfl hd_J5_newCapacity_0f7a4 ⟨by decide, by decide, by decide, by decide, Nat.le_of_ble_eq_true rfl⟩ dJ5_ensureCapacityInternal_d00df_24
    refine j1 ?_
    refine ia_aload_n (pc := 27) F dJ5_ensureCapacityInternal_d00df_27 rfl ?_
    refine jg (pc := 28) F (x := 0) zb cls1 f1_1 e1 il_RJ5_22 dJ5_ensureCapacityInternal_d00df_28 ?_
    refine ia_ishl (pc := 31) F dJ5_ensureCapacityInternal_d00df_31 ?_
    rw [ia_shl0 (x := ((L : Int) + max (x - (L : Int)) ((L : Int) + 2))) (by omega)]
    rw [show ((L : Int) + max (x - (L : Int)) ((L : Int) + 2)) = ((((L : Int) + max (x - (L : Int)) ((L : Int) + 2)).toNat : Nat) : Int) from by omega]
    refine jS2 (pc := 32) F 1 300 (c_J7_copyOf q L (((L : Int) + max (x - (L : Int)) ((L : Int) + 2)).toNat) zq hr (by omega) (by omega) ?_) rfl ⟨k_J7_copyOf_9075b, il_RJ5_108, it_J7_copyOf_9075b, ii_RJ7⟩ 2 rfl hd_J7_copyOf_9075b ⟨by decide, by decide, by decide, by decide, Nat.le_of_ble_eq_true rfl⟩ dJ5_ensureCapacityInternal_d00df_32
    have zb : b < (ia_Zn Z 3 (((L : Int) + max (x - (L : Int)) ((L : Int) + 2)).toNat)).2.2 ∧ (ia_Zn Z 3 (((L : Int) + max (x - (L : Int)) ((L : Int) + 2)).toNat)).1 b = 11 ∧ (ia_Zn Z 3 (((L : Int) + max (x - (L : Int)) ((L : Int) + 2)).toNat)).2.1 b = 0 := ⟨Nat.lt_succ_of_lt zb.1, (if_neg (by omega)).trans zb.2.1, (if_neg (by omega)).trans zb.2.2⟩
    refine j1 ?_
    refine jp (pc := 35) F zb cls1 f1_0 rfl (ia_nA rfl _) il_RJ5_15 dJ5_ensureCapacityInternal_d00df_35 ?_
    refine ia_return (pc := 38) F M (by decide) (by decide) dJ5_ensureCapacityInternal_d00df_38 ?_
    exact q2 _ _ _ _ (by omega) (SB_grow hB (m := (((L : Int) + max (x - (L : Int)) ((L : Int) + 2)).toNat)) ⟨by omega, by omega⟩ hz.1) (BX_grow hB) (by omega)
set_option maxRecDepth 100000 in
theorem c_J5_ens0 {Z : ia_Z} {V : ia_H} {Q : ia_O → ia_Z → ia_H → Prop} (b q n L : Nat) (t : Nat → Int) (x : Int)   (hB : SB b Z V n t q L) (hx : 0 ≤ x ∧ x ≤ (L : Int)) (q1 : Q (.inl none) Z V) : ia_K yJ5_ensureCapacityInternal_d00df cJ5_ensureCapacityInternal_d00df 3 none [(4, ((b : Nat) : Int)), (0, x)] Z V 4 0 0 Q := by
  refine ia_start RJ5 "ensureCapacityInternal" ⟨by decide, rfl, rfl⟩ (Nat.le_of_ble_eq_true rfl) (ia_tg rfl) (fun X F M => ?_)
  show ia_G X 0 0 0 [(4, ((b : Nat) : Int)), (0, x), (9, 0)] [] Z V
  obtain ⟨zb, zq, e0, e1, e3, hnL, ht, hr, hqq⟩ := id hB
  have hbq : b ≠ q := fun e => by have h1 := zb.2.1; have h2 := zq.2.1; rw [e] at h1; omega
  refine ia_aload_n (pc := 0) F dJ5_ensureCapacityInternal_d00df_0 rfl ?_
  refine jg (pc := 1) F zb cls1 f1_0 e0 il_RJ5_15 dJ5_ensureCapacityInternal_d00df_1 ?_
  refine jlen (pc := 4) F zq (by decide) dJ5_ensureCapacityInternal_d00df_4 ?_
  refine ia_aload_n (pc := 5) F dJ5_ensureCapacityInternal_d00df_5 rfl ?_
  refine jg (pc := 6) F (x := 0) zb cls1 f1_1 e1 il_RJ5_22 dJ5_ensureCapacityInternal_d00df_6 ?_
  refine ia_ishr (pc := 9) F dJ5_ensureCapacityInternal_d00df_9 ?_
  rw [ia_shr0 (x := ((L : Nat) : Int)) (by omega)]
  refine ia_istore_n (pc := 10) F (ls' := [(4, ((b : Nat) : Int)), (0, x), (0, ((L : Nat) : Int))]) dJ5_ensureCapacityInternal_d00df_10 (Nat.le_of_ble_eq_true rfl) rfl rfl ?_
  refine ia_iload_n (pc := 11) F dJ5_ensureCapacityInternal_d00df_11 rfl ?_
  refine ia_iload_n (pc := 12) F dJ5_ensureCapacityInternal_d00df_12 rfl ?_
  refine ia_isub (pc := 13) F dJ5_ensureCapacityInternal_d00df_13 ?_
  refine ia_if_le (pc := 14) F 38 dJ5_ensureCapacityInternal_d00df_14 rfl (by omega) (fun _ => ?_) (fun h9 => absurd h9 (by omega))
  refine ia_return (pc := 38) F M (by decide) (by decide) dJ5_ensureCapacityInternal_d00df_38 ?_
  exact q1
set_option maxRecDepth 100000 in
theorem c_J5_appendC {Z : ia_Z} {V : ia_H} {Q : ia_O → ia_Z → ia_H → Prop} (b q n L : Nat) (t : Nat → Int) (c : Int)   (hB : SB b Z V n t q L) (hc : 0 ≤ c ∧ c ≤ 126) (hn : n ≤ 90) (hz : 116 ≤ Z.2.2 ∧ Z.2.2 < 900000) (q1 : ∀ (Z1 : ia_Z) (V1 : ia_H) (q1 L1 : Nat), (SB b Z1 V1 (n + 1) (up t n c) q1 L1) → (BX b 1 Z V Z1 V1) → Q (.inl (some (4, ((b : Nat) : Int)))) Z1 V1) : ia_K yJ5_append_3fe6f cJ5_append_3fe6f 2 (some (.object "java/lang/AbstractStringBuilder")) [(4, ((b : Nat) : Int)), (0, c)] Z V 5 1 300 Q := by
  refine ia_start RJ5 "append" ⟨by decide, rfl, rfl⟩ (Nat.le_of_ble_eq_true rfl) (ia_tg rfl) (fun X F M => ?_)
  show ia_G X 0 0 0 [(4, ((b : Nat) : Int)), (0, c)] [] Z V
  obtain ⟨zb, zq, e0, e1, e3, hnL, ht, hr, hqq⟩ := id hB
  have hbq : b ≠ q := fun e => by have h1 := zb.2.1; have h2 := zq.2.1; rw [e] at h1; omega
  refine ia_aload_n (pc := 0) F dJ5_append_3fe6f_0 rfl ?_
  refine ia_aload_n (pc := 1) F dJ5_append_3fe6f_1 rfl ?_
  refine jg (pc := 2) F (x := (n : Int)) zb cls1 f1_3 e3 il_RJ5_79 dJ5_append_3fe6f_2 ?_
  refine ia_iconst (pc := 5) F dJ5_append_3fe6f_5 ?_
  refine ia_iadd (pc := 6) F dJ5_append_3fe6f_6 ?_
  refine jU (pc := 7) F 1 300 zb cls1.1 (c_J5_ensureCapacityInternal b q n L t ((n : Int) + 1) hB (by omega) (by omega) (fun h_1 => ?_) (fun Z1_2 V1_3 q1_4 L1_5 h_6 h_7 h_8 h_9 => ?_)) rfl ⟨k_J5_ensureCapacityInternal_d00df, il_RJ5_100, im_J5_ensureCapacityInternal_d00df, ii_RJ5⟩ (jse_ens F) 1 rfl hd_J5_ensureCapacityInternal_d00df ⟨by decide, by decide, by decide, by decide, Nat.le_of_ble_eq_true rfl⟩ dJ5_append_3fe6f_7
  · refine j0 ?_
    refine ia_aload_n (pc := 10) F dJ5_append_3fe6f_10 rfl ?_
    refine jU (pc := 11) F 1 300 zb cls1.1 (c_J5_isLatin1 b q n L t hB ?_) rfl ⟨k_J5_isLatin1_aae02, il_RJ5_83, im_J5_isLatin1_aae02, ii_RJ5⟩ (jse_lat F) 0 rfl hd_J5_isLatin1_aae02 ⟨by decide, by decide, by decide, by decide, Nat.le_of_ble_eq_true rfl⟩ dJ5_append_3fe6f_11
    refine j1 ?_
    refine ia_if_eq (pc := 14) F 45 dJ5_append_3fe6f_14 rfl (by omega) (fun h9 => absurd h9 (by omega)) (fun _ => ?_)
    refine ia_iload_n (pc := 17) F dJ5_append_3fe6f_17 rfl ?_
    refine jS2 (pc := 18) F 1 300 (c_J1_canEncode c (by omega) ?_) rfl ⟨k_J1_canEncode_fc78d, il_RJ5_191, it_J1_canEncode_fc78d, ii_RJ1⟩ 1 rfl hd_J1_canEncode_fc78d ⟨by decide, by decide, by decide, by decide, Nat.le_of_ble_eq_true rfl⟩ dJ5_append_3fe6f_18
    refine j1 ?_
    refine ia_if_eq (pc := 21) F 45 dJ5_append_3fe6f_21 rfl (by omega) (fun h9 => absurd h9 (by omega)) (fun _ => ?_)
    refine ia_aload_n (pc := 24) F dJ5_append_3fe6f_24 rfl ?_
    refine jg (pc := 25) F zb cls1 f1_0 e0 il_RJ5_15 dJ5_append_3fe6f_25 ?_
    refine ia_aload_n (pc := 28) F dJ5_append_3fe6f_28 rfl ?_
    refine ia_dup (pc := 29) F dJ5_append_3fe6f_29 (Or.inr (Or.inr rfl)) ?_
    refine jg (pc := 30) F (x := (n : Int)) zb cls1 f1_3 e3 il_RJ5_79 dJ5_append_3fe6f_30 ?_
    refine ia_dup_x1 (pc := 33) F dJ5_append_3fe6f_33 (Or.inl rfl) (Or.inr (Or.inr rfl)) ?_
    refine ia_iconst (pc := 34) F dJ5_append_3fe6f_34 ?_
    refine ia_iadd (pc := 35) F dJ5_append_3fe6f_35 ?_
    refine jp (pc := 36) F zb cls1 f1_3 rfl (ia_nI rfl _) il_RJ5_79 dJ5_append_3fe6f_36 ?_
    refine ia_iload_n (pc := 39) F dJ5_append_3fe6f_39 rfl ?_
    refine ia_i2b (pc := 40) F dJ5_append_3fe6f_40 ?_
    rw [ia_i8n (x := c) (by omega)]
    refine jsb (pc := 41) F zq n rfl (by omega) (by omega) dJ5_append_3fe6f_41 ?_
    refine ia_goto (pc := 42) F 75 dJ5_append_3fe6f_42 rfl ?_
    refine ia_aload_n (pc := 75) F dJ5_append_3fe6f_75 rfl ?_
    refine ia_areturn (pc := 76) F M (Or.inl ⟨_, rfl⟩) (by decide) (by decide) dJ5_append_3fe6f_76 ?_
    exact q1 _ _ _ _ (SB_put hB (by omega) hc ((ia_u_ne (Or.inl (by first | assumption | omega))).trans ((ia_u_ne (Or.inr (by decide))).trans e0)) ((ia_u_ne (Or.inl (by first | assumption | omega))).trans ((ia_u_ne (Or.inr (by decide))).trans e1)) (((ia_u_ne (Or.inl (by first | assumption | omega))).trans (ia_u_self _ _ _ _)).trans (by omega)) (rowU ((rowN (by first | assumption | omega)).trans (rfl : V q = V q)))) (BX_le (BX_uq (BX_ub BX_rf (by decide)) ((ia_u_ne (Or.inr (by decide))).trans e0) (by first | assumption | omega)) (by decide))
  · obtain ⟨zb, zq, e0, e1, e3, hnL, ht, hr, hqq⟩ := id h_7
    have hbq : b ≠ q1_4 := fun e => by have h1 := zb.2.1; have h2 := zq.2.1; rw [e] at h1; omega
    refine j0 ?_
    refine ia_aload_n (pc := 10) F dJ5_append_3fe6f_10 rfl ?_
    refine jU (pc := 11) F 1 300 zb cls1.1 (c_J5_isLatin1 b q1_4 n L1_5 t h_7 ?_) rfl ⟨k_J5_isLatin1_aae02, il_RJ5_83, im_J5_isLatin1_aae02, ii_RJ5⟩ (jse_lat F) 0 rfl hd_J5_isLatin1_aae02 ⟨by decide, by decide, by decide, by decide, Nat.le_of_ble_eq_true rfl⟩ dJ5_append_3fe6f_11
    refine j1 ?_
    refine ia_if_eq (pc := 14) F 45 dJ5_append_3fe6f_14 rfl (by omega) (fun h9 => absurd h9 (by omega)) (fun _ => ?_)
    refine ia_iload_n (pc := 17) F dJ5_append_3fe6f_17 rfl ?_
    refine jS2 (pc := 18) F 1 300 (c_J1_canEncode c (by omega) ?_) rfl ⟨k_J1_canEncode_fc78d, il_RJ5_191, it_J1_canEncode_fc78d, ii_RJ1⟩ 1 rfl hd_J1_canEncode_fc78d ⟨by decide, by decide, by decide, by decide, Nat.le_of_ble_eq_true rfl⟩ dJ5_append_3fe6f_18
    refine j1 ?_
    refine ia_if_eq (pc := 21) F 45 dJ5_append_3fe6f_21 rfl (by omega) (fun h9 => absurd h9 (by omega)) (fun _ => ?_)
    refine ia_aload_n (pc := 24) F dJ5_append_3fe6f_24 rfl ?_
    refine jg (pc := 25) F zb cls1 f1_0 e0 il_RJ5_15 dJ5_append_3fe6f_25 ?_
    refine ia_aload_n (pc := 28) F dJ5_append_3fe6f_28 rfl ?_
    refine ia_dup (pc := 29) F dJ5_append_3fe6f_29 (Or.inr (Or.inr rfl)) ?_
    refine jg (pc := 30) F (x := (n : Int)) zb cls1 f1_3 e3 il_RJ5_79 dJ5_append_3fe6f_30 ?_
    refine ia_dup_x1 (pc := 33) F dJ5_append_3fe6f_33 (Or.inl rfl) (Or.inr (Or.inr rfl)) ?_
    refine ia_iconst (pc := 34) F dJ5_append_3fe6f_34 ?_
    refine ia_iadd (pc := 35) F dJ5_append_3fe6f_35 ?_
    refine jp (pc := 36) F zb cls1 f1_3 rfl (ia_nI rfl _) il_RJ5_79 dJ5_append_3fe6f_36 ?_
    refine ia_iload_n (pc := 39) F dJ5_append_3fe6f_39 rfl ?_
    refine ia_i2b (pc := 40) F dJ5_append_3fe6f_40 ?_
    rw [ia_i8n (x := c) (by omega)]
    refine jsb (pc := 41) F zq n rfl (by omega) (by omega) dJ5_append_3fe6f_41 ?_
    refine ia_goto (pc := 42) F 75 dJ5_append_3fe6f_42 rfl ?_
    refine ia_aload_n (pc := 75) F dJ5_append_3fe6f_75 rfl ?_
    refine ia_areturn (pc := 76) F M (Or.inl ⟨_, rfl⟩) (by decide) (by decide) dJ5_append_3fe6f_76 ?_
    exact q1 _ _ _ _ (SB_put h_7 (by omega) hc ((ia_u_ne (Or.inl (by first | assumption | omega))).trans ((ia_u_ne (Or.inr (by decide))).trans e0)) ((ia_u_ne (Or.inl (by first | assumption | omega))).trans ((ia_u_ne (Or.inr (by decide))).trans e1)) (((ia_u_ne (Or.inl (by first | assumption | omega))).trans (ia_u_self _ _ _ _)).trans (by omega)) (rowU ((rowN (by first | assumption | omega)).trans (rfl : V1_3 q1_4 = V1_3 q1_4)))) (BX_uq (BX_ub (BX_trans BX_rf h_8) (by decide)) ((ia_u_ne (Or.inr (by decide))).trans e0) (by first | assumption | omega))
set_option maxRecDepth 100000 in
theorem c_J4_appendC {Z : ia_Z} {V : ia_H} {Q : ia_O → ia_Z → ia_H → Prop} (b q n L : Nat) (t : Nat → Int) (c : Int)   (hB : SB b Z V n t q L) (hc : 0 ≤ c ∧ c ≤ 126) (hn : n ≤ 90) (hz : 116 ≤ Z.2.2 ∧ Z.2.2 < 900000) (q1 : ∀ (Z1 : ia_Z) (V1 : ia_H) (q1 L1 : Nat), (SB b Z1 V1 (n + 1) (up t n c) q1 L1) → (BX b 1 Z V Z1 V1) → Q (.inl (some (4, ((b : Nat) : Int)))) Z1 V1) : ia_K yJ4_append_cf468 cJ4_append_cf468 2 (some (.object "java/lang/StringBuilder")) [(4, ((b : Nat) : Int)), (0, c)] Z V 6 1 300 Q := by
  refine ia_start RJ4 "append" ⟨by decide, rfl, rfl⟩ (Nat.le_of_ble_eq_true rfl) (ia_tg rfl) (fun X F M => ?_)
  show ia_G X 0 0 0 [(4, ((b : Nat) : Int)), (0, c)] [] Z V
  obtain ⟨zb, zq, e0, e1, e3, hnL, ht, hr, hqq⟩ := id hB
  have hbq : b ≠ q := fun e => by have h1 := zb.2.1; have h2 := zq.2.1; rw [e] at h1; omega
  refine ia_aload_n (pc := 0) F dJ4_append_cf468_0 rfl ?_
  refine ia_iload_n (pc := 1) F dJ4_append_cf468_1 rfl ?_
  refine jSU (pc := 2) F 1 300 zb cls1.1 (c_J5_appendC b q n L t c hB (by omega) (by omega) (by omega) (fun Z1_1 V1_2 q1_3 L1_4 h_5 h_6 => ?_)) rfl ⟨k_J5_append_3fe6f, il_RJ4_50, im_J5_append_3fe6f, ii_RJ5⟩ ⟨ism_J5_append_3fe6f, isup_J4, by decide⟩ 1 rfl hd_J5_append_3fe6f ⟨by decide, by decide, by decide, by decide, Nat.le_of_ble_eq_true rfl⟩ dJ4_append_cf468_2
  obtain ⟨zb, zq, e0, e1, e3, hnL, ht, hr, hqq⟩ := id h_5
  have hbq : b ≠ q1_3 := fun e => by have h1 := zb.2.1; have h2 := zq.2.1; rw [e] at h1; omega
  refine j1 ?_
  refine ia_pop (pc := 5) F dJ4_append_cf468_5 (Or.inr (Or.inr rfl)) ?_
  refine ia_aload_n (pc := 6) F dJ4_append_cf468_6 rfl ?_
  refine ia_areturn (pc := 7) F M (Or.inl ⟨_, rfl⟩) (by decide) (by decide) dJ4_append_cf468_7 ?_
  exact q1 _ _ _ _ h_5 h_6
set_option maxRecDepth 100000 in
theorem c_J5_setLength0 {Z : ia_Z} {V : ia_H} {Q : ia_O → ia_Z → ia_H → Prop} (bb q n L : Nat) (t : Nat → Int) (hP : PI V)  (hB : SB bb Z V n t q L) (nqbb : ∀ k : Nat, ptr bb k = none) (q1 : ∀ (V1 : ia_H), PI V1 → (∀ pp, pp ∉ ([bb] : List Nat) → V1 pp = V pp) → (∀ t1 : Nat → Int, SB bb Z V1 0 t1 q L) → Q (.inl none) Z V1) : ia_K yJ5_setLength_d00df cJ5_setLength_d00df 2 none [(4, ((bb : Nat) : Int)), (0, 0)] Z V 5 1 300 Q := by
  refine ia_start RJ5 "setLength" ⟨by decide, rfl, rfl⟩ (Nat.le_of_ble_eq_true rfl) (ia_tg rfl) (fun X F M => ?_)
  show ia_G X 0 0 0 [(4, ((bb : Nat) : Int)), (0, 0)] [] Z V
  obtain ⟨zb, zq, e0, e1, e3, hnL, ht, hr, hqq⟩ := id hB
  have hbq : bb ≠ q := fun e => by have h1 := zb.2.1; have h2 := zq.2.1; rw [e] at h1; omega
  refine ia_iload_n (pc := 0) F dJ5_setLength_d00df_0 rfl ?_
  refine ia_if_ge (pc := 1) F 13 dJ5_setLength_d00df_1 rfl (by omega) (fun _ => ?_) (fun h9 => absurd h9 (by omega))
  refine ia_aload_n (pc := 13) F dJ5_setLength_d00df_13 rfl ?_
  refine ia_iload_n (pc := 14) F dJ5_setLength_d00df_14 rfl ?_
  refine jU (pc := 15) F 0 0 zb cls1.1 (c_J5_ens0 bb q n L t 0 hB (by omega) ?_) rfl ⟨k_J5_ensureCapacityInternal_d00df, il_RJ5_100, im_J5_ensureCapacityInternal_d00df, ii_RJ5⟩ (jse_ens F) 1 rfl hd_J5_ensureCapacityInternal_d00df ⟨by decide, by decide, by decide, by decide, Nat.le_of_ble_eq_true rfl⟩ dJ5_setLength_d00df_15
  refine j0 ?_
  refine ia_aload_n (pc := 18) F dJ5_setLength_d00df_18 rfl ?_
  refine jg (pc := 19) F (x := (n : Int)) zb cls1 f1_3 e3 il_RJ5_79 dJ5_setLength_d00df_19 ?_
  refine ia_iload_n (pc := 22) F dJ5_setLength_d00df_22 rfl ?_
  refine ia_icmp_ge (pc := 23) F 63 dJ5_setLength_d00df_23 rfl (by omega) (by omega) (fun _ => ?_) (fun h9 => absurd h9 (by omega))
  refine ia_aload_n (pc := 63) F dJ5_setLength_d00df_63 rfl ?_
  refine jg (pc := 64) F (x := (n : Int)) zb cls1 f1_3 e3 il_RJ5_79 dJ5_setLength_d00df_64 ?_
  refine ia_iload_n (pc := 67) F dJ5_setLength_d00df_67 rfl ?_
  refine ia_icmp_le (pc := 68) F 76 dJ5_setLength_d00df_68 rfl (by omega) (by omega) (fun h_1 => ?_) (fun h_1 => ?_)
  · refine ia_aload_n (pc := 76) F dJ5_setLength_d00df_76 rfl ?_
    refine ia_iload_n (pc := 77) F dJ5_setLength_d00df_77 rfl ?_
    refine jp (pc := 78) F zb cls1 f1_3 rfl (ia_nI rfl _) il_RJ5_79 dJ5_setLength_d00df_78 ?_
    refine ia_return (pc := 81) F M (by decide) (by decide) dJ5_setLength_d00df_81 ?_
    exact q1 _ (PI_u hP (nqbb _)) (Fr_u (Fr_0 (V := V) (S := [bb])) (by simp)) (fun t1 => SB_nil hB ((ia_u_ne (Or.inr (by decide))).trans e0) ((ia_u_ne (Or.inr (by decide))).trans e1) (ia_u_self _ _ _ _) ((rowN (by first | assumption | omega)).trans (rfl : V q = V q)))
  · refine ia_aload_n (pc := 71) F dJ5_setLength_d00df_71 rfl ?_
    refine ia_iconst (pc := 72) F dJ5_setLength_d00df_72 ?_
    refine jp (pc := 73) F zb cls1 f1_2 rfl (ia_nZ rfl (Or.inr rfl)) il_RJ5_73 dJ5_setLength_d00df_73 ?_
    refine ia_aload_n (pc := 76) F dJ5_setLength_d00df_76 rfl ?_
    refine ia_iload_n (pc := 77) F dJ5_setLength_d00df_77 rfl ?_
    refine jp (pc := 78) F zb cls1 f1_3 rfl (ia_nI rfl _) il_RJ5_79 dJ5_setLength_d00df_78 ?_
    refine ia_return (pc := 81) F M (by decide) (by decide) dJ5_setLength_d00df_81 ?_
    exact q1 _ (PI_u (PI_u hP (nqbb _)) (nqbb _)) (Fr_u (Fr_u (Fr_0 (V := V) (S := [bb])) (by simp)) (by simp)) (fun t1 => SB_nil hB ((ia_u_ne (Or.inr (by decide))).trans ((ia_u_ne (Or.inr (by decide))).trans e0)) ((ia_u_ne (Or.inr (by decide))).trans ((ia_u_ne (Or.inr (by decide))).trans e1)) (ia_u_self _ _ _ _) ((rowN (by first | assumption | omega)).trans ((rowN (by first | assumption | omega)).trans (rfl : V q = V q))))
set_option maxRecDepth 100000 in
theorem c_J4_setLength0 {Z : ia_Z} {V : ia_H} {Q : ia_O → ia_Z → ia_H → Prop} (bb q n L : Nat) (t : Nat → Int) (hP : PI V)  (hB : SB bb Z V n t q L) (nqbb : ∀ k : Nat, ptr bb k = none) (q1 : ∀ (V1 : ia_H), PI V1 → (∀ pp, pp ∉ ([bb] : List Nat) → V1 pp = V pp) → (∀ t1 : Nat → Int, SB bb Z V1 0 t1 q L) → Q (.inl none) Z V1) : ia_K yJ4_setLength_d00df cJ4_setLength_d00df 2 none [(4, ((bb : Nat) : Int)), (0, 0)] Z V 6 1 300 Q := by
  refine ia_start RJ4 "setLength" ⟨by decide, rfl, rfl⟩ (Nat.le_of_ble_eq_true rfl) (ia_tg rfl) (fun X F M => ?_)
  show ia_G X 0 0 0 [(4, ((bb : Nat) : Int)), (0, 0)] [] Z V
  obtain ⟨zb, zq, e0, e1, e3, hnL, ht, hr, hqq⟩ := id hB
  have hbq : bb ≠ q := fun e => by have h1 := zb.2.1; have h2 := zq.2.1; rw [e] at h1; omega
  refine ia_aload_n (pc := 0) F dJ4_setLength_d00df_0 rfl ?_
  refine ia_iload_n (pc := 1) F dJ4_setLength_d00df_1 rfl ?_
  refine jSU (pc := 2) F 1 300 zb cls1.1 (c_J5_setLength0 bb q n L t hP hB nqbb (fun V_1 p_2 f_3 x_4 => ?_)) rfl ⟨k_J5_setLength_d00df, il_RJ4_333, im_J5_setLength_d00df, ii_RJ5⟩ ⟨ism_J5_setLength_d00df, isup_J4, by decide⟩ 1 rfl hd_J5_setLength_d00df ⟨by decide, by decide, by decide, by decide, Nat.le_of_ble_eq_true rfl⟩ dJ4_setLength_d00df_2
  refine j0 ?_
  refine ia_return (pc := 5) F M (by decide) (by decide) dJ4_setLength_d00df_5 ?_
  exact q1 _ p_2 (Fr_c (Fr_0 (V := V) (S := [bb])) f_3 (by simp)) x_4
set_option maxRecDepth 100000 in
theorem c_J3_checkIndex {Z : ia_Z} {V : ia_H} {Q : ia_O → ia_Z → ia_H → Prop} (i : Int) (m : Int) (f : Int)   (hi : 0 ≤ i ∧ i < m ∧ m ≤ 100000) (q1 : Q (.inl (some (0, i))) Z V) : ia_K yJ3_checkIndex_8e157 cJ3_checkIndex_8e157 3 (some .int) [(0, i), (0, m), (4, f)] Z V 1 0 0 Q := by
  refine ia_start RJ3 "checkIndex" ⟨by decide, rfl, rfl⟩ (Nat.le_of_ble_eq_true rfl) (ia_tg rfl) (fun X F M => ?_)
  show ia_G X 0 0 0 [(0, i), (0, m), (4, f)] [] Z V
  refine ia_iload_n (pc := 0) F dJ3_checkIndex_8e157_0 rfl ?_
  refine ia_if_lt (pc := 1) F 9 dJ3_checkIndex_8e157_1 rfl (by omega) (fun h9 => absurd h9 (by omega)) (fun _ => ?_)
  refine ia_iload_n (pc := 4) F dJ3_checkIndex_8e157_4 rfl ?_
  refine ia_iload_n (pc := 5) F dJ3_checkIndex_8e157_5 rfl ?_
  refine ia_icmp_lt (pc := 6) F 16 dJ3_checkIndex_8e157_6 rfl (by omega) (by omega) (fun _ => ?_) (fun h9 => absurd h9 (by omega))
  refine ia_iload_n (pc := 16) F dJ3_checkIndex_8e157_16 rfl ?_
  refine ia_ireturn (pc := 17) F M (by decide) (by decide) dJ3_checkIndex_8e157_17 ?_
  exact q1
set_option maxRecDepth 100000 in
theorem c_J0_checkIndex {Z : ia_Z} {V : ia_H} {Q : ia_O → ia_Z → ia_H → Prop} (i : Int) (m : Int)   (hi : 0 ≤ i ∧ i < m ∧ m ≤ 100000) (q1 : Q (.inl none) Z V) : ia_K yJ0_checkIndex_df160 cJ0_checkIndex_df160 2 none [(0, i), (0, m)] Z V 2 0 0 Q := by
  refine ia_start RJ0 "checkIndex" ⟨by decide, rfl, rfl⟩ (Nat.le_of_ble_eq_true rfl) (ia_tg rfl) (fun X F M => ?_)
  show ia_G X 0 0 0 [(0, i), (0, m)] [] Z V
  refine ia_iload_n (pc := 0) F dJ0_checkIndex_df160_0 rfl ?_
  refine ia_iload_n (pc := 1) F dJ0_checkIndex_df160_1 rfl ?_
  refine ia_getSioobe (pc := 2) F il_RJ0_1053 dJ0_checkIndex_df160_2 (fun x9 => ?_)
  refine jS2 (pc := 5) F 0 0 (c_J3_checkIndex i m x9 (by omega) ?_) rfl ⟨k_J3_checkIndex_8e157, il_RJ0_1059, it_J3_checkIndex_8e157, ii_RJ3⟩ 3 rfl hd_J3_checkIndex_8e157 ⟨by decide, by decide, by decide, by decide, Nat.le_of_ble_eq_true rfl⟩ dJ0_checkIndex_df160_5
  refine j1 ?_
  refine ia_pop (pc := 8) F dJ0_checkIndex_df160_8 (Or.inl rfl) ?_
  refine ia_return (pc := 9) F M (by decide) (by decide) dJ0_checkIndex_df160_9 ?_
  exact q1
set_option maxRecDepth 100000 in
theorem c_J5_charAt {Z : ia_Z} {V : ia_H} {Q : ia_O → ia_Z → ia_H → Prop} (b q n L : Nat) (t : Nat → Int) (i : Nat)   (hB : SB b Z V n t q L) (hi : i < n) (q1 : Q (.inl (some (0, (t i)))) Z V) : ia_K yJ5_charAt_5068e cJ5_charAt_5068e 5 (some .char) [(4, ((b : Nat) : Int)), (0, (i : Int))] Z V 3 0 0 Q := by
  refine ia_start RJ5 "charAt" ⟨by decide, rfl, rfl⟩ (Nat.le_of_ble_eq_true rfl) (ia_tg rfl) (fun X F M => ?_)
  show ia_G X 0 0 0 [(4, ((b : Nat) : Int)), (0, (i : Int)), (9, 0), (9, 0), (9, 0)] [] Z V
  obtain ⟨zb, zq, e0, e1, e3, hnL, ht, hr, hqq⟩ := id hB
  have hbq : b ≠ q := fun e => by have h1 := zb.2.1; have h2 := zq.2.1; rw [e] at h1; omega
  have r9 : 0 ≤ t i ∧ t i ≤ 126 := by rw [← ht i (by omega)]; exact hr i (by omega)
  refine ia_aload_n (pc := 0) F dJ5_charAt_5068e_0 rfl ?_
  refine jg (pc := 1) F (x := 0) zb cls1 f1_1 e1 il_RJ5_22 dJ5_charAt_5068e_1 ?_
  refine ia_istore_n (pc := 4) F (ls' := [(4, ((b : Nat) : Int)), (0, (i : Int)), (0, 0), (9, 0), (9, 0)]) dJ5_charAt_5068e_4 (Nat.le_of_ble_eq_true rfl) rfl rfl ?_
  refine ia_aload_n (pc := 5) F dJ5_charAt_5068e_5 rfl ?_
  refine jg (pc := 6) F zb cls1 f1_0 e0 il_RJ5_15 dJ5_charAt_5068e_6 ?_
  refine ia_astore_n (pc := 9) F (ls' := [(4, ((b : Nat) : Int)), (0, (i : Int)), (0, 0), (4, ((q : Nat) : Int)), (9, 0)]) dJ5_charAt_5068e_9 (Nat.le_of_ble_eq_true rfl) rfl rfl ?_
  refine ia_aload_n (pc := 10) F dJ5_charAt_5068e_10 rfl ?_
  refine jg (pc := 11) F (x := (n : Int)) zb cls1 f1_3 e3 il_RJ5_79 dJ5_charAt_5068e_11 ?_
  refine ia_aload_n (pc := 14) F dJ5_charAt_5068e_14 rfl ?_
  refine jlen (pc := 15) F zq (by decide) dJ5_charAt_5068e_15 ?_
  refine ia_iload_n (pc := 16) F dJ5_charAt_5068e_16 rfl ?_
  refine ia_ishr (pc := 17) F dJ5_charAt_5068e_17 ?_
  rw [ia_shr0 (x := ((L : Nat) : Int)) (by omega)]
  refine ia_min (pc := 18) F (by omega) (by omega) ⟨il_RJ5_138, it_mmin, ii_RJ9, k_mmin⟩ ⟨by decide, Nat.le_of_ble_eq_true rfl, by decide, by decide⟩ dJ5_charAt_5068e_18 ?_
  rw [ia_minE (n : Int) ((L : Nat) : Int)]
  refine ia_istore (pc := 21) F (ls' := [(4, ((b : Nat) : Int)), (0, (i : Int)), (0, 0), (4, ((q : Nat) : Int)), (0, (min (n : Int) ((L : Nat) : Int)))]) dJ5_charAt_5068e_21 (Nat.le_of_ble_eq_true rfl) rfl rfl ?_
  refine ia_iload_n (pc := 23) F dJ5_charAt_5068e_23 rfl ?_
  refine ia_iload (pc := 24) F dJ5_charAt_5068e_24 rfl ?_
  refine jS2 (pc := 26) F 0 0 (c_J0_checkIndex (i : Int) (min (n : Int) ((L : Nat) : Int)) (by omega) ?_) rfl ⟨k_J0_checkIndex_df160, il_RJ5_144, it_J0_checkIndex_df160, ii_RJ0⟩ 2 rfl hd_J0_checkIndex_df160 ⟨by decide, by decide, by decide, by decide, Nat.le_of_ble_eq_true rfl⟩ dJ5_charAt_5068e_26
  refine j0 ?_
  refine ia_iload_n (pc := 29) F dJ5_charAt_5068e_29 rfl ?_
  refine ia_if_ne (pc := 30) F 42 dJ5_charAt_5068e_30 rfl (by omega) (fun h9 => absurd h9 (by omega)) (fun _ => ?_)
  refine ia_aload_n (pc := 33) F dJ5_charAt_5068e_33 rfl ?_
  refine ia_iload_n (pc := 34) F dJ5_charAt_5068e_34 rfl ?_
  refine jab (pc := 35) F (v := t i) zq i rfl (by omega) ((congrFun (rfl : V q = V q) i).trans (ht i (by omega))) dJ5_charAt_5068e_35 ?_
  refine ia_sipush (pc := 36) F dJ5_charAt_5068e_36 (by decide) ?_
  refine ia_iand (pc := 39) F dJ5_charAt_5068e_39 ?_
  rw [ia_and255 (x := t i) (by omega)]
  refine ia_i2c (pc := 40) F dJ5_charAt_5068e_40 ?_
  rw [show (t i) % 65536 = t i from by omega]
  refine ia_creturnI (pc := 41) F M (by omega) (by decide) (by decide) dJ5_charAt_5068e_41 ?_
  exact q1
set_option maxRecDepth 100000 in
theorem c_J4_charAt {Z : ia_Z} {V : ia_H} {Q : ia_O → ia_Z → ia_H → Prop} (b q n L : Nat) (t : Nat → Int) (i : Nat)   (hB : SB b Z V n t q L) (hi : i < n) (q1 : Q (.inl (some (0, (t i)))) Z V) : ia_K yJ4_charAt_5068e cJ4_charAt_5068e 2 (some .char) [(4, ((b : Nat) : Int)), (0, (i : Int))] Z V 4 0 0 Q := by
  refine ia_start RJ4 "charAt" ⟨by decide, rfl, rfl⟩ (Nat.le_of_ble_eq_true rfl) (ia_tg rfl) (fun X F M => ?_)
  show ia_G X 0 0 0 [(4, ((b : Nat) : Int)), (0, (i : Int))] [] Z V
  obtain ⟨zb, zq, e0, e1, e3, hnL, ht, hr, hqq⟩ := id hB
  have hbq : b ≠ q := fun e => by have h1 := zb.2.1; have h2 := zq.2.1; rw [e] at h1; omega
  have r9 : 0 ≤ t i ∧ t i ≤ 126 := by rw [← ht i (by omega)]; exact hr i (by omega)
  refine ia_aload_n (pc := 0) F dJ4_charAt_5068e_0 rfl ?_
  refine ia_iload_n (pc := 1) F dJ4_charAt_5068e_1 rfl ?_
  refine jSU (pc := 2) F 0 0 zb cls1.1 (c_J5_charAt b q n L t i hB (by omega) ?_) rfl ⟨k_J5_charAt_5068e, il_RJ4_329, im_J5_charAt_5068e, ii_RJ5⟩ ⟨ism_J5_charAt_5068e, isup_J4, by decide⟩ 1 rfl hd_J5_charAt_5068e ⟨by decide, by decide, by decide, by decide, Nat.le_of_ble_eq_true rfl⟩ dJ4_charAt_5068e_2
  refine j1 ?_
  refine ia_creturnI (pc := 5) F M (by omega) (by decide) (by decide) dJ4_charAt_5068e_5 ?_
  exact q1
