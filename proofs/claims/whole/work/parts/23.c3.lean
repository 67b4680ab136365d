/-! the class: copies of the shop, the states that can come back (made by wip/whole/c1.py) -/
set_option maxRecDepth 100000 in
theorem c_X6_copyFrom {Z : ia_Z} {V : ia_H} {Q : ia_O → ia_Z → ia_H → Prop} {f0 : Nat → Int} {g0 : Nat → Int} {f1 : Nat → Int} {g1 : Nat → Int} {f2 : Nat → Int} {g2 : Nat → Int} {f3 : Nat → Int} {g3 : Nat → Int} {f4 : Nat → Int} {g4 : Nat → Int} {f5 : Nat → Int} {g5 : Nat → Int} {f6 : Nat → Int} {g6 : Nat → Int} (b c b1 c1 b2 c2 b3 c3 b4 c4 b5 c5 b6 c6 : Nat) (hZ : ZI Z) (hP : PI V) (hb : V b = f0) (hc : V c = g0) (hb1 : V b1 = f1) (hc1 : V c1 = g1) (hb2 : V b2 = f2) (hc2 : V c2 = g2) (hb3 : V b3 = f3) (hc3 : V c3 = g3) (hb4 : V b4 = f4) (hc4 : V c4 = g4) (hb5 : V b5 = f5) (hc5 : V c5 = g5) (hb6 : V b6 = f6) (hc6 : V c6 = g6) (zb : b < Z.2.2 ∧ Z.1 b = 19 ∧ Z.2.1 b = 0) (zb1 : b1 < Z.2.2 ∧ Z.1 b1 = 0 ∧ Z.2.1 b1 = 10) (ptb1 : ptr b 0 = some b1) (zb2 : b2 < Z.2.2 ∧ Z.1 b2 = 0 ∧ Z.2.1 b2 = 7) (ptb2 : ptr b 1 = some b2) (zb3 : b3 < Z.2.2 ∧ Z.1 b3 = 0 ∧ Z.2.1 b3 = 7) (ptb3 : ptr b 2 = some b3) (zb4 : b4 < Z.2.2 ∧ Z.1 b4 = 0 ∧ Z.2.1 b4 = 7) (ptb4 : ptr b 3 = some b4) (zb5 : b5 < Z.2.2 ∧ Z.1 b5 = 0 ∧ Z.2.1 b5 = 12) (ptb5 : ptr b 4 = some b5) (zb6 : b6 < Z.2.2 ∧ Z.1 b6 = 0 ∧ Z.2.1 b6 = 12) (ptb6 : ptr b 5 = some b6) (zc : c < Z.2.2 ∧ Z.1 c = 19 ∧ Z.2.1 c = 0) (zc1 : c1 < Z.2.2 ∧ Z.1 c1 = 0 ∧ Z.2.1 c1 = 10) (ptc1 : ptr c 0 = some c1) (zc2 : c2 < Z.2.2 ∧ Z.1 c2 = 0 ∧ Z.2.1 c2 = 7) (ptc2 : ptr c 1 = some c2) (zc3 : c3 < Z.2.2 ∧ Z.1 c3 = 0 ∧ Z.2.1 c3 = 7) (ptc3 : ptr c 2 = some c3) (zc4 : c4 < Z.2.2 ∧ Z.1 c4 = 0 ∧ Z.2.1 c4 = 7) (ptc4 : ptr c 3 = some c4) (zc5 : c5 < Z.2.2 ∧ Z.1 c5 = 0 ∧ Z.2.1 c5 = 12) (ptc5 : ptr c 4 = some c5) (zc6 : c6 < Z.2.2 ∧ Z.1 c6 = 0 ∧ Z.2.1 c6 = 12) (ptc6 : ptr c 5 = some c6) (eqb : b1 = b + 1 ∧ b2 = b + 2 ∧ b3 = b + 3 ∧ b4 = b + 4 ∧ b5 = b + 5 ∧ b6 = b + 6) (eqc : c1 = c + 1 ∧ c2 = c + 2 ∧ c3 = c + 3 ∧ c4 = c + 4 ∧ c5 = c + 5 ∧ c6 = c + 6) (dis : b + 7 ≤ c ∨ c + 7 ≤ b) (nqc : ∀ k : Nat, 6 ≤ k → ptr c k = none) (nqc1 : ∀ k : Nat, ptr c1 k = none) (nqc2 : ∀ k : Nat, ptr c2 k = none) (nqc3 : ∀ k : Nat, ptr c3 k = none) (nqc4 : ∀ k : Nat, ptr c4 k = none) (nqc5 : ∀ k : Nat, ptr c5 k = none) (nqc6 : ∀ k : Nat, ptr c6 k = none) (q1 : ∀ (V1 : ia_H), PI V1 → (V1 c = (up (up (up (up (up (up (up (up (up g0 6 (f0 6)) 7 (f0 7)) 8 (f0 8)) 9 (f0 9)) 10 (f0 10)) 11 (f0 11)) 12 (f0 12)) 13 (f0 13)) 14 (f0 14))) → (V1 c1 = mgk 10 f1 g1) → (V1 c2 = mgk 7 f2 g2) → (V1 c3 = mgk 7 f3 g3) → (V1 c4 = mgk 7 f4 g4) → (V1 c5 = mgk 12 f5 g5) → (V1 c6 = mgk 12 f6 g6) → (∀ pp, pp ∉ ([c, c1, c2, c3, c4, c5, c6] : List Nat) → V1 pp = V pp) → Q (.inl none) Z V1) : ia_K yX6_copyFrom cX6_copyFrom 2 none [(4, ((c : Nat) : Int)), (4, ((b : Nat) : Int))] Z V 2 0 0 Q := by
  refine ia_start RX6 "copyFrom" ⟨by decide, rfl, rfl⟩ (Nat.le_of_ble_eq_true rfl) (ia_tg rfl) (fun X F M => ?_)
  show ia_G X 0 0 0 [(4, ((c : Nat) : Int)), (4, ((b : Nat) : Int))] [] Z V
  refine ia_aload_n (pc := 0) F dX6_copyFrom_0 rfl ?_
  refine jg (pc := 1) F zb cls9 f9_0 (hP b 0 b1 ptb1) il_RX6_9 dX6_copyFrom_1 ?_
  refine ia_iconst (pc := 4) F dX6_copyFrom_4 ?_
  refine ia_aload_n (pc := 5) F dX6_copyFrom_5 rfl ?_
  refine jg (pc := 6) F zc cls9 f9_0 (hP c 0 c1 ptc1) il_RX6_9 dX6_copyFrom_6 ?_
  refine ia_iconst (pc := 9) F dX6_copyFrom_9 ?_
  refine ia_bipush (pc := 10) F dX6_copyFrom_10 (by decide) ?_
  refine jcp (pc := 12) F zb1 zc1 10 rfl (by decide) (by decide) ⟨il_RX6_59, in_arraycopy, it_arraycopy, ii_RJ10⟩ ⟨by decide, Nat.le_of_ble_eq_true rfl⟩ dX6_copyFrom_12 ?_
  refine ia_aload_n (pc := 15) F dX6_copyFrom_15 rfl ?_
  refine jg (pc := 16) F zb cls9 f9_1 ((PI_cp hP nqc1) b 1 b2 ptb2) il_RX6_15 dX6_copyFrom_16 ?_
  refine ia_iconst (pc := 19) F dX6_copyFrom_19 ?_
  refine ia_aload_n (pc := 20) F dX6_copyFrom_20 rfl ?_
  refine jg (pc := 21) F zc cls9 f9_1 ((PI_cp hP nqc1) c 1 c2 ptc2) il_RX6_15 dX6_copyFrom_21 ?_
  refine ia_iconst (pc := 24) F dX6_copyFrom_24 ?_
  refine ia_bipush (pc := 25) F dX6_copyFrom_25 (by decide) ?_
  refine jcp (pc := 27) F zb2 zc2 7 rfl (by decide) (by decide) ⟨il_RX6_59, in_arraycopy, it_arraycopy, ii_RJ10⟩ ⟨by decide, Nat.le_of_ble_eq_true rfl⟩ dX6_copyFrom_27 ?_
  refine ia_aload_n (pc := 30) F dX6_copyFrom_30 rfl ?_
  refine jg (pc := 31) F zb cls9 f9_2 ((PI_cp (PI_cp hP nqc1) nqc2) b 2 b3 ptb3) il_RX6_18 dX6_copyFrom_31 ?_
  refine ia_iconst (pc := 34) F dX6_copyFrom_34 ?_
  refine ia_aload_n (pc := 35) F dX6_copyFrom_35 rfl ?_
  refine jg (pc := 36) F zc cls9 f9_2 ((PI_cp (PI_cp hP nqc1) nqc2) c 2 c3 ptc3) il_RX6_18 dX6_copyFrom_36 ?_
  refine ia_iconst (pc := 39) F dX6_copyFrom_39 ?_
  refine ia_bipush (pc := 40) F dX6_copyFrom_40 (by decide) ?_
  refine jcp (pc := 42) F zb3 zc3 7 rfl (by decide) (by decide) ⟨il_RX6_59, in_arraycopy, it_arraycopy, ii_RJ10⟩ ⟨by decide, Nat.le_of_ble_eq_true rfl⟩ dX6_copyFrom_42 ?_
  refine ia_aload_n (pc := 45) F dX6_copyFrom_45 rfl ?_
  refine jg (pc := 46) F zb cls9 f9_3 ((PI_cp (PI_cp (PI_cp hP nqc1) nqc2) nqc3) b 3 b4 ptb4) il_RX6_21 dX6_copyFrom_46 ?_
  refine ia_iconst (pc := 49) F dX6_copyFrom_49 ?_
  refine ia_aload_n (pc := 50) F dX6_copyFrom_50 rfl ?_
  refine jg (pc := 51) F zc cls9 f9_3 ((PI_cp (PI_cp (PI_cp hP nqc1) nqc2) nqc3) c 3 c4 ptc4) il_RX6_21 dX6_copyFrom_51 ?_
  refine ia_iconst (pc := 54) F dX6_copyFrom_54 ?_
  refine ia_bipush (pc := 55) F dX6_copyFrom_55 (by decide) ?_
  refine jcp (pc := 57) F zb4 zc4 7 rfl (by decide) (by decide) ⟨il_RX6_59, in_arraycopy, it_arraycopy, ii_RJ10⟩ ⟨by decide, Nat.le_of_ble_eq_true rfl⟩ dX6_copyFrom_57 ?_
  refine ia_aload_n (pc := 60) F dX6_copyFrom_60 rfl ?_
  refine jg (pc := 61) F zb cls9 f9_4 ((PI_cp (PI_cp (PI_cp (PI_cp hP nqc1) nqc2) nqc3) nqc4) b 4 b5 ptb5) il_RX6_24 dX6_copyFrom_61 ?_
  refine ia_iconst (pc := 64) F dX6_copyFrom_64 ?_
  refine ia_aload_n (pc := 65) F dX6_copyFrom_65 rfl ?_
  refine jg (pc := 66) F zc cls9 f9_4 ((PI_cp (PI_cp (PI_cp (PI_cp hP nqc1) nqc2) nqc3) nqc4) c 4 c5 ptc5) il_RX6_24 dX6_copyFrom_66 ?_
  refine ia_iconst (pc := 69) F dX6_copyFrom_69 ?_
  refine ia_bipush (pc := 70) F dX6_copyFrom_70 (by decide) ?_
  refine jcp (pc := 72) F zb5 zc5 12 rfl (by decide) (by decide) ⟨il_RX6_59, in_arraycopy, it_arraycopy, ii_RJ10⟩ ⟨by decide, Nat.le_of_ble_eq_true rfl⟩ dX6_copyFrom_72 ?_
  refine ia_aload_n (pc := 75) F dX6_copyFrom_75 rfl ?_
  refine jg (pc := 76) F zb cls9 f9_5 ((PI_cp (PI_cp (PI_cp (PI_cp (PI_cp hP nqc1) nqc2) nqc3) nqc4) nqc5) b 5 b6 ptb6) il_RX6_27 dX6_copyFrom_76 ?_
  refine ia_iconst (pc := 79) F dX6_copyFrom_79 ?_
  refine ia_aload_n (pc := 80) F dX6_copyFrom_80 rfl ?_
  refine jg (pc := 81) F zc cls9 f9_5 ((PI_cp (PI_cp (PI_cp (PI_cp (PI_cp hP nqc1) nqc2) nqc3) nqc4) nqc5) c 5 c6 ptc6) il_RX6_27 dX6_copyFrom_81 ?_
  refine ia_iconst (pc := 84) F dX6_copyFrom_84 ?_
  refine ia_bipush (pc := 85) F dX6_copyFrom_85 (by decide) ?_
  refine jcp (pc := 87) F zb6 zc6 12 rfl (by decide) (by decide) ⟨il_RX6_59, in_arraycopy, it_arraycopy, ii_RJ10⟩ ⟨by decide, Nat.le_of_ble_eq_true rfl⟩ dX6_copyFrom_87 ?_
  have L90 : ∀ (V2 : ia_H), (PI V2) → (V2 b = f0) → (V2 c = g0) → (V2 c1 = mgk 10 f1 g1) → (V2 c2 = mgk 7 f2 g2) → (V2 c3 = mgk 7 f3 g3) → (V2 c4 = mgk 7 f4 g4) → (V2 c5 = mgk 12 f5 g5) → (V2 c6 = mgk 12 f6 g6) → (∀ pp, pp ∉ ([c, c1, c2, c3, c4, c5, c6] : List Nat) → V2 pp = V pp) → ia_G X 0 0 90 [(4, ((c : Nat) : Int)), (4, ((b : Nat) : Int))] [] Z V2 := by
    intro V2 hP2 w2_b w2_c w2_c1 w2_c2 w2_c3 w2_c4 w2_c5 w2_c6 hF2
    refine ia_aload_n (pc := 90) F dX6_copyFrom_90 rfl ?_
    refine ia_aload_n (pc := 91) F dX6_copyFrom_91 rfl ?_
    refine jg (pc := 92) F (x := f0 6) zb cls9 f9_6 (congrFun w2_b 6) il_RX6_30 dX6_copyFrom_92 ?_
    refine jp (pc := 95) F zc cls9 f9_6 rfl (ia_nI rfl _) il_RX6_30 dX6_copyFrom_95 ?_
    refine ia_aload_n (pc := 98) F dX6_copyFrom_98 rfl ?_
    refine ia_aload_n (pc := 99) F dX6_copyFrom_99 rfl ?_
    refine jg (pc := 100) F (x := f0 7) zb cls9 f9_7 (congrFun ((rowN (by first | assumption | omega)).trans w2_b) 7) il_RX6_34 dX6_copyFrom_100 ?_
    refine jp (pc := 103) F zc cls9 f9_7 rfl (ia_nI rfl _) il_RX6_34 dX6_copyFrom_103 ?_
    refine ia_aload_n (pc := 106) F dX6_copyFrom_106 rfl ?_
    refine ia_aload_n (pc := 107) F dX6_copyFrom_107 rfl ?_
    refine jg (pc := 108) F (x := f0 8) zb cls9 f9_8 (congrFun ((rowN (by first | assumption | omega)).trans ((rowN (by first | assumption | omega)).trans w2_b)) 8) il_RX6_37 dX6_copyFrom_108 ?_
    refine jp (pc := 111) F zc cls9 f9_8 rfl (ia_nI rfl _) il_RX6_37 dX6_copyFrom_111 ?_
    refine ia_aload_n (pc := 114) F dX6_copyFrom_114 rfl ?_
    refine ia_aload_n (pc := 115) F dX6_copyFrom_115 rfl ?_
    refine jg (pc := 116) F (x := f0 9) zb cls9 f9_9 (congrFun ((rowN (by first | assumption | omega)).trans ((rowN (by first | assumption | omega)).trans ((rowN (by first | assumption | omega)).trans w2_b))) 9) il_RX6_40 dX6_copyFrom_116 ?_
    refine jp (pc := 119) F zc cls9 f9_9 rfl (ia_nI rfl _) il_RX6_40 dX6_copyFrom_119 ?_
    refine ia_aload_n (pc := 122) F dX6_copyFrom_122 rfl ?_
    refine ia_aload_n (pc := 123) F dX6_copyFrom_123 rfl ?_
    refine jg (pc := 124) F (x := f0 10) zb cls9 f9_10 (congrFun ((rowN (by first | assumption | omega)).trans ((rowN (by first | assumption | omega)).trans ((rowN (by first | assumption | omega)).trans ((rowN (by first | assumption | omega)).trans w2_b)))) 10) il_RX6_43 dX6_copyFrom_124 ?_
    refine jp (pc := 127) F zc cls9 f9_10 rfl (ia_nI rfl _) il_RX6_43 dX6_copyFrom_127 ?_
    refine ia_aload_n (pc := 130) F dX6_copyFrom_130 rfl ?_
    refine ia_aload_n (pc := 131) F dX6_copyFrom_131 rfl ?_
    refine jg (pc := 132) F (x := f0 11) zb cls9 f9_11 (congrFun ((rowN (by first | assumption | omega)).trans ((rowN (by first | assumption | omega)).trans ((rowN (by first | assumption | omega)).trans ((rowN (by first | assumption | omega)).trans ((rowN (by first | assumption | omega)).trans w2_b))))) 11) il_RX6_46 dX6_copyFrom_132 ?_
    refine jp (pc := 135) F zc cls9 f9_11 rfl (ia_nI rfl _) il_RX6_46 dX6_copyFrom_135 ?_
    refine ia_aload_n (pc := 138) F dX6_copyFrom_138 rfl ?_
    refine ia_aload_n (pc := 139) F dX6_copyFrom_139 rfl ?_
    refine jg (pc := 140) F (x := f0 12) zb cls9 f9_12 (congrFun ((rowN (by first | assumption | omega)).trans ((rowN (by first | assumption | omega)).trans ((rowN (by first | assumption | omega)).trans ((rowN (by first | assumption | omega)).trans ((rowN (by first | assumption | omega)).trans ((rowN (by first | assumption | omega)).trans w2_b)))))) 12) il_RX6_49 dX6_copyFrom_140 ?_
    refine jp (pc := 143) F zc cls9 f9_12 rfl (ia_nI rfl _) il_RX6_49 dX6_copyFrom_143 ?_
    refine ia_aload_n (pc := 146) F dX6_copyFrom_146 rfl ?_
    refine ia_aload_n (pc := 147) F dX6_copyFrom_147 rfl ?_
    refine jg (pc := 148) F (x := f0 13) zb cls9 f9_13 (congrFun ((rowN (by first | assumption | omega)).trans ((rowN (by first | assumption | omega)).trans ((rowN (by first | assumption | omega)).trans ((rowN (by first | assumption | omega)).trans ((rowN (by first | assumption | omega)).trans ((rowN (by first | assumption | omega)).trans ((rowN (by first | assumption | omega)).trans w2_b))))))) 13) il_RX6_52 dX6_copyFrom_148 ?_
    refine jp (pc := 151) F zc cls9 f9_13 rfl (ia_nI rfl _) il_RX6_52 dX6_copyFrom_151 ?_
    refine ia_aload_n (pc := 154) F dX6_copyFrom_154 rfl ?_
    refine ia_aload_n (pc := 155) F dX6_copyFrom_155 rfl ?_
    refine jg (pc := 156) F (x := f0 14) zb cls9 f9_14 (congrFun ((rowN (by first | assumption | omega)).trans ((rowN (by first | assumption | omega)).trans ((rowN (by first | assumption | omega)).trans ((rowN (by first | assumption | omega)).trans ((rowN (by first | assumption | omega)).trans ((rowN (by first | assumption | omega)).trans ((rowN (by first | assumption | omega)).trans ((rowN (by first | assumption | omega)).trans w2_b)))))))) 14) il_RX6_55 dX6_copyFrom_156 ?_
    refine jp (pc := 159) F zc cls9 f9_14 rfl (ia_nJ rfl _) il_RX6_55 dX6_copyFrom_159 ?_
    refine ia_return (pc := 162) F M (by decide) (by decide) dX6_copyFrom_162 ?_
    exact q1 _ (PI_u (PI_u (PI_u (PI_u (PI_u (PI_u (PI_u (PI_u (PI_u hP2 (nqc _ (by decide))) (nqc _ (by decide))) (nqc _ (by decide))) (nqc _ (by decide))) (nqc _ (by decide))) (nqc _ (by decide))) (nqc _ (by decide))) (nqc _ (by decide))) (nqc _ (by decide))) (rowU (rowU (rowU (rowU (rowU (rowU (rowU (rowU (rowU w2_c))))))))) ((rowN (by first | assumption | omega)).trans ((rowN (by first | assumption | omega)).trans ((rowN (by first | assumption | omega)).trans ((rowN (by first | assumption | omega)).trans ((rowN (by first | assumption | omega)).trans ((rowN (by first | assumption | omega)).trans ((rowN (by first | assumption | omega)).trans ((rowN (by first | assumption | omega)).trans ((rowN (by first | assumption | omega)).trans w2_c1))))))))) ((rowN (by first | assumption | omega)).trans ((rowN (by first | assumption | omega)).trans ((rowN (by first | assumption | omega)).trans ((rowN (by first | assumption | omega)).trans ((rowN (by first | assumption | omega)).trans ((rowN (by first | assumption | omega)).trans ((rowN (by first | assumption | omega)).trans ((rowN (by first | assumption | omega)).trans ((rowN (by first | assumption | omega)).trans w2_c2))))))))) ((rowN (by first | assumption | omega)).trans ((rowN (by first | assumption | omega)).trans ((rowN (by first | assumption | omega)).trans ((rowN (by first | assumption | omega)).trans ((rowN (by first | assumption | omega)).trans ((rowN (by first | assumption | omega)).trans ((rowN (by first | assumption | omega)).trans ((rowN (by first | assumption | omega)).trans ((rowN (by first | assumption | omega)).trans w2_c3))))))))) ((rowN (by first | assumption | omega)).trans ((rowN (by first | assumption | omega)).trans ((rowN (by first | assumption | omega)).trans ((rowN (by first | assumption | omega)).trans ((rowN (by first | assumption | omega)).trans ((rowN (by first | assumption | omega)).trans ((rowN (by first | assumption | omega)).trans ((rowN (by first | assumption | omega)).trans ((rowN (by first | assumption | omega)).trans w2_c4))))))))) ((rowN (by first | assumption | omega)).trans ((rowN (by first | assumption | omega)).trans ((rowN (by first | assumption | omega)).trans ((rowN (by first | assumption | omega)).trans ((rowN (by first | assumption | omega)).trans ((rowN (by first | assumption | omega)).trans ((rowN (by first | assumption | omega)).trans ((rowN (by first | assumption | omega)).trans ((rowN (by first | assumption | omega)).trans w2_c5))))))))) ((rowN (by first | assumption | omega)).trans ((rowN (by first | assumption | omega)).trans ((rowN (by first | assumption | omega)).trans ((rowN (by first | assumption | omega)).trans ((rowN (by first | assumption | omega)).trans ((rowN (by first | assumption | omega)).trans ((rowN (by first | assumption | omega)).trans ((rowN (by first | assumption | omega)).trans ((rowN (by first | assumption | omega)).trans w2_c6))))))))) (Fr_u (Fr_u (Fr_u (Fr_u (Fr_u (Fr_u (Fr_u (Fr_u (Fr_u hF2 (by simp)) (by simp)) (by simp)) (by simp)) (by simp)) (by simp)) (by simp)) (by simp)) (by simp))
  exact L90  _  (PI_cp (PI_cp (PI_cp (PI_cp (PI_cp (PI_cp hP nqc1) nqc2) nqc3) nqc4) nqc5) nqc6) ((rowCN (by omega)).trans ((rowCN (by omega)).trans ((rowCN (by omega)).trans ((rowCN (by omega)).trans ((rowCN (by omega)).trans ((rowCN (by omega)).trans hb)))))) ((rowCN (by omega)).trans ((rowCN (by omega)).trans ((rowCN (by omega)).trans ((rowCN (by omega)).trans ((rowCN (by omega)).trans ((rowCN (by omega)).trans hc)))))) ((rowCN (by omega)).trans ((rowCN (by omega)).trans ((rowCN (by omega)).trans ((rowCN (by omega)).trans ((rowCN (by omega)).trans (rowC hb1 hc1)))))) ((rowCN (by omega)).trans ((rowCN (by omega)).trans ((rowCN (by omega)).trans ((rowCN (by omega)).trans (rowC ((rowCN (by omega)).trans hb2) ((rowCN (by omega)).trans hc2)))))) ((rowCN (by omega)).trans ((rowCN (by omega)).trans ((rowCN (by omega)).trans (rowC ((rowCN (by omega)).trans ((rowCN (by omega)).trans hb3)) ((rowCN (by omega)).trans ((rowCN (by omega)).trans hc3)))))) ((rowCN (by omega)).trans ((rowCN (by omega)).trans (rowC ((rowCN (by omega)).trans ((rowCN (by omega)).trans ((rowCN (by omega)).trans hb4))) ((rowCN (by omega)).trans ((rowCN (by omega)).trans ((rowCN (by omega)).trans hc4)))))) ((rowCN (by omega)).trans (rowC ((rowCN (by omega)).trans ((rowCN (by omega)).trans ((rowCN (by omega)).trans ((rowCN (by omega)).trans hb5)))) ((rowCN (by omega)).trans ((rowCN (by omega)).trans ((rowCN (by omega)).trans ((rowCN (by omega)).trans hc5)))))) (rowC ((rowCN (by omega)).trans ((rowCN (by omega)).trans ((rowCN (by omega)).trans ((rowCN (by omega)).trans ((rowCN (by omega)).trans hb6))))) ((rowCN (by omega)).trans ((rowCN (by omega)).trans ((rowCN (by omega)).trans ((rowCN (by omega)).trans ((rowCN (by omega)).trans hc6)))))) (Fr_cp (Fr_cp (Fr_cp (Fr_cp (Fr_cp (Fr_cp (Fr_0 (V := V) (S := [c, c1, c2, c3, c4, c5, c6])) (by simp)) (by simp)) (by simp)) (by simp)) (by simp)) (by simp))
set_option maxRecDepth 100000 in
theorem c_X3_note {Z : ia_Z} {V : ia_H} {Q : ia_O → ia_Z → ia_H → Prop} {σ : Nat → Int} {χ : Nat → Int} (hZ : ZI Z) (hP : PI V) (hS : Sh 1 V σ) (h15 : V 15 = χ) (hχ : 0 ≤ χ 1 ∧ χ 1 < 9) (q1 : ∀ (V1 : ia_H), PI V1 → (∀ pp, pp ∉ ([17, 18, 19, 20, 21, 22, 23, 24, 25, 26, 27, 28, 29, 30, 31, 32, 33, 34, 35, 36, 37, 38, 39, 40, 41, 42, 43, 44, 45, 46, 47, 48, 49, 50, 51, 52, 53, 54, 55, 56, 57, 58, 59, 60, 61, 62, 63, 64, 65, 66, 67, 68, 69, 70, 71, 72, 73, 74, 75, 76, 77, 78, 79] : List Nat) → V1 pp = V pp) → (∀ p : Nat, p < 17 + 7 * (χ 1).toNat ∨ 17 + 7 * (χ 1).toNat + 6 < p → V1 p = V p) → (Sh (17 + 7 * (χ 1).toNat) V1 σ) → Q (.inl none) Z V1) : ia_K yX3_note cX3_note 2 none [(4, ((15 : Nat) : Int)), (4, ((1 : Nat) : Int))] Z V 3 0 0 Q := by
  refine ia_start RX3 "note" ⟨by decide, rfl, rfl⟩ (Nat.le_of_ble_eq_true rfl) (ia_tg rfl) (fun X F M => ?_)
  show ia_G X 0 0 0 [(4, ((15 : Nat) : Int)), (4, ((1 : Nat) : Int))] [] Z V
  refine ia_aload_n (pc := 0) F dX3_note_0 rfl ?_
  refine jg (pc := 1) F (z15 hZ) cls6 f6_0 (hP 15 0 16 rfl) il_RX3_13 dX3_note_1 ?_
  refine ia_aload_n (pc := 4) F dX3_note_4 rfl ?_
  refine jg (pc := 5) F (x := χ 1) (z15 hZ) cls6 f6_1 (congrFun h15 1) il_RX3_17 dX3_note_5 ?_
  refine jaq (pc := 8) F (z16 hZ) ((χ 1).toNat) (by omega) (by omega) (hP 16 ((χ 1).toNat) (17 + 7 * ((χ 1).toNat)) (ptr_16 _ (by omega))) dX3_note_8 ?_
  refine ia_aload_n (pc := 9) F dX3_note_9 rfl ?_
  refine jV (pc := 10) F 0 0 (zh hZ ((χ 1).toNat) (by omega)) cls9.1 (c_X6_copyFrom 1 (17 + 7 * ((χ 1).toNat)) 2 (17 + 7 * ((χ 1).toNat) + 1 + 0) 3 (17 + 7 * ((χ 1).toNat) + 1 + 1) 4 (17 + 7 * ((χ 1).toNat) + 1 + 2) 5 (17 + 7 * ((χ 1).toNat) + 1 + 3) 6 (17 + 7 * ((χ 1).toNat) + 1 + 4) 7 (17 + 7 * ((χ 1).toNat) + 1 + 5) hZ hP (rfl : V 1 = V 1) (rfl : V (17 + 7 * ((χ 1).toNat)) = V (17 + 7 * ((χ 1).toNat))) (rfl : V 2 = V 2) (rfl : V (17 + 7 * ((χ 1).toNat) + 1 + 0) = V (17 + 7 * ((χ 1).toNat) + 1 + 0)) (rfl : V 3 = V 3) (rfl : V (17 + 7 * ((χ 1).toNat) + 1 + 1) = V (17 + 7 * ((χ 1).toNat) + 1 + 1)) (rfl : V 4 = V 4) (rfl : V (17 + 7 * ((χ 1).toNat) + 1 + 2) = V (17 + 7 * ((χ 1).toNat) + 1 + 2)) (rfl : V 5 = V 5) (rfl : V (17 + 7 * ((χ 1).toNat) + 1 + 3) = V (17 + 7 * ((χ 1).toNat) + 1 + 3)) (rfl : V 6 = V 6) (rfl : V (17 + 7 * ((χ 1).toNat) + 1 + 4) = V (17 + 7 * ((χ 1).toNat) + 1 + 4)) (rfl : V 7 = V 7) (rfl : V (17 + 7 * ((χ 1).toNat) + 1 + 5) = V (17 + 7 * ((χ 1).toNat) + 1 + 5)) (z1 hZ) (z2 hZ) rfl (z3 hZ) rfl (z4 hZ) rfl (z5 hZ) rfl (z6 hZ) rfl (z7 hZ) rfl (zh hZ ((χ 1).toNat) (by omega)) (zh0 hZ ((χ 1).toNat) (by omega)) (ptr_h _ 0 (by omega) (by decide)) (zh1 hZ ((χ 1).toNat) (by omega)) (ptr_h _ 1 (by omega) (by decide)) (zh2 hZ ((χ 1).toNat) (by omega)) (ptr_h _ 2 (by omega) (by decide)) (zh3 hZ ((χ 1).toNat) (by omega)) (ptr_h _ 3 (by omega) (by decide)) (zh4 hZ ((χ 1).toNat) (by omega)) (ptr_h _ 4 (by omega) (by decide)) (zh5 hZ ((χ 1).toNat) (by omega)) (ptr_h _ 5 (by omega) (by decide)) (by omega) (by omega) (by omega) (ptr_o _ (by omega)) (ptr_n _ 0 (by omega) (by decide)) (ptr_n _ 1 (by omega) (by decide)) (ptr_n _ 2 (by omega) (by decide)) (ptr_n _ 3 (by omega) (by decide)) (ptr_n _ 4 (by omega) (by decide)) (ptr_n _ 5 (by omega) (by decide)) (fun V_1 p_2 w_3 w_4 w_5 w_6 w_7 w_8 w_9 f_10 => ?_)) rfl ⟨k_X6_copyFrom, il_RX3_25, im_X6_copyFrom, is_X6_copyFrom, ii_RX6⟩ 1 rfl hd_X6_copyFrom ⟨by decide, by decide, by decide, by decide, Nat.le_of_ble_eq_true rfl⟩ dX3_note_10
  refine j0 ?_
  refine ia_return (pc := 13) F M (by decide) (by decide) dX3_note_13 ?_
  exact q1 _ p_2 (Fr_h (Fr_0 (V := V) (S := [17, 18, 19, 20, 21, 22, 23, 24, 25, 26, 27, 28, 29, 30, 31, 32, 33, 34, 35, 36, 37, 38, 39, 40, 41, 42, 43, 44, 45, 46, 47, 48, 49, 50, 51, 52, 53, 54, 55, 56, 57, 58, 59, 60, 61, 62, 63, 64, 65, 66, 67, 68, 69, 70, 71, 72, 73, 74, 75, 76, 77, 78, 79])) f_10 (by simp; omega)) (fun p hp => f_10 p (by simp; omega)) (Sh_copy hS w_4 w_5 w_6 w_7 w_8 w_9 (fun k hk hk2 => by have e0 := w_3; rcases (show k = 6 ∨ k = 7 ∨ k = 8 ∨ k = 9 ∨ k = 10 ∨ k = 11 ∨ k = 12 ∨ k = 13 ∨ k = 14 by omega) with h | h | h | h | h | h | h | h | h <;> subst h <;> rw [e0] <;> simp [up]))
set_option maxRecDepth 100000 in
theorem c_X3_keepNoted {Z : ia_Z} {V : ia_H} {Q : ia_O → ia_Z → ia_H → Prop} {χ : Nat → Int} (hZ : ZI Z) (hP : PI V) (h15 : V 15 = χ) (hχ : (0 ≤ χ 1 ∧ χ 1 < 9) ∧ 0 ≤ χ 2 ∧ χ 2 ≤ 8) (q1 : ∀ (V1 : ia_H), PI V1 → (V1 15 = (up (up χ 1 ((χ 1 + 1) % 9)) 2 (min (χ 2 + 1) 8))) → (∀ pp, pp ∉ ([15] : List Nat) → V1 pp = V pp) → Q (.inl none) Z V1) : ia_K yX3_keepNoted cX3_keepNoted 1 none [(4, ((15 : Nat) : Int))] Z V 2 0 0 Q := by
  refine ia_start RX3 "keepNoted" ⟨by decide, rfl, rfl⟩ (Nat.le_of_ble_eq_true rfl) (ia_tg rfl) (fun X F M => ?_)
  show ia_G X 0 0 0 [(4, ((15 : Nat) : Int))] [] Z V
  refine ia_aload_n (pc := 0) F dX3_keepNoted_0 rfl ?_
  refine ia_aload_n (pc := 1) F dX3_keepNoted_1 rfl ?_
  refine jg (pc := 2) F (x := χ 1) (z15 hZ) cls6 f6_1 (congrFun h15 1) il_RX3_17 dX3_keepNoted_2 ?_
  refine ia_iconst (pc := 5) F dX3_keepNoted_5 ?_
  refine ia_iadd (pc := 6) F dX3_keepNoted_6 ?_
  refine ia_bipush (pc := 7) F dX3_keepNoted_7 (by decide) ?_
  refine ia_irem (pc := 9) F dX3_keepNoted_9 (by omega) (by omega) ?_
  refine jp (pc := 10) F (z15 hZ) cls6 f6_1 rfl (ia_nI rfl _) il_RX3_17 dX3_keepNoted_10 ?_
  refine ia_aload_n (pc := 13) F dX3_keepNoted_13 rfl ?_
  refine ia_aload_n (pc := 14) F dX3_keepNoted_14 rfl ?_
  refine jg (pc := 15) F (x := χ 2) (z15 hZ) cls6 f6_2 ((congrFun (rowU h15) 2).trans (up_ne (by decide))) il_RX3_21 dX3_keepNoted_15 ?_
  refine ia_iconst (pc := 18) F dX3_keepNoted_18 ?_
  refine ia_iadd (pc := 19) F dX3_keepNoted_19 ?_
  refine ia_bipush (pc := 20) F dX3_keepNoted_20 (by decide) ?_
  refine ia_min (pc := 22) F (by omega) (by omega) ⟨il_RX3_29, it_mmin, ii_RJ9, k_mmin⟩ ⟨by decide, Nat.le_of_ble_eq_true rfl, by decide, by decide⟩ dX3_keepNoted_22 ?_
  rw [ia_minE (χ 2 + 1) 8]
  refine jp (pc := 25) F (z15 hZ) cls6 f6_2 rfl (ia_nI rfl _) il_RX3_21 dX3_keepNoted_25 ?_
  refine ia_return (pc := 28) F M (by decide) (by decide) dX3_keepNoted_28 ?_
  exact q1 _ (PI_u (PI_u hP rfl) rfl) (rowU (rowU h15)) (Fr_u (Fr_u (Fr_0 (V := V) (S := [15])) (by decide)) (by decide))
set_option maxRecDepth 100000 in
theorem c_X3_takeBackNoted {Z : ia_Z} {V : ia_H} {Q : ia_O → ia_Z → ia_H → Prop} {χ : Nat → Int} (τ : Nat → Int) (hZ : ZI Z) (hP : PI V) (h15 : V 15 = χ) (hχ : 0 ≤ χ 1 ∧ χ 1 < 9) (hT : Sh (17 + 7 * (χ 1).toNat) V τ) (q1 : ∀ (V1 : ia_H), PI V1 → (∀ pp, pp ∉ ([1, 2, 3, 4, 5, 6, 7] : List Nat) → V1 pp = V pp) → (Sh 1 V1 τ) → Q (.inl none) Z V1) : ia_K yX3_takeBackNoted cX3_takeBackNoted 2 none [(4, ((15 : Nat) : Int)), (4, ((1 : Nat) : Int))] Z V 3 0 0 Q := by
  refine ia_start RX3 "takeBackNoted" ⟨by decide, rfl, rfl⟩ (Nat.le_of_ble_eq_true rfl) (ia_tg rfl) (fun X F M => ?_)
  show ia_G X 0 0 0 [(4, ((15 : Nat) : Int)), (4, ((1 : Nat) : Int))] [] Z V
  refine ia_aload_n (pc := 0) F dX3_takeBackNoted_0 rfl ?_
  refine ia_aload_n (pc := 1) F dX3_takeBackNoted_1 rfl ?_
  refine jg (pc := 2) F (z15 hZ) cls6 f6_0 (hP 15 0 16 rfl) il_RX3_13 dX3_takeBackNoted_2 ?_
  refine ia_aload_n (pc := 5) F dX3_takeBackNoted_5 rfl ?_
  refine jg (pc := 6) F (x := χ 1) (z15 hZ) cls6 f6_1 (congrFun h15 1) il_RX3_17 dX3_takeBackNoted_6 ?_
  refine jaq (pc := 9) F (z16 hZ) ((χ 1).toNat) (by omega) (by omega) (hP 16 ((χ 1).toNat) (17 + 7 * ((χ 1).toNat)) (ptr_16 _ (by omega))) dX3_takeBackNoted_9 ?_
  refine jV (pc := 10) F 0 0 (z1 hZ) cls9.1 (c_X6_copyFrom (17 + 7 * ((χ 1).toNat)) 1 (17 + 7 * ((χ 1).toNat) + 1 + 0) 2 (17 + 7 * ((χ 1).toNat) + 1 + 1) 3 (17 + 7 * ((χ 1).toNat) + 1 + 2) 4 (17 + 7 * ((χ 1).toNat) + 1 + 3) 5 (17 + 7 * ((χ 1).toNat) + 1 + 4) 6 (17 + 7 * ((χ 1).toNat) + 1 + 5) 7 hZ hP (rfl : V (17 + 7 * ((χ 1).toNat)) = V (17 + 7 * ((χ 1).toNat))) (rfl : V 1 = V 1) (rfl : V (17 + 7 * ((χ 1).toNat) + 1 + 0) = V (17 + 7 * ((χ 1).toNat) + 1 + 0)) (rfl : V 2 = V 2) (rfl : V (17 + 7 * ((χ 1).toNat) + 1 + 1) = V (17 + 7 * ((χ 1).toNat) + 1 + 1)) (rfl : V 3 = V 3) (rfl : V (17 + 7 * ((χ 1).toNat) + 1 + 2) = V (17 + 7 * ((χ 1).toNat) + 1 + 2)) (rfl : V 4 = V 4) (rfl : V (17 + 7 * ((χ 1).toNat) + 1 + 3) = V (17 + 7 * ((χ 1).toNat) + 1 + 3)) (rfl : V 5 = V 5) (rfl : V (17 + 7 * ((χ 1).toNat) + 1 + 4) = V (17 + 7 * ((χ 1).toNat) + 1 + 4)) (rfl : V 6 = V 6) (rfl : V (17 + 7 * ((χ 1).toNat) + 1 + 5) = V (17 + 7 * ((χ 1).toNat) + 1 + 5)) (rfl : V 7 = V 7) (zh hZ ((χ 1).toNat) (by omega)) (zh0 hZ ((χ 1).toNat) (by omega)) (ptr_h _ 0 (by omega) (by decide)) (zh1 hZ ((χ 1).toNat) (by omega)) (ptr_h _ 1 (by omega) (by decide)) (zh2 hZ ((χ 1).toNat) (by omega)) (ptr_h _ 2 (by omega) (by decide)) (zh3 hZ ((χ 1).toNat) (by omega)) (ptr_h _ 3 (by omega) (by decide)) (zh4 hZ ((χ 1).toNat) (by omega)) (ptr_h _ 4 (by omega) (by decide)) (zh5 hZ ((χ 1).toNat) (by omega)) (ptr_h _ 5 (by omega) (by decide)) (z1 hZ) (z2 hZ) rfl (z3 hZ) rfl (z4 hZ) rfl (z5 hZ) rfl (z6 hZ) rfl (z7 hZ) rfl (by omega) (by omega) (by omega) (ptr_s1) (fun _ => rfl) (fun _ => rfl) (fun _ => rfl) (fun _ => rfl) (fun _ => rfl) (fun _ => rfl) (fun V_1 p_2 w_3 w_4 w_5 w_6 w_7 w_8 w_9 f_10 => ?_)) rfl ⟨k_X6_copyFrom, il_RX3_25, im_X6_copyFrom, is_X6_copyFrom, ii_RX6⟩ 1 rfl hd_X6_copyFrom ⟨by decide, by decide, by decide, by decide, Nat.le_of_ble_eq_true rfl⟩ dX3_takeBackNoted_10
  refine j0 ?_
  refine ia_return (pc := 13) F M (by decide) (by decide) dX3_takeBackNoted_13 ?_
  exact q1 _ p_2 (Fr_c (Fr_0 (V := V) (S := [1, 2, 3, 4, 5, 6, 7])) f_10 (by decide)) (Sh_copy (b' := 1) hT w_4 w_5 w_6 w_7 w_8 w_9 (fun k hk hk2 => by have e0 := w_3; rcases (show k = 6 ∨ k = 7 ∨ k = 8 ∨ k = 9 ∨ k = 10 ∨ k = 11 ∨ k = 12 ∨ k = 13 ∨ k = 14 by omega) with h | h | h | h | h | h | h | h | h <;> subst h <;> rw [e0] <;> simp [up]))
set_option maxRecDepth 100000 in
theorem c_X3_takeBackKept {Z : ia_Z} {V : ia_H} {Q : ia_O → ia_Z → ia_H → Prop} {χ : Nat → Int} (τ : Nat → Int) (hZ : ZI Z) (hP : PI V) (h15 : V 15 = χ) (hχ : (0 ≤ χ 1 ∧ χ 1 < 9) ∧ 1 ≤ χ 2 ∧ χ 2 ≤ 8) (hT : Sh (17 + 7 * ((χ 1 + 9 - 1) % 9).toNat) V τ) (q1 : ∀ (V1 : ia_H), PI V1 → (V1 15 = up (up χ 1 ((χ 1 + 9 - 1) % 9)) 2 (χ 2 - 1)) → (∀ pp, pp ∉ ([1, 2, 3, 4, 5, 6, 7, 15] : List Nat) → V1 pp = V pp) → (Sh 1 V1 τ) → Q (.inl none) Z V1) : ia_K yX3_takeBackKept cX3_takeBackKept 2 none [(4, ((15 : Nat) : Int)), (4, ((1 : Nat) : Int))] Z V 3 0 0 Q := by
  refine ia_start RX3 "takeBackKept" ⟨by decide, rfl, rfl⟩ (Nat.le_of_ble_eq_true rfl) (ia_tg rfl) (fun X F M => ?_)
  show ia_G X 0 0 0 [(4, ((15 : Nat) : Int)), (4, ((1 : Nat) : Int))] [] Z V
  refine ia_aload_n (pc := 0) F dX3_takeBackKept_0 rfl ?_
  refine ia_aload_n (pc := 1) F dX3_takeBackKept_1 rfl ?_
  refine jg (pc := 2) F (x := χ 1) (z15 hZ) cls6 f6_1 (congrFun h15 1) il_RX3_17 dX3_takeBackKept_2 ?_
  refine ia_bipush (pc := 5) F dX3_takeBackKept_5 (by decide) ?_
  refine ia_iadd (pc := 7) F dX3_takeBackKept_7 ?_
  refine ia_iconst (pc := 8) F dX3_takeBackKept_8 ?_
  refine ia_isub (pc := 9) F dX3_takeBackKept_9 ?_
  refine ia_bipush (pc := 10) F dX3_takeBackKept_10 (by decide) ?_
  refine ia_irem (pc := 12) F dX3_takeBackKept_12 (by omega) (by omega) ?_
  refine jp (pc := 13) F (z15 hZ) cls6 f6_1 rfl (ia_nI rfl _) il_RX3_17 dX3_takeBackKept_13 ?_
  refine ia_aload_n (pc := 16) F dX3_takeBackKept_16 rfl ?_
  refine ia_dup (pc := 17) F dX3_takeBackKept_17 (Or.inr (Or.inr rfl)) ?_
  refine jg (pc := 18) F (x := χ 2) (z15 hZ) cls6 f6_2 ((congrFun (rowU h15) 2).trans (up_ne (by decide))) il_RX3_21 dX3_takeBackKept_18 ?_
  refine ia_iconst (pc := 21) F dX3_takeBackKept_21 ?_
  refine ia_isub (pc := 22) F dX3_takeBackKept_22 ?_
  refine jp (pc := 23) F (z15 hZ) cls6 f6_2 rfl (ia_nI rfl _) il_RX3_21 dX3_takeBackKept_23 ?_
  refine ia_aload_n (pc := 26) F dX3_takeBackKept_26 rfl ?_
  refine ia_aload_n (pc := 27) F dX3_takeBackKept_27 rfl ?_
  refine jg (pc := 28) F (z15 hZ) cls6 f6_0 ((PI_u (PI_u hP rfl) rfl) 15 0 16 rfl) il_RX3_13 dX3_takeBackKept_28 ?_
  refine ia_aload_n (pc := 31) F dX3_takeBackKept_31 rfl ?_
  refine jg (pc := 32) F (x := (((χ 1 + 9) - 1) % 9)) (z15 hZ) cls6 f6_1 (((congrFun (rowU (rowU h15)) 1).trans (up_ne (by decide))).trans (up_self _ _ _)) il_RX3_17 dX3_takeBackKept_32 ?_
  refine jaq (pc := 35) F (z16 hZ) ((((χ 1 + 9) - 1) % 9).toNat) (by omega) (by omega) ((PI_u (PI_u hP rfl) rfl) 16 ((((χ 1 + 9) - 1) % 9).toNat) (17 + 7 * ((((χ 1 + 9) - 1) % 9).toNat)) (ptr_16 _ (by omega))) dX3_takeBackKept_35 ?_
  refine jV (pc := 36) F 0 0 (z1 hZ) cls9.1 (c_X6_copyFrom (17 + 7 * ((((χ 1 + 9) - 1) % 9).toNat)) 1 (17 + 7 * ((((χ 1 + 9) - 1) % 9).toNat) + 1 + 0) 2 (17 + 7 * ((((χ 1 + 9) - 1) % 9).toNat) + 1 + 1) 3 (17 + 7 * ((((χ 1 + 9) - 1) % 9).toNat) + 1 + 2) 4 (17 + 7 * ((((χ 1 + 9) - 1) % 9).toNat) + 1 + 3) 5 (17 + 7 * ((((χ 1 + 9) - 1) % 9).toNat) + 1 + 4) 6 (17 + 7 * ((((χ 1 + 9) - 1) % 9).toNat) + 1 + 5) 7 hZ (PI_u (PI_u hP rfl) rfl) ((rowN (by omega)).trans ((rowN (by omega)).trans (rfl : V (17 + 7 * ((((χ 1 + 9) - 1) % 9).toNat)) = V (17 + 7 * ((((χ 1 + 9) - 1) % 9).toNat))))) ((rowN (by decide)).trans ((rowN (by decide)).trans (rfl : V 1 = V 1))) ((rowN (by omega)).trans ((rowN (by omega)).trans (rfl : V (17 + 7 * ((((χ 1 + 9) - 1) % 9).toNat) + 1 + 0) = V (17 + 7 * ((((χ 1 + 9) - 1) % 9).toNat) + 1 + 0)))) ((rowN (by decide)).trans ((rowN (by decide)).trans (rfl : V 2 = V 2))) ((rowN (by omega)).trans ((rowN (by omega)).trans (rfl : V (17 + 7 * ((((χ 1 + 9) - 1) % 9).toNat) + 1 + 1) = V (17 + 7 * ((((χ 1 + 9) - 1) % 9).toNat) + 1 + 1)))) ((rowN (by decide)).trans ((rowN (by decide)).trans (rfl : V 3 = V 3))) ((rowN (by omega)).trans ((rowN (by omega)).trans (rfl : V (17 + 7 * ((((χ 1 + 9) - 1) % 9).toNat) + 1 + 2) = V (17 + 7 * ((((χ 1 + 9) - 1) % 9).toNat) + 1 + 2)))) ((rowN (by decide)).trans ((rowN (by decide)).trans (rfl : V 4 = V 4))) ((rowN (by omega)).trans ((rowN (by omega)).trans (rfl : V (17 + 7 * ((((χ 1 + 9) - 1) % 9).toNat) + 1 + 3) = V (17 + 7 * ((((χ 1 + 9) - 1) % 9).toNat) + 1 + 3)))) ((rowN (by decide)).trans ((rowN (by decide)).trans (rfl : V 5 = V 5))) ((rowN (by omega)).trans ((rowN (by omega)).trans (rfl : V (17 + 7 * ((((χ 1 + 9) - 1) % 9).toNat) + 1 + 4) = V (17 + 7 * ((((χ 1 + 9) - 1) % 9).toNat) + 1 + 4)))) ((rowN (by decide)).trans ((rowN (by decide)).trans (rfl : V 6 = V 6))) ((rowN (by omega)).trans ((rowN (by omega)).trans (rfl : V (17 + 7 * ((((χ 1 + 9) - 1) % 9).toNat) + 1 + 5) = V (17 + 7 * ((((χ 1 + 9) - 1) % 9).toNat) + 1 + 5)))) ((rowN (by decide)).trans ((rowN (by decide)).trans (rfl : V 7 = V 7))) (zh hZ ((((χ 1 + 9) - 1) % 9).toNat) (by omega)) (zh0 hZ ((((χ 1 + 9) - 1) % 9).toNat) (by omega)) (ptr_h _ 0 (by omega) (by decide)) (zh1 hZ ((((χ 1 + 9) - 1) % 9).toNat) (by omega)) (ptr_h _ 1 (by omega) (by decide)) (zh2 hZ ((((χ 1 + 9) - 1) % 9).toNat) (by omega)) (ptr_h _ 2 (by omega) (by decide)) (zh3 hZ ((((χ 1 + 9) - 1) % 9).toNat) (by omega)) (ptr_h _ 3 (by omega) (by decide)) (zh4 hZ ((((χ 1 + 9) - 1) % 9).toNat) (by omega)) (ptr_h _ 4 (by omega) (by decide)) (zh5 hZ ((((χ 1 + 9) - 1) % 9).toNat) (by omega)) (ptr_h _ 5 (by omega) (by decide)) (z1 hZ) (z2 hZ) rfl (z3 hZ) rfl (z4 hZ) rfl (z5 hZ) rfl (z6 hZ) rfl (z7 hZ) rfl (by omega) (by omega) (by omega) (ptr_s1) (fun _ => rfl) (fun _ => rfl) (fun _ => rfl) (fun _ => rfl) (fun _ => rfl) (fun _ => rfl) (fun V_1 p_2 w_3 w_4 w_5 w_6 w_7 w_8 w_9 f_10 => ?_)) rfl ⟨k_X6_copyFrom, il_RX3_25, im_X6_copyFrom, is_X6_copyFrom, ii_RX6⟩ 1 rfl hd_X6_copyFrom ⟨by decide, by decide, by decide, by decide, Nat.le_of_ble_eq_true rfl⟩ dX3_takeBackKept_36
  refine j0 ?_
  refine ia_return (pc := 39) F M (by decide) (by decide) dX3_takeBackKept_39 ?_
  exact q1 _ p_2 ((f_10 15 (by decide)).trans (rowU (rowU h15))) (Fr_c (Fr_u (Fr_u (Fr_0 (V := V) (S := [1, 2, 3, 4, 5, 6, 7, 15])) (by decide)) (by decide)) f_10 (by decide)) (Sh_copy (b' := 1) hT w_4 w_5 w_6 w_7 w_8 w_9 (fun k hk hk2 => by have e0 := w_3; rcases (show k = 6 ∨ k = 7 ∨ k = 8 ∨ k = 9 ∨ k = 10 ∨ k = 11 ∨ k = 12 ∨ k = 13 ∨ k = 14 by omega) with h | h | h | h | h | h | h | h | h <;> subst h <;> rw [e0] <;> simp [up]))
set_option maxRecDepth 100000 in
theorem c_X3_forget {Z : ia_Z} {V : ia_H} {Q : ia_O → ia_Z → ia_H → Prop} {χ : Nat → Int} (hZ : ZI Z) (hP : PI V) (h15 : V 15 = χ)  (q1 : ∀ (V1 : ia_H), PI V1 → (V1 15 = (up χ 2 0)) → (∀ pp, pp ∉ ([15] : List Nat) → V1 pp = V pp) → Q (.inl none) Z V1) : ia_K yX3_forget cX3_forget 1 none [(4, ((15 : Nat) : Int))] Z V 1 0 0 Q := by
  refine ia_start RX3 "forget" ⟨by decide, rfl, rfl⟩ (Nat.le_of_ble_eq_true rfl) (ia_tg rfl) (fun X F M => ?_)
  show ia_G X 0 0 0 [(4, ((15 : Nat) : Int))] [] Z V
  refine ia_aload_n (pc := 0) F dX3_forget_0 rfl ?_
  refine ia_iconst (pc := 1) F dX3_forget_1 ?_
  refine jp (pc := 2) F (z15 hZ) cls6 f6_2 rfl (ia_nI rfl _) il_RX3_21 dX3_forget_2 ?_
  refine ia_return (pc := 5) F M (by decide) (by decide) dX3_forget_5 ?_
  exact q1 _ (PI_u hP rfl) (rowU h15) (Fr_u (Fr_0 (V := V) (S := [15])) (by decide))
