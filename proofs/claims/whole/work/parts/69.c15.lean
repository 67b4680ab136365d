/-! constructors: the model, the builder (made by wip/whole/ctor.py) -/
set_option maxRecDepth 100000 in
theorem c_X8_init {Z : ia_Z} {V : ia_H} {Q : ia_O → ia_Z → ia_H → Prop}   (hJ : ZJ (100) Z) (hb : V 99 = ia_d0 11) (q1 : ∀ (Z1 : ia_Z) (V1 : ia_H), (ZJ (114) Z1) → (V1 99 = (up (up (up (up (up (up (up (up (up (up (up (up (up (up (up (up (up (up (up (up (up (up (up (up (up (ia_d0 11) 0 ((100 : Nat) : Int)) 1 ((101 : Nat) : Int)) 2 ((102 : Nat) : Int)) 3 ((103 : Nat) : Int)) 4 ((104 : Nat) : Int)) 5 ((105 : Nat) : Int)) 6 ((106 : Nat) : Int)) 7 ((107 : Nat) : Int)) 8 ((108 : Nat) : Int)) 9 0) 10 0) 11 (-1)) 12 (-1)) 13 0) 14 ((109 : Nat) : Int)) 15 0) 16 ((110 : Nat) : Int)) 17 ((111 : Nat) : Int)) 18 ((112 : Nat) : Int)) 19 ((113 : Nat) : Int)) 20 0) 21 0) 22 0) 23 0) 24 0)) → (V1 100 = (fun _ => 0)) → (V1 101 = (fun _ => 0)) → (V1 102 = (fun _ => 0)) → (V1 103 = (fun _ => 0)) → (V1 104 = (fun _ => 0)) → (V1 105 = (fun _ => 0)) → (V1 106 = (fun _ => 0)) → (V1 107 = (fun _ => 0)) → (V1 108 = (fun _ => 0)) → (V1 109 = (fun _ => 0)) → (V1 110 = (fun _ => 0)) → (V1 111 = (fun _ => 0)) → (V1 112 = (fun _ => 0)) → (V1 113 = (fun _ => 0)) → (∀ pp : Nat, pp < 99 → V1 pp = V pp) → Q (.inl none) Z1 V1) : ia_K yX8_init cX8_init 1 none [(4, ((99 : Nat) : Int))] Z V 2 14 2090 Q := by
  refine ia_start RX8 "<init>" ⟨by decide, rfl, rfl⟩ (Nat.le_of_ble_eq_true rfl) (ia_tg rfl) (fun X F M => ?_)
  show ia_G X 0 0 0 [(4, ((99 : Nat) : Int))] [] Z V
  refine ia_aload_n (pc := 0) F dX8_init_0 rfl ?_
  refine ia_objInit (pc := 1) F 99 rfl ⟨il_RX8_1, im_objectInit, k_objectInit⟩ ⟨by decide, Nat.le_of_ble_eq_true rfl⟩ dX8_init_1 ?_
  refine ia_aload_n (pc := 4) F dX8_init_4 rfl ?_
  refine ia_bipush (pc := 5) F dX8_init_5 (by decide) ?_
  refine jnI (pc := 7) F 72 rfl (by decide) hJ (by decide) ⟨rfl, rfl⟩ ⟨by decide, by decide⟩ dX8_init_7 (fun Z_1 V_1 hJ_1 w_1 n_1 => ?_)
  refine jpF (pc := 9) F (zj hJ_1 (by decide) ⟨rfl, rfl⟩) cls11 f11_0 rfl M.2.2.1 rfl (ia_nA rfl _) il_RX8_7 dX8_init_9 ?_
  refine ia_aload_n (pc := 12) F dX8_init_12 rfl ?_
  refine ia_bipush (pc := 13) F dX8_init_13 (by decide) ?_
  refine jnI (pc := 15) F 72 rfl (by decide) hJ_1 (by decide) ⟨rfl, rfl⟩ ⟨by decide, by decide⟩ dX8_init_15 (fun Z_2 V_2 hJ_2 w_2 n_2 => ?_)
  refine jpF (pc := 17) F (zj hJ_2 (by decide) ⟨rfl, rfl⟩) cls11 f11_1 rfl M.2.2.1 rfl (ia_nA rfl _) il_RX8_13 dX8_init_17 ?_
  refine ia_aload_n (pc := 20) F dX8_init_20 rfl ?_
  refine ia_bipush (pc := 21) F dX8_init_21 (by decide) ?_
  refine jnI (pc := 23) F 72 rfl (by decide) hJ_2 (by decide) ⟨rfl, rfl⟩ ⟨by decide, by decide⟩ dX8_init_23 (fun Z_3 V_3 hJ_3 w_3 n_3 => ?_)
  refine jpF (pc := 25) F (zj hJ_3 (by decide) ⟨rfl, rfl⟩) cls11 f11_2 rfl M.2.2.1 rfl (ia_nA rfl _) il_RX8_16 dX8_init_25 ?_
  refine ia_aload_n (pc := 28) F dX8_init_28 rfl ?_
  refine ia_sipush (pc := 29) F dX8_init_29 (by decide) ?_
  refine jnI (pc := 32) F 576 rfl (by decide) hJ_3 (by decide) ⟨rfl, rfl⟩ ⟨by decide, by decide⟩ dX8_init_32 (fun Z_4 V_4 hJ_4 w_4 n_4 => ?_)
  refine jpF (pc := 34) F (zj hJ_4 (by decide) ⟨rfl, rfl⟩) cls11 f11_3 rfl M.2.2.1 rfl (ia_nA rfl _) il_RX8_19 dX8_init_34 ?_
  refine ia_aload_n (pc := 37) F dX8_init_37 rfl ?_
  refine ia_sipush (pc := 38) F dX8_init_38 (by decide) ?_
  refine jnI (pc := 41) F 1024 rfl (by decide) hJ_4 (by decide) ⟨rfl, rfl⟩ ⟨by decide, by decide⟩ dX8_init_41 (fun Z_5 V_5 hJ_5 w_5 n_5 => ?_)
  refine jpF (pc := 43) F (zj hJ_5 (by decide) ⟨rfl, rfl⟩) cls11 f11_4 rfl M.2.2.1 rfl (ia_nA rfl _) il_RX8_22 dX8_init_43 ?_
  refine ia_aload_n (pc := 46) F dX8_init_46 rfl ?_
  refine ia_bipush (pc := 47) F dX8_init_47 (by decide) ?_
  refine jnI (pc := 49) F 7 rfl (by decide) hJ_5 (by decide) ⟨rfl, rfl⟩ ⟨by decide, by decide⟩ dX8_init_49 (fun Z_6 V_6 hJ_6 w_6 n_6 => ?_)
  refine jpF (pc := 51) F (zj hJ_6 (by decide) ⟨rfl, rfl⟩) cls11 f11_5 rfl M.2.2.1 rfl (ia_nA rfl _) il_RX8_25 dX8_init_51 ?_
  refine ia_aload_n (pc := 54) F dX8_init_54 rfl ?_
  refine ia_bipush (pc := 55) F dX8_init_55 (by decide) ?_
  refine jnI (pc := 57) F 12 rfl (by decide) hJ_6 (by decide) ⟨rfl, rfl⟩ ⟨by decide, by decide⟩ dX8_init_57 (fun Z_7 V_7 hJ_7 w_7 n_7 => ?_)
  refine jpF (pc := 59) F (zj hJ_7 (by decide) ⟨rfl, rfl⟩) cls11 f11_6 rfl M.2.2.1 rfl (ia_nA rfl _) il_RX8_28 dX8_init_59 ?_
  refine ia_aload_n (pc := 62) F dX8_init_62 rfl ?_
  refine ia_bipush (pc := 63) F dX8_init_63 (by decide) ?_
  refine jnI (pc := 65) F 12 rfl (by decide) hJ_7 (by decide) ⟨rfl, rfl⟩ ⟨by decide, by decide⟩ dX8_init_65 (fun Z_8 V_8 hJ_8 w_8 n_8 => ?_)
  refine jpF (pc := 67) F (zj hJ_8 (by decide) ⟨rfl, rfl⟩) cls11 f11_7 rfl M.2.2.1 rfl (ia_nA rfl _) il_RX8_31 dX8_init_67 ?_
  refine ia_aload_n (pc := 70) F dX8_init_70 rfl ?_
  refine ia_bipush (pc := 71) F dX8_init_71 (by decide) ?_
  refine jnI (pc := 73) F 7 rfl (by decide) hJ_8 (by decide) ⟨rfl, rfl⟩ ⟨by decide, by decide⟩ dX8_init_73 (fun Z_9 V_9 hJ_9 w_9 n_9 => ?_)
  refine jpF (pc := 75) F (zj hJ_9 (by decide) ⟨rfl, rfl⟩) cls11 f11_8 rfl M.2.2.1 rfl (ia_nA rfl _) il_RX8_34 dX8_init_75 ?_
  refine ia_aload_n (pc := 78) F dX8_init_78 rfl ?_
  refine ia_iconst (pc := 79) F dX8_init_79 ?_
  refine jp (pc := 80) F (zj hJ_9 (by decide) ⟨rfl, rfl⟩) cls11 f11_9 rfl (ia_nI rfl _) il_RX8_37 dX8_init_80 ?_
  refine ia_aload_n (pc := 83) F dX8_init_83 rfl ?_
  refine ia_iconst (pc := 84) F dX8_init_84 ?_
  refine jp (pc := 85) F (zj hJ_9 (by decide) ⟨rfl, rfl⟩) cls11 f11_10 rfl (ia_nI rfl _) il_RX8_41 dX8_init_85 ?_
  refine ia_aload_n (pc := 88) F dX8_init_88 rfl ?_
  refine ia_iconst (pc := 89) F dX8_init_89 ?_
  refine jp (pc := 90) F (zj hJ_9 (by decide) ⟨rfl, rfl⟩) cls11 f11_11 rfl (ia_nI rfl _) il_RX8_44 dX8_init_90 ?_
  refine ia_aload_n (pc := 93) F dX8_init_93 rfl ?_
  refine ia_iconst (pc := 94) F dX8_init_94 ?_
  refine jp (pc := 95) F (zj hJ_9 (by decide) ⟨rfl, rfl⟩) cls11 f11_12 rfl (ia_nI rfl _) il_RX8_47 dX8_init_95 ?_
  refine ia_aload_n (pc := 98) F dX8_init_98 rfl ?_
  refine ia_iconst (pc := 99) F dX8_init_99 ?_
  refine jp (pc := 100) F (zj hJ_9 (by decide) ⟨rfl, rfl⟩) cls11 f11_13 rfl (ia_nZ rfl (Or.inl rfl)) il_RX8_50 dX8_init_100 ?_
  refine ia_aload_n (pc := 103) F dX8_init_103 rfl ?_
  refine ia_bipush (pc := 104) F dX8_init_104 (by decide) ?_
  refine jnI (pc := 106) F 80 rfl (by decide) hJ_9 (by decide) ⟨rfl, rfl⟩ ⟨by decide, by decide⟩ dX8_init_106 (fun Z_10 V_10 hJ_10 w_10 n_10 => ?_)
  refine jpF (pc := 108) F (zj hJ_10 (by decide) ⟨rfl, rfl⟩) cls11 f11_14 rfl M.2.2.1 rfl (ia_nA rfl _) il_RX8_54 dX8_init_108 ?_
  refine ia_aload_n (pc := 111) F dX8_init_111 rfl ?_
  refine ia_iconst (pc := 112) F dX8_init_112 ?_
  refine jp (pc := 113) F (zj hJ_10 (by decide) ⟨rfl, rfl⟩) cls11 f11_15 rfl (ia_nI rfl _) il_RX8_57 dX8_init_113 ?_
  refine ia_aload_n (pc := 116) F dX8_init_116 rfl ?_
  refine ia_bipush (pc := 117) F dX8_init_117 (by decide) ?_
  refine jnI (pc := 119) F 60 rfl (by decide) hJ_10 (by decide) ⟨rfl, rfl⟩ ⟨by decide, by decide⟩ dX8_init_119 (fun Z_11 V_11 hJ_11 w_11 n_11 => ?_)
  refine jpF (pc := 121) F (zj hJ_11 (by decide) ⟨rfl, rfl⟩) cls11 f11_16 rfl M.2.2.1 rfl (ia_nA rfl _) il_RX8_60 dX8_init_121 ?_
  refine ia_aload_n (pc := 124) F dX8_init_124 rfl ?_
  refine ia_bipush (pc := 125) F dX8_init_125 (by decide) ?_
  refine jnI (pc := 127) F 32 rfl (by decide) hJ_11 (by decide) ⟨rfl, rfl⟩ ⟨by decide, by decide⟩ dX8_init_127 (fun Z_12 V_12 hJ_12 w_12 n_12 => ?_)
  refine jpF (pc := 129) F (zj hJ_12 (by decide) ⟨rfl, rfl⟩) cls11 f11_17 rfl M.2.2.1 rfl (ia_nA rfl _) il_RX8_63 dX8_init_129 ?_
  refine ia_aload_n (pc := 132) F dX8_init_132 rfl ?_
  refine ia_bipush (pc := 133) F dX8_init_133 (by decide) ?_
  refine jnI (pc := 135) F 32 rfl (by decide) hJ_12 (by decide) ⟨rfl, rfl⟩ ⟨by decide, by decide⟩ dX8_init_135 (fun Z_13 V_13 hJ_13 w_13 n_13 => ?_)
  refine jpF (pc := 137) F (zj hJ_13 (by decide) ⟨rfl, rfl⟩) cls11 f11_18 rfl M.2.2.1 rfl (ia_nA rfl _) il_RX8_66 dX8_init_137 ?_
  refine ia_aload_n (pc := 140) F dX8_init_140 rfl ?_
  refine ia_bipush (pc := 141) F dX8_init_141 (by decide) ?_
  refine jnI (pc := 143) F 32 rfl (by decide) hJ_13 (by decide) ⟨rfl, rfl⟩ ⟨by decide, by decide⟩ dX8_init_143 (fun Z_14 V_14 hJ_14 w_14 n_14 => ?_)
  refine jpF (pc := 145) F (zj hJ_14 (by decide) ⟨rfl, rfl⟩) cls11 f11_19 rfl M.2.2.1 rfl (ia_nA rfl _) il_RX8_69 dX8_init_145 ?_
  refine ia_aload_n (pc := 148) F dX8_init_148 rfl ?_
  refine ia_iconst (pc := 149) F dX8_init_149 ?_
  refine jp (pc := 150) F (zj hJ_14 (by decide) ⟨rfl, rfl⟩) cls11 f11_20 rfl (ia_nI rfl _) il_RX8_72 dX8_init_150 ?_
  refine ia_aload_n (pc := 153) F dX8_init_153 rfl ?_
  refine ia_iconst (pc := 154) F dX8_init_154 ?_
  refine jp (pc := 155) F (zj hJ_14 (by decide) ⟨rfl, rfl⟩) cls11 f11_21 rfl (ia_nI rfl _) il_RX8_75 dX8_init_155 ?_
  refine ia_aload_n (pc := 158) F dX8_init_158 rfl ?_
  refine ia_iconst (pc := 159) F dX8_init_159 ?_
  refine jp (pc := 160) F (zj hJ_14 (by decide) ⟨rfl, rfl⟩) cls11 f11_22 rfl (ia_nI rfl _) il_RX8_78 dX8_init_160 ?_
  refine ia_aload_n (pc := 163) F dX8_init_163 rfl ?_
  refine ia_iconst (pc := 164) F dX8_init_164 ?_
  refine jp (pc := 165) F (zj hJ_14 (by decide) ⟨rfl, rfl⟩) cls11 f11_23 rfl (ia_nI rfl _) il_RX8_81 dX8_init_165 ?_
  refine ia_aload_n (pc := 168) F dX8_init_168 rfl ?_
  refine ia_iconst (pc := 169) F dX8_init_169 ?_
  refine jp (pc := 170) F (zj hJ_14 (by decide) ⟨rfl, rfl⟩) cls11 f11_24 rfl (ia_nZ rfl (Or.inl rfl)) il_RX8_84 dX8_init_170 ?_
  refine ia_return (pc := 173) F M (by decide) (by decide) dX8_init_173 ?_
  exact q1 _ _ hJ_14 (rowU (rowU (rowU (rowU (rowU (rowU ((n_14 99 (by decide)).trans (rowU ((n_13 99 (by decide)).trans (rowU ((n_12 99 (by decide)).trans (rowU ((n_11 99 (by decide)).trans (rowU (rowU ((n_10 99 (by decide)).trans (rowU (rowU (rowU (rowU (rowU (rowU ((n_9 99 (by decide)).trans (rowU ((n_8 99 (by decide)).trans (rowU ((n_7 99 (by decide)).trans (rowU ((n_6 99 (by decide)).trans (rowU ((n_5 99 (by decide)).trans (rowU ((n_4 99 (by decide)).trans (rowU ((n_3 99 (by decide)).trans (rowU ((n_2 99 (by decide)).trans (rowU ((n_1 99 (by decide)).trans hb))))))))))))))))))))))))))))))))))))))) ((rowN (by decide)).trans ((rowN (by decide)).trans ((rowN (by decide)).trans ((rowN (by decide)).trans ((rowN (by decide)).trans ((rowN (by decide)).trans ((n_14 100 (by decide)).trans ((rowN (by decide)).trans ((n_13 100 (by decide)).trans ((rowN (by decide)).trans ((n_12 100 (by decide)).trans ((rowN (by decide)).trans ((n_11 100 (by decide)).trans ((rowN (by decide)).trans ((rowN (by decide)).trans ((n_10 100 (by decide)).trans ((rowN (by decide)).trans ((rowN (by decide)).trans ((rowN (by decide)).trans ((rowN (by decide)).trans ((rowN (by decide)).trans ((rowN (by decide)).trans ((n_9 100 (by decide)).trans ((rowN (by decide)).trans ((n_8 100 (by decide)).trans ((rowN (by decide)).trans ((n_7 100 (by decide)).trans ((rowN (by decide)).trans ((n_6 100 (by decide)).trans ((rowN (by decide)).trans ((n_5 100 (by decide)).trans ((rowN (by decide)).trans ((n_4 100 (by decide)).trans ((rowN (by decide)).trans ((n_3 100 (by decide)).trans ((rowN (by decide)).trans ((n_2 100 (by decide)).trans ((rowN (by decide)).trans w_1)))))))))))))))))))))))))))))))))))))) ((rowN (by decide)).trans ((rowN (by decide)).trans ((rowN (by decide)).trans ((rowN (by decide)).trans ((rowN (by decide)).trans ((rowN (by decide)).trans ((n_14 101 (by decide)).trans ((rowN (by decide)).trans ((n_13 101 (by decide)).trans ((rowN (by decide)).trans ((n_12 101 (by decide)).trans ((rowN (by decide)).trans ((n_11 101 (by decide)).trans ((rowN (by decide)).trans ((rowN (by decide)).trans ((n_10 101 (by decide)).trans ((rowN (by decide)).trans ((rowN (by decide)).trans ((rowN (by decide)).trans ((rowN (by decide)).trans ((rowN (by decide)).trans ((rowN (by decide)).trans ((n_9 101 (by decide)).trans ((rowN (by decide)).trans ((n_8 101 (by decide)).trans ((rowN (by decide)).trans ((n_7 101 (by decide)).trans ((rowN (by decide)).trans ((n_6 101 (by decide)).trans ((rowN (by decide)).trans ((n_5 101 (by decide)).trans ((rowN (by decide)).trans ((n_4 101 (by decide)).trans ((rowN (by decide)).trans ((n_3 101 (by decide)).trans ((rowN (by decide)).trans w_2)))))))))))))))))))))))))))))))))))) ((rowN (by decide)).trans ((rowN (by decide)).trans ((rowN (by decide)).trans ((rowN (by decide)).trans ((rowN (by decide)).trans ((rowN (by decide)).trans ((n_14 102 (by decide)).trans ((rowN (by decide)).trans ((n_13 102 (by decide)).trans ((rowN (by decide)).trans ((n_12 102 (by decide)).trans ((rowN (by decide)).trans ((n_11 102 (by decide)).trans ((rowN (by decide)).trans ((rowN (by decide)).trans ((n_10 102 (by decide)).trans ((rowN (by decide)).trans ((rowN (by decide)).trans ((rowN (by decide)).trans ((rowN (by decide)).trans ((rowN (by decide)).trans ((rowN (by decide)).trans ((n_9 102 (by decide)).trans ((rowN (by decide)).trans ((n_8 102 (by decide)).trans ((rowN (by decide)).trans ((n_7 102 (by decide)).trans ((rowN (by decide)).trans ((n_6 102 (by decide)).trans ((rowN (by decide)).trans ((n_5 102 (by decide)).trans ((rowN (by decide)).trans ((n_4 102 (by decide)).trans ((rowN (by decide)).trans w_3)))))))))))))))))))))))))))))))))) ((rowN (by decide)).trans ((rowN (by decide)).trans ((rowN (by decide)).trans ((rowN (by decide)).trans ((rowN (by decide)).trans ((rowN (by decide)).trans ((n_14 103 (by decide)).trans ((rowN (by decide)).trans ((n_13 103 (by decide)).trans ((rowN (by decide)).trans ((n_12 103 (by decide)).trans ((rowN (by decide)).trans ((n_11 103 (by decide)).trans ((rowN (by decide)).trans ((rowN (by decide)).trans ((n_10 103 (by decide)).trans ((rowN (by decide)).trans ((rowN (by decide)).trans ((rowN (by decide)).trans ((rowN (by decide)).trans ((rowN (by decide)).trans ((rowN (by decide)).trans ((n_9 103 (by decide)).trans ((rowN (by decide)).trans ((n_8 103 (by decide)).trans ((rowN (by decide)).trans ((n_7 103 (by decide)).trans ((rowN (by decide)).trans ((n_6 103 (by decide)).trans ((rowN (by decide)).trans ((n_5 103 (by decide)).trans ((rowN (by decide)).trans w_4)))))))))))))))))))))))))))))))) ((rowN (by decide)).trans ((rowN (by decide)).trans ((rowN (by decide)).trans ((rowN (by decide)).trans ((rowN (by decide)).trans ((rowN (by decide)).trans ((n_14 104 (by decide)).trans ((rowN (by decide)).trans ((n_13 104 (by decide)).trans ((rowN (by decide)).trans ((n_12 104 (by decide)).trans ((rowN (by decide)).trans ((n_11 104 (by decide)).trans ((rowN (by decide)).trans ((rowN (by decide)).trans ((n_10 104 (by decide)).trans ((rowN (by decide)).trans ((rowN (by decide)).trans ((rowN (by decide)).trans ((rowN (by decide)).trans ((rowN (by decide)).trans ((rowN (by decide)).trans ((n_9 104 (by decide)).trans ((rowN (by decide)).trans ((n_8 104 (by decide)).trans ((rowN (by decide)).trans ((n_7 104 (by decide)).trans ((rowN (by decide)).trans ((n_6 104 (by decide)).trans ((rowN (by decide)).trans w_5)))))))))))))))))))))))))))))) ((rowN (by decide)).trans ((rowN (by decide)).trans ((rowN (by decide)).trans ((rowN (by decide)).trans ((rowN (by decide)).trans ((rowN (by decide)).trans ((n_14 105 (by decide)).trans ((rowN (by decide)).trans ((n_13 105 (by decide)).trans ((rowN (by decide)).trans ((n_12 105 (by decide)).trans ((rowN (by decide)).trans ((n_11 105 (by decide)).trans ((rowN (by decide)).trans ((rowN (by decide)).trans ((n_10 105 (by decide)).trans ((rowN (by decide)).trans ((rowN (by decide)).trans ((rowN (by decide)).trans ((rowN (by decide)).trans ((rowN (by decide)).trans ((rowN (by decide)).trans ((n_9 105 (by decide)).trans ((rowN (by decide)).trans ((n_8 105 (by decide)).trans ((rowN (by decide)).trans ((n_7 105 (by decide)).trans ((rowN (by decide)).trans w_6)))))))))))))))))))))))))))) ((rowN (by decide)).trans ((rowN (by decide)).trans ((rowN (by decide)).trans ((rowN (by decide)).trans ((rowN (by decide)).trans ((rowN (by decide)).trans ((n_14 106 (by decide)).trans ((rowN (by decide)).trans ((n_13 106 (by decide)).trans ((rowN (by decide)).trans ((n_12 106 (by decide)).trans ((rowN (by decide)).trans ((n_11 106 (by decide)).trans ((rowN (by decide)).trans ((rowN (by decide)).trans ((n_10 106 (by decide)).trans ((rowN (by decide)).trans ((rowN (by decide)).trans ((rowN (by decide)).trans ((rowN (by decide)).trans ((rowN (by decide)).trans ((rowN (by decide)).trans ((n_9 106 (by decide)).trans ((rowN (by decide)).trans ((n_8 106 (by decide)).trans ((rowN (by decide)).trans w_7)))))))))))))))))))))))))) ((rowN (by decide)).trans ((rowN (by decide)).trans ((rowN (by decide)).trans ((rowN (by decide)).trans ((rowN (by decide)).trans ((rowN (by decide)).trans ((n_14 107 (by decide)).trans ((rowN (by decide)).trans ((n_13 107 (by decide)).trans ((rowN (by decide)).trans ((n_12 107 (by decide)).trans ((rowN (by decide)).trans ((n_11 107 (by decide)).trans ((rowN (by decide)).trans ((rowN (by decide)).trans ((n_10 107 (by decide)).trans ((rowN (by decide)).trans ((rowN (by decide)).trans ((rowN (by decide)).trans ((rowN (by decide)).trans ((rowN (by decide)).trans ((rowN (by decide)).trans ((n_9 107 (by decide)).trans ((rowN (by decide)).trans w_8)))))))))))))))))))))))) ((rowN (by decide)).trans ((rowN (by decide)).trans ((rowN (by decide)).trans ((rowN (by decide)).trans ((rowN (by decide)).trans ((rowN (by decide)).trans ((n_14 108 (by decide)).trans ((rowN (by decide)).trans ((n_13 108 (by decide)).trans ((rowN (by decide)).trans ((n_12 108 (by decide)).trans ((rowN (by decide)).trans ((n_11 108 (by decide)).trans ((rowN (by decide)).trans ((rowN (by decide)).trans ((n_10 108 (by decide)).trans ((rowN (by decide)).trans ((rowN (by decide)).trans ((rowN (by decide)).trans ((rowN (by decide)).trans ((rowN (by decide)).trans ((rowN (by decide)).trans w_9)))))))))))))))))))))) ((rowN (by decide)).trans ((rowN (by decide)).trans ((rowN (by decide)).trans ((rowN (by decide)).trans ((rowN (by decide)).trans ((rowN (by decide)).trans ((n_14 109 (by decide)).trans ((rowN (by decide)).trans ((n_13 109 (by decide)).trans ((rowN (by decide)).trans ((n_12 109 (by decide)).trans ((rowN (by decide)).trans ((n_11 109 (by decide)).trans ((rowN (by decide)).trans ((rowN (by decide)).trans w_10))))))))))))))) ((rowN (by decide)).trans ((rowN (by decide)).trans ((rowN (by decide)).trans ((rowN (by decide)).trans ((rowN (by decide)).trans ((rowN (by decide)).trans ((n_14 110 (by decide)).trans ((rowN (by decide)).trans ((n_13 110 (by decide)).trans ((rowN (by decide)).trans ((n_12 110 (by decide)).trans ((rowN (by decide)).trans w_11)))))))))))) ((rowN (by decide)).trans ((rowN (by decide)).trans ((rowN (by decide)).trans ((rowN (by decide)).trans ((rowN (by decide)).trans ((rowN (by decide)).trans ((n_14 111 (by decide)).trans ((rowN (by decide)).trans ((n_13 111 (by decide)).trans ((rowN (by decide)).trans w_12)))))))))) ((rowN (by decide)).trans ((rowN (by decide)).trans ((rowN (by decide)).trans ((rowN (by decide)).trans ((rowN (by decide)).trans ((rowN (by decide)).trans ((n_14 112 (by decide)).trans ((rowN (by decide)).trans w_13)))))))) ((rowN (by decide)).trans ((rowN (by decide)).trans ((rowN (by decide)).trans ((rowN (by decide)).trans ((rowN (by decide)).trans ((rowN (by decide)).trans w_14)))))) (fun pp hpp => ((rowN (by first | assumption | omega)).trans ((rowN (by first | assumption | omega)).trans ((rowN (by first | assumption | omega)).trans ((rowN (by first | assumption | omega)).trans ((rowN (by first | assumption | omega)).trans ((rowN (by first | assumption | omega)).trans ((n_14 pp (by omega)).trans ((rowN (by first | assumption | omega)).trans ((n_13 pp (by omega)).trans ((rowN (by first | assumption | omega)).trans ((n_12 pp (by omega)).trans ((rowN (by first | assumption | omega)).trans ((n_11 pp (by omega)).trans ((rowN (by first | assumption | omega)).trans ((rowN (by first | assumption | omega)).trans ((n_10 pp (by omega)).trans ((rowN (by first | assumption | omega)).trans ((rowN (by first | assumption | omega)).trans ((rowN (by first | assumption | omega)).trans ((rowN (by first | assumption | omega)).trans ((rowN (by first | assumption | omega)).trans ((rowN (by first | assumption | omega)).trans ((n_9 pp (by omega)).trans ((rowN (by first | assumption | omega)).trans ((n_8 pp (by omega)).trans ((rowN (by first | assumption | omega)).trans ((n_7 pp (by omega)).trans ((rowN (by first | assumption | omega)).trans ((n_6 pp (by omega)).trans ((rowN (by first | assumption | omega)).trans ((n_5 pp (by omega)).trans ((rowN (by first | assumption | omega)).trans ((n_4 pp (by omega)).trans ((rowN (by first | assumption | omega)).trans ((n_3 pp (by omega)).trans ((rowN (by first | assumption | omega)).trans ((n_2 pp (by omega)).trans ((rowN (by first | assumption | omega)).trans ((n_1 pp (by omega)).trans (rfl : V pp = V pp)))))))))))))))))))))))))))))))))))))))))
set_option maxRecDepth 100000 in
theorem c_J5_init {Z : ia_Z} {V : ia_H} {Q : ia_O → ia_Z → ia_H → Prop} (b : Nat)   (hJ : ZJ (b + 1) Z) (hb : V b = ia_d0 1) (hb1 : b < 116) (hb0 : kdL.getD b 0 = 11 ∧ lnL.getD b 0 = 0) (hk0 : kdL.getD (b + 1) 0 = 3 ∧ lnL.getD (b + 1) 0 = 16) (q1 : ∀ (Z1 : ia_Z) (V1 : ia_H), (ZJ (b + 2) Z1) → (V1 b = (up (up (ia_d0 1) 0 ((b + 1 : Nat) : Int)) 1 0)) → (V1 (b + 1) = (fun _ => 0)) → (∀ pp : Nat, pp < b → V1 pp = V pp) → Q (.inl none) Z1 V1) : ia_K yJ5_init_d00df cJ5_init_d00df 2 none [(4, ((b : Nat) : Int)), (0, 16)] Z V 2 1 16 Q := by
  refine ia_start RJ5 "<init>" ⟨by decide, rfl, rfl⟩ (Nat.le_of_ble_eq_true rfl) (ia_tg rfl) (fun X F M => ?_)
  show ia_G X 0 0 0 [(4, ((b : Nat) : Int)), (0, 16)] [] Z V
  refine ia_aload_n (pc := 0) F dJ5_init_d00df_0 rfl ?_
  refine ia_objInit (pc := 1) F b rfl ⟨il_RJ5_3, im_objectInit, k_objectInit⟩ ⟨by decide, Nat.le_of_ble_eq_true rfl⟩ dJ5_init_d00df_1 ?_
  refine ia_getCompact (pc := 4) F il_RJ5_18 dJ5_init_d00df_4 ?_
  refine ia_if_eq (pc := 7) F 25 dJ5_init_d00df_7 rfl (by omega) (fun h9 => absurd h9 (by omega)) (fun _ => ?_)
  refine ia_aload_n (pc := 10) F dJ5_init_d00df_10 rfl ?_
  refine ia_iload_n (pc := 11) F dJ5_init_d00df_11 rfl ?_
  refine jnB (pc := 12) F 16 rfl (by decide) hJ (by omega) hk0 ⟨by decide, by decide⟩ dJ5_init_d00df_12 (fun Z_1 V_1 hJ_1 w_1 n_1 => ?_)
  refine jp (pc := 14) F (zj hJ_1 (by omega) hb0) cls1 f1_0 rfl (ia_nA rfl _) il_RJ5_15 dJ5_init_d00df_14 ?_
  refine ia_aload_n (pc := 17) F dJ5_init_d00df_17 rfl ?_
  refine ia_iconst (pc := 18) F dJ5_init_d00df_18 ?_
  refine jp (pc := 19) F (zj hJ_1 (by omega) hb0) cls1 f1_1 rfl (fun _ => ⟨rfl, rfl⟩) il_RJ5_22 dJ5_init_d00df_19 ?_
  refine ia_goto (pc := 22) F 38 dJ5_init_d00df_22 rfl ?_
  refine ia_return (pc := 38) F M (by decide) (by decide) dJ5_init_d00df_38 ?_
  exact q1 _ _ hJ_1 (rowU (rowU ((n_1 b (by omega)).trans hb))) ((rowN (by first | assumption | omega)).trans ((rowN (by first | assumption | omega)).trans w_1)) (fun pp hpp => ((rowN (by first | assumption | omega)).trans ((rowN (by first | assumption | omega)).trans ((n_1 pp (by omega)).trans (rfl : V pp = V pp)))))
