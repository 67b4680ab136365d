/-! the model: the letters of the words (made by wip/whole/m2.py) -/
/-- the letters of the nine words, seven each -/
def spw : List (List Int) := [[105, 110, 107, 0, 0, 0, 0], [112, 97, 112, 101, 114, 0, 0], [101, 100, 105, 116, 105, 111, 110], [114, 101, 109, 111, 118, 101, 0], [112, 114, 105, 110, 116, 0, 0], [97, 108, 108, 0, 0, 0, 0], [104, 111, 117, 114, 115, 0, 0], [112, 114, 111, 111, 102, 0, 0], [100, 114, 111, 112, 0, 0, 0]]
def spl (i j : Nat) : Int := (spw.getD i []).getD j 0
set_option maxRecDepth 100000 in
theorem c_X8_pick {Z : ia_Z} {V : ia_H} {Q : ia_O → ia_Z → ia_H → Prop} (j : Int) (a1 : Int) (a2 : Int) (a3 : Int) (a4 : Int) (a5 : Int) (a6 : Int) (a7 : Int)   (hj : 0 ≤ j ∧ j ≤ 7) (q1 : Q (.inl (some (0, (([a1, a2, a3, a4, a5, a6, a7] : List Int).getD j.toNat 0)))) Z V) : ia_K yX8_pick cX8_pick 8 (some .int) [(0, j), (0, a1), (0, a2), (0, a3), (0, a4), (0, a5), (0, a6), (0, a7)] Z V 1 0 0 Q := by
  refine ia_start RX8 "pick" ⟨by decide, rfl, rfl⟩ (Nat.le_of_ble_eq_true rfl) (ia_tg rfl) (fun X F M => ?_)
  show ia_G X 0 0 0 [(0, j), (0, a1), (0, a2), (0, a3), (0, a4), (0, a5), (0, a6), (0, a7)] [] Z V
  refine ia_iload_n (pc := 0) F dX8_pick_0 rfl ?_
  rcases (show j = 0 ∨ j = 1 ∨ j = 2 ∨ j = 3 ∨ j = 4 ∨ j = 5 ∨ j = 6 ∨ (j < 0 ∨ 6 < j) by omega) with h_1 | h_1 | h_1 | h_1 | h_1 | h_1 | h_1 | h_1
  · refine ia_sw (pc := 1) F 44 0 dX8_pick_1 (by omega) (by omega) (by omega) rfl rfl ?_
    refine ia_iload_n (pc := 44) F dX8_pick_44 rfl ?_
    refine ia_ireturn (pc := 45) F M (by decide) (by decide) dX8_pick_45 ?_
    have e9 : j = 0 := by omega
    subst e9
    exact q1
  · refine ia_sw (pc := 1) F 46 1 dX8_pick_1 (by omega) (by omega) (by omega) rfl rfl ?_
    refine ia_iload_n (pc := 46) F dX8_pick_46 rfl ?_
    refine ia_ireturn (pc := 47) F M (by decide) (by decide) dX8_pick_47 ?_
    have e9 : j = 1 := by omega
    subst e9
    exact q1
  · refine ia_sw (pc := 1) F 48 2 dX8_pick_1 (by omega) (by omega) (by omega) rfl rfl ?_
    refine ia_iload_n (pc := 48) F dX8_pick_48 rfl ?_
    refine ia_ireturn (pc := 49) F M (by decide) (by decide) dX8_pick_49 ?_
    have e9 : j = 2 := by omega
    subst e9
    exact q1
  · refine ia_sw (pc := 1) F 50 3 dX8_pick_1 (by omega) (by omega) (by omega) rfl rfl ?_
    refine ia_iload (pc := 50) F dX8_pick_50 rfl ?_
    refine ia_ireturn (pc := 52) F M (by decide) (by decide) dX8_pick_52 ?_
    have e9 : j = 3 := by omega
    subst e9
    exact q1
  · refine ia_sw (pc := 1) F 53 4 dX8_pick_1 (by omega) (by omega) (by omega) rfl rfl ?_
    refine ia_iload (pc := 53) F dX8_pick_53 rfl ?_
    refine ia_ireturn (pc := 55) F M (by decide) (by decide) dX8_pick_55 ?_
    have e9 : j = 4 := by omega
    subst e9
    exact q1
  · refine ia_sw (pc := 1) F 56 5 dX8_pick_1 (by omega) (by omega) (by omega) rfl rfl ?_
    refine ia_iload (pc := 56) F dX8_pick_56 rfl ?_
    refine ia_ireturn (pc := 58) F M (by decide) (by decide) dX8_pick_58 ?_
    have e9 : j = 5 := by omega
    subst e9
    exact q1
  · refine ia_sw (pc := 1) F 59 6 dX8_pick_1 (by omega) (by omega) (by omega) rfl rfl ?_
    refine ia_iload (pc := 59) F dX8_pick_59 rfl ?_
    refine ia_ireturn (pc := 61) F M (by decide) (by decide) dX8_pick_61 ?_
    have e9 : j = 6 := by omega
    subst e9
    exact q1
  · refine ia_swo (pc := 1) F 62 dX8_pick_1 (by omega) (by omega) rfl ?_
    refine ia_iconst (pc := 62) F dX8_pick_62 ?_
    refine ia_ireturn (pc := 63) F M (by decide) (by decide) dX8_pick_63 ?_
    have e9 : j = 7 := by omega
    subst e9
    exact q1
set_option maxRecDepth 100000 in
theorem c_X8_spelled {Z : ia_Z} {V : ia_H} {Q : ia_O → ia_Z → ia_H → Prop} (i : Int) (j : Int)   (hi : 0 ≤ i ∧ i ≤ 8) (hj : 0 ≤ j ∧ j ≤ 7) (q1 : Q (.inl (some (0, (spl i.toNat j.toNat)))) Z V) : ia_K yX8_spelled cX8_spelled 2 (some .int) [(0, i), (0, j)] Z V 2 0 0 Q := by
  refine ia_start RX8 "spelled" ⟨by decide, rfl, rfl⟩ (Nat.le_of_ble_eq_true rfl) (ia_tg rfl) (fun X F M => ?_)
  show ia_G X 0 0 0 [(0, i), (0, j)] [] Z V
  refine ia_iload_n (pc := 0) F dX8_spelled_0 rfl ?_
  rcases (show i = 0 ∨ i = 1 ∨ i = 2 ∨ i = 3 ∨ i = 4 ∨ i = 5 ∨ i = 6 ∨ i = 7 ∨ (i < 0 ∨ 7 < i) by omega) with h_1 | h_1 | h_1 | h_1 | h_1 | h_1 | h_1 | h_1 | h_1
  · refine ia_sw (pc := 1) F 48 0 dX8_spelled_1 (by omega) (by omega) (by omega) rfl rfl ?_
    refine ia_iload_n (pc := 48) F dX8_spelled_48 rfl ?_
    refine ia_bipush (pc := 49) F dX8_spelled_49 (by decide) ?_
    refine ia_bipush (pc := 51) F dX8_spelled_51 (by decide) ?_
    refine ia_bipush (pc := 53) F dX8_spelled_53 (by decide) ?_
    refine ia_iconst (pc := 55) F dX8_spelled_55 ?_
    refine ia_iconst (pc := 56) F dX8_spelled_56 ?_
    refine ia_iconst (pc := 57) F dX8_spelled_57 ?_
    refine ia_iconst (pc := 58) F dX8_spelled_58 ?_
    refine jS (pc := 59) F 0 0 (c_X8_pick j 105 110 107 0 0 0 0 (by omega) ?_) rfl ⟨k_X8_pick, il_RX8_238, it_X8_pick, ii_RX8⟩ rfl 8 rfl hd_X8_pick ⟨by decide, by decide, by decide, by decide, Nat.le_of_ble_eq_true rfl⟩ dX8_spelled_59
    refine j1 ?_
    refine ia_ireturn (pc := 62) F M (by decide) (by decide) dX8_spelled_62 ?_
    have e9 : i = 0 := by omega
    subst e9
    exact q1
  · refine ia_sw (pc := 1) F 63 1 dX8_spelled_1 (by omega) (by omega) (by omega) rfl rfl ?_
    refine ia_iload_n (pc := 63) F dX8_spelled_63 rfl ?_
    refine ia_bipush (pc := 64) F dX8_spelled_64 (by decide) ?_
    refine ia_bipush (pc := 66) F dX8_spelled_66 (by decide) ?_
    refine ia_bipush (pc := 68) F dX8_spelled_68 (by decide) ?_
    refine ia_bipush (pc := 70) F dX8_spelled_70 (by decide) ?_
    refine ia_bipush (pc := 72) F dX8_spelled_72 (by decide) ?_
    refine ia_iconst (pc := 74) F dX8_spelled_74 ?_
    refine ia_iconst (pc := 75) F dX8_spelled_75 ?_
    refine jS (pc := 76) F 0 0 (c_X8_pick j 112 97 112 101 114 0 0 (by omega) ?_) rfl ⟨k_X8_pick, il_RX8_238, it_X8_pick, ii_RX8⟩ rfl 8 rfl hd_X8_pick ⟨by decide, by decide, by decide, by decide, Nat.le_of_ble_eq_true rfl⟩ dX8_spelled_76
    refine j1 ?_
    refine ia_ireturn (pc := 79) F M (by decide) (by decide) dX8_spelled_79 ?_
    have e9 : i = 1 := by omega
    subst e9
    exact q1
  · refine ia_sw (pc := 1) F 80 2 dX8_spelled_1 (by omega) (by omega) (by omega) rfl rfl ?_
    refine ia_iload_n (pc := 80) F dX8_spelled_80 rfl ?_
    refine ia_bipush (pc := 81) F dX8_spelled_81 (by decide) ?_
    refine ia_bipush (pc := 83) F dX8_spelled_83 (by decide) ?_
    refine ia_bipush (pc := 85) F dX8_spelled_85 (by decide) ?_
    refine ia_bipush (pc := 87) F dX8_spelled_87 (by decide) ?_
    refine ia_bipush (pc := 89) F dX8_spelled_89 (by decide) ?_
    refine ia_bipush (pc := 91) F dX8_spelled_91 (by decide) ?_
    refine ia_bipush (pc := 93) F dX8_spelled_93 (by decide) ?_
    refine jS (pc := 95) F 0 0 (c_X8_pick j 101 100 105 116 105 111 110 (by omega) ?_) rfl ⟨k_X8_pick, il_RX8_238, it_X8_pick, ii_RX8⟩ rfl 8 rfl hd_X8_pick ⟨by decide, by decide, by decide, by decide, Nat.le_of_ble_eq_true rfl⟩ dX8_spelled_95
    refine j1 ?_
    refine ia_ireturn (pc := 98) F M (by decide) (by decide) dX8_spelled_98 ?_
    have e9 : i = 2 := by omega
    subst e9
    exact q1
  · refine ia_sw (pc := 1) F 99 3 dX8_spelled_1 (by omega) (by omega) (by omega) rfl rfl ?_
    refine ia_iload_n (pc := 99) F dX8_spelled_99 rfl ?_
    refine ia_bipush (pc := 100) F dX8_spelled_100 (by decide) ?_
    refine ia_bipush (pc := 102) F dX8_spelled_102 (by decide) ?_
    refine ia_bipush (pc := 104) F dX8_spelled_104 (by decide) ?_
    refine ia_bipush (pc := 106) F dX8_spelled_106 (by decide) ?_
    refine ia_bipush (pc := 108) F dX8_spelled_108 (by decide) ?_
    refine ia_bipush (pc := 110) F dX8_spelled_110 (by decide) ?_
    refine ia_iconst (pc := 112) F dX8_spelled_112 ?_
    refine jS (pc := 113) F 0 0 (c_X8_pick j 114 101 109 111 118 101 0 (by omega) ?_) rfl ⟨k_X8_pick, il_RX8_238, it_X8_pick, ii_RX8⟩ rfl 8 rfl hd_X8_pick ⟨by decide, by decide, by decide, by decide, Nat.le_of_ble_eq_true rfl⟩ dX8_spelled_113
    refine j1 ?_
    refine ia_ireturn (pc := 116) F M (by decide) (by decide) dX8_spelled_116 ?_
    have e9 : i = 3 := by omega
    subst e9
    exact q1
  · refine ia_sw (pc := 1) F 117 4 dX8_spelled_1 (by omega) (by omega) (by omega) rfl rfl ?_
    refine ia_iload_n (pc := 117) F dX8_spelled_117 rfl ?_
    refine ia_bipush (pc := 118) F dX8_spelled_118 (by decide) ?_
    refine ia_bipush (pc := 120) F dX8_spelled_120 (by decide) ?_
    refine ia_bipush (pc := 122) F dX8_spelled_122 (by decide) ?_
    refine ia_bipush (pc := 124) F dX8_spelled_124 (by decide) ?_
    refine ia_bipush (pc := 126) F dX8_spelled_126 (by decide) ?_
    refine ia_iconst (pc := 128) F dX8_spelled_128 ?_
    refine ia_iconst (pc := 129) F dX8_spelled_129 ?_
    refine jS (pc := 130) F 0 0 (c_X8_pick j 112 114 105 110 116 0 0 (by omega) ?_) rfl ⟨k_X8_pick, il_RX8_238, it_X8_pick, ii_RX8⟩ rfl 8 rfl hd_X8_pick ⟨by decide, by decide, by decide, by decide, Nat.le_of_ble_eq_true rfl⟩ dX8_spelled_130
    refine j1 ?_
    refine ia_ireturn (pc := 133) F M (by decide) (by decide) dX8_spelled_133 ?_
    have e9 : i = 4 := by omega
    subst e9
    exact q1
  · refine ia_sw (pc := 1) F 134 5 dX8_spelled_1 (by omega) (by omega) (by omega) rfl rfl ?_
    refine ia_iload_n (pc := 134) F dX8_spelled_134 rfl ?_
    refine ia_bipush (pc := 135) F dX8_spelled_135 (by decide) ?_
    refine ia_bipush (pc := 137) F dX8_spelled_137 (by decide) ?_
    refine ia_bipush (pc := 139) F dX8_spelled_139 (by decide) ?_
    refine ia_iconst (pc := 141) F dX8_spelled_141 ?_
    refine ia_iconst (pc := 142) F dX8_spelled_142 ?_
    refine ia_iconst (pc := 143) F dX8_spelled_143 ?_
    refine ia_iconst (pc := 144) F dX8_spelled_144 ?_
    refine jS (pc := 145) F 0 0 (c_X8_pick j 97 108 108 0 0 0 0 (by omega) ?_) rfl ⟨k_X8_pick, il_RX8_238, it_X8_pick, ii_RX8⟩ rfl 8 rfl hd_X8_pick ⟨by decide, by decide, by decide, by decide, Nat.le_of_ble_eq_true rfl⟩ dX8_spelled_145
    refine j1 ?_
    refine ia_ireturn (pc := 148) F M (by decide) (by decide) dX8_spelled_148 ?_
    have e9 : i = 5 := by omega
    subst e9
    exact q1
  · refine ia_sw (pc := 1) F 149 6 dX8_spelled_1 (by omega) (by omega) (by omega) rfl rfl ?_
    refine ia_iload_n (pc := 149) F dX8_spelled_149 rfl ?_
    refine ia_bipush (pc := 150) F dX8_spelled_150 (by decide) ?_
    refine ia_bipush (pc := 152) F dX8_spelled_152 (by decide) ?_
    refine ia_bipush (pc := 154) F dX8_spelled_154 (by decide) ?_
    refine ia_bipush (pc := 156) F dX8_spelled_156 (by decide) ?_
    refine ia_bipush (pc := 158) F dX8_spelled_158 (by decide) ?_
    refine ia_iconst (pc := 160) F dX8_spelled_160 ?_
    refine ia_iconst (pc := 161) F dX8_spelled_161 ?_
    refine jS (pc := 162) F 0 0 (c_X8_pick j 104 111 117 114 115 0 0 (by omega) ?_) rfl ⟨k_X8_pick, il_RX8_238, it_X8_pick, ii_RX8⟩ rfl 8 rfl hd_X8_pick ⟨by decide, by decide, by decide, by decide, Nat.le_of_ble_eq_true rfl⟩ dX8_spelled_162
    refine j1 ?_
    refine ia_ireturn (pc := 165) F M (by decide) (by decide) dX8_spelled_165 ?_
    have e9 : i = 6 := by omega
    subst e9
    exact q1
  · refine ia_sw (pc := 1) F 166 7 dX8_spelled_1 (by omega) (by omega) (by omega) rfl rfl ?_
    refine ia_iload_n (pc := 166) F dX8_spelled_166 rfl ?_
    refine ia_bipush (pc := 167) F dX8_spelled_167 (by decide) ?_
    refine ia_bipush (pc := 169) F dX8_spelled_169 (by decide) ?_
    refine ia_bipush (pc := 171) F dX8_spelled_171 (by decide) ?_
    refine ia_bipush (pc := 173) F dX8_spelled_173 (by decide) ?_
    refine ia_bipush (pc := 175) F dX8_spelled_175 (by decide) ?_
    refine ia_iconst (pc := 177) F dX8_spelled_177 ?_
    refine ia_iconst (pc := 178) F dX8_spelled_178 ?_
    refine jS (pc := 179) F 0 0 (c_X8_pick j 112 114 111 111 102 0 0 (by omega) ?_) rfl ⟨k_X8_pick, il_RX8_238, it_X8_pick, ii_RX8⟩ rfl 8 rfl hd_X8_pick ⟨by decide, by decide, by decide, by decide, Nat.le_of_ble_eq_true rfl⟩ dX8_spelled_179
    refine j1 ?_
    refine ia_ireturn (pc := 182) F M (by decide) (by decide) dX8_spelled_182 ?_
    have e9 : i = 7 := by omega
    subst e9
    exact q1
  · refine ia_swo (pc := 1) F 183 dX8_spelled_1 (by omega) (by omega) rfl ?_
    refine ia_iload_n (pc := 183) F dX8_spelled_183 rfl ?_
    refine ia_bipush (pc := 184) F dX8_spelled_184 (by decide) ?_
    refine ia_bipush (pc := 186) F dX8_spelled_186 (by decide) ?_
    refine ia_bipush (pc := 188) F dX8_spelled_188 (by decide) ?_
    refine ia_bipush (pc := 190) F dX8_spelled_190 (by decide) ?_
    refine ia_iconst (pc := 192) F dX8_spelled_192 ?_
    refine ia_iconst (pc := 193) F dX8_spelled_193 ?_
    refine ia_iconst (pc := 194) F dX8_spelled_194 ?_
    refine jS (pc := 195) F 0 0 (c_X8_pick j 100 114 111 112 0 0 0 (by omega) ?_) rfl ⟨k_X8_pick, il_RX8_238, it_X8_pick, ii_RX8⟩ rfl 8 rfl hd_X8_pick ⟨by decide, by decide, by decide, by decide, Nat.le_of_ble_eq_true rfl⟩ dX8_spelled_195
    refine j1 ?_
    refine ia_ireturn (pc := 198) F M (by decide) (by decide) dX8_spelled_198 ?_
    have e9 : i = 8 := by omega
    subst e9
    exact q1
