/-! the words, each in its list (made by wip/whole/mkwords.py) -/
theorem tb1 {w : Cond} (h : w ∈ tables_1_1) (g : goodWord w = true) : w ∈ wU := wU_of (List.mem_append_right _ (List.mem_append_left _ h)) g
theorem tn1 {w : Cond} (g : (match w with | .methodLinkNest .. => true | .fieldLinkNest .. => true | .castable .. => true | .declares .. => true | _ => false) = true) (h : w ∈ tables_1_1) : w ∈ ia_nest := List.mem_filter.mpr ⟨List.mem_append_right _ (List.mem_append_left _ h), g⟩
theorem tb2 {w : Cond} (h : w ∈ tables_1_2) (g : goodWord w = true) : w ∈ wU := wU_of (List.mem_append_right _ (List.mem_append_right _ (List.mem_append_left _ h))) g
theorem tn2 {w : Cond} (g : (match w with | .methodLinkNest .. => true | .fieldLinkNest .. => true | .castable .. => true | .declares .. => true | _ => false) = true) (h : w ∈ tables_1_2) : w ∈ ia_nest := List.mem_filter.mpr ⟨List.mem_append_right _ (List.mem_append_right _ (List.mem_append_left _ h)), g⟩
theorem tb3 {w : Cond} (h : w ∈ tables_1_3) (g : goodWord w = true) : w ∈ wU := wU_of (List.mem_append_right _ (List.mem_append_right _ (List.mem_append_right _ (List.mem_append_left _ h)))) g
theorem tn3 {w : Cond} (g : (match w with | .methodLinkNest .. => true | .fieldLinkNest .. => true | .castable .. => true | .declares .. => true | _ => false) = true) (h : w ∈ tables_1_3) : w ∈ ia_nest := List.mem_filter.mpr ⟨List.mem_append_right _ (List.mem_append_right _ (List.mem_append_right _ (List.mem_append_left _ h))), g⟩
theorem tb4 {w : Cond} (h : w ∈ tables_1_4) (g : goodWord w = true) : w ∈ wU := wU_of (List.mem_append_right _ (List.mem_append_right _ (List.mem_append_right _ (List.mem_append_right _ (List.mem_append_left _ h))))) g
theorem tn4 {w : Cond} (g : (match w with | .methodLinkNest .. => true | .fieldLinkNest .. => true | .castable .. => true | .declares .. => true | _ => false) = true) (h : w ∈ tables_1_4) : w ∈ ia_nest := List.mem_filter.mpr ⟨List.mem_append_right _ (List.mem_append_right _ (List.mem_append_right _ (List.mem_append_right _ (List.mem_append_left _ h)))), g⟩
theorem tb5 {w : Cond} (h : w ∈ tables_1_5) (g : goodWord w = true) : w ∈ wU := wU_of (List.mem_append_right _ (List.mem_append_right _ (List.mem_append_right _ (List.mem_append_right _ (List.mem_append_right _ (List.mem_append_left _ h)))))) g
theorem tn5 {w : Cond} (g : (match w with | .methodLinkNest .. => true | .fieldLinkNest .. => true | .castable .. => true | .declares .. => true | _ => false) = true) (h : w ∈ tables_1_5) : w ∈ ia_nest := List.mem_filter.mpr ⟨List.mem_append_right _ (List.mem_append_right _ (List.mem_append_right _ (List.mem_append_right _ (List.mem_append_right _ (List.mem_append_left _ h))))), g⟩
theorem tb6 {w : Cond} (h : w ∈ tables_1_6) (g : goodWord w = true) : w ∈ wU := wU_of (List.mem_append_right _ (List.mem_append_right _ (List.mem_append_right _ (List.mem_append_right _ (List.mem_append_right _ (List.mem_append_right _ (List.mem_append_left _ h))))))) g
theorem tn6 {w : Cond} (g : (match w with | .methodLinkNest .. => true | .fieldLinkNest .. => true | .castable .. => true | .declares .. => true | _ => false) = true) (h : w ∈ tables_1_6) : w ∈ ia_nest := List.mem_filter.mpr ⟨List.mem_append_right _ (List.mem_append_right _ (List.mem_append_right _ (List.mem_append_right _ (List.mem_append_right _ (List.mem_append_right _ (List.mem_append_left _ h)))))), g⟩
theorem tb7 {w : Cond} (h : w ∈ tables_1_7) (g : goodWord w = true) : w ∈ wU := wU_of (List.mem_append_right _ (List.mem_append_right _ (List.mem_append_right _ (List.mem_append_right _ (List.mem_append_right _ (List.mem_append_right _ (List.mem_append_right _ (List.mem_append_left _ h)))))))) g
theorem tn7 {w : Cond} (g : (match w with | .methodLinkNest .. => true | .fieldLinkNest .. => true | .castable .. => true | .declares .. => true | _ => false) = true) (h : w ∈ tables_1_7) : w ∈ ia_nest := List.mem_filter.mpr ⟨List.mem_append_right _ (List.mem_append_right _ (List.mem_append_right _ (List.mem_append_right _ (List.mem_append_right _ (List.mem_append_right _ (List.mem_append_right _ (List.mem_append_left _ h))))))), g⟩
theorem tb8 {w : Cond} (h : w ∈ tables_1_8) (g : goodWord w = true) : w ∈ wU := wU_of (List.mem_append_right _ (List.mem_append_right _ (List.mem_append_right _ (List.mem_append_right _ (List.mem_append_right _ (List.mem_append_right _ (List.mem_append_right _ (List.mem_append_right _ (List.mem_append_left _ h))))))))) g
theorem tn8 {w : Cond} (g : (match w with | .methodLinkNest .. => true | .fieldLinkNest .. => true | .castable .. => true | .declares .. => true | _ => false) = true) (h : w ∈ tables_1_8) : w ∈ ia_nest := List.mem_filter.mpr ⟨List.mem_append_right _ (List.mem_append_right _ (List.mem_append_right _ (List.mem_append_right _ (List.mem_append_right _ (List.mem_append_right _ (List.mem_append_right _ (List.mem_append_right _ (List.mem_append_left _ h)))))))), g⟩
theorem tb9 {w : Cond} (h : w ∈ tables_1_9) (g : goodWord w = true) : w ∈ wU := wU_of (List.mem_append_right _ (List.mem_append_right _ (List.mem_append_right _ (List.mem_append_right _ (List.mem_append_right _ (List.mem_append_right _ (List.mem_append_right _ (List.mem_append_right _ (List.mem_append_right _ h))))))))) g
theorem tn9 {w : Cond} (g : (match w with | .methodLinkNest .. => true | .fieldLinkNest .. => true | .castable .. => true | .declares .. => true | _ => false) = true) (h : w ∈ tables_1_9) : w ∈ ia_nest := List.mem_filter.mpr ⟨List.mem_append_right _ (List.mem_append_right _ (List.mem_append_right _ (List.mem_append_right _ (List.mem_append_right _ (List.mem_append_right _ (List.mem_append_right _ (List.mem_append_right _ (List.mem_append_right _ h)))))))), g⟩
theorem tp {q : MethodName × Nat} (i : Nat) (h : lw_privs[i]? = some q) : Cond.selects q.1.cls q.1 q.1 ∈ wU := wU_of (List.mem_append_left _ (List.mem_map.mpr ⟨q, List.mem_of_getElem? h, rfl⟩)) rfl
theorem ii_RL : Cond.initialized RL ∈ wU := tb1 (List.mem_of_getElem? (i := 0) (by decide +kernel)) rfl
theorem ii_RX7 : Cond.initialized RX7 ∈ wU := tb1 (List.mem_of_getElem? (i := 1) (by decide +kernel)) rfl
theorem ii_RX6 : Cond.initialized RX6 ∈ wU := tb1 (List.mem_of_getElem? (i := 2) (by decide +kernel)) rfl
theorem ii_RX3 : Cond.initialized RX3 ∈ wU := tb1 (List.mem_of_getElem? (i := 3) (by decide +kernel)) rfl
theorem ii_RX0 : Cond.initialized RX0 ∈ wU := tb1 (List.mem_of_getElem? (i := 4) (by decide +kernel)) rfl
theorem ii_RX5 : Cond.initialized RX5 ∈ wU := tb1 (List.mem_of_getElem? (i := 5) (by decide +kernel)) rfl
theorem ii_RX4 : Cond.initialized RX4 ∈ wU := tb1 (List.mem_of_getElem? (i := 6) (by decide +kernel)) rfl
theorem ii_RX2 : Cond.initialized RX2 ∈ wU := tb1 (List.mem_of_getElem? (i := 7) (by decide +kernel)) rfl
theorem ii_RJ5 : Cond.initialized RJ5 ∈ wU := tb1 (List.mem_of_getElem? (i := 8) (by decide +kernel)) rfl
theorem ii_RJ4 : Cond.initialized RJ4 ∈ wU := tb1 (List.mem_of_getElem? (i := 9) (by decide +kernel)) rfl
theorem ii_RJ0 : Cond.initialized RJ0 ∈ wU := tb1 (List.mem_of_getElem? (i := 10) (by decide +kernel)) rfl
theorem ii_RJ2 : Cond.initialized RJ2 ∈ wU := tb1 (List.mem_of_getElem? (i := 11) (by decide +kernel)) rfl
theorem ii_RX8 : Cond.initialized RX8 ∈ wU := tb1 (List.mem_of_getElem? (i := 12) (by decide +kernel)) rfl
theorem ii_RJx29ce0 : Cond.initialized RJx29ce0 ∈ wU := tb1 (List.mem_of_getElem? (i := 13) (by decide +kernel)) rfl
theorem ii_RX1 : Cond.initialized RX1 ∈ wU := tb1 (List.mem_of_getElem? (i := 14) (by decide +kernel)) rfl
theorem ii_RJ10 : Cond.initialized RJ10 ∈ wU := tb1 (List.mem_of_getElem? (i := 15) (by decide +kernel)) rfl
theorem ii_RJ9 : Cond.initialized RJ9 ∈ wU := tb1 (List.mem_of_getElem? (i := 16) (by decide +kernel)) rfl
theorem ii_Zjava_lang_Throwable : Cond.initialized "java/lang/Throwable" ∈ wU := tb1 (List.mem_of_getElem? (i := 17) (by decide +kernel)) rfl
theorem ii_Zjava_lang_Exception : Cond.initialized "java/lang/Exception" ∈ wU := tb1 (List.mem_of_getElem? (i := 18) (by decide +kernel)) rfl
theorem ii_Zjava_lang_RuntimeException : Cond.initialized "java/lang/RuntimeException" ∈ wU := tb1 (List.mem_of_getElem? (i := 19) (by decide +kernel)) rfl
theorem ii_Zjava_lang_IllegalArgumentException : Cond.initialized "java/lang/IllegalArgumentException" ∈ wU := tb1 (List.mem_of_getElem? (i := 20) (by decide +kernel)) rfl
theorem ii_Zjava_lang_IllegalStateException : Cond.initialized "java/lang/IllegalStateException" ∈ wU := tb1 (List.mem_of_getElem? (i := 21) (by decide +kernel)) rfl
theorem ii_Zjava_lang_IndexOutOfBoundsException : Cond.initialized "java/lang/IndexOutOfBoundsException" ∈ wU := tb1 (List.mem_of_getElem? (i := 22) (by decide +kernel)) rfl
theorem ii_Zjava_lang_UnsupportedOperationException : Cond.initialized "java/lang/UnsupportedOperationException" ∈ wU := tb1 (List.mem_of_getElem? (i := 23) (by decide +kernel)) rfl
theorem ii_RJx00060 : Cond.initialized RJx00060 ∈ wU := tb1 (List.mem_of_getElem? (i := 24) (by decide +kernel)) rfl
theorem ii_Zjava_util_NoSuchElementException : Cond.initialized "java/util/NoSuchElementException" ∈ wU := tb1 (List.mem_of_getElem? (i := 25) (by decide +kernel)) rfl
theorem ii_Zjava_lang_ArithmeticException : Cond.initialized "java/lang/ArithmeticException" ∈ wU := tb1 (List.mem_of_getElem? (i := 26) (by decide +kernel)) rfl
theorem ii_RJx7c733 : Cond.initialized RJx7c733 ∈ wU := tb1 (List.mem_of_getElem? (i := 27) (by decide +kernel)) rfl
theorem ii_RJ8 : Cond.initialized RJ8 ∈ wU := tb1 (List.mem_of_getElem? (i := 28) (by decide +kernel)) rfl
theorem ii_RJ7 : Cond.initialized RJ7 ∈ wU := tb1 (List.mem_of_getElem? (i := 29) (by decide +kernel)) rfl
theorem ii_RJ3 : Cond.initialized RJ3 ∈ wU := tb1 (List.mem_of_getElem? (i := 30) (by decide +kernel)) rfl
theorem ii_RJ1 : Cond.initialized RJ1 ∈ wU := tb1 (List.mem_of_getElem? (i := 31) (by decide +kernel)) rfl
theorem ii_RJxd2413 : Cond.initialized RJxd2413 ∈ wU := tb1 (List.mem_of_getElem? (i := 32) (by decide +kernel)) rfl
theorem ii_RJ6 : Cond.initialized RJ6 ∈ wU := tb1 (List.mem_of_getElem? (i := 33) (by decide +kernel)) rfl
theorem il_RL_8 : Cond.classLink RL 8 RX7 ∈ wU := tb1 (List.mem_of_getElem? (i := 34) (by decide +kernel)) rfl
theorem ia_i_RX7 : Cond.instantiable RX7 11 ∈ wU := tb1 (List.mem_of_getElem? (i := 35) (by decide +kernel)) rfl
theorem il_RL_128 : Cond.methodLink RL 128 yX7_init ∈ wU := tb1 (List.mem_of_getElem? (i := 36) (by decide +kernel)) rfl
theorem im_X7_init : Cond.instanceMethod yX7_init ∈ wU := tb1 (List.mem_of_getElem? (i := 37) (by decide +kernel)) rfl
theorem k_X7_init : Cond.code yX7_init cX7_init 1 none ∈ wU := tb1 (List.mem_of_getElem? (i := 38) (by decide +kernel)) rfl
theorem il_RX7_9 : Cond.classLink RX7 9 RX6 ∈ wU := tb1 (List.mem_of_getElem? (i := 42) (by decide +kernel)) rfl
theorem ia_i_RX6 : Cond.instantiable RX6 15 ∈ wU := tb1 (List.mem_of_getElem? (i := 43) (by decide +kernel)) rfl
theorem il_RX7_11 : Cond.methodLinkNest RX7 11 yX6_init "InkPrintery" ∈ ia_nest := tn1 rfl (List.mem_of_getElem? (i := 44) (by decide +kernel))
theorem im_X6_init : Cond.instanceMethod yX6_init ∈ wU := tb1 (List.mem_of_getElem? (i := 45) (by decide +kernel)) rfl
theorem k_X6_init : Cond.code yX6_init cX6_init 1 none ∈ wU := tb1 (List.mem_of_getElem? (i := 46) (by decide +kernel)) rfl
theorem il_RX6_9 : Cond.fieldLink RX6 9 RX6 "wells" "[I" ∈ wU := tb1 (List.mem_of_getElem? (i := 48) (by decide +kernel)) rfl
theorem il_RX7_96 : Cond.fieldLink RX7 96 RX6 "wells" "[I" ∈ wU := tb1 (List.mem_of_getElem? (i := 49) (by decide +kernel)) rfl
theorem il_RX6_15 : Cond.fieldLink RX6 15 RX6 "colours" "[I" ∈ wU := tb1 (List.mem_of_getElem? (i := 50) (by decide +kernel)) rfl
theorem il_RX0_62 : Cond.fieldLink RX0 62 RX6 "colours" "[I" ∈ wU := tb1 (List.mem_of_getElem? (i := 51) (by decide +kernel)) rfl
theorem il_RX7_141 : Cond.fieldLink RX7 141 RX6 "colours" "[I" ∈ wU := tb1 (List.mem_of_getElem? (i := 52) (by decide +kernel)) rfl
theorem il_RX6_18 : Cond.fieldLink RX6 18 RX6 "runs" "[I" ∈ wU := tb1 (List.mem_of_getElem? (i := 53) (by decide +kernel)) rfl
theorem il_RX7_144 : Cond.fieldLink RX7 144 RX6 "runs" "[I" ∈ wU := tb1 (List.mem_of_getElem? (i := 54) (by decide +kernel)) rfl
theorem il_RX6_21 : Cond.fieldLink RX6 21 RX6 "printed" "[I" ∈ wU := tb1 (List.mem_of_getElem? (i := 55) (by decide +kernel)) rfl
theorem il_RX7_147 : Cond.fieldLink RX7 147 RX6 "printed" "[I" ∈ wU := tb1 (List.mem_of_getElem? (i := 56) (by decide +kernel)) rfl
theorem il_RX6_24 : Cond.fieldLink RX6 24 RX6 "marks" "[I" ∈ wU := tb1 (List.mem_of_getElem? (i := 57) (by decide +kernel)) rfl
theorem il_RX4_37 : Cond.fieldLink RX4 37 RX6 "marks" "[I" ∈ wU := tb1 (List.mem_of_getElem? (i := 58) (by decide +kernel)) rfl
theorem il_RX7_204 : Cond.fieldLink RX7 204 RX6 "marks" "[I" ∈ wU := tb1 (List.mem_of_getElem? (i := 59) (by decide +kernel)) rfl
theorem il_RX6_27 : Cond.fieldLink RX6 27 RX6 "proofHours" "[I" ∈ wU := tb1 (List.mem_of_getElem? (i := 60) (by decide +kernel)) rfl
theorem il_RX7_207 : Cond.fieldLink RX7 207 RX6 "proofHours" "[I" ∈ wU := tb1 (List.mem_of_getElem? (i := 61) (by decide +kernel)) rfl
theorem il_RX6_30 : Cond.fieldLink RX6 30 RX6 "editions" "I" ∈ wU := tb1 (List.mem_of_getElem? (i := 62) (by decide +kernel)) rfl
theorem il_RX5_25 : Cond.fieldLink RX5 25 RX6 "editions" "I" ∈ wU := tb1 (List.mem_of_getElem? (i := 63) (by decide +kernel)) rfl
theorem il_RX0_55 : Cond.fieldLink RX0 55 RX6 "editions" "I" ∈ wU := tb1 (List.mem_of_getElem? (i := 64) (by decide +kernel)) rfl
theorem il_RX7_132 : Cond.fieldLink RX7 132 RX6 "editions" "I" ∈ wU := tb1 (List.mem_of_getElem? (i := 65) (by decide +kernel)) rfl
theorem il_RX6_34 : Cond.fieldLink RX6 34 RX6 "proofs" "I" ∈ wU := tb1 (List.mem_of_getElem? (i := 66) (by decide +kernel)) rfl
theorem il_RX4_21 : Cond.fieldLink RX4 21 RX6 "proofs" "I" ∈ wU := tb1 (List.mem_of_getElem? (i := 67) (by decide +kernel)) rfl
theorem il_RX7_198 : Cond.fieldLink RX7 198 RX6 "proofs" "I" ∈ wU := tb1 (List.mem_of_getElem? (i := 68) (by decide +kernel)) rfl
theorem il_RX6_37 : Cond.fieldLink RX6 37 RX6 "paper" "I" ∈ wU := tb1 (List.mem_of_getElem? (i := 69) (by decide +kernel)) rfl
theorem il_RX5_15 : Cond.fieldLink RX5 15 RX6 "paper" "I" ∈ wU := tb1 (List.mem_of_getElem? (i := 70) (by decide +kernel)) rfl
theorem il_RX7_100 : Cond.fieldLink RX7 100 RX6 "paper" "I" ∈ wU := tb1 (List.mem_of_getElem? (i := 71) (by decide +kernel)) rfl
theorem il_RX6_40 : Cond.fieldLink RX6 40 RX6 "hour" "I" ∈ wU := tb1 (List.mem_of_getElem? (i := 72) (by decide +kernel)) rfl
theorem il_RX7_103 : Cond.fieldLink RX7 103 RX6 "hour" "I" ∈ wU := tb1 (List.mem_of_getElem? (i := 73) (by decide +kernel)) rfl
theorem il_RX6_43 : Cond.fieldLink RX6 43 RX6 "press" "I" ∈ wU := tb1 (List.mem_of_getElem? (i := 74) (by decide +kernel)) rfl
theorem il_RX0_46 : Cond.fieldLink RX0 46 RX6 "press" "I" ∈ wU := tb1 (List.mem_of_getElem? (i := 75) (by decide +kernel)) rfl
theorem il_RX7_157 : Cond.fieldLink RX7 157 RX6 "press" "I" ∈ wU := tb1 (List.mem_of_getElem? (i := 76) (by decide +kernel)) rfl
theorem il_RX6_46 : Cond.fieldLink RX6 46 RX6 "minutes" "I" ∈ wU := tb1 (List.mem_of_getElem? (i := 77) (by decide +kernel)) rfl
theorem il_RX7_219 : Cond.fieldLink RX7 219 RX6 "minutes" "I" ∈ wU := tb1 (List.mem_of_getElem? (i := 78) (by decide +kernel)) rfl
theorem il_RX6_49 : Cond.fieldLink RX6 49 RX6 "poured" "I" ∈ wU := tb1 (List.mem_of_getElem? (i := 79) (by decide +kernel)) rfl
theorem il_RX7_220 : Cond.fieldLink RX7 220 RX6 "poured" "I" ∈ wU := tb1 (List.mem_of_getElem? (i := 80) (by decide +kernel)) rfl
theorem il_RX6_52 : Cond.fieldLink RX6 52 RX6 "used" "I" ∈ wU := tb1 (List.mem_of_getElem? (i := 81) (by decide +kernel)) rfl
theorem il_RX7_223 : Cond.fieldLink RX7 223 RX6 "used" "I" ∈ wU := tb1 (List.mem_of_getElem? (i := 82) (by decide +kernel)) rfl
theorem il_RX6_55 : Cond.fieldLink RX6 55 RX6 "faded" "J" ∈ wU := tb1 (List.mem_of_getElem? (i := 83) (by decide +kernel)) rfl
theorem il_RX7_226 : Cond.fieldLink RX7 226 RX6 "faded" "J" ∈ wU := tb1 (List.mem_of_getElem? (i := 84) (by decide +kernel)) rfl
theorem ia_a_int : Cond.arrayClass .int ∈ wU := tb1 (List.mem_of_getElem? (i := 116) (by decide +kernel)) rfl
theorem il_RX7_19 : Cond.classLink RX7 19 RX3 ∈ wU := tb1 (List.mem_of_getElem? (i := 117) (by decide +kernel)) rfl
theorem ia_i_RX3 : Cond.instantiable RX3 3 ∈ wU := tb1 (List.mem_of_getElem? (i := 118) (by decide +kernel)) rfl
theorem il_RX7_21 : Cond.methodLink RX7 21 yX3_init ∈ wU := tb1 (List.mem_of_getElem? (i := 119) (by decide +kernel)) rfl
theorem im_X3_init : Cond.instanceMethod yX3_init ∈ wU := tb1 (List.mem_of_getElem? (i := 120) (by decide +kernel)) rfl
theorem k_X3_init : Cond.code yX3_init cX3_init 2 none ∈ wU := tb1 (List.mem_of_getElem? (i := 121) (by decide +kernel)) rfl
theorem il_RX3_11 : Cond.classLink RX3 11 RX6 ∈ wU := tb1 (List.mem_of_getElem? (i := 123) (by decide +kernel)) rfl
theorem il_RX3_24 : Cond.methodLinkNest RX3 24 yX6_init "InkPrintery" ∈ ia_nest := tn1 rfl (List.mem_of_getElem? (i := 125) (by decide +kernel))
theorem il_RX3_13 : Cond.fieldLink RX3 13 RX3 "before" "[LInkPrintery$Shop;" ∈ wU := tb1 (List.mem_of_getElem? (i := 126) (by decide +kernel)) rfl
theorem il_RX3_17 : Cond.fieldLink RX3 17 RX3 "place" "I" ∈ wU := tb1 (List.mem_of_getElem? (i := 127) (by decide +kernel)) rfl
theorem il_RX3_21 : Cond.fieldLink RX3 21 RX3 "kept" "I" ∈ wU := tb1 (List.mem_of_getElem? (i := 128) (by decide +kernel)) rfl
theorem il_RX7_324 : Cond.fieldLink RX7 324 RX3 "kept" "I" ∈ wU := tb1 (List.mem_of_getElem? (i := 129) (by decide +kernel)) rfl
theorem il_RX7_26 : Cond.classLink RX7 26 RX0 ∈ wU := tb1 (List.mem_of_getElem? (i := 137) (by decide +kernel)) rfl
theorem ia_i_RX0 : Cond.instantiable RX0 7 ∈ wU := tb1 (List.mem_of_getElem? (i := 138) (by decide +kernel)) rfl
theorem il_RX7_28 : Cond.methodLinkNest RX7 28 yX0_init "InkPrintery" ∈ ia_nest := tn1 rfl (List.mem_of_getElem? (i := 139) (by decide +kernel))
theorem im_X0_init : Cond.instanceMethod yX0_init ∈ wU := tb1 (List.mem_of_getElem? (i := 140) (by decide +kernel)) rfl
theorem k_X0_init : Cond.code yX0_init cX0_init 1 none ∈ wU := tb1 (List.mem_of_getElem? (i := 141) (by decide +kernel)) rfl
theorem il_RX0_9 : Cond.fieldLink RX0 9 RX0 "open" "[I" ∈ wU := tb1 (List.mem_of_getElem? (i := 143) (by decide +kernel)) rfl
theorem il_RX0_15 : Cond.fieldLink RX0 15 RX0 "openColours" "[I" ∈ wU := tb1 (List.mem_of_getElem? (i := 144) (by decide +kernel)) rfl
theorem il_RX0_18 : Cond.fieldLink RX0 18 RX0 "rest" "[I" ∈ wU := tb1 (List.mem_of_getElem? (i := 145) (by decide +kernel)) rfl
theorem il_RX0_21 : Cond.fieldLink RX0 21 RX0 "order" "[I" ∈ wU := tb1 (List.mem_of_getElem? (i := 146) (by decide +kernel)) rfl
theorem il_RX7_177 : Cond.fieldLink RX7 177 RX0 "order" "[I" ∈ wU := tb1 (List.mem_of_getElem? (i := 147) (by decide +kernel)) rfl
theorem il_RX0_24 : Cond.fieldLink RX0 24 RX0 "count" "I" ∈ wU := tb1 (List.mem_of_getElem? (i := 148) (by decide +kernel)) rfl
theorem il_RX7_171 : Cond.fieldLink RX7 171 RX0 "count" "I" ∈ wU := tb1 (List.mem_of_getElem? (i := 149) (by decide +kernel)) rfl
theorem il_RX0_28 : Cond.fieldLink RX0 28 RX0 "minutes" "I" ∈ wU := tb1 (List.mem_of_getElem? (i := 150) (by decide +kernel)) rfl
theorem il_RX7_164 : Cond.fieldLink RX7 164 RX0 "minutes" "I" ∈ wU := tb1 (List.mem_of_getElem? (i := 151) (by decide +kernel)) rfl
theorem il_RX0_31 : Cond.fieldLink RX0 31 RX0 "minutesFromNext" "I" ∈ wU := tb1 (List.mem_of_getElem? (i := 152) (by decide +kernel)) rfl
theorem il_RX7_33 : Cond.classLink RX7 33 RX5 ∈ wU := tb1 (List.mem_of_getElem? (i := 168) (by decide +kernel)) rfl
theorem ia_i_RX5 : Cond.instantiable RX5 1 ∈ wU := tb1 (List.mem_of_getElem? (i := 169) (by decide +kernel)) rfl
theorem il_RX7_35 : Cond.methodLinkNest RX7 35 yX5_init "InkPrintery" ∈ ia_nest := tn1 rfl (List.mem_of_getElem? (i := 170) (by decide +kernel))
theorem im_X5_init : Cond.instanceMethod yX5_init ∈ wU := tb1 (List.mem_of_getElem? (i := 171) (by decide +kernel)) rfl
theorem k_X5_init : Cond.code yX5_init cX5_init 1 none ∈ wU := tb1 (List.mem_of_getElem? (i := 172) (by decide +kernel)) rfl
theorem il_RX5_9 : Cond.fieldLink RX5 9 RX5 "sheets" "[I" ∈ wU := tb1 (List.mem_of_getElem? (i := 174) (by decide +kernel)) rfl
theorem il_RX7_183 : Cond.fieldLink RX7 183 RX5 "sheets" "[I" ∈ wU := tb1 (List.mem_of_getElem? (i := 175) (by decide +kernel)) rfl
theorem il_RX7_40 : Cond.classLink RX7 40 RX4 ∈ wU := tb1 (List.mem_of_getElem? (i := 179) (by decide +kernel)) rfl
theorem ia_i_RX4 : Cond.instantiable RX4 3 ∈ wU := tb1 (List.mem_of_getElem? (i := 180) (by decide +kernel)) rfl
theorem il_RX7_42 : Cond.methodLinkNest RX7 42 yX4_init "InkPrintery" ∈ ia_nest := tn1 rfl (List.mem_of_getElem? (i := 181) (by decide +kernel))
theorem im_X4_init : Cond.instanceMethod yX4_init ∈ wU := tb1 (List.mem_of_getElem? (i := 182) (by decide +kernel)) rfl
theorem k_X4_init : Cond.code yX4_init cX4_init 1 none ∈ wU := tb1 (List.mem_of_getElem? (i := 183) (by decide +kernel)) rfl
theorem il_RX4_9 : Cond.fieldLink RX4 9 RX4 "lengths" "[I" ∈ wU := tb1 (List.mem_of_getElem? (i := 185) (by decide +kernel)) rfl
theorem il_RX4_15 : Cond.fieldLink RX4 15 RX4 "counts" "[I" ∈ wU := tb1 (List.mem_of_getElem? (i := 186) (by decide +kernel)) rfl
theorem il_RX4_18 : Cond.fieldLink RX4 18 RX4 "ends" "[I" ∈ wU := tb1 (List.mem_of_getElem? (i := 187) (by decide +kernel)) rfl
theorem il_RX7_47 : Cond.classLink RX7 47 RX2 ∈ wU := tb1 (List.mem_of_getElem? (i := 195) (by decide +kernel)) rfl
theorem ia_i_RX2 : Cond.instantiable RX2 6 ∈ wU := tb1 (List.mem_of_getElem? (i := 196) (by decide +kernel)) rfl
theorem il_RX7_49 : Cond.methodLinkNest RX7 49 yX2_init "InkPrintery" ∈ ia_nest := tn1 rfl (List.mem_of_getElem? (i := 197) (by decide +kernel))
theorem im_X2_init : Cond.instanceMethod yX2_init ∈ wU := tb1 (List.mem_of_getElem? (i := 198) (by decide +kernel)) rfl
theorem k_X2_init : Cond.code yX2_init cX2_init 1 none ∈ wU := tb1 (List.mem_of_getElem? (i := 199) (by decide +kernel)) rfl
theorem il_RX2_9 : Cond.classLink RX2 9 RJ4 ∈ wU := tb1 (List.mem_of_getElem? (i := 201) (by decide +kernel)) rfl
theorem ia_i_RJ4 : Cond.instantiable RJ4 4 ∈ wU := tb1 (List.mem_of_getElem? (i := 202) (by decide +kernel)) rfl
theorem il_RX2_11 : Cond.methodLink RX2 11 yJ4_init_da8c8 ∈ wU := tb1 (List.mem_of_getElem? (i := 203) (by decide +kernel)) rfl
theorem im_J4_init_da8c8 : Cond.instanceMethod yJ4_init_da8c8 ∈ wU := tb1 (List.mem_of_getElem? (i := 204) (by decide +kernel)) rfl
theorem k_J4_init_da8c8 : Cond.code yJ4_init_da8c8 cJ4_init_da8c8 1 none ∈ wU := tb1 (List.mem_of_getElem? (i := 205) (by decide +kernel)) rfl
theorem il_RJ4_1 : Cond.methodLink RJ4 1 yJ5_init_d00df ∈ wU := tb1 (List.mem_of_getElem? (i := 206) (by decide +kernel)) rfl
theorem im_J5_init_d00df : Cond.instanceMethod yJ5_init_d00df ∈ wU := tb1 (List.mem_of_getElem? (i := 207) (by decide +kernel)) rfl
theorem k_J5_init_d00df : Cond.code yJ5_init_d00df cJ5_init_d00df 2 none ∈ wU := tb1 (List.mem_of_getElem? (i := 208) (by decide +kernel)) rfl
theorem il_RJ5_18 : Cond.fieldLink RJ5 18 RJ0 "COMPACT_STRINGS" "Z" ∈ wU := tb1 (List.mem_of_getElem? (i := 210) (by decide +kernel)) rfl
theorem il_RJ5_26 : Cond.methodLink RJ5 26 yJ2_newBytesFor_77867 ∈ wU := tb1 (List.mem_of_getElem? (i := 212) (by decide +kernel)) rfl
theorem it_J2_newBytesFor_77867 : Cond.static yJ2_newBytesFor_77867 ∈ wU := tb1 (List.mem_of_getElem? (i := 213) (by decide +kernel)) rfl
theorem k_J2_newBytesFor_77867 : Cond.code yJ2_newBytesFor_77867 cJ2_newBytesFor_77867 1 (some (.array .byte)) ∈ wU := tb1 (List.mem_of_getElem? (i := 214) (by decide +kernel)) rfl
theorem il_RJ2_11 : Cond.methodLink RJ2 11 yJ2_newBytesLength_0f7a4 ∈ wU := tb1 (List.mem_of_getElem? (i := 215) (by decide +kernel)) rfl
theorem it_J2_newBytesLength_0f7a4 : Cond.static yJ2_newBytesLength_0f7a4 ∈ wU := tb1 (List.mem_of_getElem? (i := 216) (by decide +kernel)) rfl
theorem k_J2_newBytesLength_0f7a4 : Cond.code yJ2_newBytesLength_0f7a4 cJ2_newBytesLength_0f7a4 1 (some .int) ∈ wU := tb1 (List.mem_of_getElem? (i := 217) (by decide +kernel)) rfl
theorem il_RJ2_20 : Cond.constant RJ2 20 (1073741823 : Int32) ∈ wU := tb1 (List.mem_of_getElem? (i := 218) (by decide +kernel)) rfl
theorem il_RJ5_15 : Cond.fieldLink RJ5 15 RJ5 "value" "[B" ∈ wU := tb1 (List.mem_of_getElem? (i := 219) (by decide +kernel)) rfl
theorem il_RJ5_22 : Cond.fieldLink RJ5 22 RJ5 "coder" "B" ∈ wU := tb1 (List.mem_of_getElem? (i := 220) (by decide +kernel)) rfl
theorem il_RJ5_73 : Cond.fieldLink RJ5 73 RJ5 "maybeLatin1" "Z" ∈ wU := tb1 (List.mem_of_getElem? (i := 221) (by decide +kernel)) rfl
theorem il_RJ0_1048 : Cond.fieldLink RJ0 1048 RJ5 "maybeLatin1" "Z" ∈ wU := tb1 (List.mem_of_getElem? (i := 222) (by decide +kernel)) rfl
theorem il_RJ5_79 : Cond.fieldLink RJ5 79 RJ5 "count" "I" ∈ wU := tb1 (List.mem_of_getElem? (i := 223) (by decide +kernel)) rfl
theorem ia_a_byte : Cond.arrayClass .byte ∈ wU := tb1 (List.mem_of_getElem? (i := 233) (by decide +kernel)) rfl
theorem il_RX2_18 : Cond.classLink RX2 18 RX1 ∈ wU := tb1 (List.mem_of_getElem? (i := 234) (by decide +kernel)) rfl
theorem il_RX2_12 : Cond.fieldLink RX2 12 RX2 "buffer" "Ljava/lang/StringBuilder;" ∈ wU := tb1 (List.mem_of_getElem? (i := 236) (by decide +kernel)) rfl
theorem il_RX2_20 : Cond.fieldLink RX2 20 RX2 "commands" "[LInkPrintery$Command;" ∈ wU := tb1 (List.mem_of_getElem? (i := 237) (by decide +kernel)) rfl
theorem il_RX7_369 : Cond.fieldLink RX7 369 RX2 "commands" "[LInkPrintery$Command;" ∈ wU := tb1 (List.mem_of_getElem? (i := 238) (by decide +kernel)) rfl
theorem il_RX2_24 : Cond.fieldLink RX2 24 RX2 "firsts" "[I" ∈ wU := tb1 (List.mem_of_getElem? (i := 239) (by decide +kernel)) rfl
theorem il_RX7_373 : Cond.fieldLink RX7 373 RX2 "firsts" "[I" ∈ wU := tb2 (List.mem_of_getElem? (i := 0) (by decide +kernel)) rfl
theorem il_RX2_28 : Cond.fieldLink RX2 28 RX2 "seconds" "[I" ∈ wU := tb2 (List.mem_of_getElem? (i := 1) (by decide +kernel)) rfl
theorem il_RX7_376 : Cond.fieldLink RX7 376 RX2 "seconds" "[I" ∈ wU := tb2 (List.mem_of_getElem? (i := 2) (by decide +kernel)) rfl
theorem il_RX2_31 : Cond.fieldLink RX2 31 RX2 "count" "I" ∈ wU := tb2 (List.mem_of_getElem? (i := 3) (by decide +kernel)) rfl
theorem il_RX7_323 : Cond.fieldLink RX7 323 RX2 "count" "I" ∈ wU := tb2 (List.mem_of_getElem? (i := 4) (by decide +kernel)) rfl
theorem il_RX2_35 : Cond.fieldLink RX2 35 RX2 "position" "I" ∈ wU := tb2 (List.mem_of_getElem? (i := 5) (by decide +kernel)) rfl
theorem il_RX7_298 : Cond.fieldLink RX7 298 RX2 "position" "I" ∈ wU := tb2 (List.mem_of_getElem? (i := 6) (by decide +kernel)) rfl
theorem il_RX7_54 : Cond.classLink RX7 54 RJ4 ∈ wU := tb2 (List.mem_of_getElem? (i := 20) (by decide +kernel)) rfl
theorem il_RX7_56 : Cond.methodLink RX7 56 yJ4_init_da8c8 ∈ wU := tb2 (List.mem_of_getElem? (i := 21) (by decide +kernel)) rfl
theorem il_RX7_12 : Cond.fieldLink RX7 12 RX7 "shop" "LInkPrintery$Shop;" ∈ wU := tb2 (List.mem_of_getElem? (i := 22) (by decide +kernel)) rfl
theorem il_RX7_16 : Cond.fieldLink RX7 16 RX7 "snapshot" "LInkPrintery$Shop;" ∈ wU := tb2 (List.mem_of_getElem? (i := 23) (by decide +kernel)) rfl
theorem il_RX7_22 : Cond.fieldLink RX7 22 RX7 "history" "LInkPrintery$History;" ∈ wU := tb2 (List.mem_of_getElem? (i := 24) (by decide +kernel)) rfl
theorem il_RX7_29 : Cond.fieldLink RX7 29 RX7 "bestOrder" "LInkPrintery$BestOrder;" ∈ wU := tb2 (List.mem_of_getElem? (i := 25) (by decide +kernel)) rfl
theorem il_RX7_36 : Cond.fieldLink RX7 36 RX7 "shares" "LInkPrintery$Shares;" ∈ wU := tb2 (List.mem_of_getElem? (i := 26) (by decide +kernel)) rfl
theorem il_RX7_43 : Cond.fieldLink RX7 43 RX7 "rises" "LInkPrintery$Rises;" ∈ wU := tb2 (List.mem_of_getElem? (i := 27) (by decide +kernel)) rfl
theorem il_RX7_50 : Cond.fieldLink RX7 50 RX7 "text" "LInkPrintery$CommandText;" ∈ wU := tb2 (List.mem_of_getElem? (i := 28) (by decide +kernel)) rfl
theorem il_RX7_57 : Cond.fieldLink RX7 57 RX7 "line" "Ljava/lang/StringBuilder;" ∈ wU := tb2 (List.mem_of_getElem? (i := 29) (by decide +kernel)) rfl
theorem il_RX7_61 : Cond.fieldLink RX7 61 RX7 "hasSnapshot" "Z" ∈ wU := tb2 (List.mem_of_getElem? (i := 30) (by decide +kernel)) rfl
theorem il_RX7_65 : Cond.fieldLink RX7 65 RX7 "lastErrorPosition" "I" ∈ wU := tb2 (List.mem_of_getElem? (i := 31) (by decide +kernel)) rfl
theorem il_RX7_69 : Cond.fieldLink RX7 69 RX7 "lastFailedCommand" "I" ∈ wU := tb2 (List.mem_of_getElem? (i := 32) (by decide +kernel)) rfl
theorem il_RL_151 : Cond.methodLink RL 151 yX7_paper ∈ wU := tb2 (List.mem_of_getElem? (i := 56) (by decide +kernel)) rfl
theorem im_X7_paper : Cond.instanceMethod yX7_paper ∈ wU := tb2 (List.mem_of_getElem? (i := 57) (by decide +kernel)) rfl
theorem is_X7_paper : Cond.selects RX7 yX7_paper yX7_paper ∈ wU := tb2 (List.mem_of_getElem? (i := 58) (by decide +kernel)) rfl
theorem k_X7_paper : Cond.code yX7_paper cX7_paper 1 (some .int) ∈ wU := tb2 (List.mem_of_getElem? (i := 59) (by decide +kernel)) rfl
theorem il_RL_155 : Cond.methodLink RL 155 yX7_hour ∈ wU := tb2 (List.mem_of_getElem? (i := 60) (by decide +kernel)) rfl
theorem im_X7_hour : Cond.instanceMethod yX7_hour ∈ wU := tb2 (List.mem_of_getElem? (i := 61) (by decide +kernel)) rfl
theorem is_X7_hour : Cond.selects RX7 yX7_hour yX7_hour ∈ wU := tb2 (List.mem_of_getElem? (i := 62) (by decide +kernel)) rfl
theorem k_X7_hour : Cond.code yX7_hour cX7_hour 1 (some .int) ∈ wU := tb2 (List.mem_of_getElem? (i := 63) (by decide +kernel)) rfl
theorem il_RL_177 : Cond.methodLink RL 177 yX7_printAll ∈ wU := tb2 (List.mem_of_getElem? (i := 64) (by decide +kernel)) rfl
theorem im_X7_printAll : Cond.instanceMethod yX7_printAll ∈ wU := tb2 (List.mem_of_getElem? (i := 65) (by decide +kernel)) rfl
theorem is_X7_printAll : Cond.selects RX7 yX7_printAll yX7_printAll ∈ wU := tb2 (List.mem_of_getElem? (i := 66) (by decide +kernel)) rfl
theorem k_X7_printAll : Cond.code yX7_printAll cX7_printAll 1 (some .int) ∈ wU := tb2 (List.mem_of_getElem? (i := 67) (by decide +kernel)) rfl
theorem il_RX7_129 : Cond.fieldLink RX7 129 RX1 "ALL" "LInkPrintery$Command;" ∈ wU := tb2 (List.mem_of_getElem? (i := 68) (by decide +kernel)) rfl
theorem il_RX7_78 : Cond.methodLink RX7 78 yX7_modify ∈ wU := tb2 (List.mem_of_getElem? (i := 70) (by decide +kernel)) rfl
theorem is_X7_modify : Cond.selects RX7 yX7_modify yX7_modify ∈ wU := tp (q := (yX7_modify, 11)) 0 (by decide +kernel)
theorem im_X7_modify : Cond.instanceMethod yX7_modify ∈ wU := tb2 (List.mem_of_getElem? (i := 72) (by decide +kernel)) rfl
theorem k_X7_modify : Cond.code yX7_modify cX7_modify 5 (some .int) ∈ wU := tb2 (List.mem_of_getElem? (i := 73) (by decide +kernel)) rfl
theorem il_RX7_306 : Cond.methodLink RX7 306 yX3_note ∈ wU := tb2 (List.mem_of_getElem? (i := 74) (by decide +kernel)) rfl
theorem im_X3_note : Cond.instanceMethod yX3_note ∈ wU := tb2 (List.mem_of_getElem? (i := 75) (by decide +kernel)) rfl
theorem is_X3_note : Cond.selects RX3 yX3_note yX3_note ∈ wU := tb2 (List.mem_of_getElem? (i := 76) (by decide +kernel)) rfl
theorem k_X3_note : Cond.code yX3_note cX3_note 2 none ∈ wU := tb2 (List.mem_of_getElem? (i := 77) (by decide +kernel)) rfl
theorem il_RX3_25 : Cond.methodLink RX3 25 yX6_copyFrom ∈ wU := tb2 (List.mem_of_getElem? (i := 78) (by decide +kernel)) rfl
theorem im_X6_copyFrom : Cond.instanceMethod yX6_copyFrom ∈ wU := tb2 (List.mem_of_getElem? (i := 79) (by decide +kernel)) rfl
theorem is_X6_copyFrom : Cond.selects RX6 yX6_copyFrom yX6_copyFrom ∈ wU := tb2 (List.mem_of_getElem? (i := 80) (by decide +kernel)) rfl
theorem k_X6_copyFrom : Cond.code yX6_copyFrom cX6_copyFrom 2 none ∈ wU := tb2 (List.mem_of_getElem? (i := 81) (by decide +kernel)) rfl
theorem il_RX7_336 : Cond.methodLink RX7 336 yX7_carryOut ∈ wU := tb2 (List.mem_of_getElem? (i := 85) (by decide +kernel)) rfl
theorem is_X7_carryOut : Cond.selects RX7 yX7_carryOut yX7_carryOut ∈ wU := tp (q := (yX7_carryOut, 11)) 1 (by decide +kernel)
theorem im_X7_carryOut : Cond.instanceMethod yX7_carryOut ∈ wU := tb2 (List.mem_of_getElem? (i := 87) (by decide +kernel)) rfl
theorem k_X7_carryOut : Cond.code yX7_carryOut cX7_carryOut 4 (some .int) ∈ wU := tb2 (List.mem_of_getElem? (i := 88) (by decide +kernel)) rfl
theorem il_RX7_72 : Cond.fieldLink RX7 72 RX1 "INK" "LInkPrintery$Command;" ∈ wU := tb2 (List.mem_of_getElem? (i := 89) (by decide +kernel)) rfl
theorem il_RX7_342 : Cond.methodLink RX7 342 yX6_pour ∈ wU := tb2 (List.mem_of_getElem? (i := 91) (by decide +kernel)) rfl
theorem im_X6_pour : Cond.instanceMethod yX6_pour ∈ wU := tb2 (List.mem_of_getElem? (i := 92) (by decide +kernel)) rfl
theorem is_X6_pour : Cond.selects RX6 yX6_pour yX6_pour ∈ wU := tb2 (List.mem_of_getElem? (i := 93) (by decide +kernel)) rfl
theorem k_X6_pour : Cond.code yX6_pour cX6_pour 3 (some .int) ∈ wU := tb2 (List.mem_of_getElem? (i := 94) (by decide +kernel)) rfl
theorem il_RX6_65 : Cond.methodLinkNest RX6 65 yX7_isColour "InkPrintery" ∈ ia_nest := tn2 rfl (List.mem_of_getElem? (i := 95) (by decide +kernel))
theorem it_X7_isColour : Cond.static yX7_isColour ∈ wU := tb2 (List.mem_of_getElem? (i := 96) (by decide +kernel)) rfl
theorem k_X7_isColour : Cond.code yX7_isColour cX7_isColour 1 (some .boolean) ∈ wU := tb2 (List.mem_of_getElem? (i := 97) (by decide +kernel)) rfl
theorem il_RX7_106 : Cond.methodLink RX7 106 yX7_isWithin ∈ wU := tb2 (List.mem_of_getElem? (i := 98) (by decide +kernel)) rfl
theorem it_X7_isWithin : Cond.static yX7_isWithin ∈ wU := tb2 (List.mem_of_getElem? (i := 99) (by decide +kernel)) rfl
theorem k_X7_isWithin : Cond.code yX7_isWithin cX7_isWithin 3 (some .boolean) ∈ wU := tb2 (List.mem_of_getElem? (i := 100) (by decide +kernel)) rfl
theorem il_RX6_69 : Cond.methodLinkNest RX6 69 yX7_isWithin "InkPrintery" ∈ ia_nest := tn2 rfl (List.mem_of_getElem? (i := 101) (by decide +kernel))
theorem il_RX7_82 : Cond.fieldLink RX7 82 RX1 "PAPER" "LInkPrintery$Command;" ∈ wU := tb2 (List.mem_of_getElem? (i := 102) (by decide +kernel)) rfl
theorem il_RX7_345 : Cond.methodLink RX7 345 yX6_buy ∈ wU := tb2 (List.mem_of_getElem? (i := 104) (by decide +kernel)) rfl
theorem im_X6_buy : Cond.instanceMethod yX6_buy ∈ wU := tb2 (List.mem_of_getElem? (i := 105) (by decide +kernel)) rfl
theorem is_X6_buy : Cond.selects RX6 yX6_buy yX6_buy ∈ wU := tb2 (List.mem_of_getElem? (i := 106) (by decide +kernel)) rfl
theorem k_X6_buy : Cond.code yX6_buy cX6_buy 2 (some .int) ∈ wU := tb2 (List.mem_of_getElem? (i := 107) (by decide +kernel)) rfl
theorem il_RX7_120 : Cond.fieldLink RX7 120 RX1 "EDITION" "LInkPrintery$Command;" ∈ wU := tb2 (List.mem_of_getElem? (i := 108) (by decide +kernel)) rfl
theorem il_RX7_348 : Cond.methodLink RX7 348 yX6_takeEdition ∈ wU := tb2 (List.mem_of_getElem? (i := 110) (by decide +kernel)) rfl
theorem im_X6_takeEdition : Cond.instanceMethod yX6_takeEdition ∈ wU := tb2 (List.mem_of_getElem? (i := 111) (by decide +kernel)) rfl
theorem is_X6_takeEdition : Cond.selects RX6 yX6_takeEdition yX6_takeEdition ∈ wU := tb2 (List.mem_of_getElem? (i := 112) (by decide +kernel)) rfl
theorem k_X6_takeEdition : Cond.code yX6_takeEdition cX6_takeEdition 4 (some .int) ∈ wU := tb2 (List.mem_of_getElem? (i := 113) (by decide +kernel)) rfl
theorem il_RX7_123 : Cond.fieldLink RX7 123 RX1 "REMOVE" "LInkPrintery$Command;" ∈ wU := tb2 (List.mem_of_getElem? (i := 114) (by decide +kernel)) rfl
theorem il_RX7_351 : Cond.methodLink RX7 351 yX6_strikeEdition ∈ wU := tb2 (List.mem_of_getElem? (i := 116) (by decide +kernel)) rfl
theorem im_X6_strikeEdition : Cond.instanceMethod yX6_strikeEdition ∈ wU := tb2 (List.mem_of_getElem? (i := 117) (by decide +kernel)) rfl
theorem is_X6_strikeEdition : Cond.selects RX6 yX6_strikeEdition yX6_strikeEdition ∈ wU := tb2 (List.mem_of_getElem? (i := 118) (by decide +kernel)) rfl
theorem k_X6_strikeEdition : Cond.code yX6_strikeEdition cX6_strikeEdition 2 (some .int) ∈ wU := tb2 (List.mem_of_getElem? (i := 119) (by decide +kernel)) rfl
theorem il_RX6_87 : Cond.methodLink RX6 87 yX6_hasEdition ∈ wU := tb2 (List.mem_of_getElem? (i := 120) (by decide +kernel)) rfl
theorem im_X6_hasEdition : Cond.instanceMethod yX6_hasEdition ∈ wU := tb2 (List.mem_of_getElem? (i := 121) (by decide +kernel)) rfl
theorem is_X6_hasEdition : Cond.selects RX6 yX6_hasEdition yX6_hasEdition ∈ wU := tb2 (List.mem_of_getElem? (i := 122) (by decide +kernel)) rfl
theorem k_X6_hasEdition : Cond.code yX6_hasEdition cX6_hasEdition 2 (some .boolean) ∈ wU := tb2 (List.mem_of_getElem? (i := 123) (by decide +kernel)) rfl
theorem il_RX6_90 : Cond.methodLink RX6 90 yX6_closeGap ∈ wU := tb2 (List.mem_of_getElem? (i := 124) (by decide +kernel)) rfl
theorem it_X6_closeGap : Cond.static yX6_closeGap ∈ wU := tb2 (List.mem_of_getElem? (i := 125) (by decide +kernel)) rfl
theorem k_X6_closeGap : Cond.code yX6_closeGap cX6_closeGap 4 none ∈ wU := tb2 (List.mem_of_getElem? (i := 126) (by decide +kernel)) rfl
theorem il_RX7_126 : Cond.fieldLink RX7 126 RX1 "PRINT" "LInkPrintery$Command;" ∈ wU := tb2 (List.mem_of_getElem? (i := 127) (by decide +kernel)) rfl
theorem il_RX7_354 : Cond.methodLink RX7 354 yX6_printOne ∈ wU := tb2 (List.mem_of_getElem? (i := 129) (by decide +kernel)) rfl
theorem im_X6_printOne : Cond.instanceMethod yX6_printOne ∈ wU := tb2 (List.mem_of_getElem? (i := 130) (by decide +kernel)) rfl
theorem is_X6_printOne : Cond.selects RX6 yX6_printOne yX6_printOne ∈ wU := tb2 (List.mem_of_getElem? (i := 131) (by decide +kernel)) rfl
theorem k_X6_printOne : Cond.code yX6_printOne cX6_printOne 3 (some .int) ∈ wU := tb2 (List.mem_of_getElem? (i := 132) (by decide +kernel)) rfl
theorem il_RX6_94 : Cond.methodLink RX6 94 yX6_missing ∈ wU := tb2 (List.mem_of_getElem? (i := 133) (by decide +kernel)) rfl
theorem im_X6_missing : Cond.instanceMethod yX6_missing ∈ wU := tb2 (List.mem_of_getElem? (i := 134) (by decide +kernel)) rfl
theorem is_X6_missing : Cond.selects RX6 yX6_missing yX6_missing ∈ wU := tb2 (List.mem_of_getElem? (i := 135) (by decide +kernel)) rfl
theorem k_X6_missing : Cond.code yX6_missing cX6_missing 2 (some .int) ∈ wU := tb2 (List.mem_of_getElem? (i := 136) (by decide +kernel)) rfl
theorem it_J9_min_7cf53 : Cond.static yJ9_min_7cf53 ∈ wU := tb2 (List.mem_of_getElem? (i := 138) (by decide +kernel)) rfl
theorem k_J9_min_7cf53 : Cond.code yJ9_min_7cf53 cJ9_min_7cf53 2 (some .int) ∈ wU := tb2 (List.mem_of_getElem? (i := 139) (by decide +kernel)) rfl
theorem il_RX6_98 : Cond.methodLink RX6 98 yX6_printUpTo ∈ wU := tb2 (List.mem_of_getElem? (i := 140) (by decide +kernel)) rfl
theorem im_X6_printUpTo : Cond.instanceMethod yX6_printUpTo ∈ wU := tb2 (List.mem_of_getElem? (i := 141) (by decide +kernel)) rfl
theorem is_X6_printUpTo : Cond.selects RX6 yX6_printUpTo yX6_printUpTo ∈ wU := tb2 (List.mem_of_getElem? (i := 142) (by decide +kernel)) rfl
theorem k_X6_printUpTo : Cond.code yX6_printUpTo cX6_printUpTo 5 (some .int) ∈ wU := tb2 (List.mem_of_getElem? (i := 143) (by decide +kernel)) rfl
theorem il_RX6_101 : Cond.methodLinkNest RX6 101 yX7_washMinutes "InkPrintery" ∈ ia_nest := tn2 rfl (List.mem_of_getElem? (i := 144) (by decide +kernel))
theorem it_X7_washMinutes : Cond.static yX7_washMinutes ∈ wU := tb2 (List.mem_of_getElem? (i := 145) (by decide +kernel)) rfl
theorem k_X7_washMinutes : Cond.code yX7_washMinutes cX7_washMinutes 2 (some .int) ∈ wU := tb2 (List.mem_of_getElem? (i := 146) (by decide +kernel)) rfl
theorem il_RX7_357 : Cond.methodLink RX7 357 yX7_printOpenEditions ∈ wU := tb2 (List.mem_of_getElem? (i := 147) (by decide +kernel)) rfl
theorem is_X7_printOpenEditions : Cond.selects RX7 yX7_printOpenEditions yX7_printOpenEditions ∈ wU := tp (q := (yX7_printOpenEditions, 11)) 2 (by decide +kernel)
theorem im_X7_printOpenEditions : Cond.instanceMethod yX7_printOpenEditions ∈ wU := tb2 (List.mem_of_getElem? (i := 149) (by decide +kernel)) rfl
theorem k_X7_printOpenEditions : Cond.code yX7_printOpenEditions cX7_printOpenEditions 4 (some .int) ∈ wU := tb2 (List.mem_of_getElem? (i := 150) (by decide +kernel)) rfl
theorem il_RX7_160 : Cond.methodLink RX7 160 yX0_find ∈ wU := tb2 (List.mem_of_getElem? (i := 151) (by decide +kernel)) rfl
theorem im_X0_find : Cond.instanceMethod yX0_find ∈ wU := tb2 (List.mem_of_getElem? (i := 152) (by decide +kernel)) rfl
theorem is_X0_find : Cond.selects RX0 yX0_find yX0_find ∈ wU := tb2 (List.mem_of_getElem? (i := 153) (by decide +kernel)) rfl
theorem k_X0_find : Cond.code yX0_find cX0_find 4 none ∈ wU := tb2 (List.mem_of_getElem? (i := 154) (by decide +kernel)) rfl
theorem il_RX0_34 : Cond.methodLink RX0 34 yX0_listOpen ∈ wU := tb2 (List.mem_of_getElem? (i := 155) (by decide +kernel)) rfl
theorem is_X0_listOpen : Cond.selects RX0 yX0_listOpen yX0_listOpen ∈ wU := tp (q := (yX0_listOpen, 7)) 3 (by decide +kernel)
theorem im_X0_listOpen : Cond.instanceMethod yX0_listOpen ∈ wU := tb2 (List.mem_of_getElem? (i := 157) (by decide +kernel)) rfl
theorem k_X0_listOpen : Cond.code yX0_listOpen cX0_listOpen 3 none ∈ wU := tb2 (List.mem_of_getElem? (i := 158) (by decide +kernel)) rfl
theorem il_RX0_58 : Cond.methodLink RX0 58 yX6_missing ∈ wU := tb2 (List.mem_of_getElem? (i := 159) (by decide +kernel)) rfl
theorem il_RX0_38 : Cond.methodLink RX0 38 yX0_contains ∈ wU := tb2 (List.mem_of_getElem? (i := 160) (by decide +kernel)) rfl
theorem it_X0_contains : Cond.static yX0_contains ∈ wU := tb2 (List.mem_of_getElem? (i := 161) (by decide +kernel)) rfl
theorem k_X0_contains : Cond.code yX0_contains cX0_contains 2 (some .boolean) ∈ wU := tb2 (List.mem_of_getElem? (i := 162) (by decide +kernel)) rfl
theorem il_RX0_42 : Cond.methodLink RX0 42 yX0_chooseNext ∈ wU := tb2 (List.mem_of_getElem? (i := 163) (by decide +kernel)) rfl
theorem is_X0_chooseNext : Cond.selects RX0 yX0_chooseNext yX0_chooseNext ∈ wU := tp (q := (yX0_chooseNext, 7)) 4 (by decide +kernel)
theorem im_X0_chooseNext : Cond.instanceMethod yX0_chooseNext ∈ wU := tb2 (List.mem_of_getElem? (i := 165) (by decide +kernel)) rfl
theorem k_X0_chooseNext : Cond.code yX0_chooseNext cX0_chooseNext 7 (some .int) ∈ wU := tb2 (List.mem_of_getElem? (i := 166) (by decide +kernel)) rfl
theorem il_RX0_65 : Cond.methodLinkNest RX0 65 yX7_washMinutes "InkPrintery" ∈ ia_nest := tn2 rfl (List.mem_of_getElem? (i := 167) (by decide +kernel))
theorem il_RX0_51 : Cond.methodLink RX0 51 yX0_follow ∈ wU := tb2 (List.mem_of_getElem? (i := 168) (by decide +kernel)) rfl
theorem is_X0_follow : Cond.selects RX0 yX0_follow yX0_follow ∈ wU := tp (q := (yX0_follow, 7)) 5 (by decide +kernel)
theorem im_X0_follow : Cond.instanceMethod yX0_follow ∈ wU := tb2 (List.mem_of_getElem? (i := 170) (by decide +kernel)) rfl
theorem k_X0_follow : Cond.code yX0_follow cX0_follow 6 none ∈ wU := tb2 (List.mem_of_getElem? (i := 171) (by decide +kernel)) rfl
theorem il_RX7_180 : Cond.methodLink RX7 180 yX5_dealSheetBySheet ∈ wU := tb2 (List.mem_of_getElem? (i := 172) (by decide +kernel)) rfl
theorem im_X5_dealSheetBySheet : Cond.instanceMethod yX5_dealSheetBySheet ∈ wU := tb2 (List.mem_of_getElem? (i := 173) (by decide +kernel)) rfl
theorem is_X5_dealSheetBySheet : Cond.selects RX5 yX5_dealSheetBySheet yX5_dealSheetBySheet ∈ wU := tb2 (List.mem_of_getElem? (i := 174) (by decide +kernel)) rfl
theorem k_X5_dealSheetBySheet : Cond.code yX5_dealSheetBySheet cX5_dealSheetBySheet 4 none ∈ wU := tb2 (List.mem_of_getElem? (i := 175) (by decide +kernel)) rfl
theorem il_RX5_21 : Cond.methodLink RX5 21 yX5_nextToGet ∈ wU := tb2 (List.mem_of_getElem? (i := 176) (by decide +kernel)) rfl
theorem is_X5_nextToGet : Cond.selects RX5 yX5_nextToGet yX5_nextToGet ∈ wU := tp (q := (yX5_nextToGet, 1)) 6 (by decide +kernel)
theorem im_X5_nextToGet : Cond.instanceMethod yX5_nextToGet ∈ wU := tb2 (List.mem_of_getElem? (i := 178) (by decide +kernel)) rfl
theorem k_X5_nextToGet : Cond.code yX5_nextToGet cX5_nextToGet 5 (some .int) ∈ wU := tb2 (List.mem_of_getElem? (i := 179) (by decide +kernel)) rfl
theorem il_RX5_28 : Cond.methodLink RX5 28 yX6_missing ∈ wU := tb2 (List.mem_of_getElem? (i := 180) (by decide +kernel)) rfl
theorem il_RX7_379 : Cond.methodLink RX7 379 yX6_printUpTo ∈ wU := tb2 (List.mem_of_getElem? (i := 181) (by decide +kernel)) rfl
theorem il_RX7_85 : Cond.fieldLink RX7 85 RX1 "HOURS" "LInkPrintery$Command;" ∈ wU := tb2 (List.mem_of_getElem? (i := 182) (by decide +kernel)) rfl
theorem il_RX7_360 : Cond.methodLink RX7 360 yX6_letPass ∈ wU := tb2 (List.mem_of_getElem? (i := 184) (by decide +kernel)) rfl
theorem im_X6_letPass : Cond.instanceMethod yX6_letPass ∈ wU := tb2 (List.mem_of_getElem? (i := 185) (by decide +kernel)) rfl
theorem is_X6_letPass : Cond.selects RX6 yX6_letPass yX6_letPass ∈ wU := tb2 (List.mem_of_getElem? (i := 186) (by decide +kernel)) rfl
theorem k_X6_letPass : Cond.code yX6_letPass cX6_letPass 4 (some .int) ∈ wU := tb2 (List.mem_of_getElem? (i := 187) (by decide +kernel)) rfl
theorem il_RX6_73 : Cond.methodLink RX6 73 yX6_fadeInThisHour ∈ wU := tb2 (List.mem_of_getElem? (i := 188) (by decide +kernel)) rfl
theorem is_X6_fadeInThisHour : Cond.selects RX6 yX6_fadeInThisHour yX6_fadeInThisHour ∈ wU := tp (q := (yX6_fadeInThisHour, 15)) 7 (by decide +kernel)
theorem im_X6_fadeInThisHour : Cond.instanceMethod yX6_fadeInThisHour ∈ wU := tb2 (List.mem_of_getElem? (i := 190) (by decide +kernel)) rfl
theorem k_X6_fadeInThisHour : Cond.code yX6_fadeInThisHour cX6_fadeInThisHour 4 (some .int) ∈ wU := tb2 (List.mem_of_getElem? (i := 191) (by decide +kernel)) rfl
theorem il_RX6_77 : Cond.methodLink RX6 77 yX6_inkInHour ∈ wU := tb2 (List.mem_of_getElem? (i := 192) (by decide +kernel)) rfl
theorem it_X6_inkInHour : Cond.static yX6_inkInHour ∈ wU := tb2 (List.mem_of_getElem? (i := 193) (by decide +kernel)) rfl
theorem k_X6_inkInHour : Cond.code yX6_inkInHour cX6_inkInHour 3 (some .int) ∈ wU := tb2 (List.mem_of_getElem? (i := 194) (by decide +kernel)) rfl
theorem il_RX7_192 : Cond.fieldLink RX7 192 RX1 "PROOF" "LInkPrintery$Command;" ∈ wU := tb2 (List.mem_of_getElem? (i := 195) (by decide +kernel)) rfl
theorem il_RX7_363 : Cond.methodLink RX7 363 yX6_makeProof ∈ wU := tb2 (List.mem_of_getElem? (i := 197) (by decide +kernel)) rfl
theorem im_X6_makeProof : Cond.instanceMethod yX6_makeProof ∈ wU := tb2 (List.mem_of_getElem? (i := 198) (by decide +kernel)) rfl
theorem is_X6_makeProof : Cond.selects RX6 yX6_makeProof yX6_makeProof ∈ wU := tb2 (List.mem_of_getElem? (i := 199) (by decide +kernel)) rfl
theorem k_X6_makeProof : Cond.code yX6_makeProof cX6_makeProof 3 (some .int) ∈ wU := tb2 (List.mem_of_getElem? (i := 200) (by decide +kernel)) rfl
theorem il_RX7_366 : Cond.methodLink RX7 366 yX6_discardProof ∈ wU := tb2 (List.mem_of_getElem? (i := 201) (by decide +kernel)) rfl
theorem im_X6_discardProof : Cond.instanceMethod yX6_discardProof ∈ wU := tb2 (List.mem_of_getElem? (i := 202) (by decide +kernel)) rfl
theorem is_X6_discardProof : Cond.selects RX6 yX6_discardProof yX6_discardProof ∈ wU := tb2 (List.mem_of_getElem? (i := 203) (by decide +kernel)) rfl
theorem k_X6_discardProof : Cond.code yX6_discardProof cX6_discardProof 2 (some .int) ∈ wU := tb2 (List.mem_of_getElem? (i := 204) (by decide +kernel)) rfl
theorem il_RX6_107 : Cond.methodLink RX6 107 yX6_hasProof ∈ wU := tb2 (List.mem_of_getElem? (i := 205) (by decide +kernel)) rfl
theorem im_X6_hasProof : Cond.instanceMethod yX6_hasProof ∈ wU := tb2 (List.mem_of_getElem? (i := 206) (by decide +kernel)) rfl
theorem is_X6_hasProof : Cond.selects RX6 yX6_hasProof yX6_hasProof ∈ wU := tb2 (List.mem_of_getElem? (i := 207) (by decide +kernel)) rfl
theorem k_X6_hasProof : Cond.code yX6_hasProof cX6_hasProof 2 (some .boolean) ∈ wU := tb2 (List.mem_of_getElem? (i := 208) (by decide +kernel)) rfl
theorem il_RX7_339 : Cond.methodLink RX7 339 yX7_throwIfRefused ∈ wU := tb2 (List.mem_of_getElem? (i := 209) (by decide +kernel)) rfl
theorem it_X7_throwIfRefused : Cond.static yX7_throwIfRefused ∈ wU := tb2 (List.mem_of_getElem? (i := 210) (by decide +kernel)) rfl
theorem k_X7_throwIfRefused : Cond.code yX7_throwIfRefused cX7_throwIfRefused 1 none ∈ wU := tb2 (List.mem_of_getElem? (i := 211) (by decide +kernel)) rfl
theorem il_RX7_92 : Cond.methodLink RX7 92 yX7_requireArgument ∈ wU := tb2 (List.mem_of_getElem? (i := 212) (by decide +kernel)) rfl
theorem it_X7_requireArgument : Cond.static yX7_requireArgument ∈ wU := tb2 (List.mem_of_getElem? (i := 213) (by decide +kernel)) rfl
theorem k_X7_requireArgument : Cond.code yX7_requireArgument cX7_requireArgument 1 none ∈ wU := tb2 (List.mem_of_getElem? (i := 214) (by decide +kernel)) rfl
theorem il_RX7_301 : Cond.classLink RX7 301 "java/lang/IllegalArgumentException" ∈ wU := tb2 (List.mem_of_getElem? (i := 215) (by decide +kernel)) rfl
theorem ia_i_Zjava_lang_IllegalArgumentException : Cond.instantiable "java/lang/IllegalArgumentException" 6 ∈ wU := tb2 (List.mem_of_getElem? (i := 216) (by decide +kernel)) rfl
theorem il_Zjava_lang_Throwable_198 : Cond.fieldLink "java/lang/Throwable" 198 "java/lang/Throwable" "backtrace" "Ljava/lang/Object;" ∈ wU := tb2 (List.mem_of_getElem? (i := 236) (by decide +kernel)) rfl
theorem il_Zjava_lang_Throwable_13 : Cond.fieldLink "java/lang/Throwable" 13 "java/lang/Throwable" "UNASSIGNED_STACK" "[Ljava/lang/StackTraceElement;" ∈ wU := tb3 (List.mem_of_getElem? (i := 1) (by decide +kernel)) rfl
theorem il_Zjava_lang_Throwable_20 : Cond.fieldLink "java/lang/Throwable" 20 "java/lang/Throwable" "SUPPRESSED_SENTINEL" "Ljava/util/List;" ∈ wU := tb3 (List.mem_of_getElem? (i := 3) (by decide +kernel)) rfl
theorem ia_i_Zjava_lang_Throwable : Cond.instantiable "java/lang/Throwable" 6 ∈ wU := tb3 (List.mem_of_getElem? (i := 19) (by decide +kernel)) rfl
theorem il_Zjava_lang_Throwable_31 : Cond.fieldLink "java/lang/Throwable" 31 "java/lang/Throwable" "detailMessage" "Ljava/lang/String;" ∈ wU := tb3 (List.mem_of_getElem? (i := 35) (by decide +kernel)) rfl
theorem il_Zjava_lang_Throwable_7 : Cond.fieldLink "java/lang/Throwable" 7 "java/lang/Throwable" "cause" "Ljava/lang/Throwable;" ∈ wU := tb3 (List.mem_of_getElem? (i := 36) (by decide +kernel)) rfl
theorem il_Zjava_lang_Throwable_17 : Cond.fieldLink "java/lang/Throwable" 17 "java/lang/Throwable" "stackTrace" "[Ljava/lang/StackTraceElement;" ∈ wU := tb3 (List.mem_of_getElem? (i := 37) (by decide +kernel)) rfl
theorem il_Zjava_lang_Throwable_24 : Cond.fieldLink "java/lang/Throwable" 24 "java/lang/Throwable" "suppressedExceptions" "Ljava/util/List;" ∈ wU := tb3 (List.mem_of_getElem? (i := 38) (by decide +kernel)) rfl
theorem il_RX7_285 : Cond.methodLink RX7 285 yX7_requireState ∈ wU := tb3 (List.mem_of_getElem? (i := 47) (by decide +kernel)) rfl
theorem it_X7_requireState : Cond.static yX7_requireState ∈ wU := tb3 (List.mem_of_getElem? (i := 48) (by decide +kernel)) rfl
theorem k_X7_requireState : Cond.code yX7_requireState cX7_requireState 1 none ∈ wU := tb3 (List.mem_of_getElem? (i := 49) (by decide +kernel)) rfl
theorem il_RX7_315 : Cond.classLink RX7 315 "java/lang/IllegalStateException" ∈ wU := tb3 (List.mem_of_getElem? (i := 50) (by decide +kernel)) rfl
theorem ia_i_Zjava_lang_IllegalStateException : Cond.instantiable "java/lang/IllegalStateException" 6 ∈ wU := tb3 (List.mem_of_getElem? (i := 51) (by decide +kernel)) rfl
theorem il_RX7_138 : Cond.methodLink RX7 138 yX7_requireIndex ∈ wU := tb3 (List.mem_of_getElem? (i := 66) (by decide +kernel)) rfl
theorem it_X7_requireIndex : Cond.static yX7_requireIndex ∈ wU := tb3 (List.mem_of_getElem? (i := 67) (by decide +kernel)) rfl
theorem k_X7_requireIndex : Cond.code yX7_requireIndex cX7_requireIndex 1 none ∈ wU := tb3 (List.mem_of_getElem? (i := 68) (by decide +kernel)) rfl
theorem il_RX7_400 : Cond.classLink RX7 400 "java/lang/IndexOutOfBoundsException" ∈ wU := tb3 (List.mem_of_getElem? (i := 69) (by decide +kernel)) rfl
theorem ia_i_Zjava_lang_IndexOutOfBoundsException : Cond.instantiable "java/lang/IndexOutOfBoundsException" 6 ∈ wU := tb3 (List.mem_of_getElem? (i := 70) (by decide +kernel)) rfl
theorem il_RX7_391 : Cond.classLink RX7 391 "java/lang/UnsupportedOperationException" ∈ wU := tb3 (List.mem_of_getElem? (i := 85) (by decide +kernel)) rfl
theorem ia_i_Zjava_lang_UnsupportedOperationException : Cond.instantiable "java/lang/UnsupportedOperationException" 6 ∈ wU := tb3 (List.mem_of_getElem? (i := 86) (by decide +kernel)) rfl
theorem il_RX7_320 : Cond.methodLink RX7 320 yX3_keepNoted ∈ wU := tb3 (List.mem_of_getElem? (i := 101) (by decide +kernel)) rfl
theorem im_X3_keepNoted : Cond.instanceMethod yX3_keepNoted ∈ wU := tb3 (List.mem_of_getElem? (i := 102) (by decide +kernel)) rfl
theorem is_X3_keepNoted : Cond.selects RX3 yX3_keepNoted yX3_keepNoted ∈ wU := tb3 (List.mem_of_getElem? (i := 103) (by decide +kernel)) rfl
theorem k_X3_keepNoted : Cond.code yX3_keepNoted cX3_keepNoted 1 none ∈ wU := tb3 (List.mem_of_getElem? (i := 104) (by decide +kernel)) rfl
theorem il_RL_181 : Cond.methodLink RL 181 yX7_editionCount ∈ wU := tb3 (List.mem_of_getElem? (i := 106) (by decide +kernel)) rfl
theorem im_X7_editionCount : Cond.instanceMethod yX7_editionCount ∈ wU := tb3 (List.mem_of_getElem? (i := 107) (by decide +kernel)) rfl
theorem is_X7_editionCount : Cond.selects RX7 yX7_editionCount yX7_editionCount ∈ wU := tb3 (List.mem_of_getElem? (i := 108) (by decide +kernel)) rfl
theorem k_X7_editionCount : Cond.code yX7_editionCount cX7_editionCount 1 (some .int) ∈ wU := tb3 (List.mem_of_getElem? (i := 109) (by decide +kernel)) rfl
theorem il_RL_200 : Cond.methodLink RL 200 yX7_pressColour ∈ wU := tb3 (List.mem_of_getElem? (i := 110) (by decide +kernel)) rfl
theorem im_X7_pressColour : Cond.instanceMethod yX7_pressColour ∈ wU := tb3 (List.mem_of_getElem? (i := 111) (by decide +kernel)) rfl
theorem is_X7_pressColour : Cond.selects RX7 yX7_pressColour yX7_pressColour ∈ wU := tb3 (List.mem_of_getElem? (i := 112) (by decide +kernel)) rfl
theorem k_X7_pressColour : Cond.code yX7_pressColour cX7_pressColour 1 (some .int) ∈ wU := tb3 (List.mem_of_getElem? (i := 113) (by decide +kernel)) rfl
theorem il_RL_204 : Cond.methodLink RL 204 yX7_fewestMinutes ∈ wU := tb3 (List.mem_of_getElem? (i := 114) (by decide +kernel)) rfl
theorem im_X7_fewestMinutes : Cond.instanceMethod yX7_fewestMinutes ∈ wU := tb3 (List.mem_of_getElem? (i := 115) (by decide +kernel)) rfl
theorem is_X7_fewestMinutes : Cond.selects RX7 yX7_fewestMinutes yX7_fewestMinutes ∈ wU := tb3 (List.mem_of_getElem? (i := 116) (by decide +kernel)) rfl
theorem k_X7_fewestMinutes : Cond.code yX7_fewestMinutes cX7_fewestMinutes 1 (some .int) ∈ wU := tb3 (List.mem_of_getElem? (i := 117) (by decide +kernel)) rfl
theorem il_RL_208 : Cond.methodLink RL 208 yX7_minutesByOrders ∈ wU := tb3 (List.mem_of_getElem? (i := 118) (by decide +kernel)) rfl
theorem im_X7_minutesByOrders : Cond.instanceMethod yX7_minutesByOrders ∈ wU := tb3 (List.mem_of_getElem? (i := 119) (by decide +kernel)) rfl
theorem is_X7_minutesByOrders : Cond.selects RX7 yX7_minutesByOrders yX7_minutesByOrders ∈ wU := tb3 (List.mem_of_getElem? (i := 120) (by decide +kernel)) rfl
theorem k_X7_minutesByOrders : Cond.code yX7_minutesByOrders cX7_minutesByOrders 1 (some .int) ∈ wU := tb3 (List.mem_of_getElem? (i := 121) (by decide +kernel)) rfl
theorem il_RX7_167 : Cond.methodLink RX7 167 yX0_minutesOfAllOrders ∈ wU := tb3 (List.mem_of_getElem? (i := 122) (by decide +kernel)) rfl
theorem im_X0_minutesOfAllOrders : Cond.instanceMethod yX0_minutesOfAllOrders ∈ wU := tb3 (List.mem_of_getElem? (i := 123) (by decide +kernel)) rfl
theorem is_X0_minutesOfAllOrders : Cond.selects RX0 yX0_minutesOfAllOrders yX0_minutesOfAllOrders ∈ wU := tb3 (List.mem_of_getElem? (i := 124) (by decide +kernel)) rfl
theorem k_X0_minutesOfAllOrders : Cond.code yX0_minutesOfAllOrders cX0_minutesOfAllOrders 2 (some .int) ∈ wU := tb3 (List.mem_of_getElem? (i := 125) (by decide +kernel)) rfl
theorem il_RX0_68 : Cond.methodLink RX0 68 yX0_fewestOfOrders ∈ wU := tb3 (List.mem_of_getElem? (i := 126) (by decide +kernel)) rfl
theorem it_X0_fewestOfOrders : Cond.static yX0_fewestOfOrders ∈ wU := tb3 (List.mem_of_getElem? (i := 127) (by decide +kernel)) rfl
theorem k_X0_fewestOfOrders : Cond.code yX0_fewestOfOrders cX0_fewestOfOrders 8 (some .int) ∈ wU := tb3 (List.mem_of_getElem? (i := 128) (by decide +kernel)) rfl
theorem il_RX0_72 : Cond.methodLink RX0 72 yX0_swap ∈ wU := tb3 (List.mem_of_getElem? (i := 129) (by decide +kernel)) rfl
theorem it_X0_swap : Cond.static yX0_swap ∈ wU := tb3 (List.mem_of_getElem? (i := 130) (by decide +kernel)) rfl
theorem k_X0_swap : Cond.code yX0_swap cX0_swap 4 none ∈ wU := tb3 (List.mem_of_getElem? (i := 131) (by decide +kernel)) rfl
theorem il_RL_230 : Cond.methodLink RL 230 yX7_proofCount ∈ wU := tb3 (List.mem_of_getElem? (i := 133) (by decide +kernel)) rfl
theorem im_X7_proofCount : Cond.instanceMethod yX7_proofCount ∈ wU := tb3 (List.mem_of_getElem? (i := 134) (by decide +kernel)) rfl
theorem is_X7_proofCount : Cond.selects RX7 yX7_proofCount yX7_proofCount ∈ wU := tb3 (List.mem_of_getElem? (i := 135) (by decide +kernel)) rfl
theorem k_X7_proofCount : Cond.code yX7_proofCount cX7_proofCount 1 (some .int) ∈ wU := tb3 (List.mem_of_getElem? (i := 136) (by decide +kernel)) rfl
theorem il_RL_240 : Cond.methodLink RL 240 yX7_longestRise ∈ wU := tb3 (List.mem_of_getElem? (i := 137) (by decide +kernel)) rfl
theorem im_X7_longestRise : Cond.instanceMethod yX7_longestRise ∈ wU := tb3 (List.mem_of_getElem? (i := 138) (by decide +kernel)) rfl
theorem is_X7_longestRise : Cond.selects RX7 yX7_longestRise yX7_longestRise ∈ wU := tb3 (List.mem_of_getElem? (i := 139) (by decide +kernel)) rfl
theorem k_X7_longestRise : Cond.code yX7_longestRise cX7_longestRise 1 (some .int) ∈ wU := tb3 (List.mem_of_getElem? (i := 140) (by decide +kernel)) rfl
theorem il_RX7_210 : Cond.methodLink RX7 210 yX4_longest ∈ wU := tb3 (List.mem_of_getElem? (i := 141) (by decide +kernel)) rfl
theorem im_X4_longest : Cond.instanceMethod yX4_longest ∈ wU := tb3 (List.mem_of_getElem? (i := 142) (by decide +kernel)) rfl
theorem is_X4_longest : Cond.selects RX4 yX4_longest yX4_longest ∈ wU := tb3 (List.mem_of_getElem? (i := 143) (by decide +kernel)) rfl
theorem k_X4_longest : Cond.code yX4_longest cX4_longest 4 (some .int) ∈ wU := tb3 (List.mem_of_getElem? (i := 144) (by decide +kernel)) rfl
theorem il_RX4_27 : Cond.methodLink RX4 27 yX4_findRisesTo ∈ wU := tb3 (List.mem_of_getElem? (i := 145) (by decide +kernel)) rfl
theorem is_X4_findRisesTo : Cond.selects RX4 yX4_findRisesTo yX4_findRisesTo ∈ wU := tp (q := (yX4_findRisesTo, 3)) 9 (by decide +kernel)
theorem im_X4_findRisesTo : Cond.instanceMethod yX4_findRisesTo ∈ wU := tb3 (List.mem_of_getElem? (i := 147) (by decide +kernel)) rfl
theorem k_X4_findRisesTo : Cond.code yX4_findRisesTo cX4_findRisesTo 4 none ∈ wU := tb3 (List.mem_of_getElem? (i := 148) (by decide +kernel)) rfl
theorem il_RX4_40 : Cond.methodLink RX4 40 yX4_lengthen ∈ wU := tb3 (List.mem_of_getElem? (i := 149) (by decide +kernel)) rfl
theorem is_X4_lengthen : Cond.selects RX4 yX4_lengthen yX4_lengthen ∈ wU := tp (q := (yX4_lengthen, 3)) 10 (by decide +kernel)
theorem im_X4_lengthen : Cond.instanceMethod yX4_lengthen ∈ wU := tb3 (List.mem_of_getElem? (i := 151) (by decide +kernel)) rfl
theorem k_X4_lengthen : Cond.code yX4_lengthen cX4_lengthen 4 none ∈ wU := tb3 (List.mem_of_getElem? (i := 152) (by decide +kernel)) rfl
theorem it_J9_max_7cf53 : Cond.static yJ9_max_7cf53 ∈ wU := tb3 (List.mem_of_getElem? (i := 154) (by decide +kernel)) rfl
theorem k_J9_max_7cf53 : Cond.code yJ9_max_7cf53 cJ9_max_7cf53 2 (some .int) ∈ wU := tb3 (List.mem_of_getElem? (i := 155) (by decide +kernel)) rfl
theorem il_RL_244 : Cond.methodLink RL 244 yX7_riseByEnds ∈ wU := tb3 (List.mem_of_getElem? (i := 156) (by decide +kernel)) rfl
theorem im_X7_riseByEnds : Cond.instanceMethod yX7_riseByEnds ∈ wU := tb3 (List.mem_of_getElem? (i := 157) (by decide +kernel)) rfl
theorem is_X7_riseByEnds : Cond.selects RX7 yX7_riseByEnds yX7_riseByEnds ∈ wU := tb3 (List.mem_of_getElem? (i := 158) (by decide +kernel)) rfl
theorem k_X7_riseByEnds : Cond.code yX7_riseByEnds cX7_riseByEnds 1 (some .int) ∈ wU := tb3 (List.mem_of_getElem? (i := 159) (by decide +kernel)) rfl
theorem il_RX7_213 : Cond.methodLink RX7 213 yX4_longestByEnds ∈ wU := tb3 (List.mem_of_getElem? (i := 160) (by decide +kernel)) rfl
theorem im_X4_longestByEnds : Cond.instanceMethod yX4_longestByEnds ∈ wU := tb3 (List.mem_of_getElem? (i := 161) (by decide +kernel)) rfl
theorem is_X4_longestByEnds : Cond.selects RX4 yX4_longestByEnds yX4_longestByEnds ∈ wU := tb3 (List.mem_of_getElem? (i := 162) (by decide +kernel)) rfl
theorem k_X4_longestByEnds : Cond.code yX4_longestByEnds cX4_longestByEnds 5 (some .int) ∈ wU := tb3 (List.mem_of_getElem? (i := 163) (by decide +kernel)) rfl
theorem il_RL_248 : Cond.methodLink RL 248 yX7_riseCount ∈ wU := tb3 (List.mem_of_getElem? (i := 164) (by decide +kernel)) rfl
theorem im_X7_riseCount : Cond.instanceMethod yX7_riseCount ∈ wU := tb3 (List.mem_of_getElem? (i := 165) (by decide +kernel)) rfl
theorem is_X7_riseCount : Cond.selects RX7 yX7_riseCount yX7_riseCount ∈ wU := tb3 (List.mem_of_getElem? (i := 166) (by decide +kernel)) rfl
theorem k_X7_riseCount : Cond.code yX7_riseCount cX7_riseCount 1 (some .int) ∈ wU := tb3 (List.mem_of_getElem? (i := 167) (by decide +kernel)) rfl
theorem il_RX7_216 : Cond.methodLink RX7 216 yX4_countLongest ∈ wU := tb3 (List.mem_of_getElem? (i := 168) (by decide +kernel)) rfl
theorem im_X4_countLongest : Cond.instanceMethod yX4_countLongest ∈ wU := tb3 (List.mem_of_getElem? (i := 169) (by decide +kernel)) rfl
theorem is_X4_countLongest : Cond.selects RX4 yX4_countLongest yX4_countLongest ∈ wU := tb3 (List.mem_of_getElem? (i := 170) (by decide +kernel)) rfl
theorem k_X4_countLongest : Cond.code yX4_countLongest cX4_countLongest 5 (some .int) ∈ wU := tb3 (List.mem_of_getElem? (i := 171) (by decide +kernel)) rfl
theorem il_RX4_44 : Cond.methodLink RX4 44 yX4_longest ∈ wU := tb3 (List.mem_of_getElem? (i := 172) (by decide +kernel)) rfl
theorem il_RL_252 : Cond.methodLink RL 252 yX7_minutes ∈ wU := tb3 (List.mem_of_getElem? (i := 173) (by decide +kernel)) rfl
theorem im_X7_minutes : Cond.instanceMethod yX7_minutes ∈ wU := tb3 (List.mem_of_getElem? (i := 174) (by decide +kernel)) rfl
theorem is_X7_minutes : Cond.selects RX7 yX7_minutes yX7_minutes ∈ wU := tb3 (List.mem_of_getElem? (i := 175) (by decide +kernel)) rfl
theorem k_X7_minutes : Cond.code yX7_minutes cX7_minutes 1 (some .int) ∈ wU := tb3 (List.mem_of_getElem? (i := 176) (by decide +kernel)) rfl
theorem il_RL_256 : Cond.methodLink RL 256 yX7_poured ∈ wU := tb3 (List.mem_of_getElem? (i := 177) (by decide +kernel)) rfl
theorem im_X7_poured : Cond.instanceMethod yX7_poured ∈ wU := tb3 (List.mem_of_getElem? (i := 178) (by decide +kernel)) rfl
theorem is_X7_poured : Cond.selects RX7 yX7_poured yX7_poured ∈ wU := tb3 (List.mem_of_getElem? (i := 179) (by decide +kernel)) rfl
theorem k_X7_poured : Cond.code yX7_poured cX7_poured 1 (some .int) ∈ wU := tb3 (List.mem_of_getElem? (i := 180) (by decide +kernel)) rfl
theorem il_RL_260 : Cond.methodLink RL 260 yX7_used ∈ wU := tb3 (List.mem_of_getElem? (i := 181) (by decide +kernel)) rfl
theorem im_X7_used : Cond.instanceMethod yX7_used ∈ wU := tb3 (List.mem_of_getElem? (i := 182) (by decide +kernel)) rfl
theorem is_X7_used : Cond.selects RX7 yX7_used yX7_used ∈ wU := tb3 (List.mem_of_getElem? (i := 183) (by decide +kernel)) rfl
theorem k_X7_used : Cond.code yX7_used cX7_used 1 (some .int) ∈ wU := tb3 (List.mem_of_getElem? (i := 184) (by decide +kernel)) rfl
theorem il_RL_264 : Cond.methodLink RL 264 yX7_faded ∈ wU := tb3 (List.mem_of_getElem? (i := 185) (by decide +kernel)) rfl
theorem im_X7_faded : Cond.instanceMethod yX7_faded ∈ wU := tb3 (List.mem_of_getElem? (i := 186) (by decide +kernel)) rfl
theorem is_X7_faded : Cond.selects RX7 yX7_faded yX7_faded ∈ wU := tb3 (List.mem_of_getElem? (i := 187) (by decide +kernel)) rfl
theorem k_X7_faded : Cond.code yX7_faded cX7_faded 1 (some .long) ∈ wU := tb3 (List.mem_of_getElem? (i := 188) (by decide +kernel)) rfl
theorem il_RL_269 : Cond.methodLink RL 269 yX7_inkInWells ∈ wU := tb3 (List.mem_of_getElem? (i := 189) (by decide +kernel)) rfl
theorem im_X7_inkInWells : Cond.instanceMethod yX7_inkInWells ∈ wU := tb3 (List.mem_of_getElem? (i := 190) (by decide +kernel)) rfl
theorem is_X7_inkInWells : Cond.selects RX7 yX7_inkInWells yX7_inkInWells ∈ wU := tb3 (List.mem_of_getElem? (i := 191) (by decide +kernel)) rfl
theorem k_X7_inkInWells : Cond.code yX7_inkInWells cX7_inkInWells 1 (some .int) ∈ wU := tb3 (List.mem_of_getElem? (i := 192) (by decide +kernel)) rfl
theorem il_RX7_230 : Cond.methodLink RX7 230 yX7_sumOf ∈ wU := tb3 (List.mem_of_getElem? (i := 193) (by decide +kernel)) rfl
theorem it_X7_sumOf : Cond.static yX7_sumOf ∈ wU := tb3 (List.mem_of_getElem? (i := 194) (by decide +kernel)) rfl
theorem k_X7_sumOf : Cond.code yX7_sumOf cX7_sumOf 4 (some .int) ∈ wU := tb3 (List.mem_of_getElem? (i := 195) (by decide +kernel)) rfl
theorem il_RL_283 : Cond.methodLink RL 283 yX7_writeWells ∈ wU := tb3 (List.mem_of_getElem? (i := 196) (by decide +kernel)) rfl
theorem im_X7_writeWells : Cond.instanceMethod yX7_writeWells ∈ wU := tb3 (List.mem_of_getElem? (i := 197) (by decide +kernel)) rfl
theorem is_X7_writeWells : Cond.selects RX7 yX7_writeWells yX7_writeWells ∈ wU := tb3 (List.mem_of_getElem? (i := 198) (by decide +kernel)) rfl
theorem k_X7_writeWells : Cond.code yX7_writeWells cX7_writeWells 2 (some .int) ∈ wU := tb3 (List.mem_of_getElem? (i := 199) (by decide +kernel)) rfl
theorem il_RX7_243 : Cond.methodLink RX7 243 yJ4_setLength_d00df ∈ wU := tb3 (List.mem_of_getElem? (i := 200) (by decide +kernel)) rfl
theorem im_J4_setLength_d00df : Cond.instanceMethod yJ4_setLength_d00df ∈ wU := tb3 (List.mem_of_getElem? (i := 201) (by decide +kernel)) rfl
theorem is_J4_setLength_d00df : Cond.selects RJ4 yJ4_setLength_d00df yJ4_setLength_d00df ∈ wU := tb3 (List.mem_of_getElem? (i := 202) (by decide +kernel)) rfl
theorem k_J4_setLength_d00df : Cond.code yJ4_setLength_d00df cJ4_setLength_d00df 2 none ∈ wU := tb3 (List.mem_of_getElem? (i := 203) (by decide +kernel)) rfl
theorem il_RJ4_333 : Cond.methodLink RJ4 333 yJ5_setLength_d00df ∈ wU := tb3 (List.mem_of_getElem? (i := 204) (by decide +kernel)) rfl
theorem im_J5_setLength_d00df : Cond.instanceMethod yJ5_setLength_d00df ∈ wU := tb3 (List.mem_of_getElem? (i := 205) (by decide +kernel)) rfl
theorem k_J5_setLength_d00df : Cond.code yJ5_setLength_d00df cJ5_setLength_d00df 2 none ∈ wU := tb3 (List.mem_of_getElem? (i := 206) (by decide +kernel)) rfl
theorem il_RJ5_129 : Cond.classLink RJ5 129 RJx7c733 ∈ wU := tb3 (List.mem_of_getElem? (i := 207) (by decide +kernel)) rfl
theorem ia_i_RJx7c733 : Cond.instantiable RJx7c733 6 ∈ wU := tb3 (List.mem_of_getElem? (i := 208) (by decide +kernel)) rfl
theorem il_RJ5_131 : Cond.methodLink RJ5 131 yJx7c733_init_d00df ∈ wU := tb3 (List.mem_of_getElem? (i := 209) (by decide +kernel)) rfl
theorem im_Jx7c733_init_d00df : Cond.instanceMethod yJx7c733_init_d00df ∈ wU := tb3 (List.mem_of_getElem? (i := 210) (by decide +kernel)) rfl
theorem k_Jx7c733_init_d00df : Cond.code yJx7c733_init_d00df cJx7c733_init_d00df 2 none ∈ wU := tb3 (List.mem_of_getElem? (i := 211) (by decide +kernel)) rfl
theorem il_RJx7c733_10 : Cond.classLink RJx7c733 10 RJ4 ∈ wU := tb3 (List.mem_of_getElem? (i := 212) (by decide +kernel)) rfl
theorem il_RJx7c733_12 : Cond.methodLink RJx7c733 12 yJ4_init_da8c8 ∈ wU := tb3 (List.mem_of_getElem? (i := 213) (by decide +kernel)) rfl
theorem il_RJx7c733_15 : Cond.methodLink RJx7c733 15 yJ4_append_15ec4 ∈ wU := tb3 (List.mem_of_getElem? (i := 215) (by decide +kernel)) rfl
theorem im_J4_append_15ec4 : Cond.instanceMethod yJ4_append_15ec4 ∈ wU := tb3 (List.mem_of_getElem? (i := 216) (by decide +kernel)) rfl
theorem is_J4_append_15ec4 : Cond.selects RJ4 yJ4_append_15ec4 yJ4_append_15ec4 ∈ wU := tb3 (List.mem_of_getElem? (i := 217) (by decide +kernel)) rfl
theorem k_J4_append_15ec4 : Cond.code yJ4_append_15ec4 cJ4_append_15ec4 2 (some (.object "java/lang/StringBuilder")) ∈ wU := tb3 (List.mem_of_getElem? (i := 218) (by decide +kernel)) rfl
theorem il_RJ4_29 : Cond.methodLink RJ4 29 yJ5_append_cf1ce ∈ wU := tb3 (List.mem_of_getElem? (i := 219) (by decide +kernel)) rfl
theorem im_J5_append_cf1ce : Cond.instanceMethod yJ5_append_cf1ce ∈ wU := tb3 (List.mem_of_getElem? (i := 220) (by decide +kernel)) rfl
theorem k_J5_append_cf1ce : Cond.code yJ5_append_cf1ce cJ5_append_cf1ce 3 (some (.object "java/lang/AbstractStringBuilder")) ∈ wU := tb3 (List.mem_of_getElem? (i := 221) (by decide +kernel)) rfl
theorem il_RJ5_204 : Cond.methodLink RJ5 204 yJ5_appendNull_278bc ∈ wU := tb3 (List.mem_of_getElem? (i := 222) (by decide +kernel)) rfl
theorem im_J5_appendNull_278bc : Cond.instanceMethod yJ5_appendNull_278bc ∈ wU := tb3 (List.mem_of_getElem? (i := 224) (by decide +kernel)) rfl
theorem k_J5_appendNull_278bc : Cond.code yJ5_appendNull_278bc cJ5_appendNull_278bc 3 (some (.object "java/lang/AbstractStringBuilder")) ∈ wU := tb3 (List.mem_of_getElem? (i := 225) (by decide +kernel)) rfl
theorem il_RJ5_100 : Cond.methodLink RJ5 100 yJ5_ensureCapacityInternal_d00df ∈ wU := tb3 (List.mem_of_getElem? (i := 226) (by decide +kernel)) rfl
theorem im_J5_ensureCapacityInternal_d00df : Cond.instanceMethod yJ5_ensureCapacityInternal_d00df ∈ wU := tb3 (List.mem_of_getElem? (i := 228) (by decide +kernel)) rfl
theorem k_J5_ensureCapacityInternal_d00df : Cond.code yJ5_ensureCapacityInternal_d00df cJ5_ensureCapacityInternal_d00df 3 none ∈ wU := tb3 (List.mem_of_getElem? (i := 229) (by decide +kernel)) rfl
theorem il_RJ5_104 : Cond.methodLink RJ5 104 yJ5_newCapacity_0f7a4 ∈ wU := tb3 (List.mem_of_getElem? (i := 230) (by decide +kernel)) rfl
theorem im_J5_newCapacity_0f7a4 : Cond.instanceMethod yJ5_newCapacity_0f7a4 ∈ wU := tb3 (List.mem_of_getElem? (i := 232) (by decide +kernel)) rfl
theorem k_J5_newCapacity_0f7a4 : Cond.code yJ5_newCapacity_0f7a4 cJ5_newCapacity_0f7a4 6 (some .int) ∈ wU := tb3 (List.mem_of_getElem? (i := 233) (by decide +kernel)) rfl
theorem il_RJ5_114 : Cond.methodLink RJ5 114 yJ8_newLength_cabcc ∈ wU := tb3 (List.mem_of_getElem? (i := 234) (by decide +kernel)) rfl
theorem it_J8_newLength_cabcc : Cond.static yJ8_newLength_cabcc ∈ wU := tb3 (List.mem_of_getElem? (i := 235) (by decide +kernel)) rfl
theorem k_J8_newLength_cabcc : Cond.code yJ8_newLength_cabcc cJ8_newLength_cabcc 4 (some .int) ∈ wU := tb3 (List.mem_of_getElem? (i := 236) (by decide +kernel)) rfl
theorem il_RJ8_200 : Cond.constant RJ8 200 (2147483639 : Int32) ∈ wU := tb3 (List.mem_of_getElem? (i := 238) (by decide +kernel)) rfl
theorem il_RJ8_201 : Cond.methodLink RJ8 201 yJ8_hugeLength_7cf53 ∈ wU := tb3 (List.mem_of_getElem? (i := 239) (by decide +kernel)) rfl
theorem it_J8_hugeLength_7cf53 : Cond.static yJ8_hugeLength_7cf53 ∈ wU := tb4 (List.mem_of_getElem? (i := 0) (by decide +kernel)) rfl
theorem k_J8_hugeLength_7cf53 : Cond.code yJ8_hugeLength_7cf53 cJ8_hugeLength_7cf53 3 (some .int) ∈ wU := tb4 (List.mem_of_getElem? (i := 1) (by decide +kernel)) rfl
theorem il_RJ5_39 : Cond.constant RJ5 39 (2147483647 : Int32) ∈ wU := tb4 (List.mem_of_getElem? (i := 2) (by decide +kernel)) rfl
theorem il_RJ5_108 : Cond.methodLink RJ5 108 yJ7_copyOf_9075b ∈ wU := tb4 (List.mem_of_getElem? (i := 3) (by decide +kernel)) rfl
theorem it_J7_copyOf_9075b : Cond.static yJ7_copyOf_9075b ∈ wU := tb4 (List.mem_of_getElem? (i := 4) (by decide +kernel)) rfl
theorem k_J7_copyOf_9075b : Cond.code yJ7_copyOf_9075b cJ7_copyOf_9075b 3 (some (.array .byte)) ∈ wU := tb4 (List.mem_of_getElem? (i := 5) (by decide +kernel)) rfl
theorem il_RJ7_311 : Cond.classLink RJ7 311 "[B" ∈ wU := tb4 (List.mem_of_getElem? (i := 12) (by decide +kernel)) rfl
theorem il_RJ5_83 : Cond.methodLink RJ5 83 yJ5_isLatin1_aae02 ∈ wU := tb4 (List.mem_of_getElem? (i := 15) (by decide +kernel)) rfl
theorem im_J5_isLatin1_aae02 : Cond.instanceMethod yJ5_isLatin1_aae02 ∈ wU := tb4 (List.mem_of_getElem? (i := 16) (by decide +kernel)) rfl
theorem k_J5_isLatin1_aae02 : Cond.code yJ5_isLatin1_aae02 cJ5_isLatin1_aae02 1 (some .boolean) ∈ wU := tb4 (List.mem_of_getElem? (i := 19) (by decide +kernel)) rfl
theorem il_RJ5_226 : Cond.methodLink RJ5 226 yJ2_putCharsAt_cd4e5 ∈ wU := tb4 (List.mem_of_getElem? (i := 20) (by decide +kernel)) rfl
theorem it_J2_putCharsAt_cd4e5 : Cond.static yJ2_putCharsAt_cd4e5 ∈ wU := tb4 (List.mem_of_getElem? (i := 21) (by decide +kernel)) rfl
theorem k_J2_putCharsAt_cd4e5 : Cond.code yJ2_putCharsAt_cd4e5 cJ2_putCharsAt_cd4e5 7 (some .int) ∈ wU := tb4 (List.mem_of_getElem? (i := 22) (by decide +kernel)) rfl
theorem il_RJ2_96 : Cond.methodLink RJ2 96 yJ2_checkBoundsBeginEnd_d044e ∈ wU := tb4 (List.mem_of_getElem? (i := 23) (by decide +kernel)) rfl
theorem it_J2_checkBoundsBeginEnd_d044e : Cond.static yJ2_checkBoundsBeginEnd_d044e ∈ wU := tb4 (List.mem_of_getElem? (i := 24) (by decide +kernel)) rfl
theorem k_J2_checkBoundsBeginEnd_d044e : Cond.code yJ2_checkBoundsBeginEnd_d044e cJ2_checkBoundsBeginEnd_d044e 3 none ∈ wU := tb4 (List.mem_of_getElem? (i := 25) (by decide +kernel)) rfl
theorem il_RJ2_48 : Cond.methodLink RJ2 48 yJ2_length_9d52b ∈ wU := tb4 (List.mem_of_getElem? (i := 26) (by decide +kernel)) rfl
theorem it_J2_length_9d52b : Cond.static yJ2_length_9d52b ∈ wU := tb4 (List.mem_of_getElem? (i := 27) (by decide +kernel)) rfl
theorem k_J2_length_9d52b : Cond.code yJ2_length_9d52b cJ2_length_9d52b 1 (some .int) ∈ wU := tb4 (List.mem_of_getElem? (i := 28) (by decide +kernel)) rfl
theorem il_RJ2_241 : Cond.methodLink RJ2 241 yJ0_checkBoundsBeginEnd_23922 ∈ wU := tb4 (List.mem_of_getElem? (i := 29) (by decide +kernel)) rfl
theorem it_J0_checkBoundsBeginEnd_23922 : Cond.static yJ0_checkBoundsBeginEnd_23922 ∈ wU := tb4 (List.mem_of_getElem? (i := 30) (by decide +kernel)) rfl
theorem k_J0_checkBoundsBeginEnd_23922 : Cond.code yJ0_checkBoundsBeginEnd_23922 cJ0_checkBoundsBeginEnd_23922 3 none ∈ wU := tb4 (List.mem_of_getElem? (i := 31) (by decide +kernel)) rfl
theorem il_RJ0_1053 : Cond.fieldLink RJ0 1053 RJ3 "SIOOBE_FORMATTER" "Ljava/util/function/BiFunction;" ∈ wU := tb4 (List.mem_of_getElem? (i := 32) (by decide +kernel)) rfl
theorem il_RJ0_1062 : Cond.methodLink RJ0 1062 yJ3_checkFromToIndex_8c36e ∈ wU := tb4 (List.mem_of_getElem? (i := 34) (by decide +kernel)) rfl
theorem it_J3_checkFromToIndex_8c36e : Cond.static yJ3_checkFromToIndex_8c36e ∈ wU := tb4 (List.mem_of_getElem? (i := 35) (by decide +kernel)) rfl
theorem k_J3_checkFromToIndex_8c36e : Cond.code yJ3_checkFromToIndex_8c36e cJ3_checkFromToIndex_8c36e 4 (some .int) ∈ wU := tb4 (List.mem_of_getElem? (i := 36) (by decide +kernel)) rfl
theorem il_RJ2_111 : Cond.methodLink RJ2 111 yJ2_putChar_b72d1 ∈ wU := tb4 (List.mem_of_getElem? (i := 37) (by decide +kernel)) rfl
theorem it_J2_putChar_b72d1 : Cond.static yJ2_putChar_b72d1 ∈ wU := tb4 (List.mem_of_getElem? (i := 38) (by decide +kernel)) rfl
theorem k_J2_putChar_b72d1 : Cond.code yJ2_putChar_b72d1 cJ2_putChar_b72d1 3 none ∈ wU := tb4 (List.mem_of_getElem? (i := 39) (by decide +kernel)) rfl
theorem il_RJ2_44 : Cond.fieldLink RJ2 44 RJ2 "$assertionsDisabled" "Z" ∈ wU := tb4 (List.mem_of_getElem? (i := 40) (by decide +kernel)) rfl
theorem il_RJ2_59 : Cond.fieldLink RJ2 59 RJ2 "HI_BYTE_SHIFT" "I" ∈ wU := tb4 (List.mem_of_getElem? (i := 42) (by decide +kernel)) rfl
theorem il_RJ2_63 : Cond.fieldLink RJ2 63 RJ2 "LO_BYTE_SHIFT" "I" ∈ wU := tb4 (List.mem_of_getElem? (i := 44) (by decide +kernel)) rfl
theorem il_RJ5_32 : Cond.methodLink RJ5 32 yJ0_length_8abf5 ∈ wU := tb4 (List.mem_of_getElem? (i := 46) (by decide +kernel)) rfl
theorem im_J0_length_8abf5 : Cond.instanceMethod yJ0_length_8abf5 ∈ wU := tb4 (List.mem_of_getElem? (i := 47) (by decide +kernel)) rfl
theorem is_J0_length_8abf5 : Cond.selects RJ0 yJ0_length_8abf5 yJ0_length_8abf5 ∈ wU := tb4 (List.mem_of_getElem? (i := 48) (by decide +kernel)) rfl
theorem k_J0_length_8abf5 : Cond.code yJ0_length_8abf5 cJ0_length_8abf5 1 (some .int) ∈ wU := tb4 (List.mem_of_getElem? (i := 49) (by decide +kernel)) rfl
theorem il_RJ0_335 : Cond.methodLink RJ0 335 yJ0_coder_7d493 ∈ wU := tb4 (List.mem_of_getElem? (i := 50) (by decide +kernel)) rfl
theorem im_J0_coder_7d493 : Cond.instanceMethod yJ0_coder_7d493 ∈ wU := tb4 (List.mem_of_getElem? (i := 51) (by decide +kernel)) rfl
theorem is_J0_coder_7d493 : Cond.selects RJ0 yJ0_coder_7d493 yJ0_coder_7d493 ∈ wU := tb4 (List.mem_of_getElem? (i := 52) (by decide +kernel)) rfl
theorem k_J0_coder_7d493 : Cond.code yJ0_coder_7d493 cJ0_coder_7d493 1 (some .byte) ∈ wU := tb4 (List.mem_of_getElem? (i := 53) (by decide +kernel)) rfl
theorem il_RJ0_38 : Cond.fieldLink RJ0 38 RJ0 "COMPACT_STRINGS" "Z" ∈ wU := tb4 (List.mem_of_getElem? (i := 54) (by decide +kernel)) rfl
theorem il_RJ5_208 : Cond.methodLink RJ5 208 yJ5_putStringAt_47b60 ∈ wU := tb4 (List.mem_of_getElem? (i := 55) (by decide +kernel)) rfl
theorem im_J5_putStringAt_47b60 : Cond.instanceMethod yJ5_putStringAt_47b60 ∈ wU := tb4 (List.mem_of_getElem? (i := 57) (by decide +kernel)) rfl
theorem k_J5_putStringAt_47b60 : Cond.code yJ5_putStringAt_47b60 cJ5_putStringAt_47b60 3 none ∈ wU := tb4 (List.mem_of_getElem? (i := 58) (by decide +kernel)) rfl
theorem il_RJ5_397 : Cond.methodLink RJ5 397 yJ5_inflateIfNeededFor_a7421 ∈ wU := tb4 (List.mem_of_getElem? (i := 59) (by decide +kernel)) rfl
theorem im_J5_inflateIfNeededFor_a7421 : Cond.instanceMethod yJ5_inflateIfNeededFor_a7421 ∈ wU := tb4 (List.mem_of_getElem? (i := 61) (by decide +kernel)) rfl
theorem k_J5_inflateIfNeededFor_a7421 : Cond.code yJ5_inflateIfNeededFor_a7421 cJ5_inflateIfNeededFor_a7421 2 none ∈ wU := tb4 (List.mem_of_getElem? (i := 62) (by decide +kernel)) rfl
theorem il_RJ5_40 : Cond.methodLink RJ5 40 yJ0_coder_7d493 ∈ wU := tb4 (List.mem_of_getElem? (i := 63) (by decide +kernel)) rfl
theorem il_RJ5_195 : Cond.methodLink RJ5 195 yJ5_inflate_da8c8 ∈ wU := tb4 (List.mem_of_getElem? (i := 64) (by decide +kernel)) rfl
theorem im_J5_inflate_da8c8 : Cond.instanceMethod yJ5_inflate_da8c8 ∈ wU := tb4 (List.mem_of_getElem? (i := 66) (by decide +kernel)) rfl
theorem k_J5_inflate_da8c8 : Cond.code yJ5_inflate_da8c8 cJ5_inflate_da8c8 2 none ∈ wU := tb4 (List.mem_of_getElem? (i := 67) (by decide +kernel)) rfl
theorem il_RJ5_125 : Cond.methodLink RJ5 125 yJ1_inflate_0e8fd ∈ wU := tb4 (List.mem_of_getElem? (i := 68) (by decide +kernel)) rfl
theorem it_J1_inflate_0e8fd : Cond.static yJ1_inflate_0e8fd ∈ wU := tb4 (List.mem_of_getElem? (i := 69) (by decide +kernel)) rfl
theorem k_J1_inflate_0e8fd : Cond.code yJ1_inflate_0e8fd cJ1_inflate_0e8fd 5 none ∈ wU := tb4 (List.mem_of_getElem? (i := 70) (by decide +kernel)) rfl
theorem il_RJ1_240 : Cond.methodLink RJ1 240 yJ2_inflate_0e8fd ∈ wU := tb4 (List.mem_of_getElem? (i := 71) (by decide +kernel)) rfl
theorem it_J2_inflate_0e8fd : Cond.static yJ2_inflate_0e8fd ∈ wU := tb4 (List.mem_of_getElem? (i := 72) (by decide +kernel)) rfl
theorem k_J2_inflate_0e8fd : Cond.code yJ2_inflate_0e8fd cJ2_inflate_0e8fd 6 none ∈ wU := tb4 (List.mem_of_getElem? (i := 73) (by decide +kernel)) rfl
theorem il_RJ2_173 : Cond.methodLink RJ2 173 yJ2_checkBoundsOffCount_d044e ∈ wU := tb4 (List.mem_of_getElem? (i := 74) (by decide +kernel)) rfl
theorem it_J2_checkBoundsOffCount_d044e : Cond.static yJ2_checkBoundsOffCount_d044e ∈ wU := tb4 (List.mem_of_getElem? (i := 75) (by decide +kernel)) rfl
theorem k_J2_checkBoundsOffCount_d044e : Cond.code yJ2_checkBoundsOffCount_d044e cJ2_checkBoundsOffCount_d044e 3 none ∈ wU := tb4 (List.mem_of_getElem? (i := 76) (by decide +kernel)) rfl
theorem il_RJ2_419 : Cond.methodLink RJ2 419 yJ0_checkBoundsOffCount_cabcc ∈ wU := tb4 (List.mem_of_getElem? (i := 77) (by decide +kernel)) rfl
theorem it_J0_checkBoundsOffCount_cabcc : Cond.static yJ0_checkBoundsOffCount_cabcc ∈ wU := tb4 (List.mem_of_getElem? (i := 78) (by decide +kernel)) rfl
theorem k_J0_checkBoundsOffCount_cabcc : Cond.code yJ0_checkBoundsOffCount_cabcc cJ0_checkBoundsOffCount_cabcc 3 (some .int) ∈ wU := tb4 (List.mem_of_getElem? (i := 79) (by decide +kernel)) rfl
theorem il_RJ0_1065 : Cond.methodLink RJ0 1065 yJ3_checkFromIndexSize_8c36e ∈ wU := tb4 (List.mem_of_getElem? (i := 80) (by decide +kernel)) rfl
theorem it_J3_checkFromIndexSize_8c36e : Cond.static yJ3_checkFromIndexSize_8c36e ∈ wU := tb4 (List.mem_of_getElem? (i := 81) (by decide +kernel)) rfl
theorem k_J3_checkFromIndexSize_8c36e : Cond.code yJ3_checkFromIndexSize_8c36e cJ3_checkFromIndexSize_8c36e 4 (some .int) ∈ wU := tb4 (List.mem_of_getElem? (i := 82) (by decide +kernel)) rfl
theorem il_RJ5_399 : Cond.methodLink RJ5 399 yJ0_getBytes_840e7 ∈ wU := tb4 (List.mem_of_getElem? (i := 83) (by decide +kernel)) rfl
theorem im_J0_getBytes_840e7 : Cond.instanceMethod yJ0_getBytes_840e7 ∈ wU := tb4 (List.mem_of_getElem? (i := 84) (by decide +kernel)) rfl
theorem is_J0_getBytes_840e7 : Cond.selects RJ0 yJ0_getBytes_840e7 yJ0_getBytes_840e7 ∈ wU := tb4 (List.mem_of_getElem? (i := 85) (by decide +kernel)) rfl
theorem k_J0_getBytes_840e7 : Cond.code yJ0_getBytes_840e7 cJ0_getBytes_840e7 4 none ∈ wU := tb4 (List.mem_of_getElem? (i := 86) (by decide +kernel)) rfl
theorem il_RJ0_106 : Cond.methodLink RJ0 106 yJ1_inflate_0e8fd ∈ wU := tb4 (List.mem_of_getElem? (i := 88) (by decide +kernel)) rfl
theorem il_RJx7c733_19 : Cond.methodLink RJx7c733 19 yJ4_append_bf812 ∈ wU := tb4 (List.mem_of_getElem? (i := 89) (by decide +kernel)) rfl
theorem im_J4_append_bf812 : Cond.instanceMethod yJ4_append_bf812 ∈ wU := tb4 (List.mem_of_getElem? (i := 90) (by decide +kernel)) rfl
theorem is_J4_append_bf812 : Cond.selects RJ4 yJ4_append_bf812 yJ4_append_bf812 ∈ wU := tb4 (List.mem_of_getElem? (i := 91) (by decide +kernel)) rfl
theorem k_J4_append_bf812 : Cond.code yJ4_append_bf812 cJ4_append_bf812 2 (some (.object "java/lang/StringBuilder")) ∈ wU := tb4 (List.mem_of_getElem? (i := 92) (by decide +kernel)) rfl
theorem il_RJ4_53 : Cond.methodLink RJ4 53 yJ5_append_c97b9 ∈ wU := tb4 (List.mem_of_getElem? (i := 93) (by decide +kernel)) rfl
theorem im_J5_append_c97b9 : Cond.instanceMethod yJ5_append_c97b9 ∈ wU := tb4 (List.mem_of_getElem? (i := 94) (by decide +kernel)) rfl
theorem k_J5_append_c97b9 : Cond.code yJ5_append_c97b9 cJ5_append_c97b9 4 (some (.object "java/lang/AbstractStringBuilder")) ∈ wU := tb4 (List.mem_of_getElem? (i := 95) (by decide +kernel)) rfl
theorem il_RJ5_245 : Cond.methodLink RJ5 245 yJ6_stringSize_0f7a4 ∈ wU := tb4 (List.mem_of_getElem? (i := 96) (by decide +kernel)) rfl
theorem it_J6_stringSize_0f7a4 : Cond.static yJ6_stringSize_0f7a4 ∈ wU := tb4 (List.mem_of_getElem? (i := 97) (by decide +kernel)) rfl
theorem k_J6_stringSize_0f7a4 : Cond.code yJ6_stringSize_0f7a4 cJ6_stringSize_0f7a4 4 (some .int) ∈ wU := tb4 (List.mem_of_getElem? (i := 98) (by decide +kernel)) rfl
theorem il_RJ5_248 : Cond.methodLink RJ5 248 yJ6_getChars_ba4f3 ∈ wU := tb4 (List.mem_of_getElem? (i := 99) (by decide +kernel)) rfl
theorem it_J6_getChars_ba4f3 : Cond.static yJ6_getChars_ba4f3 ∈ wU := tb4 (List.mem_of_getElem? (i := 100) (by decide +kernel)) rfl
theorem k_J6_getChars_ba4f3 : Cond.code yJ6_getChars_ba4f3 cJ6_getChars_ba4f3 7 (some .int) ∈ wU := tb4 (List.mem_of_getElem? (i := 101) (by decide +kernel)) rfl
theorem il_RJ6_83 : Cond.fieldLink RJ6 83 RJ6 "DigitOnes" "[B" ∈ wU := tb4 (List.mem_of_getElem? (i := 102) (by decide +kernel)) rfl
theorem il_RJ6_87 : Cond.fieldLink RJ6 87 RJ6 "DigitTens" "[B" ∈ wU := tb4 (List.mem_of_getElem? (i := 104) (by decide +kernel)) rfl
theorem il_RJ5_251 : Cond.methodLink RJ5 251 yJ2_getChars_46870 ∈ wU := tb4 (List.mem_of_getElem? (i := 106) (by decide +kernel)) rfl
theorem it_J2_getChars_46870 : Cond.static yJ2_getChars_46870 ∈ wU := tb4 (List.mem_of_getElem? (i := 107) (by decide +kernel)) rfl
theorem k_J2_getChars_46870 : Cond.code yJ2_getChars_46870 cJ2_getChars_46870 5 (some .int) ∈ wU := tb4 (List.mem_of_getElem? (i := 108) (by decide +kernel)) rfl
theorem il_RJ2_393 : Cond.methodLink RJ2 393 yJ2_getChars_ba4f3 ∈ wU := tb4 (List.mem_of_getElem? (i := 109) (by decide +kernel)) rfl
theorem it_J2_getChars_ba4f3 : Cond.static yJ2_getChars_ba4f3 ∈ wU := tb4 (List.mem_of_getElem? (i := 110) (by decide +kernel)) rfl
theorem k_J2_getChars_ba4f3 : Cond.code yJ2_getChars_ba4f3 cJ2_getChars_ba4f3 7 (some .int) ∈ wU := tb4 (List.mem_of_getElem? (i := 111) (by decide +kernel)) rfl
theorem il_RJ2_403 : Cond.fieldLink RJ2 403 RJ6 "DigitOnes" "[B" ∈ wU := tb4 (List.mem_of_getElem? (i := 112) (by decide +kernel)) rfl
theorem il_RJ2_407 : Cond.fieldLink RJ2 407 RJ6 "DigitTens" "[B" ∈ wU := tb4 (List.mem_of_getElem? (i := 113) (by decide +kernel)) rfl
theorem il_RJx7c733_22 : Cond.methodLink RJx7c733 22 yJ4_toString_0e30d ∈ wU := tb4 (List.mem_of_getElem? (i := 114) (by decide +kernel)) rfl
theorem im_J4_toString_0e30d : Cond.instanceMethod yJ4_toString_0e30d ∈ wU := tb4 (List.mem_of_getElem? (i := 115) (by decide +kernel)) rfl
theorem is_J4_toString_0e30d : Cond.selects RJ4 yJ4_toString_0e30d yJ4_toString_0e30d ∈ wU := tb4 (List.mem_of_getElem? (i := 116) (by decide +kernel)) rfl
theorem k_J4_toString_0e30d : Cond.code yJ4_toString_0e30d cJ4_toString_0e30d 1 (some (.object "java/lang/String")) ∈ wU := tb4 (List.mem_of_getElem? (i := 117) (by decide +kernel)) rfl
theorem il_RJ4_18 : Cond.classLink RJ4 18 RJ0 ∈ wU := tb4 (List.mem_of_getElem? (i := 118) (by decide +kernel)) rfl
theorem ia_i_RJ0 : Cond.instantiable RJ0 4 ∈ wU := tb4 (List.mem_of_getElem? (i := 119) (by decide +kernel)) rfl
theorem il_RJ4_137 : Cond.methodLink RJ4 137 yJ0_init_81219 ∈ wU := tb4 (List.mem_of_getElem? (i := 120) (by decide +kernel)) rfl
theorem im_J0_init_81219 : Cond.instanceMethod yJ0_init_81219 ∈ wU := tb4 (List.mem_of_getElem? (i := 121) (by decide +kernel)) rfl
theorem k_J0_init_81219 : Cond.code yJ0_init_81219 cJ0_init_81219 2 none ∈ wU := tb4 (List.mem_of_getElem? (i := 122) (by decide +kernel)) rfl
theorem il_RJ0_489 : Cond.methodLink RJ0 489 yJ0_init_db425 ∈ wU := tb4 (List.mem_of_getElem? (i := 123) (by decide +kernel)) rfl
theorem im_J0_init_db425 : Cond.instanceMethod yJ0_init_db425 ∈ wU := tb4 (List.mem_of_getElem? (i := 124) (by decide +kernel)) rfl
theorem k_J0_init_db425 : Cond.code yJ0_init_db425 cJ0_init_db425 5 none ∈ wU := tb4 (List.mem_of_getElem? (i := 125) (by decide +kernel)) rfl
theorem il_RJ0_552 : Cond.methodLink RJ0 552 yJ5_getValue_6d5f1 ∈ wU := tb4 (List.mem_of_getElem? (i := 127) (by decide +kernel)) rfl
theorem im_J5_getValue_6d5f1 : Cond.instanceMethod yJ5_getValue_6d5f1 ∈ wU := tb4 (List.mem_of_getElem? (i := 128) (by decide +kernel)) rfl
theorem k_J5_getValue_6d5f1 : Cond.code yJ5_getValue_6d5f1 cJ5_getValue_6d5f1 1 (some (.array .byte)) ∈ wU := tb4 (List.mem_of_getElem? (i := 131) (by decide +kernel)) rfl
theorem il_RJ0_549 : Cond.methodLink RJ0 549 yJ5_length_8abf5 ∈ wU := tb4 (List.mem_of_getElem? (i := 132) (by decide +kernel)) rfl
theorem im_J5_length_8abf5 : Cond.instanceMethod yJ5_length_8abf5 ∈ wU := tb4 (List.mem_of_getElem? (i := 133) (by decide +kernel)) rfl
theorem im_J4_length_8abf5 : Cond.instanceMethod yJ4_length_8abf5 ∈ wU := tb4 (List.mem_of_getElem? (i := 136) (by decide +kernel)) rfl
theorem k_J4_length_8abf5 : Cond.code yJ4_length_8abf5 cJ4_length_8abf5 1 (some .int) ∈ wU := tb4 (List.mem_of_getElem? (i := 137) (by decide +kernel)) rfl
theorem il_RJ4_343 : Cond.methodLink RJ4 343 yJ5_length_8abf5 ∈ wU := tb4 (List.mem_of_getElem? (i := 138) (by decide +kernel)) rfl
theorem k_J5_length_8abf5 : Cond.code yJ5_length_8abf5 cJ5_length_8abf5 1 (some .int) ∈ wU := tb4 (List.mem_of_getElem? (i := 139) (by decide +kernel)) rfl
theorem il_RJ0_1047 : Cond.methodLink RJ0 1047 yJ5_isLatin1_aae02 ∈ wU := tb4 (List.mem_of_getElem? (i := 140) (by decide +kernel)) rfl
theorem il_RJ0_54 : Cond.methodLink RJ0 54 yJ7_copyOfRange_39247 ∈ wU := tb4 (List.mem_of_getElem? (i := 141) (by decide +kernel)) rfl
theorem it_J7_copyOfRange_39247 : Cond.static yJ7_copyOfRange_39247 ∈ wU := tb4 (List.mem_of_getElem? (i := 142) (by decide +kernel)) rfl
theorem k_J7_copyOfRange_39247 : Cond.code yJ7_copyOfRange_39247 cJ7_copyOfRange_39247 3 (some (.array .byte)) ∈ wU := tb4 (List.mem_of_getElem? (i := 143) (by decide +kernel)) rfl
theorem il_RJ7_339 : Cond.methodLink RJ7 339 yJ7_copyOfRangeByte_39247 ∈ wU := tb4 (List.mem_of_getElem? (i := 144) (by decide +kernel)) rfl
theorem it_J7_copyOfRangeByte_39247 : Cond.static yJ7_copyOfRangeByte_39247 ∈ wU := tb4 (List.mem_of_getElem? (i := 145) (by decide +kernel)) rfl
theorem k_J7_copyOfRangeByte_39247 : Cond.code yJ7_copyOfRangeByte_39247 cJ7_copyOfRangeByte_39247 5 (some (.array .byte)) ∈ wU := tb4 (List.mem_of_getElem? (i := 146) (by decide +kernel)) rfl
theorem il_RJ7_343 : Cond.methodLink RJ7 343 yJ7_checkLength_df160 ∈ wU := tb4 (List.mem_of_getElem? (i := 147) (by decide +kernel)) rfl
theorem it_J7_checkLength_df160 : Cond.static yJ7_checkLength_df160 ∈ wU := tb4 (List.mem_of_getElem? (i := 148) (by decide +kernel)) rfl
theorem k_J7_checkLength_df160 : Cond.code yJ7_checkLength_df160 cJ7_checkLength_df160 2 none ∈ wU := tb4 (List.mem_of_getElem? (i := 149) (by decide +kernel)) rfl
theorem il_RJ7_43 : Cond.classLink RJ7 43 "java/lang/IllegalArgumentException" ∈ wU := tb4 (List.mem_of_getElem? (i := 150) (by decide +kernel)) rfl
theorem il_RJ7_45 : Cond.classLink RJ7 45 RJ4 ∈ wU := tb4 (List.mem_of_getElem? (i := 151) (by decide +kernel)) rfl
theorem il_RJ7_47 : Cond.methodLink RJ7 47 yJ4_init_da8c8 ∈ wU := tb4 (List.mem_of_getElem? (i := 152) (by decide +kernel)) rfl
theorem il_RJ7_54 : Cond.methodLink RJ7 54 yJ4_append_bf812 ∈ wU := tb4 (List.mem_of_getElem? (i := 153) (by decide +kernel)) rfl
theorem il_RJ7_50 : Cond.methodLink RJ7 50 yJ4_append_15ec4 ∈ wU := tb4 (List.mem_of_getElem? (i := 155) (by decide +kernel)) rfl
theorem il_RJ7_61 : Cond.methodLink RJ7 61 yJ4_toString_0e30d ∈ wU := tb4 (List.mem_of_getElem? (i := 156) (by decide +kernel)) rfl
theorem il_RJ0_1051 : Cond.methodLink RJ0 1051 yJ2_compress_39247 ∈ wU := tb4 (List.mem_of_getElem? (i := 158) (by decide +kernel)) rfl
theorem it_J2_compress_39247 : Cond.static yJ2_compress_39247 ∈ wU := tb4 (List.mem_of_getElem? (i := 159) (by decide +kernel)) rfl
theorem k_J2_compress_39247 : Cond.code yJ2_compress_39247 cJ2_compress_39247 6 (some (.array .byte)) ∈ wU := tb4 (List.mem_of_getElem? (i := 160) (by decide +kernel)) rfl
theorem il_RJ2_123 : Cond.methodLink RJ2 123 yJ2_compress_5af95 ∈ wU := tb4 (List.mem_of_getElem? (i := 161) (by decide +kernel)) rfl
theorem it_J2_compress_5af95 : Cond.static yJ2_compress_5af95 ∈ wU := tb4 (List.mem_of_getElem? (i := 162) (by decide +kernel)) rfl
theorem k_J2_compress_5af95 : Cond.code yJ2_compress_5af95 cJ2_compress_5af95 7 (some .int) ∈ wU := tb4 (List.mem_of_getElem? (i := 163) (by decide +kernel)) rfl
theorem il_RJ2_71 : Cond.methodLink RJ2 71 yJ2_getChar_3b067 ∈ wU := tb4 (List.mem_of_getElem? (i := 164) (by decide +kernel)) rfl
theorem it_J2_getChar_3b067 : Cond.static yJ2_getChar_3b067 ∈ wU := tb4 (List.mem_of_getElem? (i := 165) (by decide +kernel)) rfl
theorem k_J2_getChar_3b067 : Cond.code yJ2_getChar_3b067 cJ2_getChar_3b067 2 (some .char) ∈ wU := tb4 (List.mem_of_getElem? (i := 166) (by decide +kernel)) rfl
theorem il_RJ2_126 : Cond.methodLink RJ2 126 yJ7_copyOfRange_39247 ∈ wU := tb4 (List.mem_of_getElem? (i := 167) (by decide +kernel)) rfl
theorem il_RJ0_47 : Cond.methodLink RJ0 47 yJ2_coderFromArrayLen_85cad ∈ wU := tb4 (List.mem_of_getElem? (i := 168) (by decide +kernel)) rfl
theorem it_J2_coderFromArrayLen_85cad : Cond.static yJ2_coderFromArrayLen_85cad ∈ wU := tb4 (List.mem_of_getElem? (i := 169) (by decide +kernel)) rfl
theorem k_J2_coderFromArrayLen_85cad : Cond.code yJ2_coderFromArrayLen_85cad cJ2_coderFromArrayLen_85cad 2 (some .byte) ∈ wU := tb4 (List.mem_of_getElem? (i := 170) (by decide +kernel)) rfl
theorem il_RJ0_9 : Cond.fieldLink RJ0 9 RJ0 "value" "[B" ∈ wU := tb4 (List.mem_of_getElem? (i := 171) (by decide +kernel)) rfl
theorem il_RJ0_15 : Cond.fieldLink RJ0 15 RJ0 "coder" "B" ∈ wU := tb4 (List.mem_of_getElem? (i := 172) (by decide +kernel)) rfl
theorem il_RJ5_133 : Cond.methodLink RJ5 133 yJ1_fillNull_b72d1 ∈ wU := tb4 (List.mem_of_getElem? (i := 190) (by decide +kernel)) rfl
theorem it_J1_fillNull_b72d1 : Cond.static yJ1_fillNull_b72d1 ∈ wU := tb4 (List.mem_of_getElem? (i := 191) (by decide +kernel)) rfl
theorem k_J1_fillNull_b72d1 : Cond.code yJ1_fillNull_b72d1 cJ1_fillNull_b72d1 3 none ∈ wU := tb4 (List.mem_of_getElem? (i := 192) (by decide +kernel)) rfl
theorem il_RJ1_236 : Cond.methodLink RJ1 236 yJ7_fill_eb02e ∈ wU := tb4 (List.mem_of_getElem? (i := 193) (by decide +kernel)) rfl
theorem it_J7_fill_eb02e : Cond.static yJ7_fill_eb02e ∈ wU := tb4 (List.mem_of_getElem? (i := 194) (by decide +kernel)) rfl
theorem k_J7_fill_eb02e : Cond.code yJ7_fill_eb02e cJ7_fill_eb02e 5 none ∈ wU := tb4 (List.mem_of_getElem? (i := 195) (by decide +kernel)) rfl
theorem il_RJ7_13 : Cond.methodLink RJ7 13 yJ7_rangeCheck_23922 ∈ wU := tb4 (List.mem_of_getElem? (i := 196) (by decide +kernel)) rfl
theorem it_J7_rangeCheck_23922 : Cond.static yJ7_rangeCheck_23922 ∈ wU := tb4 (List.mem_of_getElem? (i := 197) (by decide +kernel)) rfl
theorem k_J7_rangeCheck_23922 : Cond.code yJ7_rangeCheck_23922 cJ7_rangeCheck_23922 3 none ∈ wU := tb4 (List.mem_of_getElem? (i := 198) (by decide +kernel)) rfl
theorem il_RJ7_68 : Cond.classLink RJ7 68 RJx00060 ∈ wU := tb4 (List.mem_of_getElem? (i := 202) (by decide +kernel)) rfl
theorem ia_i_RJx00060 : Cond.instantiable RJx00060 6 ∈ wU := tb4 (List.mem_of_getElem? (i := 203) (by decide +kernel)) rfl
theorem il_RJ7_70 : Cond.methodLink RJ7 70 yJx00060_init_d00df ∈ wU := tb4 (List.mem_of_getElem? (i := 213) (by decide +kernel)) rfl
theorem im_Jx00060_init_d00df : Cond.instanceMethod yJx00060_init_d00df ∈ wU := tb4 (List.mem_of_getElem? (i := 214) (by decide +kernel)) rfl
theorem k_Jx00060_init_d00df : Cond.code yJx00060_init_d00df cJx00060_init_d00df 2 none ∈ wU := tb4 (List.mem_of_getElem? (i := 215) (by decide +kernel)) rfl
theorem il_RJx00060_10 : Cond.classLink RJx00060 10 RJ4 ∈ wU := tb4 (List.mem_of_getElem? (i := 216) (by decide +kernel)) rfl
theorem il_RJx00060_12 : Cond.methodLink RJx00060 12 yJ4_init_da8c8 ∈ wU := tb4 (List.mem_of_getElem? (i := 217) (by decide +kernel)) rfl
theorem il_RJx00060_15 : Cond.methodLink RJx00060 15 yJ4_append_15ec4 ∈ wU := tb4 (List.mem_of_getElem? (i := 219) (by decide +kernel)) rfl
theorem il_RJx00060_19 : Cond.methodLink RJx00060 19 yJ4_append_bf812 ∈ wU := tb4 (List.mem_of_getElem? (i := 220) (by decide +kernel)) rfl
theorem il_RJx00060_22 : Cond.methodLink RJx00060 22 yJ4_toString_0e30d ∈ wU := tb4 (List.mem_of_getElem? (i := 221) (by decide +kernel)) rfl
theorem il_RJ5_137 : Cond.methodLink RJ5 137 yJ2_fillNull_b72d1 ∈ wU := tb4 (List.mem_of_getElem? (i := 225) (by decide +kernel)) rfl
theorem it_J2_fillNull_b72d1 : Cond.static yJ2_fillNull_b72d1 ∈ wU := tb4 (List.mem_of_getElem? (i := 226) (by decide +kernel)) rfl
theorem k_J2_fillNull_b72d1 : Cond.code yJ2_fillNull_b72d1 cJ2_fillNull_b72d1 3 none ∈ wU := tb4 (List.mem_of_getElem? (i := 227) (by decide +kernel)) rfl
theorem il_RJ2_380 : Cond.methodLink RJ2 380 yJ7_fill_eb02e ∈ wU := tb4 (List.mem_of_getElem? (i := 228) (by decide +kernel)) rfl
theorem il_RX7_251 : Cond.methodLink RX7 251 yJ4_append_cf468 ∈ wU := tb4 (List.mem_of_getElem? (i := 229) (by decide +kernel)) rfl
theorem im_J4_append_cf468 : Cond.instanceMethod yJ4_append_cf468 ∈ wU := tb4 (List.mem_of_getElem? (i := 230) (by decide +kernel)) rfl
theorem is_J4_append_cf468 : Cond.selects RJ4 yJ4_append_cf468 yJ4_append_cf468 ∈ wU := tb4 (List.mem_of_getElem? (i := 231) (by decide +kernel)) rfl
theorem k_J4_append_cf468 : Cond.code yJ4_append_cf468 cJ4_append_cf468 2 (some (.object "java/lang/StringBuilder")) ∈ wU := tb4 (List.mem_of_getElem? (i := 232) (by decide +kernel)) rfl
theorem il_RJ4_50 : Cond.methodLink RJ4 50 yJ5_append_3fe6f ∈ wU := tb4 (List.mem_of_getElem? (i := 233) (by decide +kernel)) rfl
theorem im_J5_append_3fe6f : Cond.instanceMethod yJ5_append_3fe6f ∈ wU := tb4 (List.mem_of_getElem? (i := 234) (by decide +kernel)) rfl
theorem k_J5_append_3fe6f : Cond.code yJ5_append_3fe6f cJ5_append_3fe6f 2 (some (.object "java/lang/AbstractStringBuilder")) ∈ wU := tb4 (List.mem_of_getElem? (i := 235) (by decide +kernel)) rfl
theorem il_RJ5_191 : Cond.methodLink RJ5 191 yJ1_canEncode_fc78d ∈ wU := tb4 (List.mem_of_getElem? (i := 236) (by decide +kernel)) rfl
theorem it_J1_canEncode_fc78d : Cond.static yJ1_canEncode_fc78d ∈ wU := tb4 (List.mem_of_getElem? (i := 237) (by decide +kernel)) rfl
theorem k_J1_canEncode_fc78d : Cond.code yJ1_canEncode_fc78d cJ1_canEncode_fc78d 1 (some .boolean) ∈ wU := tb4 (List.mem_of_getElem? (i := 238) (by decide +kernel)) rfl
theorem il_RJ5_197 : Cond.methodLink RJ5 197 yJ2_putCharSB_b72d1 ∈ wU := tb4 (List.mem_of_getElem? (i := 239) (by decide +kernel)) rfl
theorem it_J2_putCharSB_b72d1 : Cond.static yJ2_putCharSB_b72d1 ∈ wU := tb5 (List.mem_of_getElem? (i := 0) (by decide +kernel)) rfl
theorem k_J2_putCharSB_b72d1 : Cond.code yJ2_putCharSB_b72d1 cJ2_putCharSB_b72d1 3 none ∈ wU := tb5 (List.mem_of_getElem? (i := 1) (by decide +kernel)) rfl
theorem il_RJ2_67 : Cond.methodLink RJ2 67 yJ2_checkIndex_2214a ∈ wU := tb5 (List.mem_of_getElem? (i := 2) (by decide +kernel)) rfl
theorem it_J2_checkIndex_2214a : Cond.static yJ2_checkIndex_2214a ∈ wU := tb5 (List.mem_of_getElem? (i := 3) (by decide +kernel)) rfl
theorem k_J2_checkIndex_2214a : Cond.code yJ2_checkIndex_2214a cJ2_checkIndex_2214a 2 none ∈ wU := tb5 (List.mem_of_getElem? (i := 4) (by decide +kernel)) rfl
theorem il_RJ2_414 : Cond.methodLink RJ2 414 yJ0_checkIndex_df160 ∈ wU := tb5 (List.mem_of_getElem? (i := 5) (by decide +kernel)) rfl
theorem it_J0_checkIndex_df160 : Cond.static yJ0_checkIndex_df160 ∈ wU := tb5 (List.mem_of_getElem? (i := 6) (by decide +kernel)) rfl
theorem k_J0_checkIndex_df160 : Cond.code yJ0_checkIndex_df160 cJ0_checkIndex_df160 2 none ∈ wU := tb5 (List.mem_of_getElem? (i := 7) (by decide +kernel)) rfl
theorem il_RJ0_1059 : Cond.methodLink RJ0 1059 yJ3_checkIndex_8e157 ∈ wU := tb5 (List.mem_of_getElem? (i := 8) (by decide +kernel)) rfl
theorem it_J3_checkIndex_8e157 : Cond.static yJ3_checkIndex_8e157 ∈ wU := tb5 (List.mem_of_getElem? (i := 9) (by decide +kernel)) rfl
theorem k_J3_checkIndex_8e157 : Cond.code yJ3_checkIndex_8e157 cJ3_checkIndex_8e157 3 (some .int) ∈ wU := tb5 (List.mem_of_getElem? (i := 10) (by decide +kernel)) rfl
theorem il_RX7_247 : Cond.methodLink RX7 247 yJ4_append_bf812 ∈ wU := tb5 (List.mem_of_getElem? (i := 11) (by decide +kernel)) rfl
theorem il_RX7_254 : Cond.methodLink RX7 254 yJ4_length_8abf5 ∈ wU := tb5 (List.mem_of_getElem? (i := 12) (by decide +kernel)) rfl
theorem il_RL_290 : Cond.methodLink RL 290 yX7_isConsistent ∈ wU := tb5 (List.mem_of_getElem? (i := 13) (by decide +kernel)) rfl
theorem im_X7_isConsistent : Cond.instanceMethod yX7_isConsistent ∈ wU := tb5 (List.mem_of_getElem? (i := 14) (by decide +kernel)) rfl
theorem is_X7_isConsistent : Cond.selects RX7 yX7_isConsistent yX7_isConsistent ∈ wU := tb5 (List.mem_of_getElem? (i := 15) (by decide +kernel)) rfl
theorem k_X7_isConsistent : Cond.code yX7_isConsistent cX7_isConsistent 1 (some .boolean) ∈ wU := tb5 (List.mem_of_getElem? (i := 16) (by decide +kernel)) rfl
theorem il_RX7_262 : Cond.methodLink RX7 262 yX7_inkWaysAgree ∈ wU := tb5 (List.mem_of_getElem? (i := 17) (by decide +kernel)) rfl
theorem is_X7_inkWaysAgree : Cond.selects RX7 yX7_inkWaysAgree yX7_inkWaysAgree ∈ wU := tp (q := (yX7_inkWaysAgree, 11)) 11 (by decide +kernel)
theorem im_X7_inkWaysAgree : Cond.instanceMethod yX7_inkWaysAgree ∈ wU := tb5 (List.mem_of_getElem? (i := 19) (by decide +kernel)) rfl
theorem k_X7_inkWaysAgree : Cond.code yX7_inkWaysAgree cX7_inkWaysAgree 3 (some .boolean) ∈ wU := tb5 (List.mem_of_getElem? (i := 20) (by decide +kernel)) rfl
theorem il_RX7_110 : Cond.methodLink RX7 110 yX6_inkHourByHour ∈ wU := tb5 (List.mem_of_getElem? (i := 21) (by decide +kernel)) rfl
theorem im_X6_inkHourByHour : Cond.instanceMethod yX6_inkHourByHour ∈ wU := tb5 (List.mem_of_getElem? (i := 22) (by decide +kernel)) rfl
theorem is_X6_inkHourByHour : Cond.selects RX6 yX6_inkHourByHour yX6_inkHourByHour ∈ wU := tb5 (List.mem_of_getElem? (i := 23) (by decide +kernel)) rfl
theorem k_X6_inkHourByHour : Cond.code yX6_inkHourByHour cX6_inkHourByHour 5 (some .int) ∈ wU := tb5 (List.mem_of_getElem? (i := 24) (by decide +kernel)) rfl
theorem il_RX7_114 : Cond.methodLink RX7 114 yX6_inkHalved ∈ wU := tb5 (List.mem_of_getElem? (i := 25) (by decide +kernel)) rfl
theorem im_X6_inkHalved : Cond.instanceMethod yX6_inkHalved ∈ wU := tb5 (List.mem_of_getElem? (i := 26) (by decide +kernel)) rfl
theorem is_X6_inkHalved : Cond.selects RX6 yX6_inkHalved yX6_inkHalved ∈ wU := tb5 (List.mem_of_getElem? (i := 27) (by decide +kernel)) rfl
theorem k_X6_inkHalved : Cond.code yX6_inkHalved cX6_inkHalved 5 (some .int) ∈ wU := tb5 (List.mem_of_getElem? (i := 28) (by decide +kernel)) rfl
theorem il_RX7_266 : Cond.methodLink RX7 266 yX7_fewestMinutes ∈ wU := tb5 (List.mem_of_getElem? (i := 29) (by decide +kernel)) rfl
theorem il_RX7_269 : Cond.methodLink RX7 269 yX7_minutesByOrders ∈ wU := tb5 (List.mem_of_getElem? (i := 30) (by decide +kernel)) rfl
theorem il_RX7_272 : Cond.methodLink RX7 272 yX7_shareWaysAgree ∈ wU := tb5 (List.mem_of_getElem? (i := 31) (by decide +kernel)) rfl
theorem is_X7_shareWaysAgree : Cond.selects RX7 yX7_shareWaysAgree yX7_shareWaysAgree ∈ wU := tp (q := (yX7_shareWaysAgree, 11)) 12 (by decide +kernel)
theorem im_X7_shareWaysAgree : Cond.instanceMethod yX7_shareWaysAgree ∈ wU := tb5 (List.mem_of_getElem? (i := 33) (by decide +kernel)) rfl
theorem k_X7_shareWaysAgree : Cond.code yX7_shareWaysAgree cX7_shareWaysAgree 2 (some .boolean) ∈ wU := tb5 (List.mem_of_getElem? (i := 34) (by decide +kernel)) rfl
theorem il_RX7_382 : Cond.methodLink RX7 382 yX7_shareOf ∈ wU := tb5 (List.mem_of_getElem? (i := 35) (by decide +kernel)) rfl
theorem im_X7_shareOf : Cond.instanceMethod yX7_shareOf ∈ wU := tb5 (List.mem_of_getElem? (i := 36) (by decide +kernel)) rfl
theorem is_X7_shareOf : Cond.selects RX7 yX7_shareOf yX7_shareOf ∈ wU := tb5 (List.mem_of_getElem? (i := 37) (by decide +kernel)) rfl
theorem k_X7_shareOf : Cond.code yX7_shareOf cX7_shareOf 2 (some .int) ∈ wU := tb5 (List.mem_of_getElem? (i := 38) (by decide +kernel)) rfl
theorem il_RX7_135 : Cond.methodLink RX7 135 yX6_hasEdition ∈ wU := tb5 (List.mem_of_getElem? (i := 39) (by decide +kernel)) rfl
theorem il_RX7_385 : Cond.methodLink RX7 385 yX7_shareByLevel ∈ wU := tb5 (List.mem_of_getElem? (i := 40) (by decide +kernel)) rfl
theorem im_X7_shareByLevel : Cond.instanceMethod yX7_shareByLevel ∈ wU := tb5 (List.mem_of_getElem? (i := 41) (by decide +kernel)) rfl
theorem is_X7_shareByLevel : Cond.selects RX7 yX7_shareByLevel yX7_shareByLevel ∈ wU := tb5 (List.mem_of_getElem? (i := 42) (by decide +kernel)) rfl
theorem k_X7_shareByLevel : Cond.code yX7_shareByLevel cX7_shareByLevel 2 (some .int) ∈ wU := tb5 (List.mem_of_getElem? (i := 43) (by decide +kernel)) rfl
theorem il_RX7_186 : Cond.methodLink RX7 186 yX5_dealByLevel ∈ wU := tb5 (List.mem_of_getElem? (i := 44) (by decide +kernel)) rfl
theorem im_X5_dealByLevel : Cond.instanceMethod yX5_dealByLevel ∈ wU := tb5 (List.mem_of_getElem? (i := 45) (by decide +kernel)) rfl
theorem is_X5_dealByLevel : Cond.selects RX5 yX5_dealByLevel yX5_dealByLevel ∈ wU := tb5 (List.mem_of_getElem? (i := 46) (by decide +kernel)) rfl
theorem k_X5_dealByLevel : Cond.code yX5_dealByLevel cX5_dealByLevel 5 none ∈ wU := tb5 (List.mem_of_getElem? (i := 47) (by decide +kernel)) rfl
theorem il_RX5_32 : Cond.methodLink RX5 32 yX5_sheetsForLevel ∈ wU := tb5 (List.mem_of_getElem? (i := 48) (by decide +kernel)) rfl
theorem it_X5_sheetsForLevel : Cond.static yX5_sheetsForLevel ∈ wU := tb5 (List.mem_of_getElem? (i := 49) (by decide +kernel)) rfl
theorem k_X5_sheetsForLevel : Cond.code yX5_sheetsForLevel cX5_sheetsForLevel 4 (some .int) ∈ wU := tb5 (List.mem_of_getElem? (i := 50) (by decide +kernel)) rfl
theorem il_RX7_275 : Cond.methodLink RX7 275 yX7_longestRise ∈ wU := tb5 (List.mem_of_getElem? (i := 52) (by decide +kernel)) rfl
theorem il_RX7_278 : Cond.methodLink RX7 278 yX7_riseByEnds ∈ wU := tb5 (List.mem_of_getElem? (i := 53) (by decide +kernel)) rfl
theorem il_RX7_281 : Cond.methodLink RX7 281 yX7_inkIsAccountedFor ∈ wU := tb5 (List.mem_of_getElem? (i := 54) (by decide +kernel)) rfl
theorem is_X7_inkIsAccountedFor : Cond.selects RX7 yX7_inkIsAccountedFor yX7_inkIsAccountedFor ∈ wU := tp (q := (yX7_inkIsAccountedFor, 11)) 13 (by decide +kernel)
theorem im_X7_inkIsAccountedFor : Cond.instanceMethod yX7_inkIsAccountedFor ∈ wU := tb5 (List.mem_of_getElem? (i := 56) (by decide +kernel)) rfl
theorem k_X7_inkIsAccountedFor : Cond.code yX7_inkIsAccountedFor cX7_inkIsAccountedFor 1 (some .boolean) ∈ wU := tb5 (List.mem_of_getElem? (i := 57) (by decide +kernel)) rfl
theorem il_RX7_388 : Cond.methodLink RX7 388 yX7_inkInWells ∈ wU := tb5 (List.mem_of_getElem? (i := 58) (by decide +kernel)) rfl
theorem il_RL_312 : Cond.methodLink RL 312 yX7_save ∈ wU := tb5 (List.mem_of_getElem? (i := 59) (by decide +kernel)) rfl
theorem im_X7_save : Cond.instanceMethod yX7_save ∈ wU := tb5 (List.mem_of_getElem? (i := 60) (by decide +kernel)) rfl
theorem is_X7_save : Cond.selects RX7 yX7_save yX7_save ∈ wU := tb5 (List.mem_of_getElem? (i := 61) (by decide +kernel)) rfl
theorem k_X7_save : Cond.code yX7_save cX7_save 1 (some .int) ∈ wU := tb5 (List.mem_of_getElem? (i := 62) (by decide +kernel)) rfl
theorem il_RX7_330 : Cond.methodLink RX7 330 yX6_copyFrom ∈ wU := tb5 (List.mem_of_getElem? (i := 63) (by decide +kernel)) rfl
theorem il_RL_132 : Cond.methodLink RL 132 yL_addInk ∈ wU := tb5 (List.mem_of_getElem? (i := 64) (by decide +kernel)) rfl
theorem it_L_addInk : Cond.static yL_addInk ∈ wU := tb5 (List.mem_of_getElem? (i := 65) (by decide +kernel)) rfl
theorem il_RL_13 : Cond.classLink RL 13 "java/lang/IllegalArgumentException" ∈ wU := tb5 (List.mem_of_getElem? (i := 67) (by decide +kernel)) rfl
theorem il_RL_15 : Cond.classLink RL 15 "java/lang/IllegalStateException" ∈ wU := tb5 (List.mem_of_getElem? (i := 68) (by decide +kernel)) rfl
theorem il_RL_7 : Cond.methodLink RL 7 yX7_addInk ∈ wU := tb5 (List.mem_of_getElem? (i := 69) (by decide +kernel)) rfl
theorem im_X7_addInk : Cond.instanceMethod yX7_addInk ∈ wU := tb5 (List.mem_of_getElem? (i := 70) (by decide +kernel)) rfl
theorem is_X7_addInk : Cond.selects RX7 yX7_addInk yX7_addInk ∈ wU := tb5 (List.mem_of_getElem? (i := 71) (by decide +kernel)) rfl
theorem k_X7_addInk : Cond.code yX7_addInk cX7_addInk 3 (some .int) ∈ wU := tb5 (List.mem_of_getElem? (i := 72) (by decide +kernel)) rfl
theorem il_RL_141 : Cond.methodLink RL 141 yL_addPaper ∈ wU := tb5 (List.mem_of_getElem? (i := 73) (by decide +kernel)) rfl
theorem it_L_addPaper : Cond.static yL_addPaper ∈ wU := tb5 (List.mem_of_getElem? (i := 74) (by decide +kernel)) rfl
theorem il_RL_17 : Cond.methodLink RL 17 yX7_addPaper ∈ wU := tb5 (List.mem_of_getElem? (i := 76) (by decide +kernel)) rfl
theorem im_X7_addPaper : Cond.instanceMethod yX7_addPaper ∈ wU := tb5 (List.mem_of_getElem? (i := 77) (by decide +kernel)) rfl
theorem is_X7_addPaper : Cond.selects RX7 yX7_addPaper yX7_addPaper ∈ wU := tb5 (List.mem_of_getElem? (i := 78) (by decide +kernel)) rfl
theorem k_X7_addPaper : Cond.code yX7_addPaper cX7_addPaper 2 (some .int) ∈ wU := tb5 (List.mem_of_getElem? (i := 79) (by decide +kernel)) rfl
theorem il_RL_145 : Cond.methodLink RL 145 yL_pass ∈ wU := tb5 (List.mem_of_getElem? (i := 80) (by decide +kernel)) rfl
theorem it_L_pass : Cond.static yL_pass ∈ wU := tb5 (List.mem_of_getElem? (i := 81) (by decide +kernel)) rfl
theorem il_RL_21 : Cond.methodLink RL 21 yX7_pass ∈ wU := tb5 (List.mem_of_getElem? (i := 83) (by decide +kernel)) rfl
theorem im_X7_pass : Cond.instanceMethod yX7_pass ∈ wU := tb5 (List.mem_of_getElem? (i := 84) (by decide +kernel)) rfl
theorem is_X7_pass : Cond.selects RX7 yX7_pass yX7_pass ∈ wU := tb5 (List.mem_of_getElem? (i := 85) (by decide +kernel)) rfl
theorem k_X7_pass : Cond.code yX7_pass cX7_pass 2 (some .int) ∈ wU := tb5 (List.mem_of_getElem? (i := 86) (by decide +kernel)) rfl
theorem il_RL_148 : Cond.methodLink RL 148 yL_ink ∈ wU := tb5 (List.mem_of_getElem? (i := 87) (by decide +kernel)) rfl
theorem it_L_ink : Cond.static yL_ink ∈ wU := tb5 (List.mem_of_getElem? (i := 88) (by decide +kernel)) rfl
theorem il_RL_24 : Cond.methodLink RL 24 yX7_ink ∈ wU := tb5 (List.mem_of_getElem? (i := 90) (by decide +kernel)) rfl
theorem im_X7_ink : Cond.instanceMethod yX7_ink ∈ wU := tb5 (List.mem_of_getElem? (i := 91) (by decide +kernel)) rfl
theorem is_X7_ink : Cond.selects RX7 yX7_ink yX7_ink ∈ wU := tb5 (List.mem_of_getElem? (i := 92) (by decide +kernel)) rfl
theorem k_X7_ink : Cond.code yX7_ink cX7_ink 2 (some .int) ∈ wU := tb5 (List.mem_of_getElem? (i := 93) (by decide +kernel)) rfl
theorem il_RX7_88 : Cond.methodLink RX7 88 yX7_isColour ∈ wU := tb5 (List.mem_of_getElem? (i := 94) (by decide +kernel)) rfl
theorem il_RL_159 : Cond.methodLink RL 159 yL_inkAfter ∈ wU := tb5 (List.mem_of_getElem? (i := 95) (by decide +kernel)) rfl
theorem it_L_inkAfter : Cond.static yL_inkAfter ∈ wU := tb5 (List.mem_of_getElem? (i := 96) (by decide +kernel)) rfl
theorem il_RL_27 : Cond.methodLink RL 27 yX7_inkAfter ∈ wU := tb5 (List.mem_of_getElem? (i := 98) (by decide +kernel)) rfl
theorem im_X7_inkAfter : Cond.instanceMethod yX7_inkAfter ∈ wU := tb5 (List.mem_of_getElem? (i := 99) (by decide +kernel)) rfl
theorem is_X7_inkAfter : Cond.selects RX7 yX7_inkAfter yX7_inkAfter ∈ wU := tb5 (List.mem_of_getElem? (i := 100) (by decide +kernel)) rfl
theorem k_X7_inkAfter : Cond.code yX7_inkAfter cX7_inkAfter 3 (some .int) ∈ wU := tb5 (List.mem_of_getElem? (i := 101) (by decide +kernel)) rfl
theorem il_RL_162 : Cond.methodLink RL 162 yL_inkByHalvings ∈ wU := tb5 (List.mem_of_getElem? (i := 102) (by decide +kernel)) rfl
theorem it_L_inkByHalvings : Cond.static yL_inkByHalvings ∈ wU := tb5 (List.mem_of_getElem? (i := 103) (by decide +kernel)) rfl
theorem il_RL_30 : Cond.methodLink RL 30 yX7_inkByHalvings ∈ wU := tb5 (List.mem_of_getElem? (i := 105) (by decide +kernel)) rfl
theorem im_X7_inkByHalvings : Cond.instanceMethod yX7_inkByHalvings ∈ wU := tb5 (List.mem_of_getElem? (i := 106) (by decide +kernel)) rfl
theorem is_X7_inkByHalvings : Cond.selects RX7 yX7_inkByHalvings yX7_inkByHalvings ∈ wU := tb5 (List.mem_of_getElem? (i := 107) (by decide +kernel)) rfl
theorem k_X7_inkByHalvings : Cond.code yX7_inkByHalvings cX7_inkByHalvings 3 (some .int) ∈ wU := tb5 (List.mem_of_getElem? (i := 108) (by decide +kernel)) rfl
theorem il_RL_165 : Cond.methodLink RL 165 yL_hoursUntilLess ∈ wU := tb5 (List.mem_of_getElem? (i := 109) (by decide +kernel)) rfl
theorem it_L_hoursUntilLess : Cond.static yL_hoursUntilLess ∈ wU := tb5 (List.mem_of_getElem? (i := 110) (by decide +kernel)) rfl
theorem il_RL_33 : Cond.methodLink RL 33 yX7_hoursUntilLess ∈ wU := tb5 (List.mem_of_getElem? (i := 112) (by decide +kernel)) rfl
theorem im_X7_hoursUntilLess : Cond.instanceMethod yX7_hoursUntilLess ∈ wU := tb5 (List.mem_of_getElem? (i := 113) (by decide +kernel)) rfl
theorem is_X7_hoursUntilLess : Cond.selects RX7 yX7_hoursUntilLess yX7_hoursUntilLess ∈ wU := tb5 (List.mem_of_getElem? (i := 114) (by decide +kernel)) rfl
theorem k_X7_hoursUntilLess : Cond.code yX7_hoursUntilLess cX7_hoursUntilLess 3 (some .int) ∈ wU := tb5 (List.mem_of_getElem? (i := 115) (by decide +kernel)) rfl
theorem il_RX7_117 : Cond.methodLink RX7 117 yX6_hoursToFallBelow ∈ wU := tb5 (List.mem_of_getElem? (i := 116) (by decide +kernel)) rfl
theorem im_X6_hoursToFallBelow : Cond.instanceMethod yX6_hoursToFallBelow ∈ wU := tb5 (List.mem_of_getElem? (i := 117) (by decide +kernel)) rfl
theorem is_X6_hoursToFallBelow : Cond.selects RX6 yX6_hoursToFallBelow yX6_hoursToFallBelow ∈ wU := tb5 (List.mem_of_getElem? (i := 118) (by decide +kernel)) rfl
theorem k_X6_hoursToFallBelow : Cond.code yX6_hoursToFallBelow cX6_hoursToFallBelow 5 (some .int) ∈ wU := tb5 (List.mem_of_getElem? (i := 119) (by decide +kernel)) rfl
theorem il_RL_168 : Cond.methodLink RL 168 yL_addEdition ∈ wU := tb5 (List.mem_of_getElem? (i := 120) (by decide +kernel)) rfl
theorem it_L_addEdition : Cond.static yL_addEdition ∈ wU := tb5 (List.mem_of_getElem? (i := 121) (by decide +kernel)) rfl
theorem il_RL_36 : Cond.methodLink RL 36 yX7_addEdition ∈ wU := tb5 (List.mem_of_getElem? (i := 123) (by decide +kernel)) rfl
theorem im_X7_addEdition : Cond.instanceMethod yX7_addEdition ∈ wU := tb5 (List.mem_of_getElem? (i := 124) (by decide +kernel)) rfl
theorem is_X7_addEdition : Cond.selects RX7 yX7_addEdition yX7_addEdition ∈ wU := tb5 (List.mem_of_getElem? (i := 125) (by decide +kernel)) rfl
theorem k_X7_addEdition : Cond.code yX7_addEdition cX7_addEdition 3 (some .int) ∈ wU := tb5 (List.mem_of_getElem? (i := 126) (by decide +kernel)) rfl
theorem il_RL_171 : Cond.methodLink RL 171 yL_removeEdition ∈ wU := tb5 (List.mem_of_getElem? (i := 127) (by decide +kernel)) rfl
theorem it_L_removeEdition : Cond.static yL_removeEdition ∈ wU := tb5 (List.mem_of_getElem? (i := 128) (by decide +kernel)) rfl
theorem il_RL_42 : Cond.classLink RL 42 "java/lang/IndexOutOfBoundsException" ∈ wU := tb5 (List.mem_of_getElem? (i := 130) (by decide +kernel)) rfl
theorem im_Jx00060_init_a7421 : Cond.instanceMethod yJx00060_init_a7421 ∈ wU := tb5 (List.mem_of_getElem? (i := 131) (by decide +kernel)) rfl
theorem k_Jx00060_init_a7421 : Cond.code yJx00060_init_a7421 cJx00060_init_a7421 2 none ∈ wU := tb5 (List.mem_of_getElem? (i := 132) (by decide +kernel)) rfl
theorem il_RL_39 : Cond.methodLink RL 39 yX7_removeEdition ∈ wU := tb5 (List.mem_of_getElem? (i := 133) (by decide +kernel)) rfl
theorem im_X7_removeEdition : Cond.instanceMethod yX7_removeEdition ∈ wU := tb5 (List.mem_of_getElem? (i := 134) (by decide +kernel)) rfl
theorem is_X7_removeEdition : Cond.selects RX7 yX7_removeEdition yX7_removeEdition ∈ wU := tb5 (List.mem_of_getElem? (i := 135) (by decide +kernel)) rfl
theorem k_X7_removeEdition : Cond.code yX7_removeEdition cX7_removeEdition 2 (some .int) ∈ wU := tb5 (List.mem_of_getElem? (i := 136) (by decide +kernel)) rfl
theorem il_RL_174 : Cond.methodLink RL 174 yL_print ∈ wU := tb5 (List.mem_of_getElem? (i := 137) (by decide +kernel)) rfl
theorem it_L_print : Cond.static yL_print ∈ wU := tb5 (List.mem_of_getElem? (i := 138) (by decide +kernel)) rfl
theorem il_RL_47 : Cond.classLink RL 47 "java/lang/UnsupportedOperationException" ∈ wU := tb5 (List.mem_of_getElem? (i := 140) (by decide +kernel)) rfl
theorem il_RL_44 : Cond.methodLink RL 44 yX7_print ∈ wU := tb5 (List.mem_of_getElem? (i := 141) (by decide +kernel)) rfl
theorem im_X7_print : Cond.instanceMethod yX7_print ∈ wU := tb5 (List.mem_of_getElem? (i := 142) (by decide +kernel)) rfl
theorem is_X7_print : Cond.selects RX7 yX7_print yX7_print ∈ wU := tb5 (List.mem_of_getElem? (i := 143) (by decide +kernel)) rfl
theorem k_X7_print : Cond.code yX7_print cX7_print 2 (some .int) ∈ wU := tb5 (List.mem_of_getElem? (i := 144) (by decide +kernel)) rfl
theorem il_RL_185 : Cond.methodLink RL 185 yL_colourOf ∈ wU := tb5 (List.mem_of_getElem? (i := 145) (by decide +kernel)) rfl
theorem it_L_colourOf : Cond.static yL_colourOf ∈ wU := tb5 (List.mem_of_getElem? (i := 146) (by decide +kernel)) rfl
theorem il_RL_49 : Cond.methodLink RL 49 yX7_colourOf ∈ wU := tb5 (List.mem_of_getElem? (i := 148) (by decide +kernel)) rfl
theorem im_X7_colourOf : Cond.instanceMethod yX7_colourOf ∈ wU := tb5 (List.mem_of_getElem? (i := 149) (by decide +kernel)) rfl
theorem is_X7_colourOf : Cond.selects RX7 yX7_colourOf yX7_colourOf ∈ wU := tb5 (List.mem_of_getElem? (i := 150) (by decide +kernel)) rfl
theorem k_X7_colourOf : Cond.code yX7_colourOf cX7_colourOf 2 (some .int) ∈ wU := tb5 (List.mem_of_getElem? (i := 151) (by decide +kernel)) rfl
theorem il_RL_188 : Cond.methodLink RL 188 yL_runOf ∈ wU := tb5 (List.mem_of_getElem? (i := 152) (by decide +kernel)) rfl
theorem it_L_runOf : Cond.static yL_runOf ∈ wU := tb5 (List.mem_of_getElem? (i := 153) (by decide +kernel)) rfl
theorem il_RL_52 : Cond.methodLink RL 52 yX7_runOf ∈ wU := tb5 (List.mem_of_getElem? (i := 155) (by decide +kernel)) rfl
theorem im_X7_runOf : Cond.instanceMethod yX7_runOf ∈ wU := tb5 (List.mem_of_getElem? (i := 156) (by decide +kernel)) rfl
theorem is_X7_runOf : Cond.selects RX7 yX7_runOf yX7_runOf ∈ wU := tb5 (List.mem_of_getElem? (i := 157) (by decide +kernel)) rfl
theorem k_X7_runOf : Cond.code yX7_runOf cX7_runOf 2 (some .int) ∈ wU := tb5 (List.mem_of_getElem? (i := 158) (by decide +kernel)) rfl
theorem il_RL_191 : Cond.methodLink RL 191 yL_printedOf ∈ wU := tb5 (List.mem_of_getElem? (i := 159) (by decide +kernel)) rfl
theorem it_L_printedOf : Cond.static yL_printedOf ∈ wU := tb5 (List.mem_of_getElem? (i := 160) (by decide +kernel)) rfl
theorem il_RL_55 : Cond.methodLink RL 55 yX7_printedOf ∈ wU := tb5 (List.mem_of_getElem? (i := 162) (by decide +kernel)) rfl
theorem im_X7_printedOf : Cond.instanceMethod yX7_printedOf ∈ wU := tb5 (List.mem_of_getElem? (i := 163) (by decide +kernel)) rfl
theorem is_X7_printedOf : Cond.selects RX7 yX7_printedOf yX7_printedOf ∈ wU := tb5 (List.mem_of_getElem? (i := 164) (by decide +kernel)) rfl
theorem k_X7_printedOf : Cond.code yX7_printedOf cX7_printedOf 2 (some .int) ∈ wU := tb5 (List.mem_of_getElem? (i := 165) (by decide +kernel)) rfl
theorem il_RL_194 : Cond.methodLink RL 194 yL_isComplete ∈ wU := tb5 (List.mem_of_getElem? (i := 166) (by decide +kernel)) rfl
theorem it_L_isComplete : Cond.static yL_isComplete ∈ wU := tb5 (List.mem_of_getElem? (i := 167) (by decide +kernel)) rfl
theorem il_RL_58 : Cond.methodLink RL 58 yX7_isComplete ∈ wU := tb5 (List.mem_of_getElem? (i := 169) (by decide +kernel)) rfl
theorem im_X7_isComplete : Cond.instanceMethod yX7_isComplete ∈ wU := tb5 (List.mem_of_getElem? (i := 170) (by decide +kernel)) rfl
theorem is_X7_isComplete : Cond.selects RX7 yX7_isComplete yX7_isComplete ∈ wU := tb5 (List.mem_of_getElem? (i := 171) (by decide +kernel)) rfl
theorem k_X7_isComplete : Cond.code yX7_isComplete cX7_isComplete 2 (some .boolean) ∈ wU := tb5 (List.mem_of_getElem? (i := 172) (by decide +kernel)) rfl
theorem il_RX7_150 : Cond.methodLink RX7 150 yX6_missing ∈ wU := tb5 (List.mem_of_getElem? (i := 173) (by decide +kernel)) rfl
theorem il_RL_197 : Cond.methodLink RL 197 yL_changeMinutes ∈ wU := tb5 (List.mem_of_getElem? (i := 174) (by decide +kernel)) rfl
theorem it_L_changeMinutes : Cond.static yL_changeMinutes ∈ wU := tb5 (List.mem_of_getElem? (i := 175) (by decide +kernel)) rfl
theorem il_RL_62 : Cond.methodLink RL 62 yX7_changeMinutes ∈ wU := tb5 (List.mem_of_getElem? (i := 177) (by decide +kernel)) rfl
theorem im_X7_changeMinutes : Cond.instanceMethod yX7_changeMinutes ∈ wU := tb5 (List.mem_of_getElem? (i := 178) (by decide +kernel)) rfl
theorem is_X7_changeMinutes : Cond.selects RX7 yX7_changeMinutes yX7_changeMinutes ∈ wU := tb5 (List.mem_of_getElem? (i := 179) (by decide +kernel)) rfl
theorem k_X7_changeMinutes : Cond.code yX7_changeMinutes cX7_changeMinutes 3 (some .int) ∈ wU := tb5 (List.mem_of_getElem? (i := 180) (by decide +kernel)) rfl
theorem il_RX7_154 : Cond.methodLink RX7 154 yX7_washMinutes ∈ wU := tb5 (List.mem_of_getElem? (i := 181) (by decide +kernel)) rfl
theorem il_RL_212 : Cond.methodLink RL 212 yL_editionAt ∈ wU := tb5 (List.mem_of_getElem? (i := 182) (by decide +kernel)) rfl
theorem it_L_editionAt : Cond.static yL_editionAt ∈ wU := tb5 (List.mem_of_getElem? (i := 183) (by decide +kernel)) rfl
theorem il_RL_68 : Cond.classLink RL 68 "java/util/NoSuchElementException" ∈ wU := tb5 (List.mem_of_getElem? (i := 185) (by decide +kernel)) rfl
theorem il_RL_65 : Cond.methodLink RL 65 yX7_editionAt ∈ wU := tb5 (List.mem_of_getElem? (i := 186) (by decide +kernel)) rfl
theorem im_X7_editionAt : Cond.instanceMethod yX7_editionAt ∈ wU := tb5 (List.mem_of_getElem? (i := 187) (by decide +kernel)) rfl
theorem is_X7_editionAt : Cond.selects RX7 yX7_editionAt yX7_editionAt ∈ wU := tb5 (List.mem_of_getElem? (i := 188) (by decide +kernel)) rfl
theorem k_X7_editionAt : Cond.code yX7_editionAt cX7_editionAt 2 (some .int) ∈ wU := tb5 (List.mem_of_getElem? (i := 189) (by decide +kernel)) rfl
theorem il_RX7_174 : Cond.methodLink RX7 174 yX7_requireElement ∈ wU := tb5 (List.mem_of_getElem? (i := 190) (by decide +kernel)) rfl
theorem it_X7_requireElement : Cond.static yX7_requireElement ∈ wU := tb5 (List.mem_of_getElem? (i := 191) (by decide +kernel)) rfl
theorem k_X7_requireElement : Cond.code yX7_requireElement cX7_requireElement 1 none ∈ wU := tb5 (List.mem_of_getElem? (i := 192) (by decide +kernel)) rfl
theorem il_RX7_405 : Cond.classLink RX7 405 "java/util/NoSuchElementException" ∈ wU := tb5 (List.mem_of_getElem? (i := 193) (by decide +kernel)) rfl
theorem ia_i_Zjava_util_NoSuchElementException : Cond.instantiable "java/util/NoSuchElementException" 6 ∈ wU := tb5 (List.mem_of_getElem? (i := 194) (by decide +kernel)) rfl
theorem il_RL_215 : Cond.methodLink RL 215 yL_shareOf ∈ wU := tb5 (List.mem_of_getElem? (i := 209) (by decide +kernel)) rfl
theorem it_L_shareOf : Cond.static yL_shareOf ∈ wU := tb5 (List.mem_of_getElem? (i := 210) (by decide +kernel)) rfl
theorem il_RL_70 : Cond.methodLink RL 70 yX7_shareOf ∈ wU := tb5 (List.mem_of_getElem? (i := 212) (by decide +kernel)) rfl
theorem il_RL_218 : Cond.methodLink RL 218 yL_shareByLevel ∈ wU := tb5 (List.mem_of_getElem? (i := 213) (by decide +kernel)) rfl
theorem it_L_shareByLevel : Cond.static yL_shareByLevel ∈ wU := tb5 (List.mem_of_getElem? (i := 214) (by decide +kernel)) rfl
theorem il_RL_73 : Cond.methodLink RL 73 yX7_shareByLevel ∈ wU := tb5 (List.mem_of_getElem? (i := 216) (by decide +kernel)) rfl
theorem il_RL_221 : Cond.methodLink RL 221 yL_editionByMissing ∈ wU := tb5 (List.mem_of_getElem? (i := 217) (by decide +kernel)) rfl
theorem it_L_editionByMissing : Cond.static yL_editionByMissing ∈ wU := tb5 (List.mem_of_getElem? (i := 218) (by decide +kernel)) rfl
theorem il_RL_76 : Cond.methodLink RL 76 yX7_editionByMissing ∈ wU := tb5 (List.mem_of_getElem? (i := 220) (by decide +kernel)) rfl
theorem im_X7_editionByMissing : Cond.instanceMethod yX7_editionByMissing ∈ wU := tb5 (List.mem_of_getElem? (i := 221) (by decide +kernel)) rfl
theorem is_X7_editionByMissing : Cond.selects RX7 yX7_editionByMissing yX7_editionByMissing ∈ wU := tb5 (List.mem_of_getElem? (i := 222) (by decide +kernel)) rfl
theorem k_X7_editionByMissing : Cond.code yX7_editionByMissing cX7_editionByMissing 2 (some .int) ∈ wU := tb5 (List.mem_of_getElem? (i := 223) (by decide +kernel)) rfl
theorem il_RX7_189 : Cond.methodLink RX7 189 yX6_editionOfRank ∈ wU := tb5 (List.mem_of_getElem? (i := 224) (by decide +kernel)) rfl
theorem im_X6_editionOfRank : Cond.instanceMethod yX6_editionOfRank ∈ wU := tb5 (List.mem_of_getElem? (i := 225) (by decide +kernel)) rfl
theorem is_X6_editionOfRank : Cond.selects RX6 yX6_editionOfRank yX6_editionOfRank ∈ wU := tb5 (List.mem_of_getElem? (i := 226) (by decide +kernel)) rfl
theorem k_X6_editionOfRank : Cond.code yX6_editionOfRank cX6_editionOfRank 3 (some .int) ∈ wU := tb5 (List.mem_of_getElem? (i := 227) (by decide +kernel)) rfl
theorem il_RX6_104 : Cond.methodLink RX6 104 yX6_rankOf ∈ wU := tb5 (List.mem_of_getElem? (i := 228) (by decide +kernel)) rfl
theorem is_X6_rankOf : Cond.selects RX6 yX6_rankOf yX6_rankOf ∈ wU := tp (q := (yX6_rankOf, 15)) 14 (by decide +kernel)
theorem im_X6_rankOf : Cond.instanceMethod yX6_rankOf ∈ wU := tb5 (List.mem_of_getElem? (i := 230) (by decide +kernel)) rfl
theorem k_X6_rankOf : Cond.code yX6_rankOf cX6_rankOf 5 (some .int) ∈ wU := tb5 (List.mem_of_getElem? (i := 231) (by decide +kernel)) rfl
theorem il_RL_224 : Cond.methodLink RL 224 yL_addProof ∈ wU := tb5 (List.mem_of_getElem? (i := 232) (by decide +kernel)) rfl
theorem it_L_addProof : Cond.static yL_addProof ∈ wU := tb5 (List.mem_of_getElem? (i := 233) (by decide +kernel)) rfl
theorem il_RL_79 : Cond.methodLink RL 79 yX7_addProof ∈ wU := tb5 (List.mem_of_getElem? (i := 235) (by decide +kernel)) rfl
theorem im_X7_addProof : Cond.instanceMethod yX7_addProof ∈ wU := tb5 (List.mem_of_getElem? (i := 236) (by decide +kernel)) rfl
theorem is_X7_addProof : Cond.selects RX7 yX7_addProof yX7_addProof ∈ wU := tb5 (List.mem_of_getElem? (i := 237) (by decide +kernel)) rfl
theorem k_X7_addProof : Cond.code yX7_addProof cX7_addProof 2 (some .int) ∈ wU := tb5 (List.mem_of_getElem? (i := 238) (by decide +kernel)) rfl
theorem il_RL_227 : Cond.methodLink RL 227 yL_dropProof ∈ wU := tb5 (List.mem_of_getElem? (i := 239) (by decide +kernel)) rfl
theorem it_L_dropProof : Cond.static yL_dropProof ∈ wU := tb6 (List.mem_of_getElem? (i := 0) (by decide +kernel)) rfl
theorem il_RL_82 : Cond.methodLink RL 82 yX7_dropProof ∈ wU := tb6 (List.mem_of_getElem? (i := 2) (by decide +kernel)) rfl
theorem im_X7_dropProof : Cond.instanceMethod yX7_dropProof ∈ wU := tb6 (List.mem_of_getElem? (i := 3) (by decide +kernel)) rfl
theorem is_X7_dropProof : Cond.selects RX7 yX7_dropProof yX7_dropProof ∈ wU := tb6 (List.mem_of_getElem? (i := 4) (by decide +kernel)) rfl
theorem k_X7_dropProof : Cond.code yX7_dropProof cX7_dropProof 2 (some .int) ∈ wU := tb6 (List.mem_of_getElem? (i := 5) (by decide +kernel)) rfl
theorem il_RX7_195 : Cond.fieldLink RX7 195 RX1 "DROP" "LInkPrintery$Command;" ∈ wU := tb6 (List.mem_of_getElem? (i := 6) (by decide +kernel)) rfl
theorem il_RL_234 : Cond.methodLink RL 234 yL_marksOf ∈ wU := tb6 (List.mem_of_getElem? (i := 8) (by decide +kernel)) rfl
theorem it_L_marksOf : Cond.static yL_marksOf ∈ wU := tb6 (List.mem_of_getElem? (i := 9) (by decide +kernel)) rfl
theorem il_RL_85 : Cond.methodLink RL 85 yX7_marksOf ∈ wU := tb6 (List.mem_of_getElem? (i := 11) (by decide +kernel)) rfl
theorem im_X7_marksOf : Cond.instanceMethod yX7_marksOf ∈ wU := tb6 (List.mem_of_getElem? (i := 12) (by decide +kernel)) rfl
theorem is_X7_marksOf : Cond.selects RX7 yX7_marksOf yX7_marksOf ∈ wU := tb6 (List.mem_of_getElem? (i := 13) (by decide +kernel)) rfl
theorem k_X7_marksOf : Cond.code yX7_marksOf cX7_marksOf 2 (some .int) ∈ wU := tb6 (List.mem_of_getElem? (i := 14) (by decide +kernel)) rfl
theorem il_RX7_201 : Cond.methodLink RX7 201 yX6_hasProof ∈ wU := tb6 (List.mem_of_getElem? (i := 15) (by decide +kernel)) rfl
theorem il_RL_237 : Cond.methodLink RL 237 yL_hourOf ∈ wU := tb6 (List.mem_of_getElem? (i := 16) (by decide +kernel)) rfl
theorem it_L_hourOf : Cond.static yL_hourOf ∈ wU := tb6 (List.mem_of_getElem? (i := 17) (by decide +kernel)) rfl
theorem il_RL_88 : Cond.methodLink RL 88 yX7_hourOf ∈ wU := tb6 (List.mem_of_getElem? (i := 19) (by decide +kernel)) rfl
theorem im_X7_hourOf : Cond.instanceMethod yX7_hourOf ∈ wU := tb6 (List.mem_of_getElem? (i := 20) (by decide +kernel)) rfl
theorem is_X7_hourOf : Cond.selects RX7 yX7_hourOf yX7_hourOf ∈ wU := tb6 (List.mem_of_getElem? (i := 21) (by decide +kernel)) rfl
theorem k_X7_hourOf : Cond.code yX7_hourOf cX7_hourOf 2 (some .int) ∈ wU := tb6 (List.mem_of_getElem? (i := 22) (by decide +kernel)) rfl
theorem il_RL_273 : Cond.methodLink RL 273 yL_meanRun ∈ wU := tb6 (List.mem_of_getElem? (i := 23) (by decide +kernel)) rfl
theorem it_L_meanRun : Cond.static yL_meanRun ∈ wU := tb6 (List.mem_of_getElem? (i := 24) (by decide +kernel)) rfl
theorem il_RL_95 : Cond.classLink RL 95 "java/lang/ArithmeticException" ∈ wU := tb6 (List.mem_of_getElem? (i := 26) (by decide +kernel)) rfl
theorem ia_i_Zjava_lang_ArithmeticException : Cond.instantiable "java/lang/ArithmeticException" 6 ∈ wU := tb6 (List.mem_of_getElem? (i := 27) (by decide +kernel)) rfl
theorem il_RL_91 : Cond.methodLink RL 91 yX7_meanRun ∈ wU := tb6 (List.mem_of_getElem? (i := 40) (by decide +kernel)) rfl
theorem im_X7_meanRun : Cond.instanceMethod yX7_meanRun ∈ wU := tb6 (List.mem_of_getElem? (i := 41) (by decide +kernel)) rfl
theorem is_X7_meanRun : Cond.selects RX7 yX7_meanRun yX7_meanRun ∈ wU := tb6 (List.mem_of_getElem? (i := 42) (by decide +kernel)) rfl
theorem k_X7_meanRun : Cond.code yX7_meanRun cX7_meanRun 1 (some .double) ∈ wU := tb6 (List.mem_of_getElem? (i := 43) (by decide +kernel)) rfl
theorem il_RX7_234 : Cond.classLink RX7 234 "java/lang/ArithmeticException" ∈ wU := tb6 (List.mem_of_getElem? (i := 44) (by decide +kernel)) rfl
theorem il_RL_277 : Cond.methodLink RL 277 yL_fadedShare ∈ wU := tb6 (List.mem_of_getElem? (i := 47) (by decide +kernel)) rfl
theorem it_L_fadedShare : Cond.static yL_fadedShare ∈ wU := tb6 (List.mem_of_getElem? (i := 48) (by decide +kernel)) rfl
theorem il_RL_97 : Cond.methodLink RL 97 yX7_fadedShare ∈ wU := tb6 (List.mem_of_getElem? (i := 50) (by decide +kernel)) rfl
theorem im_X7_fadedShare : Cond.instanceMethod yX7_fadedShare ∈ wU := tb6 (List.mem_of_getElem? (i := 51) (by decide +kernel)) rfl
theorem is_X7_fadedShare : Cond.selects RX7 yX7_fadedShare yX7_fadedShare ∈ wU := tb6 (List.mem_of_getElem? (i := 52) (by decide +kernel)) rfl
theorem k_X7_fadedShare : Cond.code yX7_fadedShare cX7_fadedShare 1 (some .float) ∈ wU := tb6 (List.mem_of_getElem? (i := 53) (by decide +kernel)) rfl
theorem il_RL_280 : Cond.methodLink RL 280 yL_writeEdition ∈ wU := tb6 (List.mem_of_getElem? (i := 55) (by decide +kernel)) rfl
theorem it_L_writeEdition : Cond.static yL_writeEdition ∈ wU := tb6 (List.mem_of_getElem? (i := 56) (by decide +kernel)) rfl
theorem il_RL_101 : Cond.methodLink RL 101 yX7_writeEdition ∈ wU := tb6 (List.mem_of_getElem? (i := 58) (by decide +kernel)) rfl
theorem im_X7_writeEdition : Cond.instanceMethod yX7_writeEdition ∈ wU := tb6 (List.mem_of_getElem? (i := 59) (by decide +kernel)) rfl
theorem is_X7_writeEdition : Cond.selects RX7 yX7_writeEdition yX7_writeEdition ∈ wU := tb6 (List.mem_of_getElem? (i := 60) (by decide +kernel)) rfl
theorem k_X7_writeEdition : Cond.code yX7_writeEdition cX7_writeEdition 2 (some .int) ∈ wU := tb6 (List.mem_of_getElem? (i := 61) (by decide +kernel)) rfl
theorem il_RL_287 : Cond.methodLink RL 287 yL_lineAt ∈ wU := tb6 (List.mem_of_getElem? (i := 62) (by decide +kernel)) rfl
theorem it_L_lineAt : Cond.static yL_lineAt ∈ wU := tb6 (List.mem_of_getElem? (i := 63) (by decide +kernel)) rfl
theorem il_RL_104 : Cond.methodLink RL 104 yX7_lineAt ∈ wU := tb6 (List.mem_of_getElem? (i := 65) (by decide +kernel)) rfl
theorem im_X7_lineAt : Cond.instanceMethod yX7_lineAt ∈ wU := tb6 (List.mem_of_getElem? (i := 66) (by decide +kernel)) rfl
theorem is_X7_lineAt : Cond.selects RX7 yX7_lineAt yX7_lineAt ∈ wU := tb6 (List.mem_of_getElem? (i := 67) (by decide +kernel)) rfl
theorem k_X7_lineAt : Cond.code yX7_lineAt cX7_lineAt 2 (some .char) ∈ wU := tb6 (List.mem_of_getElem? (i := 68) (by decide +kernel)) rfl
theorem il_RX7_258 : Cond.methodLink RX7 258 yJ4_charAt_5068e ∈ wU := tb6 (List.mem_of_getElem? (i := 69) (by decide +kernel)) rfl
theorem im_J4_charAt_5068e : Cond.instanceMethod yJ4_charAt_5068e ∈ wU := tb6 (List.mem_of_getElem? (i := 70) (by decide +kernel)) rfl
theorem is_J4_charAt_5068e : Cond.selects RJ4 yJ4_charAt_5068e yJ4_charAt_5068e ∈ wU := tb6 (List.mem_of_getElem? (i := 71) (by decide +kernel)) rfl
theorem k_J4_charAt_5068e : Cond.code yJ4_charAt_5068e cJ4_charAt_5068e 2 (some .char) ∈ wU := tb6 (List.mem_of_getElem? (i := 72) (by decide +kernel)) rfl
theorem il_RJ4_329 : Cond.methodLink RJ4 329 yJ5_charAt_5068e ∈ wU := tb6 (List.mem_of_getElem? (i := 73) (by decide +kernel)) rfl
theorem im_J5_charAt_5068e : Cond.instanceMethod yJ5_charAt_5068e ∈ wU := tb6 (List.mem_of_getElem? (i := 74) (by decide +kernel)) rfl
theorem k_J5_charAt_5068e : Cond.code yJ5_charAt_5068e cJ5_charAt_5068e 5 (some .char) ∈ wU := tb6 (List.mem_of_getElem? (i := 75) (by decide +kernel)) rfl
theorem il_RJ5_144 : Cond.methodLink RJ5 144 yJ0_checkIndex_df160 ∈ wU := tb6 (List.mem_of_getElem? (i := 77) (by decide +kernel)) rfl
theorem il_RJ5_148 : Cond.methodLink RJ5 148 yJ2_getChar_3b067 ∈ wU := tb6 (List.mem_of_getElem? (i := 78) (by decide +kernel)) rfl
theorem il_RL_295 : Cond.methodLink RL 295 yL_type ∈ wU := tb6 (List.mem_of_getElem? (i := 79) (by decide +kernel)) rfl
theorem it_L_type : Cond.static yL_type ∈ wU := tb6 (List.mem_of_getElem? (i := 80) (by decide +kernel)) rfl
theorem il_RL_108 : Cond.methodLink RL 108 yX7_type ∈ wU := tb6 (List.mem_of_getElem? (i := 82) (by decide +kernel)) rfl
theorem im_X7_type : Cond.instanceMethod yX7_type ∈ wU := tb6 (List.mem_of_getElem? (i := 83) (by decide +kernel)) rfl
theorem is_X7_type : Cond.selects RX7 yX7_type yX7_type ∈ wU := tb6 (List.mem_of_getElem? (i := 84) (by decide +kernel)) rfl
theorem k_X7_type : Cond.code yX7_type cX7_type 2 (some .int) ∈ wU := tb6 (List.mem_of_getElem? (i := 85) (by decide +kernel)) rfl
theorem il_RX7_284 : Cond.methodLink RX7 284 yX2_length ∈ wU := tb6 (List.mem_of_getElem? (i := 86) (by decide +kernel)) rfl
theorem im_X2_length : Cond.instanceMethod yX2_length ∈ wU := tb6 (List.mem_of_getElem? (i := 87) (by decide +kernel)) rfl
theorem is_X2_length : Cond.selects RX2 yX2_length yX2_length ∈ wU := tb6 (List.mem_of_getElem? (i := 88) (by decide +kernel)) rfl
theorem k_X2_length : Cond.code yX2_length cX2_length 1 (some .int) ∈ wU := tb6 (List.mem_of_getElem? (i := 89) (by decide +kernel)) rfl
theorem il_RX2_38 : Cond.methodLink RX2 38 yJ4_length_8abf5 ∈ wU := tb6 (List.mem_of_getElem? (i := 90) (by decide +kernel)) rfl
theorem il_RX7_288 : Cond.methodLink RX7 288 yX2_add ∈ wU := tb6 (List.mem_of_getElem? (i := 91) (by decide +kernel)) rfl
theorem im_X2_add : Cond.instanceMethod yX2_add ∈ wU := tb6 (List.mem_of_getElem? (i := 92) (by decide +kernel)) rfl
theorem is_X2_add : Cond.selects RX2 yX2_add yX2_add ∈ wU := tb6 (List.mem_of_getElem? (i := 93) (by decide +kernel)) rfl
theorem k_X2_add : Cond.code yX2_add cX2_add 2 none ∈ wU := tb6 (List.mem_of_getElem? (i := 94) (by decide +kernel)) rfl
theorem il_RX2_42 : Cond.methodLink RX2 42 yJ4_append_cf468 ∈ wU := tb6 (List.mem_of_getElem? (i := 95) (by decide +kernel)) rfl
theorem il_RL_299 : Cond.methodLink RL 299 yL_execute ∈ wU := tb6 (List.mem_of_getElem? (i := 96) (by decide +kernel)) rfl
theorem it_L_execute : Cond.static yL_execute ∈ wU := tb6 (List.mem_of_getElem? (i := 97) (by decide +kernel)) rfl
theorem il_RL_112 : Cond.methodLink RL 112 yX7_execute ∈ wU := tb6 (List.mem_of_getElem? (i := 99) (by decide +kernel)) rfl
theorem im_X7_execute : Cond.instanceMethod yX7_execute ∈ wU := tb6 (List.mem_of_getElem? (i := 100) (by decide +kernel)) rfl
theorem is_X7_execute : Cond.selects RX7 yX7_execute yX7_execute ∈ wU := tb6 (List.mem_of_getElem? (i := 101) (by decide +kernel)) rfl
theorem k_X7_execute : Cond.code yX7_execute cX7_execute 3 (some .int) ∈ wU := tb6 (List.mem_of_getElem? (i := 102) (by decide +kernel)) rfl
theorem il_RX7_292 : Cond.methodLink RX7 292 yX2_read ∈ wU := tb6 (List.mem_of_getElem? (i := 103) (by decide +kernel)) rfl
theorem im_X2_read : Cond.instanceMethod yX2_read ∈ wU := tb6 (List.mem_of_getElem? (i := 104) (by decide +kernel)) rfl
theorem is_X2_read : Cond.selects RX2 yX2_read yX2_read ∈ wU := tb6 (List.mem_of_getElem? (i := 105) (by decide +kernel)) rfl
theorem k_X2_read : Cond.code yX2_read cX2_read 2 (some .boolean) ∈ wU := tb6 (List.mem_of_getElem? (i := 106) (by decide +kernel)) rfl
theorem il_RX2_50 : Cond.methodLink RX2 50 yX2_readCommand ∈ wU := tb6 (List.mem_of_getElem? (i := 107) (by decide +kernel)) rfl
theorem is_X2_readCommand : Cond.selects RX2 yX2_readCommand yX2_readCommand ∈ wU := tp (q := (yX2_readCommand, 6)) 15 (by decide +kernel)
theorem im_X2_readCommand : Cond.instanceMethod yX2_readCommand ∈ wU := tb6 (List.mem_of_getElem? (i := 109) (by decide +kernel)) rfl
theorem k_X2_readCommand : Cond.code yX2_readCommand cX2_readCommand 5 (some .boolean) ∈ wU := tb6 (List.mem_of_getElem? (i := 110) (by decide +kernel)) rfl
theorem il_RX2_58 : Cond.methodLink RX2 58 yX2_readWord ∈ wU := tb6 (List.mem_of_getElem? (i := 111) (by decide +kernel)) rfl
theorem is_X2_readWord : Cond.selects RX2 yX2_readWord yX2_readWord ∈ wU := tp (q := (yX2_readWord, 6)) 16 (by decide +kernel)
theorem im_X2_readWord : Cond.instanceMethod yX2_readWord ∈ wU := tb6 (List.mem_of_getElem? (i := 113) (by decide +kernel)) rfl
theorem k_X2_readWord : Cond.code yX2_readWord cX2_readWord 5 (some (.object "InkPrintery$Command")) ∈ wU := tb6 (List.mem_of_getElem? (i := 114) (by decide +kernel)) rfl
theorem il_RX2_72 : Cond.fieldLinkNest RX2 72 RX7 "COMMANDS" "[LInkPrintery$Command;" "InkPrintery" ∈ ia_nest := tn6 rfl (List.mem_of_getElem? (i := 115) (by decide +kernel))
theorem il_RX2_79 : Cond.methodLink RX2 79 yX2_agreeingCharacters ∈ wU := tb6 (List.mem_of_getElem? (i := 117) (by decide +kernel)) rfl
theorem is_X2_agreeingCharacters : Cond.selects RX2 yX2_agreeingCharacters yX2_agreeingCharacters ∈ wU := tp (q := (yX2_agreeingCharacters, 6)) 17 (by decide +kernel)
theorem im_X2_agreeingCharacters : Cond.instanceMethod yX2_agreeingCharacters ∈ wU := tb6 (List.mem_of_getElem? (i := 119) (by decide +kernel)) rfl
theorem k_X2_agreeingCharacters : Cond.code yX2_agreeingCharacters cX2_agreeingCharacters 3 (some .int) ∈ wU := tb6 (List.mem_of_getElem? (i := 120) (by decide +kernel)) rfl
theorem il_RX2_83 : Cond.methodLink RX2 83 yJ0_length_8abf5 ∈ wU := tb6 (List.mem_of_getElem? (i := 121) (by decide +kernel)) rfl
theorem il_RX2_92 : Cond.methodLink RX2 92 yJ4_charAt_5068e ∈ wU := tb6 (List.mem_of_getElem? (i := 122) (by decide +kernel)) rfl
theorem il_RX2_96 : Cond.methodLink RX2 96 yJ0_charAt_5068e ∈ wU := tb6 (List.mem_of_getElem? (i := 123) (by decide +kernel)) rfl
theorem im_J0_charAt_5068e : Cond.instanceMethod yJ0_charAt_5068e ∈ wU := tb6 (List.mem_of_getElem? (i := 124) (by decide +kernel)) rfl
theorem is_J0_charAt_5068e : Cond.selects RJ0 yJ0_charAt_5068e yJ0_charAt_5068e ∈ wU := tb6 (List.mem_of_getElem? (i := 125) (by decide +kernel)) rfl
theorem k_J0_charAt_5068e : Cond.code yJ0_charAt_5068e cJ0_charAt_5068e 2 (some .char) ∈ wU := tb6 (List.mem_of_getElem? (i := 126) (by decide +kernel)) rfl
theorem il_RJ0_492 : Cond.methodLink RJ0 492 yJ0_isLatin1_aae02 ∈ wU := tb6 (List.mem_of_getElem? (i := 127) (by decide +kernel)) rfl
theorem im_J0_isLatin1_aae02 : Cond.instanceMethod yJ0_isLatin1_aae02 ∈ wU := tb6 (List.mem_of_getElem? (i := 128) (by decide +kernel)) rfl
theorem is_J0_isLatin1_aae02 : Cond.selects RJ0 yJ0_isLatin1_aae02 yJ0_isLatin1_aae02 ∈ wU := tb6 (List.mem_of_getElem? (i := 129) (by decide +kernel)) rfl
theorem k_J0_isLatin1_aae02 : Cond.code yJ0_isLatin1_aae02 cJ0_isLatin1_aae02 1 (some .boolean) ∈ wU := tb6 (List.mem_of_getElem? (i := 130) (by decide +kernel)) rfl
theorem il_RJ0_495 : Cond.methodLink RJ0 495 yJ1_charAt_3b067 ∈ wU := tb6 (List.mem_of_getElem? (i := 131) (by decide +kernel)) rfl
theorem it_J1_charAt_3b067 : Cond.static yJ1_charAt_3b067 ∈ wU := tb6 (List.mem_of_getElem? (i := 132) (by decide +kernel)) rfl
theorem k_J1_charAt_3b067 : Cond.code yJ1_charAt_3b067 cJ1_charAt_3b067 2 (some .char) ∈ wU := tb6 (List.mem_of_getElem? (i := 133) (by decide +kernel)) rfl
theorem il_RJ1_9 : Cond.methodLink RJ1 9 yJ0_checkIndex_df160 ∈ wU := tb6 (List.mem_of_getElem? (i := 134) (by decide +kernel)) rfl
theorem il_RJ0_498 : Cond.methodLink RJ0 498 yJ2_charAt_3b067 ∈ wU := tb6 (List.mem_of_getElem? (i := 135) (by decide +kernel)) rfl
theorem it_J2_charAt_3b067 : Cond.static yJ2_charAt_3b067 ∈ wU := tb6 (List.mem_of_getElem? (i := 136) (by decide +kernel)) rfl
theorem k_J2_charAt_3b067 : Cond.code yJ2_charAt_3b067 cJ2_charAt_3b067 2 (some .char) ∈ wU := tb6 (List.mem_of_getElem? (i := 137) (by decide +kernel)) rfl
theorem il_RX2_65 : Cond.methodLink RX2 65 yX2_readParameter ∈ wU := tb6 (List.mem_of_getElem? (i := 139) (by decide +kernel)) rfl
theorem is_X2_readParameter : Cond.selects RX2 yX2_readParameter yX2_readParameter ∈ wU := tp (q := (yX2_readParameter, 6)) 18 (by decide +kernel)
theorem im_X2_readParameter : Cond.instanceMethod yX2_readParameter ∈ wU := tb6 (List.mem_of_getElem? (i := 141) (by decide +kernel)) rfl
theorem k_X2_readParameter : Cond.code yX2_readParameter cX2_readParameter 4 (some .int) ∈ wU := tb6 (List.mem_of_getElem? (i := 142) (by decide +kernel)) rfl
theorem il_RX2_54 : Cond.methodLink RX2 54 yX2_skip ∈ wU := tb6 (List.mem_of_getElem? (i := 143) (by decide +kernel)) rfl
theorem is_X2_skip : Cond.selects RX2 yX2_skip yX2_skip ∈ wU := tp (q := (yX2_skip, 6)) 19 (by decide +kernel)
theorem im_X2_skip : Cond.instanceMethod yX2_skip ∈ wU := tb6 (List.mem_of_getElem? (i := 145) (by decide +kernel)) rfl
theorem k_X2_skip : Cond.code yX2_skip cX2_skip 2 (some .boolean) ∈ wU := tb6 (List.mem_of_getElem? (i := 146) (by decide +kernel)) rfl
theorem il_RX2_97 : Cond.methodLink RX2 97 yX2_isAtDigit ∈ wU := tb6 (List.mem_of_getElem? (i := 147) (by decide +kernel)) rfl
theorem is_X2_isAtDigit : Cond.selects RX2 yX2_isAtDigit yX2_isAtDigit ∈ wU := tp (q := (yX2_isAtDigit, 6)) 20 (by decide +kernel)
theorem im_X2_isAtDigit : Cond.instanceMethod yX2_isAtDigit ∈ wU := tb6 (List.mem_of_getElem? (i := 149) (by decide +kernel)) rfl
theorem k_X2_isAtDigit : Cond.code yX2_isAtDigit cX2_isAtDigit 1 (some .boolean) ∈ wU := tb6 (List.mem_of_getElem? (i := 150) (by decide +kernel)) rfl
theorem il_RX2_101 : Cond.methodLinkNest RX2 101 yX7_isWithin "InkPrintery" ∈ ia_nest := tn6 rfl (List.mem_of_getElem? (i := 151) (by decide +kernel))
theorem il_RX7_295 : Cond.methodLink RX7 295 yX2_empty ∈ wU := tb6 (List.mem_of_getElem? (i := 152) (by decide +kernel)) rfl
theorem im_X2_empty : Cond.instanceMethod yX2_empty ∈ wU := tb6 (List.mem_of_getElem? (i := 153) (by decide +kernel)) rfl
theorem is_X2_empty : Cond.selects RX2 yX2_empty yX2_empty ∈ wU := tb6 (List.mem_of_getElem? (i := 154) (by decide +kernel)) rfl
theorem k_X2_empty : Cond.code yX2_empty cX2_empty 1 none ∈ wU := tb6 (List.mem_of_getElem? (i := 155) (by decide +kernel)) rfl
theorem il_RX2_46 : Cond.methodLink RX2 46 yJ4_setLength_d00df ∈ wU := tb6 (List.mem_of_getElem? (i := 156) (by decide +kernel)) rfl
theorem il_RX7_309 : Cond.methodLink RX7 309 yX7_carryOutText ∈ wU := tb6 (List.mem_of_getElem? (i := 158) (by decide +kernel)) rfl
theorem is_X7_carryOutText : Cond.selects RX7 yX7_carryOutText yX7_carryOutText ∈ wU := tp (q := (yX7_carryOutText, 11)) 21 (by decide +kernel)
theorem im_X7_carryOutText : Cond.instanceMethod yX7_carryOutText ∈ wU := tb6 (List.mem_of_getElem? (i := 160) (by decide +kernel)) rfl
theorem k_X7_carryOutText : Cond.code yX7_carryOutText cX7_carryOutText 3 (some .int) ∈ wU := tb6 (List.mem_of_getElem? (i := 161) (by decide +kernel)) rfl
theorem il_RX7_312 : Cond.methodLink RX7 312 yX3_takeBackNoted ∈ wU := tb6 (List.mem_of_getElem? (i := 162) (by decide +kernel)) rfl
theorem im_X3_takeBackNoted : Cond.instanceMethod yX3_takeBackNoted ∈ wU := tb6 (List.mem_of_getElem? (i := 163) (by decide +kernel)) rfl
theorem is_X3_takeBackNoted : Cond.selects RX3 yX3_takeBackNoted yX3_takeBackNoted ∈ wU := tb6 (List.mem_of_getElem? (i := 164) (by decide +kernel)) rfl
theorem k_X3_takeBackNoted : Cond.code yX3_takeBackNoted cX3_takeBackNoted 2 none ∈ wU := tb6 (List.mem_of_getElem? (i := 165) (by decide +kernel)) rfl
theorem il_RL_303 : Cond.methodLink RL 303 yL_errorPosition ∈ wU := tb6 (List.mem_of_getElem? (i := 167) (by decide +kernel)) rfl
theorem it_L_errorPosition : Cond.static yL_errorPosition ∈ wU := tb6 (List.mem_of_getElem? (i := 168) (by decide +kernel)) rfl
theorem il_RL_116 : Cond.methodLink RL 116 yX7_errorPosition ∈ wU := tb6 (List.mem_of_getElem? (i := 170) (by decide +kernel)) rfl
theorem im_X7_errorPosition : Cond.instanceMethod yX7_errorPosition ∈ wU := tb6 (List.mem_of_getElem? (i := 171) (by decide +kernel)) rfl
theorem is_X7_errorPosition : Cond.selects RX7 yX7_errorPosition yX7_errorPosition ∈ wU := tb6 (List.mem_of_getElem? (i := 172) (by decide +kernel)) rfl
theorem k_X7_errorPosition : Cond.code yX7_errorPosition cX7_errorPosition 1 (some .int) ∈ wU := tb6 (List.mem_of_getElem? (i := 173) (by decide +kernel)) rfl
theorem il_RL_306 : Cond.methodLink RL 306 yL_failedCommand ∈ wU := tb6 (List.mem_of_getElem? (i := 174) (by decide +kernel)) rfl
theorem it_L_failedCommand : Cond.static yL_failedCommand ∈ wU := tb6 (List.mem_of_getElem? (i := 175) (by decide +kernel)) rfl
theorem il_RL_119 : Cond.methodLink RL 119 yX7_failedCommand ∈ wU := tb6 (List.mem_of_getElem? (i := 177) (by decide +kernel)) rfl
theorem im_X7_failedCommand : Cond.instanceMethod yX7_failedCommand ∈ wU := tb6 (List.mem_of_getElem? (i := 178) (by decide +kernel)) rfl
theorem is_X7_failedCommand : Cond.selects RX7 yX7_failedCommand yX7_failedCommand ∈ wU := tb6 (List.mem_of_getElem? (i := 179) (by decide +kernel)) rfl
theorem k_X7_failedCommand : Cond.code yX7_failedCommand cX7_failedCommand 1 (some .int) ∈ wU := tb6 (List.mem_of_getElem? (i := 180) (by decide +kernel)) rfl
theorem il_RL_309 : Cond.methodLink RL 309 yL_undo ∈ wU := tb6 (List.mem_of_getElem? (i := 181) (by decide +kernel)) rfl
theorem it_L_undo : Cond.static yL_undo ∈ wU := tb6 (List.mem_of_getElem? (i := 182) (by decide +kernel)) rfl
theorem il_RL_122 : Cond.methodLink RL 122 yX7_undo ∈ wU := tb6 (List.mem_of_getElem? (i := 184) (by decide +kernel)) rfl
theorem im_X7_undo : Cond.instanceMethod yX7_undo ∈ wU := tb6 (List.mem_of_getElem? (i := 185) (by decide +kernel)) rfl
theorem is_X7_undo : Cond.selects RX7 yX7_undo yX7_undo ∈ wU := tb6 (List.mem_of_getElem? (i := 186) (by decide +kernel)) rfl
theorem k_X7_undo : Cond.code yX7_undo cX7_undo 1 (some .int) ∈ wU := tb6 (List.mem_of_getElem? (i := 187) (by decide +kernel)) rfl
theorem il_RX7_327 : Cond.methodLink RX7 327 yX3_takeBackKept ∈ wU := tb6 (List.mem_of_getElem? (i := 188) (by decide +kernel)) rfl
theorem im_X3_takeBackKept : Cond.instanceMethod yX3_takeBackKept ∈ wU := tb6 (List.mem_of_getElem? (i := 189) (by decide +kernel)) rfl
theorem is_X3_takeBackKept : Cond.selects RX3 yX3_takeBackKept yX3_takeBackKept ∈ wU := tb6 (List.mem_of_getElem? (i := 190) (by decide +kernel)) rfl
theorem k_X3_takeBackKept : Cond.code yX3_takeBackKept cX3_takeBackKept 2 none ∈ wU := tb6 (List.mem_of_getElem? (i := 191) (by decide +kernel)) rfl
theorem il_RL_316 : Cond.methodLink RL 316 yL_restore ∈ wU := tb6 (List.mem_of_getElem? (i := 192) (by decide +kernel)) rfl
theorem it_L_restore : Cond.static yL_restore ∈ wU := tb6 (List.mem_of_getElem? (i := 193) (by decide +kernel)) rfl
theorem il_RL_125 : Cond.methodLink RL 125 yX7_restore ∈ wU := tb6 (List.mem_of_getElem? (i := 195) (by decide +kernel)) rfl
theorem im_X7_restore : Cond.instanceMethod yX7_restore ∈ wU := tb6 (List.mem_of_getElem? (i := 196) (by decide +kernel)) rfl
theorem is_X7_restore : Cond.selects RX7 yX7_restore yX7_restore ∈ wU := tb6 (List.mem_of_getElem? (i := 197) (by decide +kernel)) rfl
theorem k_X7_restore : Cond.code yX7_restore cX7_restore 1 (some .int) ∈ wU := tb6 (List.mem_of_getElem? (i := 198) (by decide +kernel)) rfl
theorem il_RX7_333 : Cond.methodLink RX7 333 yX3_forget ∈ wU := tb6 (List.mem_of_getElem? (i := 199) (by decide +kernel)) rfl
theorem im_X3_forget : Cond.instanceMethod yX3_forget ∈ wU := tb6 (List.mem_of_getElem? (i := 200) (by decide +kernel)) rfl
theorem is_X3_forget : Cond.selects RX3 yX3_forget yX3_forget ∈ wU := tb6 (List.mem_of_getElem? (i := 201) (by decide +kernel)) rfl
theorem k_X3_forget : Cond.code yX3_forget cX3_forget 1 none ∈ wU := tb6 (List.mem_of_getElem? (i := 202) (by decide +kernel)) rfl
theorem il_RL_129 : Cond.classLink RL 129 RX8 ∈ wU := tb6 (List.mem_of_getElem? (i := 203) (by decide +kernel)) rfl
theorem ia_i_RX8 : Cond.instantiable RX8 25 ∈ wU := tb6 (List.mem_of_getElem? (i := 204) (by decide +kernel)) rfl
theorem il_RL_131 : Cond.methodLink RL 131 yX8_init ∈ wU := tb6 (List.mem_of_getElem? (i := 205) (by decide +kernel)) rfl
theorem im_X8_init : Cond.instanceMethod yX8_init ∈ wU := tb6 (List.mem_of_getElem? (i := 206) (by decide +kernel)) rfl
theorem k_X8_init : Cond.code yX8_init cX8_init 1 none ∈ wU := tb6 (List.mem_of_getElem? (i := 207) (by decide +kernel)) rfl
theorem il_RX8_7 : Cond.fieldLink RX8 7 RX8 "now" "[I" ∈ wU := tb6 (List.mem_of_getElem? (i := 209) (by decide +kernel)) rfl
theorem il_RX8_13 : Cond.fieldLink RX8 13 RX8 "before" "[I" ∈ wU := tb6 (List.mem_of_getElem? (i := 210) (by decide +kernel)) rfl
theorem il_RX8_16 : Cond.fieldLink RX8 16 RX8 "saved" "[I" ∈ wU := tb6 (List.mem_of_getElem? (i := 211) (by decide +kernel)) rfl
theorem il_RX8_19 : Cond.fieldLink RX8 19 RX8 "history" "[I" ∈ wU := tb6 (List.mem_of_getElem? (i := 212) (by decide +kernel)) rfl
theorem il_RX8_22 : Cond.fieldLink RX8 22 RX8 "fewest" "[I" ∈ wU := tb6 (List.mem_of_getElem? (i := 213) (by decide +kernel)) rfl
theorem il_RX8_25 : Cond.fieldLink RX8 25 RX8 "shares" "[I" ∈ wU := tb6 (List.mem_of_getElem? (i := 214) (by decide +kernel)) rfl
theorem il_RX8_28 : Cond.fieldLink RX8 28 RX8 "longest" "[I" ∈ wU := tb6 (List.mem_of_getElem? (i := 215) (by decide +kernel)) rfl
theorem il_RX8_31 : Cond.fieldLink RX8 31 RX8 "ways" "[I" ∈ wU := tb6 (List.mem_of_getElem? (i := 216) (by decide +kernel)) rfl
theorem il_RX8_34 : Cond.fieldLink RX8 34 RX8 "order" "[I" ∈ wU := tb6 (List.mem_of_getElem? (i := 217) (by decide +kernel)) rfl
theorem il_RX8_37 : Cond.fieldLink RX8 37 RX8 "thrown" "I" ∈ wU := tb6 (List.mem_of_getElem? (i := 218) (by decide +kernel)) rfl
theorem il_RX8_41 : Cond.fieldLink RX8 41 RX8 "depth" "I" ∈ wU := tb6 (List.mem_of_getElem? (i := 219) (by decide +kernel)) rfl
theorem il_RX8_44 : Cond.fieldLink RX8 44 RX8 "wrongAt" "I" ∈ wU := tb6 (List.mem_of_getElem? (i := 220) (by decide +kernel)) rfl
theorem il_RX8_47 : Cond.fieldLink RX8 47 RX8 "failedAt" "I" ∈ wU := tb6 (List.mem_of_getElem? (i := 221) (by decide +kernel)) rfl
theorem il_RX8_50 : Cond.fieldLink RX8 50 RX8 "isSaved" "Z" ∈ wU := tb6 (List.mem_of_getElem? (i := 222) (by decide +kernel)) rfl
theorem il_RX8_54 : Cond.fieldLink RX8 54 RX8 "line" "[I" ∈ wU := tb6 (List.mem_of_getElem? (i := 223) (by decide +kernel)) rfl
theorem il_RX8_57 : Cond.fieldLink RX8 57 RX8 "lineLength" "I" ∈ wU := tb6 (List.mem_of_getElem? (i := 224) (by decide +kernel)) rfl
theorem il_RX8_60 : Cond.fieldLink RX8 60 RX8 "input" "[I" ∈ wU := tb6 (List.mem_of_getElem? (i := 225) (by decide +kernel)) rfl
theorem il_RX8_63 : Cond.fieldLink RX8 63 RX8 "kinds" "[I" ∈ wU := tb6 (List.mem_of_getElem? (i := 226) (by decide +kernel)) rfl
theorem il_RX8_66 : Cond.fieldLink RX8 66 RX8 "firsts" "[I" ∈ wU := tb6 (List.mem_of_getElem? (i := 227) (by decide +kernel)) rfl
theorem il_RX8_69 : Cond.fieldLink RX8 69 RX8 "seconds" "[I" ∈ wU := tb6 (List.mem_of_getElem? (i := 228) (by decide +kernel)) rfl
theorem il_RX8_72 : Cond.fieldLink RX8 72 RX8 "length" "I" ∈ wU := tb6 (List.mem_of_getElem? (i := 229) (by decide +kernel)) rfl
theorem il_RX8_75 : Cond.fieldLink RX8 75 RX8 "textLength" "I" ∈ wU := tb6 (List.mem_of_getElem? (i := 230) (by decide +kernel)) rfl
theorem il_RX8_78 : Cond.fieldLink RX8 78 RX8 "at" "I" ∈ wU := tb6 (List.mem_of_getElem? (i := 231) (by decide +kernel)) rfl
theorem il_RX8_81 : Cond.fieldLink RX8 81 RX8 "commands" "I" ∈ wU := tb6 (List.mem_of_getElem? (i := 232) (by decide +kernel)) rfl
theorem il_RX8_84 : Cond.fieldLink RX8 84 RX8 "isWrong" "Z" ∈ wU := tb6 (List.mem_of_getElem? (i := 233) (by decide +kernel)) rfl
theorem il_RL_138 : Cond.methodLink RL 138 yX8_thrown ∈ wU := tb7 (List.mem_of_getElem? (i := 45) (by decide +kernel)) rfl
theorem im_X8_thrown : Cond.instanceMethod yX8_thrown ∈ wU := tb7 (List.mem_of_getElem? (i := 46) (by decide +kernel)) rfl
theorem is_X8_thrown : Cond.selects RX8 yX8_thrown yX8_thrown ∈ wU := tb7 (List.mem_of_getElem? (i := 47) (by decide +kernel)) rfl
theorem k_X8_thrown : Cond.code yX8_thrown cX8_thrown 1 (some .int) ∈ wU := tb7 (List.mem_of_getElem? (i := 48) (by decide +kernel)) rfl
theorem il_RL_137 : Cond.methodLink RL 137 yX8_addInk ∈ wU := tb7 (List.mem_of_getElem? (i := 49) (by decide +kernel)) rfl
theorem im_X8_addInk : Cond.instanceMethod yX8_addInk ∈ wU := tb7 (List.mem_of_getElem? (i := 50) (by decide +kernel)) rfl
theorem is_X8_addInk : Cond.selects RX8 yX8_addInk yX8_addInk ∈ wU := tb7 (List.mem_of_getElem? (i := 51) (by decide +kernel)) rfl
theorem k_X8_addInk : Cond.code yX8_addInk cX8_addInk 4 (some .int) ∈ wU := tb7 (List.mem_of_getElem? (i := 52) (by decide +kernel)) rfl
theorem il_RX8_99 : Cond.methodLink RX8 99 yX8_begin ∈ wU := tb7 (List.mem_of_getElem? (i := 53) (by decide +kernel)) rfl
theorem is_X8_begin : Cond.selects RX8 yX8_begin yX8_begin ∈ wU := tp (q := (yX8_begin, 25)) 22 (by decide +kernel)
theorem im_X8_begin : Cond.instanceMethod yX8_begin ∈ wU := tb7 (List.mem_of_getElem? (i := 55) (by decide +kernel)) rfl
theorem k_X8_begin : Cond.code yX8_begin cX8_begin 1 none ∈ wU := tb7 (List.mem_of_getElem? (i := 56) (by decide +kernel)) rfl
theorem il_RX8_87 : Cond.methodLink RX8 87 yX8_copy ∈ wU := tb7 (List.mem_of_getElem? (i := 57) (by decide +kernel)) rfl
theorem it_X8_copy : Cond.static yX8_copy ∈ wU := tb7 (List.mem_of_getElem? (i := 58) (by decide +kernel)) rfl
theorem k_X8_copy : Cond.code yX8_copy cX8_copy 5 none ∈ wU := tb7 (List.mem_of_getElem? (i := 59) (by decide +kernel)) rfl
theorem il_RX8_102 : Cond.methodLink RX8 102 yX8_cannotPour ∈ wU := tb7 (List.mem_of_getElem? (i := 60) (by decide +kernel)) rfl
theorem is_X8_cannotPour : Cond.selects RX8 yX8_cannotPour yX8_cannotPour ∈ wU := tp (q := (yX8_cannotPour, 25)) 23 (by decide +kernel)
theorem im_X8_cannotPour : Cond.instanceMethod yX8_cannotPour ∈ wU := tb7 (List.mem_of_getElem? (i := 62) (by decide +kernel)) rfl
theorem k_X8_cannotPour : Cond.code yX8_cannotPour cX8_cannotPour 3 (some .int) ∈ wU := tb7 (List.mem_of_getElem? (i := 63) (by decide +kernel)) rfl
theorem il_RX8_95 : Cond.methodLink RX8 95 yX8_isColour ∈ wU := tb7 (List.mem_of_getElem? (i := 64) (by decide +kernel)) rfl
theorem it_X8_isColour : Cond.static yX8_isColour ∈ wU := tb7 (List.mem_of_getElem? (i := 65) (by decide +kernel)) rfl
theorem k_X8_isColour : Cond.code yX8_isColour cX8_isColour 1 (some .boolean) ∈ wU := tb7 (List.mem_of_getElem? (i := 66) (by decide +kernel)) rfl
theorem il_RX8_91 : Cond.methodLink RX8 91 yX8_in ∈ wU := tb7 (List.mem_of_getElem? (i := 67) (by decide +kernel)) rfl
theorem it_X8_in : Cond.static yX8_in ∈ wU := tb7 (List.mem_of_getElem? (i := 68) (by decide +kernel)) rfl
theorem k_X8_in : Cond.code yX8_in cX8_in 3 (some .boolean) ∈ wU := tb7 (List.mem_of_getElem? (i := 69) (by decide +kernel)) rfl
theorem il_RX8_106 : Cond.methodLink RX8 106 yX8_fail ∈ wU := tb7 (List.mem_of_getElem? (i := 70) (by decide +kernel)) rfl
theorem is_X8_fail : Cond.selects RX8 yX8_fail yX8_fail ∈ wU := tp (q := (yX8_fail, 25)) 24 (by decide +kernel)
theorem im_X8_fail : Cond.instanceMethod yX8_fail ∈ wU := tb7 (List.mem_of_getElem? (i := 72) (by decide +kernel)) rfl
theorem k_X8_fail : Cond.code yX8_fail cX8_fail 2 (some .int) ∈ wU := tb7 (List.mem_of_getElem? (i := 73) (by decide +kernel)) rfl
theorem il_RX8_110 : Cond.methodLink RX8 110 yX8_pours ∈ wU := tb7 (List.mem_of_getElem? (i := 74) (by decide +kernel)) rfl
theorem is_X8_pours : Cond.selects RX8 yX8_pours yX8_pours ∈ wU := tp (q := (yX8_pours, 25)) 25 (by decide +kernel)
theorem im_X8_pours : Cond.instanceMethod yX8_pours ∈ wU := tb7 (List.mem_of_getElem? (i := 76) (by decide +kernel)) rfl
theorem k_X8_pours : Cond.code yX8_pours cX8_pours 3 (some .int) ∈ wU := tb7 (List.mem_of_getElem? (i := 77) (by decide +kernel)) rfl
theorem il_RX8_113 : Cond.methodLink RX8 113 yX8_commit ∈ wU := tb7 (List.mem_of_getElem? (i := 78) (by decide +kernel)) rfl
theorem is_X8_commit : Cond.selects RX8 yX8_commit yX8_commit ∈ wU := tp (q := (yX8_commit, 25)) 26 (by decide +kernel)
theorem im_X8_commit : Cond.instanceMethod yX8_commit ∈ wU := tb7 (List.mem_of_getElem? (i := 80) (by decide +kernel)) rfl
theorem k_X8_commit : Cond.code yX8_commit cX8_commit 3 (some .int) ∈ wU := tb7 (List.mem_of_getElem? (i := 81) (by decide +kernel)) rfl
theorem il_RL_144 : Cond.methodLink RL 144 yX8_addPaper ∈ wU := tb7 (List.mem_of_getElem? (i := 82) (by decide +kernel)) rfl
theorem im_X8_addPaper : Cond.instanceMethod yX8_addPaper ∈ wU := tb7 (List.mem_of_getElem? (i := 83) (by decide +kernel)) rfl
theorem is_X8_addPaper : Cond.selects RX8 yX8_addPaper yX8_addPaper ∈ wU := tb7 (List.mem_of_getElem? (i := 84) (by decide +kernel)) rfl
theorem k_X8_addPaper : Cond.code yX8_addPaper cX8_addPaper 3 (some .int) ∈ wU := tb7 (List.mem_of_getElem? (i := 85) (by decide +kernel)) rfl
theorem il_RX8_116 : Cond.methodLink RX8 116 yX8_cannotBuy ∈ wU := tb7 (List.mem_of_getElem? (i := 86) (by decide +kernel)) rfl
theorem is_X8_cannotBuy : Cond.selects RX8 yX8_cannotBuy yX8_cannotBuy ∈ wU := tp (q := (yX8_cannotBuy, 25)) 27 (by decide +kernel)
theorem im_X8_cannotBuy : Cond.instanceMethod yX8_cannotBuy ∈ wU := tb7 (List.mem_of_getElem? (i := 88) (by decide +kernel)) rfl
theorem k_X8_cannotBuy : Cond.code yX8_cannotBuy cX8_cannotBuy 2 (some .int) ∈ wU := tb7 (List.mem_of_getElem? (i := 89) (by decide +kernel)) rfl
theorem il_RX8_119 : Cond.methodLink RX8 119 yX8_buys ∈ wU := tb7 (List.mem_of_getElem? (i := 90) (by decide +kernel)) rfl
theorem is_X8_buys : Cond.selects RX8 yX8_buys yX8_buys ∈ wU := tp (q := (yX8_buys, 25)) 28 (by decide +kernel)
theorem im_X8_buys : Cond.instanceMethod yX8_buys ∈ wU := tb7 (List.mem_of_getElem? (i := 92) (by decide +kernel)) rfl
theorem k_X8_buys : Cond.code yX8_buys cX8_buys 2 (some .int) ∈ wU := tb7 (List.mem_of_getElem? (i := 93) (by decide +kernel)) rfl
theorem il_RL_147 : Cond.methodLink RL 147 yX8_pass ∈ wU := tb7 (List.mem_of_getElem? (i := 94) (by decide +kernel)) rfl
theorem im_X8_pass : Cond.instanceMethod yX8_pass ∈ wU := tb7 (List.mem_of_getElem? (i := 95) (by decide +kernel)) rfl
theorem is_X8_pass : Cond.selects RX8 yX8_pass yX8_pass ∈ wU := tb7 (List.mem_of_getElem? (i := 96) (by decide +kernel)) rfl
theorem k_X8_pass : Cond.code yX8_pass cX8_pass 2 (some .int) ∈ wU := tb7 (List.mem_of_getElem? (i := 97) (by decide +kernel)) rfl
theorem il_RX8_122 : Cond.methodLink RX8 122 yX8_passes ∈ wU := tb7 (List.mem_of_getElem? (i := 98) (by decide +kernel)) rfl
theorem is_X8_passes : Cond.selects RX8 yX8_passes yX8_passes ∈ wU := tp (q := (yX8_passes, 25)) 29 (by decide +kernel)
theorem im_X8_passes : Cond.instanceMethod yX8_passes ∈ wU := tb7 (List.mem_of_getElem? (i := 100) (by decide +kernel)) rfl
theorem k_X8_passes : Cond.code yX8_passes cX8_passes 6 (some .int) ∈ wU := tb7 (List.mem_of_getElem? (i := 101) (by decide +kernel)) rfl
theorem il_RL_150 : Cond.methodLink RL 150 yX8_ink ∈ wU := tb7 (List.mem_of_getElem? (i := 102) (by decide +kernel)) rfl
theorem im_X8_ink : Cond.instanceMethod yX8_ink ∈ wU := tb7 (List.mem_of_getElem? (i := 103) (by decide +kernel)) rfl
theorem is_X8_ink : Cond.selects RX8 yX8_ink yX8_ink ∈ wU := tb7 (List.mem_of_getElem? (i := 104) (by decide +kernel)) rfl
theorem k_X8_ink : Cond.code yX8_ink cX8_ink 2 (some .int) ∈ wU := tb7 (List.mem_of_getElem? (i := 105) (by decide +kernel)) rfl
theorem il_RX8_125 : Cond.methodLink RX8 125 yX8_checked ∈ wU := tb7 (List.mem_of_getElem? (i := 106) (by decide +kernel)) rfl
theorem is_X8_checked : Cond.selects RX8 yX8_checked yX8_checked ∈ wU := tp (q := (yX8_checked, 25)) 30 (by decide +kernel)
theorem im_X8_checked : Cond.instanceMethod yX8_checked ∈ wU := tb7 (List.mem_of_getElem? (i := 108) (by decide +kernel)) rfl
theorem k_X8_checked : Cond.code yX8_checked cX8_checked 2 (some .int) ∈ wU := tb7 (List.mem_of_getElem? (i := 109) (by decide +kernel)) rfl
theorem il_RL_154 : Cond.methodLink RL 154 yX8_paper ∈ wU := tb7 (List.mem_of_getElem? (i := 110) (by decide +kernel)) rfl
theorem im_X8_paper : Cond.instanceMethod yX8_paper ∈ wU := tb7 (List.mem_of_getElem? (i := 111) (by decide +kernel)) rfl
theorem is_X8_paper : Cond.selects RX8 yX8_paper yX8_paper ∈ wU := tb7 (List.mem_of_getElem? (i := 112) (by decide +kernel)) rfl
theorem k_X8_paper : Cond.code yX8_paper cX8_paper 1 (some .int) ∈ wU := tb7 (List.mem_of_getElem? (i := 113) (by decide +kernel)) rfl
theorem il_RX8_129 : Cond.methodLink RX8 129 yX8_plain ∈ wU := tb7 (List.mem_of_getElem? (i := 114) (by decide +kernel)) rfl
theorem is_X8_plain : Cond.selects RX8 yX8_plain yX8_plain ∈ wU := tp (q := (yX8_plain, 25)) 31 (by decide +kernel)
theorem im_X8_plain : Cond.instanceMethod yX8_plain ∈ wU := tb7 (List.mem_of_getElem? (i := 116) (by decide +kernel)) rfl
theorem k_X8_plain : Cond.code yX8_plain cX8_plain 2 (some .int) ∈ wU := tb7 (List.mem_of_getElem? (i := 117) (by decide +kernel)) rfl
theorem il_RL_158 : Cond.methodLink RL 158 yX8_hour ∈ wU := tb7 (List.mem_of_getElem? (i := 118) (by decide +kernel)) rfl
theorem im_X8_hour : Cond.instanceMethod yX8_hour ∈ wU := tb7 (List.mem_of_getElem? (i := 119) (by decide +kernel)) rfl
theorem is_X8_hour : Cond.selects RX8 yX8_hour yX8_hour ∈ wU := tb7 (List.mem_of_getElem? (i := 120) (by decide +kernel)) rfl
theorem k_X8_hour : Cond.code yX8_hour cX8_hour 1 (some .int) ∈ wU := tb7 (List.mem_of_getElem? (i := 121) (by decide +kernel)) rfl
theorem il_RL_161 : Cond.methodLink RL 161 yX8_inkAfter ∈ wU := tb7 (List.mem_of_getElem? (i := 122) (by decide +kernel)) rfl
theorem im_X8_inkAfter : Cond.instanceMethod yX8_inkAfter ∈ wU := tb7 (List.mem_of_getElem? (i := 123) (by decide +kernel)) rfl
theorem is_X8_inkAfter : Cond.selects RX8 yX8_inkAfter yX8_inkAfter ∈ wU := tb7 (List.mem_of_getElem? (i := 124) (by decide +kernel)) rfl
theorem k_X8_inkAfter : Cond.code yX8_inkAfter cX8_inkAfter 3 (some .int) ∈ wU := tb7 (List.mem_of_getElem? (i := 125) (by decide +kernel)) rfl
theorem il_RX8_135 : Cond.methodLink RX8 135 yX8_after ∈ wU := tb7 (List.mem_of_getElem? (i := 126) (by decide +kernel)) rfl
theorem is_X8_after : Cond.selects RX8 yX8_after yX8_after ∈ wU := tp (q := (yX8_after, 25)) 32 (by decide +kernel)
theorem im_X8_after : Cond.instanceMethod yX8_after ∈ wU := tb7 (List.mem_of_getElem? (i := 128) (by decide +kernel)) rfl
theorem k_X8_after : Cond.code yX8_after cX8_after 3 (some .int) ∈ wU := tb7 (List.mem_of_getElem? (i := 129) (by decide +kernel)) rfl
theorem il_RX8_132 : Cond.methodLink RX8 132 yX8_leftAfter ∈ wU := tb7 (List.mem_of_getElem? (i := 130) (by decide +kernel)) rfl
theorem is_X8_leftAfter : Cond.selects RX8 yX8_leftAfter yX8_leftAfter ∈ wU := tp (q := (yX8_leftAfter, 25)) 33 (by decide +kernel)
theorem im_X8_leftAfter : Cond.instanceMethod yX8_leftAfter ∈ wU := tb7 (List.mem_of_getElem? (i := 132) (by decide +kernel)) rfl
theorem k_X8_leftAfter : Cond.code yX8_leftAfter cX8_leftAfter 5 (some .int) ∈ wU := tb7 (List.mem_of_getElem? (i := 133) (by decide +kernel)) rfl
theorem il_RL_164 : Cond.methodLink RL 164 yX8_inkByHalvings ∈ wU := tb7 (List.mem_of_getElem? (i := 134) (by decide +kernel)) rfl
theorem im_X8_inkByHalvings : Cond.instanceMethod yX8_inkByHalvings ∈ wU := tb7 (List.mem_of_getElem? (i := 135) (by decide +kernel)) rfl
theorem is_X8_inkByHalvings : Cond.selects RX8 yX8_inkByHalvings yX8_inkByHalvings ∈ wU := tb7 (List.mem_of_getElem? (i := 136) (by decide +kernel)) rfl
theorem k_X8_inkByHalvings : Cond.code yX8_inkByHalvings cX8_inkByHalvings 3 (some .int) ∈ wU := tb7 (List.mem_of_getElem? (i := 137) (by decide +kernel)) rfl
theorem il_RL_167 : Cond.methodLink RL 167 yX8_hoursUntilLess ∈ wU := tb7 (List.mem_of_getElem? (i := 138) (by decide +kernel)) rfl
theorem im_X8_hoursUntilLess : Cond.instanceMethod yX8_hoursUntilLess ∈ wU := tb7 (List.mem_of_getElem? (i := 139) (by decide +kernel)) rfl
theorem is_X8_hoursUntilLess : Cond.selects RX8 yX8_hoursUntilLess yX8_hoursUntilLess ∈ wU := tb7 (List.mem_of_getElem? (i := 140) (by decide +kernel)) rfl
theorem k_X8_hoursUntilLess : Cond.code yX8_hoursUntilLess cX8_hoursUntilLess 4 (some .int) ∈ wU := tb7 (List.mem_of_getElem? (i := 141) (by decide +kernel)) rfl
theorem il_RL_170 : Cond.methodLink RL 170 yX8_addEdition ∈ wU := tb7 (List.mem_of_getElem? (i := 142) (by decide +kernel)) rfl
theorem im_X8_addEdition : Cond.instanceMethod yX8_addEdition ∈ wU := tb7 (List.mem_of_getElem? (i := 143) (by decide +kernel)) rfl
theorem is_X8_addEdition : Cond.selects RX8 yX8_addEdition yX8_addEdition ∈ wU := tb7 (List.mem_of_getElem? (i := 144) (by decide +kernel)) rfl
theorem k_X8_addEdition : Cond.code yX8_addEdition cX8_addEdition 4 (some .int) ∈ wU := tb7 (List.mem_of_getElem? (i := 145) (by decide +kernel)) rfl
theorem il_RX8_141 : Cond.methodLink RX8 141 yX8_cannotAdd ∈ wU := tb7 (List.mem_of_getElem? (i := 146) (by decide +kernel)) rfl
theorem is_X8_cannotAdd : Cond.selects RX8 yX8_cannotAdd yX8_cannotAdd ∈ wU := tp (q := (yX8_cannotAdd, 25)) 34 (by decide +kernel)
theorem im_X8_cannotAdd : Cond.instanceMethod yX8_cannotAdd ∈ wU := tb7 (List.mem_of_getElem? (i := 148) (by decide +kernel)) rfl
theorem k_X8_cannotAdd : Cond.code yX8_cannotAdd cX8_cannotAdd 3 (some .int) ∈ wU := tb7 (List.mem_of_getElem? (i := 149) (by decide +kernel)) rfl
theorem il_RX8_144 : Cond.methodLink RX8 144 yX8_adds ∈ wU := tb7 (List.mem_of_getElem? (i := 150) (by decide +kernel)) rfl
theorem is_X8_adds : Cond.selects RX8 yX8_adds yX8_adds ∈ wU := tp (q := (yX8_adds, 25)) 35 (by decide +kernel)
theorem im_X8_adds : Cond.instanceMethod yX8_adds ∈ wU := tb7 (List.mem_of_getElem? (i := 152) (by decide +kernel)) rfl
theorem k_X8_adds : Cond.code yX8_adds cX8_adds 4 (some .int) ∈ wU := tb7 (List.mem_of_getElem? (i := 153) (by decide +kernel)) rfl
theorem il_RL_173 : Cond.methodLink RL 173 yX8_removeEdition ∈ wU := tb7 (List.mem_of_getElem? (i := 154) (by decide +kernel)) rfl
theorem im_X8_removeEdition : Cond.instanceMethod yX8_removeEdition ∈ wU := tb7 (List.mem_of_getElem? (i := 155) (by decide +kernel)) rfl
theorem is_X8_removeEdition : Cond.selects RX8 yX8_removeEdition yX8_removeEdition ∈ wU := tb7 (List.mem_of_getElem? (i := 156) (by decide +kernel)) rfl
theorem k_X8_removeEdition : Cond.code yX8_removeEdition cX8_removeEdition 2 (some .int) ∈ wU := tb7 (List.mem_of_getElem? (i := 157) (by decide +kernel)) rfl
theorem il_RX8_147 : Cond.methodLink RX8 147 yX8_isEdition ∈ wU := tb7 (List.mem_of_getElem? (i := 158) (by decide +kernel)) rfl
theorem is_X8_isEdition : Cond.selects RX8 yX8_isEdition yX8_isEdition ∈ wU := tp (q := (yX8_isEdition, 25)) 36 (by decide +kernel)
theorem im_X8_isEdition : Cond.instanceMethod yX8_isEdition ∈ wU := tb7 (List.mem_of_getElem? (i := 160) (by decide +kernel)) rfl
theorem k_X8_isEdition : Cond.code yX8_isEdition cX8_isEdition 2 (some .boolean) ∈ wU := tb7 (List.mem_of_getElem? (i := 161) (by decide +kernel)) rfl
theorem il_RX8_150 : Cond.methodLink RX8 150 yX8_removes ∈ wU := tb7 (List.mem_of_getElem? (i := 162) (by decide +kernel)) rfl
theorem is_X8_removes : Cond.selects RX8 yX8_removes yX8_removes ∈ wU := tp (q := (yX8_removes, 25)) 37 (by decide +kernel)
theorem im_X8_removes : Cond.instanceMethod yX8_removes ∈ wU := tb7 (List.mem_of_getElem? (i := 164) (by decide +kernel)) rfl
theorem k_X8_removes : Cond.code yX8_removes cX8_removes 3 (some .int) ∈ wU := tb7 (List.mem_of_getElem? (i := 165) (by decide +kernel)) rfl
theorem il_RL_176 : Cond.methodLink RL 176 yX8_print ∈ wU := tb7 (List.mem_of_getElem? (i := 166) (by decide +kernel)) rfl
theorem im_X8_print : Cond.instanceMethod yX8_print ∈ wU := tb7 (List.mem_of_getElem? (i := 167) (by decide +kernel)) rfl
theorem is_X8_print : Cond.selects RX8 yX8_print yX8_print ∈ wU := tb7 (List.mem_of_getElem? (i := 168) (by decide +kernel)) rfl
theorem k_X8_print : Cond.code yX8_print cX8_print 3 (some .int) ∈ wU := tb7 (List.mem_of_getElem? (i := 169) (by decide +kernel)) rfl
theorem il_RX8_168 : Cond.methodLink RX8 168 yX8_cannotPrint ∈ wU := tb7 (List.mem_of_getElem? (i := 170) (by decide +kernel)) rfl
theorem is_X8_cannotPrint : Cond.selects RX8 yX8_cannotPrint yX8_cannotPrint ∈ wU := tp (q := (yX8_cannotPrint, 25)) 38 (by decide +kernel)
theorem im_X8_cannotPrint : Cond.instanceMethod yX8_cannotPrint ∈ wU := tb7 (List.mem_of_getElem? (i := 172) (by decide +kernel)) rfl
theorem k_X8_cannotPrint : Cond.code yX8_cannotPrint cX8_cannotPrint 2 (some .int) ∈ wU := tb7 (List.mem_of_getElem? (i := 173) (by decide +kernel)) rfl
theorem il_RX8_156 : Cond.methodLink RX8 156 yX8_missing ∈ wU := tb7 (List.mem_of_getElem? (i := 174) (by decide +kernel)) rfl
theorem is_X8_missing : Cond.selects RX8 yX8_missing yX8_missing ∈ wU := tp (q := (yX8_missing, 25)) 39 (by decide +kernel)
theorem im_X8_missing : Cond.instanceMethod yX8_missing ∈ wU := tb7 (List.mem_of_getElem? (i := 176) (by decide +kernel)) rfl
theorem k_X8_missing : Cond.code yX8_missing cX8_missing 2 (some .int) ∈ wU := tb7 (List.mem_of_getElem? (i := 177) (by decide +kernel)) rfl
theorem il_RX8_138 : Cond.methodLink RX8 138 yX8_e ∈ wU := tb7 (List.mem_of_getElem? (i := 178) (by decide +kernel)) rfl
theorem is_X8_e : Cond.selects RX8 yX8_e yX8_e ∈ wU := tp (q := (yX8_e, 25)) 40 (by decide +kernel)
theorem im_X8_e : Cond.instanceMethod yX8_e ∈ wU := tb7 (List.mem_of_getElem? (i := 180) (by decide +kernel)) rfl
theorem k_X8_e : Cond.code yX8_e cX8_e 3 (some .int) ∈ wU := tb7 (List.mem_of_getElem? (i := 181) (by decide +kernel)) rfl
theorem il_RX8_159 : Cond.methodLink RX8 159 yX8_ofWell ∈ wU := tb7 (List.mem_of_getElem? (i := 182) (by decide +kernel)) rfl
theorem is_X8_ofWell : Cond.selects RX8 yX8_ofWell yX8_ofWell ∈ wU := tp (q := (yX8_ofWell, 25)) 41 (by decide +kernel)
theorem im_X8_ofWell : Cond.instanceMethod yX8_ofWell ∈ wU := tb7 (List.mem_of_getElem? (i := 184) (by decide +kernel)) rfl
theorem k_X8_ofWell : Cond.code yX8_ofWell cX8_ofWell 2 (some .int) ∈ wU := tb7 (List.mem_of_getElem? (i := 185) (by decide +kernel)) rfl
theorem il_RX8_171 : Cond.methodLink RX8 171 yX8_printsOne ∈ wU := tb7 (List.mem_of_getElem? (i := 186) (by decide +kernel)) rfl
theorem is_X8_printsOne : Cond.selects RX8 yX8_printsOne yX8_printsOne ∈ wU := tp (q := (yX8_printsOne, 25)) 42 (by decide +kernel)
theorem im_X8_printsOne : Cond.instanceMethod yX8_printsOne ∈ wU := tb7 (List.mem_of_getElem? (i := 188) (by decide +kernel)) rfl
theorem k_X8_printsOne : Cond.code yX8_printsOne cX8_printsOne 2 (some .int) ∈ wU := tb7 (List.mem_of_getElem? (i := 189) (by decide +kernel)) rfl
theorem il_RX8_162 : Cond.methodLink RX8 162 yX8_less ∈ wU := tb7 (List.mem_of_getElem? (i := 190) (by decide +kernel)) rfl
theorem it_X8_less : Cond.static yX8_less ∈ wU := tb7 (List.mem_of_getElem? (i := 191) (by decide +kernel)) rfl
theorem k_X8_less : Cond.code yX8_less cX8_less 2 (some .int) ∈ wU := tb7 (List.mem_of_getElem? (i := 192) (by decide +kernel)) rfl
theorem il_RX8_165 : Cond.methodLink RX8 165 yX8_prints ∈ wU := tb7 (List.mem_of_getElem? (i := 193) (by decide +kernel)) rfl
theorem is_X8_prints : Cond.selects RX8 yX8_prints yX8_prints ∈ wU := tp (q := (yX8_prints, 25)) 43 (by decide +kernel)
theorem im_X8_prints : Cond.instanceMethod yX8_prints ∈ wU := tb7 (List.mem_of_getElem? (i := 195) (by decide +kernel)) rfl
theorem k_X8_prints : Cond.code yX8_prints cX8_prints 4 (some .int) ∈ wU := tb7 (List.mem_of_getElem? (i := 196) (by decide +kernel)) rfl
theorem il_RX8_153 : Cond.methodLink RX8 153 yX8_change ∈ wU := tb7 (List.mem_of_getElem? (i := 197) (by decide +kernel)) rfl
theorem it_X8_change : Cond.static yX8_change ∈ wU := tb7 (List.mem_of_getElem? (i := 198) (by decide +kernel)) rfl
theorem k_X8_change : Cond.code yX8_change cX8_change 2 (some .int) ∈ wU := tb7 (List.mem_of_getElem? (i := 199) (by decide +kernel)) rfl
theorem il_RL_199 : Cond.methodLink RL 199 yX8_changeMinutes ∈ wU := tb7 (List.mem_of_getElem? (i := 200) (by decide +kernel)) rfl
theorem im_X8_changeMinutes : Cond.instanceMethod yX8_changeMinutes ∈ wU := tb7 (List.mem_of_getElem? (i := 201) (by decide +kernel)) rfl
theorem is_X8_changeMinutes : Cond.selects RX8 yX8_changeMinutes yX8_changeMinutes ∈ wU := tb7 (List.mem_of_getElem? (i := 202) (by decide +kernel)) rfl
theorem k_X8_changeMinutes : Cond.code yX8_changeMinutes cX8_changeMinutes 3 (some .int) ∈ wU := tb7 (List.mem_of_getElem? (i := 203) (by decide +kernel)) rfl
theorem il_RL_203 : Cond.methodLink RL 203 yX8_pressColour ∈ wU := tb7 (List.mem_of_getElem? (i := 204) (by decide +kernel)) rfl
theorem im_X8_pressColour : Cond.instanceMethod yX8_pressColour ∈ wU := tb7 (List.mem_of_getElem? (i := 205) (by decide +kernel)) rfl
theorem is_X8_pressColour : Cond.selects RX8 yX8_pressColour yX8_pressColour ∈ wU := tb7 (List.mem_of_getElem? (i := 206) (by decide +kernel)) rfl
theorem k_X8_pressColour : Cond.code yX8_pressColour cX8_pressColour 1 (some .int) ∈ wU := tb7 (List.mem_of_getElem? (i := 207) (by decide +kernel)) rfl
theorem il_RL_207 : Cond.methodLink RL 207 yX8_fewestMinutes ∈ wU := tb7 (List.mem_of_getElem? (i := 208) (by decide +kernel)) rfl
theorem im_X8_fewestMinutes : Cond.instanceMethod yX8_fewestMinutes ∈ wU := tb7 (List.mem_of_getElem? (i := 209) (by decide +kernel)) rfl
theorem is_X8_fewestMinutes : Cond.selects RX8 yX8_fewestMinutes yX8_fewestMinutes ∈ wU := tb7 (List.mem_of_getElem? (i := 210) (by decide +kernel)) rfl
theorem k_X8_fewestMinutes : Cond.code yX8_fewestMinutes cX8_fewestMinutes 1 (some .int) ∈ wU := tb7 (List.mem_of_getElem? (i := 211) (by decide +kernel)) rfl
theorem il_RX8_189 : Cond.methodLink RX8 189 yX8_minutesOfBest ∈ wU := tb7 (List.mem_of_getElem? (i := 212) (by decide +kernel)) rfl
theorem is_X8_minutesOfBest : Cond.selects RX8 yX8_minutesOfBest yX8_minutesOfBest ∈ wU := tp (q := (yX8_minutesOfBest, 25)) 44 (by decide +kernel)
theorem im_X8_minutesOfBest : Cond.instanceMethod yX8_minutesOfBest ∈ wU := tb7 (List.mem_of_getElem? (i := 214) (by decide +kernel)) rfl
theorem k_X8_minutesOfBest : Cond.code yX8_minutesOfBest cX8_minutesOfBest 1 (some .int) ∈ wU := tb7 (List.mem_of_getElem? (i := 215) (by decide +kernel)) rfl
theorem il_RX8_182 : Cond.methodLink RX8 182 yX8_lay ∈ wU := tb7 (List.mem_of_getElem? (i := 216) (by decide +kernel)) rfl
theorem is_X8_lay : Cond.selects RX8 yX8_lay yX8_lay ∈ wU := tp (q := (yX8_lay, 25)) 45 (by decide +kernel)
theorem im_X8_lay : Cond.instanceMethod yX8_lay ∈ wU := tb7 (List.mem_of_getElem? (i := 218) (by decide +kernel)) rfl
theorem k_X8_lay : Cond.code yX8_lay cX8_lay 5 none ∈ wU := tb7 (List.mem_of_getElem? (i := 219) (by decide +kernel)) rfl
theorem il_RX8_177 : Cond.constant RX8 177 (1000000 : Int32) ∈ wU := tb7 (List.mem_of_getElem? (i := 220) (by decide +kernel)) rfl
theorem il_RX8_178 : Cond.methodLink RX8 178 yX8_with ∈ wU := tb7 (List.mem_of_getElem? (i := 221) (by decide +kernel)) rfl
theorem is_X8_with : Cond.selects RX8 yX8_with yX8_with ∈ wU := tp (q := (yX8_with, 25)) 46 (by decide +kernel)
theorem im_X8_with : Cond.instanceMethod yX8_with ∈ wU := tb7 (List.mem_of_getElem? (i := 223) (by decide +kernel)) rfl
theorem k_X8_with : Cond.code yX8_with cX8_with 4 (some .int) ∈ wU := tb7 (List.mem_of_getElem? (i := 224) (by decide +kernel)) rfl
theorem il_RX8_174 : Cond.methodLink RX8 174 yX8_changeTo ∈ wU := tb7 (List.mem_of_getElem? (i := 225) (by decide +kernel)) rfl
theorem is_X8_changeTo : Cond.selects RX8 yX8_changeTo yX8_changeTo ∈ wU := tp (q := (yX8_changeTo, 25)) 47 (by decide +kernel)
theorem im_X8_changeTo : Cond.instanceMethod yX8_changeTo ∈ wU := tb7 (List.mem_of_getElem? (i := 227) (by decide +kernel)) rfl
theorem k_X8_changeTo : Cond.code yX8_changeTo cX8_changeTo 3 (some .int) ∈ wU := tb7 (List.mem_of_getElem? (i := 228) (by decide +kernel)) rfl
theorem il_RX8_185 : Cond.methodLink RX8 185 yX8_open ∈ wU := tb7 (List.mem_of_getElem? (i := 229) (by decide +kernel)) rfl
theorem is_X8_open : Cond.selects RX8 yX8_open yX8_open ∈ wU := tp (q := (yX8_open, 25)) 48 (by decide +kernel)
theorem im_X8_open : Cond.instanceMethod yX8_open ∈ wU := tb7 (List.mem_of_getElem? (i := 231) (by decide +kernel)) rfl
theorem k_X8_open : Cond.code yX8_open cX8_open 3 (some .int) ∈ wU := tb7 (List.mem_of_getElem? (i := 232) (by decide +kernel)) rfl
theorem il_RL_211 : Cond.methodLink RL 211 yX8_minutesByOrders ∈ wU := tb7 (List.mem_of_getElem? (i := 233) (by decide +kernel)) rfl
theorem im_X8_minutesByOrders : Cond.instanceMethod yX8_minutesByOrders ∈ wU := tb7 (List.mem_of_getElem? (i := 234) (by decide +kernel)) rfl
theorem is_X8_minutesByOrders : Cond.selects RX8 yX8_minutesByOrders yX8_minutesByOrders ∈ wU := tb7 (List.mem_of_getElem? (i := 235) (by decide +kernel)) rfl
theorem k_X8_minutesByOrders : Cond.code yX8_minutesByOrders cX8_minutesByOrders 1 (some .int) ∈ wU := tb7 (List.mem_of_getElem? (i := 236) (by decide +kernel)) rfl
theorem il_RL_214 : Cond.methodLink RL 214 yX8_editionAt ∈ wU := tb7 (List.mem_of_getElem? (i := 237) (by decide +kernel)) rfl
theorem im_X8_editionAt : Cond.instanceMethod yX8_editionAt ∈ wU := tb7 (List.mem_of_getElem? (i := 238) (by decide +kernel)) rfl
theorem is_X8_editionAt : Cond.selects RX8 yX8_editionAt yX8_editionAt ∈ wU := tb7 (List.mem_of_getElem? (i := 239) (by decide +kernel)) rfl
theorem k_X8_editionAt : Cond.code yX8_editionAt cX8_editionAt 3 (some .int) ∈ wU := tb8 (List.mem_of_getElem? (i := 0) (by decide +kernel)) rfl
theorem il_RX8_192 : Cond.methodLink RX8 192 yX8_laysOrder ∈ wU := tb8 (List.mem_of_getElem? (i := 1) (by decide +kernel)) rfl
theorem is_X8_laysOrder : Cond.selects RX8 yX8_laysOrder yX8_laysOrder ∈ wU := tp (q := (yX8_laysOrder, 25)) 49 (by decide +kernel)
theorem im_X8_laysOrder : Cond.instanceMethod yX8_laysOrder ∈ wU := tb8 (List.mem_of_getElem? (i := 3) (by decide +kernel)) rfl
theorem k_X8_laysOrder : Cond.code yX8_laysOrder cX8_laysOrder 5 (some .int) ∈ wU := tb8 (List.mem_of_getElem? (i := 4) (by decide +kernel)) rfl
theorem il_RL_217 : Cond.methodLink RL 217 yX8_shareOf ∈ wU := tb8 (List.mem_of_getElem? (i := 5) (by decide +kernel)) rfl
theorem im_X8_shareOf : Cond.instanceMethod yX8_shareOf ∈ wU := tb8 (List.mem_of_getElem? (i := 6) (by decide +kernel)) rfl
theorem is_X8_shareOf : Cond.selects RX8 yX8_shareOf yX8_shareOf ∈ wU := tb8 (List.mem_of_getElem? (i := 7) (by decide +kernel)) rfl
theorem k_X8_shareOf : Cond.code yX8_shareOf cX8_shareOf 2 (some .int) ∈ wU := tb8 (List.mem_of_getElem? (i := 8) (by decide +kernel)) rfl
theorem il_RX8_201 : Cond.methodLink RX8 201 yX8_sharing ∈ wU := tb8 (List.mem_of_getElem? (i := 9) (by decide +kernel)) rfl
theorem is_X8_sharing : Cond.selects RX8 yX8_sharing yX8_sharing ∈ wU := tp (q := (yX8_sharing, 25)) 50 (by decide +kernel)
theorem im_X8_sharing : Cond.instanceMethod yX8_sharing ∈ wU := tb8 (List.mem_of_getElem? (i := 11) (by decide +kernel)) rfl
theorem k_X8_sharing : Cond.code yX8_sharing cX8_sharing 2 (some .int) ∈ wU := tb8 (List.mem_of_getElem? (i := 12) (by decide +kernel)) rfl
theorem il_RX8_198 : Cond.methodLink RX8 198 yX8_share ∈ wU := tb8 (List.mem_of_getElem? (i := 13) (by decide +kernel)) rfl
theorem is_X8_share : Cond.selects RX8 yX8_share yX8_share ∈ wU := tp (q := (yX8_share, 25)) 51 (by decide +kernel)
theorem im_X8_share : Cond.instanceMethod yX8_share ∈ wU := tb8 (List.mem_of_getElem? (i := 15) (by decide +kernel)) rfl
theorem k_X8_share : Cond.code yX8_share cX8_share 2 none ∈ wU := tb8 (List.mem_of_getElem? (i := 16) (by decide +kernel)) rfl
theorem il_RX8_195 : Cond.methodLink RX8 195 yX8_nextShare ∈ wU := tb8 (List.mem_of_getElem? (i := 17) (by decide +kernel)) rfl
theorem is_X8_nextShare : Cond.selects RX8 yX8_nextShare yX8_nextShare ∈ wU := tp (q := (yX8_nextShare, 25)) 52 (by decide +kernel)
theorem im_X8_nextShare : Cond.instanceMethod yX8_nextShare ∈ wU := tb8 (List.mem_of_getElem? (i := 19) (by decide +kernel)) rfl
theorem k_X8_nextShare : Cond.code yX8_nextShare cX8_nextShare 3 (some .int) ∈ wU := tb8 (List.mem_of_getElem? (i := 20) (by decide +kernel)) rfl
theorem il_RL_220 : Cond.methodLink RL 220 yX8_shareByLevel ∈ wU := tb8 (List.mem_of_getElem? (i := 21) (by decide +kernel)) rfl
theorem im_X8_shareByLevel : Cond.instanceMethod yX8_shareByLevel ∈ wU := tb8 (List.mem_of_getElem? (i := 22) (by decide +kernel)) rfl
theorem is_X8_shareByLevel : Cond.selects RX8 yX8_shareByLevel yX8_shareByLevel ∈ wU := tb8 (List.mem_of_getElem? (i := 23) (by decide +kernel)) rfl
theorem k_X8_shareByLevel : Cond.code yX8_shareByLevel cX8_shareByLevel 2 (some .int) ∈ wU := tb8 (List.mem_of_getElem? (i := 24) (by decide +kernel)) rfl
theorem il_RL_180 : Cond.methodLink RL 180 yX8_printAll ∈ wU := tb8 (List.mem_of_getElem? (i := 25) (by decide +kernel)) rfl
theorem im_X8_printAll : Cond.instanceMethod yX8_printAll ∈ wU := tb8 (List.mem_of_getElem? (i := 26) (by decide +kernel)) rfl
theorem is_X8_printAll : Cond.selects RX8 yX8_printAll yX8_printAll ∈ wU := tb8 (List.mem_of_getElem? (i := 27) (by decide +kernel)) rfl
theorem k_X8_printAll : Cond.code yX8_printAll cX8_printAll 1 (some .int) ∈ wU := tb8 (List.mem_of_getElem? (i := 28) (by decide +kernel)) rfl
theorem il_RX8_204 : Cond.methodLink RX8 204 yX8_printsAll ∈ wU := tb8 (List.mem_of_getElem? (i := 29) (by decide +kernel)) rfl
theorem is_X8_printsAll : Cond.selects RX8 yX8_printsAll yX8_printsAll ∈ wU := tp (q := (yX8_printsAll, 25)) 53 (by decide +kernel)
theorem im_X8_printsAll : Cond.instanceMethod yX8_printsAll ∈ wU := tb8 (List.mem_of_getElem? (i := 31) (by decide +kernel)) rfl
theorem k_X8_printsAll : Cond.code yX8_printsAll cX8_printsAll 5 (some .int) ∈ wU := tb8 (List.mem_of_getElem? (i := 32) (by decide +kernel)) rfl
theorem il_RL_184 : Cond.methodLink RL 184 yX8_editionCount ∈ wU := tb8 (List.mem_of_getElem? (i := 33) (by decide +kernel)) rfl
theorem im_X8_editionCount : Cond.instanceMethod yX8_editionCount ∈ wU := tb8 (List.mem_of_getElem? (i := 34) (by decide +kernel)) rfl
theorem is_X8_editionCount : Cond.selects RX8 yX8_editionCount yX8_editionCount ∈ wU := tb8 (List.mem_of_getElem? (i := 35) (by decide +kernel)) rfl
theorem k_X8_editionCount : Cond.code yX8_editionCount cX8_editionCount 1 (some .int) ∈ wU := tb8 (List.mem_of_getElem? (i := 36) (by decide +kernel)) rfl
theorem il_RL_187 : Cond.methodLink RL 187 yX8_colourOf ∈ wU := tb8 (List.mem_of_getElem? (i := 37) (by decide +kernel)) rfl
theorem im_X8_colourOf : Cond.instanceMethod yX8_colourOf ∈ wU := tb8 (List.mem_of_getElem? (i := 38) (by decide +kernel)) rfl
theorem is_X8_colourOf : Cond.selects RX8 yX8_colourOf yX8_colourOf ∈ wU := tb8 (List.mem_of_getElem? (i := 39) (by decide +kernel)) rfl
theorem k_X8_colourOf : Cond.code yX8_colourOf cX8_colourOf 2 (some .int) ∈ wU := tb8 (List.mem_of_getElem? (i := 40) (by decide +kernel)) rfl
theorem il_RX8_207 : Cond.methodLink RX8 207 yX8_of ∈ wU := tb8 (List.mem_of_getElem? (i := 41) (by decide +kernel)) rfl
theorem is_X8_of : Cond.selects RX8 yX8_of yX8_of ∈ wU := tp (q := (yX8_of, 25)) 54 (by decide +kernel)
theorem im_X8_of : Cond.instanceMethod yX8_of ∈ wU := tb8 (List.mem_of_getElem? (i := 43) (by decide +kernel)) rfl
theorem k_X8_of : Cond.code yX8_of cX8_of 3 (some .int) ∈ wU := tb8 (List.mem_of_getElem? (i := 44) (by decide +kernel)) rfl
theorem il_RL_190 : Cond.methodLink RL 190 yX8_runOf ∈ wU := tb8 (List.mem_of_getElem? (i := 45) (by decide +kernel)) rfl
theorem im_X8_runOf : Cond.instanceMethod yX8_runOf ∈ wU := tb8 (List.mem_of_getElem? (i := 46) (by decide +kernel)) rfl
theorem is_X8_runOf : Cond.selects RX8 yX8_runOf yX8_runOf ∈ wU := tb8 (List.mem_of_getElem? (i := 47) (by decide +kernel)) rfl
theorem k_X8_runOf : Cond.code yX8_runOf cX8_runOf 2 (some .int) ∈ wU := tb8 (List.mem_of_getElem? (i := 48) (by decide +kernel)) rfl
theorem il_RL_193 : Cond.methodLink RL 193 yX8_printedOf ∈ wU := tb8 (List.mem_of_getElem? (i := 49) (by decide +kernel)) rfl
theorem im_X8_printedOf : Cond.instanceMethod yX8_printedOf ∈ wU := tb8 (List.mem_of_getElem? (i := 50) (by decide +kernel)) rfl
theorem is_X8_printedOf : Cond.selects RX8 yX8_printedOf yX8_printedOf ∈ wU := tb8 (List.mem_of_getElem? (i := 51) (by decide +kernel)) rfl
theorem k_X8_printedOf : Cond.code yX8_printedOf cX8_printedOf 2 (some .int) ∈ wU := tb8 (List.mem_of_getElem? (i := 52) (by decide +kernel)) rfl
theorem il_RL_196 : Cond.methodLink RL 196 yX8_isComplete ∈ wU := tb8 (List.mem_of_getElem? (i := 53) (by decide +kernel)) rfl
theorem im_X8_isComplete : Cond.instanceMethod yX8_isComplete ∈ wU := tb8 (List.mem_of_getElem? (i := 54) (by decide +kernel)) rfl
theorem is_X8_isComplete : Cond.selects RX8 yX8_isComplete yX8_isComplete ∈ wU := tb8 (List.mem_of_getElem? (i := 55) (by decide +kernel)) rfl
theorem k_X8_isComplete : Cond.code yX8_isComplete cX8_isComplete 2 (some .boolean) ∈ wU := tb8 (List.mem_of_getElem? (i := 56) (by decide +kernel)) rfl
theorem il_RL_223 : Cond.methodLink RL 223 yX8_editionByMissing ∈ wU := tb8 (List.mem_of_getElem? (i := 57) (by decide +kernel)) rfl
theorem im_X8_editionByMissing : Cond.instanceMethod yX8_editionByMissing ∈ wU := tb8 (List.mem_of_getElem? (i := 58) (by decide +kernel)) rfl
theorem is_X8_editionByMissing : Cond.selects RX8 yX8_editionByMissing yX8_editionByMissing ∈ wU := tb8 (List.mem_of_getElem? (i := 59) (by decide +kernel)) rfl
theorem k_X8_editionByMissing : Cond.code yX8_editionByMissing cX8_editionByMissing 5 (some .int) ∈ wU := tb8 (List.mem_of_getElem? (i := 60) (by decide +kernel)) rfl
theorem il_RL_226 : Cond.methodLink RL 226 yX8_addProof ∈ wU := tb8 (List.mem_of_getElem? (i := 61) (by decide +kernel)) rfl
theorem im_X8_addProof : Cond.instanceMethod yX8_addProof ∈ wU := tb8 (List.mem_of_getElem? (i := 62) (by decide +kernel)) rfl
theorem is_X8_addProof : Cond.selects RX8 yX8_addProof yX8_addProof ∈ wU := tb8 (List.mem_of_getElem? (i := 63) (by decide +kernel)) rfl
theorem k_X8_addProof : Cond.code yX8_addProof cX8_addProof 3 (some .int) ∈ wU := tb8 (List.mem_of_getElem? (i := 64) (by decide +kernel)) rfl
theorem il_RX8_210 : Cond.methodLink RX8 210 yX8_cannotProve ∈ wU := tb8 (List.mem_of_getElem? (i := 65) (by decide +kernel)) rfl
theorem is_X8_cannotProve : Cond.selects RX8 yX8_cannotProve yX8_cannotProve ∈ wU := tp (q := (yX8_cannotProve, 25)) 55 (by decide +kernel)
theorem im_X8_cannotProve : Cond.instanceMethod yX8_cannotProve ∈ wU := tb8 (List.mem_of_getElem? (i := 67) (by decide +kernel)) rfl
theorem k_X8_cannotProve : Cond.code yX8_cannotProve cX8_cannotProve 2 (some .int) ∈ wU := tb8 (List.mem_of_getElem? (i := 68) (by decide +kernel)) rfl
theorem il_RX8_213 : Cond.methodLink RX8 213 yX8_proves ∈ wU := tb8 (List.mem_of_getElem? (i := 69) (by decide +kernel)) rfl
theorem is_X8_proves : Cond.selects RX8 yX8_proves yX8_proves ∈ wU := tp (q := (yX8_proves, 25)) 56 (by decide +kernel)
theorem im_X8_proves : Cond.instanceMethod yX8_proves ∈ wU := tb8 (List.mem_of_getElem? (i := 71) (by decide +kernel)) rfl
theorem k_X8_proves : Cond.code yX8_proves cX8_proves 2 (some .int) ∈ wU := tb8 (List.mem_of_getElem? (i := 72) (by decide +kernel)) rfl
theorem il_RL_229 : Cond.methodLink RL 229 yX8_dropProof ∈ wU := tb8 (List.mem_of_getElem? (i := 73) (by decide +kernel)) rfl
theorem im_X8_dropProof : Cond.instanceMethod yX8_dropProof ∈ wU := tb8 (List.mem_of_getElem? (i := 74) (by decide +kernel)) rfl
theorem is_X8_dropProof : Cond.selects RX8 yX8_dropProof yX8_dropProof ∈ wU := tb8 (List.mem_of_getElem? (i := 75) (by decide +kernel)) rfl
theorem k_X8_dropProof : Cond.code yX8_dropProof cX8_dropProof 2 (some .int) ∈ wU := tb8 (List.mem_of_getElem? (i := 76) (by decide +kernel)) rfl
theorem il_RX8_216 : Cond.methodLink RX8 216 yX8_isProof ∈ wU := tb8 (List.mem_of_getElem? (i := 77) (by decide +kernel)) rfl
theorem is_X8_isProof : Cond.selects RX8 yX8_isProof yX8_isProof ∈ wU := tp (q := (yX8_isProof, 25)) 57 (by decide +kernel)
theorem im_X8_isProof : Cond.instanceMethod yX8_isProof ∈ wU := tb8 (List.mem_of_getElem? (i := 79) (by decide +kernel)) rfl
theorem k_X8_isProof : Cond.code yX8_isProof cX8_isProof 2 (some .boolean) ∈ wU := tb8 (List.mem_of_getElem? (i := 80) (by decide +kernel)) rfl
theorem il_RX8_219 : Cond.methodLink RX8 219 yX8_drops ∈ wU := tb8 (List.mem_of_getElem? (i := 81) (by decide +kernel)) rfl
theorem is_X8_drops : Cond.selects RX8 yX8_drops yX8_drops ∈ wU := tp (q := (yX8_drops, 25)) 58 (by decide +kernel)
theorem im_X8_drops : Cond.instanceMethod yX8_drops ∈ wU := tb8 (List.mem_of_getElem? (i := 83) (by decide +kernel)) rfl
theorem k_X8_drops : Cond.code yX8_drops cX8_drops 3 (some .int) ∈ wU := tb8 (List.mem_of_getElem? (i := 84) (by decide +kernel)) rfl
theorem il_RL_233 : Cond.methodLink RL 233 yX8_proofCount ∈ wU := tb8 (List.mem_of_getElem? (i := 85) (by decide +kernel)) rfl
theorem im_X8_proofCount : Cond.instanceMethod yX8_proofCount ∈ wU := tb8 (List.mem_of_getElem? (i := 86) (by decide +kernel)) rfl
theorem is_X8_proofCount : Cond.selects RX8 yX8_proofCount yX8_proofCount ∈ wU := tb8 (List.mem_of_getElem? (i := 87) (by decide +kernel)) rfl
theorem k_X8_proofCount : Cond.code yX8_proofCount cX8_proofCount 1 (some .int) ∈ wU := tb8 (List.mem_of_getElem? (i := 88) (by decide +kernel)) rfl
theorem il_RL_236 : Cond.methodLink RL 236 yX8_marksOf ∈ wU := tb8 (List.mem_of_getElem? (i := 89) (by decide +kernel)) rfl
theorem im_X8_marksOf : Cond.instanceMethod yX8_marksOf ∈ wU := tb8 (List.mem_of_getElem? (i := 90) (by decide +kernel)) rfl
theorem is_X8_marksOf : Cond.selects RX8 yX8_marksOf yX8_marksOf ∈ wU := tb8 (List.mem_of_getElem? (i := 91) (by decide +kernel)) rfl
theorem k_X8_marksOf : Cond.code yX8_marksOf cX8_marksOf 2 (some .int) ∈ wU := tb8 (List.mem_of_getElem? (i := 92) (by decide +kernel)) rfl
theorem il_RX8_222 : Cond.methodLink RX8 222 yX8_p ∈ wU := tb8 (List.mem_of_getElem? (i := 93) (by decide +kernel)) rfl
theorem is_X8_p : Cond.selects RX8 yX8_p yX8_p ∈ wU := tp (q := (yX8_p, 25)) 59 (by decide +kernel)
theorem im_X8_p : Cond.instanceMethod yX8_p ∈ wU := tb8 (List.mem_of_getElem? (i := 95) (by decide +kernel)) rfl
theorem k_X8_p : Cond.code yX8_p cX8_p 3 (some .int) ∈ wU := tb8 (List.mem_of_getElem? (i := 96) (by decide +kernel)) rfl
theorem il_RL_239 : Cond.methodLink RL 239 yX8_hourOf ∈ wU := tb8 (List.mem_of_getElem? (i := 97) (by decide +kernel)) rfl
theorem im_X8_hourOf : Cond.instanceMethod yX8_hourOf ∈ wU := tb8 (List.mem_of_getElem? (i := 98) (by decide +kernel)) rfl
theorem is_X8_hourOf : Cond.selects RX8 yX8_hourOf yX8_hourOf ∈ wU := tb8 (List.mem_of_getElem? (i := 99) (by decide +kernel)) rfl
theorem k_X8_hourOf : Cond.code yX8_hourOf cX8_hourOf 2 (some .int) ∈ wU := tb8 (List.mem_of_getElem? (i := 100) (by decide +kernel)) rfl
theorem il_RL_243 : Cond.methodLink RL 243 yX8_longestRise ∈ wU := tb8 (List.mem_of_getElem? (i := 101) (by decide +kernel)) rfl
theorem im_X8_longestRise : Cond.instanceMethod yX8_longestRise ∈ wU := tb8 (List.mem_of_getElem? (i := 102) (by decide +kernel)) rfl
theorem is_X8_longestRise : Cond.selects RX8 yX8_longestRise yX8_longestRise ∈ wU := tb8 (List.mem_of_getElem? (i := 103) (by decide +kernel)) rfl
theorem k_X8_longestRise : Cond.code yX8_longestRise cX8_longestRise 1 (some .int) ∈ wU := tb8 (List.mem_of_getElem? (i := 104) (by decide +kernel)) rfl
theorem il_RX8_225 : Cond.methodLink RX8 225 yX8_rises ∈ wU := tb8 (List.mem_of_getElem? (i := 105) (by decide +kernel)) rfl
theorem is_X8_rises : Cond.selects RX8 yX8_rises yX8_rises ∈ wU := tp (q := (yX8_rises, 25)) 60 (by decide +kernel)
theorem im_X8_rises : Cond.instanceMethod yX8_rises ∈ wU := tb8 (List.mem_of_getElem? (i := 107) (by decide +kernel)) rfl
theorem k_X8_rises : Cond.code yX8_rises cX8_rises 4 (some .int) ∈ wU := tb8 (List.mem_of_getElem? (i := 108) (by decide +kernel)) rfl
theorem il_RL_247 : Cond.methodLink RL 247 yX8_riseByEnds ∈ wU := tb8 (List.mem_of_getElem? (i := 109) (by decide +kernel)) rfl
theorem im_X8_riseByEnds : Cond.instanceMethod yX8_riseByEnds ∈ wU := tb8 (List.mem_of_getElem? (i := 110) (by decide +kernel)) rfl
theorem is_X8_riseByEnds : Cond.selects RX8 yX8_riseByEnds yX8_riseByEnds ∈ wU := tb8 (List.mem_of_getElem? (i := 111) (by decide +kernel)) rfl
theorem k_X8_riseByEnds : Cond.code yX8_riseByEnds cX8_riseByEnds 1 (some .int) ∈ wU := tb8 (List.mem_of_getElem? (i := 112) (by decide +kernel)) rfl
theorem il_RL_251 : Cond.methodLink RL 251 yX8_riseCount ∈ wU := tb8 (List.mem_of_getElem? (i := 113) (by decide +kernel)) rfl
theorem im_X8_riseCount : Cond.instanceMethod yX8_riseCount ∈ wU := tb8 (List.mem_of_getElem? (i := 114) (by decide +kernel)) rfl
theorem is_X8_riseCount : Cond.selects RX8 yX8_riseCount yX8_riseCount ∈ wU := tb8 (List.mem_of_getElem? (i := 115) (by decide +kernel)) rfl
theorem k_X8_riseCount : Cond.code yX8_riseCount cX8_riseCount 4 (some .int) ∈ wU := tb8 (List.mem_of_getElem? (i := 116) (by decide +kernel)) rfl
theorem il_RL_255 : Cond.methodLink RL 255 yX8_minutes ∈ wU := tb8 (List.mem_of_getElem? (i := 117) (by decide +kernel)) rfl
theorem im_X8_minutes : Cond.instanceMethod yX8_minutes ∈ wU := tb8 (List.mem_of_getElem? (i := 118) (by decide +kernel)) rfl
theorem is_X8_minutes : Cond.selects RX8 yX8_minutes yX8_minutes ∈ wU := tb8 (List.mem_of_getElem? (i := 119) (by decide +kernel)) rfl
theorem k_X8_minutes : Cond.code yX8_minutes cX8_minutes 1 (some .int) ∈ wU := tb8 (List.mem_of_getElem? (i := 120) (by decide +kernel)) rfl
theorem il_RL_259 : Cond.methodLink RL 259 yX8_poured ∈ wU := tb8 (List.mem_of_getElem? (i := 121) (by decide +kernel)) rfl
theorem im_X8_poured : Cond.instanceMethod yX8_poured ∈ wU := tb8 (List.mem_of_getElem? (i := 122) (by decide +kernel)) rfl
theorem is_X8_poured : Cond.selects RX8 yX8_poured yX8_poured ∈ wU := tb8 (List.mem_of_getElem? (i := 123) (by decide +kernel)) rfl
theorem k_X8_poured : Cond.code yX8_poured cX8_poured 1 (some .int) ∈ wU := tb8 (List.mem_of_getElem? (i := 124) (by decide +kernel)) rfl
theorem il_RL_263 : Cond.methodLink RL 263 yX8_used ∈ wU := tb8 (List.mem_of_getElem? (i := 125) (by decide +kernel)) rfl
theorem im_X8_used : Cond.instanceMethod yX8_used ∈ wU := tb8 (List.mem_of_getElem? (i := 126) (by decide +kernel)) rfl
theorem is_X8_used : Cond.selects RX8 yX8_used yX8_used ∈ wU := tb8 (List.mem_of_getElem? (i := 127) (by decide +kernel)) rfl
theorem k_X8_used : Cond.code yX8_used cX8_used 1 (some .int) ∈ wU := tb8 (List.mem_of_getElem? (i := 128) (by decide +kernel)) rfl
theorem il_RL_268 : Cond.methodLink RL 268 yX8_faded ∈ wU := tb8 (List.mem_of_getElem? (i := 129) (by decide +kernel)) rfl
theorem im_X8_faded : Cond.instanceMethod yX8_faded ∈ wU := tb8 (List.mem_of_getElem? (i := 130) (by decide +kernel)) rfl
theorem is_X8_faded : Cond.selects RX8 yX8_faded yX8_faded ∈ wU := tb8 (List.mem_of_getElem? (i := 131) (by decide +kernel)) rfl
theorem k_X8_faded : Cond.code yX8_faded cX8_faded 1 (some .long) ∈ wU := tb8 (List.mem_of_getElem? (i := 132) (by decide +kernel)) rfl
theorem il_RL_272 : Cond.methodLink RL 272 yX8_inkInWells ∈ wU := tb8 (List.mem_of_getElem? (i := 133) (by decide +kernel)) rfl
theorem im_X8_inkInWells : Cond.instanceMethod yX8_inkInWells ∈ wU := tb8 (List.mem_of_getElem? (i := 134) (by decide +kernel)) rfl
theorem is_X8_inkInWells : Cond.selects RX8 yX8_inkInWells yX8_inkInWells ∈ wU := tb8 (List.mem_of_getElem? (i := 135) (by decide +kernel)) rfl
theorem k_X8_inkInWells : Cond.code yX8_inkInWells cX8_inkInWells 3 (some .int) ∈ wU := tb8 (List.mem_of_getElem? (i := 136) (by decide +kernel)) rfl
theorem il_RL_276 : Cond.methodLink RL 276 yX8_meanRun ∈ wU := tb8 (List.mem_of_getElem? (i := 137) (by decide +kernel)) rfl
theorem im_X8_meanRun : Cond.instanceMethod yX8_meanRun ∈ wU := tb8 (List.mem_of_getElem? (i := 138) (by decide +kernel)) rfl
theorem is_X8_meanRun : Cond.selects RX8 yX8_meanRun yX8_meanRun ∈ wU := tb8 (List.mem_of_getElem? (i := 139) (by decide +kernel)) rfl
theorem k_X8_meanRun : Cond.code yX8_meanRun cX8_meanRun 3 (some .double) ∈ wU := tb8 (List.mem_of_getElem? (i := 140) (by decide +kernel)) rfl
theorem il_RL_279 : Cond.methodLink RL 279 yX8_fadedShare ∈ wU := tb8 (List.mem_of_getElem? (i := 141) (by decide +kernel)) rfl
theorem im_X8_fadedShare : Cond.instanceMethod yX8_fadedShare ∈ wU := tb8 (List.mem_of_getElem? (i := 142) (by decide +kernel)) rfl
theorem is_X8_fadedShare : Cond.selects RX8 yX8_fadedShare yX8_fadedShare ∈ wU := tb8 (List.mem_of_getElem? (i := 143) (by decide +kernel)) rfl
theorem k_X8_fadedShare : Cond.code yX8_fadedShare cX8_fadedShare 1 (some .float) ∈ wU := tb8 (List.mem_of_getElem? (i := 144) (by decide +kernel)) rfl
theorem il_RL_294 : Cond.methodLink RL 294 yX8_isConsistent ∈ wU := tb8 (List.mem_of_getElem? (i := 145) (by decide +kernel)) rfl
theorem im_X8_isConsistent : Cond.instanceMethod yX8_isConsistent ∈ wU := tb8 (List.mem_of_getElem? (i := 146) (by decide +kernel)) rfl
theorem is_X8_isConsistent : Cond.selects RX8 yX8_isConsistent yX8_isConsistent ∈ wU := tb8 (List.mem_of_getElem? (i := 147) (by decide +kernel)) rfl
theorem k_X8_isConsistent : Cond.code yX8_isConsistent cX8_isConsistent 1 (some .boolean) ∈ wU := tb8 (List.mem_of_getElem? (i := 148) (by decide +kernel)) rfl
theorem il_RL_282 : Cond.methodLink RL 282 yX8_writeEdition ∈ wU := tb8 (List.mem_of_getElem? (i := 149) (by decide +kernel)) rfl
theorem im_X8_writeEdition : Cond.instanceMethod yX8_writeEdition ∈ wU := tb8 (List.mem_of_getElem? (i := 150) (by decide +kernel)) rfl
theorem is_X8_writeEdition : Cond.selects RX8 yX8_writeEdition yX8_writeEdition ∈ wU := tb8 (List.mem_of_getElem? (i := 151) (by decide +kernel)) rfl
theorem k_X8_writeEdition : Cond.code yX8_writeEdition cX8_writeEdition 2 (some .int) ∈ wU := tb8 (List.mem_of_getElem? (i := 152) (by decide +kernel)) rfl
theorem il_RX8_232 : Cond.methodLink RX8 232 yX8_writeNumber ∈ wU := tb8 (List.mem_of_getElem? (i := 153) (by decide +kernel)) rfl
theorem is_X8_writeNumber : Cond.selects RX8 yX8_writeNumber yX8_writeNumber ∈ wU := tp (q := (yX8_writeNumber, 25)) 61 (by decide +kernel)
theorem im_X8_writeNumber : Cond.instanceMethod yX8_writeNumber ∈ wU := tb8 (List.mem_of_getElem? (i := 155) (by decide +kernel)) rfl
theorem k_X8_writeNumber : Cond.code yX8_writeNumber cX8_writeNumber 3 none ∈ wU := tb8 (List.mem_of_getElem? (i := 156) (by decide +kernel)) rfl
theorem il_RX8_228 : Cond.methodLink RX8 228 yX8_write ∈ wU := tb8 (List.mem_of_getElem? (i := 157) (by decide +kernel)) rfl
theorem is_X8_write : Cond.selects RX8 yX8_write yX8_write ∈ wU := tp (q := (yX8_write, 25)) 62 (by decide +kernel)
theorem im_X8_write : Cond.instanceMethod yX8_write ∈ wU := tb8 (List.mem_of_getElem? (i := 159) (by decide +kernel)) rfl
theorem k_X8_write : Cond.code yX8_write cX8_write 2 none ∈ wU := tb8 (List.mem_of_getElem? (i := 160) (by decide +kernel)) rfl
theorem il_RL_286 : Cond.methodLink RL 286 yX8_writeWells ∈ wU := tb8 (List.mem_of_getElem? (i := 161) (by decide +kernel)) rfl
theorem im_X8_writeWells : Cond.instanceMethod yX8_writeWells ∈ wU := tb8 (List.mem_of_getElem? (i := 162) (by decide +kernel)) rfl
theorem is_X8_writeWells : Cond.selects RX8 yX8_writeWells yX8_writeWells ∈ wU := tb8 (List.mem_of_getElem? (i := 163) (by decide +kernel)) rfl
theorem k_X8_writeWells : Cond.code yX8_writeWells cX8_writeWells 2 (some .int) ∈ wU := tb8 (List.mem_of_getElem? (i := 164) (by decide +kernel)) rfl
theorem il_RL_289 : Cond.methodLink RL 289 yX8_lineAt ∈ wU := tb8 (List.mem_of_getElem? (i := 165) (by decide +kernel)) rfl
theorem im_X8_lineAt : Cond.instanceMethod yX8_lineAt ∈ wU := tb8 (List.mem_of_getElem? (i := 166) (by decide +kernel)) rfl
theorem is_X8_lineAt : Cond.selects RX8 yX8_lineAt yX8_lineAt ∈ wU := tb8 (List.mem_of_getElem? (i := 167) (by decide +kernel)) rfl
theorem k_X8_lineAt : Cond.code yX8_lineAt cX8_lineAt 2 (some .char) ∈ wU := tb8 (List.mem_of_getElem? (i := 168) (by decide +kernel)) rfl
theorem il_RL_298 : Cond.methodLink RL 298 yX8_type ∈ wU := tb8 (List.mem_of_getElem? (i := 169) (by decide +kernel)) rfl
theorem im_X8_type : Cond.instanceMethod yX8_type ∈ wU := tb8 (List.mem_of_getElem? (i := 170) (by decide +kernel)) rfl
theorem is_X8_type : Cond.selects RX8 yX8_type yX8_type ∈ wU := tb8 (List.mem_of_getElem? (i := 171) (by decide +kernel)) rfl
theorem k_X8_type : Cond.code yX8_type cX8_type 2 (some .int) ∈ wU := tb8 (List.mem_of_getElem? (i := 172) (by decide +kernel)) rfl
theorem il_RL_302 : Cond.methodLink RL 302 yX8_execute ∈ wU := tb8 (List.mem_of_getElem? (i := 173) (by decide +kernel)) rfl
theorem im_X8_execute : Cond.instanceMethod yX8_execute ∈ wU := tb8 (List.mem_of_getElem? (i := 174) (by decide +kernel)) rfl
theorem is_X8_execute : Cond.selects RX8 yX8_execute yX8_execute ∈ wU := tb8 (List.mem_of_getElem? (i := 175) (by decide +kernel)) rfl
theorem k_X8_execute : Cond.code yX8_execute cX8_execute 3 (some .int) ∈ wU := tb8 (List.mem_of_getElem? (i := 176) (by decide +kernel)) rfl
theorem il_RX8_257 : Cond.methodLink RX8 257 yX8_parse ∈ wU := tb8 (List.mem_of_getElem? (i := 177) (by decide +kernel)) rfl
theorem is_X8_parse : Cond.selects RX8 yX8_parse yX8_parse ∈ wU := tp (q := (yX8_parse, 25)) 63 (by decide +kernel)
theorem im_X8_parse : Cond.instanceMethod yX8_parse ∈ wU := tb8 (List.mem_of_getElem? (i := 179) (by decide +kernel)) rfl
theorem k_X8_parse : Cond.code yX8_parse cX8_parse 1 none ∈ wU := tb8 (List.mem_of_getElem? (i := 180) (by decide +kernel)) rfl
theorem il_RX8_254 : Cond.methodLink RX8 254 yX8_command ∈ wU := tb8 (List.mem_of_getElem? (i := 181) (by decide +kernel)) rfl
theorem is_X8_command : Cond.selects RX8 yX8_command yX8_command ∈ wU := tp (q := (yX8_command, 25)) 64 (by decide +kernel)
theorem im_X8_command : Cond.instanceMethod yX8_command ∈ wU := tb8 (List.mem_of_getElem? (i := 183) (by decide +kernel)) rfl
theorem k_X8_command : Cond.code yX8_command cX8_command 2 none ∈ wU := tb8 (List.mem_of_getElem? (i := 184) (by decide +kernel)) rfl
theorem il_RX8_245 : Cond.methodLink RX8 245 yX8_word ∈ wU := tb8 (List.mem_of_getElem? (i := 185) (by decide +kernel)) rfl
theorem is_X8_word : Cond.selects RX8 yX8_word yX8_word ∈ wU := tp (q := (yX8_word, 25)) 65 (by decide +kernel)
theorem im_X8_word : Cond.instanceMethod yX8_word ∈ wU := tb8 (List.mem_of_getElem? (i := 187) (by decide +kernel)) rfl
theorem k_X8_word : Cond.code yX8_word cX8_word 4 (some .int) ∈ wU := tb8 (List.mem_of_getElem? (i := 188) (by decide +kernel)) rfl
theorem il_RX8_242 : Cond.methodLink RX8 242 yX8_spelled ∈ wU := tb8 (List.mem_of_getElem? (i := 189) (by decide +kernel)) rfl
theorem it_X8_spelled : Cond.static yX8_spelled ∈ wU := tb8 (List.mem_of_getElem? (i := 190) (by decide +kernel)) rfl
theorem k_X8_spelled : Cond.code yX8_spelled cX8_spelled 2 (some .int) ∈ wU := tb8 (List.mem_of_getElem? (i := 191) (by decide +kernel)) rfl
theorem il_RX8_238 : Cond.methodLink RX8 238 yX8_pick ∈ wU := tb8 (List.mem_of_getElem? (i := 192) (by decide +kernel)) rfl
theorem it_X8_pick : Cond.static yX8_pick ∈ wU := tb8 (List.mem_of_getElem? (i := 193) (by decide +kernel)) rfl
theorem k_X8_pick : Cond.code yX8_pick cX8_pick 8 (some .int) ∈ wU := tb8 (List.mem_of_getElem? (i := 194) (by decide +kernel)) rfl
theorem il_RX8_248 : Cond.methodLink RX8 248 yX8_firstDigits ∈ wU := tb8 (List.mem_of_getElem? (i := 195) (by decide +kernel)) rfl
theorem it_X8_firstDigits : Cond.static yX8_firstDigits ∈ wU := tb8 (List.mem_of_getElem? (i := 196) (by decide +kernel)) rfl
theorem k_X8_firstDigits : Cond.code yX8_firstDigits cX8_firstDigits 1 (some .int) ∈ wU := tb8 (List.mem_of_getElem? (i := 197) (by decide +kernel)) rfl
theorem il_RX8_251 : Cond.methodLink RX8 251 yX8_number ∈ wU := tb8 (List.mem_of_getElem? (i := 198) (by decide +kernel)) rfl
theorem is_X8_number : Cond.selects RX8 yX8_number yX8_number ∈ wU := tp (q := (yX8_number, 25)) 66 (by decide +kernel)
theorem im_X8_number : Cond.instanceMethod yX8_number ∈ wU := tb8 (List.mem_of_getElem? (i := 200) (by decide +kernel)) rfl
theorem k_X8_number : Cond.code yX8_number cX8_number 4 (some .int) ∈ wU := tb8 (List.mem_of_getElem? (i := 201) (by decide +kernel)) rfl
theorem il_RX8_235 : Cond.methodLink RX8 235 yX8_mark ∈ wU := tb8 (List.mem_of_getElem? (i := 202) (by decide +kernel)) rfl
theorem is_X8_mark : Cond.selects RX8 yX8_mark yX8_mark ∈ wU := tp (q := (yX8_mark, 25)) 67 (by decide +kernel)
theorem im_X8_mark : Cond.instanceMethod yX8_mark ∈ wU := tb8 (List.mem_of_getElem? (i := 204) (by decide +kernel)) rfl
theorem k_X8_mark : Cond.code yX8_mark cX8_mark 1 (some .int) ∈ wU := tb8 (List.mem_of_getElem? (i := 205) (by decide +kernel)) rfl
theorem il_RX8_260 : Cond.methodLink RX8 260 yX8_why ∈ wU := tb8 (List.mem_of_getElem? (i := 206) (by decide +kernel)) rfl
theorem is_X8_why : Cond.selects RX8 yX8_why yX8_why ∈ wU := tp (q := (yX8_why, 25)) 68 (by decide +kernel)
theorem im_X8_why : Cond.instanceMethod yX8_why ∈ wU := tb8 (List.mem_of_getElem? (i := 208) (by decide +kernel)) rfl
theorem k_X8_why : Cond.code yX8_why cX8_why 4 (some .int) ∈ wU := tb8 (List.mem_of_getElem? (i := 209) (by decide +kernel)) rfl
theorem il_RX8_263 : Cond.methodLink RX8 263 yX8_does ∈ wU := tb8 (List.mem_of_getElem? (i := 210) (by decide +kernel)) rfl
theorem is_X8_does : Cond.selects RX8 yX8_does yX8_does ∈ wU := tp (q := (yX8_does, 25)) 69 (by decide +kernel)
theorem im_X8_does : Cond.instanceMethod yX8_does ∈ wU := tb8 (List.mem_of_getElem? (i := 212) (by decide +kernel)) rfl
theorem k_X8_does : Cond.code yX8_does cX8_does 4 (some .int) ∈ wU := tb8 (List.mem_of_getElem? (i := 213) (by decide +kernel)) rfl
theorem il_RL_305 : Cond.methodLink RL 305 yX8_errorPosition ∈ wU := tb8 (List.mem_of_getElem? (i := 214) (by decide +kernel)) rfl
theorem im_X8_errorPosition : Cond.instanceMethod yX8_errorPosition ∈ wU := tb8 (List.mem_of_getElem? (i := 215) (by decide +kernel)) rfl
theorem is_X8_errorPosition : Cond.selects RX8 yX8_errorPosition yX8_errorPosition ∈ wU := tb8 (List.mem_of_getElem? (i := 216) (by decide +kernel)) rfl
theorem k_X8_errorPosition : Cond.code yX8_errorPosition cX8_errorPosition 1 (some .int) ∈ wU := tb8 (List.mem_of_getElem? (i := 217) (by decide +kernel)) rfl
theorem il_RX8_266 : Cond.methodLink RX8 266 yX8_present ∈ wU := tb8 (List.mem_of_getElem? (i := 218) (by decide +kernel)) rfl
theorem is_X8_present : Cond.selects RX8 yX8_present yX8_present ∈ wU := tp (q := (yX8_present, 25)) 70 (by decide +kernel)
theorem im_X8_present : Cond.instanceMethod yX8_present ∈ wU := tb8 (List.mem_of_getElem? (i := 220) (by decide +kernel)) rfl
theorem k_X8_present : Cond.code yX8_present cX8_present 2 (some .int) ∈ wU := tb8 (List.mem_of_getElem? (i := 221) (by decide +kernel)) rfl
theorem il_RL_308 : Cond.methodLink RL 308 yX8_failedCommand ∈ wU := tb8 (List.mem_of_getElem? (i := 222) (by decide +kernel)) rfl
theorem im_X8_failedCommand : Cond.instanceMethod yX8_failedCommand ∈ wU := tb8 (List.mem_of_getElem? (i := 223) (by decide +kernel)) rfl
theorem is_X8_failedCommand : Cond.selects RX8 yX8_failedCommand yX8_failedCommand ∈ wU := tb8 (List.mem_of_getElem? (i := 224) (by decide +kernel)) rfl
theorem k_X8_failedCommand : Cond.code yX8_failedCommand cX8_failedCommand 1 (some .int) ∈ wU := tb8 (List.mem_of_getElem? (i := 225) (by decide +kernel)) rfl
theorem il_RL_311 : Cond.methodLink RL 311 yX8_undo ∈ wU := tb8 (List.mem_of_getElem? (i := 226) (by decide +kernel)) rfl
theorem im_X8_undo : Cond.instanceMethod yX8_undo ∈ wU := tb8 (List.mem_of_getElem? (i := 227) (by decide +kernel)) rfl
theorem is_X8_undo : Cond.selects RX8 yX8_undo yX8_undo ∈ wU := tb8 (List.mem_of_getElem? (i := 228) (by decide +kernel)) rfl
theorem k_X8_undo : Cond.code yX8_undo cX8_undo 1 (some .int) ∈ wU := tb8 (List.mem_of_getElem? (i := 229) (by decide +kernel)) rfl
theorem il_RL_315 : Cond.methodLink RL 315 yX8_save ∈ wU := tb8 (List.mem_of_getElem? (i := 230) (by decide +kernel)) rfl
theorem im_X8_save : Cond.instanceMethod yX8_save ∈ wU := tb8 (List.mem_of_getElem? (i := 231) (by decide +kernel)) rfl
theorem is_X8_save : Cond.selects RX8 yX8_save yX8_save ∈ wU := tb8 (List.mem_of_getElem? (i := 232) (by decide +kernel)) rfl
theorem k_X8_save : Cond.code yX8_save cX8_save 1 (some .int) ∈ wU := tb8 (List.mem_of_getElem? (i := 233) (by decide +kernel)) rfl
theorem il_RL_318 : Cond.methodLink RL 318 yX8_restore ∈ wU := tb8 (List.mem_of_getElem? (i := 234) (by decide +kernel)) rfl
theorem im_X8_restore : Cond.instanceMethod yX8_restore ∈ wU := tb8 (List.mem_of_getElem? (i := 235) (by decide +kernel)) rfl
theorem is_X8_restore : Cond.selects RX8 yX8_restore yX8_restore ∈ wU := tb8 (List.mem_of_getElem? (i := 236) (by decide +kernel)) rfl
theorem k_X8_restore : Cond.code yX8_restore cX8_restore 1 (some .int) ∈ wU := tb8 (List.mem_of_getElem? (i := 237) (by decide +kernel)) rfl
theorem ia_a_long : Cond.arrayClass .long ∈ wU := tb8 (List.mem_of_getElem? (i := 238) (by decide +kernel)) rfl
theorem ia_a_double : Cond.arrayClass .double ∈ wU := tb8 (List.mem_of_getElem? (i := 239) (by decide +kernel)) rfl
theorem is_J4_length_8abf5 : Cond.selects RJ4 yJ4_length_8abf5 yJ4_length_8abf5 ∈ wU := tb9 (List.mem_of_getElem? (i := 11) (by decide +kernel)) rfl
theorem il_RX2_75 : Cond.fieldLinkNest RX2 75 RX1 "word" "Ljava/lang/String;" "InkPrintery" ∈ ia_nest := tn9 rfl (List.mem_of_getElem? (i := 35) (by decide +kernel))
theorem il_RX2_62 : Cond.fieldLinkNest RX2 62 RX1 "firstDigits" "I" "InkPrintery" ∈ ia_nest := tn9 rfl (List.mem_of_getElem? (i := 36) (by decide +kernel))
theorem il_RX2_69 : Cond.fieldLinkNest RX2 69 RX1 "secondDigits" "I" "InkPrintery" ∈ ia_nest := tn9 rfl (List.mem_of_getElem? (i := 37) (by decide +kernel))
theorem il_RX7_3 : Cond.methodLink RX7 3 objectInit ∈ wU := tb1 (List.mem_of_getElem? (i := 39) (by decide +kernel)) rfl
theorem im_objectInit : Cond.instanceMethod objectInit ∈ wU := tb1 (List.mem_of_getElem? (i := 40) (by decide +kernel)) rfl
theorem k_objectInit : Cond.code objectInit ⟨#[0xb1]⟩ 1 none ∈ wU := tb1 (List.mem_of_getElem? (i := 41) (by decide +kernel)) rfl
theorem il_RX6_3 : Cond.methodLink RX6 3 objectInit ∈ wU := tb1 (List.mem_of_getElem? (i := 47) (by decide +kernel)) rfl
theorem il_RX3_3 : Cond.methodLink RX3 3 objectInit ∈ wU := tb1 (List.mem_of_getElem? (i := 122) (by decide +kernel)) rfl
theorem il_RX0_3 : Cond.methodLink RX0 3 objectInit ∈ wU := tb1 (List.mem_of_getElem? (i := 142) (by decide +kernel)) rfl
theorem il_RX5_3 : Cond.methodLink RX5 3 objectInit ∈ wU := tb1 (List.mem_of_getElem? (i := 173) (by decide +kernel)) rfl
theorem il_RX4_3 : Cond.methodLink RX4 3 objectInit ∈ wU := tb1 (List.mem_of_getElem? (i := 184) (by decide +kernel)) rfl
theorem il_RX2_3 : Cond.methodLink RX2 3 objectInit ∈ wU := tb1 (List.mem_of_getElem? (i := 200) (by decide +kernel)) rfl
theorem il_RJ5_3 : Cond.methodLink RJ5 3 objectInit ∈ wU := tb1 (List.mem_of_getElem? (i := 209) (by decide +kernel)) rfl
theorem il_RX6_59 : Cond.methodLink RX6 59 arraycopyName ∈ wU := tb2 (List.mem_of_getElem? (i := 82) (by decide +kernel)) rfl
theorem it_arraycopy : Cond.static arraycopyName ∈ wU := tb2 (List.mem_of_getElem? (i := 83) (by decide +kernel)) rfl
theorem in_arraycopy : Cond.native arraycopyName ∈ wU := tb2 (List.mem_of_getElem? (i := 84) (by decide +kernel)) rfl
theorem il_RX6_81 : Cond.methodLink RX6 81 Lib.Math.min.name ∈ wU := tb2 (List.mem_of_getElem? (i := 137) (by decide +kernel)) rfl
theorem it_mmin : Cond.static Lib.Math.min.name ∈ wU := tb2 (List.mem_of_getElem? (i := 138) (by decide +kernel)) rfl
theorem k_mmin : Cond.code Lib.Math.min.name Lib.Math.min.code 2 (some .int) ∈ wU := tb2 (List.mem_of_getElem? (i := 139) (by decide +kernel)) rfl
theorem il_Zjava_lang_Throwable_1 : Cond.methodLink "java/lang/Throwable" 1 objectInit ∈ wU := tb3 (List.mem_of_getElem? (i := 0) (by decide +kernel)) rfl
theorem il_RX3_29 : Cond.methodLink RX3 29 Lib.Math.min.name ∈ wU := tb3 (List.mem_of_getElem? (i := 105) (by decide +kernel)) rfl
theorem il_RX0_76 : Cond.methodLink RX0 76 Lib.Math.min.name ∈ wU := tb3 (List.mem_of_getElem? (i := 132) (by decide +kernel)) rfl
theorem il_RX4_31 : Cond.methodLink RX4 31 Lib.Math.max.name ∈ wU := tb3 (List.mem_of_getElem? (i := 153) (by decide +kernel)) rfl
theorem it_mmax : Cond.static Lib.Math.max.name ∈ wU := tb3 (List.mem_of_getElem? (i := 154) (by decide +kernel)) rfl
theorem k_mmax : Cond.code Lib.Math.max.name Lib.Math.max.code 2 (some .int) ∈ wU := tb3 (List.mem_of_getElem? (i := 155) (by decide +kernel)) rfl
theorem il_RJ8_194 : Cond.methodLink RJ8 194 Lib.Math.max.name ∈ wU := tb3 (List.mem_of_getElem? (i := 237) (by decide +kernel)) rfl
theorem il_RJ7_304 : Cond.methodLink RJ7 304 Lib.Math.min.name ∈ wU := tb4 (List.mem_of_getElem? (i := 13) (by decide +kernel)) rfl
theorem il_RJ7_150 : Cond.methodLink RJ7 150 arraycopyName ∈ wU := tb4 (List.mem_of_getElem? (i := 14) (by decide +kernel)) rfl
theorem il_RJ0_212 : Cond.methodLink RJ0 212 arraycopyName ∈ wU := tb4 (List.mem_of_getElem? (i := 87) (by decide +kernel)) rfl
theorem il_RJ0_1 : Cond.methodLink RJ0 1 objectInit ∈ wU := tb4 (List.mem_of_getElem? (i := 126) (by decide +kernel)) rfl
theorem il_RX5_36 : Cond.methodLink RX5 36 Lib.Math.min.name ∈ wU := tb5 (List.mem_of_getElem? (i := 51) (by decide +kernel)) rfl
theorem il_RJ5_138 : Cond.methodLink RJ5 138 Lib.Math.min.name ∈ wU := tb6 (List.mem_of_getElem? (i := 76) (by decide +kernel)) rfl
theorem il_RX2_86 : Cond.methodLink RX2 86 Lib.Math.max.name ∈ wU := tb6 (List.mem_of_getElem? (i := 138) (by decide +kernel)) rfl
theorem il_RX8_1 : Cond.methodLink RX8 1 objectInit ∈ wU := tb6 (List.mem_of_getElem? (i := 208) (by decide +kernel)) rfl
theorem cls0 : ia_Cls 0 RJ0 TJ0 4 := ⟨rfl, by decide +kernel, by decide +kernel, by decide +kernel, rfl⟩
theorem cls1 : ia_Cls 1 RJ4 TJ4 4 := ⟨rfl, by decide +kernel, by decide +kernel, by decide +kernel, rfl⟩
theorem cls4 : ia_Cls 4 RX0 TX0 7 := ⟨rfl, by decide +kernel, by decide +kernel, by decide +kernel, rfl⟩
theorem cls5 : ia_Cls 5 RX2 TX2 6 := ⟨rfl, by decide +kernel, by decide +kernel, by decide +kernel, rfl⟩
theorem cls6 : ia_Cls 6 RX3 TX3 3 := ⟨rfl, by decide +kernel, by decide +kernel, by decide +kernel, rfl⟩
theorem cls7 : ia_Cls 7 RX4 TX4 3 := ⟨rfl, by decide +kernel, by decide +kernel, by decide +kernel, rfl⟩
theorem cls8 : ia_Cls 8 RX5 TX5 1 := ⟨rfl, by decide +kernel, by decide +kernel, by decide +kernel, rfl⟩
theorem cls9 : ia_Cls 9 RX6 TX6 15 := ⟨rfl, by decide +kernel, by decide +kernel, by decide +kernel, rfl⟩
theorem cls10 : ia_Cls 10 RX7 TX7 11 := ⟨rfl, by decide +kernel, by decide +kernel, by decide +kernel, rfl⟩
theorem cls11 : ia_Cls 11 RX8 TX8 25 := ⟨rfl, by decide +kernel, by decide +kernel, by decide +kernel, rfl⟩
