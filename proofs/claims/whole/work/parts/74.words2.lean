/-! words of methods with handlers (made by wip/whole/mkwords2.py) -/
theorem cs_0 : Cond.castable "java/lang/IllegalArgumentException" "java/lang/IllegalArgumentException" ∈ ia_nest := tn2 rfl (List.mem_of_getElem? (i := 217) (by decide +kernel))
theorem cs_1 : Cond.castable "java/lang/IllegalStateException" "java/lang/IllegalStateException" ∈ ia_nest := tn3 rfl (List.mem_of_getElem? (i := 52) (by decide +kernel))
theorem cs_2 : Cond.castable "java/lang/IndexOutOfBoundsException" "java/lang/IndexOutOfBoundsException" ∈ ia_nest := tn3 rfl (List.mem_of_getElem? (i := 71) (by decide +kernel))
theorem cs_4 : Cond.castable "java/lang/UnsupportedOperationException" "java/lang/UnsupportedOperationException" ∈ ia_nest := tn3 rfl (List.mem_of_getElem? (i := 87) (by decide +kernel))
theorem k_L_addInk : Cond.codeWith yL_addInk cL_addInk 5 (some .int) [(0, 10, 13, 13), (0, 10, 17, 15)] ∈ wU := tb5 (List.mem_of_getElem? (i := 66) (by decide +kernel)) rfl
theorem k_L_addPaper : Cond.codeWith yL_addPaper cL_addPaper 4 (some .int) [(0, 9, 12, 13), (0, 9, 15, 15)] ∈ wU := tb5 (List.mem_of_getElem? (i := 75) (by decide +kernel)) rfl
theorem k_L_pass : Cond.codeWith yL_pass cL_pass 4 (some .int) [(0, 9, 12, 13)] ∈ wU := tb5 (List.mem_of_getElem? (i := 82) (by decide +kernel)) rfl
theorem k_L_ink : Cond.codeWith yL_ink cL_ink 4 (some .int) [(0, 9, 12, 13)] ∈ wU := tb5 (List.mem_of_getElem? (i := 89) (by decide +kernel)) rfl
theorem k_L_inkAfter : Cond.codeWith yL_inkAfter cL_inkAfter 5 (some .int) [(0, 10, 13, 13)] ∈ wU := tb5 (List.mem_of_getElem? (i := 97) (by decide +kernel)) rfl
theorem k_L_inkByHalvings : Cond.codeWith yL_inkByHalvings cL_inkByHalvings 5 (some .int) [(0, 10, 13, 13)] ∈ wU := tb5 (List.mem_of_getElem? (i := 104) (by decide +kernel)) rfl
theorem k_L_hoursUntilLess : Cond.codeWith yL_hoursUntilLess cL_hoursUntilLess 5 (some .int) [(0, 10, 13, 13)] ∈ wU := tb5 (List.mem_of_getElem? (i := 111) (by decide +kernel)) rfl
theorem k_L_addEdition : Cond.codeWith yL_addEdition cL_addEdition 5 (some .int) [(0, 10, 13, 13), (0, 10, 17, 15)] ∈ wU := tb5 (List.mem_of_getElem? (i := 122) (by decide +kernel)) rfl
theorem k_L_removeEdition : Cond.codeWith yL_removeEdition cL_removeEdition 4 (some .int) [(0, 9, 12, 42)] ∈ wU := tb5 (List.mem_of_getElem? (i := 129) (by decide +kernel)) rfl
theorem k_L_print : Cond.codeWith yL_print cL_print 4 (some .int) [(0, 9, 12, 42), (0, 9, 15, 15), (0, 9, 18, 47)] ∈ wU := tb5 (List.mem_of_getElem? (i := 139) (by decide +kernel)) rfl
theorem k_L_colourOf : Cond.codeWith yL_colourOf cL_colourOf 4 (some .int) [(0, 9, 12, 42)] ∈ wU := tb5 (List.mem_of_getElem? (i := 147) (by decide +kernel)) rfl
theorem k_L_runOf : Cond.codeWith yL_runOf cL_runOf 4 (some .int) [(0, 9, 12, 42)] ∈ wU := tb5 (List.mem_of_getElem? (i := 154) (by decide +kernel)) rfl
theorem k_L_printedOf : Cond.codeWith yL_printedOf cL_printedOf 4 (some .int) [(0, 9, 12, 42)] ∈ wU := tb5 (List.mem_of_getElem? (i := 161) (by decide +kernel)) rfl
theorem k_L_isComplete : Cond.codeWith yL_isComplete cL_isComplete 4 (some .int) [(0, 16, 19, 42)] ∈ wU := tb5 (List.mem_of_getElem? (i := 168) (by decide +kernel)) rfl
theorem k_L_changeMinutes : Cond.codeWith yL_changeMinutes cL_changeMinutes 5 (some .int) [(0, 10, 13, 13)] ∈ wU := tb5 (List.mem_of_getElem? (i := 176) (by decide +kernel)) rfl
theorem k_L_editionAt : Cond.codeWith yL_editionAt cL_editionAt 4 (some .int) [(0, 9, 12, 68)] ∈ wU := tb5 (List.mem_of_getElem? (i := 184) (by decide +kernel)) rfl
theorem cs_3 : Cond.castable "java/util/NoSuchElementException" "java/util/NoSuchElementException" ∈ ia_nest := tn5 rfl (List.mem_of_getElem? (i := 195) (by decide +kernel))
theorem k_L_shareOf : Cond.codeWith yL_shareOf cL_shareOf 4 (some .int) [(0, 9, 12, 42)] ∈ wU := tb5 (List.mem_of_getElem? (i := 211) (by decide +kernel)) rfl
theorem k_L_shareByLevel : Cond.codeWith yL_shareByLevel cL_shareByLevel 4 (some .int) [(0, 9, 12, 42)] ∈ wU := tb5 (List.mem_of_getElem? (i := 215) (by decide +kernel)) rfl
theorem k_L_editionByMissing : Cond.codeWith yL_editionByMissing cL_editionByMissing 4 (some .int) [(0, 9, 12, 68)] ∈ wU := tb5 (List.mem_of_getElem? (i := 219) (by decide +kernel)) rfl
theorem k_L_addProof : Cond.codeWith yL_addProof cL_addProof 4 (some .int) [(0, 9, 12, 13), (0, 9, 15, 15)] ∈ wU := tb5 (List.mem_of_getElem? (i := 234) (by decide +kernel)) rfl
theorem k_L_dropProof : Cond.codeWith yL_dropProof cL_dropProof 4 (some .int) [(0, 9, 12, 42)] ∈ wU := tb6 (List.mem_of_getElem? (i := 1) (by decide +kernel)) rfl
theorem k_L_marksOf : Cond.codeWith yL_marksOf cL_marksOf 4 (some .int) [(0, 9, 12, 42)] ∈ wU := tb6 (List.mem_of_getElem? (i := 10) (by decide +kernel)) rfl
theorem k_L_hourOf : Cond.codeWith yL_hourOf cL_hourOf 4 (some .int) [(0, 9, 12, 42)] ∈ wU := tb6 (List.mem_of_getElem? (i := 18) (by decide +kernel)) rfl
theorem k_L_meanRun : Cond.codeWith yL_meanRun cL_meanRun 3 (some .int) [(0, 7, 10, 95)] ∈ wU := tb6 (List.mem_of_getElem? (i := 25) (by decide +kernel)) rfl
theorem cs_5 : Cond.castable "java/lang/ArithmeticException" "java/lang/ArithmeticException" ∈ ia_nest := tn6 rfl (List.mem_of_getElem? (i := 38) (by decide +kernel))
theorem k_L_fadedShare : Cond.codeWith yL_fadedShare cL_fadedShare 3 (some .int) [(0, 8, 11, 95)] ∈ wU := tb6 (List.mem_of_getElem? (i := 49) (by decide +kernel)) rfl
theorem k_L_writeEdition : Cond.codeWith yL_writeEdition cL_writeEdition 4 (some .int) [(0, 9, 12, 42)] ∈ wU := tb6 (List.mem_of_getElem? (i := 57) (by decide +kernel)) rfl
theorem k_L_lineAt : Cond.codeWith yL_lineAt cL_lineAt 4 (some .int) [(0, 9, 12, 42)] ∈ wU := tb6 (List.mem_of_getElem? (i := 64) (by decide +kernel)) rfl
theorem k_L_type : Cond.codeWith yL_type cL_type 4 (some .int) [(0, 9, 12, 13), (0, 9, 15, 15)] ∈ wU := tb6 (List.mem_of_getElem? (i := 81) (by decide +kernel)) rfl
theorem k_L_execute : Cond.codeWith yL_execute cL_execute 3 (some .int) [(0, 8, 11, 13), (0, 8, 14, 15)] ∈ wU := tb6 (List.mem_of_getElem? (i := 98) (by decide +kernel)) rfl
theorem k_L_errorPosition : Cond.codeWith yL_errorPosition cL_errorPosition 3 (some .int) [(0, 8, 11, 68)] ∈ wU := tb6 (List.mem_of_getElem? (i := 169) (by decide +kernel)) rfl
theorem k_L_failedCommand : Cond.codeWith yL_failedCommand cL_failedCommand 3 (some .int) [(0, 8, 11, 68)] ∈ wU := tb6 (List.mem_of_getElem? (i := 176) (by decide +kernel)) rfl
theorem k_L_undo : Cond.codeWith yL_undo cL_undo 3 (some .int) [(0, 8, 11, 15)] ∈ wU := tb6 (List.mem_of_getElem? (i := 183) (by decide +kernel)) rfl
theorem k_L_restore : Cond.codeWith yL_restore cL_restore 3 (some .int) [(0, 8, 11, 15)] ∈ wU := tb6 (List.mem_of_getElem? (i := 194) (by decide +kernel)) rfl
