/-! a static call of a method with a table of handlers -/
theorem jSH {X : ia_X} {own : String} {cc : ByteArray} {nL d mc ms cells slots pc : Nat} {ls st : List (Nat × Int)} {Z : ia_Z} {V : ia_H} (F : ia_Fix X own cc nL d mc ms) {index : Nat} {y : MethodName} {b : ByteArray} {nL' : Nat} {ret : Option FieldType} {hh : List (Nat × Nat × Nat × Nat)} {As : List (Nat × Int)} {stA : List (Nat × Int)} {d' mc' ms' : Nat} (hK : ia_KH y b nL' ret hh As Z V d' mc' ms' (ia_ct X (cells + mc') (slots + ms') (pc + 3) ls st Z.2.2)) (hst : stA = As.reverse ++ st)
    (hw : Cond.codeWith y b nL' ret hh ∈ wU ∧ Cond.methodLink own index y ∈ wU ∧ Cond.static y ∈ wU ∧ Cond.initialized y.cls ∈ wU) (nA : Nat) (hA : As.length = nA) (hd : y.cls ≠ "java/lang/invoke/MethodHandle" ∧ y.cls ≠ "java/lang/invoke/VarHandle" ∧ (parseMethodDescriptor y.desc).map (fun d => d.parameters.length) = some nA) (hR : d' + 1 ≤ d ∧ nL' ≤ 40 ∧ cells + mc' ≤ mc ∧ slots + ms' ≤ ms ∧ st.length ≤ 4) (dg : decode cc pc = .ok (.invokestatic index, 3)) : ia_G X cells slots pc ls stA Z V := by
  intro H locs ad lsA r1 r2 r3 r4 r5 r6 r7 r8
  subst hst
  have r8a : ia_wfl Z.2.2 As := fun v hv => r8 v (List.mem_append_left _ (List.mem_reverse.mpr hv))
  have r8b : ia_wfl Z.2.2 st := fun v hv => r8 v (List.mem_append_right _ hv)
  have kk : ∀ (v : Option (Nat × Int)) (Z' : ia_Z) (V' : ia_H), ia_ct X (cells + mc') (slots + ms') (pc + 3) ls st Z.2.2 (.inl v) Z' V' → Z.2.2 ≤ Z'.2.2 → ia_G X (cells + mc') (slots + ms') (pc + 3) ls (v.toList ++ st) Z' V' := fun _ _ _ h => h
  have kx : ∀ (E : String) (Z' : ia_Z) (V' : ia_H), ia_ct X (cells + mc') (slots + ms') (pc + 3) ls st Z.2.2 (.inr E) Z' V' → Z.2.2 ≤ Z'.2.2 → ia_T X (cells + mc') (slots + ms') pc ls Z' V' E := fun _ _ _ h => h
  refine ia_back F (a := (As.map (ia_cv ad)).toArray) r1 r2 r3 r4 r5 r6 r7 r8b ?_ kk kx
  refine vx_runSX (As := As.map (ia_cv ad)) ⟨F.1.1, F.1.2.1, F.1.2.2.1, F.1.2.2.2.1, F.1.2.2.2.2.1⟩ (hK X.2.2.2.2.2.2.2.2.2.2.2.1 X.2.1 ad F.1.2.2.2.2.2.2.2.2.2.2.2) (vx_cwSW As.length F.1.2.2.2.2.1 (goodIn_sub (fun w h => ?_) ?_) rfl rfl rfl ⟨hd.1, hd.2.1, by rw [hA]; exact hd.2.2⟩ (ia_room F hR.1 hR.2.1)) ⟨ia_blind, fun U hU hW => ⟨rfl, by rw [hU]; exact r1, r8a, F.1.2.2.2.2.2.1.warm hW (by rw [hU]; exact r4)⟩⟩ rfl (by rw [List.length_map]) (by exact r5.1) (by rw [List.map_append, List.map_reverse]) (lv_room (ia_catle ad hR.2.2.2.2)) dg ⟨Nat.le_trans hR.2.2.1 F.1.2.2.2.2.2.2.2.2.1, Nat.le_trans hR.2.2.2.1 F.1.2.2.2.2.2.2.2.2.2.1⟩
  · rcases List.mem_append.mp h with h | h
    · rcases List.mem_cons.mp h with e | h
      · subst e; exact hw.2.1
      · rcases List.mem_cons.mp h with e | h
        · subst e; exact hw.2.2.1
        · rw [List.mem_singleton.mp h]; exact hw.2.2.2
    · rcases List.mem_cons.mp h with e | h
      · subst e; exact hw.1
      · exact h
  · refine List.all_eq_true.mpr (fun w h => ?_)
    rcases List.mem_append.mp h with h | h
    · rcases List.mem_cons.mp h with e | h
      · subst e; exact ia_wU_good _ hw.2.1
      · rcases List.mem_cons.mp h with e | h
        · subst e; exact ia_wU_good _ hw.2.2.1
        · rw [List.mem_singleton.mp h]; exact ia_wU_good _ hw.2.2.2
    · rcases List.mem_cons.mp h with e | h
      · subst e; exact ia_wU_good _ hw.1
      · exact ia_wU_good _ h
