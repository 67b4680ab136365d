/-! contracts, calls, ends -/
abbrev ia_O : Type := Option (Nat × Int) ⊕ String
def ia_rm (d mc ms : Nat) : Room := { frames := d, cells := mc, slots := ms, locals := 64 * d + 64 }
def ia_Pc (gl : ia_GL) (ad : Nat → Nat) (args : List (Nat × Int)) (Z : ia_Z) (V : ia_H) : Array Value → State → Prop := fun a U => a = (args.map (ia_cv ad)).toArray ∧ ia_Rep gl ad Z V U.heap ∧ ia_wfl Z.2.2 args ∧ ia_Kn gl U
def ia_Qc (gl : ia_GL) (ad : Nat → Nat) (n : Nat) (Q : ia_O → ia_Z → ia_H → Prop) : Array Value → State → Outcome → State → Prop := fun _ st oc t => ∃ (v : Option (Nat × Int)) (Z : ia_Z) (V : ia_H) (ad' : Nat → Nat), oc = .returned (v.map (ia_cv ad')) ∧ Q (.inl v) Z V ∧ ia_Rep gl ad' Z V t.heap ∧ n ≤ Z.2.2 ∧ (∀ k : Nat, k < n → ad' k = ad k) ∧ va_F (fun q => gl.2.2.1 ≤ q) st t ∧ ∀ u, v = some u → ia_wf1 Z.2.2 u
def ia_XC (gl : ia_GL) (ad : Nat → Nat) (n : Nat) (Q : ia_O → ia_Z → ia_H → Prop) : String → State → State → Prop := fun E st t => ∃ (Z : ia_Z) (V : ia_H) (ad' : Nat → Nat), Q (.inr E) Z V ∧ ia_Rep gl ad' Z V t.heap ∧ n ≤ Z.2.2 ∧ (∀ k : Nat, k < n → ad' k = ad k) ∧ va_F (fun q => gl.2.2.1 ≤ q) st t
/-- THE CONTRACT of a method: from the heap V (places Z) with these arguments it ends, in room (d frames, mc cells, ms slots), and its outcome (a value or an exception's class), the places and the heap behind it satisfy Q -/
def ia_K (y : MethodName) (b : ByteArray) (nL : Nat) (ret : Option FieldType) (args : List (Nat × Int)) (Z : ia_Z) (V : ia_H) (d mc ms : Nat) (Q : ia_O → ia_Z → ia_H → Prop) : Prop :=
  ∀ (gl : ia_GL) (l : Launch) (ad : Nat → Nat), l.stackTraces = false → vx_Met l y (.code y b nL ret :: wU) (ia_rm d mc ms) (ia_Pc gl ad args Z V) (ia_Qc gl ad Z.2.2 Q) (ia_XC gl ad Z.2.2 Q) mc ms (fun q => gl.2.2.1 ≤ q)
/-- two ways to read places agree -/
theorem ia_ag {ad ad' : Nat → Nat} {ae : Nat → Nat} {n : Nat} {v : Nat × Int} (h : ∀ k : Nat, k < n → ad' k = ad k) (h1 : ∀ i : Nat, ad (ia_E0 + i) = ae i) (h2 : ∀ i : Nat, ad' (ia_E0 + i) = ae i) (hv : ia_wf1 n v) : ia_cv ad' v = ia_cv ad v := by
  obtain ⟨t, x⟩ := v
  match t, hv with
  | 0, _ => rfl
  | 1, _ => rfl
  | 2, _ => rfl
  | 3, _ => rfl
  | 4, hv =>
    have hv : x < (n : Int) ∨ (ia_E0 : Int) ≤ x := hv rfl
    rw [ia_cv4, ia_cv4]
    refine congrArg va_rf ?_
    unfold ia_rf
    by_cases h0 : x < 0
    · rw [if_pos h0, if_pos h0]
    · rw [if_neg h0, if_neg h0]
      refine congrArg some ?_
      rcases hv with hv | hv
      · exact h _ (by omega)
      · obtain ⟨i, hi⟩ : ∃ i : Nat, x.toNat = ia_E0 + i := ⟨x.toNat - ia_E0, by omega⟩
        rw [hi, h1, h2]
  | n + 5, _ => rfl
theorem ia_agl {ad ad' : Nat → Nat} {ae : Nat → Nat} {n : Nat} {l : List (Nat × Int)} (h : ∀ k : Nat, k < n → ad' k = ad k) (h1 : ∀ i : Nat, ad (ia_E0 + i) = ae i) (h2 : ∀ i : Nat, ad' (ia_E0 + i) = ae i) (hv : ia_wfl n l) : l.map (ia_cv ad') = l.map (ia_cv ad) :=
  List.map_congr_left (fun v hm => ia_ag h h1 h2 (hv v hm))
theorem ia_agL {ad ad' : Nat → Nat} {ae : Nat → Nat} {n : Nat} {l : List (Nat × Int)} (h : ∀ k : Nat, k < n → ad' k = ad k) (h1 : ∀ i : Nat, ad (ia_E0 + i) = ae i) (h2 : ∀ i : Nat, ad' (ia_E0 + i) = ae i) (hv : ia_wfl n l) {lsA : Array Slot} {nL : Nat} (hl : lv_has lsA nL (ia_L ad l)) : lv_has lsA nL (ia_L ad' l) := by
  refine ⟨hl.1, hl.2.1, fun q hq => hl.2.2 q ?_⟩
  obtain ⟨v, hv1, hv9, e⟩ := ia_L_mem.mp hq
  exact ia_L_mem.mpr ⟨v, hv1, hv9, by rw [e]; exact ia_ag h h1 h2 (ia_wfa hv hv1)⟩
theorem ia_wfm {n n' : Nat} {l : List (Nat × Int)} (h : n ≤ n') (hl : ia_wfl n l) : ia_wfl n' l := fun v hv e => by
  rcases hl v hv e with h1 | h1
  · exact Or.inl (by omega)
  · exact Or.inr h1
theorem ia_nest_warm {s U : State} (hW : s.WarmedH U.vm) {w : Cond} (h : w ∈ ia_nest) (hw : va_Nw w s) : va_Nw w U := by
  have h2 := (List.mem_filter.mp h).2
  cases w <;> first | exact va_Nw.warmM hW hw | exact va_Nw.warmF hW hw | exact va_Nw.warmC hW hw | exact va_Nw.warmD hW hw | (exact absurd h2 (by simp))
theorem ia_Kn.warm {gl : ia_GL} {s U : State} {locs : List Loc} (h : ia_Kn gl s) (hW : s.WarmedH U.vm) (hS : va_S (fun q => gl.2.2.1 ≤ q) s.heap U.heap locs) : ia_Kn gl U := by
  obtain ⟨h1, h2, h3, ⟨x1, x2, x3, x4, x5⟩, h5⟩ := h
  exact ⟨va_K.moved hW.alike h1, fun w hw => ia_nest_warm hW hw (h2 w hw), (h3.moved hW.alike).kept (fun a ha hn => hS.2.1 a ha hn), ⟨fun t ht => by obtain ⟨sa, hsa⟩ := x1 t ht; exact ⟨sa, vk_R.warm hW hsa⟩, x2, fun t ht => va_Nc.moved hW.alike (x3 t ht), va_AO.moved hW.alike x4, va_AO.moved hW.alike x5⟩, Nat.le_trans h5 hS.1⟩
theorem ia_Kn.call {gl : ia_GL} {U : State} {g : JFrame} {mk : MethodId} {a : Array Value} (h : ia_Kn gl U) : ia_Kn gl (U.calling g mk a) := by
  have hv : U.vm.Alike (U.calling g mk a).vm := Vm.Alike.refl U.vm
  obtain ⟨h1, h2, h3, ⟨x1, x2, x3, x4, x5⟩, h5⟩ := h
  refine ⟨va_K.moved hv h1, fun w hw => ?_, h3.moved hv, ⟨fun t ht => by obtain ⟨sa, hsa⟩ := x1 t ht; exact ⟨sa, vk_R.same rfl hsa⟩, x2, fun t ht => va_Nc.moved hv (x3 t ht), va_AO.moved hv x4, va_AO.moved hv x5⟩, h5⟩
  have h9 := h2 w hw
  have h8 := (List.mem_filter.mp hw).2
  cases w <;> first | exact va_Nw.same rfl rfl h9 | (exact absurd h8 (by simp))
theorem ia_blind {gl : ia_GL} {ad : Nat → Nat} {args : List (Nat × Int)} {Z : ia_Z} {V : ia_H} : FrameBlind (ia_Pc gl ad args Z V) := fun _ _ _ _ h => ⟨h.1, h.2.1, h.2.2.1, h.2.2.2.call⟩
theorem ia_wU_good : ∀ w ∈ wU, goodWord w = true := fun _ h => (List.mem_filter.mp h).2
theorem ia_goodW {y : MethodName} {b : ByteArray} {nL : Nat} {ret : Option FieldType} (h : Cond.code y b nL ret ∈ wU) : GoodIn wU (.code y b nL ret :: wU) := fun w hw => by
  rcases List.mem_cons.mp hw with e | e
  · subst e; exact ⟨h, good_of_word (ia_wU_good _ h)⟩
  · exact ⟨e, good_of_word (ia_wU_good _ e)⟩
section IAK
variable {X : ia_X} {own : String} {cc : ByteArray} {nL d mc ms cells slots pc : Nat} {ls st : List (Nat × Int)} {Z : ia_Z} {V : ia_H}
/-- behind a call -/
theorem ia_back (F : ia_Fix X own cc nL d mc ms) {H : Heap} {locs : List Loc} {ad : Nat → Nat} {lsA : Array Slot} {mc' ms' : Nat} {st0 : List Value} {a : Array Value} {Q' : ia_O → ia_Z → ia_H → Prop}
    (r1 : ia_Rep X.2.2.2.2.2.2.2.2.2.2.2.1 ad Z V H) (r2 : X.2.2.2.2.2.2.2.2.2.2.2.2.2.2 ≤ Z.2.2) (r3 : ∀ k : Nat, k < X.2.2.2.2.2.2.2.2.2.2.2.2.2.2 → ad k = X.2.2.2.2.2.2.2.2.2.2.2.2.2.1 k) (r4 : va_S (fun q => X.2.2.2.2.2.2.2.2.2.2.2.1.2.2.1 ≤ q) X.2.2.2.2.1.heap H locs) (r5 : lv_has lsA X.2.2.2.2.2.2.2.2.2.2.2.2.1 (ia_L ad ls)) (r6 : ls.length = X.2.2.2.2.2.2.2.2.2.2.2.2.1) (r7 : ia_wfl Z.2.2 ls) (r8 : ia_wfl Z.2.2 st)
    (hr : vx_Run X.1 X.2.1 X.2.2.1 X.2.2.2.1 X.2.2.2.2.1 X.2.2.2.2.2.1 X.2.2.2.2.2.2.1 X.2.2.2.2.2.2.2.1 X.2.2.2.2.2.2.2.2.1 X.2.2.2.2.2.2.2.2.2.1 H locs cells slots mc' ms' (F0 X.2.2.2.2.2.1 pc lsA st0) (st.map (ia_cv ad)) (ia_Qc X.2.2.2.2.2.2.2.2.2.2.2.1 ad Z.2.2 Q' a) (ia_XC X.2.2.2.2.2.2.2.2.2.2.2.1 ad Z.2.2 Q') (fun q => X.2.2.2.2.2.2.2.2.2.2.2.1.2.2.1 ≤ q))
    (kk : ∀ (v : Option (Nat × Int)) (Z' : ia_Z) (V' : ia_H), Q' (.inl v) Z' V' → Z.2.2 ≤ Z'.2.2 → ia_G X (cells + mc') (slots + ms') (pc + 3) ls (v.toList ++ st) Z' V')
    (kx : ∀ (E : String) (Z' : ia_Z) (V' : ia_H), Q' (.inr E) Z' V' → Z.2.2 ≤ Z'.2.2 → ia_T X (cells + mc') (slots + ms') pc ls Z' V' E) :
    W X.1 X.2.1 X.2.2.1 X.2.2.2.1 X.2.2.2.2.1 X.2.2.2.2.2.1 X.2.2.2.2.2.2.1 X.2.2.2.2.2.2.2.1 X.2.2.2.2.2.2.2.2.1 X.2.2.2.2.2.2.2.2.2.1 H locs cells slots X.2.2.2.2.2.2.2.2.2.2.1 (F0 X.2.2.2.2.2.1 pc lsA st0) := by
  intro T hT XS
  rcases hr T hT XS with ⟨v, st₀, t, T', L, h0, X', hL, e1, e2, ⟨v', Z', V', ad', hv, hQ, hRep, hn, hag, hF, hwf⟩, stp⟩ | ⟨q, st₀, t, T', L, E, ce, h0, X', hL, e1, e2, ⟨Z', V', ad', hQ, hRep, hn, hag, hF⟩, hce, hcv, hcl, stp⟩
  · cases hv
    obtain ⟨k1, k2, k3⟩ := vx_keep h0 e1 r4 (fun _ _ h => h) (fun _ h => h) hL hF
    have hR' : ia_Rep X.2.2.2.2.2.2.2.2.2.2.2.1 ad' Z' V' T'.heap := by rw [e1]; exact hRep
    have w := kk v' Z' V' hQ hn T'.heap (locs ++ L) ad' lsA hR' (Nat.le_trans r2 hn) (fun k hk => (hag k (Nat.lt_of_lt_of_le hk r2)).trans (r3 k hk)) k3 (ia_agL hag r1.2.2.2.1 hRep.2.2.2.1 r7 r5) r6 (ia_wfm hn r7) (by
      cases v' with
      | none => exact ia_wfm hn r8
      | some u => exact ia_wfc (hwf u rfl) (ia_wfm hn r8))
    rw [List.map_append, ia_agl hag r1.2.2.2.1 hRep.2.2.2.1 r8, show v'.toList.map (ia_cv ad') = (v'.map (ia_cv ad')).toList by cases v' <;> rfl] at w
    obtain ⟨t2, a1, b1⟩ := w T' rfl X'
    exact ⟨t2, stp t2 a1, b1⟩
  · obtain ⟨k1, k2, k3⟩ := vx_keep h0 e1 r4 (fun _ _ h => h) (fun _ h => h) hL hF
    have hR' : ia_Rep X.2.2.2.2.2.2.2.2.2.2.2.1 ad' Z' V' T'.heap := by rw [e1]; exact hRep
    have w := kx E Z' V' hQ hn T'.heap (locs ++ L) ad' lsA (st.map (ia_cv ad)) q ce hR' (Nat.le_trans r2 hn) (fun k hk => (hag k (Nat.lt_of_lt_of_le hk r2)).trans (r3 k hk)) k3 (ia_agL hag r1.2.2.2.1 hRep.2.2.2.1 r7 r5) r6 (ia_wfm hn r7) (by rw [e1]; exact hce) hcv hcl
    obtain ⟨t2, a1, b1⟩ := w T' rfl X'
    exact ⟨t2, stp.trans a1, b1⟩
/-- room for a call of depth d' -/
theorem ia_room (F : ia_Fix X own cc nL d mc ms) {d' mc' ms' nL' : Nat} (hd : d' + 1 ≤ d) (hl : nL' ≤ 40) : (ia_rm d' mc' ms').frames + 1 ≤ X.2.2.2.1.frames ∧ 8 + (nL' + 11) + (ia_rm d' mc' ms').locals ≤ X.2.2.2.1.locals := by
  have h1 := F.1.2.2.2.2.2.2.1
  have h2 := F.1.2.2.2.2.2.2.2.1
  refine ⟨Nat.le_trans hd h1, Nat.le_trans ?_ h2⟩
  show 8 + (nL' + 11) + (64 * d' + 64) ≤ 64 * d + 64
  omega
theorem ia_catle (ad : Nat → Nat) {st : List (Nat × Int)} (h : st.length ≤ 4) : ((st.map (ia_cv ad)).map fun v => v.category).sum ≤ 8 := by
  have key : ∀ l : List (Nat × Int), ((l.map (ia_cv ad)).map fun v => v.category).sum ≤ 2 * l.length := by
    intro l
    induction l with
    | nil => exact Nat.le_refl 0
    | cons v l ih =>
      rw [List.map_cons, List.map_cons, List.sum_cons, List.length_cons]
      have : (ia_cv ad v).category ≤ 2 := by rcases lv_cat (ia_cv ad v) with h | h <;> omega
      omega
  have := key st
  omega
/-- invokestatic, in the same class -/
theorem ia_callS (F : ia_Fix X own cc nL d mc ms) {index : Nat} {y : MethodName} {b : ByteArray} {nL' : Nat} {ret : Option FieldType} {As : List (Nat × Int)} {stA : List (Nat × Int)} {d' mc' ms' : Nat} {Q' : ia_O → ia_Z → ia_H → Prop} (hK : ia_K y b nL' ret As Z V d' mc' ms' Q') (hst : stA = As.reverse ++ st)
    (hw : Cond.code y b nL' ret ∈ wU ∧ Cond.methodLink own index y ∈ wU ∧ Cond.static y ∈ wU ∧ Cond.initialized own ∈ wU) (hd : y.cls = own ∧ y.cls ≠ "java/lang/invoke/MethodHandle" ∧ y.cls ≠ "java/lang/invoke/VarHandle" ∧ (parseMethodDescriptor y.desc).map (fun d => d.parameters.length) = some As.length) (hR : d' + 1 ≤ d ∧ nL' ≤ 40 ∧ cells + mc' ≤ mc ∧ slots + ms' ≤ ms ∧ st.length ≤ 4) (dg : decode cc pc = .ok (.invokestatic index, 3))
    (kk : ∀ (v : Option (Nat × Int)) (Z' : ia_Z) (V' : ia_H), Q' (.inl v) Z' V' → Z.2.2 ≤ Z'.2.2 → ia_G X (cells + mc') (slots + ms') (pc + 3) ls (v.toList ++ st) Z' V')
    (kx : ∀ (E : String) (Z' : ia_Z) (V' : ia_H), Q' (.inr E) Z' V' → Z.2.2 ≤ Z'.2.2 → ia_T X (cells + mc') (slots + ms') pc ls Z' V' E) : ia_G X cells slots pc ls stA Z V := by
  intro H locs ad lsA r1 r2 r3 r4 r5 r6 r7 r8
  subst hst
  have r8a : ia_wfl Z.2.2 As := fun v hv => r8 v (List.mem_append_left _ (List.mem_reverse.mpr hv))
  have r8b : ia_wfl Z.2.2 st := fun v hv => r8 v (List.mem_append_right _ hv)
  refine ia_back F (a := (As.map (ia_cv ad)).toArray) r1 r2 r3 r4 r5 r6 r7 r8b ?_ kk kx
  refine vx_runS (As := As.map (ia_cv ad)) ⟨F.1.1, F.1.2.1, F.1.2.2.1, F.1.2.2.2.1, F.1.2.2.2.2.1⟩ (hK X.2.2.2.2.2.2.2.2.2.2.2.1 X.2.1 ad F.1.2.2.2.2.2.2.2.2.2.2.2) (cwS As.length F.1.2.2.2.2.1 (goodIn_sub (fun w h => ?_) ?_) rfl rfl rfl hd (ia_room F hR.1 hR.2.1)) ⟨ia_blind, fun U hU hW => ⟨rfl, by rw [hU]; exact r1, r8a, F.1.2.2.2.2.2.1.warm hW (by rw [hU]; exact r4)⟩⟩ rfl (by rw [List.length_map]) (by exact r5.1) (by rw [List.map_append, List.map_reverse]) (lv_room (ia_catle ad hR.2.2.2.2)) dg ⟨Nat.le_trans hR.2.2.1 F.1.2.2.2.2.2.2.2.2.1, Nat.le_trans hR.2.2.2.1 F.1.2.2.2.2.2.2.2.2.2.1⟩
  · rcases List.mem_append.mp h with h | h
    · rcases List.mem_cons.mp h with e | h
      · subst e; exact hw.2.1
      · rcases List.mem_cons.mp h with e | h
        · subst e; exact hw.2.2.1
        · rw [List.mem_singleton.mp h]; exact hw.2.2.2
    · rcases List.mem_cons.mp h with e | h
      · subst e; exact hw.1
      · exact h
  · refine List.all_eq_true.mpr (fun w h => ?_)
    rcases List.mem_append.mp h with h | h
    · rcases List.mem_cons.mp h with e | h
      · subst e; exact ia_wU_good _ hw.2.1
      · rcases List.mem_cons.mp h with e | h
        · subst e; exact ia_wU_good _ hw.2.2.1
        · rw [List.mem_singleton.mp h]; exact ia_wU_good _ hw.2.2.2
    · rcases List.mem_cons.mp h with e | h
      · subst e; exact ia_wU_good _ hw.1
      · exact ia_wU_good _ h
theorem ia_recv {gl : ia_GL} {ad : Nat → Nat} {H : Heap} {s : State} (hK : va_K gl.1 vwCl (ia_tys gl) s) (r1 : ia_Rep gl ad Z V H) {q ci N : Nat} {C : String} {T : u_T} (hC : vwCl[ci]? = some (C, T, N)) (hq : q < Z.2.2) (hkd : Z.1 q = 10 + ci) : ∃ cellB : Cell, H[ad q]? = some cellB ∧ cellB.vm.isStatics = false ∧ s.vm.findClass C = some cellB.cls := by
  have hg := ia_W_get (gl := gl) (ad := ad) (V := V) hq
  rw [ia_kO hkd] at hg
  exact va_recv hK r1.1 (ci := ci) (q0 := q) hC hg
/-- invokevirtual of a method of the receiver's own class -/
theorem ia_callV (F : ia_Fix X own cc nL d mc ms) {index : Nat} {y : MethodName} {b : ByteArray} {nL' : Nat} {ret : Option FieldType} {As : List (Nat × Int)} {stA : List (Nat × Int)} {d' mc' ms' : Nat} {Q' : ia_O → ia_Z → ia_H → Prop} (q : Nat) {ci N : Nat} {T : u_T} (hC : vwCl[ci]? = some (y.cls, T, N)) (hq : q < Z.2.2) (hkd : Z.1 q = 10 + ci) (hK : ia_K y b nL' ret ((4, (q : Int)) :: As) Z V d' mc' ms' Q') (hst : stA = As.reverse ++ (4, (q : Int)) :: st)
    (hw : Cond.code y b nL' ret ∈ wU ∧ Cond.methodLink own index y ∈ wU ∧ Cond.instanceMethod y ∈ wU ∧ Cond.selects y.cls y y ∈ wU ∧ Cond.initialized y.cls ∈ wU) (hd : y.cls ≠ "java/lang/invoke/MethodHandle" ∧ y.cls ≠ "java/lang/invoke/VarHandle" ∧ (parseMethodDescriptor y.desc).map (fun d => d.parameters.length) = some As.length) (hR : d' + 1 ≤ d ∧ nL' ≤ 40 ∧ cells + mc' ≤ mc ∧ slots + ms' ≤ ms ∧ st.length ≤ 4) (dg : decode cc pc = .ok (.invokevirtual index, 3))
    (kk : ∀ (v : Option (Nat × Int)) (Z' : ia_Z) (V' : ia_H), Q' (.inl v) Z' V' → Z.2.2 ≤ Z'.2.2 → ia_G X (cells + mc') (slots + ms') (pc + 3) ls (v.toList ++ st) Z' V')
    (kx : ∀ (E : String) (Z' : ia_Z) (V' : ia_H), Q' (.inr E) Z' V' → Z.2.2 ≤ Z'.2.2 → ia_T X (cells + mc') (slots + ms') pc ls Z' V' E) : ia_G X cells slots pc ls stA Z V := by
  intro H locs ad lsA r1 r2 r3 r4 r5 r6 r7 r8
  subst hst
  have r8a : ia_wfl Z.2.2 ((4, (q : Int)) :: As) := fun v hv => r8 v (by
    rcases List.mem_cons.mp hv with e | e
    · exact List.mem_append_right _ (List.mem_cons.mpr (Or.inl e))
    · exact List.mem_append_left _ (List.mem_reverse.mpr e))
  have r8b : ia_wfl Z.2.2 st := fun v hv => r8 v (List.mem_append_right _ (List.mem_cons_of_mem _ hv))
  have kM := hK X.2.2.2.2.2.2.2.2.2.2.2.1 X.2.1 ad F.1.2.2.2.2.2.2.2.2.2.2.2
  have cB : CallB X.2.2.2.1 X.2.2.2.2.1 X.2.2.2.2.2.2.1 own index y b nL' ret (.code y b nL' ret :: wU) (ia_rm d' mc' ms') mc' ms' As.length := callB_of As.length F.1.2.2.2.2.1 (ia_goodW hw.1) rfl rfl rfl (F.1.2.2.2.2.1 _ hw.2.2.2.2) (F.1.2.2.2.2.1 _ hw.2.1) hd (ia_room F hR.1 hR.2.1)
  refine ia_back F (a := (Value.ref (ad q) :: As.map (ia_cv ad)).toArray) r1 r2 r3 r4 r5 r6 r7 r8b ?_ kk kx
  refine vx_runV (As := As.map (ia_cv ad)) (b := ad q) (C := y.cls) ⟨F.1.1, F.1.2.1, F.1.2.2.1, F.1.2.2.2.1, F.1.2.2.2.2.1⟩ kM ⟨cB, F.1.2.2.2.2.1 _ hw.2.2.1, F.1.2.2.2.2.1 _ hw.2.2.2.1⟩ ⟨ia_blind, ia_recv F.1.2.2.2.2.2.1.1 r1 hC hq hkd, fun U hU hW => ⟨by rw [List.map_cons, ia_cvR], by rw [hU]; exact r1, r8a, F.1.2.2.2.2.2.1.warm hW (by rw [hU]; exact r4)⟩⟩ rfl (by rw [List.length_map]) (by exact r5.1) (by rw [List.map_append, List.map_reverse, List.map_cons, ia_cvR]) (lv_room (ia_catle ad hR.2.2.2.2)) dg ⟨Nat.le_trans hR.2.2.1 F.1.2.2.2.2.2.2.2.2.1, Nat.le_trans hR.2.2.2.1 F.1.2.2.2.2.2.2.2.2.2.1⟩
/-- a constructor -/
theorem ia_callI (F : ia_Fix X own cc nL d mc ms) {index : Nat} {y : MethodName} {b : ByteArray} {nL' : Nat} {As : List (Nat × Int)} {stA : List (Nat × Int)} {d' mc' ms' : Nat} {Q' : ia_O → ia_Z → ia_H → Prop} (q : Nat) (hK : ia_K y b nL' none ((4, (q : Int)) :: As) Z V d' mc' ms' Q') (hst : stA = As.reverse ++ (4, (q : Int)) :: st)
    (hw : Cond.code y b nL' none ∈ wU ∧ Cond.methodLink own index y ∈ wU ∧ Cond.instanceMethod y ∈ wU ∧ Cond.initialized y.cls ∈ wU) (hd : y.name = "<init>" ∧ y.cls ≠ "java/lang/invoke/MethodHandle" ∧ y.cls ≠ "java/lang/invoke/VarHandle" ∧ (parseMethodDescriptor y.desc).map (fun d => d.parameters.length) = some As.length) (hR : d' + 1 ≤ d ∧ nL' ≤ 40 ∧ cells + mc' ≤ mc ∧ slots + ms' ≤ ms ∧ st.length ≤ 4) (dg : decode cc pc = .ok (.invokespecial index, 3))
    (kk : ∀ (v : Option (Nat × Int)) (Z' : ia_Z) (V' : ia_H), Q' (.inl v) Z' V' → Z.2.2 ≤ Z'.2.2 → ia_G X (cells + mc') (slots + ms') (pc + 3) ls (v.toList ++ st) Z' V')
    (kx : ∀ (E : String) (Z' : ia_Z) (V' : ia_H), Q' (.inr E) Z' V' → Z.2.2 ≤ Z'.2.2 → ia_T X (cells + mc') (slots + ms') pc ls Z' V' E) : ia_G X cells slots pc ls stA Z V := by
  intro H locs ad lsA r1 r2 r3 r4 r5 r6 r7 r8
  subst hst
  have r8a : ia_wfl Z.2.2 ((4, (q : Int)) :: As) := fun v hv => r8 v (by
    rcases List.mem_cons.mp hv with e | e
    · exact List.mem_append_right _ (List.mem_cons.mpr (Or.inl e))
    · exact List.mem_append_left _ (List.mem_reverse.mpr e))
  have r8b : ia_wfl Z.2.2 st := fun v hv => r8 v (List.mem_append_right _ (List.mem_cons_of_mem _ hv))
  have kM := hK X.2.2.2.2.2.2.2.2.2.2.2.1 X.2.1 ad F.1.2.2.2.2.2.2.2.2.2.2.2
  have cB : CallB X.2.2.2.1 X.2.2.2.2.1 X.2.2.2.2.2.2.1 own index y b nL' none (.code y b nL' none :: wU) (ia_rm d' mc' ms') mc' ms' As.length := callB_of As.length F.1.2.2.2.2.1 (ia_goodW hw.1) rfl rfl rfl (F.1.2.2.2.2.1 _ hw.2.2.2) (F.1.2.2.2.2.1 _ hw.2.1) hd.2 (ia_room F hR.1 hR.2.1)
  refine ia_back F (a := (Value.ref (ad q) :: As.map (ia_cv ad)).toArray) r1 r2 r3 r4 r5 r6 r7 r8b ?_ kk kx
  refine vx_runI (As := As.map (ia_cv ad)) (b := ad q) ⟨F.1.1, F.1.2.1, F.1.2.2.1, F.1.2.2.2.1, F.1.2.2.2.2.1⟩ kM ⟨cB, hd.1, F.1.2.2.2.2.1 _ hw.2.2.1⟩ ⟨ia_blind, fun U hU hW => ⟨by rw [List.map_cons, ia_cvR], by rw [hU]; exact r1, r8a, F.1.2.2.2.2.2.1.warm hW (by rw [hU]; exact r4)⟩⟩ rfl (by rw [List.length_map]) (by exact r5.1) (by rw [List.map_append, List.map_reverse, List.map_cons, ia_cvR]) (lv_room (ia_catle ad hR.2.2.2.2)) dg ⟨Nat.le_trans hR.2.2.1 F.1.2.2.2.2.2.2.2.2.1, Nat.le_trans hR.2.2.2.1 F.1.2.2.2.2.2.2.2.2.2.1⟩
theorem ia_cn (F : ia_Fix X own cc nL d mc ms) {index : Nat} {host : String} {y : MethodName} {b : ByteArray} {nL' n : Nat} {ret : Option FieldType} {d' mc' ms' : Nat} (hc : Cond.code y b nL' ret ∈ wU) (hn : Cond.methodLinkNest own index y host ∈ ia_nest) (hi : Cond.initialized y.cls ∈ wU) (hd : y.cls ≠ "java/lang/invoke/MethodHandle" ∧ y.cls ≠ "java/lang/invoke/VarHandle" ∧ (parseMethodDescriptor y.desc).map (fun d => d.parameters.length) = some n) (hR : d' + 1 ≤ d ∧ nL' ≤ 40) : va_CN X.2.2.2.1 X.2.2.2.2.1 X.2.2.2.2.2.2.1 own index y host b nL' ret (.code y b nL' ret :: wU) (ia_rm d' mc' ms') mc' ms' n :=
  va_cnB n F.1.2.2.2.2.1 (ia_goodW hc) rfl rfl rfl (F.1.2.2.2.2.2.1.2.1 _ hn) (F.1.2.2.2.2.1 _ hi) hd (ia_room F hR.1 hR.2)
/-- a constructor of a nest mate -/
theorem ia_callIN (F : ia_Fix X own cc nL d mc ms) {index : Nat} {host : String} {y : MethodName} {b : ByteArray} {nL' : Nat} {As : List (Nat × Int)} {stA : List (Nat × Int)} {d' mc' ms' : Nat} {Q' : ia_O → ia_Z → ia_H → Prop} (q : Nat) (hK : ia_K y b nL' none ((4, (q : Int)) :: As) Z V d' mc' ms' Q') (hst : stA = As.reverse ++ (4, (q : Int)) :: st)
    (hw : Cond.code y b nL' none ∈ wU ∧ Cond.methodLinkNest own index y host ∈ ia_nest ∧ Cond.instanceMethod y ∈ wU ∧ Cond.initialized y.cls ∈ wU) (hd : y.name = "<init>" ∧ y.cls ≠ "java/lang/invoke/MethodHandle" ∧ y.cls ≠ "java/lang/invoke/VarHandle" ∧ (parseMethodDescriptor y.desc).map (fun d => d.parameters.length) = some As.length) (hR : d' + 1 ≤ d ∧ nL' ≤ 40 ∧ cells + mc' ≤ mc ∧ slots + ms' ≤ ms ∧ st.length ≤ 4) (dg : decode cc pc = .ok (.invokespecial index, 3))
    (kk : ∀ (v : Option (Nat × Int)) (Z' : ia_Z) (V' : ia_H), Q' (.inl v) Z' V' → Z.2.2 ≤ Z'.2.2 → ia_G X (cells + mc') (slots + ms') (pc + 3) ls (v.toList ++ st) Z' V')
    (kx : ∀ (E : String) (Z' : ia_Z) (V' : ia_H), Q' (.inr E) Z' V' → Z.2.2 ≤ Z'.2.2 → ia_T X (cells + mc') (slots + ms') pc ls Z' V' E) : ia_G X cells slots pc ls stA Z V := by
  intro H locs ad lsA r1 r2 r3 r4 r5 r6 r7 r8
  subst hst
  have r8a : ia_wfl Z.2.2 ((4, (q : Int)) :: As) := fun v hv => r8 v (by
    rcases List.mem_cons.mp hv with e | e
    · exact List.mem_append_right _ (List.mem_cons.mpr (Or.inl e))
    · exact List.mem_append_left _ (List.mem_reverse.mpr e))
  have r8b : ia_wfl Z.2.2 st := fun v hv => r8 v (List.mem_append_right _ (List.mem_cons_of_mem _ hv))
  refine ia_back F (a := (Value.ref (ad q) :: As.map (ia_cv ad)).toArray) r1 r2 r3 r4 r5 r6 r7 r8b ?_ kk kx
  refine vx_runIN (As := As.map (ia_cv ad)) (b := ad q) ⟨F.1.1, F.1.2.1, F.1.2.2.1, F.1.2.2.2.1, F.1.2.2.2.2.1⟩ (hK X.2.2.2.2.2.2.2.2.2.2.2.1 X.2.1 ad F.1.2.2.2.2.2.2.2.2.2.2.2) ⟨ia_cn (n := As.length) F hw.1 hw.2.1 hw.2.2.2 hd.2 ⟨hR.1, hR.2.1⟩, hd.1, F.1.2.2.2.2.1 _ hw.2.2.1⟩ ⟨ia_blind, fun U hU hW => ⟨by rw [List.map_cons, ia_cvR], by rw [hU]; exact r1, r8a, F.1.2.2.2.2.2.1.warm hW (by rw [hU]; exact r4)⟩⟩ rfl (by rw [List.length_map]) (by exact r5.1) (by rw [List.map_append, List.map_reverse, List.map_cons, ia_cvR]) (lv_room (ia_catle ad hR.2.2.2.2)) dg ⟨Nat.le_trans hR.2.2.1 F.1.2.2.2.2.2.2.2.2.1, Nat.le_trans hR.2.2.2.1 F.1.2.2.2.2.2.2.2.2.2.1⟩
/-- a static method of a nest mate -/
theorem ia_callSN (F : ia_Fix X own cc nL d mc ms) {index : Nat} {host : String} {y : MethodName} {b : ByteArray} {nL' : Nat} {ret : Option FieldType} {As : List (Nat × Int)} {stA : List (Nat × Int)} {d' mc' ms' : Nat} {Q' : ia_O → ia_Z → ia_H → Prop} (hK : ia_K y b nL' ret As Z V d' mc' ms' Q') (hst : stA = As.reverse ++ st)
    (hw : Cond.code y b nL' ret ∈ wU ∧ Cond.methodLinkNest own index y host ∈ ia_nest ∧ Cond.static y ∈ wU ∧ Cond.initialized y.cls ∈ wU) (hd : y.cls ≠ "java/lang/invoke/MethodHandle" ∧ y.cls ≠ "java/lang/invoke/VarHandle" ∧ (parseMethodDescriptor y.desc).map (fun d => d.parameters.length) = some As.length) (hR : d' + 1 ≤ d ∧ nL' ≤ 40 ∧ cells + mc' ≤ mc ∧ slots + ms' ≤ ms ∧ st.length ≤ 4) (dg : decode cc pc = .ok (.invokestatic index, 3))
    (kk : ∀ (v : Option (Nat × Int)) (Z' : ia_Z) (V' : ia_H), Q' (.inl v) Z' V' → Z.2.2 ≤ Z'.2.2 → ia_G X (cells + mc') (slots + ms') (pc + 3) ls (v.toList ++ st) Z' V')
    (kx : ∀ (E : String) (Z' : ia_Z) (V' : ia_H), Q' (.inr E) Z' V' → Z.2.2 ≤ Z'.2.2 → ia_T X (cells + mc') (slots + ms') pc ls Z' V' E) : ia_G X cells slots pc ls stA Z V := by
  intro H locs ad lsA r1 r2 r3 r4 r5 r6 r7 r8
  subst hst
  have r8a : ia_wfl Z.2.2 As := fun v hv => r8 v (List.mem_append_left _ (List.mem_reverse.mpr hv))
  have r8b : ia_wfl Z.2.2 st := fun v hv => r8 v (List.mem_append_right _ hv)
  refine ia_back F (a := (As.map (ia_cv ad)).toArray) r1 r2 r3 r4 r5 r6 r7 r8b ?_ kk kx
  refine vx_runSN (As := As.map (ia_cv ad)) ⟨F.1.1, F.1.2.1, F.1.2.2.1, F.1.2.2.2.1, F.1.2.2.2.2.1⟩ (hK X.2.2.2.2.2.2.2.2.2.2.2.1 X.2.1 ad F.1.2.2.2.2.2.2.2.2.2.2.2) ⟨ia_cn (n := As.length) F hw.1 hw.2.1 hw.2.2.2 hd ⟨hR.1, hR.2.1⟩, F.1.2.2.2.2.1 _ hw.2.2.1, trivial⟩ ⟨ia_blind, fun U hU hW => ⟨rfl, by rw [hU]; exact r1, r8a, F.1.2.2.2.2.2.1.warm hW (by rw [hU]; exact r4)⟩⟩ rfl (by rw [List.length_map]) (by exact r5.1) (by rw [List.map_append, List.map_reverse]) (lv_room (ia_catle ad hR.2.2.2.2)) dg ⟨Nat.le_trans hR.2.2.1 F.1.2.2.2.2.2.2.2.2.1, Nat.le_trans hR.2.2.2.1 F.1.2.2.2.2.2.2.2.2.2.1⟩
end IAK
