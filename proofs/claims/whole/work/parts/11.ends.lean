/-! the entry of a method, and its ends -/
def ia_ent (args : List (Nat × Int)) (nL : Nat) : List (Nat × Int) := args ++ List.replicate (nL - args.length) (9, 0)
/-- what a method's own body knows of its frame -/
def ia_Me (X : ia_X) (ret : Option FieldType) (nm : String) (mc ms : Nat) (Q : ia_O → ia_Z → ia_H → Prop) : Prop :=
  X.2.2.2.2.2.2.2.2.2.2.1 = vx_MQ X.2.2.2.2.2.2.2.1 (ia_Qc X.2.2.2.2.2.2.2.2.2.2.2.1 X.2.2.2.2.2.2.2.2.2.2.2.2.2.1 X.2.2.2.2.2.2.2.2.2.2.2.2.2.2 Q) (ia_XC X.2.2.2.2.2.2.2.2.2.2.2.1 X.2.2.2.2.2.2.2.2.2.2.2.2.2.1 X.2.2.2.2.2.2.2.2.2.2.2.2.2.2 Q) X.2.2.2.2.2.2.1 X.2.2.2.2.1 mc ms (fun q => X.2.2.2.2.2.2.2.2.2.2.2.1.2.2.1 ≤ q) ∧
  X.2.2.2.2.2.2.2.2.1.sig.returnType = ret ∧ X.2.2.2.2.2.2.2.2.1.name = nm ∧ ∀ x ∈ X.2.2.2.2.2.2.2.2.2.1.exceptionTable.toList, False
theorem ia_lv_args (ad : Nat → Nat) : ∀ (l : List (Nat × Int)) (k i : Nat) (v : Nat × Int), (∀ u ∈ l, u.1 = 0 ∨ u.1 = 2 ∨ u.1 = 4) → l[i]? = some v → (k + i, ia_cv ad v) ∈ lv_args k (l.map (ia_cv ad))
  | [], k, i, v, _, h => by simp at h
  | u :: l, k, 0, v, _, h => by
    simp at h
    subst h
    rw [List.map_cons]
    exact List.mem_cons_self
  | u :: l, k, i + 1, v, hl, h => by
    rw [List.map_cons, lv_args, ia_cat1 ad (hl u List.mem_cons_self)]
    have := ia_lv_args ad l (k + 1) i v (fun w hw => hl w (List.mem_cons_of_mem _ hw)) (by simpa using h)
    rw [show k + (i + 1) = k + 1 + i by omega]
    exact List.mem_cons_of_mem _ this
theorem ia_sl_len (ad : Nat → Nat) : ∀ l : List (Nat × Int), (∀ u ∈ l, u.1 = 0 ∨ u.1 = 2 ∨ u.1 = 4) → (lg_sl (l.map (ia_cv ad))).length = l.length
  | [], _ => rfl
  | u :: l, h => by
    have ih := ia_sl_len ad l (fun w hw => h w (List.mem_cons_of_mem _ hw))
    have hc := ia_cat1 ad (h u List.mem_cons_self)
    simp [lg_sl, hc] at ih ⊢
    omega
theorem ia_ent_has (ad : Nat → Nat) {args : List (Nat × Int)} {nL : Nat} (h : args.length ≤ nL) (ht : ∀ u ∈ args, u.1 = 0 ∨ u.1 = 2 ∨ u.1 = 4) : lv_has ((lg_sl (args.map (ia_cv ad)) ++ List.replicate (nL - (lg_sl (args.map (ia_cv ad))).length) Slot.unset).toArray) nL (ia_L ad (ia_ent args nL)) := by
  have e := lv_entry (args.map (ia_cv ad)) (n := nL) (by rw [ia_sl_len ad args ht]; exact h)
  refine ⟨e.1, e.2.1, fun q hq => e.2.2 q ?_⟩
  obtain ⟨v, hv, h9, e2⟩ := ia_L_mem.mp hq
  unfold ia_ent at hv
  by_cases hl : q.1 < args.length
  · rw [List.getElem?_append_left hl] at hv
    have := ia_lv_args ad args 0 q.1 v ht hv
    rw [Nat.zero_add, ← e2] at this
    exact this
  · rw [List.getElem?_append_right (by omega)] at hv
    have := List.mem_of_getElem? hv
    rw [List.eq_of_mem_replicate this] at h9
    exact absurd rfl h9
theorem ia_start {y : MethodName} {b : ByteArray} {nL : Nat} {ret : Option FieldType} {args : List (Nat × Int)} {Z : ia_Z} {V : ia_H} {d mc ms : Nat} {Q : ia_O → ia_Z → ia_H → Prop} (own nm : String) (hy : plainName y.cls = true ∧ y.cls = own ∧ y.name = nm) (hn : args.length ≤ nL) (ht : ∀ u ∈ args, u.1 = 0 ∨ u.1 = 2 ∨ u.1 = 4)
    (body : ∀ X : ia_X, ia_Fix X own b nL d mc ms → ia_Me X ret nm mc ms Q → ia_G X 0 0 0 (ia_ent args nL) [] Z V) : ia_K y b nL ret args Z V d mc ms Q := by
  intro gl l ad hl
  refine vx_ofW (cc := b) (maxL := nL) (ret := ret) hy.1 rfl ?_
  intro p e s m a below meth c s₁ B hml hno hP
  obtain ⟨rfl, hRep, hwf, hKn⟩ := hP
  have hts := atoms_spec (ws := .code y b nL ret :: wU) B.pre
  have hown : s.vm.findClass own = some m.cls := by rw [← hy.2.1]; exact findClass_of_methodNamed B.named
  rw [lg_entry_eq]
  have F : ia_Fix (p, l, e, ia_rm d mc ms, s, m, (args.map (ia_cv ad)).toArray, below, meth, c, vx_MQ below (ia_Qc gl ad Z.2.2 Q) (ia_XC gl ad Z.2.2 Q) (args.map (ia_cv ad)).toArray s mc ms (fun q => gl.2.2.1 ≤ q), gl, nL, ad, Z.2.2) own b nL d mc ms :=
    ⟨⟨B.exec, B.bytes, hml, hown, fun w hw => hts w (List.mem_cons_of_mem _ hw), hKn, Nat.le_refl _, Nat.le_refl _, Nat.le_refl _, Nat.le_refl _, B.notSynchronized, hl⟩, rfl⟩
  have M : ia_Me (p, l, e, ia_rm d mc ms, s, m, (args.map (ia_cv ad)).toArray, below, meth, c, vx_MQ below (ia_Qc gl ad Z.2.2 Q) (ia_XC gl ad Z.2.2 Q) (args.map (ia_cv ad)).toArray s mc ms (fun q => gl.2.2.1 ≤ q), gl, nL, ad, Z.2.2) ret nm mc ms Q :=
    ⟨rfl, B.returns, by rw [(name_of_methodNamed B.named B.method).1]; exact hy.2.2, hno⟩
  exact body _ F M s.heap [] ad _ hRep (Nat.le_refl _) (fun _ _ => rfl) va_S.rf (ia_ent_has ad hn ht) (by
    show (ia_ent args nL).length = nL
    unfold ia_ent
    rw [List.length_append, List.length_replicate]
    omega) (fun v hv => by
    rcases List.mem_append.mp hv with h | h
    · exact hwf v h
    · rw [List.eq_of_mem_replicate h]; exact ia_wfi (by decide)) (fun v hv => by cases hv)
section IAE
variable {X : ia_X} {own nm : String} {cc : ByteArray} {nL d mc ms cells slots pc : Nat} {ls st : List (Nat × Int)} {Z : ia_Z} {V : ia_H} {Q : ia_O → ia_Z → ia_H → Prop}
theorem ia_ireturn (F : ia_Fix X own cc nL d mc ms) (M : ia_Me X (some .int) nm mc ms Q) {x : Int} (hc : cells ≤ mc) (hs : slots ≤ ms) (dg : decode cc pc = .ok (.ireturn, 1)) (hQ : Q (.inl (some (0, x))) Z V) : ia_G X cells slots pc ls [(0, x)] Z V := by
  intro H locs ad lsA r1 r2 r3 r4 r5 r6 r7 r8
  rw [M.1]
  exact vx_ret (W.widen hc hs (W.iret F.1.1 F.1.2.1 M.2.1 (fun t ht hW => ⟨some (0, x), Z, V, ad, rfl, hQ, by rw [ht]; exact r1, r2, r3, r4.F ht, fun u hu => by cases hu; exact ia_wfh r8⟩) r4.2.2 dg F.1.2.2.2.2.2.2.2.2.2.2.1))
theorem ia_zreturn (F : ia_Fix X own cc nL d mc ms) (M : ia_Me X (some .boolean) nm mc ms Q) {x : Int} (hx : x = 0 ∨ x = 1) (hc : cells ≤ mc) (hs : slots ≤ ms) (dg : decode cc pc = .ok (.ireturn, 1)) (hQ : Q (.inl (some (0, x))) Z V) : ia_G X cells slots pc ls [(0, x)] Z V := by
  intro H locs ad lsA r1 r2 r3 r4 r5 r6 r7 r8
  rw [M.1]
  exact vx_ret (W.widen hc hs (W.zret F.1.1 F.1.2.1 M.2.1 (by rcases hx with rfl | rfl <;> rfl) (fun t ht hW => ⟨some (0, x), Z, V, ad, rfl, hQ, by rw [ht]; exact r1, r2, r3, r4.F ht, fun u hu => by cases hu; exact ia_wfh r8⟩) r4.2.2 dg F.1.2.2.2.2.2.2.2.2.2.2.1))
theorem ia_creturn (F : ia_Fix X own cc nL d mc ms) (M : ia_Me X (some .char) nm mc ms Q) {x : Nat} (hx : x < 65536) (hc : cells ≤ mc) (hs : slots ≤ ms) (dg : decode cc pc = .ok (.ireturn, 1)) (hQ : Q (.inl (some (0, (x : Int)))) Z V) : ia_G X cells slots pc ls [(0, (x : Int))] Z V := by
  intro H locs ad lsA r1 r2 r3 r4 r5 r6 r7 r8
  rw [M.1]
  exact vx_ret (W.widen hc hs (W.zret F.1.1 F.1.2.1 M.2.1 (pk_charN (q := x) hx).1 (fun t ht hW => ⟨some (0, (x : Int)), Z, V, ad, rfl, hQ, by rw [ht]; exact r1, r2, r3, r4.F ht, fun u hu => by cases hu; exact ia_wfh r8⟩) r4.2.2 dg F.1.2.2.2.2.2.2.2.2.2.2.1))
theorem ia_lreturn (F : ia_Fix X own cc nL d mc ms) (M : ia_Me X (some .long) nm mc ms Q) {x : Int} (hc : cells ≤ mc) (hs : slots ≤ ms) (dg : decode cc pc = .ok (.lreturn, 1)) (hQ : Q (.inl (some (1, x))) Z V) : ia_G X cells slots pc ls [(1, x)] Z V := by
  intro H locs ad lsA r1 r2 r3 r4 r5 r6 r7 r8
  rw [M.1]
  exact vx_ret (W.widen hc hs (W.lret F.1.1 F.1.2.1 M.2.1 (fun t ht hW => ⟨some (1, x), Z, V, ad, rfl, hQ, by rw [ht]; exact r1, r2, r3, r4.F ht, fun u hu => by cases hu; exact ia_wfh r8⟩) r4.2.2 dg F.1.2.2.2.2.2.2.2.2.2.2.1))
theorem ia_freturn (F : ia_Fix X own cc nL d mc ms) (M : ia_Me X (some .float) nm mc ms Q) {x : Int} (hc : cells ≤ mc) (hs : slots ≤ ms) (dg : decode cc pc = .ok (.freturn, 1)) (hQ : Q (.inl (some (2, x))) Z V) : ia_G X cells slots pc ls [(2, x)] Z V := by
  intro H locs ad lsA r1 r2 r3 r4 r5 r6 r7 r8
  rw [M.1]
  exact vx_ret (W.widen hc hs (W.fret F.1.1 F.1.2.1 M.2.1 (fun t ht hW => ⟨some (2, x), Z, V, ad, rfl, hQ, by rw [ht]; exact r1, r2, r3, r4.F ht, fun u hu => by cases hu; exact ia_wfh r8⟩) r4.2.2 dg F.1.2.2.2.2.2.2.2.2.2.2.1))
theorem ia_dreturn (F : ia_Fix X own cc nL d mc ms) (M : ia_Me X (some .double) nm mc ms Q) {x : Int} (hc : cells ≤ mc) (hs : slots ≤ ms) (dg : decode cc pc = .ok (.dreturn, 1)) (hQ : Q (.inl (some (3, x))) Z V) : ia_G X cells slots pc ls [(3, x)] Z V := by
  intro H locs ad lsA r1 r2 r3 r4 r5 r6 r7 r8
  rw [M.1]
  exact vx_ret (W.widen hc hs (W.dret F.1.1 F.1.2.1 M.2.1 (fun t ht hW => ⟨some (3, x), Z, V, ad, rfl, hQ, by rw [ht]; exact r1, r2, r3, r4.F ht, fun u hu => by cases hu; exact ia_wfh r8⟩) r4.2.2 dg F.1.2.2.2.2.2.2.2.2.2.2.1))
theorem ia_areturn (F : ia_Fix X own cc nL d mc ms) {rt : FieldType} (M : ia_Me X (some rt) nm mc ms Q) (hrt : (∃ n, rt = .object n) ∨ ∃ t, rt = .array t) {x : Int} (hc : cells ≤ mc) (hs : slots ≤ ms) (dg : decode cc pc = .ok (.areturn, 1)) (hQ : Q (.inl (some (4, x))) Z V) : ia_G X cells slots pc ls [(4, x)] Z V := by
  intro H locs ad lsA r1 r2 r3 r4 r5 r6 r7 r8
  rw [M.1]
  exact vx_ret (W.widen hc hs (W.aret F.1.1 F.1.2.1 M.2.1 hrt (va_rf_or (ia_rf ad x)) (fun t ht hW => ⟨some (4, x), Z, V, ad, rfl, hQ, by rw [ht]; exact r1, r2, r3, r4.F ht, fun u hu => by cases hu; exact ia_wfh r8⟩) r4.2.2 dg F.1.2.2.2.2.2.2.2.2.2.2.1))
theorem ia_return (F : ia_Fix X own cc nL d mc ms) (M : ia_Me X none nm mc ms Q) (hc : cells ≤ mc) (hs : slots ≤ ms) (dg : decode cc pc = .ok (.return_, 1)) (hQ : Q (.inl none) Z V) : ia_G X cells slots pc ls [] Z V := by
  intro H locs ad lsA r1 r2 r3 r4 r5 r6 r7 r8
  rw [M.1]
  exact vx_ret (W.widen hc hs (W.vret F.1.1 F.1.2.1 M.2.1 (fun t ht hW => ⟨none, Z, V, ad, rfl, hQ, by rw [ht]; exact r1, r2, r3, r4.F ht, fun u hu => by cases hu⟩) r4.2.2 dg F.1.2.2.2.2.2.2.2.2.2.2.1))
/-- an exception leaves a method that catches nothing -/
theorem ia_out (F : ia_Fix X own cc nL d mc ms) {ret : Option FieldType} (M : ia_Me X ret nm mc ms Q) {E : String} (hc : cells ≤ mc) (hs : slots ≤ ms) (hQ : Q (.inr E) Z V) : ia_T X cells slots pc ls Z V E := by
  intro H locs ad lsA rest q ce r1 r2 r3 r4 r5 r6 r7 h1 h2 h3
  rw [M.1]
  exact vx_out (fun x hx => (M.2.2.2 x hx).elim) F.1.2.2.2.2.2.2.2.2.2.2.1 h1 h2 h3 (fun t ht hv => ⟨Z, V, ad, hQ, by rw [ht]; exact r1, r2, r3, r4.F ht⟩) r4.2.2 hc hs
theorem ia_nest_on {w : Cond} (h : w ∈ ia_nest) : w.onTables = true := by
  have h2 := (List.mem_filter.mp h).2
  cases w <;> first | rfl | (exact absurd h2 (by simp))
/-- throw new X(text) -/
theorem ia_throw (F : ia_Fix X RX7 cc nL d mc ms) {ret : Option FieldType} (M : ia_Me X ret nm mc ms Q) {cls text : String} {names : List String} {ik is ic : Nat} (hcls : Bundle.fit cls = true) (hnames : ∀ n ∈ names, Bundle.fit n = true)
    (hk : Cond.classLink RX7 ik cls ∈ wU) (hini : Cond.initialized cls ∈ wU) (hstr : (RX7, is, text) ∈ ia_strs) (hat : ∀ w ∈ vx_atS RX7 ic cls names, w ∈ wU ∨ w ∈ ia_nest)
    (hgood : ∀ w ∈ Cond.classLink RX7 ik cls :: Cond.initialized cls :: vx_atS RX7 ic cls names, vx_ot w = true)
    (d0 : decode cc pc = .ok (.new ik, 3)) (d3 : decode cc (pc + 3) = .ok (.dup, 1)) (d4 : decode cc (pc + 4) = .ok (.ldc is, 2)) (d6 : decode cc (pc + 6) = .ok (.invokespecial ic, 3)) (d9 : decode cc (pc + 9) = .ok (.athrow, 1))
    (hR : names.length + 3 < d ∧ names.length ≤ 4 ∧ st.length ≤ 4 ∧ cells + 1 ≤ mc ∧ slots + 6 ≤ ms) (hQ : Q (.inr cls) Z V) : ia_G X cells slots pc ls st Z V := by
  intro H locs ad lsA r1 r2 r3 r4 r5 r6 r7 r8
  rw [M.1]
  obtain ⟨-, -, kS, ⟨kT, -⟩, -⟩ := F.1.2.2.2.2.2.1
  obtain ⟨sa, hsa⟩ := kT _ hstr
  have hf := F.1.2.2.2.2.2.2.1
  have hlc := F.1.2.2.2.2.2.2.2.1
  have hcat := ia_catle ad hR.2.2.1
  refine vx_throwS F.1.1 F.1.2.1 F.1.2.2.2.2.2.2.2.2.2.2.2 F.1.2.2.2.1 hcls hnames (F.1.2.2.2.2.1 _ hk) (F.1.2.2.2.2.1 _ hini) hsa (fun w hw => ?_) hgood kS.1.1 kS.1.2 r4 (by rw [r5.1]; exact F.1.2.2.1.symm) d0 d3 d4 d6 d9 (fun x hx => (M.2.2.2 x hx).elim) (by omega) (by omega) (by have := F.1.2.2.2.2.2.2.2.2.1; omega) (by have := F.1.2.2.2.2.2.2.2.2.2.1; omega) F.1.2.2.2.2.2.2.2.2.2.2.1 (fun t hv hz hq => ?_) r4.2.2 hR.2.2.2.1 hR.2.2.2.2
  · rcases hat w hw with h | h
    · exact F.1.2.2.2.2.1 _ h
    · exact va_Nw.use (ia_nest_on h) (F.1.2.2.2.2.2.1.2.1 _ h)
  · refine ⟨Z, V, ad, hQ, ⟨r1.1.kept (fun k q hk => hq _ (va_at.lt (r1.1 k q hk))), r1.2⟩, r2, r3, ⟨Nat.le_trans r4.1 hz, fun q h1 h2 => by rw [hq q (Nat.lt_of_lt_of_le h1 r4.1)]; exact r4.2.1 q h1 h2⟩⟩
end IAE
