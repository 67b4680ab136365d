/-! methods with a table of handlers: contracts, entry, catch -/
def ia_KH (y : MethodName) (b : ByteArray) (nL : Nat) (ret : Option FieldType) (hh : List (Nat × Nat × Nat × Nat)) (args : List (Nat × Int)) (Z : ia_Z) (V : ia_H) (d mc ms : Nat) (Q : ia_O → ia_Z → ia_H → Prop) : Prop :=
  ∀ (gl : ia_GL) (l : Launch) (ad : Nat → Nat), l.stackTraces = false → vx_Met l y (.codeWith y b nL ret hh :: wU) (ia_rm d mc ms) (ia_Pc gl ad args Z V) (ia_Qc gl ad Z.2.2 Q) (ia_XC gl ad Z.2.2 Q) mc ms (fun q => gl.2.2.1 ≤ q)
def ia_MeH (X : ia_X) (ret : Option FieldType) (nm : String) (mc ms : Nat) (Q : ia_O → ia_Z → ia_H → Prop) (hh : List (Nat × Nat × Nat × Nat)) : Prop :=
  X.2.2.2.2.2.2.2.2.2.2.1 = vx_MQ X.2.2.2.2.2.2.2.1 (ia_Qc X.2.2.2.2.2.2.2.2.2.2.2.1 X.2.2.2.2.2.2.2.2.2.2.2.2.2.1 X.2.2.2.2.2.2.2.2.2.2.2.2.2.2 Q) (ia_XC X.2.2.2.2.2.2.2.2.2.2.2.1 X.2.2.2.2.2.2.2.2.2.2.2.2.2.1 X.2.2.2.2.2.2.2.2.2.2.2.2.2.2 Q) X.2.2.2.2.2.2.1 X.2.2.2.2.1 mc ms (fun q => X.2.2.2.2.2.2.2.2.2.2.2.1.2.2.1 ≤ q) ∧
  X.2.2.2.2.2.2.2.2.1.sig.returnType = ret ∧ X.2.2.2.2.2.2.2.2.1.name = nm ∧ X.2.2.2.2.2.2.2.2.2.1.exceptionTable.toList = tableOf hh
theorem ia_L_sk {ad : Nat → Nat} {ls : List (Nat × Int)} {lsA : Array Slot} {nL i : Nat} {w : Value} {x : Int} (h : lv_has lsA nL ((i, w) :: (ia_L ad ls).filter (fun q => !(q.1 == i) && !(q.1 + 1 == i && q.2.category == 2)))) (hok : ia_ok1 ls i = true) (h9 : ls[i]? = some (9, x)) : lv_has lsA nL (ia_L ad ls) := by
  refine ⟨h.1, h.2.1, fun q hq => h.2.2 q ?_⟩
  obtain ⟨u, hu, hu9, e⟩ := ia_L_mem.mp hq
  have hi : q.1 ≠ i := fun e1 => by
    rw [e1, h9] at hu
    cases hu
    exact hu9 rfl
  refine List.mem_cons_of_mem _ (List.mem_filter.mpr ⟨hq, ?_⟩)
  have h1 : (q.1 == i) = false := by simp; exact hi
  rw [h1]
  cases i with
  | zero => simp
  | succ j =>
    by_cases hj : q.1 = j
    · subst hj
      unfold ia_ok1 at hok
      dsimp only at hok
      rw [hu] at hok
      simp at hok
      rw [e]
      have : (ia_cv ad u).category ≠ 2 := by
        obtain ⟨t, x⟩ := u
        dsimp only at hok hu9
        match t, hok, hu9 with
        | 0, _, _ => exact (show (1 : Nat) ≠ 2 by decide)
        | 1, hok, _ => exact absurd rfl hok.1
        | 2, _, _ => exact (show (1 : Nat) ≠ 2 by decide)
        | 3, hok, _ => exact absurd rfl hok.2
        | n + 5, _, _ => exact (show (1 : Nat) ≠ 2 by decide)
        | 4, _, _ =>
          show (va_rf (ia_rf ad x)).category ≠ 2
          rcases va_rf_or (ia_rf ad x) with h | ⟨a, h⟩ <;> rw [h] <;> exact (show (1 : Nat) ≠ 2 by decide)
      simp [this]
    · have h2 : (q.1 == j) = false := by simp; exact hj
      simp [h2]
theorem ia_startH {y : MethodName} {b : ByteArray} {nL : Nat} {ret : Option FieldType} {hh : List (Nat × Nat × Nat × Nat)} {args : List (Nat × Int)} {Z : ia_Z} {V : ia_H} {d mc ms : Nat} {Q : ia_O → ia_Z → ia_H → Prop} (own nm : String) (hy : plainName y.cls = true ∧ y.cls = own ∧ y.name = nm) (hn : args.length ≤ nL) (ht : ∀ u ∈ args, u.1 = 0 ∨ u.1 = 2 ∨ u.1 = 4)
    (body : ∀ X : ia_X, ia_Fix X own b nL d mc ms → ia_MeH X ret nm mc ms Q hh → ia_G X 0 0 0 (ia_ent args nL) [] Z V) : ia_KH y b nL ret hh args Z V d mc ms Q := by
  intro gl l ad hl
  refine vx_ofWH (cc := b) (maxL := nL) (ret := ret) (hh := hh) hy.1 rfl ?_
  intro p e s m a below meth c s₁ B hml hP
  obtain ⟨rfl, hRep, hwf, hKn⟩ := hP
  have hts := atoms_spec (ws := .codeWith y b nL ret hh :: wU) B.pre
  have hown : s.vm.findClass own = some m.cls := by rw [← hy.2.1]; exact findClass_of_methodNamed B.named
  have hno := vx_table (x := y) B (hts _ List.mem_cons_self)
  rw [lg_entry_eq]
  have F : ia_Fix (p, l, e, ia_rm d mc ms, s, m, (args.map (ia_cv ad)).toArray, below, meth, c, vx_MQ below (ia_Qc gl ad Z.2.2 Q) (ia_XC gl ad Z.2.2 Q) (args.map (ia_cv ad)).toArray s mc ms (fun q => gl.2.2.1 ≤ q), gl, nL, ad, Z.2.2) own b nL d mc ms :=
    ⟨⟨B.exec, B.bytes, hml, hown, fun w hw => hts w (List.mem_cons_of_mem _ hw), hKn, Nat.le_refl _, Nat.le_refl _, Nat.le_refl _, Nat.le_refl _, B.notSynchronized, hl⟩, rfl⟩
  have M : ia_MeH (p, l, e, ia_rm d mc ms, s, m, (args.map (ia_cv ad)).toArray, below, meth, c, vx_MQ below (ia_Qc gl ad Z.2.2 Q) (ia_XC gl ad Z.2.2 Q) (args.map (ia_cv ad)).toArray s mc ms (fun q => gl.2.2.1 ≤ q), gl, nL, ad, Z.2.2) ret nm mc ms Q hh :=
    ⟨rfl, B.returns, by rw [(name_of_methodNamed B.named B.method).1]; exact hy.2.2, hno⟩
  exact body _ F M s.heap [] ad _ hRep (Nat.le_refl _) (fun _ _ => rfl) va_S.rf (ia_ent_has ad hn ht) (by
    show (ia_ent args nL).length = nL
    unfold ia_ent
    rw [List.length_append, List.length_replicate]
    omega) (fun v hv => by
    rcases List.mem_append.mp hv with h | h
    · exact hwf v h
    · rw [List.eq_of_mem_replicate h]; exact ia_wfi (by decide)) (fun v hv => by cases hv)
section IAH
variable {X : ia_X} {own nm : String} {cc : ByteArray} {nL d mc ms cells slots pc : Nat} {ls : List (Nat × Int)} {Z : ia_Z} {V : ia_H} {Q : ia_O → ia_Z → ia_H → Prop} {hh : List (Nat × Nat × Nat × Nat)}
theorem ia_ireturnH (F : ia_Fix X own cc nL d mc ms) (M : ia_MeH X (some .int) nm mc ms Q hh) {x : Int} (hc : cells ≤ mc) (hs : slots ≤ ms) (dg : decode cc pc = .ok (.ireturn, 1)) (hQ : Q (.inl (some (0, x))) Z V) : ia_G X cells slots pc ls [(0, x)] Z V := by
  intro H locs ad lsA r1 r2 r3 r4 r5 r6 r7 r8
  rw [M.1]
  exact vx_ret (W.widen hc hs (W.iret F.1.1 F.1.2.1 M.2.1 (fun t ht hW => ⟨some (0, x), Z, V, ad, rfl, hQ, by rw [ht]; exact r1, r2, r3, r4.F ht, fun u hu => by cases hu; exact ia_wfh r8⟩) r4.2.2 dg F.1.2.2.2.2.2.2.2.2.2.2.1))
/-- caught, and put away in a local that holds nothing -/
theorem ia_catch (F : ia_Fix X own cc nL d mc ms) {ret : Option FieldType} (M : ia_MeH X ret nm mc ms Q hh) {E : String} (pre : List (Nat × Nat × Nat × Nat)) (x : Nat × Nat × Nat × Nat) (suf : List (Nat × Nat × Nat × Nat)) (name : String) (hsp : hh = pre ++ x :: suf) (hp : ∀ z ∈ pre, z.2.2.2 ≠ 0 ∧ ∃ nz, Cond.classLink own z.2.2.2 nz ∈ wU ∧ (E, nz) ∈ ia_ncs) (hx : x.1 ≤ pc ∧ pc < x.2.1 ∧ x.2.2.2 ≠ 0) (hl : Cond.classLink own x.2.2.2 name ∈ wU) (hc : Cond.castable E name ∈ ia_nest) {k : Fin 4} (dg : decode cc x.2.2.1 = .ok (.astore_n k, 1)) (hk : ls[(k : Nat)]? = some (9, 0)) (hok : ia_ok1 ls (k : Nat) = true) (kk : ia_G X cells slots (x.2.2.1 + 1) ls [] Z V) : ia_T X cells slots pc ls Z V E := by
  intro H locs ad lsA rest q ce r1 r2 r3 r4 r5 r6 r7 h1 h2 h3
  refine vx_catch (name := name) F.1.2.2.2.1 (tableOf pre) ⟨x.1, x.2.1, x.2.2.1, x.2.2.2⟩ (tableOf suf) (by rw [M.2.2.2, hsp]; unfold tableOf; rw [List.map_append, List.map_cons]) (fun z hz => Or.inr ?_) (by simp [covers, hx.1, hx.2.1]) hx.2.2 (F.1.2.2.2.2.1 _ hl) (va_Nw.use (ia_nest_on hc) (F.1.2.2.2.2.2.1.2.1 _ hc)) h1 h2 h3 ?_
  · obtain ⟨w, hw, rfl⟩ := List.mem_map.mp hz
    obtain ⟨n0, nz, a, b⟩ := hp w hw
    exact ⟨n0, nz, F.1.2.2.2.2.1 _ a, F.1.2.2.2.2.2.1.2.2.2.1.2.2.1 _ b⟩
  · exact lv_astore_n F.1.1 F.1.2.1 dg rfl r5 (by rw [← r6]; exact (List.getElem?_eq_some_iff.mp hk).1) rfl (fun ls9 h9 => kk H locs ad ls9 r1 r2 r3 r4 (ia_L_sk h9 hok hk) r6 r7 (fun v hv => by cases hv))
end IAH
