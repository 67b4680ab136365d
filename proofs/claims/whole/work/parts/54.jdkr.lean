/-! rules for the JDK's own methods (made by wip/whole/mkjdk.py) -/
theorem isup_J4 : Cond.superclass RJ4 RJ5 ∈ wU := tb1 (List.mem_of_getElem? (i := 232) (by decide +kernel)) rfl
theorem ism_J5_setLength_d00df : Cond.sameMethod yJ5_setLength_d00df.cls yJ5_setLength_d00df.cls yJ5_setLength_d00df.name yJ5_setLength_d00df.desc ∈ wU := tb9 (List.mem_of_getElem? (i := 1) (by decide +kernel)) rfl
theorem ism_J5_append_c97b9 : Cond.sameMethod yJ5_append_c97b9.cls yJ5_append_c97b9.cls yJ5_append_c97b9.name yJ5_append_c97b9.desc ∈ wU := tb9 (List.mem_of_getElem? (i := 9) (by decide +kernel)) rfl
theorem ism_J5_append_3fe6f : Cond.sameMethod yJ5_append_3fe6f.cls yJ5_append_3fe6f.cls yJ5_append_3fe6f.name yJ5_append_3fe6f.desc ∈ wU := tb9 (List.mem_of_getElem? (i := 10) (by decide +kernel)) rfl
theorem ism_J5_charAt_5068e : Cond.sameMethod yJ5_charAt_5068e.cls yJ5_charAt_5068e.cls yJ5_charAt_5068e.name yJ5_charAt_5068e.desc ∈ wU := tb9 (List.mem_of_getElem? (i := 12) (by decide +kernel)) rfl
theorem ism_J5_length_8abf5 : Cond.sameMethod yJ5_length_8abf5.cls yJ5_length_8abf5.cls yJ5_length_8abf5.name yJ5_length_8abf5.desc ∈ wU := tb4 (List.mem_of_getElem? (i := 134) (by decide +kernel)) rfl
theorem ism_J5_ensureCapacityInternal_d00df : Cond.sameMethod yJ5_ensureCapacityInternal_d00df.cls yJ5_ensureCapacityInternal_d00df.cls yJ5_ensureCapacityInternal_d00df.name yJ5_ensureCapacityInternal_d00df.desc ∈ wU := tb9 (List.mem_of_getElem? (i := 4) (by decide +kernel)) rfl
theorem ism_J5_newCapacity_0f7a4 : Cond.sameMethod yJ5_newCapacity_0f7a4.cls yJ5_newCapacity_0f7a4.cls yJ5_newCapacity_0f7a4.name yJ5_newCapacity_0f7a4.desc ∈ wU := tb9 (List.mem_of_getElem? (i := 5) (by decide +kernel)) rfl
theorem isl_J5_isLatin1 : Cond.selects RJ4 yJ5_isLatin1_aae02 yJ5_isLatin1_aae02 ∈ wU := tb4 (List.mem_of_getElem? (i := 18) (by decide +kernel)) rfl
section JD1
variable {p : Program} {l : Launch} {e : Env} {R : Room} {s : State} {m : MethodId} {args : Array Value} {below : List Frame} {meth : Method} {c : Code} {T : State} {locs : List Loc} {cells slots : Nat}
theorem vx_callSU (X : Stand p l e R s m args below meth c T locs cells slots) (hexec : p.tables.exec = Jvm.exec) {own : String} {index : Nat} {y : MethodName} {bytes : ByteArray} {maxL : Nat} {ret : Option FieldType}
    (hown : s.vm.findClass own = some m.cls) (hlink : (Cond.methodLink own index y).before args s = true) (hsame : (Cond.sameMethod y.cls y.cls y.name y.desc).before args s = true) (hsup : (Cond.superclass own y.cls).before args s = true)
    (hinst : (Cond.instanceMethod y).before args s = true) (hcode : (Cond.code y bytes maxL ret).before args s = true) (hno : y.name ≠ "<init>")
    {W9 : Nat} {Pre : Pt → Array Value → Prop} {Post : Pt → Array Value → Option Value → Pt → Prop} {PostX : Pt → Array Value → Addr → Pt → Prop} (hK : vx_Back l R p e below s args y 3 W9 Pre Post PostX)
    {b : Addr} {cellB : Cell} {kB : Class} (hcell : T.heap[b]? = some cellB) (hobj : cellB.vm.isStatics = false) (hkB : s.vm.classes[cellB.cls]? = some kB)
    {g : JFrame} (hg : g.method = m) (hsize : g.locals.size = c.maxLocals) {argsL rest : List Value} (hlen : ∀ sig, parseMethodDescriptor y.desc = some sig → argsL.length = sig.parameters.length)
    (hstack : g.stack = argsL.reverse ++ .ref b :: rest) (hW : 2 * g.monitorRoom + (rest.map fun v => v.category).sum ≤ W9) (hdg : decode c.code g.pc = .ok (.invokespecial index, 3))
    (hpre : ∀ vm₁, s.WarmedH vm₁ → Pre ⟨T.setVm vm₁, locs, cells, slots⟩ (Value.ref b :: argsL).toArray) :
    (∃ (v : Option Value) (vm₁ : Vm) (B : Pt), s.WarmedH vm₁ ∧ Stand p l e R s m args below meth c B.U B.locs B.cells B.slots ∧ Post ⟨T.setVm vm₁, locs, cells, slots⟩ (Value.ref b :: argsL).toArray v B ∧
      ∀ target, Steps p.tables e below (B.U.setTop { g with pc := g.pc + 3, stack := v.toList ++ rest }) target → Steps p.tables e below (T.setTop g) target) ∨
    (∃ (q : Addr) (vm₁ : Vm) (B : Pt), s.WarmedH vm₁ ∧ Stand p l e R s m args below meth c B.U B.locs B.cells B.slots ∧ PostX ⟨T.setVm vm₁, locs, cells, slots⟩ (Value.ref b :: argsL).toArray q B ∧
      Steps p.tables e below (T.setTop g) ((B.U.setTop { g with stack := rest }).pushFrame (.throwing q))) := by
  obtain ⟨mk, methM, hnamed, hmethM, hstM, habM⟩ := Cond.instanceMethod_spec hinst
  obtain ⟨methM', cM, hmethM', -, -, -, -, -, -, hsigM⟩ := Cond.code_spec hnamed hcode
  cases hmethM.symm.trans hmethM'
  obtain ⟨ps, dk, kp, hps, hdk, hkp, hsuper, -, -, hnid⟩ := Cond.superclass_spec hown hsup
  have hn : s.methodNamed? ⟨y.cls, y.name, y.desc⟩ = some mk := hnamed
  have hpm : ps = mk.cls := Option.some.inj (hps.symm.trans (findClass_of_methodNamed hnamed))
  have hsub : s.vm.isSubclass ps mk.cls = true := by rw [hpm]; simp [Vm.isSubclass, Vm.isSubclassAux]
  obtain ⟨vm₁, X₁, hstep₁⟩ := X.invokespecialUp hexec hown hlink hsame hn hmethM hstM habM hno hdk hnid hps hsuper hsub (a := b) (cell := cellB) hcell
    (fun z h => by rw [h] at hobj; cases hobj) hkB (g := g) hg (argsL := argsL) (rest := rest) (hlen _ hsigM) hstack hdg
  rcases hK m meth c ⟨T.setVm vm₁, locs, cells, slots⟩ { g with stack := rest } (.invokespecial index) mk (Value.ref b :: argsL).toArray X₁ hg hsize hdg hW (X₁.named hnamed) (hpre vm₁ X₁.warmed) with ⟨v, B, X', hpost, hsteps⟩ | ⟨q, B, X', hpost, hsteps⟩
  · exact Or.inl ⟨v, vm₁, B, X₁.warmed, X', hpost, fun target h => hstep₁ _ (by rw [doInvoke_state]; exact hsteps.trans h)⟩
  · exact Or.inr ⟨q, vm₁, B, X₁.warmed, X', hpost, hstep₁ _ (by rw [doInvoke_state]; exact hsteps)⟩
end JD1
section JD2
variable {p : Program} {l : Launch} {e : Env} {R : Room} {s : State} {m : MethodId} {args : Array Value} {below : List Frame} {meth : Method} {c : Code} {H : Heap} {locs : List Loc} {cells slots : Nat}
variable {y : MethodName} {bytes cc : ByteArray} {maxL nL mc ms n index : Nat} {ret : Option FieldType} {ws : List Cond} {rm : Room} {Pc : Array Value → State → Prop} {Qc : Array Value → State → Outcome → State → Prop} {XC : String → State → State → Prop} {free : Addr → Prop} {Ts : List Cond} {own C : String} {b : Addr} {As rest : List Value} {g : JFrame}
theorem vx_runSU (S : CallFix p m c cc nL s args Ts own) (hM : vx_Met l y ws rm Pc Qc XC mc ms free) (cw : CallB R s args own index y bytes maxL ret ws rm mc ms n ∧ (Cond.sameMethod y.cls y.cls y.name y.desc).before args s = true ∧ (Cond.superclass own y.cls).before args s = true ∧ y.name ≠ "<init>" ∧ (Cond.instanceMethod y).before args s = true) (hp : PreV s H C b Pc As)
    (hg : g.method = m) (hn : As.length = n) (hsize : g.locals.size = nL) (hstack : g.stack = As.reverse ++ .ref b :: rest) (hW : 2 * g.monitorRoom + (rest.map fun v => v.category).sum ≤ 8) (hdg : decode cc g.pc = .ok (.invokespecial index, 3)) (hf : cells + mc ≤ R.cells ∧ slots + ms ≤ R.slots) :
    vx_Run p l e R s m args below meth c H locs cells slots mc ms g rest (Qc (Value.ref b :: As).toArray) XC free := by
  have hK : vx_Back l R p e below s args y 3 8 (PreOf R mc ms Pc) (PostOf Qc mc ms free) (vx_Post XC mc ms free) := vx_callBack cw.1 hM hp.1
  obtain ⟨⟨-, -, -, -, -, -, hcode, -, hy, hlen, hl⟩, hsame, hsup, hno, hin⟩ := cw
  obtain ⟨hx, hb, hml, ho, -⟩ := S
  obtain ⟨-, ⟨cellB, hcB, hoB, hclB⟩, hPc⟩ := hp
  obtain ⟨kB, hkB, -⟩ := Vm.findClass_spec hclB
  intro T hT X
  rcases vx_callSU X hx (bytes := bytes) (maxL := maxL) (ret := ret) ho hl hsame hsup hin hcode hno hK (by rw [hT]; exact hcB) hoB hkB hg (hsize.trans hml.symm) (argsL := As) (rest := rest) (fun sig h => hn.trans (hlen sig h)) hstack hW (by rw [hb]; exact hdg)
    (fun vm₁ hW₁ => ⟨hf.1, hf.2, hPc (T.setVm vm₁) hT hW₁⟩) with ⟨v, vm₁, ⟨U', l2, c2, s2⟩, hW₁, X', ⟨g', mk, t, L, e1, e2, hq, h1, hL, h2, h3⟩, st⟩ | ⟨q, vm₁, ⟨U', l2, c2, s2⟩, hW₁, X', ⟨g', mk, t, L, E, ce, e1, e2, hq, hce, hcv, hcl, h1, hL, h2, h3⟩, st⟩
  · dsimp only [Pt.U, Pt.locs, Pt.cells, Pt.slots] at X' e1 e2 h1 h2 h3 st
    subst h1; subst h2; subst h3
    exact Or.inl ⟨v, (T.setVm vm₁).calling g' mk (Value.ref b :: As).toArray, t, U', L, hT, X', hL, e1, e2, hq, st⟩
  · dsimp only [Pt.U, Pt.locs, Pt.cells, Pt.slots] at X' e1 e2 h1 h2 h3 st hcl
    subst h1; subst h2; subst h3
    exact Or.inr ⟨q, (T.setVm vm₁).calling g' mk (Value.ref b :: As).toArray, t, U', L, E, ce, hT, X', hL, e1, e2, hq, hce, hcv, vx_cls hW₁ hcl, st⟩
end JD2
/-- a private method is selected for any receiver -/
theorem ja_selp {y : MethodName} {s : State} {args : Array Value} {C : String} {n : Nat} (hy : y.cls ≠ "java/lang/invoke/MethodHandle" ∧ y.cls ≠ "java/lang/invoke/VarHandle") (hins : (Cond.instantiable C n).before args s = true) (hsame : (Cond.sameMethod y.cls y.cls y.name y.desc).before args s = true) (hpriv : (Cond.privateMethod y).before args s = true) (hinst : (Cond.instanceMethod y).before args s = true) : (Cond.selects C y y).before args s = true := by
  obtain ⟨c, k, hc, hk, -, hniab, -, -⟩ := Cond.instantiable_spec hins
  obtain ⟨cn, ck, r1, hcn, hck, hni, hf, hn1⟩ := Cond.sameMethod_found hsame
  obtain ⟨mk, methM, hnamed, hmethM, -, -⟩ := Cond.instanceMethod_spec hinst
  have hfound : s.methodFound? y.cls y.name y.desc = some mk := State.methodFound?_of_named hnamed hy
  have hcls : mk.cls = cn := Option.some.inj ((findClass_of_methodNamed hnamed).symm.trans hcn)
  have hsel : selectMethod {} s.vm c mk = .method mk := selectMethod_private hmethM (Cond.privateMethod_at hpriv mk methM hnamed hmethM)
  simp only [Cond.before, Cond.holds, Cond.value, hc, hfound, hnamed, hsel, hcls, hck]
  simp; exact hni
theorem iw_ens : Cond.selects RJ4 yJ5_ensureCapacityInternal_d00df yJ5_ensureCapacityInternal_d00df ∈ wU := wU_x List.mem_cons_self rfl
theorem iw_new : Cond.selects RJ4 yJ5_newCapacity_0f7a4 yJ5_newCapacity_0f7a4 ∈ wU := wU_x (List.mem_cons_of_mem _ List.mem_cons_self) rfl
section JD3
variable {X : ia_X} {own : String} {cc : ByteArray} {nL d mc ms cells slots pc : Nat} {ls st : List (Nat × Int)} {Z : ia_Z} {V : ia_H}
/-- invokevirtual of an inherited method -/
theorem ia_callU (F : ia_Fix X own cc nL d mc ms) {index : Nat} {y : MethodName} {b : ByteArray} {nL' : Nat} {ret : Option FieldType} {As : List (Nat × Int)} {stA : List (Nat × Int)} {d' mc' ms' : Nat} {Q' : ia_O → ia_Z → ia_H → Prop} (q : Nat) {ci N : Nat} {C : String} {T : u_T} (hC : vwCl[ci]? = some (C, T, N)) (hq : q < Z.2.2) (hkd : Z.1 q = 10 + ci) (hK : ia_K y b nL' ret ((4, (q : Int)) :: As) Z V d' mc' ms' Q') (hst : stA = As.reverse ++ (4, (q : Int)) :: st)
    (hw : Cond.code y b nL' ret ∈ wU ∧ Cond.methodLink own index y ∈ wU ∧ Cond.instanceMethod y ∈ wU ∧ Cond.initialized y.cls ∈ wU) (hsel : (Cond.selects C y y).before X.2.2.2.2.2.2.1 X.2.2.2.2.1 = true) (hd : y.cls ≠ "java/lang/invoke/MethodHandle" ∧ y.cls ≠ "java/lang/invoke/VarHandle" ∧ (parseMethodDescriptor y.desc).map (fun d => d.parameters.length) = some As.length) (hR : d' + 1 ≤ d ∧ nL' ≤ 40 ∧ cells + mc' ≤ mc ∧ slots + ms' ≤ ms ∧ st.length ≤ 4) (dg : decode cc pc = .ok (.invokevirtual index, 3))
    (kk : ∀ (v : Option (Nat × Int)) (Z' : ia_Z) (V' : ia_H), Q' (.inl v) Z' V' → Z.2.2 ≤ Z'.2.2 → ia_G X (cells + mc') (slots + ms') (pc + 3) ls (v.toList ++ st) Z' V')
    (kx : ∀ (E : String) (Z' : ia_Z) (V' : ia_H), Q' (.inr E) Z' V' → Z.2.2 ≤ Z'.2.2 → ia_T X (cells + mc') (slots + ms') pc ls Z' V' E) : ia_G X cells slots pc ls stA Z V := by
  intro H locs ad lsA r1 r2 r3 r4 r5 r6 r7 r8
  subst hst
  have r8a : ia_wfl Z.2.2 ((4, (q : Int)) :: As) := fun v hv => r8 v (by
    rcases List.mem_cons.mp hv with e | e
    · exact List.mem_append_right _ (List.mem_cons.mpr (Or.inl e))
    · exact List.mem_append_left _ (List.mem_reverse.mpr e))
  have r8b : ia_wfl Z.2.2 st := fun v hv => r8 v (List.mem_append_right _ (List.mem_cons_of_mem _ hv))
  have kM := hK X.2.2.2.2.2.2.2.2.2.2.2.1 X.2.1 ad F.1.2.2.2.2.2.2.2.2.2.2.2
  have cB : CallB X.2.2.2.1 X.2.2.2.2.1 X.2.2.2.2.2.2.1 own index y b nL' ret (.code y b nL' ret :: wU) (ia_rm d' mc' ms') mc' ms' As.length := callB_of As.length F.1.2.2.2.2.1 (ia_goodW hw.1) rfl rfl rfl (F.1.2.2.2.2.1 _ hw.2.2.2) (F.1.2.2.2.2.1 _ hw.2.1) hd (ia_room F hR.1 hR.2.1)
  refine ia_back F (a := (Value.ref (ad q) :: As.map (ia_cv ad)).toArray) r1 r2 r3 r4 r5 r6 r7 r8b ?_ kk kx
  refine vx_runV (As := As.map (ia_cv ad)) (b := ad q) (C := C) ⟨F.1.1, F.1.2.1, F.1.2.2.1, F.1.2.2.2.1, F.1.2.2.2.2.1⟩ kM ⟨cB, F.1.2.2.2.2.1 _ hw.2.2.1, hsel⟩ ⟨ia_blind, ia_recv F.1.2.2.2.2.2.1.1 r1 hC hq hkd, fun U hU hW => ⟨by rw [List.map_cons, ia_cvR], by rw [hU]; exact r1, r8a, F.1.2.2.2.2.2.1.warm hW (by rw [hU]; exact r4)⟩⟩ rfl (by rw [List.length_map]) (by exact r5.1) (by rw [List.map_append, List.map_reverse, List.map_cons, ia_cvR]) (lv_room (ia_catle ad hR.2.2.2.2)) dg ⟨Nat.le_trans hR.2.2.1 F.1.2.2.2.2.2.2.2.2.1, Nat.le_trans hR.2.2.2.1 F.1.2.2.2.2.2.2.2.2.2.1⟩
/-- super.m(..) -/
theorem ia_callSU (F : ia_Fix X own cc nL d mc ms) {index : Nat} {y : MethodName} {b : ByteArray} {nL' : Nat} {ret : Option FieldType} {As : List (Nat × Int)} {stA : List (Nat × Int)} {d' mc' ms' : Nat} {Q' : ia_O → ia_Z → ia_H → Prop} (q : Nat) {ci N : Nat} {C : String} {T : u_T} (hC : vwCl[ci]? = some (C, T, N)) (hq : q < Z.2.2) (hkd : Z.1 q = 10 + ci) (hK : ia_K y b nL' ret ((4, (q : Int)) :: As) Z V d' mc' ms' Q') (hst : stA = As.reverse ++ (4, (q : Int)) :: st)
    (hw : Cond.code y b nL' ret ∈ wU ∧ Cond.methodLink own index y ∈ wU ∧ Cond.instanceMethod y ∈ wU ∧ Cond.initialized y.cls ∈ wU) (hs : Cond.sameMethod y.cls y.cls y.name y.desc ∈ wU ∧ Cond.superclass own y.cls ∈ wU ∧ y.name ≠ "<init>") (hd : y.cls ≠ "java/lang/invoke/MethodHandle" ∧ y.cls ≠ "java/lang/invoke/VarHandle" ∧ (parseMethodDescriptor y.desc).map (fun d => d.parameters.length) = some As.length) (hR : d' + 1 ≤ d ∧ nL' ≤ 40 ∧ cells + mc' ≤ mc ∧ slots + ms' ≤ ms ∧ st.length ≤ 4) (dg : decode cc pc = .ok (.invokespecial index, 3))
    (kk : ∀ (v : Option (Nat × Int)) (Z' : ia_Z) (V' : ia_H), Q' (.inl v) Z' V' → Z.2.2 ≤ Z'.2.2 → ia_G X (cells + mc') (slots + ms') (pc + 3) ls (v.toList ++ st) Z' V')
    (kx : ∀ (E : String) (Z' : ia_Z) (V' : ia_H), Q' (.inr E) Z' V' → Z.2.2 ≤ Z'.2.2 → ia_T X (cells + mc') (slots + ms') pc ls Z' V' E) : ia_G X cells slots pc ls stA Z V := by
  intro H locs ad lsA r1 r2 r3 r4 r5 r6 r7 r8
  subst hst
  have r8a : ia_wfl Z.2.2 ((4, (q : Int)) :: As) := fun v hv => r8 v (by
    rcases List.mem_cons.mp hv with e | e
    · exact List.mem_append_right _ (List.mem_cons.mpr (Or.inl e))
    · exact List.mem_append_left _ (List.mem_reverse.mpr e))
  have r8b : ia_wfl Z.2.2 st := fun v hv => r8 v (List.mem_append_right _ (List.mem_cons_of_mem _ hv))
  have kM := hK X.2.2.2.2.2.2.2.2.2.2.2.1 X.2.1 ad F.1.2.2.2.2.2.2.2.2.2.2.2
  have cB : CallB X.2.2.2.1 X.2.2.2.2.1 X.2.2.2.2.2.2.1 own index y b nL' ret (.code y b nL' ret :: wU) (ia_rm d' mc' ms') mc' ms' As.length := callB_of As.length F.1.2.2.2.2.1 (ia_goodW hw.1) rfl rfl rfl (F.1.2.2.2.2.1 _ hw.2.2.2) (F.1.2.2.2.2.1 _ hw.2.1) hd (ia_room F hR.1 hR.2.1)
  refine ia_back F (a := (Value.ref (ad q) :: As.map (ia_cv ad)).toArray) r1 r2 r3 r4 r5 r6 r7 r8b ?_ kk kx
  refine vx_runSU (As := As.map (ia_cv ad)) (b := ad q) (C := C) ⟨F.1.1, F.1.2.1, F.1.2.2.1, F.1.2.2.2.1, F.1.2.2.2.2.1⟩ kM ⟨cB, F.1.2.2.2.2.1 _ hs.1, F.1.2.2.2.2.1 _ hs.2.1, hs.2.2, F.1.2.2.2.2.1 _ hw.2.2.1⟩ ⟨ia_blind, ia_recv F.1.2.2.2.2.2.1.1 r1 hC hq hkd, fun U hU hW => ⟨by rw [List.map_cons, ia_cvR], by rw [hU]; exact r1, r8a, F.1.2.2.2.2.2.1.warm hW (by rw [hU]; exact r4)⟩⟩ rfl (by rw [List.length_map]) (by exact r5.1) (by rw [List.map_append, List.map_reverse, List.map_cons, ia_cvR]) (lv_room (ia_catle ad hR.2.2.2.2)) dg ⟨Nat.le_trans hR.2.2.1 F.1.2.2.2.2.2.2.2.2.1, Nat.le_trans hR.2.2.2.1 F.1.2.2.2.2.2.2.2.2.2.1⟩
theorem jU (F : ia_Fix X own cc nL d mc ms) (ca sl : Nat) {index : Nat} {y : MethodName} {b : ByteArray} {nL' : Nat} {ret : Option FieldType} {As : List (Nat × Int)} {stA : List (Nat × Int)} {d' mc' ms' q ci N L : Nat} {C : String} {T : u_T} (z : q < Z.2.2 ∧ Z.1 q = 10 + ci ∧ Z.2.1 q = L) (hC : vwCl[ci]? = some (C, T, N)) (hK : ia_K y b nL' ret ((4, (q : Int)) :: As) Z V d' mc' ms' (ia_ct X (cells + mc') (slots + ms') (pc + 3) ls st Z.2.2)) (hst : stA = As.reverse ++ (4, (q : Int)) :: st)
    (hw : Cond.code y b nL' ret ∈ wU ∧ Cond.methodLink own index y ∈ wU ∧ Cond.instanceMethod y ∈ wU ∧ Cond.initialized y.cls ∈ wU) (hsel : (Cond.selects C y y).before X.2.2.2.2.2.2.1 X.2.2.2.2.1 = true) (nA : Nat) (hA : As.length = nA) (hd : y.cls ≠ "java/lang/invoke/MethodHandle" ∧ y.cls ≠ "java/lang/invoke/VarHandle" ∧ (parseMethodDescriptor y.desc).map (fun d => d.parameters.length) = some nA) (hR : d' + 1 ≤ d ∧ nL' ≤ 40 ∧ cells + mc' ≤ mc ∧ slots + ms' ≤ ms ∧ st.length ≤ 4) (dg : decode cc pc = .ok (.invokevirtual index, 3)) : ia_G X cells slots pc ls stA Z V :=
  ia_callU F q hC z.1 z.2.1 hK hst hw hsel ⟨hd.1, hd.2.1, by rw [hA]; exact hd.2.2⟩ hR dg (fun _ _ _ h => h) (fun _ _ _ h => h)
theorem jSU (F : ia_Fix X own cc nL d mc ms) (ca sl : Nat) {index : Nat} {y : MethodName} {b : ByteArray} {nL' : Nat} {ret : Option FieldType} {As : List (Nat × Int)} {stA : List (Nat × Int)} {d' mc' ms' q ci N L : Nat} {C : String} {T : u_T} (z : q < Z.2.2 ∧ Z.1 q = 10 + ci ∧ Z.2.1 q = L) (hC : vwCl[ci]? = some (C, T, N)) (hK : ia_K y b nL' ret ((4, (q : Int)) :: As) Z V d' mc' ms' (ia_ct X (cells + mc') (slots + ms') (pc + 3) ls st Z.2.2)) (hst : stA = As.reverse ++ (4, (q : Int)) :: st)
    (hw : Cond.code y b nL' ret ∈ wU ∧ Cond.methodLink own index y ∈ wU ∧ Cond.instanceMethod y ∈ wU ∧ Cond.initialized y.cls ∈ wU) (hs : Cond.sameMethod y.cls y.cls y.name y.desc ∈ wU ∧ Cond.superclass own y.cls ∈ wU ∧ y.name ≠ "<init>") (nA : Nat) (hA : As.length = nA) (hd : y.cls ≠ "java/lang/invoke/MethodHandle" ∧ y.cls ≠ "java/lang/invoke/VarHandle" ∧ (parseMethodDescriptor y.desc).map (fun d => d.parameters.length) = some nA) (hR : d' + 1 ≤ d ∧ nL' ≤ 40 ∧ cells + mc' ≤ mc ∧ slots + ms' ≤ ms ∧ st.length ≤ 4) (dg : decode cc pc = .ok (.invokespecial index, 3)) : ia_G X cells slots pc ls stA Z V :=
  ia_callSU F q hC z.1 z.2.1 hK hst hw hs ⟨hd.1, hd.2.1, by rw [hA]; exact hd.2.2⟩ hR dg (fun _ _ _ h => h) (fun _ _ _ h => h)
/-- the methods of J5 on a builder: what is selected -/
theorem jse_ens (F : ia_Fix X own cc nL d mc ms) : (Cond.selects RJ4 yJ5_ensureCapacityInternal_d00df yJ5_ensureCapacityInternal_d00df).before X.2.2.2.2.2.2.1 X.2.2.2.2.1 = true := F.1.2.2.2.2.1 _ iw_ens
theorem jse_new (F : ia_Fix X own cc nL d mc ms) : (Cond.selects RJ4 yJ5_newCapacity_0f7a4 yJ5_newCapacity_0f7a4).before X.2.2.2.2.2.2.1 X.2.2.2.2.1 = true := F.1.2.2.2.2.1 _ iw_new
theorem jse_lat (F : ia_Fix X own cc nL d mc ms) : (Cond.selects RJ4 yJ5_isLatin1_aae02 yJ5_isLatin1_aae02).before X.2.2.2.2.2.2.1 X.2.2.2.2.1 = true := F.1.2.2.2.2.1 _ isl_J5_isLatin1
theorem jsb (F : ia_Fix X own cc nL d mc ms) {x y : Int} {q L : Nat} (z : q < Z.2.2 ∧ Z.1 q = 3 ∧ Z.2.1 q = L) (i : Nat) (hi : x = (i : Int)) (hin : i < L) (hy : 0 ≤ y ∧ y ≤ 126) (dg : decode cc pc = .ok (.bastore, 1)) (kk : ia_G X cells slots (pc + 1) ls st Z (ia_u V q i y)) : ia_G X cells slots pc ls ((0, y) :: (0, x) :: (4, (q : Int)) :: st) Z V :=
  ia_bastore F q i rfl hi z.1 z.2.1 (by rw [z.2.2]; exact hin) (by
    have h := congrArg Int32.ofInt (ia_i8n hy)
    unfold ia_i8 at h
    rw [Int32.ofInt_toInt] at h
    exact h) dg kk
theorem ia_dup_x1 (F : ia_Fix X own cc nL d mc ms) {u v : Nat × Int} (dg : decode cc pc = .ok (.dup_x1, 1)) (hu : u.1 = 0 ∨ u.1 = 2 ∨ u.1 = 4) (hv : v.1 = 0 ∨ v.1 = 2 ∨ v.1 = 4) (kk : ia_G X cells slots (pc + 1) ls (u :: v :: u :: st) Z V) : ia_G X cells slots pc ls (u :: v :: st) Z V :=
  fun H locs ad lsA r1 r2 r3 r4 r5 r6 r7 r8 => lv_dup_x1 F.1.1 F.1.2.1 dg (ia_cat1 ad hu) (ia_cat1 ad hv) (kk H locs ad lsA r1 r2 r3 r4 r5 r6 r7 (ia_wfc (ia_wfh r8) (ia_wfc (ia_wfh (ia_wft r8)) (ia_wfc (ia_wfh r8) (ia_wft (ia_wft r8))))))
theorem ia_getSioobe (F : ia_Fix X own cc nL d mc ms) {index : Nat} (hw : Cond.fieldLink own index RJ3 "SIOOBE_FORMATTER" "Ljava/util/function/BiFunction;" ∈ wU) (dg : decode cc pc = .ok (.getstatic index, 3)) (kk : ∀ x : Int, ia_G X cells slots (pc + 3) ls ((4, x) :: st) Z V) : ia_G X cells slots pc ls st Z V := by
  intro H locs ad lsA r1 r2 r3 r4 r5 r6 r7 r8
  have hz := F.1.2.2.2.2.2.1.2.2.1.2.2.2.2.2.1.2
  by_cases g : X.2.2.2.2.2.2.2.2.2.2.2.1.2.2.2 204 = 0
  · rw [if_pos g] at hz
    have w := kk (-1) H locs ad lsA r1 r2 r3 r4 r5 r6 r7 (ia_wfc (fun _ => Or.inl (by omega)) r8)
    rw [List.map_cons, ia_cvN ad (by decide)] at w
    exact va_gets F.1.1 F.1.2.1 hz r4 F.1.2.2.2.1 (F.1.2.2.2.2.1 _ hw) (fun _ h => h) dg w
  · rw [if_neg g] at hz
    have w := kk ((ia_E0 + 203 : Nat) : Int) H locs ad lsA r1 r2 r3 r4 r5 r6 r7 (ia_wfc (fun _ => Or.inr (by omega)) r8)
    rw [List.map_cons, ia_cvE r1] at w
    exact va_gets F.1.1 F.1.2.1 hz r4 F.1.2.2.2.1 (F.1.2.2.2.2.1 _ hw) (fun _ h => h) dg w
/-- System.arraycopy of n bytes from the first to the first -/
theorem ia_arraycopyB (F : ia_Fix X own cc nL d mc ms) {x a0 a1 : Int} {index : Nat} (q0 q1 n : Nat) (hn : x = (n : Int)) (h0 : a0 = (q0 : Int)) (h1 : a1 = (q1 : Int)) (hq0 : q0 < Z.2.2) (hq1 : q1 < Z.2.2) (hk0 : Z.1 q0 = 3) (hk1 : Z.1 q1 = 3) (hl0 : n ≤ Z.2.1 q0) (hl1 : n ≤ Z.2.1 q1) (hr : ∀ i : Nat, i < n → 0 ≤ V q0 i ∧ V q0 i ≤ 126) (hw : Cond.methodLink own index arraycopyName ∈ wU ∧ Cond.native arraycopyName ∈ wU ∧ Cond.static arraycopyName ∈ wU ∧ Cond.initialized "java/lang/System" ∈ wU) (hd : 1 ≤ d ∧ st.length ≤ 4) (dg : decode cc pc = .ok (.invokestatic index, 3)) (kk : ia_G X cells slots (pc + 3) ls st Z (ia_cp V q0 q1 n)) : ia_G X cells slots pc ls ((0, x) :: (0, 0) :: (4, a1) :: (0, 0) :: (4, a0) :: st) Z V := by
  intro H locs ad lsA r1 r2 r3 r4 r5 r6 r7 r8
  subst hn h0 h1
  have hl := r1.2.2.2.2.2.1 q0 hq0
  have hg0 := ia_W_get (gl := X.2.2.2.2.2.2.2.2.2.2.2.1) (ad := ad) (V := V) hq0
  have hg1 := ia_W_get (gl := X.2.2.2.2.2.2.2.2.2.2.2.1) (ad := ad) (V := V) hq1
  rw [ia_k3 hk0] at hg0
  rw [ia_k3 hk1] at hg1
  have hf := F.1.2.2.2.2.2.2.1
  have hlc := F.1.2.2.2.2.2.2.2.1
  have hcat := ia_catle ad hd.2
  rw [List.map_cons, List.map_cons, List.map_cons, List.map_cons, List.map_cons, ia_cvR, ia_cvR]
  have ec : (Int32.ofInt (n : Int)).toNatClampNeg = n := ia_clamp (by omega)
  have ez : (Int32.ofInt (0 : Int)).toNatClampNeg = 0 := by decide
  refine va_copyi F.1.1 F.1.2.1 (F.1.2.2.1.trans r5.1.symm) F.1.2.2.2.1 (F.1.2.2.2.2.1 _ hw.1) (F.1.2.2.2.2.1 _ hw.2.1) (F.1.2.2.2.2.1 _ hw.2.2.1) (F.1.2.2.2.2.1 _ hw.2.2.2) F.1.2.2.2.2.2.1.1 r1.1 (ia_W_D r1) r4 q0 q1 3 3 (ty := .byte) hg0 hg1 rfl rfl rfl (by decide) (by decide) (nI_pos (n := n) (by omega)) (by rw [ec, ez]; omega) (by rw [ec, ez]; omega) (fun i hi => ?_) (by omega) (by
    have : nativeFrameWords "java/lang/System" "arraycopy" 5 + 11 ≤ 40 := by decide
    omega) dg (fun H1 locs1 hP hD hS => ?_)
  · have e : ∀ y : Fin 127, fits .byte (.int (Int32.ofInt ((y.val : Nat) : Int))) = true := by decide +kernel
    rw [ec] at hi
    rw [ez, Nat.zero_add]
    have h9 := hr i hi
    have h8 := e ⟨(V q0 i).toNat, by omega⟩
    rw [show (((V q0 i).toNat : Nat) : Int) = V q0 i by omega] at h8
    exact h8
  rw [ec, ez] at hP
  have hset : (ia_W X.2.2.2.2.2.2.2.2.2.2.2.1 ad Z V).set q1 (ad q1, .inl (X.2.2.2.2.2.2.2.2.2.2.2.1.2.1 3, Z.2.1 q1, .inl (va_cpy (fun i => Int32.ofInt (V q0 i)) (fun i => Int32.ofInt (V q1 i)) 0 0 n))) = ia_W X.2.2.2.2.2.2.2.2.2.2.2.1 ad Z (ia_cp V q0 q1 n) := by
    refine ia_W_setV ?_ (fun a ha => ?_)
    · rw [ia_k3 hk1]
      refine congrArg (fun f => Sum.inl (_, _, Sum.inl f)) (funext fun j => ?_)
      unfold ia_cp
      by_cases h : j < n
      · rw [if_pos ⟨rfl, h⟩, pk_cpy_in (by omega) (by omega)]
        simp
      · rw [if_neg (fun e => h e.2), pk_cpy_out (by omega)]
    · have e : ∀ j, ia_cp V q0 q1 n a j = V a j := fun j => if_neg (fun e => ha e.1)
      simp only [ia_ce, e]
  rw [hset] at hP
  refine kk H1 locs1 ad lsA ⟨hP, r1.2.1, r1.2.2.1, r1.2.2.2.1, r1.2.2.2.2.1, r1.2.2.2.2.2.1, fun a i ha hr => ?_⟩ r2 r3 hS r5 r6 r7 (ia_wft (ia_wft (ia_wft (ia_wft (ia_wft r8)))))
  rw [show ia_cp V q0 q1 n a i = V a i from if_neg (fun e => by rw [e.1, hk1, ia_nr (by decide)] at hr; cases hr)]
  exact r1.2.2.2.2.2.2 a i ha hr
/-- invokevirtual on a text constant -/
theorem ia_callVE (F : ia_Fix X own cc nL d mc ms) {index : Nat} {y : MethodName} {b : ByteArray} {nL' : Nat} {ret : Option FieldType} {As : List (Nat × Int)} {stA : List (Nat × Int)} {d' mc' ms' : Nat} {Q' : ia_O → ia_Z → ia_H → Prop} (i : Nat) (hi : i < 9) (hK : ia_K y b nL' ret ((4, ((ia_E0 + (100 + i) : Nat) : Int)) :: As) Z V d' mc' ms' Q') (hst : stA = As.reverse ++ (4, ((ia_E0 + (100 + i) : Nat) : Int)) :: st)
    (hw : Cond.code y b nL' ret ∈ wU ∧ Cond.methodLink own index y ∈ wU ∧ Cond.instanceMethod y ∈ wU ∧ Cond.selects RJ0 y y ∈ wU ∧ Cond.initialized y.cls ∈ wU) (hd : y.cls ≠ "java/lang/invoke/MethodHandle" ∧ y.cls ≠ "java/lang/invoke/VarHandle" ∧ (parseMethodDescriptor y.desc).map (fun d => d.parameters.length) = some As.length) (hR : d' + 1 ≤ d ∧ nL' ≤ 40 ∧ cells + mc' ≤ mc ∧ slots + ms' ≤ ms ∧ st.length ≤ 4) (dg : decode cc pc = .ok (.invokevirtual index, 3))
    (kk : ∀ (v : Option (Nat × Int)) (Z' : ia_Z) (V' : ia_H), Q' (.inl v) Z' V' → Z.2.2 ≤ Z'.2.2 → ia_G X (cells + mc') (slots + ms') (pc + 3) ls (v.toList ++ st) Z' V')
    (kx : ∀ (E : String) (Z' : ia_Z) (V' : ia_H), Q' (.inr E) Z' V' → Z.2.2 ≤ Z'.2.2 → ia_T X (cells + mc') (slots + ms') pc ls Z' V' E) : ia_G X cells slots pc ls stA Z V := by
  intro H locs ad lsA r1 r2 r3 r4 r5 r6 r7 r8
  subst hst
  have r8a : ia_wfl Z.2.2 ((4, ((ia_E0 + (100 + i) : Nat) : Int)) :: As) := fun v hv => r8 v (by
    rcases List.mem_cons.mp hv with e | e
    · exact List.mem_append_right _ (List.mem_cons.mpr (Or.inl e))
    · exact List.mem_append_left _ (List.mem_reverse.mpr e))
  have r8b : ia_wfl Z.2.2 st := fun v hv => r8 v (List.mem_append_right _ (List.mem_cons_of_mem _ hv))
  have kM := hK X.2.2.2.2.2.2.2.2.2.2.2.1 X.2.1 ad F.1.2.2.2.2.2.2.2.2.2.2.2
  have cB : CallB X.2.2.2.1 X.2.2.2.2.1 X.2.2.2.2.2.2.1 own index y b nL' ret (.code y b nL' ret :: wU) (ia_rm d' mc' ms') mc' ms' As.length := callB_of As.length F.1.2.2.2.2.1 (ia_goodW hw.1) rfl rfl rfl (F.1.2.2.2.2.1 _ hw.2.2.2.2) (F.1.2.2.2.2.1 _ hw.2.1) hd (ia_room F hR.1 hR.2.1)
  have hrec : ∃ cellB : Cell, H[ad (ia_E0 + (100 + i))]? = some cellB ∧ cellB.vm.isStatics = false ∧ X.2.2.2.2.1.vm.findClass RJ0 = some cellB.cls := by
    obtain ⟨cell, h1, h2, h3, h4⟩ := (F.1.2.2.2.2.2.1.2.2.1.2.2.2.2.1.1 i hi).1
    refine ⟨cell, ?_, h2, h3⟩
    rw [r1.2.2.2.1]
    have hlt : X.2.2.2.2.2.2.2.2.2.2.2.1.2.2.2 (100 + i) < X.2.2.2.2.1.heap.size := (Array.getElem?_eq_some_iff.mp h1).1
    rw [r4.2.1 _ hlt h4]
    exact h1
  refine ia_back F (a := (Value.ref (ad (ia_E0 + (100 + i))) :: As.map (ia_cv ad)).toArray) r1 r2 r3 r4 r5 r6 r7 r8b ?_ kk kx
  refine vx_runV (As := As.map (ia_cv ad)) (b := ad (ia_E0 + (100 + i))) (C := RJ0) ⟨F.1.1, F.1.2.1, F.1.2.2.1, F.1.2.2.2.1, F.1.2.2.2.2.1⟩ kM ⟨cB, F.1.2.2.2.2.1 _ hw.2.2.1, F.1.2.2.2.2.1 _ hw.2.2.2.1⟩ ⟨ia_blind, hrec, fun U hU hW => ⟨by rw [List.map_cons, ia_cvR], by rw [hU]; exact r1, r8a, F.1.2.2.2.2.2.1.warm hW (by rw [hU]; exact r4)⟩⟩ rfl (by rw [List.length_map]) (by exact r5.1) (by rw [List.map_append, List.map_reverse, List.map_cons, ia_cvR]) (lv_room (ia_catle ad hR.2.2.2.2)) dg ⟨Nat.le_trans hR.2.2.1 F.1.2.2.2.2.2.2.2.2.1, Nat.le_trans hR.2.2.2.1 F.1.2.2.2.2.2.2.2.2.2.1⟩
theorem jVE (F : ia_Fix X own cc nL d mc ms) (ca sl : Nat) {index : Nat} {y : MethodName} {b : ByteArray} {nL' : Nat} {ret : Option FieldType} {As : List (Nat × Int)} {stA : List (Nat × Int)} {d' mc' ms' : Nat} (i : Nat) (hi : i < 9) (hK : ia_K y b nL' ret ((4, ((ia_E0 + (100 + i) : Nat) : Int)) :: As) Z V d' mc' ms' (ia_ct X (cells + mc') (slots + ms') (pc + 3) ls st Z.2.2)) (hst : stA = As.reverse ++ (4, ((ia_E0 + (100 + i) : Nat) : Int)) :: st)
    (hw : Cond.code y b nL' ret ∈ wU ∧ Cond.methodLink own index y ∈ wU ∧ Cond.instanceMethod y ∈ wU ∧ Cond.selects RJ0 y y ∈ wU ∧ Cond.initialized y.cls ∈ wU) (nA : Nat) (hA : As.length = nA) (hd : y.cls ≠ "java/lang/invoke/MethodHandle" ∧ y.cls ≠ "java/lang/invoke/VarHandle" ∧ (parseMethodDescriptor y.desc).map (fun d => d.parameters.length) = some nA) (hR : d' + 1 ≤ d ∧ nL' ≤ 40 ∧ cells + mc' ≤ mc ∧ slots + ms' ≤ ms ∧ st.length ≤ 4) (dg : decode cc pc = .ok (.invokevirtual index, 3)) : ia_G X cells slots pc ls stA Z V :=
  ia_callVE F i hi hK hst hw ⟨hd.1, hd.2.1, by rw [hA]; exact hd.2.2⟩ hR dg (fun _ _ _ h => h) (fun _ _ _ h => h)
theorem ia_shl0 {x : Int} (hx : -2147483648 ≤ x ∧ x ≤ 2147483647) : ia_shl x 0 = x := by
  unfold ia_shl
  rw [show Int32.ofInt 0 = 0 from rfl, sb_shl0, ia_toI hx]
theorem ia_shr0 {x : Int} (hx : -2147483648 ≤ x ∧ x ≤ 2147483647) : ia_shr x 0 = x := by
  unfold ia_shr
  rw [show Int32.ofInt 0 = 0 from rfl, sb_shr0, ia_toI hx]
/-- a number from -999 to 0 by 100 -/
theorem ia_idivN (F : ia_Fix X own cc nL d mc ms) {x : Int} (dg : decode cc pc = .ok (.idiv, 1)) (hx : 0 ≤ x ∧ x ≤ 999) (kk : ia_G X cells slots (pc + 1) ls ((0, -(x / 100)) :: st) Z V) : ia_G X cells slots pc ls ((0, 100) :: (0, -x) :: st) Z V := by
  intro H locs ad lsA r1 r2 r3 r4 r5 r6 r7 r8
  have w := kk H locs ad lsA r1 r2 r3 r4 r5 r6 r7 (ia_wfc (ia_wfi (by decide)) (ia_wft (ia_wft r8)))
  have e : ∀ y : Fin 1000, Int32.ofInt (-((y.val : Nat) : Int)) / Int32.ofInt 100 = Int32.ofInt (-(((y.val : Nat) : Int) / 100)) := by decide +kernel
  have e2 := e ⟨x.toNat, by omega⟩
  rw [show (((⟨x.toNat, by omega⟩ : Fin 1000).val : Nat) : Int) = x by show ((x.toNat : Nat) : Int) = x; omega] at e2
  rw [List.map_cons, ia_cv0] at w
  refine lv_idiv F.1.1 F.1.2.1 dg (by decide) ?_
  rw [e2]
  exact w
/-- a static method of another class -/
theorem jS2 (F : ia_Fix X own cc nL d mc ms) (ca sl : Nat) {index : Nat} {y : MethodName} {b : ByteArray} {nL' : Nat} {ret : Option FieldType} {As : List (Nat × Int)} {stA : List (Nat × Int)} {d' mc' ms' : Nat} (hK : ia_K y b nL' ret As Z V d' mc' ms' (ia_ct X (cells + mc') (slots + ms') (pc + 3) ls st Z.2.2)) (hst : stA = As.reverse ++ st)
    (hw : Cond.code y b nL' ret ∈ wU ∧ Cond.methodLink own index y ∈ wU ∧ Cond.static y ∈ wU ∧ Cond.initialized y.cls ∈ wU) (nA : Nat) (hA : As.length = nA) (hd : y.cls ≠ "java/lang/invoke/MethodHandle" ∧ y.cls ≠ "java/lang/invoke/VarHandle" ∧ (parseMethodDescriptor y.desc).map (fun d => d.parameters.length) = some nA) (hR : d' + 1 ≤ d ∧ nL' ≤ 40 ∧ cells + mc' ≤ mc ∧ slots + ms' ≤ ms ∧ st.length ≤ 4) (dg : decode cc pc = .ok (.invokestatic index, 3)) : ia_G X cells slots pc ls stA Z V := by
  intro H locs ad lsA r1 r2 r3 r4 r5 r6 r7 r8
  subst hst hA
  have r8a : ia_wfl Z.2.2 As := fun v hv => r8 v (List.mem_append_left _ (List.mem_reverse.mpr hv))
  have r8b : ia_wfl Z.2.2 st := fun v hv => r8 v (List.mem_append_right _ hv)
  have cB : CallB X.2.2.2.1 X.2.2.2.2.1 X.2.2.2.2.2.2.1 own index y b nL' ret (.code y b nL' ret :: wU) (ia_rm d' mc' ms') mc' ms' As.length := callB_of As.length F.1.2.2.2.2.1 (ia_goodW hw.1) rfl rfl rfl (F.1.2.2.2.2.1 _ hw.2.2.2) (F.1.2.2.2.2.1 _ hw.2.1) hd (ia_room F hR.1 hR.2.1)
  refine ia_back F (Q' := ia_ct X (cells + mc') (slots + ms') (pc + 3) ls st Z.2.2) (mc' := mc') (ms' := ms') (a := (As.map (ia_cv ad)).toArray) r1 r2 r3 r4 r5 r6 r7 r8b ?_ (fun _ _ _ h => h) (fun _ _ _ h => h)
  exact vx_runS (As := As.map (ia_cv ad)) ⟨F.1.1, F.1.2.1, F.1.2.2.1, F.1.2.2.2.1, F.1.2.2.2.2.1⟩ (hK X.2.2.2.2.2.2.2.2.2.2.2.1 X.2.1 ad F.1.2.2.2.2.2.2.2.2.2.2.2) ⟨cB, F.1.2.2.2.2.1 _ hw.2.2.1⟩ ⟨ia_blind, fun U hU hW => ⟨rfl, by rw [hU]; exact r1, r8a, F.1.2.2.2.2.2.1.warm hW (by rw [hU]; exact r4)⟩⟩ rfl (by rw [List.length_map]) (by exact r5.1) (by rw [List.map_append, List.map_reverse]) (lv_room (ia_catle ad hR.2.2.2.2)) dg ⟨Nat.le_trans hR.2.2.1 F.1.2.2.2.2.2.2.2.2.1, Nat.le_trans hR.2.2.2.1 F.1.2.2.2.2.2.2.2.2.2.1⟩
end JD3
theorem ia_creturnI {X : ia_X} {own nm : String} {cc : ByteArray} {nL d mc ms cells slots pc : Nat} {ls : List (Nat × Int)} {Z : ia_Z} {V : ia_H} {Q : ia_O → ia_Z → ia_H → Prop} (F : ia_Fix X own cc nL d mc ms) (M : ia_Me X (some .char) nm mc ms Q) {x : Int} (hx : 0 ≤ x ∧ x ≤ 65535) (hc : cells ≤ mc) (hs : slots ≤ ms) (dg : decode cc pc = .ok (.ireturn, 1)) (hQ : Q (.inl (some (0, x))) Z V) : ia_G X cells slots pc ls [(0, x)] Z V := by
  obtain ⟨k, rfl⟩ : ∃ k : Nat, x = (k : Int) := ⟨x.toNat, by omega⟩
  exact ia_creturn F M (by omega) hc hs dg hQ
