section NEB
variable {p : Program} {l : Launch} {e : Env} {R : Room} {s : State} {m : MethodId} {args : Array Value} {below : List Frame} {meth : Method} {c : Code} {H : Heap} {locs : List Loc} {cells slots : Nat} {Q : State → Prop}
variable {mc ms : Nat} {free : Addr → Prop} {A0 A1 : Nat → Prop} {H0 : Heap} {a : Array Value} {ls : Array Slot} {st0 rest : List Value}
variable {Qc : Array Value → State → Outcome → State → Prop} {XC : String → State → State → Prop}
theorem ne_throwW {cc : ByteArray} {pc : Nat} (hexec : p.tables.exec = Jvm.exec) (hb : c.code = cc) (hl : l.stackTraces = false) {text : String} {ik is mc ms sa : Nat} {A : Nat → Prop}
    (hown : s.vm.findClass RX7 = some m.cls)
    (hk : (Cond.classLink RX7 ik ne_x).before args s = true) (hini : (Cond.initialized ne_x).before args s = true) (hstr : vk_R RX7 is text sa s) (hat : ∀ w ∈ ne_at, w.before args s = true)
    (hgood : ∀ w ∈ Cond.classLink RX7 ik ne_x :: Cond.initialized ne_x :: ne_at, vx_ot w = true)
    (hU : vx_Zq Bundle.tN "UNASSIGNED_STACK" Bundle.steD A s s.heap) (hN : vx_Zq Bundle.tN "SUPPRESSED_SENTINEL" Bundle.listD A s s.heap) (hS : va_S A s.heap H locs) (hsize : ls.size = c.maxLocals)
    (d0 : decode cc pc = .ok (.new ik, 3)) (d3 : decode cc (pc + 3) = .ok (.dup, 1)) (d4 : decode cc (pc + 4) = .ok (.ldc_w is, 3)) (d7 : decode cc (pc + 7) = .ok (.invokespecial 409, 3)) (d10 : decode cc (pc + 10) = .ok (.athrow, 1))
    (hout : ∀ x ∈ c.exceptionTable.toList, covers x (pc + 10) = false)
    (hRframes : 5 < R.frames) (hRlocals : (rest.map fun v => v.category).sum + (82) ≤ R.locals) (hRcells : cells + 1 ≤ R.cells) (hRslots : slots + 6 ≤ R.slots) (hlocks : meth.locks = false)
    (hx : ∀ t : State, s.vm.Alike t.vm → H.size ≤ t.heap.size → (∀ q : Nat, q < H.size → t.heap[q]? = H[q]?) → XC ne_x s t)
    (hf : ∀ z ∈ locs, free z.base) (hc : cells + 1 ≤ mc) (hs : slots + 6 ≤ ms) :
    W p l e R s m args below meth c H locs cells slots (vx_MQ below Qc XC args s mc ms free) (F0 m pc ls rest) := by
  intro T hT X
  have htr : e.platform.stackTraces = false := (show e.platform.stackTraces = l.stackTraces by rw [X.admits.platform]).trans hl
  have Y := vx_rebase X (R' := { frames := R.frames, locals := R.locals, cells := 1, slots := 6 }) (Nat.le_refl _) (Nat.le_refl _) hRcells hRslots
  obtain ⟨s', hA⟩ : ∃ z, z = (T.setVm s.vm).setFrames (.invoking m args :: below) := ⟨_, rfl⟩
  rw [← hA] at Y
  have hvm : s'.vm = s.vm := by rw [hA]; rfl
  have hhp : s'.heap = H := by rw [hA]; exact hT
  have hW0 : s.WarmedH s'.vm := by rw [hvm]; exact State.WarmedH.refl s
  have hat' : ∀ w ∈ ne_at, w.before args s' = true := fun w hw => vx_ot_at hW0 hvm.symm (hgood w (List.mem_cons_of_mem _ (List.mem_cons_of_mem _ hw))) (hat w hw)
  have hk' : (Cond.classLink RX7 ik ne_x).before args s' = true := vx_ot_at hW0 hvm.symm (hgood _ List.mem_cons_self) hk
  have hini' : (Cond.initialized ne_x).before args s' = true := vx_ot_at hW0 hvm.symm (hgood _ (List.mem_cons_of_mem _ List.mem_cons_self)) hini
  have hU' : vx_Zq Bundle.tN "UNASSIGNED_STACK" Bundle.steD A s' s'.heap := by rw [hhp]; exact vx_Zq.moved hW0.alike (hU.kept hS.2.1)
  have hN' : vx_Zq Bundle.tN "SUPPRESSED_SENTINEL" Bundle.listD A s' s'.heap := by rw [hhp]; exact vx_Zq.moved hW0.alike (hN.kept hS.2.1)
  have h : ∀ w ∈ ne_L, w.before args s' = true := vx_own hat' (vx_isRefq hU'.1) (vx_isRefq hN'.1) hU'.2.word hN'.2.word
  have hown' : s'.vm.findClass RX7 = some m.cls := by rw [hvm]; exact hown
  have hins : (Cond.instantiable ne_x 6).before args s' = true := h _ (ne_kT (by decide +kernel))
  obtain ⟨vm₁, cX, kX, hfX, hkX, -, -, X₁, st1⟩ := Y.newCold hexec (own := RX7) (C := ne_x) (index := ik) (n := 6) hown' hk' hins hini'
    (g := F0 m pc ls rest) rfl (by rw [hb]; exact d0) (Nat.le_refl _) (Nat.le_refl _)
  generalize hT1 : (T.setVm vm₁).pushCell { cls := cX, slots := kX.instanceTypes.map defaultValue, vm := .none } = T1 at X₁ st1
  have hcat : (Value.ref T.heap.size).category = 1 := rfl
  have hcellA : T1.heap[T.heap.size]? = some (freshCell cX kX) := by rw [← hT1]; exact State.heap_pushCell_size _ _
  have d3' : decode c.code (pc + 3) = .ok (.dup, 1) := by rw [hb]; exact d3
  have d4' : decode c.code (pc + 4) = .ok (.ldc_w is, 3) := by rw [hb]; exact d4
  have hstr' : vk_R RX7 is text sa s' := vk_R.warm hW0 hstr
  obtain ⟨U, hsteps, hrun, hend, hW, hsame, ce, hce, hO⟩ := ne_ctor X₁ hexec htr hown' h (fun x hx => nomatch hx) hfX hkX hcellA (by rw [hhp, hT]; exact Nat.le_refl _) (msg := .ref sa) rfl
    (g := { method := m, pc := pc + 7, locals := ls, stack := .ref sa :: .ref T.heap.size :: .ref T.heap.size :: rest, locked := none }) rfl hsize rfl rfl (rest := rest) rfl
    (by rw [hb]; exact d7) (by rw [hb]; exact d10) hout hRframes (by simp only [List.map_cons, List.sum_cons, hcat]; omega) hlocks
  obtain ⟨f1, f2⟩ := vx_frame hsame
  rw [hhp] at f1 f2
  have hWs : s.WarmedH U.vm := State.WarmedH.trans hW0 hW
  have hcl : s.vm.findClass ne_x = some ce.cls := by
    have h9 := hO.1
    rw [hvm] at h9
    exact h9
  have hall : s.sameButNew ({ U with vm := s.vm } : State) locs mc ms := by
    subst hA
    obtain ⟨e1, e2⟩ := hsame
    rw [State.setFrames_setFrames] at e1
    have h2 : (T.setVm s.vm).sameButNew ({ U with vm := s.vm } : State) [] (0 + 1) (0 + 6) := ⟨e1, e2⟩
    have h3 := X.same.trans h2
    rw [List.append_nil] at h3
    exact h3.mono hc hs
  refine ⟨U, ?_, .threw T.heap.size, hrun, hend, Or.inr ⟨T.heap.size, rfl, ne_x, ce, locs, hx U hWs.alike f1 (fun q hq => f2 q hq (fun z hz => nomatch hz)), hce, hO.2, hcl, hWs, hall, hf⟩⟩
  refine st1 _ ?_
  show Steps p.tables e below (T1.setTop { method := m, pc := pc + 3, locals := ls, stack := .ref T.heap.size :: rest, locked := none }) _
  jvm_step X₁.here [X₁.here.top, hexec, d3', Value.category]
  exact X₁.ldcStringW hexec (own := RX7) (text := text) (index := is) (a := sa) hown' hstr'.1 hstr'.2
    (g := { method := m, pc := pc + 4, locals := ls, stack := .ref T.heap.size :: .ref T.heap.size :: rest, locked := none }) rfl d4' _ hsteps
end NEB
set_option maxRecDepth 100000
theorem ne_hat : ∀ w ∈ ne_at, w ∈ wU ∨ w ∈ ia_nest := ex_hat [88, 548, 557, 566, 569, 571, 549, 550, 111, 112, 551, 556, 567, 587, 538, 588, 540, 589, 542, 552, 554, 544, 583, 584, 586, 544, 1235, 1236, 1237, 577, 530, 577, 578, 579, 580, 532, 580, 581, 582, 583, 534, 1234, 1225, 1226, 1227, 565, 1228, 1229, 1230, 1231, 547, 546, 1232] (by decide +kernel) (by decide +kernel)
theorem th_RX7_405_407_409 {X : ia_X} {nm : String} {cc : ByteArray} {nL d mc ms cells slots pc : Nat} {ls st : List (Nat × Int)} {Z : ia_Z} {V : ia_H} {Q : ia_O → ia_Z → ia_H → Prop} (F : ia_Fix X RX7 cc nL d mc ms) {ret : Option FieldType} (M : ia_Me X ret nm mc ms Q)
    (d0 : decode cc pc = .ok (.new 405, 3)) (d3 : decode cc (pc + 3) = .ok (.dup, 1)) (d4 : decode cc (pc + 4) = .ok (.ldc_w 407, 3)) (d7 : decode cc (pc + 7) = .ok (.invokespecial 409, 3)) (d10 : decode cc (pc + 10) = .ok (.athrow, 1))
    (hR : ex_ns.length + 3 < d ∧ ex_ns.length ≤ 4 ∧ st.length ≤ 4 ∧ cells + 1 ≤ mc ∧ slots + 6 ≤ ms) (hQ : Q (.inr "java/util/NoSuchElementException") Z V) : ia_G X cells slots pc ls st Z V := by
  have hR0 : ex_ns.length = 2 := rfl
  rw [hR0] at hR
  intro H locs ad lsA r1 r2 r3 r4 r5 r6 r7 r8
  rw [M.1]
  obtain ⟨-, -, kS, ⟨kT, -⟩, -⟩ := F.1.2.2.2.2.2.1
  obtain ⟨sa, hsa⟩ := kT (RX7, 407, "there is nothing to answer") (by decide)
  have hf := F.1.2.2.2.2.2.2.1
  have hlc := F.1.2.2.2.2.2.2.2.1
  have hcat := ia_catle ad hR.2.2.1
  refine ne_throwW F.1.1 F.1.2.1 F.1.2.2.2.2.2.2.2.2.2.2.2 F.1.2.2.2.1 (F.1.2.2.2.2.1 _ il_RX7_405) (F.1.2.2.2.2.1 _ ii_Zjava_util_NoSuchElementException) hsa (fun w hw => ?_) (ex_all (by decide +kernel)) kS.1.1 kS.1.2 r4 (by rw [r5.1]; exact F.1.2.2.1.symm) d0 d3 d4 d7 d10 (fun x hx => (M.2.2.2 x hx).elim) (by omega) (by omega) (by have := F.1.2.2.2.2.2.2.2.2.1; omega) (by have := F.1.2.2.2.2.2.2.2.2.2.1; omega) F.1.2.2.2.2.2.2.2.2.2.2.1 (fun t hv hz hq => ?_) r4.2.2 hR.2.2.2.1 hR.2.2.2.2
  · rcases ne_hat w hw with h | h
    · exact F.1.2.2.2.2.1 _ h
    · exact va_Nw.use (ia_nest_on h) (F.1.2.2.2.2.2.1.2.1 _ h)
  · refine ⟨Z, V, ad, hQ, ⟨r1.1.kept (fun k q hk => hq _ (va_at.lt (r1.1 k q hk))), r1.2⟩, r2, r3, ⟨Nat.le_trans r4.1 hz, fun q h1 h2 => by rw [hq q (Nat.lt_of_lt_of_le h1 r4.1)]; exact r4.2.1 q h1 h2⟩⟩
