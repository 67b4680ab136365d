/-! the switch -/
section SWA
variable {p : Program} {l : Launch} {e : Env} {R : Room} {s : State} {m : MethodId} {args : Array Value} {below : List Frame} {meth : Method} {c : Code} {H : Heap} {locs : List Loc} {cells slots : Nat} {Q : State → Prop}
theorem sw_hit {cc : ByteArray} {pc : Nat} {ls : Array Slot} {rest : List Value} (hexec : p.tables.exec = Jvm.exec) (hb : c.code = cc) {x : Int32} {dflt low high o : Int} {offs : Array Int} {n tgt : Nat} (hdg : decode cc pc = .ok (.tableswitch dflt low high offs, n))
    (h1 : ¬ (x.toInt < low ∨ x.toInt > high)) (ho : offs[(x.toInt - low).toNat]? = some o) (ht : (pc : Int) + o = (tgt : Int)) (k : W p l e R s m args below meth c H locs cells slots Q (F0 m tgt ls rest)) : W p l e R s m args below meth c H locs cells slots Q (F0 m pc ls (.int x :: rest)) := by
  intro T hT X
  obtain ⟨t, a, b⟩ := k T hT X
  refine ⟨t, ?_, b⟩
  jvm_step X.here [X.here.top, hexec, hb, hdg, Op.tableswitch.wp_sem, h1, ho, ht]
  exact a
theorem sw_out {cc : ByteArray} {pc : Nat} {ls : Array Slot} {rest : List Value} (hexec : p.tables.exec = Jvm.exec) (hb : c.code = cc) {x : Int32} {dflt low high : Int} {offs : Array Int} {n tgt : Nat} (hdg : decode cc pc = .ok (.tableswitch dflt low high offs, n))
    (h1 : x.toInt < low ∨ x.toInt > high) (ht : (pc : Int) + dflt = (tgt : Int)) (k : W p l e R s m args below meth c H locs cells slots Q (F0 m tgt ls rest)) : W p l e R s m args below meth c H locs cells slots Q (F0 m pc ls (.int x :: rest)) := by
  intro T hT X
  obtain ⟨t, a, b⟩ := k T hT X
  refine ⟨t, ?_, b⟩
  jvm_step X.here [X.here.top, hexec, hb, hdg, Op.tableswitch.wp_sem, h1, ht]
  exact a
end SWA
section SWB
variable {X : ia_X} {own nm : String} {cc : ByteArray} {nL d mc ms cells slots pc : Nat} {ls st : List (Nat × Int)} {Z : ia_Z} {V : ia_H}
theorem ia_sw (F : ia_Fix X own cc nL d mc ms) {x dflt low high o : Int} {offs : Array Int} {n : Nat} (tgt j : Nat) (dg : decode cc pc = .ok (.tableswitch dflt low high offs, n)) (hr : -2147483648 ≤ x ∧ x ≤ 2147483647) (hx : x = low + (j : Int)) (hh : x ≤ high) (ho : offs[j]? = some o) (ht : (pc : Int) + o = (tgt : Int)) (kk : ia_G X cells slots tgt ls st Z V) : ia_G X cells slots pc ls ((0, x) :: st) Z V := by
  intro H locs ad lsA r1 r2 r3 r4 r5 r6 r7 r8
  have e := Int32.toInt_ofInt_of_le (by omega) (show x < 2147483648 by omega)
  rw [List.map_cons, ia_cv0]
  exact sw_hit F.1.1 F.1.2.1 dg (by rw [e]; omega) (by rw [e, show (x - low).toNat = j by omega]; exact ho) ht (kk H locs ad lsA r1 r2 r3 r4 r5 r6 r7 (ia_wft r8))
theorem ia_swo (F : ia_Fix X own cc nL d mc ms) {x dflt low high : Int} {offs : Array Int} {n : Nat} (tgt : Nat) (dg : decode cc pc = .ok (.tableswitch dflt low high offs, n)) (hr : -2147483648 ≤ x ∧ x ≤ 2147483647) (hh : x < low ∨ high < x) (ht : (pc : Int) + dflt = (tgt : Int)) (kk : ia_G X cells slots tgt ls st Z V) : ia_G X cells slots pc ls ((0, x) :: st) Z V := by
  intro H locs ad lsA r1 r2 r3 r4 r5 r6 r7 r8
  have e := Int32.toInt_ofInt_of_le (by omega) (show x < 2147483648 by omega)
  rw [List.map_cons, ia_cv0]
  exact sw_out F.1.1 F.1.2.1 dg (by rw [e]; omega) ht (kk H locs ad lsA r1 r2 r3 r4 r5 r6 r7 (ia_wft r8))
end SWB
