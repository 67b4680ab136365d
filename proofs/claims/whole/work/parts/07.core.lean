/-! THE ABSTRACT HEAP: places (numbers) stand for the cells that the run makes; a place has a kind, a length, and its slots hold Ints (a reference is the Int of its place, -1 is null). Kinds: 0 int[], 1 long[], 2 double[], 3 byte[], 4 Shop[], 5 Command[], 10 + ci an object of vwCl's class ci. A value on the stack or in a local is (tag, Int): 0 int, 1 long, 2 float, 3 double, 4 reference, 9 nothing known. -/
abbrev vwCl : List vw_C := [(RJ0, TJ0, 4), (RJ4, TJ4, 4), (RJx00060, TJx00060, 6), (RJx7c733, TJx7c733, 6), (RX0, TX0, 7), (RX2, TX2, 6), (RX3, TX3, 3), (RX4, TX4, 3), (RX5, TX5, 1), (RX6, TX6, 15), (RX7, TX7, 11), (RX8, TX8, 25)]
/-- what follows from the tables: the builder's private methods are selected -/
def wX : List Cond := [Cond.selects RJ4 yJ5_ensureCapacityInternal_d00df yJ5_ensureCapacityInternal_d00df, Cond.selects RJ4 yJ5_newCapacity_0f7a4 yJ5_newCapacity_0f7a4]
def wU : List Cond := (wX ++ lw_tbl).filter goodWord
theorem wU_of {w : Cond} (h : w ∈ lw_tbl) (g : goodWord w = true) : w ∈ wU := List.mem_filter.mpr ⟨List.mem_append_right _ h, g⟩
theorem wU_x {w : Cond} (h : w ∈ wX) (g : goodWord w = true) : w ∈ wU := List.mem_filter.mpr ⟨List.mem_append_left _ h, g⟩
def ia_rf (ad : Nat → Nat) (x : Int) : Option Nat := if x < 0 then none else some (ad x.toNat)
def ia_cv (ad : Nat → Nat) : Nat × Int → Value
  | (0, x) => .int (Int32.ofInt x)
  | (1, x) => .long (Int64.ofInt x)
  | (2, x) => .float (UInt32.ofNat x.toNat)
  | (3, x) => .double (UInt64.ofNat x.toNat)
  | (4, x) => va_rf (ia_rf ad x)
  | _ => .null
def ia_tag : FieldType → Nat
  | .long => 1
  | .float => 2
  | .double => 3
  | .object _ => 4
  | .array _ => 4
  | _ => 0
def ia_ty : Nat → Nat → FieldType
  | 0 => tyJ0
  | 1 => tyJ4
  | 4 => tyX0
  | 5 => tyX2
  | 6 => tyX3
  | 7 => tyX4
  | 8 => tyX5
  | 9 => tyX6
  | 10 => tyX7
  | 11 => tyX8
  | _ => fun _ => .int
def ia_nf : Nat → Nat
  | 0 => 4
  | 1 => 4
  | 4 => 7
  | 5 => 6
  | 6 => 3
  | 7 => 3
  | 8 => 1
  | 9 => 15
  | 10 => 11
  | 11 => 25
  | _ => 6
abbrev ia_Z : Type := (Nat → Nat) × (Nat → Nat) × Nat
abbrev ia_H : Type := Nat → Nat → Int
/-- what stays the same in the whole run: the classes' numbers, the array classes, the size of the heap at the law's entry, the addresses of the constants -/
abbrev ia_GL : Type := va_G × (Nat → ClassId) × Nat × (Nat → Nat)
def ia_ce (gl : ia_GL) (ad : Nat → Nat) (Z : ia_Z) (V : ia_H) (q : Nat) : va_E :=
  if Z.1 q = 0 then .inl (gl.2.1 0, Z.2.1 q, .inl (fun i => Int32.ofInt (V q i)))
  else if Z.1 q = 1 then .inl (gl.2.1 1, Z.2.1 q, .inr (.inl (fun i => Int64.ofInt (V q i))))
  else if Z.1 q = 2 then .inl (gl.2.1 2, Z.2.1 q, .inr (.inr (.inr (.inl (fun i => UInt64.ofNat (V q i).toNat)))))
  else if Z.1 q = 3 then .inl (gl.2.1 3, Z.2.1 q, .inl (fun i => Int32.ofInt (V q i)))
  else if Z.1 q = 4 then .inl (gl.2.1 4, Z.2.1 q, .inr (.inr (.inr (.inr (fun i => ia_rf ad (V q i))))))
  else if Z.1 q = 5 then .inl (gl.2.1 5, Z.2.1 q, .inr (.inr (.inr (.inr (fun i => ia_rf ad (V q i))))))
  else .inr (Z.1 q - 10, (List.range (ia_nf (Z.1 q - 10))).map (fun j => ia_cv ad (ia_tag (ia_ty (Z.1 q - 10) j), V q j)))
def ia_W (gl : ia_GL) (ad : Nat → Nat) (Z : ia_Z) (V : ia_H) : va_W := (List.range Z.2.2).map (fun q => (ad q, ia_ce gl ad Z V q))
def ia_E0 : Nat := 1000000
def ia_isr (k i : Nat) : Bool := k == 4 || k == 5 || (decide (6 ≤ k) && ia_tag (ia_ty (k - 10) i) == 4)
def ia_Rep (gl : ia_GL) (ad : Nat → Nat) (Z : ia_Z) (V : ia_H) (H : Heap) : Prop :=
  va_P gl.1 vwCl (ia_W gl ad Z V) H ∧ (∀ i j : Nat, i < Z.2.2 → j < Z.2.2 → ad i = ad j → i = j) ∧ (∀ i : Nat, i < Z.2.2 → gl.2.2.1 ≤ ad i) ∧ (∀ i : Nat, ad (ia_E0 + i) = gl.2.2.2 i) ∧ Z.2.2 ≤ ia_E0 ∧ (∀ i : Nat, i < Z.2.2 → Z.2.1 i ≤ 1000000) ∧ ∀ q i : Nat, q < Z.2.2 → ia_isr (Z.1 q) i = true → V q i < (Z.2.2 : Int) ∨ (ia_E0 : Int) ≤ V q i
/-- a reference on the stack or in a local is a place that stands, a constant, or null -/
def ia_wf1 (n : Nat) (v : Nat × Int) : Prop := v.1 = 4 → v.2 < (n : Int) ∨ (ia_E0 : Int) ≤ v.2
def ia_wfl (n : Nat) (l : List (Nat × Int)) : Prop := ∀ v ∈ l, ia_wf1 n v
theorem ia_wfi {n t : Nat} {x : Int} (h : t ≠ 4) : ia_wf1 n (t, x) := fun e => absurd e h
theorem ia_wfc {n : Nat} {v : Nat × Int} {l : List (Nat × Int)} (h : ia_wf1 n v) (h2 : ia_wfl n l) : ia_wfl n (v :: l) := List.forall_mem_cons.mpr ⟨h, h2⟩
theorem ia_wft {n : Nat} {v : Nat × Int} {l : List (Nat × Int)} (h : ia_wfl n (v :: l)) : ia_wfl n l := (List.forall_mem_cons.mp h).2
theorem ia_wfh {n : Nat} {v : Nat × Int} {l : List (Nat × Int)} (h : ia_wfl n (v :: l)) : ia_wf1 n v := (List.forall_mem_cons.mp h).1
theorem ia_wfa {n i : Nat} {v : Nat × Int} {l : List (Nat × Int)} (h : ia_wfl n l) (e : l[i]? = some v) : ia_wf1 n v := h v (List.mem_of_getElem? e)
theorem ia_wfs {n i : Nat} {v : Nat × Int} {l l' : List (Nat × Int)} (h : ia_wfl n l) (hv : ia_wf1 n v) (e : l.set i v = l') : ia_wfl n l' := by
  subst e
  intro u hu
  rcases List.mem_or_eq_of_mem_set hu with h2 | h2
  · exact h u h2
  · rw [h2]; exact hv
def ia_L (ad : Nat → Nat) (ls : List (Nat × Int)) : List (Nat × Value) := (List.range ls.length).filterMap (fun i => (ls[i]?).bind (fun v => if v.1 = 9 then none else some (i, ia_cv ad v)))
def ia_tys (gl : ia_GL) : List (ClassId × FieldType) := [(gl.2.1 0, .int), (gl.2.1 1, .long), (gl.2.1 2, .double), (gl.2.1 3, .byte), (gl.2.1 4, .object RX6), (gl.2.1 5, .object RX1)]
/-- a frame's context: program, launch, environment, room, entry state, method, arguments, frames below, method and code, the goal; then the run's globals, the number of locals, the addresses and the number of places at entry -/
abbrev ia_X : Type := Program × Launch × Env × Room × State × MethodId × Array Value × List Frame × Method × Code × (State → Prop) × ia_GL × Nat × (Nat → Nat) × Nat
def ia_G0 (p : Program) (l : Launch) (e : Env) (R : Room) (s : State) (m : MethodId) (args : Array Value) (below : List Frame) (meth : Method) (c : Code) (Qs : State → Prop) (gl : ia_GL) (nL : Nat) (ad0 : Nat → Nat) (n0 : Nat) (cells slots pc : Nat) (ls st : List (Nat × Int)) (Z : ia_Z) (V : ia_H) : Prop :=
  ∀ (H : Heap) (locs : List Loc) (ad : Nat → Nat) (lsA : Array Slot), ia_Rep gl ad Z V H → n0 ≤ Z.2.2 → (∀ k : Nat, k < n0 → ad k = ad0 k) → va_S (fun q => gl.2.2.1 ≤ q) s.heap H locs → lv_has lsA nL (ia_L ad ls) → ls.length = nL → ia_wfl Z.2.2 ls → ia_wfl Z.2.2 st → W p l e R s m args below meth c H locs cells slots Qs (F0 m pc lsA (st.map (ia_cv ad)))
def ia_G (X : ia_X) (cells slots pc : Nat) (ls st : List (Nat × Int)) (Z : ia_Z) (V : ia_H) : Prop :=
  ia_G0 X.1 X.2.1 X.2.2.1 X.2.2.2.1 X.2.2.2.2.1 X.2.2.2.2.2.1 X.2.2.2.2.2.2.1 X.2.2.2.2.2.2.2.1 X.2.2.2.2.2.2.2.2.1 X.2.2.2.2.2.2.2.2.2.1 X.2.2.2.2.2.2.2.2.2.2.1 X.2.2.2.2.2.2.2.2.2.2.2.1 X.2.2.2.2.2.2.2.2.2.2.2.2.1 X.2.2.2.2.2.2.2.2.2.2.2.2.2.1 X.2.2.2.2.2.2.2.2.2.2.2.2.2.2 cells slots pc ls st Z V
/-- an exception E is thrown at pc -/
def ia_T0 (p : Program) (l : Launch) (e : Env) (R : Room) (s : State) (m : MethodId) (args : Array Value) (below : List Frame) (meth : Method) (c : Code) (Qs : State → Prop) (gl : ia_GL) (nL : Nat) (ad0 : Nat → Nat) (n0 : Nat) (cells slots pc : Nat) (ls : List (Nat × Int)) (Z : ia_Z) (V : ia_H) (E : String) : Prop :=
  ∀ (H : Heap) (locs : List Loc) (ad : Nat → Nat) (lsA : Array Slot) (rest : List Value) (q : Addr) (ce : Cell), ia_Rep gl ad Z V H → n0 ≤ Z.2.2 → (∀ k : Nat, k < n0 → ad k = ad0 k) → va_S (fun q => gl.2.2.1 ≤ q) s.heap H locs → lv_has lsA nL (ia_L ad ls) → ls.length = nL → ia_wfl Z.2.2 ls → H[q]? = some ce → ce.vm = .none → s.vm.findClass E = some ce.cls → vx_W p l e R s m args below meth c H locs cells slots Qs (F0 m pc lsA rest) q
def ia_T (X : ia_X) (cells slots pc : Nat) (ls : List (Nat × Int)) (Z : ia_Z) (V : ia_H) (E : String) : Prop :=
  ia_T0 X.1 X.2.1 X.2.2.1 X.2.2.2.1 X.2.2.2.2.1 X.2.2.2.2.2.1 X.2.2.2.2.2.2.1 X.2.2.2.2.2.2.2.1 X.2.2.2.2.2.2.2.2.1 X.2.2.2.2.2.2.2.2.2.1 X.2.2.2.2.2.2.2.2.2.2.1 X.2.2.2.2.2.2.2.2.2.2.2.1 X.2.2.2.2.2.2.2.2.2.2.2.2.1 X.2.2.2.2.2.2.2.2.2.2.2.2.2.1 X.2.2.2.2.2.2.2.2.2.2.2.2.2.2 cells slots pc ls Z V E
def ia_nest : List Cond := lw_tbl.filter (fun w => match w with
  | .methodLinkNest .. => true
  | .fieldLinkNest .. => true
  | .castable .. => true
  | .declares .. => true
  | _ => false)
-- constants: places ia_E0 + i
def ia_cmd : Nat → String
  | 0 => "INK"
  | 1 => "PAPER"
  | 2 => "EDITION"
  | 3 => "REMOVE"
  | 4 => "PRINT"
  | 5 => "ALL"
  | 6 => "HOURS"
  | 7 => "PROOF"
  | _ => "DROP"
def ia_word : Nat → List Int
  | 0 => [105, 110, 107]
  | 1 => [112, 97, 112, 101, 114]
  | 2 => [101, 100, 105, 116, 105, 111, 110]
  | 3 => [114, 101, 109, 111, 118, 101]
  | 4 => [112, 114, 105, 110, 116]
  | 5 => [97, 108, 108]
  | 6 => [104, 111, 117, 114, 115]
  | 7 => [112, 114, 111, 111, 102]
  | _ => [100, 114, 111, 112]
def ia_dig1 : Nat → Int
  | 0 => 1
  | 1 => 3
  | 2 => 1
  | 3 => 1
  | 4 => 1
  | 5 => 0
  | 6 => 2
  | 7 => 2
  | _ => 2
def ia_dig2 : Nat → Int
  | 0 => 3
  | 2 => 2
  | _ => 0
def ia_strs : List (String × Nat × String) := [(RX7, 396, "an argument is out of range"), (RX7, 398, "the state does not allow this call"), (RX7, 402, "there is no such number or index"), (RX7, 393, "there is no paper, or no ink of its colour"), (RX7, 407, "there is nothing to answer"), (RX7, 236, "there are no editions"), (RX7, 241, "no ink was poured in"), (RX7, 303, "the text is malformed"), (RX7, 317, "a command failed")]
def ia_ncs : List (String × String) := [("java/lang/IllegalStateException", "java/lang/IllegalArgumentException"), ("java/lang/IllegalStateException", "java/lang/IndexOutOfBoundsException"), ("java/lang/UnsupportedOperationException", "java/lang/IndexOutOfBoundsException"), ("java/lang/UnsupportedOperationException", "java/lang/IllegalStateException")]
/-- what is known of the statics and constants -/
def ia_St (n0 : Nat) (ae : Nat → Nat) (U : State) (H : Heap) : Prop :=
  (vx_Zq Bundle.tN "UNASSIGNED_STACK" Bundle.steD (fun q => n0 ≤ q) U H ∧ vx_Zq Bundle.tN "SUPPRESSED_SENTINEL" Bundle.listD (fun q => n0 ≤ q) U H) ∧
  (∀ i : Nat, i < 9 → va_Z RX1 (ia_cmd i) "LInkPrintery$Command;" (.ref (ae i)) (fun q => n0 ≤ q) U H ∧ va_O RX1 (ae i) (fun q => n0 ≤ q) U H) ∧
  (va_Z RX7 "COMMANDS" "[LInkPrintery$Command;" (.ref (ae 200)) (fun q => n0 ≤ q) U H ∧ va_T (.object RX1) (ae 200) 9 (fun i => .ref (ae i)) (fun q => n0 ≤ q) U H) ∧
  (va_Ef 9 RX1 "word" "Ljava/lang/String;" (fun i => .ref (ae (100 + i))) ae (fun q => n0 ≤ q) U H ∧ va_Ef 9 RX1 "firstDigits" "I" (fun i => .int (Int32.ofInt (ia_dig1 i))) ae (fun q => n0 ≤ q) U H ∧ va_Ef 9 RX1 "secondDigits" "I" (fun i => .int (Int32.ofInt (ia_dig2 i))) ae (fun q => n0 ≤ q) U H) ∧
  vk_S 9 ((List.range 9).map (fun i => (ia_word i).length)) ((List.range 9).map (fun i => (ia_word i).map Int32.ofInt)) (fun i => ae (100 + i)) (fun i => ae (300 + i)) (fun q => n0 ≤ q) U H ∧
  (va_Z RJ0 "COMPACT_STRINGS" "Z" (.int 1) (fun q => n0 ≤ q) U H ∧ va_Z RJ3 "SIOOBE_FORMATTER" "Ljava/util/function/BiFunction;" (va_rf (if ae 204 = 0 then none else some (ae 203))) (fun q => n0 ≤ q) U H) ∧
  (va_Z RJ6 "DigitOnes" "[B" (.ref (ae 201)) (fun q => n0 ≤ q) U H ∧ va_T .byte (ae 201) 100 (fun i => .int (Int32.ofInt ((48 + i % 10 : Nat) : Int))) (fun q => n0 ≤ q) U H) ∧
  (va_Z RJ6 "DigitTens" "[B" (.ref (ae 202)) (fun q => n0 ≤ q) U H ∧ va_T .byte (ae 202) 100 (fun i => .int (Int32.ofInt ((48 + i / 10 : Nat) : Int))) (fun q => n0 ≤ q) U H)
def ia_Sx (ae : Nat → Nat) (U : State) : Prop :=
  (∀ t ∈ ia_strs, ∃ sa, vk_R t.1 t.2.1 t.2.2 sa U) ∧ (∀ i j : Nat, i < 9 → j < 9 → ae i = ae j → i = j) ∧ (∀ t ∈ ia_ncs, va_Nc t.1 t.2 U) ∧ va_AO RX6 U ∧ va_AO RX1 U
theorem ia_St.moved {n0 : Nat} {ae : Nat → Nat} {u U : State} {H : Heap} (hvm : u.vm.Alike U.vm) (h : ia_St n0 ae u H) : ia_St n0 ae U H := by
  obtain ⟨⟨a1, a2⟩, a3, ⟨a4, a5⟩, ⟨a6, a7, a8⟩, a9, ⟨b1, c1⟩, ⟨b2, b3⟩, b4, b5⟩ := h
  exact ⟨⟨a1.moved hvm, a2.moved hvm⟩, fun i hi => ⟨(a3 i hi).1.moved hvm, (a3 i hi).2.moved hvm⟩, ⟨a4.moved hvm, a5.moved hvm⟩, ⟨a6.moved hvm, a7.moved hvm, a8.moved hvm⟩, a9.moved hvm, ⟨b1.moved hvm, c1.moved hvm⟩, ⟨b2.moved hvm, b3.moved hvm⟩, b4.moved hvm, b5.moved hvm⟩
theorem ia_St.kept {n0 : Nat} {ae : Nat → Nat} {U : State} {H H1 : Heap} (h : ia_St n0 ae U H) (hq : ∀ a : Nat, a < H.size → ¬ n0 ≤ a → H1[a]? = H[a]?) : ia_St n0 ae U H1 := by
  obtain ⟨⟨a1, a2⟩, a3, ⟨a4, a5⟩, ⟨a6, a7, a8⟩, a9, ⟨b1, c1⟩, ⟨b2, b3⟩, b4, b5⟩ := h
  exact ⟨⟨a1.kept hq, a2.kept hq⟩, fun i hi => ⟨(a3 i hi).1.kept hq, (a3 i hi).2.kept hq⟩, ⟨a4.kept hq, a5.kept hq⟩, ⟨a6.kept hq, a7.kept hq, a8.kept hq⟩, a9.kept hq, ⟨b1.kept hq, c1.kept hq⟩, ⟨b2.kept hq, b3.kept hq⟩, b4.kept hq, b5.kept hq⟩
/-- what is known of the tables at a state -/
def ia_Kn (gl : ia_GL) (s : State) : Prop := va_K gl.1 vwCl (ia_tys gl) s ∧ (∀ w ∈ ia_nest, va_Nw w s) ∧ ia_St gl.2.2.1 gl.2.2.2 s s.heap ∧ ia_Sx gl.2.2.2 s ∧ gl.2.2.1 ≤ s.heap.size
def ia_Fix0 (p : Program) (l : Launch) (R : Room) (s : State) (m : MethodId) (args : Array Value) (meth : Method) (c : Code) (gl : ia_GL) (nL : Nat) (own : String) (cc : ByteArray) (d mc ms : Nat) : Prop :=
  p.tables.exec = Jvm.exec ∧ c.code = cc ∧ c.maxLocals = nL ∧ s.vm.findClass own = some m.cls ∧ (∀ w ∈ wU, w.before args s = true) ∧ ia_Kn gl s ∧ d ≤ R.frames ∧ 64 * d + 64 ≤ R.locals ∧ mc ≤ R.cells ∧ ms ≤ R.slots ∧ meth.locks = false ∧ l.stackTraces = false
def ia_Fix (X : ia_X) (own : String) (cc : ByteArray) (nL d mc ms : Nat) : Prop :=
  ia_Fix0 X.1 X.2.1 X.2.2.2.1 X.2.2.2.2.1 X.2.2.2.2.2.1 X.2.2.2.2.2.2.1 X.2.2.2.2.2.2.2.2.1 X.2.2.2.2.2.2.2.2.2.1 X.2.2.2.2.2.2.2.2.2.2.2.1 X.2.2.2.2.2.2.2.2.2.2.2.2.1 own cc d mc ms ∧ X.2.2.2.2.2.2.2.2.2.2.2.2.1 = nL
-- values
theorem ia_cv0 (ad : Nat → Nat) (x : Int) : ia_cv ad (0, x) = .int (Int32.ofInt x) := rfl
theorem ia_cv1 (ad : Nat → Nat) (x : Int) : ia_cv ad (1, x) = .long (Int64.ofInt x) := rfl
theorem ia_cv2 (ad : Nat → Nat) (x : Int) : ia_cv ad (2, x) = .float (UInt32.ofNat x.toNat) := rfl
theorem ia_cv3 (ad : Nat → Nat) (x : Int) : ia_cv ad (3, x) = .double (UInt64.ofNat x.toNat) := rfl
theorem ia_cv4 (ad : Nat → Nat) (x : Int) : ia_cv ad (4, x) = va_rf (ia_rf ad x) := rfl
theorem ia_rfk (ad : Nat → Nat) (k : Nat) : ia_rf ad (k : Int) = some (ad k) := by
  unfold ia_rf
  rw [if_neg (by omega), Int.toNat_natCast]
theorem ia_cvR (ad : Nat → Nat) (k : Nat) : ia_cv ad (4, (k : Int)) = .ref (ad k) := by rw [ia_cv4, ia_rfk]; rfl
theorem ia_cvN (ad : Nat → Nat) {x : Int} (h : x < 0) : ia_cv ad (4, x) = .null := by
  rw [ia_cv4]; unfold ia_rf; rw [if_pos h]; rfl
theorem ia_cat1 (ad : Nat → Nat) {v : Nat × Int} (h : v.1 = 0 ∨ v.1 = 2 ∨ v.1 = 4) : (ia_cv ad v).category = 1 := by
  obtain ⟨t, x⟩ := v
  rcases h with h | h | h <;> (dsimp only at h; subst h)
  · rfl
  · rfl
  · rw [ia_cv4]; rcases va_rf_or (ia_rf ad x) with h | ⟨a, h⟩ <;> rw [h] <;> rfl
theorem ia_cat2 (ad : Nat → Nat) {v : Nat × Int} (h : v.1 = 1 ∨ v.1 = 3) : (ia_cv ad v).category = 2 := by
  obtain ⟨t, x⟩ := v
  rcases h with h | h <;> (dsimp only at h; subst h; rfl)
-- locals
theorem ia_L_mem {ad : Nat → Nat} {ls : List (Nat × Int)} {q : Nat × Value} : q ∈ ia_L ad ls ↔ ∃ v : Nat × Int, ls[q.1]? = some v ∧ v.1 ≠ 9 ∧ q.2 = ia_cv ad v := by
  unfold ia_L
  rw [List.mem_filterMap]
  constructor
  · rintro ⟨i, hi, h⟩
    cases hv : ls[i]? with
    | none => rw [hv] at h; cases h
    | some v =>
      rw [hv] at h
      by_cases h9 : v.1 = 9
      · simp [h9] at h
      · simp [h9] at h
        subst h
        exact ⟨v, hv, h9, rfl⟩
  · rintro ⟨v, hv, h9, e⟩
    refine ⟨q.1, List.mem_range.mpr (List.getElem?_eq_some_iff.mp hv).1, ?_⟩
    rw [hv]
    simp [h9, ← e]
theorem ia_L_at {ad : Nat → Nat} {ls : List (Nat × Int)} {lsA : Array Slot} {nL i : Nat} {v : Nat × Int} (h : lv_has lsA nL (ia_L ad ls)) (hv : ls[i]? = some v) (h9 : v.1 ≠ 9) : lsA[i]? = some (.val (ia_cv ad v)) :=
  h.2.2 (i, ia_cv ad v) (ia_L_mem.mpr ⟨v, hv, h9, rfl⟩)
/-- a store of one word at i keeps the rest, where the local ahead of i is no long or double -/
def ia_ok1 (ls : List (Nat × Int)) (i : Nat) : Bool := match i with
  | 0 => true
  | j + 1 => match ls[j]? with
    | some v => !(v.1 == 1) && !(v.1 == 3)
    | none => true
theorem ia_L_set {ad : Nat → Nat} {ls : List (Nat × Int)} {lsA : Array Slot} {nL i : Nat} {v : Nat × Int} (h : lv_has lsA nL ((i, ia_cv ad v) :: (ia_L ad ls).filter (fun q => !(q.1 == i) && !(q.1 + 1 == i && q.2.category == 2)))) (hok : ia_ok1 ls i = true) (h9 : v.1 ≠ 9) : lv_has lsA nL (ia_L ad (ls.set i v)) := by
  refine ⟨h.1, h.2.1, fun q hq => h.2.2 q ?_⟩
  obtain ⟨u, hu, hu9, e⟩ := ia_L_mem.mp hq
  rw [List.getElem?_set] at hu
  by_cases hi : i = q.1
  · rw [if_pos hi] at hu
    by_cases hl : q.1 < ls.length
    · rw [if_pos (by omega)] at hu
      cases hu
      refine List.mem_cons.mpr (Or.inl ?_)
      obtain ⟨a, b⟩ := q
      dsimp only at hi e
      rw [hi, e]
    · rw [if_neg (by omega)] at hu
      cases hu
  · rw [if_neg hi] at hu
    refine List.mem_cons_of_mem _ (List.mem_filter.mpr ⟨ia_L_mem.mpr ⟨u, hu, hu9, e⟩, ?_⟩)
    have h1 : (q.1 == i) = false := by simp; omega
    rw [h1]
    cases i with
    | zero => simp
    | succ j =>
      by_cases hj : q.1 = j
      · subst hj
        unfold ia_ok1 at hok
        dsimp only at hok
        rw [hu] at hok
        simp at hok
        rw [e]
        have : (ia_cv ad u).category ≠ 2 := by
          obtain ⟨t, x⟩ := u
          dsimp only at hok hu9
          match t, hok, hu9 with
          | 0, _, _ => exact (show (1 : Nat) ≠ 2 by decide)
          | 1, hok, _ => exact absurd rfl hok.1
          | 2, _, _ => exact (show (1 : Nat) ≠ 2 by decide)
          | 3, hok, _ => exact absurd rfl hok.2
          | n + 5, _, _ => exact (show (1 : Nat) ≠ 2 by decide)
          | 4, _, _ =>
            show (va_rf (ia_rf ad x)).category ≠ 2
            rcases va_rf_or (ia_rf ad x) with h | ⟨a, h⟩ <;> rw [h] <;> exact (show (1 : Nat) ≠ 2 by decide)
        simp [this]
      · have h2 : (q.1 == j) = false := by simp; exact hj
        simp [h2]
