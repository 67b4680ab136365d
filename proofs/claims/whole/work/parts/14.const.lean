/-! constants, references in arrays, copies -/
theorem ia_cvE {gl : ia_GL} {ad : Nat → Nat} {Z : ia_Z} {V : ia_H} {H : Heap} (r1 : ia_Rep gl ad Z V H) (i : Nat) : ia_cv ad (4, ((ia_E0 + i : Nat) : Int)) = .ref (gl.2.2.2 i) := by rw [ia_cvR, r1.2.2.2.1]
section IAC
variable {X : ia_X} {own nm : String} {cc : ByteArray} {nL d mc ms cells slots pc : Nat} {ls st : List (Nat × Int)} {Z : ia_Z} {V : ia_H}
/-- a constant of the enum -/
theorem ia_getCmd (F : ia_Fix X own cc nL d mc ms) {index : Nat} (i : Nat) (hi : i < 9) (hw : Cond.fieldLink own index RX1 (ia_cmd i) "LInkPrintery$Command;" ∈ wU) (dg : decode cc pc = .ok (.getstatic index, 3)) (kk : ia_G X cells slots (pc + 3) ls ((4, ((ia_E0 + i : Nat) : Int)) :: st) Z V) : ia_G X cells slots pc ls st Z V := by
  intro H locs ad lsA r1 r2 r3 r4 r5 r6 r7 r8
  have w := kk H locs ad lsA r1 r2 r3 r4 r5 r6 r7 (ia_wfc (fun _ => Or.inr (by omega)) r8)
  rw [List.map_cons, ia_cvE r1] at w
  exact va_gets F.1.1 F.1.2.1 (F.1.2.2.2.2.2.1.2.2.1.2.1 i hi).1 r4 F.1.2.2.2.1 (F.1.2.2.2.2.1 _ hw) (fun _ h => h) dg w
theorem ia_getCommands (F : ia_Fix X own cc nL d mc ms) {index : Nat} {host : String} (hw : Cond.fieldLinkNest own index RX7 "COMMANDS" "[LInkPrintery$Command;" host ∈ ia_nest) (dg : decode cc pc = .ok (.getstatic index, 3)) (kk : ia_G X cells slots (pc + 3) ls ((4, ((ia_E0 + 200 : Nat) : Int)) :: st) Z V) : ia_G X cells slots pc ls st Z V := by
  intro H locs ad lsA r1 r2 r3 r4 r5 r6 r7 r8
  have w := kk H locs ad lsA r1 r2 r3 r4 r5 r6 r7 (ia_wfc (fun _ => Or.inr (by omega)) r8)
  rw [List.map_cons, ia_cvE r1] at w
  exact va_getsN F.1.1 F.1.2.1 F.1.2.2.2.2.2.1.2.2.1.2.2.1.1 r4 F.1.2.2.2.1 (va_Nw.use (ia_nest_on hw) (F.1.2.2.2.2.2.1.2.1 _ hw)) (fun _ h => h) dg w
theorem ia_lenCommands (F : ia_Fix X own cc nL d mc ms) (dg : decode cc pc = .ok (.arraylength, 1)) (kk : ia_G X cells slots (pc + 1) ls ((0, 9) :: st) Z V) : ia_G X cells slots pc ls ((4, ((ia_E0 + 200 : Nat) : Int)) :: st) Z V := by
  intro H locs ad lsA r1 r2 r3 r4 r5 r6 r7 r8
  have w := kk H locs ad lsA r1 r2 r3 r4 r5 r6 r7 (ia_wfc (ia_wfi (by decide)) (ia_wft r8))
  rw [List.map_cons, ia_cvE r1]
  exact va_tlen F.1.1 F.1.2.1 F.1.2.2.2.2.2.1.2.2.1.2.2.1.2 r4 rfl dg w
theorem ia_atCommands (F : ia_Fix X own cc nL d mc ms) {x : Int} (i : Nat) (hx : x = (i : Int)) (hi : i < 9) (dg : decode cc pc = .ok (.aaload, 1)) (kk : ia_G X cells slots (pc + 1) ls ((4, ((ia_E0 + i : Nat) : Int)) :: st) Z V) : ia_G X cells slots pc ls ((0, x) :: (4, ((ia_E0 + 200 : Nat) : Int)) :: st) Z V := by
  intro H locs ad lsA r1 r2 r3 r4 r5 r6 r7 r8
  subst hx
  have w := kk H locs ad lsA r1 r2 r3 r4 r5 r6 r7 (ia_wfc (fun _ => Or.inr (by omega)) (ia_wft (ia_wft r8)))
  rw [List.map_cons, ia_cvE r1] at w
  rw [List.map_cons, List.map_cons, ia_cvE r1]
  exact vb_tq F.1.1 F.1.2.1 F.1.2.2.2.2.2.1.2.2.1.2.2.1.2 r4 (ia_vpin hi (by omega)) (by rw [ia_clamp (by omega)]) dg w
theorem ia_getWord (F : ia_Fix X own cc nL d mc ms) {index : Nat} {host : String} (i : Nat) (hi : i < 9) (hw : Cond.fieldLinkNest own index RX1 "word" "Ljava/lang/String;" host ∈ ia_nest) (dg : decode cc pc = .ok (.getfield index, 3)) (kk : ia_G X cells slots (pc + 3) ls ((4, ((ia_E0 + (100 + i) : Nat) : Int)) :: st) Z V) : ia_G X cells slots pc ls ((4, ((ia_E0 + i : Nat) : Int)) :: st) Z V := by
  intro H locs ad lsA r1 r2 r3 r4 r5 r6 r7 r8
  have w := kk H locs ad lsA r1 r2 r3 r4 r5 r6 r7 (ia_wfc (fun _ => Or.inr (by omega)) (ia_wft r8))
  rw [List.map_cons, ia_cvE r1] at w
  rw [List.map_cons, ia_cvE r1]
  obtain ⟨cf, k, fi, f, cell, h1, h2, h3, h4, h5, h6⟩ := (F.1.2.2.2.2.2.1.2.2.1.2.2.2.1.1 i hi).kept r4.2.1
  exact va_Wgetf F.1.1 F.1.2.1 F.1.2.2.2.1 (va_Nw.use (ia_nest_on hw) (F.1.2.2.2.2.2.1.2.1 _ hw)) h1 h2 h3 h4 h5 rfl rfl dg w
theorem ia_getDig1 (F : ia_Fix X own cc nL d mc ms) {index : Nat} {host : String} (i : Nat) (hi : i < 9) (hw : Cond.fieldLinkNest own index RX1 "firstDigits" "I" host ∈ ia_nest) (dg : decode cc pc = .ok (.getfield index, 3)) (kk : ia_G X cells slots (pc + 3) ls ((0, ia_dig1 i) :: st) Z V) : ia_G X cells slots pc ls ((4, ((ia_E0 + i : Nat) : Int)) :: st) Z V := by
  intro H locs ad lsA r1 r2 r3 r4 r5 r6 r7 r8
  have w := kk H locs ad lsA r1 r2 r3 r4 r5 r6 r7 (ia_wfc (ia_wfi (by decide)) (ia_wft r8))
  rw [List.map_cons, ia_cv0] at w
  rw [List.map_cons, ia_cvE r1]
  obtain ⟨cf, k, fi, f, cell, h1, h2, h3, h4, h5, h6⟩ := (F.1.2.2.2.2.2.1.2.2.1.2.2.2.1.2.1 i hi).kept r4.2.1
  exact va_Wgetf F.1.1 F.1.2.1 F.1.2.2.2.1 (va_Nw.use (ia_nest_on hw) (F.1.2.2.2.2.2.1.2.1 _ hw)) h1 h2 h3 h4 h5 rfl rfl dg w
theorem ia_getDig2 (F : ia_Fix X own cc nL d mc ms) {index : Nat} {host : String} (i : Nat) (hi : i < 9) (hw : Cond.fieldLinkNest own index RX1 "secondDigits" "I" host ∈ ia_nest) (dg : decode cc pc = .ok (.getfield index, 3)) (kk : ia_G X cells slots (pc + 3) ls ((0, ia_dig2 i) :: st) Z V) : ia_G X cells slots pc ls ((4, ((ia_E0 + i : Nat) : Int)) :: st) Z V := by
  intro H locs ad lsA r1 r2 r3 r4 r5 r6 r7 r8
  have w := kk H locs ad lsA r1 r2 r3 r4 r5 r6 r7 (ia_wfc (ia_wfi (by decide)) (ia_wft r8))
  rw [List.map_cons, ia_cv0] at w
  rw [List.map_cons, ia_cvE r1]
  obtain ⟨cf, k, fi, f, cell, h1, h2, h3, h4, h5, h6⟩ := (F.1.2.2.2.2.2.1.2.2.1.2.2.2.1.2.2 i hi).kept r4.2.1
  exact va_Wgetf F.1.1 F.1.2.1 F.1.2.2.2.1 (va_Nw.use (ia_nest_on hw) (F.1.2.2.2.2.2.1.2.1 _ hw)) h1 h2 h3 h4 h5 rfl rfl dg w
/-- a String constant's fields -/
theorem ia_strCoder (F : ia_Fix X own cc nL d mc ms) {index : Nat} (i : Nat) (hi : i < 9) (hw : Cond.fieldLink own index RJ0 "coder" "B" ∈ wU) (dg : decode cc pc = .ok (.getfield index, 3)) (kk : ia_G X cells slots (pc + 3) ls ((0, 0) :: st) Z V) : ia_G X cells slots pc ls ((4, ((ia_E0 + (100 + i) : Nat) : Int)) :: st) Z V := by
  intro H locs ad lsA r1 r2 r3 r4 r5 r6 r7 r8
  have w := kk H locs ad lsA r1 r2 r3 r4 r5 r6 r7 (ia_wfc (ia_wfi (by decide)) (ia_wft r8))
  rw [List.map_cons, ia_cvE r1]
  exact vk_getf F.1.1 F.1.2.1 (F.1.2.2.2.2.2.1.2.2.1.2.2.2.2.1.1 i hi).2.1 r4 F.1.2.2.2.1 (F.1.2.2.2.2.1 _ hw) (fun _ h => h) dg w
theorem ia_strValue (F : ia_Fix X own cc nL d mc ms) {index : Nat} (i : Nat) (hi : i < 9) (hw : Cond.fieldLink own index RJ0 "value" "[B" ∈ wU) (dg : decode cc pc = .ok (.getfield index, 3)) (kk : ia_G X cells slots (pc + 3) ls ((4, ((ia_E0 + (300 + i) : Nat) : Int)) :: st) Z V) : ia_G X cells slots pc ls ((4, ((ia_E0 + (100 + i) : Nat) : Int)) :: st) Z V := by
  intro H locs ad lsA r1 r2 r3 r4 r5 r6 r7 r8
  have w := kk H locs ad lsA r1 r2 r3 r4 r5 r6 r7 (ia_wfc (fun _ => Or.inr (by omega)) (ia_wft r8))
  rw [List.map_cons, ia_cvE r1] at w
  rw [List.map_cons, ia_cvE r1]
  exact vk_getf F.1.1 F.1.2.1 (F.1.2.2.2.2.2.1.2.2.1.2.2.2.2.1.1 i hi).2.2.1 r4 F.1.2.2.2.1 (F.1.2.2.2.2.1 _ hw) (fun _ h => h) dg w
theorem ia_strT (F : ia_Fix X own cc nL d mc ms) (i : Nat) (hi : i < 9) : va_T .byte (X.2.2.2.2.2.2.2.2.2.2.2.1.2.2.2 (300 + i)) (ia_word i).length (fun j => .int (Int32.ofInt ((ia_word i).getD j 0))) (fun q => X.2.2.2.2.2.2.2.2.2.2.2.1.2.2.1 ≤ q) X.2.2.2.2.1 X.2.2.2.2.1.heap := by
  have h := (F.1.2.2.2.2.2.1.2.2.1.2.2.2.2.1.1 i hi).2.2.2
  have e1 : ((List.range 9).map (fun i => (ia_word i).length)).getD i 0 = (ia_word i).length := by
    rcases (show i = 0 ∨ i = 1 ∨ i = 2 ∨ i = 3 ∨ i = 4 ∨ i = 5 ∨ i = 6 ∨ i = 7 ∨ i = 8 by omega) with rfl | rfl | rfl | rfl | rfl | rfl | rfl | rfl | rfl <;> rfl
  have e2 : ((List.range 9).map (fun i => (ia_word i).map Int32.ofInt)).getD i [] = (ia_word i).map Int32.ofInt := by
    rcases (show i = 0 ∨ i = 1 ∨ i = 2 ∨ i = 3 ∨ i = 4 ∨ i = 5 ∨ i = 6 ∨ i = 7 ∨ i = 8 by omega) with rfl | rfl | rfl | rfl | rfl | rfl | rfl | rfl | rfl <;> rfl
  rw [e1, e2] at h
  have e3 : (fun j => Value.int (((ia_word i).map Int32.ofInt).getD j 0)) = (fun j => Value.int (Int32.ofInt ((ia_word i).getD j 0))) := by
    funext j
    refine congrArg Value.int ?_
    rw [List.getD_eq_getElem?_getD, List.getD_eq_getElem?_getD, List.getElem?_map]
    cases (ia_word i)[j]? <;> rfl
  rw [e3] at h
  exact h
theorem ia_strLen (F : ia_Fix X own cc nL d mc ms) (i : Nat) (hi : i < 9) {x : Int} (hx : ((ia_word i).length : Int) = x) (dg : decode cc pc = .ok (.arraylength, 1)) (kk : ia_G X cells slots (pc + 1) ls ((0, x) :: st) Z V) : ia_G X cells slots pc ls ((4, ((ia_E0 + (300 + i) : Nat) : Int)) :: st) Z V := by
  intro H locs ad lsA r1 r2 r3 r4 r5 r6 r7 r8
  have w := kk H locs ad lsA r1 r2 r3 r4 r5 r6 r7 (ia_wfc (ia_wfi (by decide)) (ia_wft r8))
  subst hx
  rw [List.map_cons, ia_cvE r1]
  exact va_tlen F.1.1 F.1.2.1 (ia_strT F i hi) r4 rfl dg w
theorem ia_strAt (F : ia_Fix X own cc nL d mc ms) (i : Nat) (hi : i < 9) {x : Int} (j : Nat) (hx : x = (j : Int)) (hj : j < (ia_word i).length) (dg : decode cc pc = .ok (.baload, 1)) (kk : ia_G X cells slots (pc + 1) ls ((0, (ia_word i).getD j 0) :: st) Z V) : ia_G X cells slots pc ls ((0, x) :: (4, ((ia_E0 + (300 + i) : Nat) : Int)) :: st) Z V := by
  intro H locs ad lsA r1 r2 r3 r4 r5 r6 r7 r8
  subst hx
  have w := kk H locs ad lsA r1 r2 r3 r4 r5 r6 r7 (ia_wfc (ia_wfi (by decide)) (ia_wft (ia_wft r8)))
  have hl : (ia_word i).length ≤ 7 := by
    rcases (show i = 0 ∨ i = 1 ∨ i = 2 ∨ i = 3 ∨ i = 4 ∨ i = 5 ∨ i = 6 ∨ i = 7 ∨ i = 8 by omega) with rfl | rfl | rfl | rfl | rfl | rfl | rfl | rfl | rfl <;> decide
  rw [List.map_cons, List.map_cons, ia_cvE r1]
  exact va_tb F.1.1 F.1.2.1 (ia_strT F i hi) r4 (ia_vpin hj (by omega)) (by rw [ia_clamp (by omega)]; rfl) dg w
theorem ia_getCompact (F : ia_Fix X own cc nL d mc ms) {index : Nat} (hw : Cond.fieldLink own index RJ0 "COMPACT_STRINGS" "Z" ∈ wU) (dg : decode cc pc = .ok (.getstatic index, 3)) (kk : ia_G X cells slots (pc + 3) ls ((0, 1) :: st) Z V) : ia_G X cells slots pc ls st Z V := by
  intro H locs ad lsA r1 r2 r3 r4 r5 r6 r7 r8
  exact va_gets F.1.1 F.1.2.1 F.1.2.2.2.2.2.1.2.2.1.2.2.2.2.2.1.1 r4 F.1.2.2.2.1 (F.1.2.2.2.2.1 _ hw) (fun _ h => h) dg (kk H locs ad lsA r1 r2 r3 r4 r5 r6 r7 (ia_wfc (ia_wfi (by decide)) r8))
theorem ia_getOnes (F : ia_Fix X own cc nL d mc ms) {index : Nat} (hw : Cond.fieldLink own index RJ6 "DigitOnes" "[B" ∈ wU) (dg : decode cc pc = .ok (.getstatic index, 3)) (kk : ia_G X cells slots (pc + 3) ls ((4, ((ia_E0 + 201 : Nat) : Int)) :: st) Z V) : ia_G X cells slots pc ls st Z V := by
  intro H locs ad lsA r1 r2 r3 r4 r5 r6 r7 r8
  have w := kk H locs ad lsA r1 r2 r3 r4 r5 r6 r7 (ia_wfc (fun _ => Or.inr (by omega)) r8)
  rw [List.map_cons, ia_cvE r1] at w
  exact va_gets F.1.1 F.1.2.1 F.1.2.2.2.2.2.1.2.2.1.2.2.2.2.2.2.1.1 r4 F.1.2.2.2.1 (F.1.2.2.2.2.1 _ hw) (fun _ h => h) dg w
theorem ia_atOnes (F : ia_Fix X own cc nL d mc ms) {x : Int} (i : Nat) (hx : x = (i : Int)) (hi : i < 100) (dg : decode cc pc = .ok (.baload, 1)) (kk : ia_G X cells slots (pc + 1) ls ((0, ((48 + i % 10 : Nat) : Int)) :: st) Z V) : ia_G X cells slots pc ls ((0, x) :: (4, ((ia_E0 + 201 : Nat) : Int)) :: st) Z V := by
  intro H locs ad lsA r1 r2 r3 r4 r5 r6 r7 r8
  subst hx
  have w := kk H locs ad lsA r1 r2 r3 r4 r5 r6 r7 (ia_wfc (ia_wfi (by decide)) (ia_wft (ia_wft r8)))
  rw [List.map_cons, List.map_cons, ia_cvE r1]
  exact va_tb F.1.1 F.1.2.1 F.1.2.2.2.2.2.1.2.2.1.2.2.2.2.2.2.1.2 r4 (ia_vpin hi (by omega)) (by rw [ia_clamp (by omega)]; rfl) dg w
theorem ia_getTens (F : ia_Fix X own cc nL d mc ms) {index : Nat} (hw : Cond.fieldLink own index RJ6 "DigitTens" "[B" ∈ wU) (dg : decode cc pc = .ok (.getstatic index, 3)) (kk : ia_G X cells slots (pc + 3) ls ((4, ((ia_E0 + 202 : Nat) : Int)) :: st) Z V) : ia_G X cells slots pc ls st Z V := by
  intro H locs ad lsA r1 r2 r3 r4 r5 r6 r7 r8
  have w := kk H locs ad lsA r1 r2 r3 r4 r5 r6 r7 (ia_wfc (fun _ => Or.inr (by omega)) r8)
  rw [List.map_cons, ia_cvE r1] at w
  exact va_gets F.1.1 F.1.2.1 F.1.2.2.2.2.2.1.2.2.1.2.2.2.2.2.2.2.1 r4 F.1.2.2.2.1 (F.1.2.2.2.2.1 _ hw) (fun _ h => h) dg w
theorem ia_atTens (F : ia_Fix X own cc nL d mc ms) {x : Int} (i : Nat) (hx : x = (i : Int)) (hi : i < 100) (dg : decode cc pc = .ok (.baload, 1)) (kk : ia_G X cells slots (pc + 1) ls ((0, ((48 + i / 10 : Nat) : Int)) :: st) Z V) : ia_G X cells slots pc ls ((0, x) :: (4, ((ia_E0 + 202 : Nat) : Int)) :: st) Z V := by
  intro H locs ad lsA r1 r2 r3 r4 r5 r6 r7 r8
  subst hx
  have w := kk H locs ad lsA r1 r2 r3 r4 r5 r6 r7 (ia_wfc (ia_wfi (by decide)) (ia_wft (ia_wft r8)))
  rw [List.map_cons, List.map_cons, ia_cvE r1]
  exact va_tb F.1.1 F.1.2.1 F.1.2.2.2.2.2.1.2.2.1.2.2.2.2.2.2.2.2 r4 (ia_vpin hi (by omega)) (by rw [ia_clamp (by omega)]; rfl) dg w
/-- a Shop into a row of Shops -/
theorem ia_astShop (F : ia_Fix X own cc nL d mc ms) {x y a : Int} (q i r : Nat) (ha : a = (q : Int)) (hi : x = (i : Int)) (hy : y = (r : Int)) (hq : q < Z.2.2) (hk : Z.1 q = 4) (hin : i < Z.2.1 q) (hr : r < Z.2.2) (hkr : Z.1 r = 19) (dg : decode cc pc = .ok (.aastore, 1)) (kk : ia_G X cells slots (pc + 1) ls st Z (ia_u V q i y)) : ia_G X cells slots pc ls ((4, y) :: (0, x) :: (4, a) :: st) Z V := by
  intro H locs ad lsA r1 r2 r3 r4 r5 r6 r7 r8
  subst ha hi hy
  have hl := r1.2.2.2.2.2.1 q hq
  have hg := ia_W_get (gl := X.2.2.2.2.2.2.2.2.2.2.2.1) (ad := ad) (V := V) hq
  have hgr := ia_W_get (gl := X.2.2.2.2.2.2.2.2.2.2.2.1) (ad := ad) (V := V) hr
  rw [ia_k4 hk] at hg
  rw [ia_kO (ci := 9) hkr] at hgr
  rw [List.map_cons, List.map_cons, List.map_cons, ia_cvR, ia_cvR]
  refine va_astq F.1.1 F.1.2.1 F.1.2.2.2.2.2.1.1 r1.1 (ia_W_D r1) r4 q 4 r 9 (r := (RX6, TX6, 15)) hg rfl hgr rfl (ia_vpin hin hl) dg (fun H1 locs1 hP hD hS => ?_)
  rw [ia_clamp (by omega)] at hP
  rw [ia_W_set (V := V) (i := i) (x := (r : Int)) (by rw [ia_k4 hk, ia_fupd (V q) (ia_rf ad) V q i (r : Int) rfl, ia_rfk]; rfl)] at hP
  exact kk H1 locs1 ad lsA (ia_Rep_set r1 hP (fun _ => Or.inl (by omega))) r2 r3 hS r5 r6 r7 (ia_wft (ia_wft (ia_wft r8)))
/-- a constant into a row of Commands -/
theorem ia_astCmd (F : ia_Fix X own cc nL d mc ms) {x a : Int} (q i r : Nat) (ha : a = (q : Int)) (hi : x = (i : Int)) (hr : r < 9) (hq : q < Z.2.2) (hk : Z.1 q = 5) (hin : i < Z.2.1 q) (hw : Cond.initialized RX1 ∈ wU) (dg : decode cc pc = .ok (.aastore, 1)) (kk : ia_G X cells slots (pc + 1) ls st Z (ia_u V q i ((ia_E0 + r : Nat) : Int))) : ia_G X cells slots pc ls ((4, ((ia_E0 + r : Nat) : Int)) :: (0, x) :: (4, a) :: st) Z V := by
  intro H locs ad lsA r1 r2 r3 r4 r5 r6 r7 r8
  subst ha hi
  have hl := r1.2.2.2.2.2.1 q hq
  have hg := ia_W_get (gl := X.2.2.2.2.2.2.2.2.2.2.2.1) (ad := ad) (V := V) hq
  rw [ia_k5 hk] at hg
  have hO := (F.1.2.2.2.2.2.1.2.2.1.2.1 r hr).2.kept r4.2.1
  have hAny : va_Any RX1 X.2.2.2.2.1 H (X.2.2.2.2.2.2.2.2.2.2.2.1.2.2.2 r) := by
    obtain ⟨cell, h1, h2, h3, h4⟩ := hO
    obtain ⟨k9, g2⟩ : ∃ k9 : Class, X.2.2.2.2.1.vm.classes[cell.cls]? = some k9 := by
      have h9 := F.1.2.2.2.2.1 _ hw
      cases hk9 : X.2.2.2.2.1.vm.classes[cell.cls]? with
      | some k9 => exact ⟨k9, rfl⟩
      | none => simp [Cond.before, Cond.holds, Cond.value, h3, hk9] at h9
    exact ⟨cell, h1, h2, ⟨k9, g2⟩, fun comp hc => by rw [Option.some.inj (hc.symm.trans h3)]; exact va_asg _ _⟩
  rw [List.map_cons, List.map_cons, List.map_cons, ia_cvE r1, ia_cvR]
  refine va_astqM F.1.1 F.1.2.1 F.1.2.2.2.2.2.1.1 r1.1 (ia_W_D r1) r4 q 5 hg rfl hAny (ia_vpin hin hl) dg (fun H1 locs1 hP hD hS => ?_)
  rw [ia_clamp (by omega)] at hP
  rw [ia_W_set (V := V) (i := i) (x := ((ia_E0 + r : Nat) : Int)) (by rw [ia_k5 hk, ia_fupd (V q) (ia_rf ad) V q i ((ia_E0 + r : Nat) : Int) rfl, ia_rfk, r1.2.2.2.1]; rfl)] at hP
  exact kk H1 locs1 ad lsA (ia_Rep_set r1 hP (fun _ => Or.inr (by omega))) r2 r3 hS r5 r6 r7 (ia_wft (ia_wft (ia_wft r8)))
def ia_cp (V : ia_H) (q0 q1 n : Nat) : ia_H := fun a j => if a = q1 ∧ j < n then V q0 j else V a j
/-- System.arraycopy of n ints from the first to the first -/
theorem ia_arraycopy (F : ia_Fix X own cc nL d mc ms) {x a0 a1 : Int} {index : Nat} (q0 q1 n : Nat) (hn : x = (n : Int)) (h0 : a0 = (q0 : Int)) (h1 : a1 = (q1 : Int)) (hq0 : q0 < Z.2.2) (hq1 : q1 < Z.2.2) (hk0 : Z.1 q0 = 0) (hk1 : Z.1 q1 = 0) (hl0 : n ≤ Z.2.1 q0) (hl1 : n ≤ Z.2.1 q1) (hw : Cond.methodLink own index arraycopyName ∈ wU ∧ Cond.native arraycopyName ∈ wU ∧ Cond.static arraycopyName ∈ wU ∧ Cond.initialized "java/lang/System" ∈ wU) (hd : 1 ≤ d ∧ st.length ≤ 4) (dg : decode cc pc = .ok (.invokestatic index, 3)) (kk : ia_G X cells slots (pc + 3) ls st Z (ia_cp V q0 q1 n)) : ia_G X cells slots pc ls ((0, x) :: (0, 0) :: (4, a1) :: (0, 0) :: (4, a0) :: st) Z V := by
  intro H locs ad lsA r1 r2 r3 r4 r5 r6 r7 r8
  subst hn h0 h1
  have hl := r1.2.2.2.2.2.1 q0 hq0
  have hg0 := ia_W_get (gl := X.2.2.2.2.2.2.2.2.2.2.2.1) (ad := ad) (V := V) hq0
  have hg1 := ia_W_get (gl := X.2.2.2.2.2.2.2.2.2.2.2.1) (ad := ad) (V := V) hq1
  rw [ia_k0 hk0] at hg0
  rw [ia_k0 hk1] at hg1
  have hf := F.1.2.2.2.2.2.2.1
  have hlc := F.1.2.2.2.2.2.2.2.1
  have hcat := ia_catle ad hd.2
  rw [List.map_cons, List.map_cons, List.map_cons, List.map_cons, List.map_cons, ia_cvR, ia_cvR]
  have ec : (Int32.ofInt (n : Int)).toNatClampNeg = n := ia_clamp (by omega)
  have ez : (Int32.ofInt (0 : Int)).toNatClampNeg = 0 := by decide
  refine va_copyi F.1.1 F.1.2.1 (F.1.2.2.1.trans r5.1.symm) F.1.2.2.2.1 (F.1.2.2.2.2.1 _ hw.1) (F.1.2.2.2.2.1 _ hw.2.1) (F.1.2.2.2.2.1 _ hw.2.2.1) (F.1.2.2.2.2.1 _ hw.2.2.2) F.1.2.2.2.2.2.1.1 r1.1 (ia_W_D r1) r4 q0 q1 0 0 (ty := .int) hg0 hg1 rfl rfl rfl (by decide) (by decide) (nI_pos (n := n) (by omega)) (by rw [ec, ez]; omega) (by rw [ec, ez]; omega) (fun _ _ => rfl) (by omega) (by
    have : nativeFrameWords "java/lang/System" "arraycopy" 5 + 11 ≤ 40 := by decide
    omega) dg (fun H1 locs1 hP hD hS => ?_)
  rw [ec, ez] at hP
  have hset : (ia_W X.2.2.2.2.2.2.2.2.2.2.2.1 ad Z V).set q1 (ad q1, .inl (X.2.2.2.2.2.2.2.2.2.2.2.1.2.1 0, Z.2.1 q1, .inl (va_cpy (fun i => Int32.ofInt (V q0 i)) (fun i => Int32.ofInt (V q1 i)) 0 0 n))) = ia_W X.2.2.2.2.2.2.2.2.2.2.2.1 ad Z (ia_cp V q0 q1 n) := by
    refine ia_W_setV ?_ (fun a ha => ?_)
    · rw [ia_k0 hk1]
      refine congrArg (fun f => Sum.inl (_, _, Sum.inl f)) (funext fun j => ?_)
      unfold ia_cp
      by_cases h : j < n
      · rw [if_pos ⟨rfl, h⟩, pk_cpy_in (by omega) (by omega)]
        simp
      · rw [if_neg (fun e => h e.2), pk_cpy_out (by omega)]
    · have e : ∀ j, ia_cp V q0 q1 n a j = V a j := fun j => if_neg (fun e => ha e.1)
      simp only [ia_ce, e]
  rw [hset] at hP
  refine kk H1 locs1 ad lsA ⟨hP, r1.2.1, r1.2.2.1, r1.2.2.2.1, r1.2.2.2.2.1, r1.2.2.2.2.2.1, fun a i ha hr => ?_⟩ r2 r3 hS r5 r6 r7 (ia_wft (ia_wft (ia_wft (ia_wft (ia_wft r8)))))
  rw [show ia_cp V q0 q1 n a i = V a i from if_neg (fun e => by rw [e.1, hk1, ia_nr (by decide)] at hr; cases hr)]
  exact r1.2.2.2.2.2.2 a i ha hr
end IAC
