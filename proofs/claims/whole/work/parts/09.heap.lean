/-! the rules of the heap -/
def ia_u (V : ia_H) (q i : Nat) (x : Int) : ia_H := fun a j => if a = q ∧ j = i then x else V a j
theorem ia_u_self (V : ia_H) (q i : Nat) (x : Int) : ia_u V q i x q i = x := if_pos ⟨rfl, rfl⟩
theorem ia_u_ne {V : ia_H} {q i a j : Nat} {x : Int} (h : a ≠ q ∨ j ≠ i) : ia_u V q i x a j = V a j := if_neg (fun e => by rcases h with h | h; exact h e.1; exact h e.2)
theorem ia_W_get {gl : ia_GL} {ad : Nat → Nat} {Z : ia_Z} {V : ia_H} {q : Nat} (h : q < Z.2.2) : (ia_W gl ad Z V)[q]? = some (ad q, ia_ce gl ad Z V q) := by
  unfold ia_W
  rw [List.getElem?_map, List.getElem?_range h]
  rfl
theorem ia_ce_u {gl : ia_GL} {ad : Nat → Nat} {Z : ia_Z} {V : ia_H} {q i a : Nat} {x : Int} (h : a ≠ q) : ia_ce gl ad Z (ia_u V q i x) a = ia_ce gl ad Z V a := by
  have e : ∀ j, ia_u V q i x a j = V a j := fun j => ia_u_ne (Or.inl h)
  simp only [ia_ce, e]
/-- one cell of the world is another -/
theorem ia_W_setV {gl : ia_GL} {ad : Nat → Nat} {Z : ia_Z} {V V' : ia_H} {q : Nat} {e : va_E} (he : ia_ce gl ad Z V' q = e) (ho : ∀ a, a ≠ q → ia_ce gl ad Z V' a = ia_ce gl ad Z V a) : (ia_W gl ad Z V).set q (ad q, e) = ia_W gl ad Z V' := by
  apply List.ext_getElem?
  intro k
  rw [List.getElem?_set]
  unfold ia_W
  rw [List.getElem?_map, List.getElem?_map, List.length_map, List.length_range]
  by_cases h : q = k
  · subst h
    by_cases hl : q < Z.2.2
    · rw [if_pos rfl, if_pos hl, List.getElem?_range hl]
      simp [he]
    · rw [if_pos rfl, if_neg hl, List.getElem?_eq_none (by rw [List.length_range]; omega)]
      rfl
  · rw [if_neg h]
    by_cases hl : k < Z.2.2
    · rw [List.getElem?_range hl]
      simp only [Option.map_some]
      rw [ho k (fun h2 => h h2.symm)]
    · rw [List.getElem?_eq_none (by rw [List.length_range]; omega)]
      rfl
theorem ia_W_set {gl : ia_GL} {ad : Nat → Nat} {Z : ia_Z} {V : ia_H} {q i : Nat} {x : Int} {e : va_E} (he : ia_ce gl ad Z (ia_u V q i x) q = e) : (ia_W gl ad Z V).set q (ad q, e) = ia_W gl ad Z (ia_u V q i x) := ia_W_setV he (fun _ h => ia_ce_u h)
theorem ia_W_D {gl : ia_GL} {ad : Nat → Nat} {Z : ia_Z} {V : ia_H} {H : Heap} (h : ia_Rep gl ad Z V H) : va_D (fun q => gl.2.2.1 ≤ q) (ia_W gl ad Z V) := by
  have lt : ∀ {k : Nat} {q : Nat × va_E}, (ia_W gl ad Z V)[k]? = some q → k < Z.2.2 ∧ q.1 = ad k := by
    intro k q hk
    have hl : k < Z.2.2 := by
      have := (List.getElem?_eq_some_iff.mp hk).1
      unfold ia_W at this
      rw [List.length_map, List.length_range] at this
      exact this
    rw [ia_W_get hl] at hk
    cases hk
    exact ⟨hl, rfl⟩
  refine ⟨fun i j p q hi hj e => ?_, fun k q hk => ?_⟩
  · obtain ⟨a1, b1⟩ := lt hi
    obtain ⟨a2, b2⟩ := lt hj
    exact h.2.1 i j a1 a2 (by rw [← b1, ← b2]; exact e)
  · obtain ⟨a1, b1⟩ := lt hk
    rw [b1]
    exact h.2.2.1 k a1
theorem ia_Rep_set {gl : ia_GL} {ad : Nat → Nat} {Z : ia_Z} {V : ia_H} {H H1 : Heap} {q i : Nat} {y : Int} (h : ia_Rep gl ad Z V H) (hP : va_P gl.1 vwCl (ia_W gl ad Z (ia_u V q i y)) H1) (hy : ia_isr (Z.1 q) i = true → y < (Z.2.2 : Int) ∨ (ia_E0 : Int) ≤ y) : ia_Rep gl ad Z (ia_u V q i y) H1 := by
  obtain ⟨-, h2, h3, h4, h5, h6, h7⟩ := h
  refine ⟨hP, h2, h3, h4, h5, h6, fun a j ha hr => ?_⟩
  by_cases e : a = q ∧ j = i
  · obtain ⟨rfl, rfl⟩ := e
    rw [ia_u_self]
    exact hy hr
  · rw [ia_u_ne (by rcases Decidable.em (a = q) with e1 | e1; exact Or.inr (fun e2 => e ⟨e1, e2⟩); exact Or.inl e1)]
    exact h7 a j ha hr
theorem ia_clamp {i : Nat} (h : i < 2147483648) : (Int32.ofInt (i : Int)).toNatClampNeg = i := nI_clamp (n := i) h
theorem ia_vpin {i n : Nat} (h : i < n) (hn : n ≤ 1000000) : vp_in (Int32.ofInt (i : Int)) n := vp_in_nI (n := i) h (by omega)
theorem ia_k0 {gl : ia_GL} {ad : Nat → Nat} {Z : ia_Z} {V : ia_H} {q : Nat} (hk : Z.1 q = 0) : ia_ce gl ad Z V q = .inl (gl.2.1 0, Z.2.1 q, .inl (fun i => Int32.ofInt (V q i))) := if_pos hk
theorem ia_k1 {gl : ia_GL} {ad : Nat → Nat} {Z : ia_Z} {V : ia_H} {q : Nat} (hk : Z.1 q = 1) : ia_ce gl ad Z V q = .inl (gl.2.1 1, Z.2.1 q, .inr (.inl (fun i => Int64.ofInt (V q i)))) := by unfold ia_ce; rw [if_neg (by omega), if_pos hk]
theorem ia_k2 {gl : ia_GL} {ad : Nat → Nat} {Z : ia_Z} {V : ia_H} {q : Nat} (hk : Z.1 q = 2) : ia_ce gl ad Z V q = .inl (gl.2.1 2, Z.2.1 q, .inr (.inr (.inr (.inl (fun i => UInt64.ofNat (V q i).toNat))))) := by unfold ia_ce; rw [if_neg (by omega), if_neg (by omega), if_pos hk]
theorem ia_k3 {gl : ia_GL} {ad : Nat → Nat} {Z : ia_Z} {V : ia_H} {q : Nat} (hk : Z.1 q = 3) : ia_ce gl ad Z V q = .inl (gl.2.1 3, Z.2.1 q, .inl (fun i => Int32.ofInt (V q i))) := by unfold ia_ce; rw [if_neg (by omega), if_neg (by omega), if_neg (by omega), if_pos hk]
theorem ia_k4 {gl : ia_GL} {ad : Nat → Nat} {Z : ia_Z} {V : ia_H} {q : Nat} (hk : Z.1 q = 4) : ia_ce gl ad Z V q = .inl (gl.2.1 4, Z.2.1 q, .inr (.inr (.inr (.inr (fun i => ia_rf ad (V q i)))))) := by unfold ia_ce; rw [if_neg (by omega), if_neg (by omega), if_neg (by omega), if_neg (by omega), if_pos hk]
theorem ia_k5 {gl : ia_GL} {ad : Nat → Nat} {Z : ia_Z} {V : ia_H} {q : Nat} (hk : Z.1 q = 5) : ia_ce gl ad Z V q = .inl (gl.2.1 5, Z.2.1 q, .inr (.inr (.inr (.inr (fun i => ia_rf ad (V q i)))))) := by unfold ia_ce; rw [if_neg (by omega), if_neg (by omega), if_neg (by omega), if_neg (by omega), if_neg (by omega), if_pos hk]
theorem ia_kO {gl : ia_GL} {ad : Nat → Nat} {Z : ia_Z} {V : ia_H} {q ci : Nat} (hk : Z.1 q = 10 + ci) : ia_ce gl ad Z V q = .inr (ci, (List.range (ia_nf ci)).map (fun j => ia_cv ad (ia_tag (ia_ty ci j), V q j))) := by
  unfold ia_ce
  rw [if_neg (by omega), if_neg (by omega), if_neg (by omega), if_neg (by omega), if_neg (by omega), if_neg (by omega), show Z.1 q - 10 = ci by omega]
theorem ia_nr {k i : Nat} (h : k < 4) : ia_isr k i = false := by
  unfold ia_isr
  rw [show (k == 4) = false by simp; omega, show (k == 5) = false by simp; omega, show decide (6 ≤ k) = false by simp; omega]
  rfl
theorem ia_isrO {k ci i : Nat} (h : k = 10 + ci) : ia_isr k i = true ↔ ia_tag (ia_ty ci i) = 4 := by
  subst h
  unfold ia_isr
  rw [show (10 + ci == 4) = false by simp; omega, show (10 + ci == 5) = false by simp; omega, show decide (6 ≤ 10 + ci) = true by simp; omega, show 10 + ci - 10 = ci by omega]
  simp
theorem ia_fupd {α : Type} (f : Nat → Int) (g : Int → α) (V : ia_H) (q i : Nat) (y : Int) (hf : f = V q) : (fun j => g (ia_u V q i y q j)) = fun j => if j = i then g y else g (f j) := by
  subst hf
  funext j
  unfold ia_u
  by_cases h : j = i
  · rw [if_pos ⟨rfl, h⟩, if_pos h]
  · rw [if_neg (fun e => h e.2), if_neg h]
/-- what a class of vwCl gives to its fields' rules -/
def ia_Cls (ci : Nat) (C : String) (T : u_T) (N : Nat) : Prop := vwCl[ci]? = some (C, T, N) ∧ (∀ w ∈ u_ws C T N, w ∈ wU) ∧ (∀ k, k < N → parseFieldDescriptor (T k).2.2.1 = some (ia_ty ci k)) ∧ (∀ a, a < N → ∀ b, b < N → a ≠ b → (T a).2.1 ≠ (T b).2.1) ∧ ia_nf ci = N
theorem ia_Oset {ad : Nat → Nat} {Z : ia_Z} {V : ia_H} {gl : ia_GL} {q k ci : Nat} {y : Int} (hkd : Z.1 q = 10 + ci) : ia_ce gl ad Z (ia_u V q k y) q = .inr (ci, ((List.range (ia_nf ci)).map (fun j => ia_cv ad (ia_tag (ia_ty ci j), V q j))).set k (ia_cv ad (ia_tag (ia_ty ci k), y))) := by
  rw [ia_kO hkd]
  refine congrArg (fun f => Sum.inr (ci, f)) (List.ext_getElem? (fun j => ?_))
  rw [List.getElem?_set, List.getElem?_map, List.getElem?_map, List.length_map, List.length_range]
  by_cases hl : j < ia_nf ci
  · rw [List.getElem?_range hl]
    by_cases h : k = j
    · subst h
      rw [if_pos rfl, if_pos hl]
      simp [ia_u_self]
    · rw [if_neg h]
      simp only [Option.map_some]
      rw [ia_u_ne (Or.inr (fun e => h e.symm))]
  · rw [List.getElem?_eq_none (by rw [List.length_range]; omega)]
    by_cases h : k = j
    · subst h
      rw [if_pos rfl, if_neg hl]
      rfl
    · rw [if_neg h]
      rfl
section IAH
variable {X : ia_X} {own : String} {cc : ByteArray} {nL d mc ms cells slots pc : Nat} {ls st : List (Nat × Int)} {Z : ia_Z} {V : ia_H}
theorem ia_iaload (F : ia_Fix X own cc nL d mc ms) {x a v : Int} (q i : Nat) (ha : a = (q : Int)) (hi : x = (i : Int)) (hq : q < Z.2.2) (hk : Z.1 q = 0) (hin : i < Z.2.1 q) (hv : V q i = v) (dg : decode cc pc = .ok (.iaload, 1)) (kk : ia_G X cells slots (pc + 1) ls ((0, v) :: st) Z V) : ia_G X cells slots pc ls ((0, x) :: (4, a) :: st) Z V := by
  intro H locs ad lsA r1 r2 r3 r4 r5 r6 r7 r8
  have w := kk H locs ad lsA r1 r2 r3 r4 r5 r6 r7 (ia_wfc (ia_wfi (by decide)) (ia_wft (ia_wft r8)))
  subst ha hi hv
  have hl := r1.2.2.2.2.2.1 q hq
  have hg := ia_W_get (gl := X.2.2.2.2.2.2.2.2.2.2.2.1) (ad := ad) (V := V) hq
  rw [ia_k0 hk] at hg
  rw [List.map_cons, List.map_cons, ia_cvR]
  rw [List.map_cons] at w
  refine va_iald F.1.1 F.1.2.1 F.1.2.2.2.2.2.1.1 r1.1 q 0 hg rfl (ia_vpin hin hl) dg ?_
  rw [ia_clamp (by omega)]
  exact w
theorem ia_laload (F : ia_Fix X own cc nL d mc ms) {x a v : Int} (q i : Nat) (ha : a = (q : Int)) (hi : x = (i : Int)) (hq : q < Z.2.2) (hk : Z.1 q = 1) (hin : i < Z.2.1 q) (hv : V q i = v) (dg : decode cc pc = .ok (.laload, 1)) (kk : ia_G X cells slots (pc + 1) ls ((1, v) :: st) Z V) : ia_G X cells slots pc ls ((0, x) :: (4, a) :: st) Z V := by
  intro H locs ad lsA r1 r2 r3 r4 r5 r6 r7 r8
  have w := kk H locs ad lsA r1 r2 r3 r4 r5 r6 r7 (ia_wfc (ia_wfi (by decide)) (ia_wft (ia_wft r8)))
  subst ha hi hv
  have hl := r1.2.2.2.2.2.1 q hq
  have hg := ia_W_get (gl := X.2.2.2.2.2.2.2.2.2.2.2.1) (ad := ad) (V := V) hq
  rw [ia_k1 hk] at hg
  rw [List.map_cons, List.map_cons, ia_cvR]
  rw [List.map_cons] at w
  refine va_lald F.1.1 F.1.2.1 F.1.2.2.2.2.2.1.1 r1.1 q 1 hg rfl (ia_vpin hin hl) dg ?_
  rw [ia_clamp (by omega)]
  exact w
theorem ia_daload (F : ia_Fix X own cc nL d mc ms) {x a v : Int} (q i : Nat) (ha : a = (q : Int)) (hi : x = (i : Int)) (hq : q < Z.2.2) (hk : Z.1 q = 2) (hin : i < Z.2.1 q) (hv : V q i = v) (dg : decode cc pc = .ok (.daload, 1)) (kk : ia_G X cells slots (pc + 1) ls ((3, v) :: st) Z V) : ia_G X cells slots pc ls ((0, x) :: (4, a) :: st) Z V := by
  intro H locs ad lsA r1 r2 r3 r4 r5 r6 r7 r8
  have w := kk H locs ad lsA r1 r2 r3 r4 r5 r6 r7 (ia_wfc (ia_wfi (by decide)) (ia_wft (ia_wft r8)))
  subst ha hi hv
  have hl := r1.2.2.2.2.2.1 q hq
  have hg := ia_W_get (gl := X.2.2.2.2.2.2.2.2.2.2.2.1) (ad := ad) (V := V) hq
  rw [ia_k2 hk] at hg
  rw [List.map_cons, List.map_cons, ia_cvR]
  rw [List.map_cons] at w
  refine va_dald F.1.1 F.1.2.1 F.1.2.2.2.2.2.1.1 r1.1 q 2 hg rfl (ia_vpin hin hl) dg ?_
  rw [ia_clamp (by omega)]
  exact w
theorem ia_baload (F : ia_Fix X own cc nL d mc ms) {x a v : Int} (q i : Nat) (ha : a = (q : Int)) (hi : x = (i : Int)) (hq : q < Z.2.2) (hk : Z.1 q = 3) (hin : i < Z.2.1 q) (hv : V q i = v) (dg : decode cc pc = .ok (.baload, 1)) (kk : ia_G X cells slots (pc + 1) ls ((0, v) :: st) Z V) : ia_G X cells slots pc ls ((0, x) :: (4, a) :: st) Z V := by
  intro H locs ad lsA r1 r2 r3 r4 r5 r6 r7 r8
  have w := kk H locs ad lsA r1 r2 r3 r4 r5 r6 r7 (ia_wfc (ia_wfi (by decide)) (ia_wft (ia_wft r8)))
  subst ha hi hv
  have hl := r1.2.2.2.2.2.1 q hq
  have hg := ia_W_get (gl := X.2.2.2.2.2.2.2.2.2.2.2.1) (ad := ad) (V := V) hq
  rw [ia_k3 hk] at hg
  rw [List.map_cons, List.map_cons, ia_cvR]
  rw [List.map_cons] at w
  refine va_bald F.1.1 F.1.2.1 F.1.2.2.2.2.2.1.1 r1.1 q 3 hg rfl (ia_vpin hin hl) dg ?_
  rw [ia_clamp (by omega)]
  exact w
theorem ia_aaload4 (F : ia_Fix X own cc nL d mc ms) {x a v : Int} (q i : Nat) (ha : a = (q : Int)) (hi : x = (i : Int)) (hq : q < Z.2.2) (hk : Z.1 q = 4) (hin : i < Z.2.1 q) (hv : V q i = v) (dg : decode cc pc = .ok (.aaload, 1)) (kk : ia_G X cells slots (pc + 1) ls ((4, v) :: st) Z V) : ia_G X cells slots pc ls ((0, x) :: (4, a) :: st) Z V := by
  intro H locs ad lsA r1 r2 r3 r4 r5 r6 r7 r8
  have w := kk H locs ad lsA r1 r2 r3 r4 r5 r6 r7 (ia_wfc (fun _ => by rw [← hv]; exact r1.2.2.2.2.2.2 q i hq (by rw [hk]; rfl)) (ia_wft (ia_wft r8)))
  subst ha hi hv
  have hl := r1.2.2.2.2.2.1 q hq
  have hg := ia_W_get (gl := X.2.2.2.2.2.2.2.2.2.2.2.1) (ad := ad) (V := V) hq
  rw [ia_k4 hk] at hg
  rw [List.map_cons, List.map_cons, ia_cvR]
  rw [List.map_cons] at w
  refine va_aldq F.1.1 F.1.2.1 F.1.2.2.2.2.2.1.1 r1.1 q 4 hg rfl (ia_vpin hin hl) dg ?_
  rw [ia_clamp (by omega)]
  exact w
theorem ia_aaload5 (F : ia_Fix X own cc nL d mc ms) {x a v : Int} (q i : Nat) (ha : a = (q : Int)) (hi : x = (i : Int)) (hq : q < Z.2.2) (hk : Z.1 q = 5) (hin : i < Z.2.1 q) (hv : V q i = v) (dg : decode cc pc = .ok (.aaload, 1)) (kk : ia_G X cells slots (pc + 1) ls ((4, v) :: st) Z V) : ia_G X cells slots pc ls ((0, x) :: (4, a) :: st) Z V := by
  intro H locs ad lsA r1 r2 r3 r4 r5 r6 r7 r8
  have w := kk H locs ad lsA r1 r2 r3 r4 r5 r6 r7 (ia_wfc (fun _ => by rw [← hv]; exact r1.2.2.2.2.2.2 q i hq (by rw [hk]; rfl)) (ia_wft (ia_wft r8)))
  subst ha hi hv
  have hl := r1.2.2.2.2.2.1 q hq
  have hg := ia_W_get (gl := X.2.2.2.2.2.2.2.2.2.2.2.1) (ad := ad) (V := V) hq
  rw [ia_k5 hk] at hg
  rw [List.map_cons, List.map_cons, ia_cvR]
  rw [List.map_cons] at w
  refine va_aldq F.1.1 F.1.2.1 F.1.2.2.2.2.2.1.1 r1.1 q 5 hg rfl (ia_vpin hin hl) dg ?_
  rw [ia_clamp (by omega)]
  exact w
theorem ia_iastore (F : ia_Fix X own cc nL d mc ms) {x y a : Int} (q i : Nat) (ha : a = (q : Int)) (hi : x = (i : Int)) (hq : q < Z.2.2) (hk : Z.1 q = 0) (hin : i < Z.2.1 q) (dg : decode cc pc = .ok (.iastore, 1)) (kk : ia_G X cells slots (pc + 1) ls st Z (ia_u V q i y)) : ia_G X cells slots pc ls ((0, y) :: (0, x) :: (4, a) :: st) Z V := by
  intro H locs ad lsA r1 r2 r3 r4 r5 r6 r7 r8
  subst ha hi
  have hl := r1.2.2.2.2.2.1 q hq
  have hg := ia_W_get (gl := X.2.2.2.2.2.2.2.2.2.2.2.1) (ad := ad) (V := V) hq
  rw [ia_k0 hk] at hg
  rw [List.map_cons, List.map_cons, List.map_cons, ia_cvR]
  refine va_iast F.1.1 F.1.2.1 F.1.2.2.2.2.2.1.1 r1.1 (ia_W_D r1) r4 q 0 hg rfl (ia_vpin hin hl) dg (fun H1 locs1 hP hD hS => ?_)
  rw [ia_clamp (by omega)] at hP
  rw [ia_W_set (V := V) (i := i) (x := y) (by rw [ia_k0 hk, ia_fupd (V q) Int32.ofInt V q i y rfl]; rfl)] at hP
  exact kk H1 locs1 ad lsA (ia_Rep_set r1 hP (fun h => by rw [hk, ia_nr (by decide)] at h; cases h)) r2 r3 hS r5 r6 r7 (ia_wft (ia_wft (ia_wft r8)))
theorem ia_lastore (F : ia_Fix X own cc nL d mc ms) {x y a : Int} (q i : Nat) (ha : a = (q : Int)) (hi : x = (i : Int)) (hq : q < Z.2.2) (hk : Z.1 q = 1) (hin : i < Z.2.1 q) (dg : decode cc pc = .ok (.lastore, 1)) (kk : ia_G X cells slots (pc + 1) ls st Z (ia_u V q i y)) : ia_G X cells slots pc ls ((1, y) :: (0, x) :: (4, a) :: st) Z V := by
  intro H locs ad lsA r1 r2 r3 r4 r5 r6 r7 r8
  subst ha hi
  have hl := r1.2.2.2.2.2.1 q hq
  have hg := ia_W_get (gl := X.2.2.2.2.2.2.2.2.2.2.2.1) (ad := ad) (V := V) hq
  rw [ia_k1 hk] at hg
  rw [List.map_cons, List.map_cons, List.map_cons, ia_cvR]
  refine va_last F.1.1 F.1.2.1 F.1.2.2.2.2.2.1.1 r1.1 (ia_W_D r1) r4 q 1 hg rfl (ia_vpin hin hl) dg (fun H1 locs1 hP hD hS => ?_)
  rw [ia_clamp (by omega)] at hP
  rw [ia_W_set (V := V) (i := i) (x := y) (by rw [ia_k1 hk, ia_fupd (V q) Int64.ofInt V q i y rfl]; rfl)] at hP
  exact kk H1 locs1 ad lsA (ia_Rep_set r1 hP (fun h => by rw [hk, ia_nr (by decide)] at h; cases h)) r2 r3 hS r5 r6 r7 (ia_wft (ia_wft (ia_wft r8)))
theorem ia_dastore (F : ia_Fix X own cc nL d mc ms) {x y a : Int} (q i : Nat) (ha : a = (q : Int)) (hi : x = (i : Int)) (hq : q < Z.2.2) (hk : Z.1 q = 2) (hin : i < Z.2.1 q) (dg : decode cc pc = .ok (.dastore, 1)) (kk : ia_G X cells slots (pc + 1) ls st Z (ia_u V q i y)) : ia_G X cells slots pc ls ((3, y) :: (0, x) :: (4, a) :: st) Z V := by
  intro H locs ad lsA r1 r2 r3 r4 r5 r6 r7 r8
  subst ha hi
  have hl := r1.2.2.2.2.2.1 q hq
  have hg := ia_W_get (gl := X.2.2.2.2.2.2.2.2.2.2.2.1) (ad := ad) (V := V) hq
  rw [ia_k2 hk] at hg
  rw [List.map_cons, List.map_cons, List.map_cons, ia_cvR]
  refine va_dast F.1.1 F.1.2.1 F.1.2.2.2.2.2.1.1 r1.1 (ia_W_D r1) r4 q 2 hg rfl (ia_vpin hin hl) dg (fun H1 locs1 hP hD hS => ?_)
  rw [ia_clamp (by omega)] at hP
  rw [ia_W_set (V := V) (i := i) (x := y) (by rw [ia_k2 hk, ia_fupd (V q) (fun z : Int => UInt64.ofNat z.toNat) V q i y rfl]; rfl)] at hP
  exact kk H1 locs1 ad lsA (ia_Rep_set r1 hP (fun h => by rw [hk, ia_nr (by decide)] at h; cases h)) r2 r3 hS r5 r6 r7 (ia_wft (ia_wft (ia_wft r8)))
theorem ia_bastore (F : ia_Fix X own cc nL d mc ms) {x y a : Int} (q i : Nat) (ha : a = (q : Int)) (hi : x = (i : Int)) (hq : q < Z.2.2) (hk : Z.1 q = 3) (hin : i < Z.2.1 q) (hb : (Int32.ofInt y).toInt8.toInt32 = Int32.ofInt y) (dg : decode cc pc = .ok (.bastore, 1)) (kk : ia_G X cells slots (pc + 1) ls st Z (ia_u V q i y)) : ia_G X cells slots pc ls ((0, y) :: (0, x) :: (4, a) :: st) Z V := by
  intro H locs ad lsA r1 r2 r3 r4 r5 r6 r7 r8
  subst ha hi
  have hl := r1.2.2.2.2.2.1 q hq
  have hg := ia_W_get (gl := X.2.2.2.2.2.2.2.2.2.2.2.1) (ad := ad) (V := V) hq
  rw [ia_k3 hk] at hg
  rw [List.map_cons, List.map_cons, List.map_cons, ia_cvR]
  refine va_bast F.1.1 F.1.2.1 F.1.2.2.2.2.2.1.1 r1.1 (ia_W_D r1) r4 q 3 hg rfl (ia_vpin hin hl) dg (fun H1 locs1 hP hD hS => ?_)
  rw [ia_clamp (by omega)] at hP
  rw [vp_nar_byte, hb] at hP
  rw [ia_W_set (V := V) (i := i) (x := y) (by rw [ia_k3 hk, ia_fupd (V q) Int32.ofInt V q i y rfl]; rfl)] at hP
  exact kk H1 locs1 ad lsA (ia_Rep_set r1 hP (fun h => by rw [hk, ia_nr (by decide)] at h; cases h)) r2 r3 hS r5 r6 r7 (ia_wft (ia_wft (ia_wft r8)))
theorem ia_alen (F : ia_Fix X own cc nL d mc ms) {a : Int} (q k t : Nat) {x : Int} (ha : a = (q : Int)) (hq : q < Z.2.2) (hk : Z.1 q = k) (hk6 : k < 6) (hx : (Z.2.1 q : Int) = x) (dg : decode cc pc = .ok (.arraylength, 1)) (kk : ia_G X cells slots (pc + 1) ls ((0, x) :: st) Z V) : ia_G X cells slots pc ls ((4, a) :: st) Z V := by
  intro H locs ad lsA r1 r2 r3 r4 r5 r6 r7 r8
  have w := kk H locs ad lsA r1 r2 r3 r4 r5 r6 r7 (ia_wfc (ia_wfi (by decide)) (ia_wft r8))
  subst ha hx
  have hg := ia_W_get (gl := X.2.2.2.2.2.2.2.2.2.2.2.1) (ad := ad) (V := V) hq
  rw [List.map_cons, ia_cvR]
  rw [List.map_cons] at w
  rcases (show k = 0 ∨ k = 1 ∨ k = 2 ∨ k = 3 ∨ k = 4 ∨ k = 5 by omega) with h | h | h | h | h | h
  · rw [ia_k0 (hk.trans h)] at hg; exact va_alen F.1.1 F.1.2.1 F.1.2.2.2.2.2.1.1 r1.1 q 0 hg rfl rfl dg w
  · rw [ia_k1 (hk.trans h)] at hg; exact va_alen F.1.1 F.1.2.1 F.1.2.2.2.2.2.1.1 r1.1 q 1 hg rfl rfl dg w
  · rw [ia_k2 (hk.trans h)] at hg; exact va_alen F.1.1 F.1.2.1 F.1.2.2.2.2.2.1.1 r1.1 q 2 hg rfl rfl dg w
  · rw [ia_k3 (hk.trans h)] at hg; exact va_alen F.1.1 F.1.2.1 F.1.2.2.2.2.2.1.1 r1.1 q 3 hg rfl rfl dg w
  · rw [ia_k4 (hk.trans h)] at hg; exact va_alen F.1.1 F.1.2.1 F.1.2.2.2.2.2.1.1 r1.1 q 4 hg rfl rfl dg w
  · rw [ia_k5 (hk.trans h)] at hg; exact va_alen F.1.1 F.1.2.1 F.1.2.2.2.2.2.1.1 r1.1 q 5 hg rfl rfl dg w
theorem ia_getf (F : ia_Fix X own cc nL d mc ms) {ci N index : Nat} {C : String} {T : u_T} (hC : ia_Cls ci C T N) (k : Nat) (hk : k < N) {a x : Int} {t : Nat} (q : Nat) (ha : a = (q : Int)) (hq : q < Z.2.2) (hkd : Z.1 q = 10 + ci) (ht : ia_tag (ia_ty ci k) = t) (hx : V q k = x) (hw : Cond.fieldLink own index (T k).1 (T k).2.1 (T k).2.2.1 ∈ wU) (dg : decode cc pc = .ok (.getfield index, 3)) (kk : ia_G X cells slots (pc + 3) ls ((t, x) :: st) Z V) : ia_G X cells slots pc ls ((4, a) :: st) Z V := by
  intro H locs ad lsA r1 r2 r3 r4 r5 r6 r7 r8
  have w := kk H locs ad lsA r1 r2 r3 r4 r5 r6 r7 (ia_wfc (fun e => by
    rw [← hx]
    exact r1.2.2.2.2.2.2 q k hq ((ia_isrO hkd).mpr (ht.trans e))) (ia_wft r8))
  subst ha hx ht
  have hg := ia_W_get (gl := X.2.2.2.2.2.2.2.2.2.2.2.1) (ad := ad) (V := V) hq
  rw [ia_kO hkd] at hg
  rw [List.map_cons, ia_cvR]
  rw [List.map_cons] at w
  exact va_get F.1.1 F.1.2.1 F.1.2.2.2.2.1 hC.2.1 F.1.2.2.2.1 F.1.2.2.2.2.2.1.1 r1.1 q hg hC.1 k hk (F.1.2.2.2.2.1 _ hw) (fun _ h => h) (by rw [List.getElem?_map, List.getElem?_range (by rw [hC.2.2.2.2]; exact hk)]; rfl) dg w
/-- a field's store; hn: the value fits its type -/
theorem ia_putf (F : ia_Fix X own cc nL d mc ms) {ci N index : Nat} {C : String} {T : u_T} (hC : ia_Cls ci C T N) (k : Nat) (hk : k < N) {a y : Int} {t : Nat} (q : Nat) (ha : a = (q : Int)) (hq : q < Z.2.2) (hkd : Z.1 q = 10 + ci) (ht : ia_tag (ia_ty ci k) = t) (hfin : (T k).2.2.2 = false) (hn : ∀ ad : Nat → Nat, narrow (ia_ty ci k) (ia_cv ad (t, y)) = ia_cv ad (t, y) ∧ fits (ia_ty ci k) (ia_cv ad (t, y)) = true) (hw : Cond.fieldLink own index (T k).1 (T k).2.1 (T k).2.2.1 ∈ wU) (dg : decode cc pc = .ok (.putfield index, 3)) (kk : ia_G X cells slots (pc + 3) ls st Z (ia_u V q k y)) : ia_G X cells slots pc ls ((t, y) :: (4, a) :: st) Z V := by
  intro H locs ad lsA r1 r2 r3 r4 r5 r6 r7 r8
  subst ha ht
  have hg := ia_W_get (gl := X.2.2.2.2.2.2.2.2.2.2.2.1) (ad := ad) (V := V) hq
  rw [ia_kO hkd] at hg
  rw [List.map_cons, List.map_cons, ia_cvR]
  refine va_put F.1.1 F.1.2.1 F.1.2.2.2.2.1 hC.2.1 (ia_ty ci) hC.2.2.1 hC.2.2.2.1 F.1.2.2.2.1 F.1.2.2.2.2.2.1.1 r1.1 (ia_W_D r1) r4 q hg hC.1 k hk (F.1.2.2.2.2.1 _ hw) (fun _ h => h) hfin (hC.2.2.1 k hk) (hn ad).1 (hn ad).2 (by rw [List.length_map, List.length_range, hC.2.2.2.2]; exact hk) dg (fun H1 locs1 hP hD hS => ?_)
  rw [ia_W_set (V := V) (i := k) (x := y) (ia_Oset hkd)] at hP
  exact kk H1 locs1 ad lsA (ia_Rep_set r1 hP (fun h => ia_wfh r8 ((ia_isrO hkd).mp h))) r2 r3 hS r5 r6 r7 (ia_wft (ia_wft r8))
/-- a final field's store in the constructor -/
theorem ia_putF (F : ia_Fix X own cc nL d mc ms) {ci N index : Nat} {C : String} {T : u_T} (hC : ia_Cls ci C T N) (k : Nat) (hk : k < N) {a y : Int} {t : Nat} (q : Nat) (ha : a = (q : Int)) (hq : q < Z.2.2) (hkd : Z.1 q = 10 + ci) (ht : ia_tag (ia_ty ci k) = t) (hfin : (T k).2.2.2 = true) (hi : X.2.2.2.2.2.2.2.2.1.name = "<init>") (ho : (T k).1 = own) (hn : ∀ ad : Nat → Nat, narrow (ia_ty ci k) (ia_cv ad (t, y)) = ia_cv ad (t, y) ∧ fits (ia_ty ci k) (ia_cv ad (t, y)) = true) (hw : Cond.fieldLink own index (T k).1 (T k).2.1 (T k).2.2.1 ∈ wU) (dg : decode cc pc = .ok (.putfield index, 3)) (kk : ia_G X cells slots (pc + 3) ls st Z (ia_u V q k y)) : ia_G X cells slots pc ls ((t, y) :: (4, a) :: st) Z V := by
  intro H locs ad lsA r1 r2 r3 r4 r5 r6 r7 r8
  subst ha ht
  have hg := ia_W_get (gl := X.2.2.2.2.2.2.2.2.2.2.2.1) (ad := ad) (V := V) hq
  rw [ia_kO hkd] at hg
  rw [List.map_cons, List.map_cons, ia_cvR]
  refine va_putF F.1.1 F.1.2.1 F.1.2.2.2.2.1 hC.2.1 (ia_ty ci) hC.2.2.1 hC.2.2.2.1 F.1.2.2.2.1 F.1.2.2.2.2.2.1.1 r1.1 (ia_W_D r1) r4 q hg hC.1 k hk (F.1.2.2.2.2.1 _ hw) (fun _ h => h) hfin hi ho (hC.2.2.1 k hk) (hn ad).1 (hn ad).2 (by rw [List.length_map, List.length_range, hC.2.2.2.2]; exact hk) dg (fun H1 locs1 hP hD hS => ?_)
  rw [ia_W_set (V := V) (i := k) (x := y) (ia_Oset hkd)] at hP
  exact kk H1 locs1 ad lsA (ia_Rep_set r1 hP (fun h => ia_wfh r8 ((ia_isrO hkd).mp h))) r2 r3 hS r5 r6 r7 (ia_wft (ia_wft r8))
end IAH
theorem ia_nI {ci k : Nat} (h : ia_ty ci k = .int) (y : Int) : ∀ ad : Nat → Nat, narrow (ia_ty ci k) (ia_cv ad (0, y)) = ia_cv ad (0, y) ∧ fits (ia_ty ci k) (ia_cv ad (0, y)) = true := fun ad => by rw [h]; exact ⟨rfl, rfl⟩
theorem ia_nZ {ci k : Nat} (h : ia_ty ci k = .boolean) {y : Int} (hy : y = 0 ∨ y = 1) : ∀ ad : Nat → Nat, narrow (ia_ty ci k) (ia_cv ad (0, y)) = ia_cv ad (0, y) ∧ fits (ia_ty ci k) (ia_cv ad (0, y)) = true := fun ad => by
  rw [h]
  rcases hy with rfl | rfl
  · exact ⟨rfl, rfl⟩
  · exact ⟨rfl, rfl⟩
theorem ia_nJ {ci k : Nat} (h : ia_ty ci k = .long) (y : Int) : ∀ ad : Nat → Nat, narrow (ia_ty ci k) (ia_cv ad (1, y)) = ia_cv ad (1, y) ∧ fits (ia_ty ci k) (ia_cv ad (1, y)) = true := fun ad => by rw [h]; exact ⟨rfl, rfl⟩
theorem ia_nA {ci k : Nat} (h : ia_tag (ia_ty ci k) = 4) (y : Int) : ∀ ad : Nat → Nat, narrow (ia_ty ci k) (ia_cv ad (4, y)) = ia_cv ad (4, y) ∧ fits (ia_ty ci k) (ia_cv ad (4, y)) = true := fun ad => by
  rw [ia_cv4]
  generalize ia_ty ci k = ty at h ⊢
  rcases va_rf_or (ia_rf ad y) with e | ⟨a, e⟩ <;> rw [e] <;> cases ty <;> first | exact ⟨rfl, rfl⟩ | (exact absurd h (by decide))
