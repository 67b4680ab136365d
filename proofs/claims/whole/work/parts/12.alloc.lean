/-! what is made: objects and arrays -/
theorem ia_cg2 {α β γ : Type _} (f : α → β → γ) {a a' : α} {b b' : β} (h : a = a') (h2 : b = b') : f a b = f a' b' := by rw [h, h2]
def ia_Zn (Z : ia_Z) (k len : Nat) : ia_Z := (fun a => if a = Z.2.2 then k else Z.1 a, fun a => if a = Z.2.2 then len else Z.2.1 a, Z.2.2 + 1)
def ia_Vn (Z : ia_Z) (V : ia_H) (f : Nat → Int) : ia_H := fun a j => if a = Z.2.2 then f j else V a j
def ia_an (ad : Nat → Nat) (n q : Nat) : Nat → Nat := fun a => if a = n then q else ad a
def ia_d0 (ci : Nat) (j : Nat) : Int := if ia_tag (ia_ty ci j) = 4 then -1 else 0
theorem ia_an_lt {ad : Nat → Nat} {n q k : Nat} (h : k < n) : ia_an ad n q k = ad k := if_neg (by omega)
theorem ia_ce_ag {gl : ia_GL} {ad ad' : Nat → Nat} {ae : Nat → Nat} {Z Z' : ia_Z} {V V' : ia_H} {a n : Nat} (h : ∀ k : Nat, k < n → ad' k = ad k) (h1 : ∀ i : Nat, ad (ia_E0 + i) = ae i) (h2 : ∀ i : Nat, ad' (ia_E0 + i) = ae i) (hk : Z'.1 a = Z.1 a) (hl : Z'.2.1 a = Z.2.1 a) (hV : V' a = V a) (hw : ∀ i : Nat, ia_isr (Z.1 a) i = true → V a i < (n : Int) ∨ (ia_E0 : Int) ≤ V a i) : ia_ce gl ad' Z' V' a = ia_ce gl ad Z V a := by
  have rf : ∀ x : Int, (x < (n : Int) ∨ (ia_E0 : Int) ≤ x) → ia_rf ad' x = ia_rf ad x := by
    intro x hx
    unfold ia_rf
    by_cases h0 : x < 0
    · rw [if_pos h0, if_pos h0]
    · rw [if_neg h0, if_neg h0]
      refine congrArg some ?_
      rcases hx with hx | hx
      · exact h _ (by omega)
      · obtain ⟨i, hi⟩ : ∃ i : Nat, x.toNat = ia_E0 + i := ⟨x.toNat - ia_E0, by omega⟩
        rw [hi, h1, h2]
  unfold ia_ce
  rw [hk, hl, hV]
  by_cases c0 : Z.1 a = 0
  · rw [if_pos c0, if_pos c0]
  rw [if_neg c0, if_neg c0]
  by_cases c1 : Z.1 a = 1
  · rw [if_pos c1, if_pos c1]
  rw [if_neg c1, if_neg c1]
  by_cases c2 : Z.1 a = 2
  · rw [if_pos c2, if_pos c2]
  rw [if_neg c2, if_neg c2]
  by_cases c3 : Z.1 a = 3
  · rw [if_pos c3, if_pos c3]
  rw [if_neg c3, if_neg c3]
  by_cases c4 : Z.1 a = 4
  · rw [if_pos c4, if_pos c4]
    refine congrArg (fun f => Sum.inl (_, _, Sum.inr (Sum.inr (Sum.inr (Sum.inr f))))) (funext fun i => rf _ (hw i (by rw [c4]; rfl)))
  rw [if_neg c4, if_neg c4]
  by_cases c5 : Z.1 a = 5
  · rw [if_pos c5, if_pos c5]
    refine congrArg (fun f => Sum.inl (_, _, Sum.inr (Sum.inr (Sum.inr (Sum.inr f))))) (funext fun i => rf _ (hw i (by rw [c5]; rfl)))
  rw [if_neg c5, if_neg c5]
  refine congrArg (fun f => Sum.inr (_, f)) (List.map_congr_left (fun j _ => ?_))
  by_cases ht : ia_tag (ia_ty (Z.1 a - 10) j) = 4
  · rw [ht, ia_cv4, ia_cv4]
    refine congrArg va_rf (rf _ (hw j ?_))
    unfold ia_isr
    rw [ht, show decide (6 ≤ Z.1 a) = true from decide_eq_true (by omega)]
    simp
  · exact ia_ag (n := 0) (fun k hk => absurd hk (Nat.not_lt_zero k)) h1 h2 (ia_wfi ht)
theorem ia_W_push {gl : ia_GL} {ad : Nat → Nat} {Z : ia_Z} {V : ia_H} {H : Heap} (r1 : ia_Rep gl ad Z V H) (hn : Z.2.2 < ia_E0) {q k len : Nat} {f : Nat → Int} {e : va_E} (he : ia_ce gl (ia_an ad Z.2.2 q) (ia_Zn Z k len) (ia_Vn Z V f) Z.2.2 = e) : ia_W gl ad Z V ++ [(q, e)] = ia_W gl (ia_an ad Z.2.2 q) (ia_Zn Z k len) (ia_Vn Z V f) := by
  unfold ia_W
  rw [show (ia_Zn Z k len).2.2 = Z.2.2 + 1 from rfl, List.range_succ, List.map_append, List.map_singleton, he]
  refine ia_cg2 (· ++ ·) (List.map_congr_left (fun a ha => ?_)) ?_
  · have ha := List.mem_range.mp ha
    rw [ia_an_lt ha]
    refine congrArg (fun z => (_, z)) (ia_ce_ag (n := Z.2.2) (ae := gl.2.2.2) (fun k hk => ia_an_lt hk) r1.2.2.2.1 (fun i => ?_) ?_ ?_ ?_ (fun i hi => r1.2.2.2.2.2.2 a i ha hi)).symm
    · rw [← r1.2.2.2.1 i]; exact if_neg (by omega)
    · exact if_neg (by omega)
    · exact if_neg (by omega)
    · funext j; exact if_neg (by omega)
  · rw [show ia_an ad Z.2.2 q Z.2.2 = q from if_pos rfl]
theorem ia_Rep_new {gl : ia_GL} {ad : Nat → Nat} {Z : ia_Z} {V : ia_H} {H H1 : Heap} (r1 : ia_Rep gl ad Z V H) (hn : Z.2.2 < ia_E0) {q k len : Nat} {f : Nat → Int} {e : va_E} (hP : va_P gl.1 vwCl (ia_W gl ad Z V ++ [(q, e)]) H1) (hD : va_D (fun q => gl.2.2.1 ≤ q) (ia_W gl ad Z V ++ [(q, e)])) (he : ia_ce gl (ia_an ad Z.2.2 q) (ia_Zn Z k len) (ia_Vn Z V f) Z.2.2 = e) (hlen : len ≤ 1000000) (hf : ∀ j : Nat, ia_isr k j = true → f j ≤ (Z.2.2 : Int) ∨ (ia_E0 : Int) ≤ f j) : ia_Rep gl (ia_an ad Z.2.2 q) (ia_Zn Z k len) (ia_Vn Z V f) H1 := by
  have hq := ia_W_push r1 hn he
  rw [hq] at hP hD
  have get : ∀ i : Nat, i < Z.2.2 + 1 → (ia_W gl (ia_an ad Z.2.2 q) (ia_Zn Z k len) (ia_Vn Z V f))[i]? = some (ia_an ad Z.2.2 q i, ia_ce gl (ia_an ad Z.2.2 q) (ia_Zn Z k len) (ia_Vn Z V f) i) := fun i hi => ia_W_get hi
  refine ⟨hP, fun i j hi hj e2 => hD.1 i j _ _ (get i hi) (get j hj) e2, fun i hi => hD.2 i _ (get i hi), fun i => ?_, hn, fun i hi => ?_, fun a i ha hr => ?_⟩
  · rw [← r1.2.2.2.1 i]; exact if_neg (by omega)
  · by_cases h : i = Z.2.2
    · rw [show (ia_Zn Z k len).2.1 i = len from if_pos h]; exact hlen
    · rw [show (ia_Zn Z k len).2.1 i = Z.2.1 i from if_neg h]
      exact r1.2.2.2.2.2.1 i (by have : i < Z.2.2 + 1 := hi; omega)
  · have ha : a < Z.2.2 + 1 := ha
    have hcast : (((ia_Zn Z k len).2.2 : Nat) : Int) = (Z.2.2 : Int) + 1 := by show ((Z.2.2 + 1 : Nat) : Int) = _; omega
    rw [hcast]
    by_cases h : a = Z.2.2
    · rw [show (ia_Zn Z k len).1 a = k from if_pos h] at hr
      rw [show ia_Vn Z V f a i = f i from if_pos h]
      rcases hf i hr with h2 | h2
      · exact Or.inl (by omega)
      · exact Or.inr h2
    · rw [show (ia_Zn Z k len).1 a = Z.1 a from if_neg h] at hr
      rw [show ia_Vn Z V f a i = V a i from if_neg h]
      rcases r1.2.2.2.2.2.2 a i (by omega) hr with h2 | h2
      · exact Or.inl (by omega)
      · exact Or.inr h2
theorem ia_dflt (gl : Nat → Nat) (ty : FieldType) : defaultValue ty = ia_cv gl (ia_tag ty, if ia_tag ty = 4 then -1 else 0) := by cases ty <;> rfl
theorem ia_tc {gl : ia_GL} {s : State} {cA c : ClassId} {ty : FieldType} {i : Nat} (hK : va_K gl.1 vwCl (ia_tys gl ++ [(cA, ty)]) s) (hi : (ia_tys gl)[i]? = some (c, ty)) : cA = c := by
  have h1 := (hK.2 i (c, ty) (by rw [List.getElem?_append_left (List.getElem?_eq_some_iff.mp hi).1]; exact hi)).2
  have h2 := (hK.2 (ia_tys gl).length (cA, ty) (by rw [List.getElem?_append_right (Nat.le_refl _), Nat.sub_self]; rfl)).2
  cases ty with
  | object C =>
    obtain ⟨k1, p1, a1, b1, c1, d1⟩ := h1
    obtain ⟨k2, p2, a2, b2, c2, d2⟩ := h2
    exact Option.some.inj (d2.symm.trans d1)
  | _ => exact Option.some.inj (Eq.trans (Eq.symm h2) h1)
section IAA
variable {X : ia_X} {own : String} {cc : ByteArray} {nL d mc ms cells slots pc : Nat} {ls st : List (Nat × Int)} {Z : ia_Z} {V : ia_H}
theorem ia_new (F : ia_Fix X own cc nL d mc ms) {ci N index : Nat} {C : String} {T : u_T} (hC : ia_Cls ci C T N) (hw : Cond.classLink own index C ∈ wU ∧ Cond.instantiable C N ∈ wU ∧ Cond.initialized C ∈ wU) (hn : Z.2.2 < ia_E0) (hR : cells + 1 ≤ mc ∧ slots + N ≤ ms) (dg : decode cc pc = .ok (.new index, 3)) (kk : ia_G X (cells + 1) (slots + N) (pc + 3) ls ((4, (Z.2.2 : Int)) :: st) (ia_Zn Z (10 + ci) 0) (ia_Vn Z V (ia_d0 ci))) : ia_G X cells slots pc ls st Z V := by
  intro H locs ad lsA r1 r2 r3 r4 r5 r6 r7 r8
  have hA : ∀ q, X.2.2.2.2.1.heap.size ≤ q → X.2.2.2.2.2.2.2.2.2.2.2.1.2.2.1 ≤ q := fun q h => Nat.le_trans F.1.2.2.2.2.2.1.2.2.2.2 h
  refine va_new (ci := ci) (fs := (List.range N).map (fun j => ia_cv ad (ia_tag (ia_ty ci j), ia_d0 ci j))) F.1.1 F.1.2.1 F.1.2.2.2.2.1 hC.2.1 (ia_ty ci) hC.2.2.1 F.1.2.2.2.1 (F.1.2.2.2.2.1 _ hw.1) (F.1.2.2.2.2.1 _ hw.2.1) (F.1.2.2.2.2.1 _ hw.2.2) F.1.2.2.2.2.2.1.1 r1.1 (ia_W_D r1) r4 hA hC.1 (fun j hj => ?_) (by have := F.1.2.2.2.2.2.2.2.2.1; omega) (by have := F.1.2.2.2.2.2.2.2.2.2.1; omega) dg (fun q H1 hP hD hS => ?_)
  · rw [show vp_V ((List.range N).map (fun j => ia_cv ad (ia_tag (ia_ty ci j), ia_d0 ci j))) j = ia_cv ad (ia_tag (ia_ty ci j), ia_d0 ci j) by
      unfold vp_V
      rw [List.getD_eq_getElem?_getD, List.getElem?_map, List.getElem?_range hj]
      rfl]
    exact ia_dflt ad (ia_ty ci j)
  · have he : ia_ce X.2.2.2.2.2.2.2.2.2.2.2.1 (ia_an ad Z.2.2 q) (ia_Zn Z (10 + ci) 0) (ia_Vn Z V (ia_d0 ci)) Z.2.2 = .inr (ci, (List.range N).map (fun j => ia_cv ad (ia_tag (ia_ty ci j), ia_d0 ci j))) := by
      rw [ia_kO (ci := ci) (if_pos rfl), hC.2.2.2.2]
      refine congrArg (fun f => Sum.inr (_, f)) (List.map_congr_left (fun j _ => ?_))
      rw [show ia_Vn Z V (ia_d0 ci) Z.2.2 j = ia_d0 ci j from if_pos rfl]
      unfold ia_d0
      rw [← ia_dflt, ← ia_dflt]
    have hR1 := ia_Rep_new r1 hn hP hD he (Nat.zero_le _) (fun j _ => Or.inl (by unfold ia_d0; split <;> omega))
    have w := kk H1 locs (ia_an ad Z.2.2 q) lsA hR1 (Nat.le_succ_of_le r2) (fun k hk => (ia_an_lt (Nat.lt_of_lt_of_le hk r2)).trans (r3 k hk)) hS (ia_agL (n := Z.2.2) (fun k hk => ia_an_lt hk) r1.2.2.2.1 hR1.2.2.2.1 r7 r5) r6 (ia_wfm (Nat.le_succ _) r7) (ia_wfc (fun _ => Or.inl (by show (Z.2.2 : Int) < ((Z.2.2 + 1 : Nat) : Int); omega)) (ia_wfm (Nat.le_succ _) r8))
    rw [List.map_cons, ia_cvR, show ia_an ad Z.2.2 q Z.2.2 = q from if_pos rfl, ia_agl (n := Z.2.2) (fun k hk => ia_an_lt hk) r1.2.2.2.1 hR1.2.2.2.1 r8] at w
    exact w
theorem ia_newaI (F : ia_Fix X own cc nL d mc ms) {x : Int} (len : Nat) (hx : x = (len : Int)) (hl : len ≤ 1000000) (hw : Cond.arrayClass .int ∈ wU) (hn : Z.2.2 < ia_E0) (hR : cells + 1 ≤ mc ∧ slots + len ≤ ms) (dg : decode cc pc = .ok (.newarray .int, 2)) (kk : ia_G X (cells + 1) (slots + len) (pc + 2) ls ((4, (Z.2.2 : Int)) :: st) (ia_Zn Z 0 len) (ia_Vn Z V (fun _ => 0))) : ia_G X cells slots pc ls ((0, x) :: st) Z V := by
  intro H locs ad lsA r1 r2 r3 r4 r5 r6 r7 r8
  subst hx
  have hA : ∀ q, X.2.2.2.2.1.heap.size ≤ q → X.2.2.2.2.2.2.2.2.2.2.2.1.2.2.1 ≤ q := fun q h => Nat.le_trans F.1.2.2.2.2.2.1.2.2.2.2 h
  rw [List.map_cons, ia_cv0]
  refine va_newa (atype := .int) (ty := .int) (a0 := (len, .inl (fun _ => 0))) F.1.1 F.1.2.1 (F.1.2.2.2.2.1 _ hw) rfl F.1.2.2.2.2.2.1.1 r1.1 (ia_W_D r1) r4 hA (fun cA => rfl) (nI_pos (n := len) (by omega)) (ia_clamp (by omega)) (by show len * 4 ≤ 536870912; omega) (by have := F.1.2.2.2.2.2.2.2.2.1; omega) (by have := F.1.2.2.2.2.2.2.2.2.2.1; omega) dg (fun q cA H1 hK hP hD hS => ?_)
  obtain rfl := ia_tc (i := 0) hK rfl
  have he : ia_ce X.2.2.2.2.2.2.2.2.2.2.2.1 (ia_an ad Z.2.2 q) (ia_Zn Z 0 len) (ia_Vn Z V (fun _ => 0)) Z.2.2 = .inl (X.2.2.2.2.2.2.2.2.2.2.2.1.2.1 0, len, .inl (fun _ => 0)) := by
    rw [ia_k0 (if_pos rfl)]
    refine ia_cg2 (fun n f => Sum.inl (_, n, f)) (if_pos rfl) ?_
    simp only [ia_Vn, if_pos]
    rfl
  have hR1 := ia_Rep_new r1 hn hP hD he hl (fun j h => absurd h (by rw [ia_nr (by decide)]; decide))
  have w := kk H1 locs (ia_an ad Z.2.2 q) lsA hR1 (Nat.le_succ_of_le r2) (fun k hk => (ia_an_lt (Nat.lt_of_lt_of_le hk r2)).trans (r3 k hk)) hS (ia_agL (n := Z.2.2) (fun k hk => ia_an_lt hk) r1.2.2.2.1 hR1.2.2.2.1 r7 r5) r6 (ia_wfm (Nat.le_succ _) r7) (ia_wfc (fun _ => Or.inl (by show (Z.2.2 : Int) < ((Z.2.2 + 1 : Nat) : Int); omega)) (ia_wfm (Nat.le_succ _) (ia_wft r8)))
  rw [List.map_cons, ia_cvR, show ia_an ad Z.2.2 q Z.2.2 = q from if_pos rfl, ia_agl (n := Z.2.2) (fun k hk => ia_an_lt hk) r1.2.2.2.1 hR1.2.2.2.1 (ia_wft r8)] at w
  exact w
theorem ia_newaJ (F : ia_Fix X own cc nL d mc ms) {x : Int} (len : Nat) (hx : x = (len : Int)) (hl : len ≤ 1000000) (hw : Cond.arrayClass .long ∈ wU) (hn : Z.2.2 < ia_E0) (hR : cells + 1 ≤ mc ∧ slots + len ≤ ms) (dg : decode cc pc = .ok (.newarray .long, 2)) (kk : ia_G X (cells + 1) (slots + len) (pc + 2) ls ((4, (Z.2.2 : Int)) :: st) (ia_Zn Z 1 len) (ia_Vn Z V (fun _ => 0))) : ia_G X cells slots pc ls ((0, x) :: st) Z V := by
  intro H locs ad lsA r1 r2 r3 r4 r5 r6 r7 r8
  subst hx
  have hA : ∀ q, X.2.2.2.2.1.heap.size ≤ q → X.2.2.2.2.2.2.2.2.2.2.2.1.2.2.1 ≤ q := fun q h => Nat.le_trans F.1.2.2.2.2.2.1.2.2.2.2 h
  rw [List.map_cons, ia_cv0]
  refine va_newa (atype := .long) (ty := .long) (a0 := (len, .inr (.inl (fun _ => 0)))) F.1.1 F.1.2.1 (F.1.2.2.2.2.1 _ hw) rfl F.1.2.2.2.2.2.1.1 r1.1 (ia_W_D r1) r4 hA (fun cA => rfl) (nI_pos (n := len) (by omega)) (ia_clamp (by omega)) (by show len * 8 ≤ 536870912; omega) (by have := F.1.2.2.2.2.2.2.2.2.1; omega) (by have := F.1.2.2.2.2.2.2.2.2.2.1; omega) dg (fun q cA H1 hK hP hD hS => ?_)
  obtain rfl := ia_tc (i := 1) hK rfl
  have he : ia_ce X.2.2.2.2.2.2.2.2.2.2.2.1 (ia_an ad Z.2.2 q) (ia_Zn Z 1 len) (ia_Vn Z V (fun _ => 0)) Z.2.2 = .inl (X.2.2.2.2.2.2.2.2.2.2.2.1.2.1 1, len, .inr (.inl (fun _ => 0))) := by
    rw [ia_k1 (if_pos rfl)]
    refine ia_cg2 (fun n f => Sum.inl (_, n, f)) (if_pos rfl) ?_
    simp only [ia_Vn, if_pos]
    rfl
  have hR1 := ia_Rep_new r1 hn hP hD he hl (fun j h => absurd h (by rw [ia_nr (by decide)]; decide))
  have w := kk H1 locs (ia_an ad Z.2.2 q) lsA hR1 (Nat.le_succ_of_le r2) (fun k hk => (ia_an_lt (Nat.lt_of_lt_of_le hk r2)).trans (r3 k hk)) hS (ia_agL (n := Z.2.2) (fun k hk => ia_an_lt hk) r1.2.2.2.1 hR1.2.2.2.1 r7 r5) r6 (ia_wfm (Nat.le_succ _) r7) (ia_wfc (fun _ => Or.inl (by show (Z.2.2 : Int) < ((Z.2.2 + 1 : Nat) : Int); omega)) (ia_wfm (Nat.le_succ _) (ia_wft r8)))
  rw [List.map_cons, ia_cvR, show ia_an ad Z.2.2 q Z.2.2 = q from if_pos rfl, ia_agl (n := Z.2.2) (fun k hk => ia_an_lt hk) r1.2.2.2.1 hR1.2.2.2.1 (ia_wft r8)] at w
  exact w
theorem ia_newaD (F : ia_Fix X own cc nL d mc ms) {x : Int} (len : Nat) (hx : x = (len : Int)) (hl : len ≤ 1000000) (hw : Cond.arrayClass .double ∈ wU) (hn : Z.2.2 < ia_E0) (hR : cells + 1 ≤ mc ∧ slots + len ≤ ms) (dg : decode cc pc = .ok (.newarray .double, 2)) (kk : ia_G X (cells + 1) (slots + len) (pc + 2) ls ((4, (Z.2.2 : Int)) :: st) (ia_Zn Z 2 len) (ia_Vn Z V (fun _ => 0))) : ia_G X cells slots pc ls ((0, x) :: st) Z V := by
  intro H locs ad lsA r1 r2 r3 r4 r5 r6 r7 r8
  subst hx
  have hA : ∀ q, X.2.2.2.2.1.heap.size ≤ q → X.2.2.2.2.2.2.2.2.2.2.2.1.2.2.1 ≤ q := fun q h => Nat.le_trans F.1.2.2.2.2.2.1.2.2.2.2 h
  rw [List.map_cons, ia_cv0]
  refine va_newa (atype := .double) (ty := .double) (a0 := (len, .inr (.inr (.inr (.inl (fun _ => 0)))))) F.1.1 F.1.2.1 (F.1.2.2.2.2.1 _ hw) rfl F.1.2.2.2.2.2.1.1 r1.1 (ia_W_D r1) r4 hA (fun cA => rfl) (nI_pos (n := len) (by omega)) (ia_clamp (by omega)) (by show len * 8 ≤ 536870912; omega) (by have := F.1.2.2.2.2.2.2.2.2.1; omega) (by have := F.1.2.2.2.2.2.2.2.2.2.1; omega) dg (fun q cA H1 hK hP hD hS => ?_)
  obtain rfl := ia_tc (i := 2) hK rfl
  have he : ia_ce X.2.2.2.2.2.2.2.2.2.2.2.1 (ia_an ad Z.2.2 q) (ia_Zn Z 2 len) (ia_Vn Z V (fun _ => 0)) Z.2.2 = .inl (X.2.2.2.2.2.2.2.2.2.2.2.1.2.1 2, len, .inr (.inr (.inr (.inl (fun _ => 0))))) := by
    rw [ia_k2 (if_pos rfl)]
    refine ia_cg2 (fun n f => Sum.inl (_, n, f)) (if_pos rfl) ?_
    simp only [ia_Vn, if_pos]
    rfl
  have hR1 := ia_Rep_new r1 hn hP hD he hl (fun j h => absurd h (by rw [ia_nr (by decide)]; decide))
  have w := kk H1 locs (ia_an ad Z.2.2 q) lsA hR1 (Nat.le_succ_of_le r2) (fun k hk => (ia_an_lt (Nat.lt_of_lt_of_le hk r2)).trans (r3 k hk)) hS (ia_agL (n := Z.2.2) (fun k hk => ia_an_lt hk) r1.2.2.2.1 hR1.2.2.2.1 r7 r5) r6 (ia_wfm (Nat.le_succ _) r7) (ia_wfc (fun _ => Or.inl (by show (Z.2.2 : Int) < ((Z.2.2 + 1 : Nat) : Int); omega)) (ia_wfm (Nat.le_succ _) (ia_wft r8)))
  rw [List.map_cons, ia_cvR, show ia_an ad Z.2.2 q Z.2.2 = q from if_pos rfl, ia_agl (n := Z.2.2) (fun k hk => ia_an_lt hk) r1.2.2.2.1 hR1.2.2.2.1 (ia_wft r8)] at w
  exact w
theorem ia_newaB (F : ia_Fix X own cc nL d mc ms) {x : Int} (len : Nat) (hx : x = (len : Int)) (hl : len ≤ 1000000) (hw : Cond.arrayClass .byte ∈ wU) (hn : Z.2.2 < ia_E0) (hR : cells + 1 ≤ mc ∧ slots + len ≤ ms) (dg : decode cc pc = .ok (.newarray .byte, 2)) (kk : ia_G X (cells + 1) (slots + len) (pc + 2) ls ((4, (Z.2.2 : Int)) :: st) (ia_Zn Z 3 len) (ia_Vn Z V (fun _ => 0))) : ia_G X cells slots pc ls ((0, x) :: st) Z V := by
  intro H locs ad lsA r1 r2 r3 r4 r5 r6 r7 r8
  subst hx
  have hA : ∀ q, X.2.2.2.2.1.heap.size ≤ q → X.2.2.2.2.2.2.2.2.2.2.2.1.2.2.1 ≤ q := fun q h => Nat.le_trans F.1.2.2.2.2.2.1.2.2.2.2 h
  rw [List.map_cons, ia_cv0]
  refine va_newa (atype := .byte) (ty := .byte) (a0 := (len, .inl (fun _ => 0))) F.1.1 F.1.2.1 (F.1.2.2.2.2.1 _ hw) rfl F.1.2.2.2.2.2.1.1 r1.1 (ia_W_D r1) r4 hA (fun cA => rfl) (nI_pos (n := len) (by omega)) (ia_clamp (by omega)) (by show len * 1 ≤ 536870912; omega) (by have := F.1.2.2.2.2.2.2.2.2.1; omega) (by have := F.1.2.2.2.2.2.2.2.2.2.1; omega) dg (fun q cA H1 hK hP hD hS => ?_)
  obtain rfl := ia_tc (i := 3) hK rfl
  have he : ia_ce X.2.2.2.2.2.2.2.2.2.2.2.1 (ia_an ad Z.2.2 q) (ia_Zn Z 3 len) (ia_Vn Z V (fun _ => 0)) Z.2.2 = .inl (X.2.2.2.2.2.2.2.2.2.2.2.1.2.1 3, len, .inl (fun _ => 0)) := by
    rw [ia_k3 (if_pos rfl)]
    refine ia_cg2 (fun n f => Sum.inl (_, n, f)) (if_pos rfl) ?_
    simp only [ia_Vn, if_pos]
    rfl
  have hR1 := ia_Rep_new r1 hn hP hD he hl (fun j h => absurd h (by rw [ia_nr (by decide)]; decide))
  have w := kk H1 locs (ia_an ad Z.2.2 q) lsA hR1 (Nat.le_succ_of_le r2) (fun k hk => (ia_an_lt (Nat.lt_of_lt_of_le hk r2)).trans (r3 k hk)) hS (ia_agL (n := Z.2.2) (fun k hk => ia_an_lt hk) r1.2.2.2.1 hR1.2.2.2.1 r7 r5) r6 (ia_wfm (Nat.le_succ _) r7) (ia_wfc (fun _ => Or.inl (by show (Z.2.2 : Int) < ((Z.2.2 + 1 : Nat) : Int); omega)) (ia_wfm (Nat.le_succ _) (ia_wft r8)))
  rw [List.map_cons, ia_cvR, show ia_an ad Z.2.2 q Z.2.2 = q from if_pos rfl, ia_agl (n := Z.2.2) (fun k hk => ia_an_lt hk) r1.2.2.2.1 hR1.2.2.2.1 (ia_wft r8)] at w
  exact w
theorem ia_newq4 (F : ia_Fix X own cc nL d mc ms) {x : Int} {index : Nat} (len : Nat) (hx : x = (len : Int)) (hl : len ≤ 1000000) (hw : Cond.classLink own index RX6 ∈ wU) (hn : Z.2.2 < ia_E0) (hR : cells + 1 ≤ mc ∧ slots + len ≤ ms) (dg : decode cc pc = .ok (.anewarray index, 3)) (kk : ia_G X (cells + 1) (slots + len) (pc + 3) ls ((4, (Z.2.2 : Int)) :: st) (ia_Zn Z 4 len) (ia_Vn Z V (fun _ => -1))) : ia_G X cells slots pc ls ((0, x) :: st) Z V := by
  intro H locs ad lsA r1 r2 r3 r4 r5 r6 r7 r8
  subst hx
  have hA : ∀ q, X.2.2.2.2.1.heap.size ≤ q → X.2.2.2.2.2.2.2.2.2.2.2.1.2.2.1 ≤ q := fun q h => Nat.le_trans F.1.2.2.2.2.2.1.2.2.2.2 h
  rw [List.map_cons, ia_cv0]
  refine va_newq F.1.1 F.1.2.1 F.1.2.2.2.1 (F.1.2.2.2.2.1 _ hw) F.1.2.2.2.2.2.1.2.2.2.1.2.2.2.1 F.1.2.2.2.2.2.1.1 r1.1 (ia_W_D r1) r4 hA (nI_pos (n := len) (by omega)) (ia_clamp (by omega)) (by omega) (by have := F.1.2.2.2.2.2.2.2.2.1; omega) (by have := F.1.2.2.2.2.2.2.2.2.2.1; omega) dg (fun q cA H1 hK hP hD hS => ?_)
  obtain rfl := ia_tc (i := 4) hK rfl
  have he : ia_ce X.2.2.2.2.2.2.2.2.2.2.2.1 (ia_an ad Z.2.2 q) (ia_Zn Z 4 len) (ia_Vn Z V (fun _ => -1)) Z.2.2 = .inl (X.2.2.2.2.2.2.2.2.2.2.2.1.2.1 4, len, .inr (.inr (.inr (.inr (fun _ => none))))) := by
    rw [ia_k4 (if_pos rfl)]
    refine ia_cg2 (fun n f => Sum.inl (_, n, f)) (if_pos rfl) ?_
    simp only [ia_Vn, if_pos]
    rfl
  have hR1 := ia_Rep_new r1 hn hP hD he hl (fun j _ => Or.inl (by omega))
  have w := kk H1 locs (ia_an ad Z.2.2 q) lsA hR1 (Nat.le_succ_of_le r2) (fun k hk => (ia_an_lt (Nat.lt_of_lt_of_le hk r2)).trans (r3 k hk)) hS (ia_agL (n := Z.2.2) (fun k hk => ia_an_lt hk) r1.2.2.2.1 hR1.2.2.2.1 r7 r5) r6 (ia_wfm (Nat.le_succ _) r7) (ia_wfc (fun _ => Or.inl (by show (Z.2.2 : Int) < ((Z.2.2 + 1 : Nat) : Int); omega)) (ia_wfm (Nat.le_succ _) (ia_wft r8)))
  rw [List.map_cons, ia_cvR, show ia_an ad Z.2.2 q Z.2.2 = q from if_pos rfl, ia_agl (n := Z.2.2) (fun k hk => ia_an_lt hk) r1.2.2.2.1 hR1.2.2.2.1 (ia_wft r8)] at w
  exact w
theorem ia_newq5 (F : ia_Fix X own cc nL d mc ms) {x : Int} {index : Nat} (len : Nat) (hx : x = (len : Int)) (hl : len ≤ 1000000) (hw : Cond.classLink own index RX1 ∈ wU) (hn : Z.2.2 < ia_E0) (hR : cells + 1 ≤ mc ∧ slots + len ≤ ms) (dg : decode cc pc = .ok (.anewarray index, 3)) (kk : ia_G X (cells + 1) (slots + len) (pc + 3) ls ((4, (Z.2.2 : Int)) :: st) (ia_Zn Z 5 len) (ia_Vn Z V (fun _ => -1))) : ia_G X cells slots pc ls ((0, x) :: st) Z V := by
  intro H locs ad lsA r1 r2 r3 r4 r5 r6 r7 r8
  subst hx
  have hA : ∀ q, X.2.2.2.2.1.heap.size ≤ q → X.2.2.2.2.2.2.2.2.2.2.2.1.2.2.1 ≤ q := fun q h => Nat.le_trans F.1.2.2.2.2.2.1.2.2.2.2 h
  rw [List.map_cons, ia_cv0]
  refine va_newq F.1.1 F.1.2.1 F.1.2.2.2.1 (F.1.2.2.2.2.1 _ hw) F.1.2.2.2.2.2.1.2.2.2.1.2.2.2.2 F.1.2.2.2.2.2.1.1 r1.1 (ia_W_D r1) r4 hA (nI_pos (n := len) (by omega)) (ia_clamp (by omega)) (by omega) (by have := F.1.2.2.2.2.2.2.2.2.1; omega) (by have := F.1.2.2.2.2.2.2.2.2.2.1; omega) dg (fun q cA H1 hK hP hD hS => ?_)
  obtain rfl := ia_tc (i := 5) hK rfl
  have he : ia_ce X.2.2.2.2.2.2.2.2.2.2.2.1 (ia_an ad Z.2.2 q) (ia_Zn Z 5 len) (ia_Vn Z V (fun _ => -1)) Z.2.2 = .inl (X.2.2.2.2.2.2.2.2.2.2.2.1.2.1 5, len, .inr (.inr (.inr (.inr (fun _ => none))))) := by
    rw [ia_k5 (if_pos rfl)]
    refine ia_cg2 (fun n f => Sum.inl (_, n, f)) (if_pos rfl) ?_
    simp only [ia_Vn, if_pos]
    rfl
  have hR1 := ia_Rep_new r1 hn hP hD he hl (fun j _ => Or.inl (by omega))
  have w := kk H1 locs (ia_an ad Z.2.2 q) lsA hR1 (Nat.le_succ_of_le r2) (fun k hk => (ia_an_lt (Nat.lt_of_lt_of_le hk r2)).trans (r3 k hk)) hS (ia_agL (n := Z.2.2) (fun k hk => ia_an_lt hk) r1.2.2.2.1 hR1.2.2.2.1 r7 r5) r6 (ia_wfm (Nat.le_succ _) r7) (ia_wfc (fun _ => Or.inl (by show (Z.2.2 : Int) < ((Z.2.2 + 1 : Nat) : Int); omega)) (ia_wfm (Nat.le_succ _) (ia_wft r8)))
  rw [List.map_cons, ia_cvR, show ia_an ad Z.2.2 q Z.2.2 = q from if_pos rfl, ia_agl (n := Z.2.2) (fun k hk => ia_an_lt hk) r1.2.2.2.1 hR1.2.2.2.1 (ia_wft r8)] at w
  exact w
end IAA
