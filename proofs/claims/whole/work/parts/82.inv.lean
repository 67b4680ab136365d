/-! the law: rules for its script and its comparisons; its invariant -/
section LRU
variable {X : ia_X} {own : String} {cc : ByteArray} {nL d mc ms cells slots pc : Nat} {ls st : List (Nat × Int)} {Z : ia_Z} {V : ia_H}
theorem lq_wid {c2 s2 : Nat} (h1 : cells ≤ c2) (h2 : slots ≤ s2) (kk : ia_G X c2 s2 pc ls st Z V) : ia_G X cells slots pc ls st Z V :=
  fun H locs ad lsA r1 r2 r3 r4 r5 r6 r7 r8 => W.widen h1 h2 (kk H locs ad lsA r1 r2 r3 r4 r5 r6 r7 r8)
theorem lq_icmp (F : ia_Fix X own cc nL d mc ms) {x y off : Int} (tgt : Nat) (dg : decode cc pc = .ok (.if_icmp .eq off, 3)) (ht : (pc : Int) + off = (tgt : Int)) (e : x = y) (kk : ia_G X cells slots tgt ls st Z V) : ia_G X cells slots pc ls ((0, y) :: (0, x) :: st) Z V :=
  fun H locs ad lsA r1 r2 r3 r4 r5 r6 r7 r8 => lv_icmp_eq F.1.1 F.1.2.1 dg ht (fun _ => kk H locs ad lsA r1 r2 r3 r4 r5 r6 r7 (ia_wft (ia_wft r8))) (fun h => absurd (congrArg Int32.ofInt e) h)
theorem lq_lcmp (F : ia_Fix X own cc nL d mc ms) {x y : Int} (dg : decode cc pc = .ok (.lcmp, 1)) (e : x = y) (kk : ia_G X cells slots (pc + 1) ls ((0, 0) :: st) Z V) : ia_G X cells slots pc ls ((1, y) :: (1, x) :: st) Z V := by
  intro H locs ad lsA r1 r2 r3 r4 r5 r6 r7 r8
  have w := kk H locs ad lsA r1 r2 r3 r4 r5 r6 r7 (ia_wfc (ia_wfi (by decide)) (ia_wft (ia_wft r8)))
  have e2 : lg_cmp (Int64.ofInt x) (Int64.ofInt y) = Int32.ofInt 0 := by
    rw [e]
    unfold lg_cmp
    rw [if_neg Int64.lt_irrefl, if_pos rfl]
    rfl
  rw [List.map_cons, ia_cv0, ← e2] at w
  exact W.lcmp F.1.1 F.1.2.1 dg w
theorem lq_if0 (F : ia_Fix X own cc nL d mc ms) {off : Int} (tgt : Nat) (dg : decode cc pc = .ok (.ifCond .eq off, 3)) (ht : (pc : Int) + off = (tgt : Int)) (kk : ia_G X cells slots tgt ls st Z V) : ia_G X cells slots pc ls ((0, 0) :: st) Z V :=
  ia_if_eq F tgt dg ht (by omega) (fun _ => kk) (fun h => absurd rfl h)
theorem lq_ifn (F : ia_Fix X own cc nL d mc ms) {x off : Int} (tgt : Nat) (dg : decode cc pc = .ok (.ifCond .ne off, 3)) (ht : (pc : Int) + off = (tgt : Int)) (hx : 1 ≤ x ∧ x ≤ 3) (kk : ia_G X cells slots tgt ls st Z V) : ia_G X cells slots pc ls ((0, x) :: st) Z V :=
  ia_if_ne F tgt dg ht (by omega) (fun _ => kk) (fun h => absurd h (by omega))
theorem lq_ifz (F : ia_Fix X own cc nL d mc ms) {off : Int} (dg : decode cc pc = .ok (.ifCond .ne off, 3)) (tgt : Nat) (ht : (pc : Int) + off = (tgt : Int)) (kk : ia_G X cells slots (pc + 3) ls st Z V) : ia_G X cells slots pc ls ((0, 0) :: st) Z V :=
  ia_if_ne F tgt dg ht (by omega) (fun h => absurd rfl h) (fun _ => kk)
-- floats and doubles in locals
theorem ia_fload (F : ia_Fix X own cc nL d mc ms) {i : Nat} {x : Int} (dg : decode cc pc = .ok (.fload i, 2)) (hl : ls[i]? = some (2, x)) (kk : ia_G X cells slots (pc + 2) ls ((2, x) :: st) Z V) : ia_G X cells slots pc ls st Z V :=
  fun H locs ad lsA r1 r2 r3 r4 r5 r6 r7 r8 => lv_fload F.1.1 F.1.2.1 dg (ia_L_at r5 hl (show (2 : Nat) ≠ 9 by decide)) (kk H locs ad lsA r1 r2 r3 r4 r5 r6 r7 (ia_wfc (ia_wfi (by decide)) r8))
theorem ia_dload (F : ia_Fix X own cc nL d mc ms) {i : Nat} {x : Int} (dg : decode cc pc = .ok (.dload i, 2)) (hl : ls[i]? = some (3, x)) (kk : ia_G X cells slots (pc + 2) ls ((3, x) :: st) Z V) : ia_G X cells slots pc ls st Z V :=
  fun H locs ad lsA r1 r2 r3 r4 r5 r6 r7 r8 => lv_dload F.1.1 F.1.2.1 dg (ia_L_at r5 hl (show (3 : Nat) ≠ 9 by decide)) (kk H locs ad lsA r1 r2 r3 r4 r5 r6 r7 (ia_wfc (ia_wfi (by decide)) r8))
theorem ia_fstore (F : ia_Fix X own cc nL d mc ms) {i : Nat} {x : Int} {ls' : List (Nat × Int)} (dg : decode cc pc = .ok (.fstore i, 2)) (hn : i < ls.length) (hok : ia_ok1 ls i = true) (e : ls.set i (2, x) = ls') (kk : ia_G X cells slots (pc + 2) ls' st Z V) : ia_G X cells slots pc ls ((2, x) :: st) Z V :=
  fun H locs ad lsA r1 r2 r3 r4 r5 r6 r7 r8 => lv_fstore F.1.1 F.1.2.1 dg r5 (by rw [← r6]; exact hn) rfl (fun ls9 h9 => kk H locs ad ls9 r1 r2 r3 r4 (e ▸ ia_L_set (v := (2, x)) h9 hok (show (2 : Nat) ≠ 9 by decide)) (by rw [← e, List.length_set]; exact r6) (ia_wfs r7 (ia_wfi (by decide)) e) (ia_wft r8))
theorem ia_L_set2 {ad : Nat → Nat} {lsA : Array Slot} {i : Nat} {x y : Int} (h : lv_has lsA nL ((i, ia_cv ad (3, x)) :: (ia_L ad ls).filter (fun q => !(q.1 == i) && (!(q.1 == i + 1) && !(q.1 + 1 == i && q.2.category == 2))))) (hok : ia_ok1 ls i = true) (h8 : ls[i + 1]? = some (9, y)) : lv_has lsA nL (ia_L ad (ls.set i (3, x))) := by
  refine ia_L_set (v := (3, x)) ⟨h.1, h.2.1, fun q hq => h.2.2 q ?_⟩ hok (show (3 : Nat) ≠ 9 by decide)
  rcases List.mem_cons.mp hq with e | hq
  · rw [e]; exact List.mem_cons_self
  · obtain ⟨a, b⟩ := List.mem_filter.mp hq
    refine List.mem_cons_of_mem _ (List.mem_filter.mpr ⟨a, ?_⟩)
    obtain ⟨v, hv, h9, -⟩ := ia_L_mem.mp a
    have g : (q.1 == i + 1) = false := by
      rw [beq_eq_false_iff_ne]
      intro e
      rw [e, h8] at hv
      cases hv
      exact h9 rfl
    simp only [g]
    simpa using b
theorem ia_dstore (F : ia_Fix X own cc nL d mc ms) {i : Nat} {x y : Int} {ls' : List (Nat × Int)} (dg : decode cc pc = .ok (.dstore i, 2)) (hn : i + 1 < ls.length) (hok : ia_ok1 ls i = true) (h8 : ls[i + 1]? = some (9, y)) (e : ls.set i (3, x) = ls') (kk : ia_G X cells slots (pc + 2) ls' st Z V) : ia_G X cells slots pc ls ((3, x) :: st) Z V :=
  fun H locs ad lsA r1 r2 r3 r4 r5 r6 r7 r8 => lv_dstore F.1.1 F.1.2.1 dg r5 (by rw [← r6]; exact hn) rfl (fun ls9 h9 => kk H locs ad ls9 r1 r2 r3 r4 (e ▸ ia_L_set2 h9 hok h8) (by rw [← e, List.length_set]; exact r6) (ia_wfs r7 (ia_wfi (by decide)) e) (ia_wft r8))
/-- the script: L whole numbers xs, at the constant of place ia_E0 + 400 -/
def LSc (X : ia_X) (L : Nat) (xs : Nat → Int32) : Prop := ∃ b : Nat, va_X b L xs X.2.2.2.2.1 X.2.2.2.2.1.heap ∧ b < X.2.2.2.2.1.heap.size ∧ b < X.2.2.2.2.2.2.2.2.2.2.2.1.2.2.1 ∧ X.2.2.2.2.2.2.2.2.2.2.2.1.2.2.2 400 = b
theorem ia_sl (F : ia_Fix X own cc nL d mc ms) {L : Nat} {xs : Nat → Int32} (hS : LSc X L xs) (k : Nat) {x : Int} (hx : x = (k : Int)) (hk : k < L ∧ L ≤ 1536) {v : Int} (hv : (xs k).toInt = v) (dg : decode cc pc = .ok (.iaload, 1)) (kk : ia_G X cells slots (pc + 1) ls ((0, v) :: st) Z V) : ia_G X cells slots pc ls ((0, x) :: (4, ((ia_E0 + 400 : Nat) : Int)) :: st) Z V := by
  intro H locs ad lsA r1 r2 r3 r4 r5 r6 r7 r8
  obtain ⟨b, h1, h2, h3, h4⟩ := hS
  subst hx hv
  have w := kk H locs ad lsA r1 r2 r3 r4 r5 r6 r7 (ia_wfc (ia_wfi (by decide)) (ia_wft (ia_wft r8)))
  rw [List.map_cons, ia_cv0, Int32.ofInt_toInt] at w
  rw [List.map_cons, List.map_cons, ia_cv0, ia_cvR, r1.2.2.2.1 400, h4]
  refine va_sld F.1.1 F.1.2.1 h1 h2 (Nat.not_le.mpr h3) r4 (ia_vpin hk.1 (by omega)) dg ?_
  rw [ia_clamp (by omega)]
  exact w
theorem ia_slen (F : ia_Fix X own cc nL d mc ms) {L : Nat} {xs : Nat → Int32} (hS : LSc X L xs) (dg : decode cc pc = .ok (.arraylength, 1)) (kk : ia_G X cells slots (pc + 1) ls ((0, (L : Int)) :: st) Z V) : ia_G X cells slots pc ls ((4, ((ia_E0 + 400 : Nat) : Int)) :: st) Z V := by
  intro H locs ad lsA r1 r2 r3 r4 r5 r6 r7 r8
  obtain ⟨b, h1, h2, h3, h4⟩ := hS
  have w := kk H locs ad lsA r1 r2 r3 r4 r5 r6 r7 (ia_wfc (ia_wfi (by decide)) (ia_wft r8))
  rw [List.map_cons, ia_cvR, r1.2.2.2.1 400, h4]
  exact va_slen F.1.1 F.1.2.1 h1 h2 (Nat.not_le.mpr h3) r4 dg w
end LRU
theorem and63 (x : Int) : 0 ≤ ia_and x 63 ∧ ia_and x 63 ≤ 63 := by
  unfold ia_and
  have h : (Int32.ofInt x &&& Int32.ofInt 63).toBitVec.toNat ≤ 63 := by
    rw [Int32.toBitVec_and, BitVec.toNat_and]
    exact Nat.le_trans Nat.and_le_right (by decide)
  have e : (Int32.ofInt x &&& Int32.ofInt 63).toInt = (((Int32.ofInt x &&& Int32.ofInt 63).toBitVec.toNat : Nat) : Int) := BitVec.toInt_eq_toNat_of_lt (by omega)
  rw [e]
  omega
theorem i32_rng (x : Int32) : -2147483648 ≤ x.toInt ∧ x.toInt ≤ 2147483647 := by
  have h1 := x.le_toInt
  have h2 := x.toInt_lt
  omega
-- states
theorem ps_ext {f g : Nat → Int} : ∀ n : Nat, (∀ c : Nat, c < n → f c = g c) → psum f n = psum g n
  | 0, _ => rfl
  | n + 1, h => by
    unfold psum
    rw [ps_ext n (fun c hc => h c (by omega)), h n (by omega)]
theorem SI_le {σ : Nat → Int} {m M : Int} (h : SI σ m) (hm : m ≤ M ∧ M ≤ 20000) : SI σ M := by
  obtain ⟨s0, s1, s2, s3, s4, s5, s6, s7, s18, sb, sw, se, sp⟩ := h
  exact ⟨s0, s1, s2, by omega, s4, by omega, by omega, s7, s18, sb, sw, se, fun p hp => by have := sp p hp; omega⟩
theorem SI_ext {σ τ : Nat → Int} {m : Int} (h : SI σ m) (e : ∀ j : Nat, j < 72 → τ j = σ j) : SI τ m := by
  obtain ⟨s0, s1, s2, s3, s4, s5, s6, s7, s18, sb, sw, se, sp⟩ := h
  have w : ∀ c : Nat, c < 10 → wel τ c = wel σ c := fun c hc => e (8 + c) (by omega)
  have ps := ps_ext 10 w
  have k0 := e 0 (by decide)
  have k1 := e 1 (by decide)
  refine ⟨by rw [k0]; exact s0, by rw [k1]; exact s1, by rw [e 2 (by decide)]; exact s2, by rw [e 3 (by decide)]; exact s3, by rw [e 4 (by decide)]; exact s4, by rw [e 5 (by decide)]; exact s5, by rw [e 6 (by decide)]; exact s6, by rw [e 7 (by decide)]; exact s7, by rw [e 18 (by decide)]; exact s18, by rw [e 6 (by decide), e 7 (by decide), e 18 (by decide), ps]; exact sb, fun c hc => by rw [w c hc]; exact sw c hc, fun q hq => ?_, fun q hq => ?_⟩
  · have hq2 : (q : Int) < σ 0 := by rw [← k0]; exact hq
    have a1 : col τ q = col σ q := e _ (by omega)
    have a2 : run τ q = run σ q := e _ (by omega)
    have a3 : prt τ q = prt σ q := e _ (by omega)
    rw [a1, a2, a3]
    exact se q hq2
  · have hq2 : (q : Int) < σ 1 := by rw [← k1]; exact hq
    have a1 : mrk τ q = mrk σ q := e _ (by omega)
    have a2 : mad τ q = mad σ q := e _ (by omega)
    rw [a1, a2]
    exact sp q hq2
theorem SB_mv {b n q L : Nat} {Z : ia_Z} {V V' : ia_H} {t : Nat → Int} (h : SB b Z V n t q L) (e : ∀ p : Nat, p = b ∨ p = b + 1 ∨ 116 ≤ p → V' p = V p) : SB b Z V' n t q L := by
  obtain ⟨z1, z2, e0, e1, e3, hn, ht, hr, hx⟩ := h
  have g1 := e b (Or.inl rfl)
  have g2 := e q (Or.inr hx)
  unfold SB
  rw [g1, g2]
  exact ⟨z1, z2, e0, e1, e3, hn, ht, hr, hx⟩
/-- an entry of the model's history -/
def hst (η : Nat → Int) (k : Nat) : Nat → Int := fun i => η (72 * k + i)
/-- where the class keeps it -/
def rgp (χ : Nat → Int) (k : Nat) : Nat := ((χ 1 + 9 - (χ 2 - (k : Int))) % 9).toNat
def LvB (j : Nat) (V : ia_H) : Prop := Sh 1 V (V 100) ∧ SI (V 100) (16 * (j : Int))
def LvC (j : Nat) (V : ia_H) : Prop := ((0 ≤ V 15 1 ∧ V 15 1 < 9) ∧ 0 ≤ V 15 2 ∧ V 15 2 ≤ 8) ∧ V 99 10 = V 15 2 ∧ ∀ k : Nat, (k : Int) < V 15 2 → Sh (17 + 7 * rgp (V 15) k) V (hst (V 103) k) ∧ SI (hst (V 103) k) (16 * (j : Int))
def LvD (j : Nat) (V : ia_H) : Prop := (V 0 8 = 0 ∨ V 0 8 = 1) ∧ V 99 13 = V 0 8 ∧ (0 ≤ V 102 0 ∧ V 102 0 ≤ 7) ∧ (V 0 8 = 1 → Sh 8 V (V 102) ∧ SI (V 102) (16 * (j : Int)))
def LvE (V : ia_H) : Prop := ((-1 ≤ V 0 9 ∧ V 0 9 ≤ 1000) ∧ V 99 11 = V 0 9) ∧ (-1 ≤ V 0 10 ∧ V 0 10 ≤ 1000) ∧ V 99 12 = V 0 10
def LvT (Z : ia_Z) (V : ia_H) : Prop := ∃ n q L : Nat, n ≤ 60 ∧ V 99 20 = (n : Int) ∧ SB 92 Z V n (V 110) q L
def LvL (Z : ia_Z) (V : ia_H) : Prop := ∃ n q L : Nat, n ≤ 79 ∧ V 99 15 = (n : Int) ∧ SB 97 Z V n (V 109) q L
/-- after j calls -/
def LvI (j : Nat) (Z : ia_Z) (V : ia_H) : Prop := (ZI Z ∧ PI V ∧ Z.2.2 ≤ 116 + 30 * j ∧ j ≤ 512) ∧ LvB j V ∧ LvC j V ∧ LvD j V ∧ LvE V ∧ LvT Z V ∧ LvL Z V ∧ V 92 0 ≠ V 97 0
section LIS
variable {j : Nat} {Z : ia_Z} {V V' : ia_H}
theorem LvC_keep (h : LvC j V) (hj : j < 512) (e15 : V' 15 = V 15) (e10 : V' 99 10 = V 99 10) (e103 : V' 103 = V 103) (hk : ∀ p : Nat, 17 ≤ p → p < 80 → p < 17 + 7 * (V 15 1).toNat ∨ 17 + 7 * (V 15 1).toNat + 6 < p → V' p = V p) : LvC (j + 1) V' := by
  obtain ⟨h1, h2, h3⟩ := h
  unfold LvC
  rw [e15, e10, e103]
  refine ⟨h1, h2, fun k hk2 => ?_⟩
  obtain ⟨a, b⟩ := h3 k hk2
  refine ⟨Sh_mv a (fun p g1 g2 => hk p (by omega) ?_ ?_), SI_le b (by omega)⟩
  · unfold rgp at g2
    omega
  · unfold rgp at g1 g2
    omega
theorem LvC_push {β : Nat → Int} (h : LvC j V) (hj : j < 512) (e15 : V' 15 = up (up (V 15) 1 ((V 15 1 + 1) % 9)) 2 (min (V 15 2 + 1) 8)) (e10 : V' 99 10 = hdep (V 99 10)) (e103 : V' 103 = s_hist (cpy (V 100) β 0 0 72) (V 103) (V 99 10)) (hO : Sh (17 + 7 * (V 15 1).toNat) V' (V 100)) (hI : SI (V 100) (16 * (j : Int))) (hk : ∀ p : Nat, 17 ≤ p → p < 80 → p < 17 + 7 * (V 15 1).toNat ∨ 17 + 7 * (V 15 1).toNat + 6 < p → V' p = V p) : LvC (j + 1) V' := by
  obtain ⟨h1, h2, h3⟩ := h
  have f1 : V' 15 1 = (V 15 1 + 1) % 9 := by rw [e15, up_ne (by decide), up_self]
  have f2 : V' 15 2 = min (V 15 2 + 1) 8 := by rw [e15, up_self]
  rw [h2] at e10 e103
  have hold : ∀ (k k2 : Nat), (k2 : Int) < V 15 2 → rgp (V' 15) k = rgp (V 15) k2 → (∀ i : Nat, i < 72 → hst (V' 103) k i = hst (V 103) k2 i) → Sh (17 + 7 * rgp (V' 15) k) V' (hst (V' 103) k) ∧ SI (hst (V' 103) k) (16 * ((j + 1 : Nat) : Int)) := fun k k2 hk2 e1 e2 => by
    obtain ⟨a, b⟩ := h3 k2 hk2
    rw [e1]
    refine ⟨Sh_ext (Sh_mv a (fun p g1 g2 => hk p (by omega) ?_ ?_)) e2, SI_ext (SI_le b (by omega)) e2⟩
    · unfold rgp at g2
      omega
    · unfold rgp at g1 g2
      omega
  have hnew : ∀ k : Nat, rgp (V' 15) k = (V 15 1).toNat → (∀ i : Nat, i < 72 → hst (V' 103) k i = V 100 i) → Sh (17 + 7 * rgp (V' 15) k) V' (hst (V' 103) k) ∧ SI (hst (V' 103) k) (16 * ((j + 1 : Nat) : Int)) := fun k e1 e2 => by
    rw [e1]
    exact ⟨Sh_ext hO e2, SI_ext (SI_le hI (by omega)) e2⟩
  by_cases h8 : V 15 2 = 8
  · have g10 : V' 99 10 = 8 := by rw [e10]; unfold hdep; rw [if_pos h8]
    have g103 : V' 103 = cpy (cpy (V 100) β 0 0 72) (shk (V 103) 7) 0 504 72 := by rw [e103]; unfold s_hist; rw [if_pos h8]
    have f3 : V' 15 2 = 8 := by omega
    refine ⟨by omega, by omega, fun k hk2 => ?_⟩
    rcases Nat.lt_or_ge k 7 with g | g
    · refine hold k (k + 1) (by omega) (by unfold rgp; rw [f1, f3]; omega) (fun i hi => ?_)
      unfold hst
      rw [g103, cpy_out (by omega)]
      unfold shk
      rw [if_pos (by omega)]
      congr 1
      omega
    · have : k = 7 := by omega
      subst this
      refine hnew 7 (by unfold rgp; rw [f1, f3]; omega) (fun i hi => ?_)
      unfold hst
      rw [g103, cpy_at (by omega), cpy_at (by omega)]
      exact congrArg (V 100) (by omega)
  · have g10 : V' 99 10 = V 15 2 + 1 := by rw [e10]; unfold hdep; rw [if_neg h8]
    have g103 : V' 103 = cpy (cpy (V 100) β 0 0 72) (V 103) 0 (72 * (V 15 2).toNat) 72 := by rw [e103]; unfold s_hist; rw [if_neg h8]
    have f3 : V' 15 2 = V 15 2 + 1 := by omega
    refine ⟨by omega, by omega, fun k hk2 => ?_⟩
    by_cases g : (k : Int) < V 15 2
    · refine hold k k g (by unfold rgp; rw [f1, f3]; omega) (fun i hi => ?_)
      unfold hst
      rw [g103, cpy_out (by omega)]
    · refine hnew k (by unfold rgp; rw [f1, f3]; omega) (fun i hi => ?_)
      unfold hst
      rw [g103, cpy_at (by omega), cpy_at (by omega)]
      congr 1
      omega
theorem LvC_pop (h : LvC j V) (hj : j < 512) (h0 : 0 < V 15 2) (e15 : V' 15 = up (up (V 15) 1 ((V 15 1 + 9 - 1) % 9)) 2 (V 15 2 - 1)) (e10 : V' 99 10 = V 99 10 - 1) (e103 : V' 103 = V 103) (hk : ∀ p : Nat, 17 ≤ p → p < 80 → V' p = V p) : LvC (j + 1) V' := by
  obtain ⟨h1, h2, h3⟩ := h
  have f1 : V' 15 1 = (V 15 1 + 9 - 1) % 9 := by rw [e15, up_ne (by decide), up_self]
  have f2 : V' 15 2 = V 15 2 - 1 := by rw [e15, up_self]
  refine ⟨by omega, by omega, fun k hk2 => ?_⟩
  obtain ⟨a, b⟩ := h3 k (by omega)
  have e : rgp (V' 15) k = rgp (V 15) k := by unfold rgp; rw [f1, f2]; omega
  rw [e, e103]
  refine ⟨Sh_mv a (fun p g1 g2 => hk p (by omega) ?_), SI_le b (by omega)⟩
  unfold rgp at g2
  omega
theorem LvC_clear (h : LvC j V) (e15 : V' 15 = up (V 15) 2 0) (e10 : V' 99 10 = 0) : LvC (j + 1) V' := by
  obtain ⟨h1, h2, h3⟩ := h
  have f1 : V' 15 1 = V 15 1 := by rw [e15, up_ne (by decide)]
  have f2 : V' 15 2 = 0 := by rw [e15, up_self]
  exact ⟨by omega, by omega, fun k hk2 => absurd hk2 (by omega)⟩
theorem LvC_top (h : LvC j V) (h0 : 0 < V 15 2) : Sh (17 + 7 * ((V 15 1 + 9 - 1) % 9).toNat) V (hst (V 103) (V 15 2 - 1).toNat) ∧ SI (hst (V 103) (V 15 2 - 1).toNat) (16 * (j : Int)) := by
  obtain ⟨h1, h2, h3⟩ := h
  have a := h3 (V 15 2 - 1).toNat (by omega)
  rw [show rgp (V 15) (V 15 2 - 1).toNat = ((V 15 1 + 9 - 1) % 9).toNat by unfold rgp; congr 2; omega] at a
  exact a
theorem LvD_keep (h : LvD j V) (hj : j < 512) (e8 : V' 0 8 = V 0 8) (e13 : V' 99 13 = V 99 13) (hk : ∀ p : Nat, 8 ≤ p → p ≤ 14 → V' p = V p) (e102 : V' 102 = V 102) : LvD (j + 1) V' := by
  obtain ⟨h1, h2, h3, h4⟩ := h
  unfold LvD
  rw [e8, e13, e102]
  exact ⟨h1, h2, h3, fun g => ⟨Sh_mv (h4 g).1 (fun p a b => hk p (by omega) (by omega)), SI_le (h4 g).2 (by omega)⟩⟩
theorem LvE_keep (h : LvE V) (e0 : V' 0 = V 0) (e11 : V' 99 11 = V 99 11) (e12 : V' 99 12 = V 99 12) : LvE V' := by
  unfold LvE
  rw [e0, e11, e12]
  exact h
theorem LvT_keep (h : LvT Z V) (e20 : V' 99 20 = V 99 20) (e110 : V' 110 = V 110) (hk : ∀ p : Nat, p = 92 ∨ p = 92 + 1 ∨ 116 ≤ p → V' p = V p) : LvT Z V' := by
  obtain ⟨n, q, L, h1, h2, h3⟩ := h
  refine ⟨n, q, L, h1, by rw [e20]; exact h2, ?_⟩
  rw [e110]
  exact SB_mv h3 hk
theorem LvL_keep (h : LvL Z V) (e15 : V' 99 15 = V 99 15) (e109 : V' 109 = V 109) (hk : ∀ p : Nat, p = 97 ∨ p = 97 + 1 ∨ 116 ≤ p → V' p = V p) : LvL Z V' := by
  obtain ⟨n, q, L, h1, h2, h3⟩ := h
  refine ⟨n, q, L, h1, by rw [e15]; exact h2, ?_⟩
  rw [e109]
  exact SB_mv h3 hk
/-- the places that are free, or that are spoken of by name -/
def SCR : List Nat := [80, 81, 82, 83, 84, 86, 88, 89, 90, 99, 100, 101, 103, 104, 105, 106, 107, 108, 111, 112, 113, 114, 115]
def SCM : List Nat := [0, 1, 2, 3, 4, 5, 6, 7, 15, 91, 92, 94, 95, 96] ++ SCR
theorem scr_no {p : Nat} (h : p < 80 ∨ 116 ≤ p) : p ∉ SCR := fun hp => by
  unfold SCR at hp
  simp only [List.mem_cons, List.not_mem_nil, or_false] at hp
  omega
theorem scm_no {p : Nat} (h : 116 ≤ p ∨ (7 < p ∧ p < 15) ∨ (15 < p ∧ p < 80)) : p ∉ SCM := fun hp => by
  unfold SCM SCR at hp
  simp only [List.mem_cons, List.mem_append, List.not_mem_nil, or_false] at hp
  omega
/-- nothing that counts has changed -/
theorem LvI_keep (h : LvI j Z V) (hj : j < 512) (hP : PI V') (hk : ∀ p : Nat, p ∉ SCR → p < 17 + 7 * (V 15 1).toNat ∨ 17 + 7 * (V 15 1).toNat + 6 < p → V' p = V p) (e100 : V' 100 = V 100) (e103 : V' 103 = V 103) (e99 : ∀ i : Nat, i ≠ 9 → V' 99 i = V 99 i) : LvI (j + 1) Z V' := by
  obtain ⟨⟨hZ, -, hz, hj2⟩, ⟨b1, b2⟩, hC, hD, hE, hT, hL, hne⟩ := h
  have hJ := hC.1.1
  have lo : ∀ p : Nat, p < 17 → V' p = V p := fun p hp => hk p (scr_no (by omega)) (by omega)
  have hi : ∀ p : Nat, 80 ≤ p → p ∉ SCR → V' p = V p := fun p hp h2 => hk p h2 (by omega)
  refine ⟨⟨hZ, hP, by omega, by omega⟩, ⟨?_, ?_⟩, LvC_keep hC hj (lo 15 (by decide)) (e99 10 (by decide)) e103 (fun p g1 g2 g3 => hk p (scr_no (by omega)) g3), LvD_keep hD hj (congrFun (lo 0 (by decide)) 8) (e99 13 (by decide)) (fun p _ g => lo p (by omega)) (hi 102 (by decide) (by decide)), LvE_keep hE (lo 0 (by decide)) (e99 11 (by decide)) (e99 12 (by decide)), LvT_keep hT (e99 20 (by decide)) (hi 110 (by decide) (by decide)) ?_, LvL_keep hL (e99 15 (by decide)) (hi 109 (by decide) (by decide)) ?_, ?_⟩
  · rw [e100]
    exact Sh_mv b1 (fun p g1 g2 => lo p (by omega))
  · rw [e100]
    exact SI_le b2 (by omega)
  · intro p hp
    rcases hp with rfl | rfl | hp
    · exact hi 92 (by decide) (by decide)
    · exact hi 93 (by decide) (by decide)
    · exact hi p (by omega) (scr_no (Or.inr hp))
  · intro p hp
    rcases hp with rfl | rfl | hp
    · exact hi 97 (by decide) (by decide)
    · exact hi 98 (by decide) (by decide)
    · exact hi p (by omega) (scr_no (Or.inr hp))
  · rw [hi 92 (by decide) (by decide), hi 97 (by decide) (by decide)]
    exact hne
/-- a change, and undo, restore: the state, the ring, the errors and the text are given anew -/
theorem LvI_new (h : LvI j Z V) (hj : j < 512) (hP : PI V') (hS : Sh 1 V' (V' 100)) (hI : SI (V' 100) (16 * ((j + 1 : Nat) : Int))) (hC : LvC (j + 1) V') (e0 : V' 0 8 = V 0 8) (hE : LvE V') (hT : LvT Z V') (e92 : V' 92 0 = V 92 0) (e13 : V' 99 13 = V 99 13) (e15 : V' 99 15 = V 99 15)
    (hk : ∀ p : Nat, p ∉ SCM → p < 17 + 7 * (V 15 1).toNat ∨ 17 + 7 * (V 15 1).toNat + 6 < p → V' p = V p) : LvI (j + 1) Z V' := by
  obtain ⟨⟨hZ, -, hz, hj2⟩, -, hC0, hD, -, -, hL, hne⟩ := h
  have hJ := hC0.1.1
  have hi : ∀ p : Nat, 80 ≤ p → p ∉ SCM → V' p = V p := fun p hp h2 => hk p h2 (by omega)
  refine ⟨⟨hZ, hP, by omega, by omega⟩, ⟨hS, hI⟩, hC, LvD_keep hD hj e0 e13 (fun p g1 g2 => hk p (scm_no (by omega)) (by omega)) (hi 102 (by decide) (by decide)), hE, hT, LvL_keep hL e15 (hi 109 (by decide) (by decide)) ?_, ?_⟩
  · intro p hp
    rcases hp with rfl | rfl | hp
    · exact hi 97 (by decide) (by decide)
    · exact hi 98 (by decide) (by decide)
    · exact hi p (by omega) (scm_no (Or.inl hp))
  · rw [e92, hi 97 (by decide) (by decide)]
    exact hne
/-- a change by a call of its own -/
theorem LvI_mod {β : Nat → Int} (h : LvI j Z V) (hj : j < 512) (hP : PI V') (hS : Sh 1 V' (V' 100)) (hI : SI (V' 100) (16 * (j : Int) + 1)) (e15 : V' 15 = up (up (V 15) 1 ((V 15 1 + 1) % 9)) 2 (min (V 15 2 + 1) 8)) (hO : Sh (17 + 7 * (V 15 1).toNat) V' (V 100)) (e103 : V' 103 = s_hist (cpy (V 100) β 0 0 72) (V 103) (V 99 10)) (e10 : V' 99 10 = hdep (V 99 10)) (e99 : ∀ i : Nat, i ≠ 9 → i ≠ 10 → V' 99 i = V 99 i)
    (hk : ∀ p : Nat, p ∉ [1, 2, 3, 4, 5, 6, 7, 15] ++ SCR → p < 17 + 7 * (V 15 1).toNat ∨ 17 + 7 * (V 15 1).toNat + 6 < p → V' p = V p) : LvI (j + 1) Z V' := by
  have h0 := h
  obtain ⟨⟨hZ, -, hz, hj2⟩, ⟨b1, b2⟩, hC, hD, hE, hT, hL, hne⟩ := h0
  have hJ := hC.1.1
  have no : ∀ p : Nat, p ∉ SCM → p ∉ [1, 2, 3, 4, 5, 6, 7, 15] ++ SCR := fun p hp h2 => hp (by
    rcases List.mem_append.mp h2 with g | g
    · refine List.mem_append_left _ ?_
      simp only [List.mem_cons, List.not_mem_nil, or_false] at g ⊢
      omega
    · exact List.mem_append_right _ g)
  refine LvI_new h hj hP hS (SI_le hI (by omega)) (LvC_push hC hj e15 e10 e103 hO b2 (fun p g1 g2 g3 => hk p (no p (scm_no (by omega))) g3)) (congrFun (hk 0 (by decide) (by omega)) 8) (LvE_keep hE (hk 0 (by decide) (by omega)) (e99 11 (by decide) (by decide)) (e99 12 (by decide) (by decide))) (LvT_keep hT (e99 20 (by decide) (by decide)) (hk 110 (by decide) (by omega)) ?_) (congrFun (hk 92 (by decide) (by omega)) 0) (e99 13 (by decide) (by decide)) (e99 15 (by decide) (by decide)) (fun p g1 g2 => hk p (no p g1) g2)
  intro p hp
  rcases hp with rfl | rfl | hp
  · exact hk 92 (by decide) (by omega)
  · exact hk 93 (by decide) (by omega)
  · exact hk p (no p (scm_no (Or.inl hp))) (by omega)
/-- the model and the class save -/
theorem LvI_save {γ : Nat → Int} (h : LvI j Z V) (hj : j < 512) (hP : PI V') (e0 : V' 0 = up (V 0) 8 1) (h8 : Sh 8 V' (V 100)) (e102 : V' 102 = cpy (V 100) γ 0 0 72) (e13 : V' 99 13 = 1) (e99 : ∀ i : Nat, i ≠ 9 → i ≠ 13 → V' 99 i = V 99 i) (hk : ∀ p : Nat, p ∉ ([0, 8, 9, 10, 11, 12, 13, 14, 99, 102] : List Nat) → V' p = V p) : LvI (j + 1) Z V' := by
  obtain ⟨⟨hZ, -, hz, hj2⟩, ⟨b1, b2⟩, hC, hD, hE, hT, hL, hne⟩ := h
  have big : ∀ p : Nat, 116 ≤ p → p ∉ ([0, 8, 9, 10, 11, 12, 13, 14, 99, 102] : List Nat) := fun p g hp => by
    simp only [List.mem_cons, List.not_mem_nil, or_false] at hp
    omega
  have mid : ∀ p : Nat, 17 ≤ p → p < 80 → p ∉ ([0, 8, 9, 10, 11, 12, 13, 14, 99, 102] : List Nat) := fun p g g2 hp => by
    simp only [List.mem_cons, List.not_mem_nil, or_false] at hp
    omega
  have f8 : V' 0 8 = 1 := by rw [e0, up_self]
  have f9 : V' 0 9 = V 0 9 := by rw [e0, up_ne (by decide)]
  have f10 : V' 0 10 = V 0 10 := by rw [e0, up_ne (by decide)]
  have g100 : V' 100 = V 100 := hk 100 (by decide)
  have c72 : ∀ i : Nat, i < 72 → V' 102 i = V 100 i := fun i hi => by
    rw [e102, cpy_at (by omega)]
    congr 1
    omega
  refine ⟨⟨hZ, hP, by omega, by omega⟩, ⟨?_, ?_⟩, LvC_keep hC hj (hk 15 (by decide)) (e99 10 (by decide) (by decide)) (hk 103 (by decide)) (fun p g1 g2 _ => hk p (mid p g1 g2)), ⟨Or.inr f8, by rw [e13, f8], ?_, fun _ => ⟨Sh_ext h8 c72, SI_ext (SI_le b2 (by omega)) c72⟩⟩, ?_, LvT_keep hT (e99 20 (by decide) (by decide)) (hk 110 (by decide)) ?_, LvL_keep hL (e99 15 (by decide) (by decide)) (hk 109 (by decide)) ?_, ?_⟩
  · rw [g100]
    exact Sh_fr b1 hk (by decide)
  · rw [g100]
    exact SI_le b2 (by omega)
  · rw [c72 0 (by decide)]
    exact b2.1
  · unfold LvE
    rw [f9, f10, e99 11 (by decide) (by decide), e99 12 (by decide) (by decide)]
    exact hE
  · intro p hp
    rcases hp with rfl | rfl | hp
    · exact hk 92 (by decide)
    · exact hk 93 (by decide)
    · exact hk p (big p hp)
  · intro p hp
    rcases hp with rfl | rfl | hp
    · exact hk 97 (by decide)
    · exact hk 98 (by decide)
    · exact hk p (big p hp)
  · rw [hk 92 (by decide), hk 97 (by decide)]
    exact hne
variable {Z1 : ia_Z} {V1 : ia_H}
/-- a call that may have given a builder a new row -/
theorem LvI_bx {b k : Nat} (h : LvI j Z V) (hj : j < 512) (hb : b = 92 ∨ b = 97) (hB : BX b k Z V Z1 V1) (hk : k ≤ 30) : ZI Z1 ∧ PI V1 ∧ Z1.2.2 ≤ 116 + 30 * (j + 1) ∧ ∀ p : Nat, p < 116 → p ≠ 92 ∧ p ≠ 93 ∧ p ≠ 97 ∧ p ≠ 98 → V1 p = V p := by
  obtain ⟨⟨hZ, hP, hz, hj2⟩, -, -, -, -, ⟨n, q, L, -, -, sb⟩, ⟨n2, q2, L2, -, -, sb2⟩, -⟩ := h
  have hle := hB.1.2
  refine ⟨BX_ZI hB hZ (by omega), ?_, by omega, fun p g1 g2 => ?_⟩
  · rcases hb with rfl | rfl
    · exact BX_PI hB hP hZ (Or.inl rfl) sb.2.2.1 sb.2.2.2.2.2.2.2.2
    · exact BX_PI hB hP hZ (Or.inr rfl) sb2.2.2.1 sb2.2.2.2.2.2.2.2.2
  · rcases hb with rfl | rfl
    · exact BX_fr hB hZ (Or.inl rfl) sb.2.2.1 sb.2.2.2.2.2.2.2.2 g1 g2
    · exact BX_fr hB hZ (Or.inr rfl) sb2.2.2.1 sb2.2.2.2.2.2.2.2.2 g1 g2
theorem LvI_type {n q1 L1 : Nat} {t1 : Nat → Int} (h : LvI j Z V) (hj : j < 512) (hB : BX 92 1 Z V Z1 V1) (hS : SB 92 Z1 V1 (n + 1) t1 q1 L1) (hn : n < 60) (hP : PI V') (hk : ∀ p : Nat, p ∉ ([99, 110, 114] : List Nat) → V' p = V1 p) (e110 : V' 110 = t1) (e20 : V' 99 20 = ((n + 1 : Nat) : Int)) (e99 : ∀ i : Nat, i ≠ 9 → i ≠ 20 → V' 99 i = V 99 i) : LvI (j + 1) Z1 V' := by
  obtain ⟨k1, k2, k3, k4⟩ := LvI_bx h hj (Or.inl rfl) hB (by decide)
  obtain ⟨⟨hZ, -, hz, hj2⟩, ⟨b1, b2⟩, hC, hD, hE, ⟨n0, q, L, -, -, sb⟩, ⟨n2, q2, L2, g1, g2, sb2⟩, hne⟩ := h
  have c0 := sb.2.2.1
  have c1 := sb.2.2.2.2.2.2.2.2
  have d0 := sb2.2.2.1
  have d1 := sb2.2.2.2.2.2.2.2.2
  have d2 := sb2.2.1.1
  have sb3 := BX_SB hB (by decide) sb2 c0 ⟨by omega, by omega⟩ (by omega)
  have no : ∀ p : Nat, p < 99 ∨ 116 ≤ p → p ∉ ([99, 110, 114] : List Nat) := fun p g hp => by
    simp only [List.mem_cons, List.not_mem_nil, or_false] at hp
    omega
  have lo : ∀ p : Nat, p < 92 → V' p = V p := fun p hp => (hk p (no p (by omega))).trans (k4 p (by omega) (by omega))
  have e100 : V' 100 = V 100 := (hk 100 (by decide)).trans (k4 100 (by decide) (by decide))
  have e109 : V' 109 = V 109 := (hk 109 (by decide)).trans (k4 109 (by decide) (by decide))
  refine ⟨⟨k1, hP, by omega, by omega⟩, ⟨?_, ?_⟩, LvC_keep hC hj (lo 15 (by decide)) (e99 10 (by decide) (by decide)) ((hk 103 (by decide)).trans (k4 103 (by decide) (by decide))) (fun p _ g _ => lo p (by omega)), LvD_keep hD hj (congrFun (lo 0 (by decide)) 8) (e99 13 (by decide) (by decide)) (fun p _ g => lo p (by omega)) ((hk 102 (by decide)).trans (k4 102 (by decide) (by decide))), LvE_keep hE (lo 0 (by decide)) (e99 11 (by decide) (by decide)) (e99 12 (by decide) (by decide)), ⟨n + 1, q1, L1, by omega, e20, ?_⟩, ⟨n2, q2, L2, g1, by rw [e99 15 (by decide) (by decide)]; exact g2, ?_⟩, ?_⟩
  · rw [e100]
    exact Sh_mv b1 (fun p _ g => lo p (by omega))
  · rw [e100]
    exact SI_le b2 (by omega)
  · rw [e110]
    exact SB_mv hS (fun p hp => hk p (no p (by omega)))
  · rw [e109]
    exact SB_mv sb3 (fun p hp => hk p (no p (by omega)))
  · rw [hk 92 (by decide), hk 97 (by decide), sb3.2.2.1]
    rcases hB.2.2.2 with e | e
    · rw [e, ← d0]
      exact hne
    · omega
theorem LvI_line {k n q1 L1 : Nat} {t1 : Nat → Int} (h : LvI j Z V) (hj : j < 512) (hB : BX 97 k Z V Z1 V1) (hk30 : k ≤ 30) (hS : SB 97 Z1 V1 n t1 q1 L1) (hn : n ≤ 79) (hP : PI V') (hk : ∀ p : Nat, p ∉ ([99, 109, 114] : List Nat) → V' p = V1 p) (e109 : V' 109 = t1) (e15 : V' 99 15 = (n : Int)) (e99 : ∀ i : Nat, i ≠ 9 → i ≠ 15 → V' 99 i = V 99 i) : LvI (j + 1) Z1 V' := by
  obtain ⟨k1, k2, k3, k4⟩ := LvI_bx h hj (Or.inr rfl) hB hk30
  obtain ⟨⟨hZ, -, hz, hj2⟩, ⟨b1, b2⟩, hC, hD, hE, ⟨n0, q, L, g1, g2, sb⟩, ⟨n2, q2, L2, -, -, sb2⟩, hne⟩ := h
  have c0 := sb.2.2.1
  have c1 := sb.2.2.2.2.2.2.2.2
  have d0 := sb2.2.2.1
  have d1 := sb2.2.2.2.2.2.2.2.2
  have d2 := sb.2.1.1
  have sb3 := BX_SB hB (by decide) sb d0 ⟨by omega, by omega⟩ (by omega)
  have no : ∀ p : Nat, p < 99 ∨ 116 ≤ p → p ∉ ([99, 109, 114] : List Nat) := fun p g hp => by
    simp only [List.mem_cons, List.not_mem_nil, or_false] at hp
    omega
  have lo : ∀ p : Nat, p < 92 → V' p = V p := fun p hp => (hk p (no p (by omega))).trans (k4 p (by omega) (by omega))
  have e100 : V' 100 = V 100 := (hk 100 (by decide)).trans (k4 100 (by decide) (by decide))
  have e110 : V' 110 = V 110 := (hk 110 (by decide)).trans (k4 110 (by decide) (by decide))
  refine ⟨⟨k1, hP, by omega, by omega⟩, ⟨?_, ?_⟩, LvC_keep hC hj (lo 15 (by decide)) (e99 10 (by decide) (by decide)) ((hk 103 (by decide)).trans (k4 103 (by decide) (by decide))) (fun p _ g _ => lo p (by omega)), LvD_keep hD hj (congrFun (lo 0 (by decide)) 8) (e99 13 (by decide) (by decide)) (fun p _ g => lo p (by omega)) ((hk 102 (by decide)).trans (k4 102 (by decide) (by decide))), LvE_keep hE (lo 0 (by decide)) (e99 11 (by decide) (by decide)) (e99 12 (by decide) (by decide)), ⟨n0, q, L, g1, by rw [e99 20 (by decide) (by decide)]; exact g2, ?_⟩, ⟨n, q1, L1, hn, e15, ?_⟩, ?_⟩
  · rw [e100]
    exact Sh_mv b1 (fun p _ g => lo p (by omega))
  · rw [e100]
    exact SI_le b2 (by omega)
  · rw [e110]
    exact SB_mv sb3 (fun p hp => hk p (no p (by omega)))
  · rw [e109]
    exact SB_mv hS (fun p hp => hk p (no p (by omega)))
  · rw [hk 92 (by decide), hk 97 (by decide), sb3.2.2.1]
    intro e2
    rcases hB.2.2.2 with e | e
    · exact hne (by rw [c0, e2, e])
    · omega
end LIS
