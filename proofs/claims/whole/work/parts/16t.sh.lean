/-! the shop's rows, changed one at a time (made by hand) -/
section SHT
variable {V : ia_H} {σ : Nat → Int}
theorem ia_u_eq {V : ia_H} {p k : Nat} {x : Int} {a j : Nat} : ia_u V p k x a j = if a = p ∧ j = k then x else V a j := rfl
theorem up_eq {f : Nat → Int} {k : Nat} {x : Int} {j : Nat} : up f k x j = if j = k then x else f j := rfl
theorem Sh_any {p k j : Nat} {x : Int} (h : Sh 1 V σ) (hj : j ≠ 0 ∧ j ≠ 1)
    (h1 : ∀ c : Nat, c < 10 → (2 = p ∧ c = k ↔ 8 + c = j))
    (h2 : ∀ e : Nat, (e : Int) < σ 0 → (3 = p ∧ e = k ↔ 20 + 4 * e = j) ∧ (4 = p ∧ e = k ↔ 20 + 4 * e + 1 = j) ∧ (5 = p ∧ e = k ↔ 20 + 4 * e + 2 = j))
    (h3 : ∀ e : Nat, (e : Int) < σ 1 → (6 = p ∧ e = k ↔ 48 + 2 * e = j) ∧ (7 = p ∧ e = k ↔ 48 + 2 * e + 1 = j))
    (h4 : (1 = p ∧ 6 = k ↔ 0 = j) ∧ (1 = p ∧ 7 = k ↔ 1 = j) ∧ (1 = p ∧ 8 = k ↔ 2 = j) ∧ (1 = p ∧ 9 = k ↔ 3 = j) ∧ (1 = p ∧ 10 = k ↔ 4 = j) ∧ (1 = p ∧ 11 = k ↔ 5 = j) ∧ (1 = p ∧ 12 = k ↔ 6 = j) ∧ (1 = p ∧ 13 = k ↔ 7 = j) ∧ (1 = p ∧ 14 = k ↔ 18 = j)) : Sh 1 (ia_u V p k x) (up σ j x) := by
  obtain ⟨g1, g2, g3, e6, e7, e8, e9, e10, e11, e12, e13, e14, bd⟩ := h
  obtain ⟨k6, k7, k8, k9, k10, k11, k12, k13, k14⟩ := h4
  have key : ∀ {a b i : Nat}, V a b = σ i → (a = p ∧ b = k ↔ i = j) → ia_u V p k x a b = up σ j x i := fun {a b i} e hh => by
    rw [ia_u_eq, up_eq]
    by_cases c : i = j
    · rw [if_pos c, if_pos (hh.mpr c)]
    · rw [if_neg c, if_neg (fun q => c (hh.mp q)), e]
  have u0 : up σ j x 0 = σ 0 := up_ne (fun e => hj.1 e.symm)
  have u1 : up σ j x 1 = σ 1 := up_ne (fun e => hj.2 e.symm)
  refine ⟨fun c hc => key (g1 c hc) (h1 c hc), fun e he => ?_, fun e he => ?_, key e6 k6, key e7 k7, key e8 k8, key e9 k9, key e10 k10, key e11 k11, key e12 k12, key e13 k13, key e14 k14, by rw [u0, u1]; exact bd⟩
  · rw [u0] at he
    exact ⟨key (g2 e he).1 (h2 e he).1, key (g2 e he).2.1 (h2 e he).2.1, key (g2 e he).2.2 (h2 e he).2.2⟩
  · rw [u1] at he
    exact ⟨key (g3 e he).1 (h3 e he).1, key (g3 e he).2 (h3 e he).2⟩
theorem Sh_w {k : Nat} {x : Int} (h : Sh 1 V σ) (hk : k < 10) : Sh 1 (ia_u V 2 k x) (up σ (8 + k) x) :=
  have hb := h.bd
  Sh_any h (by omega) (fun c hc => by omega) (fun e he => by omega) (fun e he => by omega) (by omega)
theorem Sh_c {k : Nat} {x : Int} (h : Sh 1 V σ) (hk : k < 7) : Sh 1 (ia_u V 3 k x) (up σ (20 + 4 * k) x) :=
  have hb := h.bd
  Sh_any h (by omega) (fun c hc => by omega) (fun e he => by omega) (fun e he => by omega) (by omega)
theorem Sh_r {k : Nat} {x : Int} (h : Sh 1 V σ) (hk : k < 7) : Sh 1 (ia_u V 4 k x) (up σ (20 + 4 * k + 1) x) :=
  have hb := h.bd
  Sh_any h (by omega) (fun c hc => by omega) (fun e he => by omega) (fun e he => by omega) (by omega)
theorem Sh_p {k : Nat} {x : Int} (h : Sh 1 V σ) (hk : k < 7) : Sh 1 (ia_u V 5 k x) (up σ (20 + 4 * k + 2) x) :=
  have hb := h.bd
  Sh_any h (by omega) (fun c hc => by omega) (fun e he => by omega) (fun e he => by omega) (by omega)
theorem Sh_m {k : Nat} {x : Int} (h : Sh 1 V σ) (hk : k < 12) : Sh 1 (ia_u V 6 k x) (up σ (48 + 2 * k) x) :=
  have hb := h.bd
  Sh_any h (by omega) (fun c hc => by omega) (fun e he => by omega) (fun e he => by omega) (by omega)
theorem Sh_h {k : Nat} {x : Int} (h : Sh 1 V σ) (hk : k < 12) : Sh 1 (ia_u V 7 k x) (up σ (48 + 2 * k + 1) x) :=
  have hb := h.bd
  Sh_any h (by omega) (fun c hc => by omega) (fun e he => by omega) (fun e he => by omega) (by omega)
theorem Sh_s8 {x : Int} (h : Sh 1 V σ) : Sh 1 (ia_u V 1 8 x) (up σ 2 x) :=
  have hb := h.bd
  Sh_any h (by omega) (fun c hc => by omega) (fun e he => by omega) (fun e he => by omega) (by omega)
theorem Sh_s9 {x : Int} (h : Sh 1 V σ) : Sh 1 (ia_u V 1 9 x) (up σ 3 x) :=
  have hb := h.bd
  Sh_any h (by omega) (fun c hc => by omega) (fun e he => by omega) (fun e he => by omega) (by omega)
theorem Sh_s10 {x : Int} (h : Sh 1 V σ) : Sh 1 (ia_u V 1 10 x) (up σ 4 x) :=
  have hb := h.bd
  Sh_any h (by omega) (fun c hc => by omega) (fun e he => by omega) (fun e he => by omega) (by omega)
theorem Sh_s11 {x : Int} (h : Sh 1 V σ) : Sh 1 (ia_u V 1 11 x) (up σ 5 x) :=
  have hb := h.bd
  Sh_any h (by omega) (fun c hc => by omega) (fun e he => by omega) (fun e he => by omega) (by omega)
theorem Sh_s12 {x : Int} (h : Sh 1 V σ) : Sh 1 (ia_u V 1 12 x) (up σ 6 x) :=
  have hb := h.bd
  Sh_any h (by omega) (fun c hc => by omega) (fun e he => by omega) (fun e he => by omega) (by omega)
theorem Sh_s13 {x : Int} (h : Sh 1 V σ) : Sh 1 (ia_u V 1 13 x) (up σ 7 x) :=
  have hb := h.bd
  Sh_any h (by omega) (fun c hc => by omega) (fun e he => by omega) (fun e he => by omega) (by omega)
theorem Sh_s14 {x : Int} (h : Sh 1 V σ) : Sh 1 (ia_u V 1 14 x) (up σ 18 x) :=
  have hb := h.bd
  Sh_any h (by omega) (fun c hc => by omega) (fun e he => by omega) (fun e he => by omega) (by omega)
end SHT
/-- the places of the states that can come back -/
theorem zhA {Z : ia_Z} (h : ZI Z) (j : Nat) (hj : j < 9) (k q l : Nat) (hk : k < 7) (e : ∀ i : Nat, i < 9 → kdL.getD (17 + 7 * i + k) 0 = q ∧ lnL.getD (17 + 7 * i + k) 0 = l) : 17 + 7 * j + k < Z.2.2 ∧ Z.1 (17 + 7 * j + k) = q ∧ Z.2.1 (17 + 7 * j + k) = l := by
  have h1 := h.1
  have h2 := h.2.2 (17 + 7 * j + k) (by omega)
  exact ⟨by omega, h2.1.trans (e j hj).1, h2.2.trans (e j hj).2⟩
theorem zh {Z : ia_Z} (h : ZI Z) (j : Nat) (hj : j < 9) : 17 + 7 * j < Z.2.2 ∧ Z.1 (17 + 7 * j) = 19 ∧ Z.2.1 (17 + 7 * j) = 0 := zhA h j hj 0 19 0 (by decide) (by decide)
theorem zh0 {Z : ia_Z} (h : ZI Z) (j : Nat) (hj : j < 9) : 17 + 7 * j + 1 + 0 < Z.2.2 ∧ Z.1 (17 + 7 * j + 1 + 0) = 0 ∧ Z.2.1 (17 + 7 * j + 1 + 0) = 10 := zhA h j hj 1 0 10 (by decide) (by decide)
theorem zh1 {Z : ia_Z} (h : ZI Z) (j : Nat) (hj : j < 9) : 17 + 7 * j + 1 + 1 < Z.2.2 ∧ Z.1 (17 + 7 * j + 1 + 1) = 0 ∧ Z.2.1 (17 + 7 * j + 1 + 1) = 7 := zhA h j hj 2 0 7 (by decide) (by decide)
theorem zh2 {Z : ia_Z} (h : ZI Z) (j : Nat) (hj : j < 9) : 17 + 7 * j + 1 + 2 < Z.2.2 ∧ Z.1 (17 + 7 * j + 1 + 2) = 0 ∧ Z.2.1 (17 + 7 * j + 1 + 2) = 7 := zhA h j hj 3 0 7 (by decide) (by decide)
theorem zh3 {Z : ia_Z} (h : ZI Z) (j : Nat) (hj : j < 9) : 17 + 7 * j + 1 + 3 < Z.2.2 ∧ Z.1 (17 + 7 * j + 1 + 3) = 0 ∧ Z.2.1 (17 + 7 * j + 1 + 3) = 7 := zhA h j hj 4 0 7 (by decide) (by decide)
theorem zh4 {Z : ia_Z} (h : ZI Z) (j : Nat) (hj : j < 9) : 17 + 7 * j + 1 + 4 < Z.2.2 ∧ Z.1 (17 + 7 * j + 1 + 4) = 0 ∧ Z.2.1 (17 + 7 * j + 1 + 4) = 12 := zhA h j hj 5 0 12 (by decide) (by decide)
theorem zh5 {Z : ia_Z} (h : ZI Z) (j : Nat) (hj : j < 9) : 17 + 7 * j + 1 + 5 < Z.2.2 ∧ Z.1 (17 + 7 * j + 1 + 5) = 0 ∧ Z.2.1 (17 + 7 * j + 1 + 5) = 12 := zhA h j hj 6 0 12 (by decide) (by decide)
theorem ptr_h (j k : Nat) (hj : j < 9) (hk : k < 6) : ptr (17 + 7 * j) k = some (17 + 7 * j + 1 + k) := by
  unfold ptr
  rw [if_pos (by omega), if_pos (by omega)]
theorem ptr_16 (j : Nat) (hj : j < 9) : ptr 16 j = some (17 + 7 * j) := if_pos hj
theorem jaq {X : ia_X} {own : String} {cc : ByteArray} {nL d mc ms cells slots pc : Nat} {ls st : List (Nat × Int)} {Z : ia_Z} {V : ia_H} (F : ia_Fix X own cc nL d mc ms) {x v : Int} {q L : Nat} (z : q < Z.2.2 ∧ Z.1 q = 4 ∧ Z.2.1 q = L) (i : Nat) (hi : x = (i : Int)) (hin : i < L) (hv : V q i = v) (dg : decode cc pc = .ok (.aaload, 1)) (kk : ia_G X cells slots (pc + 1) ls ((4, v) :: st) Z V) : ia_G X cells slots pc ls ((0, x) :: (4, (q : Int)) :: st) Z V :=
  ia_aaload4 F q i rfl hi z.1 z.2.1 (by rw [z.2.2]; exact hin) hv dg kk
theorem ptr_n (j k : Nat) (hj : j < 9) (hk : k < 6) : ∀ i : Nat, ptr (17 + 7 * j + 1 + k) i = none := fun i => by
  unfold ptr
  rw [if_pos (by omega), if_neg (by omega)]
theorem ptr_o (j : Nat) (hj : j < 9) : ∀ i : Nat, 6 ≤ i → ptr (17 + 7 * j) i = none := fun i hi => by
  unfold ptr
  rw [if_pos (by omega), if_neg (by omega)]
theorem ptr_s1 : ∀ i : Nat, 6 ≤ i → ptr 1 i = none := fun i hi => by
  match i, hi with
  | 0, h | 1, h | 2, h | 3, h | 4, h | 5, h => exact absurd h (by decide)
  | n + 6, _ => rfl
theorem ptr_s8 : ∀ i : Nat, 6 ≤ i → ptr 8 i = none := fun i hi => by
  match i, hi with
  | 0, h | 1, h | 2, h | 3, h | 4, h | 5, h => exact absurd h (by decide)
  | n + 6, _ => rfl
theorem rowC {V : ia_H} {q0 q1 n : Nat} {f g : Nat → Int} (h0 : V q0 = f) (h1 : V q1 = g) : ia_cp V q0 q1 n q1 = mgk n f g := by
  funext j
  show (if q1 = q1 ∧ j < n then V q0 j else V q1 j) = if j < n then f j else g j
  rw [h0, h1]
  by_cases h : j < n
  · rw [if_pos ⟨rfl, h⟩, if_pos h]
  · rw [if_neg (fun e => h e.2), if_neg h]
theorem rowCN {V : ia_H} {p q0 q1 n : Nat} (h : p ≠ q1) : ia_cp V q0 q1 n p = V p := by
  funext j
  exact if_neg (fun e => h e.1)
theorem PI_cp {V : ia_H} {q0 q1 n : Nat} (h : PI V) (e : ∀ k : Nat, ptr q1 k = none) : PI (ia_cp V q0 q1 n) := fun a j q h2 => by
  by_cases hc : a = q1
  · rw [hc, e j] at h2; cases h2
  · rw [rowCN hc]; exact h a j q h2
theorem Fr_cp {V V1 : ia_H} {S : List Nat} {q0 q n : Nat} (h : ∀ p, p ∉ S → V1 p = V p) (hq : q ∈ S) : ∀ p, p ∉ S → ia_cp V1 q0 q n p = V p := fun p hp => by
  rw [rowCN (fun e => hp (by rw [e]; exact hq))]; exact h p hp
theorem jcp {X : ia_X} {own : String} {cc : ByteArray} {nL d mc ms cells slots pc : Nat} {ls st : List (Nat × Int)} {Z : ia_Z} {V : ia_H} (F : ia_Fix X own cc nL d mc ms) {x : Int} {q0 q1 L0 L1 index : Nat} (z0 : q0 < Z.2.2 ∧ Z.1 q0 = 0 ∧ Z.2.1 q0 = L0) (z1 : q1 < Z.2.2 ∧ Z.1 q1 = 0 ∧ Z.2.1 q1 = L1) (n : Nat) (hn : x = (n : Int)) (h0 : n ≤ L0) (h1 : n ≤ L1)
    (hw : Cond.methodLink own index arraycopyName ∈ wU ∧ Cond.native arraycopyName ∈ wU ∧ Cond.static arraycopyName ∈ wU ∧ Cond.initialized "java/lang/System" ∈ wU) (hd : 1 ≤ d ∧ st.length ≤ 4) (dg : decode cc pc = .ok (.invokestatic index, 3)) (kk : ia_G X cells slots (pc + 3) ls st Z (ia_cp V q0 q1 n)) : ia_G X cells slots pc ls ((0, x) :: (0, 0) :: (4, (q1 : Int)) :: (0, 0) :: (4, (q0 : Int)) :: st) Z V :=
  ia_arraycopy F q0 q1 n hn rfl rfl z0.1 z1.1 z0.2.1 z1.2.1 (by rw [z0.2.2]; exact h0) (by rw [z1.2.2]; exact h1) hw hd dg kk
-- counts that change
theorem Sh_e6 {V : ia_H} {τ : Nat → Int} {k : Nat} {x : Int} (h : Sh 1 V τ) (hk : τ 0 = (k : Int)) (h1 : V 3 k = col τ k ∧ V 4 k = run τ k ∧ V 5 k = prt τ k) (hx : x = (k : Int) + 1 ∧ k < 7) : Sh 1 (ia_u V 1 6 x) (up τ 0 x) := by
  obtain ⟨g1, g2, g3, e6, e7, e8, e9, e10, e11, e12, e13, e14, bd⟩ := h
  have u : ∀ j : Nat, j ≠ 0 → up τ 0 x j = τ j := fun j hj => up_ne hj
  have v : ∀ p j : Nat, (p ≠ 1 ∨ j ≠ 6) → ia_u V 1 6 x p j = V p j := fun p j h => ia_u_ne h
  refine ⟨fun c hc => ?_, fun e he => ?_, fun p hp => ?_, ?_, ?_, ?_, ?_, ?_, ?_, ?_, ?_, ?_, ?_⟩
  · rw [v _ _ (Or.inl (by decide))]; show _ = up τ 0 x (8 + c); rw [u _ (by omega)]; exact g1 c hc
  · rw [up_self] at he
    have key : V 3 e = col τ e ∧ V 4 e = run τ e ∧ V 5 e = prt τ e := by
      by_cases c : e = k
      · rw [c]; exact h1
      · exact g2 e (by omega)
    rw [v _ _ (Or.inl (by decide)), v _ _ (Or.inl (by decide)), v _ _ (Or.inl (by decide))]
    show _ = up τ 0 x (20 + 4 * e) ∧ _ = up τ 0 x (20 + 4 * e + 1) ∧ _ = up τ 0 x (20 + 4 * e + 2)
    rw [u _ (by omega), u _ (by omega), u _ (by omega)]
    exact key
  · rw [u 1 (by decide)] at hp
    rw [v _ _ (Or.inl (by decide)), v _ _ (Or.inl (by decide))]
    show _ = up τ 0 x (48 + 2 * p) ∧ _ = up τ 0 x (48 + 2 * p + 1)
    rw [u _ (by omega), u _ (by omega)]
    exact g3 p hp
  · rw [ia_u_self, up_self]
  · rw [v _ _ (Or.inr (by decide)), u _ (by decide)]; exact e7
  · rw [v _ _ (Or.inr (by decide)), u _ (by decide)]; exact e8
  · rw [v _ _ (Or.inr (by decide)), u _ (by decide)]; exact e9
  · rw [v _ _ (Or.inr (by decide)), u _ (by decide)]; exact e10
  · rw [v _ _ (Or.inr (by decide)), u _ (by decide)]; exact e11
  · rw [v _ _ (Or.inr (by decide)), u _ (by decide)]; exact e12
  · rw [v _ _ (Or.inr (by decide)), u _ (by decide)]; exact e13
  · rw [v _ _ (Or.inr (by decide)), u _ (by decide)]; exact e14
  · rw [up_self, u _ (by decide)]; omega
theorem Sh_e7 {V : ia_H} {τ : Nat → Int} {k : Nat} {x : Int} (h : Sh 1 V τ) (hk : τ 1 = (k : Int)) (h1 : V 6 k = mrk τ k ∧ V 7 k = mad τ k) (hx : x = (k : Int) + 1 ∧ k < 12) : Sh 1 (ia_u V 1 7 x) (up τ 1 x) := by
  obtain ⟨g1, g2, g3, e6, e7, e8, e9, e10, e11, e12, e13, e14, bd⟩ := h
  have u : ∀ j : Nat, j ≠ 1 → up τ 1 x j = τ j := fun j hj => up_ne hj
  have v : ∀ p j : Nat, (p ≠ 1 ∨ j ≠ 7) → ia_u V 1 7 x p j = V p j := fun p j h => ia_u_ne h
  refine ⟨fun c hc => ?_, fun e he => ?_, fun p hp => ?_, ?_, ?_, ?_, ?_, ?_, ?_, ?_, ?_, ?_, ?_⟩
  · rw [v _ _ (Or.inl (by decide))]; show _ = up τ 1 x (8 + c); rw [u _ (by omega)]; exact g1 c hc
  · rw [u 0 (by decide)] at he
    rw [v _ _ (Or.inl (by decide)), v _ _ (Or.inl (by decide)), v _ _ (Or.inl (by decide))]
    show _ = up τ 1 x (20 + 4 * e) ∧ _ = up τ 1 x (20 + 4 * e + 1) ∧ _ = up τ 1 x (20 + 4 * e + 2)
    rw [u _ (by omega), u _ (by omega), u _ (by omega)]
    exact g2 e he
  · rw [up_self] at hp
    have key : V 6 p = mrk τ p ∧ V 7 p = mad τ p := by
      by_cases c : p = k
      · rw [c]; exact h1
      · exact g3 p (by omega)
    rw [v _ _ (Or.inl (by decide)), v _ _ (Or.inl (by decide))]
    show _ = up τ 1 x (48 + 2 * p) ∧ _ = up τ 1 x (48 + 2 * p + 1)
    rw [u _ (by omega), u _ (by omega)]
    exact key
  · rw [v _ _ (Or.inr (by decide)), u _ (by decide)]; exact e6
  · rw [ia_u_self, up_self]
  · rw [v _ _ (Or.inr (by decide)), u _ (by decide)]; exact e8
  · rw [v _ _ (Or.inr (by decide)), u _ (by decide)]; exact e9
  · rw [v _ _ (Or.inr (by decide)), u _ (by decide)]; exact e10
  · rw [v _ _ (Or.inr (by decide)), u _ (by decide)]; exact e11
  · rw [v _ _ (Or.inr (by decide)), u _ (by decide)]; exact e12
  · rw [v _ _ (Or.inr (by decide)), u _ (by decide)]; exact e13
  · rw [v _ _ (Or.inr (by decide)), u _ (by decide)]; exact e14
  · rw [up_self, u _ (by decide)]; omega
theorem Sh_rem {V V' : ia_H} {σ : Nat → Int} {e n : Nat} (h : Sh 1 V σ) (hn : σ 0 = (n : Int)) (he : e < n) (h1 : V' 1 = up (V 1) 6 (σ 0 - 1)) (h3 : V' 3 = gapt (V 3) e (n - 1) 1) (h4 : V' 4 = gapt (V 4) e (n - 1) 1) (h5 : V' 5 = gapt (V 5) e (n - 1) 1) (hF : ∀ p, p ∉ ([1, 3, 4, 5] : List Nat) → V' p = V p) : Sh 1 V' (s_rem σ e) := by
  obtain ⟨g1, g2, g3, e6, e7, e8, e9, e10, e11, e12, e13, e14, bd⟩ := h
  have t0 : (σ 0 - 1).toNat = n - 1 := by omega
  have u : ∀ j : Nat, j ≠ 0 → (j < 20 + 4 * e ∨ 20 + 4 * (n - 1) ≤ j) → s_rem σ e j = σ j := fun j hj hr => by
    unfold s_rem
    rw [t0]
    show (if 20 + 4 * e ≤ j ∧ j < 20 + 4 * (n - 1) then _ else up σ 0 (σ 0 - 1) j) = _
    rw [if_neg (by omega), up_ne hj]
  have w : ∀ j : Nat, 20 + 4 * e ≤ j ∧ j < 20 + 4 * (n - 1) → s_rem σ e j = σ (j + 4) := fun j hr => by
    unfold s_rem
    rw [t0]
    show (if 20 + 4 * e ≤ j ∧ j < 20 + 4 * (n - 1) then up σ 0 (σ 0 - 1) (j + 4) else _) = _
    rw [if_pos hr, up_ne (by omega)]
  have z : s_rem σ e 0 = σ 0 - 1 := by
    unfold s_rem
    show (if 20 + 4 * e ≤ 0 ∧ 0 < 20 + 4 * (σ 0 - 1).toNat then _ else up σ 0 (σ 0 - 1) 0) = _
    rw [if_neg (by omega), up_self]
  refine ⟨fun c hc => ?_, fun i hi => ?_, fun p hp => ?_, ?_, ?_, ?_, ?_, ?_, ?_, ?_, ?_, ?_, ?_⟩
  · rw [hF _ (by decide)]; show _ = s_rem σ e (8 + c); rw [u _ (by omega) (by omega)]; exact g1 c hc
  · rw [z] at hi
    show V' 3 i = s_rem σ e (20 + 4 * i) ∧ V' 4 i = s_rem σ e (20 + 4 * i + 1) ∧ V' 5 i = s_rem σ e (20 + 4 * i + 2)
    rw [h3, h4, h5]
    by_cases c : e ≤ i
    · have := g2 (i + 1) (by omega)
      rw [w _ (by omega), w _ (by omega), w _ (by omega)]
      unfold gapt
      rw [if_pos (by omega), if_pos (by omega), if_pos (by omega)]
      exact this
    · have := g2 i (by omega)
      rw [u _ (by omega) (by omega), u _ (by omega) (by omega), u _ (by omega) (by omega)]
      unfold gapt
      rw [if_neg (by omega), if_neg (by omega), if_neg (by omega)]
      exact this
  · rw [u 1 (by decide) (by omega)] at hp
    rw [hF _ (by decide), hF _ (by decide)]
    show _ = s_rem σ e (48 + 2 * p) ∧ _ = s_rem σ e (48 + 2 * p + 1)
    rw [u _ (by omega) (by omega), u _ (by omega) (by omega)]
    exact g3 p hp
  · rw [h1, up_self, z]
  · rw [h1, up_ne (by decide), u _ (by decide) (by omega)]; exact e7
  · rw [h1, up_ne (by decide), u _ (by decide) (by omega)]; exact e8
  · rw [h1, up_ne (by decide), u _ (by decide) (by omega)]; exact e9
  · rw [h1, up_ne (by decide), u _ (by decide) (by omega)]; exact e10
  · rw [h1, up_ne (by decide), u _ (by decide) (by omega)]; exact e11
  · rw [h1, up_ne (by decide), u _ (by decide) (by omega)]; exact e12
  · rw [h1, up_ne (by decide), u _ (by decide) (by omega)]; exact e13
  · rw [h1, up_ne (by decide), u _ (by decide) (by omega)]; exact e14
  · rw [z, u _ (by decide) (by omega)]; omega
theorem Sh_drop {V V' : ia_H} {σ : Nat → Int} {e n : Nat} (h : Sh 1 V σ) (hn : σ 1 = (n : Int)) (he : e < n) (h1 : V' 1 = up (V 1) 7 (σ 1 - 1)) (h3 : V' 6 = gapt (V 6) e (n - 1) 1) (h4 : V' 7 = gapt (V 7) e (n - 1) 1) (hF : ∀ p, p ∉ ([1, 6, 7] : List Nat) → V' p = V p) : Sh 1 V' (s_drop σ e) := by
  obtain ⟨g1, g2, g3, e6, e7, e8, e9, e10, e11, e12, e13, e14, bd⟩ := h
  have t0 : (σ 1 - 1).toNat = n - 1 := by omega
  have u : ∀ j : Nat, j ≠ 1 → (j < 48 + 2 * e ∨ 48 + 2 * (n - 1) ≤ j) → s_drop σ e j = σ j := fun j hj hr => by
    unfold s_drop
    rw [t0]
    show (if 48 + 2 * e ≤ j ∧ j < 48 + 2 * (n - 1) then _ else up σ 1 (σ 1 - 1) j) = _
    rw [if_neg (by omega), up_ne hj]
  have w : ∀ j : Nat, 48 + 2 * e ≤ j ∧ j < 48 + 2 * (n - 1) → s_drop σ e j = σ (j + 2) := fun j hr => by
    unfold s_drop
    rw [t0]
    show (if 48 + 2 * e ≤ j ∧ j < 48 + 2 * (n - 1) then up σ 1 (σ 1 - 1) (j + 2) else _) = _
    rw [if_pos hr, up_ne (by omega)]
  have z : s_drop σ e 1 = σ 1 - 1 := by
    unfold s_drop
    show (if 48 + 2 * e ≤ 1 ∧ 1 < 48 + 2 * (σ 1 - 1).toNat then _ else up σ 1 (σ 1 - 1) 1) = _
    rw [if_neg (by omega), up_self]
  refine ⟨fun c hc => ?_, fun i hi => ?_, fun p hp => ?_, ?_, ?_, ?_, ?_, ?_, ?_, ?_, ?_, ?_, ?_⟩
  · rw [hF _ (by decide)]; show _ = s_drop σ e (8 + c); rw [u _ (by omega) (by omega)]; exact g1 c hc
  · rw [u 0 (by decide) (by omega)] at hi
    rw [hF _ (by decide), hF _ (by decide), hF _ (by decide)]
    show _ = s_drop σ e (20 + 4 * i) ∧ _ = s_drop σ e (20 + 4 * i + 1) ∧ _ = s_drop σ e (20 + 4 * i + 2)
    rw [u _ (by omega) (by omega), u _ (by omega) (by omega), u _ (by omega) (by omega)]
    exact g2 i hi
  · rw [z] at hp
    show V' 6 p = s_drop σ e (48 + 2 * p) ∧ V' 7 p = s_drop σ e (48 + 2 * p + 1)
    rw [h3, h4]
    by_cases c : e ≤ p
    · have := g3 (p + 1) (by omega)
      rw [w _ (by omega), w _ (by omega)]
      unfold gapt
      rw [if_pos (by omega), if_pos (by omega)]
      exact this
    · have := g3 p (by omega)
      rw [u _ (by omega) (by omega), u _ (by omega) (by omega)]
      unfold gapt
      rw [if_neg (by omega), if_neg (by omega)]
      exact this
  · rw [h1, up_ne (by decide), u _ (by decide) (by omega)]; exact e6
  · rw [h1, up_self, z]
  · rw [h1, up_ne (by decide), u _ (by decide) (by omega)]; exact e8
  · rw [h1, up_ne (by decide), u _ (by decide) (by omega)]; exact e9
  · rw [h1, up_ne (by decide), u _ (by decide) (by omega)]; exact e10
  · rw [h1, up_ne (by decide), u _ (by decide) (by omega)]; exact e11
  · rw [h1, up_ne (by decide), u _ (by decide) (by omega)]; exact e12
  · rw [h1, up_ne (by decide), u _ (by decide) (by omega)]; exact e13
  · rw [h1, up_ne (by decide), u _ (by decide) (by omega)]; exact e14
  · rw [z, u _ (by decide) (by omega)]; omega
theorem up_comm {f : Nat → Int} {i j : Nat} {x y : Int} (h : i ≠ j) : up (up f i x) j y = up (up f j y) i x := by
  funext a
  unfold up
  by_cases h1 : a = i
  · by_cases h2 : a = j
    · exact absurd (h1.symm.trans h2) h
    · rw [if_neg h2, if_pos h1, if_pos h1]
  · by_cases h2 : a = j
    · rw [if_pos h2, if_neg h1, if_pos h2]
    · rw [if_neg h2, if_neg h1, if_neg h1, if_neg h2]
theorem s_print_c {σ : Nat → Int} {e : Nat} {n : Int} (hc : 0 ≤ col σ e ∧ col σ e ≤ 9) : s_print σ e n = up (up (up (up (up (up σ 5 (σ 5 + (wash (σ 4) (col σ e) + n))) 4 (col σ e)) (20 + 4 * e + 2) (prt σ e + n)) 2 (σ 2 - n)) (8 + (col σ e).toNat) (wel σ (col σ e).toNat - n)) 7 (σ 7 + n) := by
  unfold s_print
  rw [up_comm (i := 20 + 4 * e + 2) (j := 2) (by omega), up_comm (i := 20 + 4 * e + 2) (j := 8 + (col σ e).toNat) (by omega), up_comm (i := 20 + 4 * e + 2) (j := 7) (by omega)]
/-- a copied shop -/
theorem Sh_copy {b b' : Nat} {V V' : ia_H} {σ : Nat → Int} (h : Sh b V σ) (e1 : V' (b' + 1) = mgk 10 (V (b + 1)) (V (b' + 1))) (e2 : V' (b' + 2) = mgk 7 (V (b + 2)) (V (b' + 2))) (e3 : V' (b' + 3) = mgk 7 (V (b + 3)) (V (b' + 3))) (e4 : V' (b' + 4) = mgk 7 (V (b + 4)) (V (b' + 4))) (e5 : V' (b' + 5) = mgk 12 (V (b + 5)) (V (b' + 5))) (e6 : V' (b' + 6) = mgk 12 (V (b + 6)) (V (b' + 6)))
    (e0 : ∀ k : Nat, 6 ≤ k → k ≤ 14 → V' b' k = V b k) : Sh b' V' σ := by
  obtain ⟨g1, g2, g3, f6, f7, f8, f9, f10, f11, f12, f13, f14, bd⟩ := h
  refine ⟨fun c hc => ?_, fun e he => ?_, fun p hp => ?_, ?_, ?_, ?_, ?_, ?_, ?_, ?_, ?_, ?_, bd⟩
  · rw [e1, mgk_lt hc]; exact g1 c hc
  · rw [e2, e3, e4, mgk_lt (by omega), mgk_lt (by omega), mgk_lt (by omega)]; exact g2 e he
  · rw [e5, e6, mgk_lt (by omega), mgk_lt (by omega)]; exact g3 p hp
  · rw [e0 _ (by decide) (by decide)]; exact f6
  · rw [e0 _ (by decide) (by decide)]; exact f7
  · rw [e0 _ (by decide) (by decide)]; exact f8
  · rw [e0 _ (by decide) (by decide)]; exact f9
  · rw [e0 _ (by decide) (by decide)]; exact f10
  · rw [e0 _ (by decide) (by decide)]; exact f11
  · rw [e0 _ (by decide) (by decide)]; exact f12
  · rw [e0 _ (by decide) (by decide)]; exact f13
  · rw [e0 _ (by decide) (by decide)]; exact f14
theorem Sh_ext {b : Nat} {V : ia_H} {σ τ : Nat → Int} (h : Sh b V σ) (e : ∀ j : Nat, j < 72 → τ j = σ j) : Sh b V τ := by
  obtain ⟨g1, g2, g3, f6, f7, f8, f9, f10, f11, f12, f13, f14, bd⟩ := h
  have z0 := e 0 (by decide)
  have z1 := e 1 (by decide)
  refine ⟨fun c hc => ?_, fun i hi => ?_, fun p hp => ?_, ?_, ?_, ?_, ?_, ?_, ?_, ?_, ?_, ?_, by rw [z0, z1]; exact bd⟩
  · show _ = τ (8 + c); rw [e _ (by omega)]; exact g1 c hc
  · rw [z0] at hi
    show _ = τ (20 + 4 * i) ∧ _ = τ (20 + 4 * i + 1) ∧ _ = τ (20 + 4 * i + 2)
    rw [e _ (by omega), e _ (by omega), e _ (by omega)]; exact g2 i hi
  · rw [z1] at hp
    show _ = τ (48 + 2 * p) ∧ _ = τ (48 + 2 * p + 1)
    rw [e _ (by omega), e _ (by omega)]; exact g3 p hp
  · rw [z0]; exact f6
  · rw [z1]; exact f7
  · rw [e _ (by decide)]; exact f8
  · rw [e _ (by decide)]; exact f9
  · rw [e _ (by decide)]; exact f10
  · rw [e _ (by decide)]; exact f11
  · rw [e _ (by decide)]; exact f12
  · rw [e _ (by decide)]; exact f13
  · rw [e _ (by decide)]; exact f14
