/-! the shop's rows, changed one at a time (made by hand) -/
section SHT
variable {V : ia_H} {σ : Nat → Int}
theorem ia_u_eq {V : ia_H} {p k : Nat} {x : Int} {a j : Nat} : ia_u V p k x a j = if a = p ∧ j = k then x else V a j := rfl
theorem up_eq {f : Nat → Int} {k : Nat} {x : Int} {j : Nat} : up f k x j = if j = k then x else f j := rfl
theorem Sh_any {p k j : Nat} {x : Int} (h : Sh 1 V σ) (hj : j ≠ 0 ∧ j ≠ 1)
    (h1 : ∀ c : Nat, c < 10 → (2 = p ∧ c = k ↔ 8 + c = j))
    (h2 : ∀ e : Nat, (e : Int) < σ 0 → (3 = p ∧ e = k ↔ 20 + 4 * e = j) ∧ (4 = p ∧ e = k ↔ 20 + 4 * e + 1 = j) ∧ (5 = p ∧ e = k ↔ 20 + 4 * e + 2 = j))
    (h3 : ∀ e : Nat, (e : Int) < σ 1 → (6 = p ∧ e = k ↔ 48 + 2 * e = j) ∧ (7 = p ∧ e = k ↔ 48 + 2 * e + 1 = j))
    (h4 : (1 = p ∧ 6 = k ↔ 0 = j) ∧ (1 = p ∧ 7 = k ↔ 1 = j) ∧ (1 = p ∧ 8 = k ↔ 2 = j) ∧ (1 = p ∧ 9 = k ↔ 3 = j) ∧ (1 = p ∧ 10 = k ↔ 4 = j) ∧ (1 = p ∧ 11 = k ↔ 5 = j) ∧ (1 = p ∧ 12 = k ↔ 6 = j) ∧ (1 = p ∧ 13 = k ↔ 7 = j) ∧ (1 = p ∧ 14 = k ↔ 18 = j)) : Sh 1 (ia_u V p k x) (up σ j x) := by
  obtain ⟨g1, g2, g3, e6, e7, e8, e9, e10, e11, e12, e13, e14, bd⟩ := h
  obtain ⟨k6, k7, k8, k9, k10, k11, k12, k13, k14⟩ := h4
  have key : ∀ {a b i : Nat}, V a b = σ i → (a = p ∧ b = k ↔ i = j) → ia_u V p k x a b = up σ j x i := fun {a b i} e hh => by
    rw [ia_u_eq, up_eq]
    by_cases c : i = j
    · rw [if_pos c, if_pos (hh.mpr c)]
    · rw [if_neg c, if_neg (fun q => c (hh.mp q)), e]
  have u0 : up σ j x 0 = σ 0 := up_ne (fun e => hj.1 e.symm)
  have u1 : up σ j x 1 = σ 1 := up_ne (fun e => hj.2 e.symm)
  refine ⟨fun c hc => key (g1 c hc) (h1 c hc), fun e he => ?_, fun e he => ?_, key e6 k6, key e7 k7, key e8 k8, key e9 k9, key e10 k10, key e11 k11, key e12 k12, key e13 k13, key e14 k14, by rw [u0, u1]; exact bd⟩
  · rw [u0] at he
    exact ⟨key (g2 e he).1 (h2 e he).1, key (g2 e he).2.1 (h2 e he).2.1, key (g2 e he).2.2 (h2 e he).2.2⟩
  · rw [u1] at he
    exact ⟨key (g3 e he).1 (h3 e he).1, key (g3 e he).2 (h3 e he).2⟩
theorem Sh_w {k : Nat} {x : Int} (h : Sh 1 V σ) (hk : k < 10) : Sh 1 (ia_u V 2 k x) (up σ (8 + k) x) :=
  have hb := h.bd
  Sh_any h (by omega) (fun c hc => by omega) (fun e he => by omega) (fun e he => by omega) (by omega)
theorem Sh_c {k : Nat} {x : Int} (h : Sh 1 V σ) (hk : k < 7) : Sh 1 (ia_u V 3 k x) (up σ (20 + 4 * k) x) :=
  have hb := h.bd
  Sh_any h (by omega) (fun c hc => by omega) (fun e he => by omega) (fun e he => by omega) (by omega)
theorem Sh_r {k : Nat} {x : Int} (h : Sh 1 V σ) (hk : k < 7) : Sh 1 (ia_u V 4 k x) (up σ (20 + 4 * k + 1) x) :=
  have hb := h.bd
  Sh_any h (by omega) (fun c hc => by omega) (fun e he => by omega) (fun e he => by omega) (by omega)
theorem Sh_p {k : Nat} {x : Int} (h : Sh 1 V σ) (hk : k < 7) : Sh 1 (ia_u V 5 k x) (up σ (20 + 4 * k + 2) x) :=
  have hb := h.bd
  Sh_any h (by omega) (fun c hc => by omega) (fun e he => by omega) (fun e he => by omega) (by omega)
theorem Sh_m {k : Nat} {x : Int} (h : Sh 1 V σ) (hk : k < 12) : Sh 1 (ia_u V 6 k x) (up σ (48 + 2 * k) x) :=
  have hb := h.bd
  Sh_any h (by omega) (fun c hc => by omega) (fun e he => by omega) (fun e he => by omega) (by omega)
theorem Sh_h {k : Nat} {x : Int} (h : Sh 1 V σ) (hk : k < 12) : Sh 1 (ia_u V 7 k x) (up σ (48 + 2 * k + 1) x) :=
  have hb := h.bd
  Sh_any h (by omega) (fun c hc => by omega) (fun e he => by omega) (fun e he => by omega) (by omega)
theorem Sh_s8 {x : Int} (h : Sh 1 V σ) : Sh 1 (ia_u V 1 8 x) (up σ 2 x) :=
  have hb := h.bd
  Sh_any h (by omega) (fun c hc => by omega) (fun e he => by omega) (fun e he => by omega) (by omega)
theorem Sh_s9 {x : Int} (h : Sh 1 V σ) : Sh 1 (ia_u V 1 9 x) (up σ 3 x) :=
  have hb := h.bd
  Sh_any h (by omega) (fun c hc => by omega) (fun e he => by omega) (fun e he => by omega) (by omega)
theorem Sh_s10 {x : Int} (h : Sh 1 V σ) : Sh 1 (ia_u V 1 10 x) (up σ 4 x) :=
  have hb := h.bd
  Sh_any h (by omega) (fun c hc => by omega) (fun e he => by omega) (fun e he => by omega) (by omega)
theorem Sh_s11 {x : Int} (h : Sh 1 V σ) : Sh 1 (ia_u V 1 11 x) (up σ 5 x) :=
  have hb := h.bd
  Sh_any h (by omega) (fun c hc => by omega) (fun e he => by omega) (fun e he => by omega) (by omega)
theorem Sh_s12 {x : Int} (h : Sh 1 V σ) : Sh 1 (ia_u V 1 12 x) (up σ 6 x) :=
  have hb := h.bd
  Sh_any h (by omega) (fun c hc => by omega) (fun e he => by omega) (fun e he => by omega) (by omega)
theorem Sh_s13 {x : Int} (h : Sh 1 V σ) : Sh 1 (ia_u V 1 13 x) (up σ 7 x) :=
  have hb := h.bd
  Sh_any h (by omega) (fun c hc => by omega) (fun e he => by omega) (fun e he => by omega) (by omega)
theorem Sh_s14 {x : Int} (h : Sh 1 V σ) : Sh 1 (ia_u V 1 14 x) (up σ 18 x) :=
  have hb := h.bd
  Sh_any h (by omega) (fun c hc => by omega) (fun e he => by omega) (fun e he => by omega) (by omega)
end SHT
/-- the places of the states that can come back -/
theorem zhA {Z : ia_Z} (h : ZI Z) (j : Nat) (hj : j < 9) (k q l : Nat) (hk : k < 7) (e : ∀ i : Nat, i < 9 → kdL.getD (17 + 7 * i + k) 0 = q ∧ lnL.getD (17 + 7 * i + k) 0 = l) : 17 + 7 * j + k < Z.2.2 ∧ Z.1 (17 + 7 * j + k) = q ∧ Z.2.1 (17 + 7 * j + k) = l := by
  have h1 := h.1
  have h2 := h.2.2 (17 + 7 * j + k) (by omega)
  exact ⟨by omega, h2.1.trans (e j hj).1, h2.2.trans (e j hj).2⟩
theorem zh {Z : ia_Z} (h : ZI Z) (j : Nat) (hj : j < 9) : 17 + 7 * j < Z.2.2 ∧ Z.1 (17 + 7 * j) = 19 ∧ Z.2.1 (17 + 7 * j) = 0 := zhA h j hj 0 19 0 (by decide) (by decide)
theorem zh0 {Z : ia_Z} (h : ZI Z) (j : Nat) (hj : j < 9) : 17 + 7 * j + 1 + 0 < Z.2.2 ∧ Z.1 (17 + 7 * j + 1 + 0) = 0 ∧ Z.2.1 (17 + 7 * j + 1 + 0) = 10 := zhA h j hj 1 0 10 (by decide) (by decide)
theorem zh1 {Z : ia_Z} (h : ZI Z) (j : Nat) (hj : j < 9) : 17 + 7 * j + 1 + 1 < Z.2.2 ∧ Z.1 (17 + 7 * j + 1 + 1) = 0 ∧ Z.2.1 (17 + 7 * j + 1 + 1) = 7 := zhA h j hj 2 0 7 (by decide) (by decide)
theorem zh2 {Z : ia_Z} (h : ZI Z) (j : Nat) (hj : j < 9) : 17 + 7 * j + 1 + 2 < Z.2.2 ∧ Z.1 (17 + 7 * j + 1 + 2) = 0 ∧ Z.2.1 (17 + 7 * j + 1 + 2) = 7 := zhA h j hj 3 0 7 (by decide) (by decide)
theorem zh3 {Z : ia_Z} (h : ZI Z) (j : Nat) (hj : j < 9) : 17 + 7 * j + 1 + 3 < Z.2.2 ∧ Z.1 (17 + 7 * j + 1 + 3) = 0 ∧ Z.2.1 (17 + 7 * j + 1 + 3) = 7 := zhA h j hj 4 0 7 (by decide) (by decide)
theorem zh4 {Z : ia_Z} (h : ZI Z) (j : Nat) (hj : j < 9) : 17 + 7 * j + 1 + 4 < Z.2.2 ∧ Z.1 (17 + 7 * j + 1 + 4) = 0 ∧ Z.2.1 (17 + 7 * j + 1 + 4) = 12 := zhA h j hj 5 0 12 (by decide) (by decide)
theorem zh5 {Z : ia_Z} (h : ZI Z) (j : Nat) (hj : j < 9) : 17 + 7 * j + 1 + 5 < Z.2.2 ∧ Z.1 (17 + 7 * j + 1 + 5) = 0 ∧ Z.2.1 (17 + 7 * j + 1 + 5) = 12 := zhA h j hj 6 0 12 (by decide) (by decide)
theorem ptr_h (j k : Nat) (hj : j < 9) (hk : k < 6) : ptr (17 + 7 * j) k = some (17 + 7 * j + 1 + k) := by
  unfold ptr
  rw [if_pos (by omega), if_pos (by omega)]
theorem ptr_16 (j : Nat) (hj : j < 9) : ptr 16 j = some (17 + 7 * j) := if_pos hj
theorem jaq {X : ia_X} {own : String} {cc : ByteArray} {nL d mc ms cells slots pc : Nat} {ls st : List (Nat × Int)} {Z : ia_Z} {V : ia_H} (F : ia_Fix X own cc nL d mc ms) {x v : Int} {q L : Nat} (z : q < Z.2.2 ∧ Z.1 q = 4 ∧ Z.2.1 q = L) (i : Nat) (hi : x = (i : Int)) (hin : i < L) (hv : V q i = v) (dg : decode cc pc = .ok (.aaload, 1)) (kk : ia_G X cells slots (pc + 1) ls ((4, v) :: st) Z V) : ia_G X cells slots pc ls ((0, x) :: (4, (q : Int)) :: st) Z V :=
  ia_aaload4 F q i rfl hi z.1 z.2.1 (by rw [z.2.2]; exact hin) hv dg kk
