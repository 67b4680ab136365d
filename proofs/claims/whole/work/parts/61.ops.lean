/-! a command by its kind, both sides (made by wip/whole/ops.py) -/
/-! a command by its kind (made by wip/whole/ops.py) -/
def opB (k : Nat) (a b : Int) (σ : Nat → Int) : Prop := match k with
  | 0 => (¬ ((0 ≤ a ∧ a ≤ 9) ∧ 1 ≤ b ∧ b ≤ 999)) ∨ 999 < wel σ a.toNat + b
  | 1 => (¬ (1 ≤ a ∧ a ≤ 999)) ∨ 9999 < σ 2 + a
  | 2 => (¬ ((0 ≤ a ∧ a ≤ 9) ∧ 1 ≤ b ∧ b ≤ 50)) ∨ σ 0 = 7
  | 3 => ¬ (0 ≤ a ∧ a < σ 0)
  | 4 => (¬ (0 ≤ a ∧ a < σ 0)) ∨ miss σ a.toNat = 0 ∨ σ 2 = 0 ∨ wel σ (col σ a.toNat).toNat = 0
  | 5 => False
  | 6 => ¬ (1 ≤ a ∧ a ≤ 48)
  | 7 => (¬ (0 ≤ a ∧ a ≤ 99)) ∨ σ 1 = 12
  | _ => ¬ (0 ≤ a ∧ a < σ 1)
def opS (k : Nat) (a b : Int) (σ : Nat → Int) : Nat → Int := match k with
  | 0 => s_pour σ a.toNat b
  | 1 => s_buy σ a
  | 2 => s_add σ a b
  | 3 => s_rem σ a.toNat
  | 4 => s_print σ a.toNat (min (miss σ a.toNat) (min (σ 2) (wel σ (col σ a.toNat).toNat)))
  | 5 => s_all σ
  | 6 => s_pass σ a.toNat
  | 7 => s_prove σ a
  | _ => s_drop σ a.toNat
def opR (k : Nat) (a b : Int) (σ : Nat → Int) : Int := match k with
  | 0 => wel σ a.toNat + b
  | 1 => σ 2 + a
  | 2 => σ 0
  | 3 => σ 0 - 1
  | 4 => min (miss σ a.toNat) (min (σ 2) (wel σ (col σ a.toNat).toNat))
  | 5 => n_all σ
  | 6 => lostN σ a.toNat
  | 7 => σ 1
  | _ => σ 1 - 1
/-- the state after the first j commands -/
def opN (K : Nat → Nat) (A B : Nat → Int) (σ : Nat → Int) : Nat → Nat → Int
  | 0 => σ
  | j + 1 => opS (K j) (A j) (B j) (opN K A B σ j)
section OPS
variable {k : Nat} {a b m : Int} {σ : Nat → Int}
theorem SI_op (hk : k < 9) (h : SI σ m) (hm : m + 1 ≤ 20000) (hB : ¬ opB k a b σ) : SI (opS k a b σ) (m + 1) := by
  obtain ⟨s0, s1, s2, s3, s4, s5, s6, s7, s18, sb, sw, se, sp⟩ := id h
  rcases (show k = 0 ∨ k = 1 ∨ k = 2 ∨ k = 3 ∨ k = 4 ∨ k = 5 ∨ k = 6 ∨ k = 7 ∨ k = 8 by omega) with rfl | rfl | rfl | rfl | rfl | rfl | rfl | rfl | rfl
  · have g : ¬ ((¬ ((0 ≤ a ∧ a ≤ 9) ∧ 1 ≤ b ∧ b ≤ 999)) ∨ 999 < wel σ a.toNat + b) := hB
    have r := sw a.toNat
    exact SI_pour (by omega) (by omega) (by omega) h hm
  · have g : ¬ ((¬ (1 ≤ a ∧ a ≤ 999)) ∨ 9999 < σ 2 + a) := hB
    exact SI_buy (by omega) (by omega) h hm
  · have g : ¬ ((¬ ((0 ≤ a ∧ a ≤ 9) ∧ 1 ≤ b ∧ b ≤ 50)) ∨ σ 0 = 7) := hB
    exact SI_add (by omega) (by omega) (by omega) h hm
  · have g : ¬ (¬ (0 ≤ a ∧ a < σ 0)) := hB
    exact SI_rem (by omega) h hm
  · have g : ¬ ((¬ (0 ≤ a ∧ a < σ 0)) ∨ miss σ a.toNat = 0 ∨ σ 2 = 0 ∨ wel σ (col σ a.toNat).toNat = 0) := hB
    have r := se a.toNat (by omega)
    have w := sw (col σ a.toNat).toNat (by omega)
    have e : miss σ a.toNat = run σ a.toNat - prt σ a.toNat := rfl
    exact SI_print (m := m) (by omega) ⟨by omega, by omega, by omega, by omega⟩ (by omega) ⟨by omega, hm⟩ h
  · exact SI_all h hm
  · have g : ¬ (¬ (1 ≤ a ∧ a ≤ 48)) := hB
    exact SI_pass (by omega) h hm
  · have g : ¬ ((¬ (0 ≤ a ∧ a ≤ 99)) ∨ σ 1 = 12) := hB
    exact SI_prove (by omega) (by omega) h hm
  · have g : ¬ (¬ (0 ≤ a ∧ a < σ 1)) := hB
    exact SI_drop (by omega) h hm
theorem opR_rng (hk : k < 9) (h : SI σ m) (hm : m + 1 ≤ 20000) (hB : ¬ opB k a b σ) : 0 ≤ opR k a b σ ∧ opR k a b σ ≤ 20000 := by
  obtain ⟨s0, s1, s2, s3, s4, s5, s6, s7, s18, sb, sw, se, sp⟩ := id h
  rcases (show k = 0 ∨ k = 1 ∨ k = 2 ∨ k = 3 ∨ k = 4 ∨ k = 5 ∨ k = 6 ∨ k = 7 ∨ k = 8 by omega) with rfl | rfl | rfl | rfl | rfl | rfl | rfl | rfl | rfl
  · have g : ¬ ((¬ ((0 ≤ a ∧ a ≤ 9) ∧ 1 ≤ b ∧ b ≤ 999)) ∨ 999 < wel σ a.toNat + b) := hB
    have r := sw a.toNat (by omega)
    show 0 ≤ wel σ a.toNat + b ∧ wel σ a.toNat + b ≤ 20000
    omega
  · have g : ¬ ((¬ (1 ≤ a ∧ a ≤ 999)) ∨ 9999 < σ 2 + a) := hB
    show 0 ≤ σ 2 + a ∧ σ 2 + a ≤ 20000
    omega
  · show 0 ≤ σ 0 ∧ σ 0 ≤ 20000
    omega
  · have g : ¬ (¬ (0 ≤ a ∧ a < σ 0)) := hB
    show 0 ≤ σ 0 - 1 ∧ σ 0 - 1 ≤ 20000
    omega
  · have g : ¬ ((¬ (0 ≤ a ∧ a < σ 0)) ∨ miss σ a.toNat = 0 ∨ σ 2 = 0 ∨ wel σ (col σ a.toNat).toNat = 0) := hB
    have r := se a.toNat (by omega)
    have w := sw (col σ a.toNat).toNat (by omega)
    have e : miss σ a.toNat = run σ a.toNat - prt σ a.toNat := rfl
    show 0 ≤ min (miss σ a.toNat) (min (σ 2) (wel σ (col σ a.toNat).toNat)) ∧ min (miss σ a.toNat) (min (σ 2) (wel σ (col σ a.toNat).toNat)) ≤ 20000
    omega
  · have r := n_all_rng h hm
    show 0 ≤ n_all σ ∧ n_all σ ≤ 20000
    omega
  · have r := lostN_rng sw a.toNat
    show 0 ≤ lostN σ a.toNat ∧ lostN σ a.toNat ≤ 20000
    omega
  · show 0 ≤ σ 1 ∧ σ 1 ≤ 20000
    omega
  · have g : ¬ (¬ (0 ≤ a ∧ a < σ 1)) := hB
    show 0 ≤ σ 1 - 1 ∧ σ 1 - 1 ≤ 20000
    omega
theorem SI_opN {K : Nat → Nat} {A B : Nat → Int} (hK : ∀ i : Nat, K i < 9) (h : SI σ m) : ∀ j : Nat, m + (j : Int) ≤ 20000 → (∀ i : Nat, i < j → ¬ opB (K i) (A i) (B i) (opN K A B σ i)) → SI (opN K A B σ j) (m + (j : Int))
  | 0, _, _ => by
    rw [show m + ((0 : Nat) : Int) = m by omega]
    exact h
  | j + 1, hm, hB => by
    have ih := SI_opN hK h j (by omega) (fun i hi => hB i (by omega))
    rw [show m + ((j + 1 : Nat) : Int) = m + (j : Int) + 1 by omega]
    exact SI_op (hK j) ih (by omega) (hB j (Nat.lt_succ_self j))
end OPS
theorem nn_ {p : Prop} (h : p) : ¬ ¬ p := fun g => g h
theorem SB_rng {b n q L : Nat} {Z : ia_Z} {V : ia_H} {t : Nat → Int} (h : SB b Z V n t q L) : ∀ i : Nat, i < n → 0 ≤ t i ∧ t i ≤ 126 := fun i hi => by
  obtain ⟨z1, z2, e0, e1, e3, hn, ht, hr, hx⟩ := h
  rw [← ht i hi]
  exact hr i (by omega)
theorem Sh_BX {b k q : Nat} {Z Z' : ia_Z} {V V' : ia_H} {σ : Nat → Int} (hS : Sh 1 V σ) (h : BX b k Z V Z' V') (hZ : ZI Z) (hb : b = 92 ∨ b = 97) (hq : V b 0 = (q : Int)) (hqq : q = b + 1 ∨ 116 ≤ q) : Sh 1 V' σ :=
  Sh_mv hS (fun p h1 h2 => BX_fr h hZ hb hq hqq (by omega) (by omega))
set_option maxRecDepth 100000 in
theorem c_X7_carryOut_g {Z : ia_Z} {V : ia_H} {Q : ia_O → ia_Z → ia_H → Prop} {σ : Nat → Int} {m : Int} (k : Nat) (a b : Int) (hZ : ZI Z) (hP : PI V) (hS : Sh 1 V σ) (hI : SI σ m) (hk : k < 9) (hm : m + 1 ≤ 20000) (ra : -2147483648 ≤ a ∧ a ≤ 2147483647) (rb : -2147483648 ≤ b ∧ b ≤ 2147483647) (q1 : ∀ r : Int, -4 ≤ r ∧ r < 0 → ¬ ¬ opB k a b σ → Q (.inl (some (0, r))) Z V) (q2 : ∀ V1 : ia_H, ¬ opB k a b σ → PI V1 → (∀ pp, pp ∉ ([1, 2, 3, 4, 5, 6, 7, 80, 81, 82, 83, 84, 86] : List Nat) → V1 pp = V pp) → Sh 1 V1 (opS k a b σ) → Q (.inl (some (0, opR k a b σ))) Z V1) : ia_K yX7_carryOut cX7_carryOut 4 (some .int) [(4, ((0 : Nat) : Int)), (4, ((ia_E0 + k : Nat) : Int)), (0, a), (0, b)] Z V 7 0 0 Q := by
  rcases (show k = 0 ∨ k = 1 ∨ k = 2 ∨ k = 3 ∨ k = 4 ∨ k = 5 ∨ k = 6 ∨ k = 7 ∨ k = 8 by omega) with rfl | rfl | rfl | rfl | rfl | rfl | rfl | rfl | rfl
  · exact c_X7_carryOut_0 a b hZ hP hS hI ra rb (fun c0 => q1 _ (by decide) (nn_ (show (¬ ((0 ≤ a ∧ a ≤ 9) ∧ 1 ≤ b ∧ b ≤ 999)) ∨ 999 < wel σ a.toNat + b from by omega))) (fun c0 c1 => q1 _ (by decide) (nn_ (show (¬ ((0 ≤ a ∧ a ≤ 9) ∧ 1 ≤ b ∧ b ≤ 999)) ∨ 999 < wel σ a.toNat + b from by omega))) (fun V1 c0 c1 p f s => q2 V1 (fun e => by have e : (¬ ((0 ≤ a ∧ a ≤ 9) ∧ 1 ≤ b ∧ b ≤ 999)) ∨ 999 < wel σ a.toNat + b := e; omega) p (fun pp hp => f pp (by simp at hp ⊢; omega)) s)
  · exact c_X7_carryOut_1 a b hZ hP hS hI ra (fun c0 => q1 _ (by decide) (nn_ (show (¬ (1 ≤ a ∧ a ≤ 999)) ∨ 9999 < σ 2 + a from by omega))) (fun c0 c1 => q1 _ (by decide) (nn_ (show (¬ (1 ≤ a ∧ a ≤ 999)) ∨ 9999 < σ 2 + a from by omega))) (fun V1 c0 c1 p f s => q2 V1 (fun e => by have e : (¬ (1 ≤ a ∧ a ≤ 999)) ∨ 9999 < σ 2 + a := e; omega) p (fun pp hp => f pp (by simp at hp ⊢; omega)) s)
  · exact c_X7_carryOut_2 a b hZ hP hS hI ra rb (fun c0 => q1 _ (by decide) (nn_ (show (¬ ((0 ≤ a ∧ a ≤ 9) ∧ 1 ≤ b ∧ b ≤ 50)) ∨ σ 0 = 7 from by omega))) (fun c0 c1 => q1 _ (by decide) (nn_ (show (¬ ((0 ≤ a ∧ a ≤ 9) ∧ 1 ≤ b ∧ b ≤ 50)) ∨ σ 0 = 7 from by omega))) (fun V1 c0 c1 p f s => q2 V1 (fun e => by have e : (¬ ((0 ≤ a ∧ a ≤ 9) ∧ 1 ≤ b ∧ b ≤ 50)) ∨ σ 0 = 7 := e; omega) p (fun pp hp => f pp (by simp at hp ⊢; omega)) s)
  · exact c_X7_carryOut_3 a b hZ hP hS hI ra (fun c0 => q1 _ (by decide) (nn_ (show ¬ (0 ≤ a ∧ a < σ 0) from by omega))) (fun V1 c0 p f s => q2 V1 (fun e => by have e : ¬ (0 ≤ a ∧ a < σ 0) := e; omega) p (fun pp hp => f pp (by simp at hp ⊢; omega)) s)
  · exact c_X7_carryOut_4 a b hZ hP hS hI ra (fun c0 => q1 _ (by decide) (nn_ (show (¬ (0 ≤ a ∧ a < σ 0)) ∨ miss σ a.toNat = 0 ∨ σ 2 = 0 ∨ wel σ (col σ a.toNat).toNat = 0 from by omega))) (fun c0 c1 => q1 _ (by decide) (nn_ (show (¬ (0 ≤ a ∧ a < σ 0)) ∨ miss σ a.toNat = 0 ∨ σ 2 = 0 ∨ wel σ (col σ a.toNat).toNat = 0 from by omega))) (fun c0 c1 c2 => q1 _ (by decide) (nn_ (show (¬ (0 ≤ a ∧ a < σ 0)) ∨ miss σ a.toNat = 0 ∨ σ 2 = 0 ∨ wel σ (col σ a.toNat).toNat = 0 from by omega))) (fun n V1 c0 c1 c2 c3 p f s => by subst c3; exact q2 V1 (fun e => by have e : (¬ (0 ≤ a ∧ a < σ 0)) ∨ miss σ a.toNat = 0 ∨ σ 2 = 0 ∨ wel σ (col σ a.toNat).toNat = 0 := e; omega) p (fun pp hp => f pp (by simp at hp ⊢; omega)) s)
  · exact c_X7_carryOut_5 a b hZ hP hS hI (rfl : V 80 = V 80) (rfl : V 81 = V 81) (rfl : V 82 = V 82) (rfl : V 83 = V 83) (rfl : V 84 = V 84) (rfl : V 86 = V 86) hm (fun V1  p f s => q2 V1 (fun e => e) p (fun pp hp => f pp (by simp at hp ⊢; omega)) s)
  · exact c_X7_carryOut_6 a b hZ hP hS hI ra (fun c0 => q1 _ (by decide) (nn_ (show ¬ (1 ≤ a ∧ a ≤ 48) from by omega))) (fun V1 c0 p f s => q2 V1 (fun e => by have e : ¬ (1 ≤ a ∧ a ≤ 48) := e; omega) p (fun pp hp => f pp (by simp at hp ⊢; omega)) s)
  · exact c_X7_carryOut_7 a b hZ hP hS hI ra (fun c0 => q1 _ (by decide) (nn_ (show (¬ (0 ≤ a ∧ a ≤ 99)) ∨ σ 1 = 12 from by omega))) (fun c0 c1 => q1 _ (by decide) (nn_ (show (¬ (0 ≤ a ∧ a ≤ 99)) ∨ σ 1 = 12 from by omega))) (fun V1 c0 c1 p f s => q2 V1 (fun e => by have e : (¬ (0 ≤ a ∧ a ≤ 99)) ∨ σ 1 = 12 := e; omega) p (fun pp hp => f pp (by simp at hp ⊢; omega)) s)
  · exact c_X7_carryOut_8 a b hZ hP hS hI ra (fun c0 => q1 _ (by decide) (nn_ (show ¬ (0 ≤ a ∧ a < σ 1) from by omega))) (fun V1 c0 p f s => q2 V1 (fun e => by have e : ¬ (0 ≤ a ∧ a < σ 1) := e; omega) p (fun pp hp => f pp (by simp at hp ⊢; omega)) s)
set_option maxRecDepth 100000 in
theorem c_X8_why_g {Z : ia_Z} {V : ia_H} {Q : ia_O → ia_Z → ia_H → Prop} {σ : Nat → Int} {μ : Nat → Int} {m : Int} (k : Nat) (a b : Int) (hZ : ZI Z) (hP : PI V) (hI : SI σ m) (h99 : V 99 = μ) (h100 : V 100 = σ) (hk : k < 9) (ra : -2147483648 ≤ a ∧ a ≤ 2147483647) (rb : -2147483648 ≤ b ∧ b ≤ 2147483647) (q1 : ∀ r : Int, 1 ≤ r ∧ r ≤ 3 → ¬ ¬ opB k a b σ → Q (.inl (some (0, r))) Z V) (q2 : ¬ opB k a b σ → Q (.inl (some (0, 0))) Z V) : ia_K yX8_why cX8_why 4 (some .int) [(4, ((99 : Nat) : Int)), (0, (k : Int)), (0, a), (0, b)] Z V 5 0 0 Q := by
  rcases (show k = 0 ∨ k = 1 ∨ k = 2 ∨ k = 3 ∨ k = 4 ∨ k = 5 ∨ k = 6 ∨ k = 7 ∨ k = 8 by omega) with rfl | rfl | rfl | rfl | rfl | rfl | rfl | rfl | rfl
  · exact c_X8_why_0 a b hZ hP hI h99 h100 ra rb (fun c0 => q1 _ (by decide) (nn_ (show (¬ ((0 ≤ a ∧ a ≤ 9) ∧ 1 ≤ b ∧ b ≤ 999)) ∨ 999 < wel σ a.toNat + b from by omega))) (fun c0 c1 => q1 _ (by decide) (nn_ (show (¬ ((0 ≤ a ∧ a ≤ 9) ∧ 1 ≤ b ∧ b ≤ 999)) ∨ 999 < wel σ a.toNat + b from by omega))) (fun c0 c1 => q2 (fun e => by have e : (¬ ((0 ≤ a ∧ a ≤ 9) ∧ 1 ≤ b ∧ b ≤ 999)) ∨ 999 < wel σ a.toNat + b := e; omega))
  · exact c_X8_why_1 a b hZ hP hI h99 h100 ra (fun c0 => q1 _ (by decide) (nn_ (show (¬ (1 ≤ a ∧ a ≤ 999)) ∨ 9999 < σ 2 + a from by omega))) (fun c0 c1 => q1 _ (by decide) (nn_ (show (¬ (1 ≤ a ∧ a ≤ 999)) ∨ 9999 < σ 2 + a from by omega))) (fun c0 c1 => q2 (fun e => by have e : (¬ (1 ≤ a ∧ a ≤ 999)) ∨ 9999 < σ 2 + a := e; omega))
  · exact c_X8_why_2 a b hZ hP hI h99 h100 ra rb (fun c0 => q1 _ (by decide) (nn_ (show (¬ ((0 ≤ a ∧ a ≤ 9) ∧ 1 ≤ b ∧ b ≤ 50)) ∨ σ 0 = 7 from by omega))) (fun c0 c1 => q1 _ (by decide) (nn_ (show (¬ ((0 ≤ a ∧ a ≤ 9) ∧ 1 ≤ b ∧ b ≤ 50)) ∨ σ 0 = 7 from by omega))) (fun c0 c1 => q2 (fun e => by have e : (¬ ((0 ≤ a ∧ a ≤ 9) ∧ 1 ≤ b ∧ b ≤ 50)) ∨ σ 0 = 7 := e; omega))
  · exact c_X8_why_3 a b hZ hP hI h99 h100 ra (fun c0 => q2 (fun e => by have e : ¬ (0 ≤ a ∧ a < σ 0) := e; omega)) (fun c0 => q1 _ (by decide) (nn_ (show ¬ (0 ≤ a ∧ a < σ 0) from by omega)))
  · exact c_X8_why_4 a b hZ hP hI h99 h100 ra (fun c0 => q1 _ (by decide) (nn_ (show (¬ (0 ≤ a ∧ a < σ 0)) ∨ miss σ a.toNat = 0 ∨ σ 2 = 0 ∨ wel σ (col σ a.toNat).toNat = 0 from by omega))) (fun c0 c1 => q1 _ (by decide) (nn_ (show (¬ (0 ≤ a ∧ a < σ 0)) ∨ miss σ a.toNat = 0 ∨ σ 2 = 0 ∨ wel σ (col σ a.toNat).toNat = 0 from by omega))) (fun c0 c1 c2 => q1 _ (by decide) (nn_ (show (¬ (0 ≤ a ∧ a < σ 0)) ∨ miss σ a.toNat = 0 ∨ σ 2 = 0 ∨ wel σ (col σ a.toNat).toNat = 0 from by omega))) (fun c0 c1 c2 => q2 (fun e => by have e : (¬ (0 ≤ a ∧ a < σ 0)) ∨ miss σ a.toNat = 0 ∨ σ 2 = 0 ∨ wel σ (col σ a.toNat).toNat = 0 := e; omega))
  · exact c_X8_why_5 a b hZ hP hI h99 h100 (q2 (fun e => e))
  · exact c_X8_why_6 a b hZ hP hI h99 h100 ra (fun c0 => q2 (fun e => by have e : ¬ (1 ≤ a ∧ a ≤ 48) := e; omega)) (fun c0 => q1 _ (by decide) (nn_ (show ¬ (1 ≤ a ∧ a ≤ 48) from by omega)))
  · exact c_X8_why_7 a b hZ hP hI h99 h100 ra (fun c0 => q1 _ (by decide) (nn_ (show (¬ (0 ≤ a ∧ a ≤ 99)) ∨ σ 1 = 12 from by omega))) (fun c0 c1 => q1 _ (by decide) (nn_ (show (¬ (0 ≤ a ∧ a ≤ 99)) ∨ σ 1 = 12 from by omega))) (fun c0 c1 => q2 (fun e => by have e : (¬ (0 ≤ a ∧ a ≤ 99)) ∨ σ 1 = 12 := e; omega))
  · exact c_X8_why_8 a b hZ hP hI h99 h100 ra (fun c0 => q2 (fun e => by have e : ¬ (0 ≤ a ∧ a < σ 1) := e; omega)) (fun c0 => q1 _ (by decide) (nn_ (show ¬ (0 ≤ a ∧ a < σ 1) from by omega)))
set_option maxRecDepth 100000 in
theorem c_X8_does_g {Z : ia_Z} {V : ia_H} {Q : ia_O → ia_Z → ia_H → Prop} {σ : Nat → Int} {μ : Nat → Int} {m : Int} (k : Nat) (a b : Int) (hZ : ZI Z) (hP : PI V) (hI : SI σ m) (h99 : V 99 = μ) (h100 : V 100 = σ) (hk : k < 9) (ra : -2147483648 ≤ a ∧ a ≤ 2147483647) (rb : -2147483648 ≤ b ∧ b ≤ 2147483647) (hm : m + 1 ≤ 20000) (hB : ¬ opB k a b σ) (q1 : ∀ (r : Int) (V1 : ia_H), PI V1 → V1 100 = opS k a b σ → (∀ pp, pp ∉ ([100, 104, 105, 108] : List Nat) → V1 pp = V pp) → Q (.inl (some (0, r))) Z V1) : ia_K yX8_does cX8_does 4 (some .int) [(4, ((99 : Nat) : Int)), (0, (k : Int)), (0, a), (0, b)] Z V 8 0 0 Q := by
  obtain ⟨s0, s1, s2, s3, s4, s5, s6, s7, s18, sb, sw, se, sp⟩ := id hI
  rcases (show k = 0 ∨ k = 1 ∨ k = 2 ∨ k = 3 ∨ k = 4 ∨ k = 5 ∨ k = 6 ∨ k = 7 ∨ k = 8 by omega) with rfl | rfl | rfl | rfl | rfl | rfl | rfl | rfl | rfl
  · have g : ¬ ((¬ ((0 ≤ a ∧ a ≤ 9) ∧ 1 ≤ b ∧ b ≤ 999)) ∨ 999 < wel σ a.toNat + b) := hB
    exact c_X8_does_0 a b hZ hP hI h99 h100 (by omega) (fun V1 p w f => q1 _ V1 p w (fun pp hp => f pp (by simp at hp ⊢; omega)))
  · have g : ¬ ((¬ (1 ≤ a ∧ a ≤ 999)) ∨ 9999 < σ 2 + a) := hB
    exact c_X8_does_1 a b hZ hP hI h99 h100 (fun V1 p w f => q1 _ V1 p w (fun pp hp => f pp (by simp at hp ⊢; omega)))
  · have g : ¬ ((¬ ((0 ≤ a ∧ a ≤ 9) ∧ 1 ≤ b ∧ b ≤ 50)) ∨ σ 0 = 7) := hB
    exact c_X8_does_2 a b hZ hP hI h99 h100 (by omega) (fun V1 p w f => q1 _ V1 p w (fun pp hp => f pp (by simp at hp ⊢; omega)))
  · have g : ¬ (¬ (0 ≤ a ∧ a < σ 0)) := hB
    exact c_X8_does_3 a b hZ hP hI h99 h100 (by omega) (fun V1 p w f => q1 _ V1 p w (fun pp hp => f pp (by simp at hp ⊢; omega)))
  · have g : ¬ ((¬ (0 ≤ a ∧ a < σ 0)) ∨ miss σ a.toNat = 0 ∨ σ 2 = 0 ∨ wel σ (col σ a.toNat).toNat = 0) := hB
    exact c_X8_does_4 a b hZ hP hI h99 h100 (by omega) (fun n V1 c0 p w f => by subst c0; exact q1 _ V1 p w (fun pp hp => f pp (by simp at hp ⊢; omega)))
  · exact c_X8_does_5 a b hZ hP hI h99 h100 (rfl : V 104 = V 104) (rfl : V 105 = V 105) (rfl : V 108 = V 108) hm (fun V1 p w f => q1 _ V1 p w f)
  · have g : ¬ (¬ (1 ≤ a ∧ a ≤ 48)) := hB
    exact c_X8_does_6 a b hZ hP hI h99 h100 (by omega) (fun V1 p w f => q1 _ V1 p w (fun pp hp => f pp (by simp at hp ⊢; omega)))
  · have g : ¬ ((¬ (0 ≤ a ∧ a ≤ 99)) ∨ σ 1 = 12) := hB
    exact c_X8_does_7 a b hZ hP hI h99 h100 (by omega) (fun V1 p w f => q1 _ V1 p w (fun pp hp => f pp (by simp at hp ⊢; omega)))
  · have g : ¬ (¬ (0 ≤ a ∧ a < σ 1)) := hB
    exact c_X8_does_8 a b hZ hP hI h99 h100 (by omega) (fun V1 p w f => q1 _ V1 p w (fun pp hp => f pp (by simp at hp ⊢; omega)))
