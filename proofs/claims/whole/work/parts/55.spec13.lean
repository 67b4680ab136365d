/-! the builder: its picture, what its methods change; the digits of a number (made by wip/whole/mkspec13.py) -/
/-- the builder at place b holds the n letters t, in the row of L bytes at place q -/
def SB (b : Nat) (Z : ia_Z) (V : ia_H) (n : Nat) (t : Nat → Int) (q L : Nat) : Prop :=
  (b < Z.2.2 ∧ Z.1 b = 11 ∧ Z.2.1 b = 0) ∧ (q < Z.2.2 ∧ Z.1 q = 3 ∧ Z.2.1 q = L) ∧ V b 0 = (q : Int) ∧ V b 1 = 0 ∧ V b 3 = (n : Int) ∧ (n ≤ L ∧ L ≤ 1000) ∧ (∀ i : Nat, i < n → V q i = t i) ∧ (∀ i : Nat, i < L → 0 ≤ V q i ∧ V q i ≤ 126) ∧ (q = b + 1 ∨ 116 ≤ q)
/-- from Z, V to Z', V' at most k cells came, and only the builder at b and its row (or a new one) changed -/
def BX (b k : Nat) (Z : ia_Z) (V : ia_H) (Z' : ia_Z) (V' : ia_H) : Prop :=
  (Z.2.2 ≤ Z'.2.2 ∧ Z'.2.2 ≤ Z.2.2 + k) ∧ (∀ p : Nat, p < Z.2.2 → Z'.1 p = Z.1 p ∧ Z'.2.1 p = Z.2.1 p) ∧ (∀ p : Nat, p < Z.2.2 → p ≠ b → (p : Int) ≠ V b 0 → V' p = V p) ∧ (V' b 0 = V b 0 ∨ (Z.2.2 : Int) ≤ V' b 0)
section BXS
variable {b k k' n q L : Nat} {Z Z' Z2 : ia_Z} {V V' V2 : ia_H} {t : Nat → Int} {x : Int}
theorem BX_rf : BX b 0 Z V Z V := ⟨⟨Nat.le_refl _, Nat.le_refl _⟩, fun _ _ => ⟨rfl, rfl⟩, fun _ _ _ _ => rfl, Or.inl rfl⟩
theorem BX_trans (h : BX b k Z V Z' V') (h2 : BX b k' Z' V' Z2 V2) : BX b (k + k') Z V Z2 V2 := by
  obtain ⟨a1, a2, a3, a4⟩ := h
  obtain ⟨b1, b2, b3, b4⟩ := h2
  refine ⟨⟨by omega, by omega⟩, fun p hp => ?_, fun p hp hb hq => ?_, ?_⟩
  · have e1 := a2 p hp
    have e2 := b2 p (by omega)
    exact ⟨e2.1.trans e1.1, e2.2.trans e1.2⟩
  · rw [b3 p (by omega) hb (by omega)]
    exact a3 p hp hb hq
  · omega
theorem BX_le (h : BX b k Z V Z' V') (hk : k ≤ k') : BX b k' Z V Z' V' := ⟨⟨h.1.1, by have := h.1.2; omega⟩, h.2⟩
theorem BX_ub {i : Nat} (h : BX b k Z V Z' V') (hi : i ≠ 0) : BX b k Z V Z' (ia_u V' b i x) := by
  obtain ⟨a1, a2, a3, a4⟩ := h
  refine ⟨a1, a2, fun p hp hb hq => ?_, ?_⟩
  · rw [rowN hb]
    exact a3 p hp hb hq
  · rw [ia_u_ne (Or.inr (fun e => hi e.symm))]
    exact a4
theorem BX_uq {i : Nat} (h : BX b k Z V Z' V') (hq0 : V' b 0 = (q : Int)) (hbq : b ≠ q) : BX b k Z V Z' (ia_u V' q i x) := by
  obtain ⟨a1, a2, a3, a4⟩ := h
  refine ⟨a1, a2, fun p hp hb hq => ?_, ?_⟩
  · rw [rowN (by omega)]
    exact a3 p hp hb hq
  · rw [ia_u_ne (Or.inl hbq)]
    exact a4
theorem BX_ZI (h : BX b k Z V Z' V') (hZ : ZI Z) (hk : Z.2.2 + k ≤ 900000) : ZI Z' := by
  obtain ⟨⟨a1, a0⟩, a2, -, -⟩ := h
  obtain ⟨z1, z2, z3⟩ := hZ
  refine ⟨by omega, by omega, fun p hp => ?_⟩
  obtain ⟨e1, e2⟩ := a2 p (by omega)
  rw [e1, e2]
  exact z3 p hp
theorem ptr_lt {p j r : Nat} (h : ptr p j = some r) : p < 116 ∧ p ≠ 92 ∧ p ≠ 93 ∧ p ≠ 97 ∧ p ≠ 98 := by
  refine ⟨?_, ?_, ?_, ?_, ?_⟩
  · rcases Nat.lt_or_ge p 116 with g | g
    · exact g
    · exfalso
      unfold ptr at h
      rw [if_neg (by omega)] at h
      split at h <;> first | omega | cases h
  all_goals (rintro rfl; cases h)
theorem BX_PI (h : BX b k Z V Z' V') (hP : PI V) (hZ : ZI Z) (hb : b = 92 ∨ b = 97) (hq : V b 0 = (q : Int)) (hqq : q = b + 1 ∨ 116 ≤ q) : PI V' := fun p j r e => by
  have h1 := ptr_lt e
  have h2 := hZ.1
  rw [h.2.2.1 p (by omega) (by omega) (by rw [hq]; omega)]
  exact hP p j r e
/-- a numbered place that is no builder stays -/
theorem BX_fr (h : BX b k Z V Z' V') (hZ : ZI Z) (hb : b = 92 ∨ b = 97) (hq : V b 0 = (q : Int)) (hqq : q = b + 1 ∨ 116 ≤ q) {p : Nat} (hp : p < 116) (h1 : p ≠ 92 ∧ p ≠ 93 ∧ p ≠ 97 ∧ p ≠ 98) : V' p = V p :=
  h.2.2.1 p (by have := hZ.1; omega) (by omega) (by rw [hq]; omega)
/-- the other builder stays -/
theorem BX_SB {b' n' q' L' : Nat} {t' : Nat → Int} (h : BX b k Z V Z' V') (hb : b ≠ b') (h2 : SB b' Z V n' t' q' L') (hq : V b 0 = (q : Int)) (hqq : q ≠ q' ∧ q ≠ b') (hbb : b ≠ q') : SB b' Z' V' n' t' q' L' := by
  obtain ⟨⟨c1, c2, c3⟩, ⟨d1, d2, d3⟩, e0, e1, e3, hn, ht, hr, hx⟩ := h2
  obtain ⟨⟨a1, a0⟩, a2, a3, a4⟩ := h
  have f1 := a2 b' c1
  have f2 := a2 q' d1
  have g1 : V' b' = V b' := a3 b' c1 (fun e => hb e.symm) (by rw [hq]; omega)
  have g2 : V' q' = V q' := a3 q' d1 (fun e => hbb e.symm) (by rw [hq]; omega)
  unfold SB
  rw [f1.1, f1.2, f2.1, f2.2, g1, g2]
  exact ⟨⟨by omega, c2, c3⟩, ⟨by omega, d2, d3⟩, e0, e1, e3, hn, ht, hr, hx⟩
theorem SB_ext {t' : Nat → Int} (h : SB b Z V n t q L) (e : ∀ i : Nat, i < n → t i = t' i) : SB b Z V n t' q L := by
  obtain ⟨z1, z2, e0, e1, e3, hn, ht, hr, hx⟩ := h
  exact ⟨z1, z2, e0, e1, e3, hn, fun i hi => (ht i hi).trans (e i hi), hr, hx⟩
/-- a letter is put behind -/
theorem SB_put {c : Int} (h : SB b Z V n t q L) (hn : n < L) (hc : 0 ≤ c ∧ c ≤ 126) (h0 : V' b 0 = (q : Int)) (h1 : V' b 1 = 0) (h3 : V' b 3 = ((n + 1 : Nat) : Int)) (hq : V' q = up (V q) n c) : SB b Z V' (n + 1) (up t n c) q L := by
  obtain ⟨z1, z2, e0, e1, e3, hnL, ht, hr, hx⟩ := h
  refine ⟨z1, z2, h0, h1, h3, ⟨hn, hnL.2⟩, fun i hi => ?_, fun i hi => ?_, hx⟩
  · rw [hq]
    unfold up
    by_cases g : i = n
    · rw [if_pos g, if_pos g]
    · rw [if_neg g, if_neg g]
      exact ht i (by omega)
  · rw [hq]
    unfold up
    by_cases g : i = n
    · rw [if_pos g]; exact hc
    · rw [if_neg g]; exact hr i hi
/-- emptied -/
theorem SB_nil (h : SB b Z V n t q L) (h0 : V' b 0 = (q : Int)) (h1 : V' b 1 = 0) (h3 : V' b 3 = 0) (hq : V' q = V q) {t' : Nat → Int} : SB b Z V' 0 t' q L := by
  obtain ⟨z1, z2, e0, e1, e3, hnL, ht, hr, hx⟩ := h
  exact ⟨z1, z2, h0, h1, h3, ⟨Nat.zero_le _, hnL.2⟩, fun i hi => absurd hi (Nat.not_lt_zero _), fun i hi => by rw [hq]; exact hr i hi, hx⟩
/-- a new row, of m bytes -/
theorem SB_grow {m : Nat} (h : SB b Z V n t q L) (hm : L < m ∧ m ≤ 1000) (hz : 116 ≤ Z.2.2) : SB b (ia_Zn Z 3 m) (ia_u (ia_cp (ia_Vn Z V (fun _ => 0)) q Z.2.2 L) b 0 ((Z.2.2 : Nat) : Int)) n t Z.2.2 m := by
  obtain ⟨z1, z2, e0, e1, e3, hnL, ht, hr, hx⟩ := h
  have nb : b ≠ Z.2.2 := by omega
  have nq : q ≠ Z.2.2 := by omega
  have hq : ∀ i : Nat, ia_u (ia_cp (ia_Vn Z V (fun _ => 0)) q Z.2.2 L) b 0 ((Z.2.2 : Nat) : Int) Z.2.2 i = if i < L then V q i else 0 := fun i => by
    rw [ia_u_ne (Or.inl (fun e => nb e.symm))]
    unfold ia_cp ia_Vn
    by_cases g : i < L
    · rw [if_pos ⟨rfl, g⟩, if_pos g, if_neg nq]
    · rw [if_neg (fun e => g e.2), if_neg g, if_pos rfl]
  have hb : ∀ i : Nat, i ≠ 0 → ia_u (ia_cp (ia_Vn Z V (fun _ => 0)) q Z.2.2 L) b 0 ((Z.2.2 : Nat) : Int) b i = V b i := fun i hi => by
    rw [ia_u_ne (Or.inr hi)]
    unfold ia_cp ia_Vn
    rw [if_neg (fun e => nb e.1), if_neg nb]
  refine ⟨⟨Nat.lt_succ_of_lt z1.1, (if_neg nb).trans z1.2.1, (if_neg nb).trans z1.2.2⟩, ⟨Nat.lt_succ_self _, if_pos rfl, if_pos rfl⟩, ia_u_self _ _ _ _, (hb 1 (by decide)).trans e1, (hb 3 (by decide)).trans e3, ⟨by omega, by omega⟩, fun i hi => ?_, fun i hi => ?_, Or.inr hz⟩
  · rw [hq, if_pos (by omega)]; exact ht i hi
  · rw [hq]
    by_cases g : i < L
    · rw [if_pos g]; exact hr i g
    · rw [if_neg g]; omega
theorem BX_grow {m : Nat} (h : SB b Z V n t q L) : BX b 1 Z V (ia_Zn Z 3 m) (ia_u (ia_cp (ia_Vn Z V (fun _ => 0)) q Z.2.2 L) b 0 ((Z.2.2 : Nat) : Int)) := by
  refine ⟨⟨Nat.le_succ _, Nat.le_refl _⟩, fun p hp => ⟨if_neg (by omega), if_neg (by omega)⟩, fun p hp hb hq => ?_, Or.inr ?_⟩
  · rw [rowN hb]
    funext i
    unfold ia_cp ia_Vn
    rw [if_neg (fun e => by have := e.1; omega), if_neg (by omega)]
  · rw [ia_u_self]
    exact Int.le_refl _
-- the digits of a number up to 999
def wd_n (v : Int) : Nat := if v < 10 then 1 else if v < 100 then 2 else 3
def wd_c (v : Int) (j : Nat) : Int := 48 + (if wd_n v = j + 1 then v else if wd_n v = j + 2 then v / 10 else v / 100) % 10
def wd_a (f : Nat → Int) (n : Nat) (v : Int) : Nat → Int := fun i => if n ≤ i ∧ i < n + wd_n v then wd_c v (i - n) else f i
theorem wd_n1 {v : Int} (h : v < 10) : wd_n v = 1 := if_pos h
theorem wd_n2 {v : Int} (h : 10 ≤ v) (h2 : v < 100) : wd_n v = 2 := by unfold wd_n; rw [if_neg (by omega), if_pos h2]
theorem wd_n3 {v : Int} (h : 100 ≤ v) : wd_n v = 3 := by unfold wd_n; rw [if_neg (by omega), if_neg (by omega)]
theorem wd_a1 {v : Int} {f : Nat → Int} (h : 0 ≤ v ∧ v < 10) : up f n (48 + v) = wd_a f n v := by
  funext i
  unfold up wd_a wd_c
  rw [wd_n1 h.2]
  by_cases g : i = n
  · rw [if_pos g, if_pos (by omega), if_pos (by omega)]; omega
  · rw [if_neg g, if_neg (by omega)]
theorem wd_a2 {v : Int} {f : Nat → Int} (h : 10 ≤ v ∧ v < 100) : up (up f (n + 1) (48 + v % 10)) n (48 + v / 10) = wd_a f n v := by
  funext i
  unfold up wd_a wd_c
  rw [wd_n2 h.1 h.2]
  by_cases g : i = n
  · rw [if_pos g, if_pos (by omega), if_neg (by omega), if_pos (by omega)]; omega
  · rw [if_neg g]
    by_cases g2 : i = n + 1
    · rw [if_pos g2, if_pos (by omega), if_pos (by omega)]
    · rw [if_neg g2, if_neg (by omega)]
theorem wd_a3 {v : Int} {f : Nat → Int} (h : 100 ≤ v ∧ v ≤ 999) : up (up (up f (n + 2) (48 + v % 10)) (n + 1) (48 + v / 10 % 10)) n (48 + v / 100) = wd_a f n v := by
  funext i
  unfold up wd_a wd_c
  rw [wd_n3 h.1]
  by_cases g : i = n
  · rw [if_pos g, if_pos (by omega), if_neg (by omega), if_neg (by omega)]; omega
  · rw [if_neg g]
    by_cases g2 : i = n + 1
    · rw [if_pos g2, if_pos (by omega), if_neg (by omega), if_pos (by omega)]
    · rw [if_neg g2]
      by_cases g3 : i = n + 2
      · rw [if_pos g3, if_pos (by omega), if_pos (by omega)]
      · rw [if_neg g3, if_neg (by omega)]
theorem wd_c_rng {v : Int} {j : Nat} : 48 ≤ wd_c v j ∧ wd_c v j ≤ 57 := by
  unfold wd_c
  generalize (if wd_n v = j + 1 then v else if wd_n v = j + 2 then v / 10 else v / 100) = w
  omega
theorem wd_n_rng {v : Int} : 1 ≤ wd_n v ∧ wd_n v ≤ 3 := by
  unfold wd_n
  split
  · omega
  · split <;> omega
/-- a number is put behind -/
theorem SB_num {v : Int} (h : SB b Z V n t q L) (hn : n + wd_n v ≤ L) (h0 : V' b 0 = (q : Int)) (h1 : V' b 1 = 0) (h3 : V' b 3 = ((n + wd_n v : Nat) : Int)) (hq : V' q = wd_a (V q) n v) : SB b Z V' (n + wd_n v) (wd_a t n v) q L := by
  obtain ⟨z1, z2, e0, e1, e3, hnL, ht, hr, hx⟩ := h
  refine ⟨z1, z2, h0, h1, h3, ⟨hn, hnL.2⟩, fun i hi => ?_, fun i hi => ?_, hx⟩
  · rw [hq]
    unfold wd_a
    by_cases g : n ≤ i ∧ i < n + wd_n v
    · rw [if_pos g, if_pos g]
    · rw [if_neg g, if_neg g]
      exact ht i (by omega)
  · rw [hq]
    unfold wd_a
    by_cases g : n ≤ i ∧ i < n + wd_n v
    · rw [if_pos g]; have := wd_c_rng (v := v) (j := i - n); omega
    · rw [if_neg g]; exact hr i hi
end BXS
