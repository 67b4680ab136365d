/-! rises by ends, shares by level, frames of the states that come back (made by wip/whole/mkspec2.py) -/
theorem rin_ext {σ L C L' C' : Nat → Int} {k : Nat} : ∀ o : Nat, (∀ j, j < o → L j = L' j ∧ C j = C' j) → rin σ L C k o = rin σ L' C' k o
  | 0, _ => rfl
  | o + 1, h => by
    have ih := rin_ext (σ := σ) (k := k) o (fun j hj => h j (by omega))
    have e := h o (by omega)
    rw [rin_s, rin_s, ih, e.1, e.2]
theorem rin_mg {σ L C g1 g2 : Nat → Int} {k : Nat} : rin σ (mgk k L g1) (mgk k C g2) k k = rin σ L C k k := rin_ext k (fun _ hj => ⟨mgk_lt hj, mgk_lt hj⟩)
theorem rin_ge {σ L C : Nat → Int} {k : Nat} : ∀ o j : Nat, j < o → mrk σ j < mrk σ k → L j + 1 ≤ (rin σ L C k o).1
  | 0, j, h, _ => absurd h (Nat.not_lt_zero _)
  | o + 1, j, h, hm => by
    rw [rin_s]
    by_cases c : mrk σ k ≤ mrk σ o ∨ L o + 1 < (rin σ L C k o).1
    · rw [if_pos c]
      by_cases e : j = o
      · subst e; omega
      · exact rin_ge o j (by omega) hm
    · rw [if_neg c]
      show L j + 1 ≤ L o + 1
      by_cases e : j = o
      · subst e; omega
      · have := rin_ge (C := C) (k := k) (σ := σ) (L := L) o j (by omega) hm
        omega
theorem rin_att {σ L C : Nat → Int} {k : Nat} : ∀ o : Nat, (rin σ L C k o).1 = 1 ∨ ∃ j : Nat, j < o ∧ mrk σ j < mrk σ k ∧ (rin σ L C k o).1 = L j + 1
  | 0 => Or.inl rfl
  | o + 1 => by
    rw [rin_s]
    by_cases c : mrk σ k ≤ mrk σ o ∨ L o + 1 < (rin σ L C k o).1
    · rw [if_pos c]
      rcases rin_att (σ := σ) (L := L) (C := C) (k := k) o with h | ⟨j, h1, h2, h3⟩
      · exact Or.inl h
      · exact Or.inr ⟨j, by omega, h2, h3⟩
    · rw [if_neg c]
      exact Or.inr ⟨o, by omega, by omega, rfl⟩
/-- what the least ends hold when k proofs are read -/
def PT (σ : Nat → Int) (k : Nat) (E : Nat → Int) (L : Int) : Prop :=
  L = rmx σ k ∧ (∀ j : Nat, j < k → (rtb σ k).1 j ≤ L ∧ E ((rtb σ k).1 j - 1).toNat ≤ mrk σ j) ∧ (∀ l : Nat, (l : Int) < L → ∃ j : Nat, j < k ∧ (rtb σ k).1 j = (l : Int) + 1 ∧ mrk σ j = E l) ∧ (∀ i j : Nat, i < j → (j : Int) < L → E i < E j)
theorem PT_0 {σ E : Nat → Int} : PT σ 0 E 0 := ⟨rfl, fun j h => absurd h (Nat.not_lt_zero _), fun l h => by omega, fun i j h h2 => by omega⟩
theorem PT_s {σ E : Nat → Int} {k p : Nat} {L : Int} (h : PT σ k E L) (hp : (p : Int) ≤ L) (h1 : ∀ i : Nat, i < p → E i < mrk σ k) (h2 : (p : Int) = L ∨ mrk σ k ≤ E p) : PT σ (k + 1) (up E p (mrk σ k)) (max L ((p : Int) + 1)) := by
  obtain ⟨a, b, c, d⟩ := h
  have r := rmx_rng (σ := σ) k
  have tr := rtb_rng (σ := σ) k
  have dmono : ∀ i j : Nat, i ≤ j → (j : Int) < L → E i ≤ E j := fun i j hij hj => by
    rcases Nat.lt_or_ge i j with g | g
    · exact Int.le_of_lt (d i j g hj)
    · rw [show i = j by omega]; exact Int.le_refl _
  have key : (rin σ (rtb σ k).1 (rtb σ k).2 k k).1 = (p : Int) + 1 := by
    have ge : (p : Int) + 1 ≤ (rin σ (rtb σ k).1 (rtb σ k).2 k k).1 := by
      rcases Nat.eq_zero_or_pos p with g | g
      · have := rin_rng (σ := σ) (C := (rtb σ k).2) tr k (Nat.le_refl _)
        omega
      · obtain ⟨j, j1, j2, j3⟩ := c (p - 1) (by omega)
        have e1 := h1 (p - 1) (by omega)
        have := rin_ge (C := (rtb σ k).2) (L := (rtb σ k).1) k j j1 (by omega : mrk σ j < mrk σ k)
        omega
    have le : (rin σ (rtb σ k).1 (rtb σ k).2 k k).1 ≤ (p : Int) + 1 := by
      rcases rin_att (σ := σ) (L := (rtb σ k).1) (C := (rtb σ k).2) (k := k) k with g | ⟨j, j1, j2, j3⟩
      · omega
      · have bj := b j j1
        have tj := tr j j1
        rcases h2 with g | g
        · omega
        · rcases Int.lt_or_le (p : Int) ((rtb σ k).1 j) with q | q
          · have := dmono p ((rtb σ k).1 j - 1).toNat (by omega) (by omega)
            omega
          · omega
    omega
  have tk : ∀ j : Nat, j < k → (rtb σ (k + 1)).1 j = (rtb σ k).1 j := fun j hj => by rw [rtb_s1]; exact up_ne (by omega)
  have tkk : (rtb σ (k + 1)).1 k = (p : Int) + 1 := by rw [rtb_s1, up_self, key]
  refine ⟨?_, fun j hj => ?_, fun l hl => ?_, fun i j hij hj => ?_⟩
  · rw [rmx_s, key, ← a]
    by_cases g : L < (p : Int) + 1
    · rw [if_pos g]; omega
    · rw [if_neg g]; omega
  · by_cases e : j = k
    · subst e
      rw [tkk, show ((p : Int) + 1 - 1).toNat = p by omega, up_self]
      omega
    · have bj := b j (by omega)
      have tj := tr j (by omega)
      rw [tk j (by omega)]
      refine ⟨by omega, ?_⟩
      by_cases q : ((rtb σ k).1 j - 1).toNat = p
      · rw [q, up_self]
        rw [q] at bj
        rcases h2 with g | g
        · omega
        · omega
      · rw [up_ne q]; exact bj.2
  · by_cases e : l = p
    · subst e
      exact ⟨k, by omega, tkk, (up_self _ _ _).symm⟩
    · obtain ⟨j, j1, j2, j3⟩ := c l (by omega)
      exact ⟨j, by omega, by rw [tk j j1]; exact j2, by rw [up_ne e]; exact j3⟩
  · by_cases e : j = p
    · subst e
      rw [up_self, up_ne (by omega)]
      exact h1 i hij
    · by_cases e2 : i = p
      · subst e2
        rw [up_self, up_ne e]
        rcases h2 with g | g
        · omega
        · have := d i j hij (by omega); omega
      · rw [up_ne e, up_ne e2]
        exact d i j hij (by omega)
theorem rmx_pos {σ : Nat → Int} : ∀ k : Nat, rmx σ k = 0 → k = 0
  | 0, _ => rfl
  | k + 1, h => by
    have r := rin_rng (σ := σ) (C := (rtb σ k).2) (rtb_rng (σ := σ) k) k (Nat.le_refl _)
    rw [rmx_s] at h
    by_cases g : rmx σ k < (rin σ (rtb σ k).1 (rtb σ k).2 k k).1
    · rw [if_pos g] at h; omega
    · rw [if_neg g] at h; omega
-- shares by level
def slv (σ : Nat → Int) (L : Int) : Nat → Int
  | 0 => 0
  | e + 1 => slv σ L e + min L (miss σ e)
theorem slv_s (σ : Nat → Int) (L : Int) (e : Nat) : slv σ L (e + 1) = slv σ L e + min L (miss σ e) := rfl
theorem slv_rng {σ : Nat → Int} {L : Int} (hL : 0 ≤ L ∧ L ≤ 50) : ∀ n : Nat, (∀ e : Nat, e < n → 0 ≤ miss σ e) → 0 ≤ slv σ L n ∧ slv σ L n ≤ 50 * (n : Int)
  | 0, _ => by unfold slv; omega
  | n + 1, h => by
    have ih := slv_rng hL n (fun e he => h e (by omega))
    have := h n (by omega)
    rw [slv_s]; omega
/-- what is left to deal, one more each, when e editions have theirs -/
def lvr (σ : Nat → Int) (L r : Int) : Nat → Int
  | 0 => r
  | e + 1 => if 0 < lvr σ L r e ∧ L < miss σ e then lvr σ L r e - 1 else lvr σ L r e
theorem lvr_s (σ : Nat → Int) (L r : Int) (e : Nat) : lvr σ L r (e + 1) = if 0 < lvr σ L r e ∧ L < miss σ e then lvr σ L r e - 1 else lvr σ L r e := rfl
def lvv (σ : Nat → Int) (L r : Int) (e : Nat) : Int := if 0 < lvr σ L r e ∧ L < miss σ e then L + 1 else min L (miss σ e)
theorem lvr_rng {σ : Nat → Int} {L r : Int} : ∀ e : Nat, lvr σ L r e ≤ max r 0 ∧ min r 0 ≤ lvr σ L r e
  | 0 => by unfold lvr; omega
  | e + 1 => by
    have := lvr_rng (σ := σ) (L := L) (r := r) e
    rw [lvr_s]
    by_cases h : 0 < lvr σ L r e ∧ L < miss σ e
    · rw [if_pos h]; omega
    · rw [if_neg h]; omega
theorem lvr_1 {σ : Nat → Int} {L r : Int} {e : Nat} (h : 0 < lvr σ L r e ∧ L < miss σ e) : lvr σ L r (e + 1) = lvr σ L r e - 1 := by rw [lvr_s, if_pos h]
theorem lvr_0 {σ : Nat → Int} {L r : Int} {e : Nat} (h : ¬ (0 < lvr σ L r e ∧ L < miss σ e)) : lvr σ L r (e + 1) = lvr σ L r e := by rw [lvr_s, if_neg h]
theorem lvv_1 {σ : Nat → Int} {L r : Int} {e : Nat} (h : 0 < lvr σ L r e ∧ L < miss σ e) : lvv σ L r e = L + 1 := if_pos h
theorem lvv_0 {σ : Nat → Int} {L r : Int} {e : Nat} (h : ¬ (0 < lvr σ L r e ∧ L < miss σ e)) : lvv σ L r e = min L (miss σ e) := if_neg h
theorem mgk_f {k : Nat} {f g : Nat → Int} {x : Int} (h : x = f k) : up (mgk k f g) k x = mgk (k + 1) f g := by
  rw [mgk_up]
  funext j
  show (if j < k + 1 then (if j = k then x else f j) else g j) = (if j < k + 1 then f j else g j)
  by_cases c : j = k
  · rw [if_pos c, h, c]
  · rw [if_neg c]
-- frames
abbrev HL : List Nat := [17, 18, 19, 20, 21, 22, 23, 24, 25, 26, 27, 28, 29, 30, 31, 32, 33, 34, 35, 36, 37, 38, 39, 40, 41, 42, 43, 44, 45, 46, 47, 48, 49, 50, 51, 52, 53, 54, 55, 56, 57, 58, 59, 60, 61, 62, 63, 64, 65, 66, 67, 68, 69, 70, 71, 72, 73, 74, 75, 76, 77, 78, 79]
theorem HL_iff : ∀ p : Nat, p < 100 → (p ∈ HL ↔ 17 ≤ p ∧ p ≤ 79) := by decide
theorem HL_in {p : Nat} (h : 17 ≤ p ∧ p ≤ 79) : p ∈ HL := (HL_iff p (by omega)).mpr h
theorem Fr_h {V V1 V2 : ia_H} {S : List Nat} (h : ∀ p, p ∉ HL → V1 p = V p) (h2 : ∀ p, p ∉ S → V2 p = V1 p) (hS : ∀ p, p ∈ S → 17 ≤ p ∧ p ≤ 79) : ∀ p, p ∉ HL → V2 p = V p := fun p hp => (h2 p (fun e => hp (HL_in (hS p e)))).trans (h p hp)
