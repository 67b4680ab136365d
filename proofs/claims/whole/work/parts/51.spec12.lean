/-! the text, pure: digits, numbers, words, commands, the whole text; n letters, t the letters (made by wip/whole/mkspec12.py) -/
abbrev tx_dg (t : Nat → Int) (n p : Nat) : Prop := p < n ∧ 48 ≤ t p ∧ t p ≤ 57
def tx_nd (t : Nat → Int) (n p : Nat) : Nat → Nat
  | 0 => 0
  | d + 1 => if tx_nd t n p d = d ∧ tx_dg t n (p + d) then d + 1 else tx_nd t n p d
def tx_vd (t : Nat → Int) (p : Nat) : Nat → Int
  | 0 => 0
  | k + 1 => 10 * tx_vd t p k + t (p + k) - 48
def tx_nW (t : Nat → Int) (n a : Nat) : Int := if (a < n ∧ t a = 32) ∧ tx_dg t n (a + 1) then 0 else 1
def tx_nP (t : Nat → Int) (n a d : Nat) : Nat := if a < n ∧ t a = 32 then (if tx_dg t n (a + 1) then a + 1 + tx_nd t n (a + 1) d else a + 1) else a
def tx_nV (t : Nat → Int) (n a d : Nat) : Int := if (a < n ∧ t a = 32) ∧ tx_dg t n (a + 1) then tx_vd t (a + 1) (tx_nd t n (a + 1) d) else 0
def tx_wl (i : Nat) : Nat := (ia_word i).length
def tx_ag (t : Nat → Int) (n a i : Nat) : Nat → Nat
  | 0 => 0
  | j + 1 => if tx_ag t n a i j = j ∧ j < tx_wl i ∧ a + j < n ∧ t (a + j) = spl i j then j + 1 else tx_ag t n a i j
def tx_AG (t : Nat → Int) (n a i : Nat) : Nat := tx_ag t n a i 7
def tx_bs (t : Nat → Int) (n a : Nat) : Nat → Nat
  | 0 => 0
  | i + 1 => if tx_bs t n a i < tx_AG t n a i then tx_AG t n a i else tx_bs t n a i
def tx_wk (t : Nat → Int) (n a : Nat) : Nat → Nat
  | 0 => 9
  | m + 1 => if tx_wk t n a m < 9 then tx_wk t n a m else if tx_AG t n a m = tx_wl m then m else 9
def tx_cK (t : Nat → Int) (n a : Nat) : Nat := tx_wk t n a 9
def tx_wP (t : Nat → Int) (n a : Nat) : Nat := if tx_cK t n a < 9 then a + tx_wl (tx_cK t n a) else a + tx_bs t n a 9
def tx_dA (k : Nat) : Nat := if k = 1 then 3 else if k = 5 then 0 else if k = 6 ∨ k = 7 ∨ k = 8 then 2 else 1
def tx_dB (k : Nat) : Nat := if k = 0 then 3 else if k = 2 then 2 else 0
def tx_pW (t : Nat → Int) (n a d : Nat) : Int := if d = 0 then 0 else tx_nW t n a
def tx_pP (t : Nat → Int) (n a d : Nat) : Nat := if d = 0 then a else tx_nP t n a d
def tx_pV (t : Nat → Int) (n a d : Nat) : Int := if d = 0 then 0 else tx_nV t n a d
/-- the place behind the first parameter -/
def tx_qP (t : Nat → Int) (n a : Nat) : Nat := tx_pP t n (tx_wP t n a) (tx_dA (tx_cK t n a))
def tx_cW (t : Nat → Int) (n a : Nat) : Int := if tx_cK t n a < 9 then (if tx_pW t n (tx_wP t n a) (tx_dA (tx_cK t n a)) = 0 then tx_pW t n (tx_qP t n a) (tx_dB (tx_cK t n a)) else 1) else 1
def tx_cP (t : Nat → Int) (n a : Nat) : Nat := if tx_cK t n a < 9 then (if tx_pW t n (tx_wP t n a) (tx_dA (tx_cK t n a)) = 0 then tx_pP t n (tx_qP t n a) (tx_dB (tx_cK t n a)) else tx_qP t n a) else tx_wP t n a
def tx_cF (t : Nat → Int) (n a : Nat) : Int := tx_pV t n (tx_wP t n a) (tx_dA (tx_cK t n a))
def tx_cS (t : Nat → Int) (n a : Nat) : Int := tx_pV t n (tx_qP t n a) (tx_dB (tx_cK t n a))
/-- where command i begins -/
def tx_ps (t : Nat → Int) (n : Nat) : Nat → Nat
  | 0 => 0
  | i + 1 => tx_cP t n (tx_ps t n i) + 1
/-- command i is well formed, and another follows -/
def tx_mo (t : Nat → Int) (n i : Nat) : Prop := tx_cW t n (tx_ps t n i) = 0 ∧ tx_cP t n (tx_ps t n i) < n ∧ t (tx_cP t n (tx_ps t n i)) = 59
theorem tx_ps_0 {t : Nat → Int} {n : Nat} : tx_ps t n 0 = 0 := rfl
theorem tx_ps_s {t : Nat → Int} {n k : Nat} : tx_ps t n (k + 1) = tx_cP t n (tx_ps t n k) + 1 := rfl
section TXS
variable {t : Nat → Int} {n a p d k i j : Nat}
theorem tx_nd_le : ∀ d, tx_nd t n p d ≤ d
  | 0 => Nat.le_refl 0
  | d + 1 => by
    unfold tx_nd
    have ih := tx_nd_le d
    split
    · exact Nat.le_refl _
    · omega
theorem tx_nd_s (h : tx_nd t n p k = k) (h2 : tx_dg t n (p + k)) : tx_nd t n p (k + 1) = k + 1 := by
  unfold tx_nd
  rw [if_pos ⟨h, h2⟩]
theorem tx_nd_p (h : tx_nd t n p (k + 1) = k + 1) : tx_nd t n p k = k ∧ tx_dg t n (p + k) := by
  unfold tx_nd at h
  by_cases c : tx_nd t n p k = k ∧ tx_dg t n (p + k)
  · exact c
  · rw [if_neg c] at h
    have := tx_nd_le (t := t) (n := n) (p := p) k
    omega
theorem tx_nd_stop {k : Nat} (h : tx_nd t n p k = k) (h2 : ¬ tx_dg t n (p + k)) : ∀ d, k ≤ d → tx_nd t n p d = k
  | 0, hd => by
    have e : k = 0 := by omega
    subst e
    rfl
  | d + 1, hd => by
    rcases Nat.lt_or_ge d k with g | g
    · have e : d + 1 = k := by omega
      rw [e]
      exact h
    · have ih := tx_nd_stop h h2 d g
      unfold tx_nd
      rw [ih]
      by_cases c : k = d ∧ tx_dg t n (p + d)
      · exact absurd (by rw [c.1]; exact c.2) h2
      · rw [if_neg c]
theorem tx_nd_n (h : p ≤ n) : ∀ d, p + tx_nd t n p d ≤ n
  | 0 => h
  | d + 1 => by
    have ih := tx_nd_n h d
    unfold tx_nd
    by_cases c : tx_nd t n p d = d ∧ tx_dg t n (p + d)
    · rw [if_pos c]
      have := c.2.1
      omega
    · rw [if_neg c]
      exact ih
theorem tx_vd_rng : ∀ k, tx_nd t n p k = k → 0 ≤ tx_vd t p k ∧ (k ≤ 3 → tx_vd t p k ≤ 999) ∧ (k ≤ 2 → tx_vd t p k ≤ 99) ∧ (k ≤ 1 → tx_vd t p k ≤ 9) ∧ (k = 0 → tx_vd t p k = 0)
  | 0, _ => by
    have e : tx_vd t p 0 = 0 := rfl
    rw [e]
    omega
  | k + 1, h => by
    obtain ⟨h1, h2⟩ := tx_nd_p h
    obtain ⟨r0, r1, r2, r3, r4⟩ := tx_vd_rng k h1
    have e : tx_vd t p (k + 1) = 10 * tx_vd t p k + t (p + k) - 48 := rfl
    have h3 := h2.2
    rw [e]
    omega
theorem tx_nd_fix : ∀ d, tx_nd t n p (tx_nd t n p d) = tx_nd t n p d
  | 0 => rfl
  | d + 1 => by
    by_cases c : tx_nd t n p d = d ∧ tx_dg t n (p + d)
    · have e : tx_nd t n p (d + 1) = d + 1 := tx_nd_s c.1 c.2
      rw [e]
      exact e
    · have e : tx_nd t n p (d + 1) = tx_nd t n p d := by
        show (if tx_nd t n p d = d ∧ tx_dg t n (p + d) then d + 1 else tx_nd t n p d) = _
        rw [if_neg c]
      rw [e]
      exact tx_nd_fix d
theorem tx_nV_rng (hd : d ≤ 3) : 0 ≤ tx_nV t n a d ∧ tx_nV t n a d ≤ 999 := by
  unfold tx_nV
  by_cases c : (a < n ∧ t a = 32) ∧ tx_dg t n (a + 1)
  · rw [if_pos c]
    have h := tx_vd_rng (t := t) (n := n) (p := a + 1) _ (tx_nd_fix d)
    have h2 := tx_nd_le (t := t) (n := n) (p := a + 1) d
    omega
  · rw [if_neg c]
    omega
theorem tx_nP_rng (h : a ≤ n) : a ≤ tx_nP t n a d ∧ tx_nP t n a d ≤ n := by
  unfold tx_nP
  by_cases c : a < n ∧ t a = 32
  · rw [if_pos c]
    by_cases c2 : tx_dg t n (a + 1)
    · rw [if_pos c2]
      have := tx_nd_n (t := t) (n := n) (p := a + 1) (by have := c2.1; omega) d
      omega
    · rw [if_neg c2]
      omega
  · rw [if_neg c]
    omega
theorem tx_nW_01 : tx_nW t n a = 0 ∨ tx_nW t n a = 1 := by
  unfold tx_nW
  split
  · exact Or.inl rfl
  · exact Or.inr rfl
theorem tx_n_ok (h1 : a < n ∧ t a = 32) (h2 : tx_dg t n (a + 1)) : tx_nW t n a = 0 ∧ tx_nP t n a d = a + 1 + tx_nd t n (a + 1) d ∧ tx_nV t n a d = tx_vd t (a + 1) (tx_nd t n (a + 1) d) := by
  unfold tx_nW tx_nP tx_nV
  rw [if_pos ⟨h1, h2⟩, if_pos h1, if_pos h2, if_pos ⟨h1, h2⟩]
  exact ⟨rfl, rfl, rfl⟩
theorem tx_n_b1 (h1 : ¬ (a < n ∧ t a = 32)) : tx_nW t n a = 1 ∧ tx_nP t n a d = a ∧ tx_nV t n a d = 0 := by
  unfold tx_nW tx_nP tx_nV
  rw [if_neg (fun e => h1 e.1), if_neg h1, if_neg (fun e => h1 e.1)]
  exact ⟨rfl, rfl, rfl⟩
theorem tx_n_b2 (h1 : a < n ∧ t a = 32) (h2 : ¬ tx_dg t n (a + 1)) : tx_nW t n a = 1 ∧ tx_nP t n a d = a + 1 ∧ tx_nV t n a d = 0 := by
  unfold tx_nW tx_nP tx_nV
  rw [if_neg (fun e => h2 e.2), if_pos h1, if_neg h2, if_neg (fun e => h2 e.2)]
  exact ⟨rfl, rfl, rfl⟩
-- the words
theorem spl_w (hi : i < 9) (hj : j < 8) : (ia_word i).getD j 0 = spl i j := by
  have h : ∀ i : Fin 9, ∀ j : Fin 8, (ia_word i.val).getD j.val 0 = spl i.val j.val := by decide
  exact h ⟨i, hi⟩ ⟨j, hj⟩
theorem spl_pos (hi : i < 9) (hj : j < 8) : 0 < spl i j ↔ j < tx_wl i := by
  have h : ∀ i : Fin 9, ∀ j : Fin 8, (0 < spl i.val j.val ↔ j.val < tx_wl i.val) := by decide
  exact h ⟨i, hi⟩ ⟨j, hj⟩
theorem spl_rng (hi : i < 9) (hj : j < 8) : 0 ≤ spl i j ∧ spl i j ≤ 126 := by
  have h : ∀ i : Fin 9, ∀ j : Fin 8, (0 ≤ spl i.val j.val ∧ spl i.val j.val ≤ 126) := by decide
  exact h ⟨i, hi⟩ ⟨j, hj⟩
theorem tx_wl_rng (hi : i < 9) : 3 ≤ tx_wl i ∧ tx_wl i ≤ 7 := by
  have h : ∀ i : Fin 9, (3 ≤ tx_wl i.val ∧ tx_wl i.val ≤ 7) := by decide
  exact h ⟨i, hi⟩
theorem tx_ag_le : ∀ j, tx_ag t n a i j ≤ j
  | 0 => Nat.le_refl 0
  | j + 1 => by
    unfold tx_ag
    have ih := tx_ag_le j
    split
    · exact Nat.le_refl _
    · omega
theorem tx_ag_s (h : tx_ag t n a i k = k) (h2 : k < tx_wl i ∧ a + k < n ∧ t (a + k) = spl i k) : tx_ag t n a i (k + 1) = k + 1 := by
  unfold tx_ag
  rw [if_pos ⟨h, h2⟩]
theorem tx_ag_stop {k : Nat} (h : tx_ag t n a i k = k) (h2 : ¬ (k < tx_wl i ∧ a + k < n ∧ t (a + k) = spl i k)) : ∀ d, k ≤ d → tx_ag t n a i d = k
  | 0, hd => by
    have e : k = 0 := by omega
    subst e
    rfl
  | d + 1, hd => by
    rcases Nat.lt_or_ge d k with g | g
    · have e : d + 1 = k := by omega
      rw [e]
      exact h
    · have ih := tx_ag_stop h h2 d g
      unfold tx_ag
      rw [ih]
      by_cases c : k = d ∧ d < tx_wl i ∧ a + d < n ∧ t (a + d) = spl i d
      · exact absurd (by rw [c.1]; exact c.2) h2
      · rw [if_neg c]
theorem tx_ag_n (h : a ≤ n) : ∀ j, a + tx_ag t n a i j ≤ n ∧ tx_ag t n a i j ≤ tx_wl i
  | 0 => ⟨h, Nat.zero_le _⟩
  | j + 1 => by
    have ih := tx_ag_n h j
    unfold tx_ag
    by_cases c : tx_ag t n a i j = j ∧ j < tx_wl i ∧ a + j < n ∧ t (a + j) = spl i j
    · rw [if_pos c]
      have := c.2
      omega
    · rw [if_neg c]
      exact ih
/-- the loop over a word's letters has come to its end at k -/
theorem tx_AG_at (hi : i < 9) (hk : k ≤ 7) (h : tx_ag t n a i k = k) (h2 : ¬ (k < tx_wl i ∧ a + k < n ∧ t (a + k) = spl i k)) : tx_AG t n a i = k := tx_ag_stop h h2 7 hk
theorem tx_AG_rng (h : a ≤ n) : a + tx_AG t n a i ≤ n ∧ tx_AG t n a i ≤ tx_wl i ∧ tx_AG t n a i ≤ 7 := ⟨(tx_ag_n h 7).1, (tx_ag_n h 7).2, tx_ag_le 7⟩
theorem tx_bs_rng (h : a ≤ n) : ∀ m, a + tx_bs t n a m ≤ n ∧ tx_bs t n a m ≤ 7
  | 0 => ⟨h, Nat.zero_le _⟩
  | m + 1 => by
    have ih := tx_bs_rng h m
    unfold tx_bs
    by_cases c : tx_bs t n a m < tx_AG t n a m
    · rw [if_pos c]
      have := tx_AG_rng (t := t) (i := m) h
      omega
    · rw [if_neg c]
      exact ih
theorem tx_bs_1 (h : tx_bs t n a i < tx_AG t n a i) : tx_bs t n a (i + 1) = tx_AG t n a i := if_pos h
theorem tx_bs_0 (h : ¬ tx_bs t n a i < tx_AG t n a i) : tx_bs t n a (i + 1) = tx_bs t n a i := if_neg h
theorem tx_bs_m : tx_bs t n a (i + 1) = max (tx_bs t n a i) (tx_AG t n a i) := by
  by_cases c : tx_bs t n a i < tx_AG t n a i
  · rw [tx_bs_1 c]; omega
  · rw [tx_bs_0 c]; omega
theorem tx_wk_n (h : tx_wk t n a i = 9) (h2 : ¬ tx_AG t n a i = tx_wl i) : tx_wk t n a (i + 1) = 9 := by
  unfold tx_wk
  rw [if_neg (by omega), if_neg h2]
theorem tx_wk_y (h : tx_wk t n a i = 9) (h2 : tx_AG t n a i = tx_wl i) : tx_wk t n a (i + 1) = i := by
  unfold tx_wk
  rw [if_neg (by omega), if_pos h2]
theorem tx_wk_st (h : tx_wk t n a k < 9) : ∀ m, k ≤ m → tx_wk t n a m = tx_wk t n a k
  | 0, hm => by
    have e : k = 0 := by omega
    subst e
    rfl
  | m + 1, hm => by
    rcases Nat.lt_or_ge m k with g | g
    · have e : m + 1 = k := by omega
      rw [e]
    · have ih := tx_wk_st h m g
      have e : tx_wk t n a (m + 1) = tx_wk t n a m := by
        show (if tx_wk t n a m < 9 then _ else _) = _
        rw [if_pos (by omega)]
      rw [e]
      exact ih
/-- word i is the first that stands there -/
theorem tx_cK_y (hi : i < 9) (h : tx_wk t n a i = 9) (h2 : tx_AG t n a i = tx_wl i) : tx_cK t n a = i ∧ tx_wP t n a = a + tx_wl i := by
  have e : tx_cK t n a = i := by
    have := tx_wk_st (t := t) (n := n) (a := a) (k := i + 1) (by rw [tx_wk_y h h2]; exact hi) 9 (by omega)
    unfold tx_cK
    rw [this]
    exact tx_wk_y h h2
  refine ⟨e, ?_⟩
  unfold tx_wP
  rw [e, if_pos hi]
theorem tx_cK_n (h : tx_wk t n a 9 = 9) : tx_cK t n a = 9 ∧ tx_wP t n a = a + tx_bs t n a 9 := by
  refine ⟨h, ?_⟩
  unfold tx_wP
  rw [if_neg (by unfold tx_cK; omega)]
theorem tx_wk_le : ∀ m, m ≤ 9 → tx_wk t n a m ≤ 9 ∧ (tx_wk t n a m < 9 → tx_wk t n a m < m ∧ tx_AG t n a (tx_wk t n a m) = tx_wl (tx_wk t n a m))
  | 0, _ => ⟨Nat.le_refl 9, fun h => absurd h (by show ¬ 9 < 9; omega)⟩
  | m + 1, hm => by
    have ih := tx_wk_le m (by omega)
    by_cases c : tx_wk t n a m < 9
    · have e : tx_wk t n a (m + 1) = tx_wk t n a m := by
        show (if tx_wk t n a m < 9 then _ else _) = _
        rw [if_pos c]
      rw [e]
      exact ⟨ih.1, fun h => ⟨Nat.lt_succ_of_lt (ih.2 h).1, (ih.2 h).2⟩⟩
    · have e0 : tx_wk t n a m = 9 := by omega
      by_cases c2 : tx_AG t n a m = tx_wl m
      · rw [tx_wk_y e0 c2]
        exact ⟨by omega, fun _ => ⟨Nat.lt_succ_self m, c2⟩⟩
      · rw [tx_wk_n e0 c2]
        exact ⟨Nat.le_refl _, fun h => absurd h (by omega)⟩
theorem tx_cK_le : tx_cK t n a ≤ 9 := (tx_wk_le 9 (Nat.le_refl 9)).1
theorem tx_wP_rng (h : a ≤ n) : a ≤ tx_wP t n a ∧ tx_wP t n a ≤ n ∧ (tx_cK t n a < 9 → a + 3 ≤ tx_wP t n a) := by
  unfold tx_wP
  by_cases c : tx_cK t n a < 9
  · have h2 := (tx_wk_le (t := t) (n := n) (a := a) 9 (Nat.le_refl 9)).2 c
    have h3 := tx_AG_rng (t := t) (i := tx_cK t n a) h
    have h4 := tx_wl_rng c
    have h5 : tx_AG t n a (tx_cK t n a) = tx_wl (tx_cK t n a) := h2.2
    rw [if_pos c]
    omega
  · have h2 := tx_bs_rng (t := t) h 9
    rw [if_neg c]
    omega
theorem tx_dA_le : tx_dA k ≤ 3 := by unfold tx_dA; split <;> (try split) <;> (try split) <;> omega
theorem tx_dB_le : tx_dB k ≤ 3 := by unfold tx_dB; split <;> (try split) <;> omega
theorem tx_dig1 (hi : i < 9) : ia_dig1 i = (tx_dA i : Int) := by
  have h : ∀ i : Fin 9, ia_dig1 i.val = (tx_dA i.val : Int) := by decide
  exact h ⟨i, hi⟩
theorem tx_dig2 (hi : i < 9) : ia_dig2 i = (tx_dB i : Int) := by
  have h : ∀ i : Fin 9, ia_dig2 i.val = (tx_dB i.val : Int) := by decide
  exact h ⟨i, hi⟩
theorem tx_pP_rng (h : a ≤ n) : a ≤ tx_pP t n a d ∧ tx_pP t n a d ≤ n := by
  unfold tx_pP
  by_cases c : d = 0
  · rw [if_pos c]; omega
  · rw [if_neg c]; exact tx_nP_rng h
theorem tx_pV_rng (hd : d ≤ 3) : 0 ≤ tx_pV t n a d ∧ tx_pV t n a d ≤ 999 := by
  unfold tx_pV
  by_cases c : d = 0
  · rw [if_pos c]; omega
  · rw [if_neg c]; exact tx_nV_rng hd
theorem tx_pW_01 : tx_pW t n a d = 0 ∨ tx_pW t n a d = 1 := by
  unfold tx_pW
  by_cases c : d = 0
  · rw [if_pos c]; exact Or.inl rfl
  · rw [if_neg c]; exact tx_nW_01
theorem tx_qP_rng (h : a ≤ n) : tx_wP t n a ≤ tx_qP t n a ∧ tx_qP t n a ≤ n := tx_pP_rng (tx_wP_rng h).2.1
theorem tx_cP_rng (h : a ≤ n) : a ≤ tx_cP t n a ∧ tx_cP t n a ≤ n ∧ (tx_cW t n a = 0 → a + 3 ≤ tx_cP t n a) := by
  have h1 := tx_wP_rng (t := t) h
  have h2 := tx_qP_rng (t := t) h
  have h3 := tx_pP_rng (t := t) (d := tx_dB (tx_cK t n a)) h2.2
  unfold tx_cP tx_cW
  by_cases c : tx_cK t n a < 9
  · rw [if_pos c, if_pos c]
    by_cases c2 : tx_pW t n (tx_wP t n a) (tx_dA (tx_cK t n a)) = 0
    · rw [if_pos c2, if_pos c2]
      omega
    · rw [if_neg c2, if_neg c2]
      omega
  · rw [if_neg c, if_neg c]
    omega
theorem tx_cF_rng : 0 ≤ tx_cF t n a ∧ tx_cF t n a ≤ 999 := tx_pV_rng tx_dA_le
theorem tx_cS_rng : 0 ≤ tx_cS t n a ∧ tx_cS t n a ≤ 999 := tx_pV_rng tx_dB_le
theorem tx_c_n (h : tx_cK t n a = 9) : tx_cW t n a = 1 ∧ tx_cP t n a = tx_wP t n a := by
  unfold tx_cW tx_cP
  rw [if_neg (by omega), if_neg (by omega)]
  exact ⟨rfl, rfl⟩
theorem tx_c_1 (h : tx_cK t n a < 9) (h1 : ¬ tx_pW t n (tx_wP t n a) (tx_dA (tx_cK t n a)) = 0) : tx_cW t n a = 1 ∧ tx_cP t n a = tx_qP t n a := by
  unfold tx_cW tx_cP
  rw [if_pos h, if_pos h, if_neg h1, if_neg h1]
  exact ⟨rfl, rfl⟩
theorem tx_c_2 (h : tx_cK t n a < 9) (h1 : tx_pW t n (tx_wP t n a) (tx_dA (tx_cK t n a)) = 0) : tx_cW t n a = tx_pW t n (tx_qP t n a) (tx_dB (tx_cK t n a)) ∧ tx_cP t n a = tx_pP t n (tx_qP t n a) (tx_dB (tx_cK t n a)) := by
  unfold tx_cW tx_cP
  rw [if_pos h, if_pos h, if_pos h1, if_pos h1]
  exact ⟨rfl, rfl⟩
theorem tx_cW_01 : tx_cW t n a = 0 ∨ tx_cW t n a = 1 := by
  unfold tx_cW
  split
  · split
    · exact tx_pW_01
    · exact Or.inr rfl
  · exact Or.inr rfl
theorem tx_cK_ok (h : tx_cW t n a = 0) : tx_cK t n a < 9 := by
  by_cases c : tx_cK t n a < 9
  · exact c
  · have := (tx_c_n (t := t) (n := n) (a := a) (by have := tx_cK_le (t := t) (n := n) (a := a); omega)).1
    omega
theorem tx_ps_rng : ∀ k, (∀ i, i < k → tx_mo t n i) → 4 * k ≤ tx_ps t n k ∧ tx_ps t n k ≤ n
  | 0, _ => ⟨Nat.le_refl 0, Nat.zero_le _⟩
  | k + 1, h => by
    have ih := tx_ps_rng k (fun i hi => h i (by omega))
    have hm := h k (Nat.lt_succ_self k)
    have h2 := tx_cP_rng (t := t) ih.2
    have h3 := h2.2.2 hm.1
    have h4 := hm.2.1
    show 4 * (k + 1) ≤ tx_cP t n (tx_ps t n k) + 1 ∧ tx_cP t n (tx_ps t n k) + 1 ≤ n
    omega
theorem tx_mo_u {k k' : Nat} (h : ∀ i, i < k → tx_mo t n i) (h1 : ¬ tx_mo t n k) (h' : ∀ i, i < k' → tx_mo t n i) (h1' : ¬ tx_mo t n k') : k = k' := by
  rcases Nat.lt_trichotomy k k' with g | g | g
  · exact absurd (h' k g) h1
  · exact g
  · exact absurd (h k' g) h1'
theorem tx_mo_s {k : Nat} (h : ∀ i, i < k → tx_mo t n i) (h1 : tx_mo t n k) : ∀ i, i < k + 1 → tx_mo t n i := fun i hi => by
  rcases Nat.lt_or_ge i k with g | g
  · exact h i g
  · rw [show i = k by omega]; exact h1
end TXS
/-- the model's row of numbers while it reads: place p, commands k, wrong w -/
def tpm (μ : Nat → Int) (p w k : Int) : Nat → Int := fun j => if j = 22 then p else if j = 23 then k else if j = 24 then w else μ j
section TPS
variable {μ : Nat → Int} {p w k x : Int}
theorem tp_22 : tpm μ p w k 22 = p := rfl
theorem tp_23 : tpm μ p w k 23 = k := rfl
theorem tp_24 : tpm μ p w k 24 = w := rfl
theorem tp_o {j : Nat} (h : j ≠ 22 ∧ j ≠ 23 ∧ j ≠ 24) : tpm μ p w k j = μ j := by
  unfold tpm
  rw [if_neg h.1, if_neg h.2.1, if_neg h.2.2]
theorem tp_u22 : up (tpm μ p w k) 22 x = tpm μ x w k := by
  funext j
  unfold up tpm
  by_cases h : j = 22
  · rw [if_pos h, if_pos h]
  · rw [if_neg h, if_neg h, if_neg h]
theorem tp_u23 : up (tpm μ p w k) 23 x = tpm μ p w x := by
  funext j
  unfold up tpm
  by_cases h : j = 23
  · subst h; rfl
  · rw [if_neg h]
    by_cases h2 : j = 22
    · rw [if_pos h2, if_pos h2]
    · rw [if_neg h2, if_neg h2, if_neg h, if_neg h]
theorem tp_u24 : up (tpm μ p w k) 24 x = tpm μ p x k := by
  funext j
  unfold up tpm
  by_cases h : j = 24
  · subst h; rfl
  · rw [if_neg h]
    by_cases h2 : j = 22
    · rw [if_pos h2, if_pos h2]
    · rw [if_neg h2, if_neg h2]
      by_cases h3 : j = 23
      · rw [if_pos h3, if_pos h3]
      · rw [if_neg h3, if_neg h3, if_neg h, if_neg h]
theorem tp_self : tpm μ (μ 22) (μ 24) (μ 23) = μ := by
  funext j
  unfold tpm
  by_cases h2 : j = 22
  · rw [if_pos h2, h2]
  · rw [if_neg h2]
    by_cases h3 : j = 23
    · rw [if_pos h3, h3]
    · rw [if_neg h3]
      by_cases h4 : j = 24
      · rw [if_pos h4, h4]
      · rw [if_neg h4]
end TPS
