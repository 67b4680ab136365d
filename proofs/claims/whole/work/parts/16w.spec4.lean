/-! the best order: by all orders, and the model's table (made by wip/whole/mkspec4.py) -/
theorem swp_l {r : Nat → Int} {i j : Nat} : swp r i j i = r j := by
  unfold swp up
  by_cases h : i = j
  · rw [if_pos h, h]
  · rw [if_neg h, if_pos rfl]
theorem swp_rng {r : Nat → Int} {i j b : Nat} (hi : i < b) (hj : j < b) (h : ∀ k : Nat, k < b → 0 ≤ r k ∧ r k ≤ 9) : ∀ k : Nat, k < b → 0 ≤ swp r i j k ∧ swp r i j k ≤ 9 := fun k hk => by
  unfold swp up
  by_cases h1 : k = j
  · rw [if_pos h1]; exact h i hi
  · rw [if_neg h1]
    by_cases h2 : k = i
    · rw [if_pos h2]; exact h j hj
    · rw [if_neg h2]; exact h k hk
theorem kr_rng {b : Nat} : ∀ (n : Nat) (r : Nat → Int) (a : Nat) (p : Int), b = a + n → (∀ k : Nat, k < b → 0 ≤ r k ∧ r k ≤ 9) → 0 ≤ p ∧ p ≤ 9 → 0 ≤ kr n r a p ∧ kr n r a p ≤ 1000
  | 0, _, _, _, _, _, _ => by unfold kr; omega
  | n + 1, r, a, p, hb, h, hp => fmn_rng _ (fun i hi => by
      have w := wash_rng hp (h (a + i) (by omega))
      have k := kr_rng n (swp r a (a + i)) (a + 1) (r (a + i)) (by omega) (swp_rng (by omega) (by omega) h) (h (a + i) (by omega))
      show 0 ≤ wash p (r (a + i)) + kr n (swp r a (a + i)) (a + 1) (r (a + i))
      omega)
theorem fmn_ext {g g' : Nat → Int} : ∀ n : Nat, (∀ i, i < n → g i = g' i) → fmn g n = fmn g' n
  | 0, _ => rfl
  | n + 1, h => by rw [fmn_s, fmn_s, fmn_ext n (fun i hi => h i (by omega)), h n (by omega)]
theorem kr_ext {b : Nat} : ∀ (n : Nat) (r r' : Nat → Int) (a : Nat) (p : Int), b = a + n → (∀ k : Nat, k < b → r k = r' k) → kr n r a p = kr n r' a p
  | 0, _, _, _, _, _, _ => rfl
  | n + 1, r, r', a, p, hb, h => fmn_ext _ (fun i hi => by
      show wash p (r (a + i)) + kr n (swp r a (a + i)) (a + 1) (r (a + i)) = wash p (r' (a + i)) + kr n (swp r' a (a + i)) (a + 1) (r' (a + i))
      rw [h (a + i) (by omega), kr_ext (b := b) n (swp r a (a + i)) (swp r' a (a + i)) (a + 1) _ (by omega) (fun k hk => by
        unfold swp up
        rw [h a (by omega), h (a + i) (by omega), h k hk])])
-- the model's table
def lc (σ : Nat → Int) (l : Nat) : Int := if l = 7 then σ 4 else col σ l
theorem lc_7 {σ : Nat → Int} : lc σ 7 = σ 4 := rfl
theorem lc_e {σ : Nat → Int} {l : Nat} (h : l < 7) : lc σ l = col σ l := if_neg (by omega)
def wnf (σ φ : Nat → Int) (S : Nat) (l x : Nat) : Int := wash (lc σ l) (col σ x) + φ (128 * x + (S &&& (255 - 2 ^ x)))
theorem bt_1i {x : Int} (h : 0 ≤ x ∧ x ≤ 7) : ia_shl 1 x = ((2 ^ x.toNat : Nat) : Int) := by
  have := (bt_1 x.toNat (by omega)).1
  rw [show ((x.toNat : Nat) : Int) = x by omega] at this
  exact this
theorem bt_or0 : ∀ S : Nat, S < 128 → ia_or (S : Int) 0 = (S : Int) := by decide +kernel
theorem bt_0n : ∀ n : Nat, n < 8 → ∀ S : Nat, S < 2 ^ n → lin S n = [] → S = 0 := by decide +kernel
def opb (σ : Nat → Int) : Nat → Nat
  | 0 => 0
  | k + 1 => if 0 < miss σ k then opb σ k ||| 2 ^ k else opb σ k
theorem opb_1 {σ : Nat → Int} {k : Nat} (h : 0 < miss σ k) : opb σ (k + 1) = opb σ k ||| 2 ^ k := if_pos h
theorem opb_0 {σ : Nat → Int} {k : Nat} (h : ¬ 0 < miss σ k) : opb σ (k + 1) = opb σ k := if_neg h
theorem or_lt : ∀ k : Nat, k < 7 → ∀ S : Nat, S < 2 ^ k → (S ||| 2 ^ k) < 2 ^ (k + 1) ∧ S < 2 ^ (k + 1) := by decide +kernel
theorem opb_lt {σ : Nat → Int} : ∀ k : Nat, k ≤ 7 → opb σ k < 2 ^ k
  | 0, _ => by show (0 : Nat) < 1; decide
  | k + 1, hk => by
    have ih := opb_lt (σ := σ) k (by omega)
    have o := or_lt k (by omega) (opb σ k) ih
    by_cases h : 0 < miss σ k
    · rw [opb_1 h]; exact o.1
    · rw [opb_0 h]; exact o.2
theorem opb_bit {σ : Nat → Int} : ∀ k : Nat, k ≤ 7 → ∀ i : Nat, i < 7 → (opb σ k).testBit i = (decide (i < k) && decide (0 < miss σ i))
  | 0, _, i, _ => by
    show (0 : Nat).testBit i = _
    rw [Nat.zero_testBit]; simp
  | k + 1, hk, i, hi => by
    have ih := opb_bit (σ := σ) k (by omega) i hi
    have lt := opb_lt (σ := σ) k (by omega)
    have p := pw_le k (by omega)
    by_cases h : 0 < miss σ k
    · rw [opb_1 h, bt_orb _ (by omega) k (by omega) i hi, ih]
      by_cases e : i = k
      · subst e; simp [h]
      · have : decide (i < k + 1) = decide (i < k) := by simp; omega
        rw [this]; simp [e]
    · rw [opb_0 h, ih]
      by_cases e : i = k
      · subst e; simp [h]
      · have : decide (i < k + 1) = decide (i < k) := by simp; omega
        rw [this]
/-- the running least of the model's inner loop -/
def bst (f : Nat → Int) (S : Nat) : Nat → Int
  | 0 => if S = 0 then 0 else 1000000
  | k + 1 => if S.testBit k then (if bst f S k < f k then bst f S k else f k) else bst f S k
theorem bst_n {f : Nat → Int} {S k : Nat} (h : ¬ S.testBit k = true) : bst f S (k + 1) = bst f S k := if_neg h
theorem bst_1 {f : Nat → Int} {S k : Nat} (h : S.testBit k = true) : bst f S (k + 1) = if bst f S k < f k then bst f S k else f k := if_pos h
theorem bst_chs {f : Nat → Int} {S : Nat} (hS : S ≠ 0) (hf : ∀ x : Nat, S.testBit x = true → f x < 1000000) : ∀ k : Nat, (lin S k = [] → bst f S k = 1000000) ∧ (lin S k ≠ [] → bst f S k = (chs f (lin S k)).2 ∧ 0 ≤ (chs f (lin S k)).1)
  | 0 => ⟨fun _ => if_neg hS, fun h => absurd rfl h⟩
  | k + 1 => by
    have ih := bst_chs hS hf k
    by_cases h : S.testBit k = true
    · rw [lin_1 h, bst_1 h]
      refine ⟨fun e => by simp at e, fun _ => ?_⟩
      by_cases e : lin S k = []
      · rw [ih.1 e, e, if_neg (by have := hf k h; omega)]
        refine ⟨rfl, ?_⟩
        show (0 : Int) ≤ (k : Int)
        omega
      · obtain ⟨i1, i2⟩ := ih.2 e
        rw [i1, chs_app]
        by_cases c : f k < (chs f (lin S k)).2
        · rw [if_neg (by omega), if_pos (Or.inr c)]
          refine ⟨rfl, ?_⟩
          show (0 : Int) ≤ (k : Int)
          omega
        · rw [if_neg (by omega : ¬ ((chs f (lin S k)).1 < 0 ∨ f k < (chs f (lin S k)).2))]
          by_cases g : (chs f (lin S k)).2 < f k
          · rw [if_pos g]; exact ⟨rfl, i2⟩
          · rw [if_neg g]; exact ⟨by omega, i2⟩
    · rw [lin_n h, bst_n h]
      exact ih
theorem bst_rng {f : Nat → Int} {S : Nat} (hf : ∀ x : Nat, S.testBit x = true → 0 ≤ f x ∧ f x ≤ 1000000) : ∀ k : Nat, 0 ≤ bst f S k ∧ bst f S k ≤ 1000000
  | 0 => by
    unfold bst
    by_cases h : S = 0
    · rw [if_pos h]; omega
    · rw [if_neg h]; omega
  | k + 1 => by
    have ih := bst_rng hf k
    by_cases h : S.testBit k = true
    · have := hf k h
      rw [bst_1 h]
      by_cases g : bst f S k < f k
      · rw [if_pos g]; omega
      · rw [if_neg g]; omega
    · rw [bst_n h]; exact ih
theorem chs_first {f : Nat → Int} {S : Nat} : ∀ n : Nat, lin S n ≠ [] → ∃ x : Nat, chs f (lin S n) = ((x : Int), f x) ∧ x ∈ lin S n ∧ ∀ j : Nat, j ∈ lin S n → (j < x → f x < f j) ∧ f x ≤ f j
  | 0, h => absurd rfl h
  | n + 1, h => by
    by_cases c : S.testBit n = true
    · rw [lin_1 c]
      by_cases e : lin S n = []
      · rw [e]
        refine ⟨n, rfl, List.mem_singleton.mpr rfl, fun j hj => ?_⟩
        rw [List.mem_singleton.mp hj]
        exact ⟨fun q => absurd q (Nat.lt_irrefl _), Int.le_refl _⟩
      · obtain ⟨x, h1, h2, h3⟩ := chs_first n e
        rw [chs_app, h1]
        show ∃ y : Nat, (if (x : Int) < 0 ∨ f n < f x then ((n : Int), f n) else ((x : Int), f x)) = ((y : Int), f y) ∧ _
        by_cases g : f n < f x
        · rw [if_pos (Or.inr g)]
          refine ⟨n, rfl, List.mem_append_right _ (List.mem_singleton.mpr rfl), fun j hj => ?_⟩
          rcases List.mem_append.mp hj with q | q
          · have := (h3 j q).2
            exact ⟨fun _ => by omega, by omega⟩
          · rw [List.mem_singleton.mp q]
            exact ⟨fun q => absurd q (Nat.lt_irrefl _), Int.le_refl _⟩
        · rw [if_neg (by omega)]
          refine ⟨x, rfl, List.mem_append_left _ h2, fun j hj => ?_⟩
          rcases List.mem_append.mp hj with q | q
          · exact h3 j q
          · have hx := ((lin_mem n).mp h2).1
            rw [List.mem_singleton.mp q]
            exact ⟨fun q => by omega, by omega⟩
    · rw [lin_n c] at h ⊢
      exact chs_first n h
/-- the table holds what it should for all sets below S -/
def LB (σ φ : Nat → Int) (N S : Nat) : Prop := ∀ T : Nat, T < S → ∀ l : Nat, l < N ∨ l = 7 → φ (128 * l + T) = mcl (col σ) (lc σ l) (lin T N)
def LC (σ φ : Nat → Int) (N S m : Nat) : Prop := ∀ l : Nat, l < m → l < N ∨ l = 7 → φ (128 * l + S) = mcl (col σ) (lc σ l) (lin S N)
theorem LB_u {σ φ : Nat → Int} {N S l : Nat} {v : Int} (h : LB σ φ N S) (hS : S < 128) : LB σ (up φ (128 * l + S) v) N S := fun T hT i hi => by
  rw [up_ne (by omega)]; exact h T hT i hi
theorem LC_u {σ φ : Nat → Int} {N S l : Nat} {v : Int} (h : LC σ φ N S l) (hv : v = mcl (col σ) (lc σ l) (lin S N)) : LC σ (up φ (128 * l + S) v) N S (l + 1) := fun i hi h2 => by
  by_cases e : i = l
  · subst e; rw [up_self, hv]
  · rw [up_ne (by omega)]; exact h i (by omega) h2
theorem LC_n {σ φ : Nat → Int} {N S l : Nat} (h : LC σ φ N S l) (hl : ¬ (l < N ∨ l = 7)) : LC σ φ N S (l + 1) := fun i hi h2 => by
  by_cases e : i = l
  · subst e; exact absurd h2 hl
  · exact h i (by omega) h2
theorem LB_s {σ φ : Nat → Int} {N S : Nat} (hN : N ≤ 7) (h : LB σ φ N S) (hc : LC σ φ N S 8) : LB σ φ N (S + 1) := fun T hT i hi => by
  by_cases e : T = S
  · subst e
    exact hc i (by omega) hi
  · exact h T (by omega) i hi
theorem LB_at {σ φ : Nat → Int} {N S x : Nat} (h : LB σ φ N S) (hN : N ≤ 7) (hS : S < 128) (hx : x < N) (hb : S.testBit x = true) : φ (128 * x + (S &&& (255 - 2 ^ x))) = mcl (col σ) (col σ x) ((lin S N).erase x) := by
  have b := bt_x S hS x (by omega)
  rw [h _ (b.2.2 hb) x (Or.inl hx), lc_e (by omega), lin_erase hb (fun k hk => bt_xb S hS x (by omega) k hk) N hN]
theorem LB_chs {σ φ : Nat → Int} {N S l : Nat} (h : LB σ φ N S) (hN : N ≤ 7) (hS : S < 128) : chs (wnf σ φ S l) (lin S N) = chs (mof (col σ) (lc σ l) (lin S N)) (lin S N) :=
  chs_ext (fun x hx => by
    have hm := (lin_mem N).mp hx
    show wash (lc σ l) (col σ x) + φ _ = wash (lc σ l) (col σ x) + mcl (col σ) (col σ x) ((lin S N).erase x)
    rw [LB_at h hN hS hm.1 hm.2])
theorem lin_lle (S : Nat) : ∀ n : Nat, (lin S n).length ≤ n
  | 0 => Nat.le_refl _
  | n + 1 => by
    have := lin_lle S n
    by_cases h : S.testBit n = true
    · rw [lin_1 h, List.length_append]; show _ + 1 ≤ _; omega
    · rw [lin_n h]; omega
theorem LB_rng {σ φ : Nat → Int} {N S x : Nat} (h : LB σ φ N S) (hN : N ≤ 7) (hS : S < 128) (hA : ∀ x : Nat, x < N → 0 ≤ col σ x ∧ col σ x ≤ 9) (hx : x < N) (hb : S.testBit x = true) : 0 ≤ φ (128 * x + (S &&& (255 - 2 ^ x))) ∧ φ (128 * x + (S &&& (255 - 2 ^ x))) ≤ 1000 := by
  rw [LB_at h hN hS hx hb]
  have := mcl_rng (cl := col σ) (c := col σ x) (L := (lin S N).erase x) (fun y hy => hA y ((lin_mem N).mp (List.mem_of_mem_erase hy)).1) (hA x hx)
  have l1 := len_erase (L := lin S N) (x := x)
  have l2 := lin_lle S N
  omega
theorem bit_lt {S N x : Nat} (hS : S < 2 ^ N) (hx : S.testBit x = true) : x < N := by
  rcases Nat.lt_or_ge x N with q | q
  · exact q
  · have : S < 2 ^ x := Nat.lt_of_lt_of_le hS (Nat.pow_le_pow_right (by decide) q)
    rw [Nat.testBit_lt_two_pow this] at hx
    cases hx
theorem LB_v {σ φ : Nat → Int} {N S l : Nat} (h : LB σ φ N S) (hN : N ≤ 7) (hS : S < 2 ^ N) (hA : ∀ x : Nat, x < N → 0 ≤ col σ x ∧ col σ x ≤ 9) (hl : 0 ≤ lc σ l ∧ lc σ l ≤ 9) : bst (wnf σ φ S l) S N = mcl (col σ) (lc σ l) (lin S N) := by
  have h128 := pw_le N (by omega)
  by_cases e : S = 0
  · subst e
    rw [lin_0]
    have : ∀ k : Nat, bst (wnf σ φ 0 l) 0 k = 0 := fun k => by
      induction k with
      | zero => rfl
      | succ k ih => rw [bst_n (by rw [Nat.zero_testBit]; decide), ih]
    rw [this N]
    rfl
  · have hne : lin S N ≠ [] := fun q => e (bt_0n N (by omega) S hS q)
    have big : ∀ x : Nat, S.testBit x = true → x < N := fun x hx => by
      rcases Nat.lt_or_ge x N with q | q
      · exact q
      · have : S < 2 ^ x := Nat.lt_of_lt_of_le hS (Nat.pow_le_pow_right (by decide) q)
        rw [Nat.testBit_lt_two_pow this] at hx
        cases hx
    have b := (bst_chs (f := wnf σ φ S l) e (fun x hx => by
      have r := LB_rng h hN (by omega) hA (big x hx) hx
      have w := wash_rng hl (hA x (big x hx))
      unfold wnf
      omega) N).2 hne
    rw [b.1, LB_chs h hN (by omega), mcl_s]
