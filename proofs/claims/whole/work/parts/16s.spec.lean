/-! the state's functions: what each change answers and makes (rows of numbers alone; made by wip/whole/mkspec.py) -/
def cpy (f g : Nat → Int) (fi ti n : Nat) : Nat → Int := fun j => if ti ≤ j ∧ j < ti + n then f (fi + (j - ti)) else g j
theorem cpy_0 {f g : Nat → Int} {fi ti : Nat} : cpy f g fi ti 0 = g := by
  funext j
  exact if_neg (by omega)
theorem cpy_s {f g : Nat → Int} {fi ti n : Nat} : up (cpy f g fi ti n) (ti + n) (f (fi + n)) = cpy f g fi ti (n + 1) := by
  funext j
  unfold up cpy
  by_cases h : j = ti + n
  · subst h
    rw [if_pos rfl, if_pos ⟨by omega, by omega⟩]
    congr 1
    omega
  · rw [if_neg h]
    by_cases h2 : ti ≤ j ∧ j < ti + n
    · rw [if_pos h2, if_pos ⟨by omega, by omega⟩]
    · rw [if_neg h2, if_neg (by omega)]
theorem cpy_at {f g : Nat → Int} {fi ti n j : Nat} (h : ti ≤ j ∧ j < ti + n) : cpy f g fi ti n j = f (fi + (j - ti)) := if_pos h
theorem cpy_out {f g : Nat → Int} {fi ti n j : Nat} (h : ¬ (ti ≤ j ∧ j < ti + n)) : cpy f g fi ti n j = g j := if_neg h
def shk (f : Nat → Int) (n : Nat) : Nat → Int := fun j => if j < 72 * n then f (j + 72) else f j
theorem shk_0 {f : Nat → Int} : shk f 0 = f := by
  funext j
  exact if_neg (by omega)
theorem shk_s {f : Nat → Int} {n : Nat} : cpy (shk f n) (shk f n) (72 * (n + 1)) (72 * n) 72 = shk f (n + 1) := by
  funext j
  unfold cpy
  by_cases h : 72 * n ≤ j ∧ j < 72 * n + 72
  · rw [if_pos h]
    unfold shk
    rw [if_neg (by omega), if_pos (by omega)]
    congr 1
    omega
  · rw [if_neg h]
    unfold shk
    by_cases h2 : j < 72 * n
    · rw [if_pos h2, if_pos (by omega)]
    · rw [if_neg h2, if_neg (by omega)]
def hdep (d : Int) : Int := if d = 8 then 8 else d + 1
def s_hist (β η : Nat → Int) (d : Int) : Nat → Int := if d = 8 then cpy β (shk η 7) 0 504 72 else cpy β η 0 (72 * d.toNat) 72
theorem up_up {f : Nat → Int} {k : Nat} {x y : Int} : up (up f k x) k y = up f k y := by
  funext j
  unfold up
  by_cases h : j = k
  · rw [if_pos h, if_pos h]
  · rw [if_neg h, if_neg h, if_neg h]
theorem hdep_8 {μ : Nat → Int} (h : μ 10 = 8) : up (up μ 10 (μ 10 - 1)) 10 (μ 10 - 1 + 1) = up μ 10 (hdep (μ 10)) := by
  rw [up_up]
  unfold hdep
  rw [if_pos h, h]
  rfl
theorem hdep_n {μ : Nat → Int} (h : ¬ μ 10 = 8) : up μ 10 (μ 10 + 1) = up μ 10 (hdep (μ 10)) := by
  unfold hdep
  rw [if_neg h]
theorem hist_8 {μ β η : Nat → Int} (h : μ 10 = 8) : cpy β (shk η 7) 0 (72 * (μ 10 - 1).toNat) 72 = s_hist β η (μ 10) := by
  unfold s_hist
  rw [if_pos h, h]
  rfl
theorem hist_n {μ β η : Nat → Int} (h : ¬ μ 10 = 8) : cpy β η 0 (72 * (μ 10).toNat) 72 = s_hist β η (μ 10) := by
  unfold s_hist
  rw [if_neg h]
-- time
def la (σ : Nat → Int) (c : Nat) : Nat → Int
  | 0 => wel σ c
  | k + 1 => if (σ 3 + ((k + 1 : Nat) : Int)) % ((c : Int) + 1) = 0 then la σ c k / 2 else la σ c k
theorem la_s {σ : Nat → Int} {c k : Nat} : la σ c (k + 1) = if (σ 3 + ((k + 1 : Nat) : Int)) % ((c : Int) + 1) = 0 then la σ c k / 2 else la σ c k := rfl
theorem la_rng {σ : Nat → Int} {c : Nat} {M : Int} (h : 0 ≤ wel σ c ∧ wel σ c ≤ M) : ∀ k : Nat, 0 ≤ la σ c k ∧ la σ c k ≤ M
  | 0 => h
  | k + 1 => by
    have := la_rng h k
    unfold la
    by_cases h2 : (σ 3 + ((k + 1 : Nat) : Int)) % ((c : Int) + 1) = 0
    · rw [if_pos h2]; omega
    · rw [if_neg h2]; exact this
theorem la_le {σ : Nat → Int} {c : Nat} (h : 0 ≤ wel σ c) : ∀ k : Nat, 0 ≤ la σ c k ∧ la σ c (k + 1) ≤ la σ c k
  | 0 => by
    rw [la_s]
    show 0 ≤ wel σ c ∧ (if _ then wel σ c / 2 else wel σ c) ≤ wel σ c
    by_cases h2 : (σ 3 + ((0 + 1 : Nat) : Int)) % ((c : Int) + 1) = 0
    · rw [if_pos h2]; omega
    · rw [if_neg h2]; omega
  | k + 1 => by
    have := la_le h k
    have h0 : 0 ≤ la σ c (k + 1) := by
      rw [la_s]
      by_cases h2 : (σ 3 + ((k + 1 : Nat) : Int)) % ((c : Int) + 1) = 0
      · rw [if_pos h2]; omega
      · rw [if_neg h2]; omega
    refine ⟨h0, ?_⟩
    rw [la_s]
    by_cases h2 : (σ 3 + ((k + 1 + 1 : Nat) : Int)) % ((c : Int) + 1) = 0
    · rw [if_pos h2]; omega
    · rw [if_neg h2]; omega
theorem la_mono {σ : Nat → Int} {c : Nat} (h : 0 ≤ wel σ c) (k : Nat) : ∀ n : Nat, la σ c (k + n) ≤ la σ c k
  | 0 => Int.le_refl _
  | n + 1 => Int.le_trans (la_le h (k + n)).2 (la_mono h k n)
/-- how often a well of colour c is halved in k hours -/
def hlv (h : Int) (c k : Nat) : Nat := ((h + (k : Int)) / ((c : Int) + 1) - h / ((c : Int) + 1)).toNat
theorem dv_s (x : Int) (c : Nat) (hc : c < 10) : (x + 1) / ((c : Int) + 1) = x / ((c : Int) + 1) + (if (x + 1) % ((c : Int) + 1) = 0 then 1 else 0) := by
  rcases (show c = 0 ∨ c = 1 ∨ c = 2 ∨ c = 3 ∨ c = 4 ∨ c = 5 ∨ c = 6 ∨ c = 7 ∨ c = 8 ∨ c = 9 by omega) with h | h | h | h | h | h | h | h | h | h <;> subst h
  · rw [show ((0 : Nat) : Int) + 1 = 1 from rfl]; by_cases h : (x + 1) % 1 = 0 <;> simp only [h, if_true, if_false] <;> omega
  · rw [show ((1 : Nat) : Int) + 1 = 2 from rfl]; by_cases h : (x + 1) % 2 = 0 <;> simp only [h, if_true, if_false] <;> omega
  · rw [show ((2 : Nat) : Int) + 1 = 3 from rfl]; by_cases h : (x + 1) % 3 = 0 <;> simp only [h, if_true, if_false] <;> omega
  · rw [show ((3 : Nat) : Int) + 1 = 4 from rfl]; by_cases h : (x + 1) % 4 = 0 <;> simp only [h, if_true, if_false] <;> omega
  · rw [show ((4 : Nat) : Int) + 1 = 5 from rfl]; by_cases h : (x + 1) % 5 = 0 <;> simp only [h, if_true, if_false] <;> omega
  · rw [show ((5 : Nat) : Int) + 1 = 6 from rfl]; by_cases h : (x + 1) % 6 = 0 <;> simp only [h, if_true, if_false] <;> omega
  · rw [show ((6 : Nat) : Int) + 1 = 7 from rfl]; by_cases h : (x + 1) % 7 = 0 <;> simp only [h, if_true, if_false] <;> omega
  · rw [show ((7 : Nat) : Int) + 1 = 8 from rfl]; by_cases h : (x + 1) % 8 = 0 <;> simp only [h, if_true, if_false] <;> omega
  · rw [show ((8 : Nat) : Int) + 1 = 9 from rfl]; by_cases h : (x + 1) % 9 = 0 <;> simp only [h, if_true, if_false] <;> omega
  · rw [show ((9 : Nat) : Int) + 1 = 10 from rfl]; by_cases h : (x + 1) % 10 = 0 <;> simp only [h, if_true, if_false] <;> omega
theorem dv_mono (h : Int) (c k : Nat) (hc : c < 10) : h / ((c : Int) + 1) ≤ (h + (k : Int)) / ((c : Int) + 1) :=
  Int.ediv_le_ediv (by omega) (by omega)
theorem la_pow {σ : Nat → Int} {c : Nat} (hc : c < 10) : ∀ k : Nat, la σ c k = wel σ c / 2 ^ (hlv (σ 3) c k)
  | 0 => by
    unfold hlv
    rw [show σ 3 + ((0 : Nat) : Int) = σ 3 by omega, show (σ 3 / ((c : Int) + 1) - σ 3 / ((c : Int) + 1)).toNat = 0 by omega]
    show wel σ c = wel σ c / 2 ^ 0
    rw [Int.pow_zero, Int.ediv_one]
  | k + 1 => by
    have ih := la_pow (σ := σ) hc k
    have d := dv_s (σ 3 + (k : Int)) c hc
    have e := dv_mono (σ 3) c k hc
    have n1 : σ 3 + ((k + 1 : Nat) : Int) = σ 3 + (k : Int) + 1 := by omega
    rw [la_s, ih]
    unfold hlv at ih ⊢
    rw [n1]
    by_cases h : (σ 3 + (k : Int) + 1) % ((c : Int) + 1) = 0
    · rw [if_pos h] at d ⊢
      rw [d, show ((σ 3 + (k : Int)) / ((c : Int) + 1) + 1 - σ 3 / ((c : Int) + 1)).toNat = ((σ 3 + (k : Int)) / ((c : Int) + 1) - σ 3 / ((c : Int) + 1)).toNat + 1 by omega, Int.pow_succ, Int.ediv_ediv_of_nonneg (Int.pow_nonneg (by decide))]
    · rw [if_neg h] at d ⊢
      rw [d, show ((σ 3 + (k : Int)) / ((c : Int) + 1) + 0 - σ 3 / ((c : Int) + 1)).toNat = ((σ 3 + (k : Int)) / ((c : Int) + 1) - σ 3 / ((c : Int) + 1)).toNat by omega]
theorem hlv_100 (h : Int) (c : Nat) (hc : c < 10) : 10 ≤ hlv h c 100 := by
  unfold hlv
  rw [show ((100 : Nat) : Int) = 100 from rfl]
  rcases (show c = 0 ∨ c = 1 ∨ c = 2 ∨ c = 3 ∨ c = 4 ∨ c = 5 ∨ c = 6 ∨ c = 7 ∨ c = 8 ∨ c = 9 by omega) with h | h | h | h | h | h | h | h | h | h <;> subst h
  · rw [show ((0 : Nat) : Int) + 1 = 1 from rfl]; omega
  · rw [show ((1 : Nat) : Int) + 1 = 2 from rfl]; omega
  · rw [show ((2 : Nat) : Int) + 1 = 3 from rfl]; omega
  · rw [show ((3 : Nat) : Int) + 1 = 4 from rfl]; omega
  · rw [show ((4 : Nat) : Int) + 1 = 5 from rfl]; omega
  · rw [show ((5 : Nat) : Int) + 1 = 6 from rfl]; omega
  · rw [show ((6 : Nat) : Int) + 1 = 7 from rfl]; omega
  · rw [show ((7 : Nat) : Int) + 1 = 8 from rfl]; omega
  · rw [show ((8 : Nat) : Int) + 1 = 9 from rfl]; omega
  · rw [show ((9 : Nat) : Int) + 1 = 10 from rfl]; omega
theorem la_100 {σ : Nat → Int} {c : Nat} (hc : c < 10) (hw : 0 ≤ wel σ c ∧ wel σ c ≤ 999) : la σ c 100 = 0 := by
  rw [la_pow hc]
  have h := hlv_100 (σ 3) c hc
  refine Int.ediv_eq_zero_of_lt hw.1 ?_
  have h2 : (2 : Int) ^ 10 ≤ 2 ^ (hlv (σ 3) c 100) := by
    have := Nat.pow_le_pow_right (n := 2) (by decide) h
    exact_mod_cast this
  have h3 : (2 : Int) ^ 10 = 1024 := by decide
  omega
theorem la_end {σ : Nat → Int} {c k : Nat} (hc : c < 10) (hw : 0 ≤ wel σ c ∧ wel σ c ≤ 999) (h : 1 ≤ la σ c k) : k < 100 := by
  rcases Nat.lt_or_ge k 100 with g | g
  · exact g
  · have e := la_mono hw.1 100 (k - 100)
    rw [show 100 + (k - 100) = k by omega, la_100 hc hw] at e
    omega
theorem ia_minE (x y : Int) : (if y < x then y else x) = min x y := by
  by_cases h : y < x
  · rw [if_pos h]; omega
  · rw [if_neg h]; omega
theorem ia_maxE (x y : Int) : (if x < y then y else x) = max x y := by
  by_cases h : x < y
  · rw [if_pos h]; omega
  · rw [if_neg h]; omega
theorem shr_eq {x : Int} {k : Nat} (hx : 0 ≤ x ∧ x ≤ 999) (hk : k ≤ 31) : ia_shr x (k : Int) = x / 2 ^ k := by
  unfold ia_shr
  have e1 : Int32.ofInt (k : Int) &&& 31 = Int32.ofInt (k : Int) := by
    rcases (show k = 0 ∨ k = 1 ∨ k = 2 ∨ k = 3 ∨ k = 4 ∨ k = 5 ∨ k = 6 ∨ k = 7 ∨ k = 8 ∨ k = 9 ∨ k = 10 ∨ k = 11 ∨ k = 12 ∨ k = 13 ∨ k = 14 ∨ k = 15 ∨ k = 16 ∨ k = 17 ∨ k = 18 ∨ k = 19 ∨ k = 20 ∨ k = 21 ∨ k = 22 ∨ k = 23 ∨ k = 24 ∨ k = 25 ∨ k = 26 ∨ k = 27 ∨ k = 28 ∨ k = 29 ∨ k = 30 ∨ k = 31 by omega) with h | h | h | h | h | h | h | h | h | h | h | h | h | h | h | h | h | h | h | h | h | h | h | h | h | h | h | h | h | h | h | h <;> subst h <;> decide
  have e2 : ((Int32.ofInt (k : Int)).toBitVec.smod 32).toNat = k := by
    rcases (show k = 0 ∨ k = 1 ∨ k = 2 ∨ k = 3 ∨ k = 4 ∨ k = 5 ∨ k = 6 ∨ k = 7 ∨ k = 8 ∨ k = 9 ∨ k = 10 ∨ k = 11 ∨ k = 12 ∨ k = 13 ∨ k = 14 ∨ k = 15 ∨ k = 16 ∨ k = 17 ∨ k = 18 ∨ k = 19 ∨ k = 20 ∨ k = 21 ∨ k = 22 ∨ k = 23 ∨ k = 24 ∨ k = 25 ∨ k = 26 ∨ k = 27 ∨ k = 28 ∨ k = 29 ∨ k = 30 ∨ k = 31 by omega) with h | h | h | h | h | h | h | h | h | h | h | h | h | h | h | h | h | h | h | h | h | h | h | h | h | h | h | h | h | h | h | h <;> subst h <;> decide
  rw [e1]
  show (Int32.ofInt x >>> Int32.ofInt (k : Int)).toBitVec.toInt = _
  rw [Int32.toBitVec_shiftRight, BitVec.toInt_sshiftRight', e2]
  show (Int32.ofInt x).toInt >>> k = _
  rw [ia_toI (by omega), Int.shiftRight_eq_div_pow]
  rfl
theorem halv_eq {σ : Nat → Int} {c h : Int} (hc : 0 ≤ c ∧ c ≤ 9) (hh : 0 ≤ h ∧ h ≤ 1000) (hw : 0 ≤ wel σ c.toNat ∧ wel σ c.toNat ≤ 999) (h3 : 0 ≤ σ 3) : la σ c.toNat h.toNat = ia_shr (wel σ c.toNat) (min ((σ 3 + h) / (c + 1) - σ 3 / (c + 1)) 31) := by
  have e1 : ((c.toNat : Nat) : Int) = c := by omega
  have e2 : ((h.toNat : Nat) : Int) = h := by omega
  have e := dv_mono (σ 3) c.toNat h.toNat (by omega)
  rw [la_pow (by omega)]
  unfold hlv
  rw [e1, e2] at e ⊢
  by_cases g : 31 < (σ 3 + h) / (c + 1) - σ 3 / (c + 1)
  · rw [show min ((σ 3 + h) / (c + 1) - σ 3 / (c + 1)) 31 = 31 by omega]
    have s1 := shr_eq (k := 31) hw (Nat.le_refl _)
    rw [show (((31 : Nat)) : Int) = 31 from rfl] at s1
    rw [s1]
    have z : ∀ n : Nat, 10 ≤ n → wel σ c.toNat / 2 ^ n = 0 := fun n hn => by
      refine Int.ediv_eq_zero_of_lt hw.1 ?_
      have h2 : (2 : Int) ^ 10 ≤ 2 ^ n := by
        have := Nat.pow_le_pow_right (n := 2) (by decide) hn
        exact_mod_cast this
      have h4 : (2 : Int) ^ 10 = 1024 := by decide
      omega
    rw [z _ (by omega), z _ (by omega)]
  · rw [show min ((σ 3 + h) / (c + 1) - σ 3 / (c + 1)) 31 = (σ 3 + h) / (c + 1) - σ 3 / (c + 1) by omega]
    have s1 := shr_eq (x := wel σ c.toNat) (k := ((σ 3 + h) / (c + 1) - σ 3 / (c + 1)).toNat) hw (by omega)
    rw [← s1, show ((((σ 3 + h) / (c + 1) - σ 3 / (c + 1)).toNat : Nat) : Int) = (σ 3 + h) / (c + 1) - σ 3 / (c + 1) by omega]
/-- an hour, its first colours c -/
def fdc (σ : Nat → Int) (c : Nat) : Nat → Int := fun j => if j = 3 then σ 3 + 1 else if 8 ≤ j ∧ j < 8 + c then (if (σ 3 + 1) % ((j : Int) - 7) = 0 then σ j / 2 else σ j) else σ j
def fd (σ : Nat → Int) : Nat → Int := fdc σ 10
def fdN (σ : Nat → Int) : Nat → Nat → Int
  | 0 => σ
  | n + 1 => fd (fdN σ n)
theorem fdc_0 {σ : Nat → Int} : up σ 3 (σ 3 + 1) = fdc σ 0 := by
  funext j
  unfold up fdc
  by_cases h : j = 3
  · rw [if_pos h, if_pos h]
  · rw [if_neg h, if_neg h, if_neg (by omega)]
theorem fdc_3 {σ : Nat → Int} {c : Nat} : fdc σ c 3 = σ 3 + 1 := if_pos rfl
theorem fdc_w {σ : Nat → Int} {c k : Nat} (h : c ≤ k) : fdc σ c (8 + k) = wel σ k := by
  unfold fdc wel
  rw [if_neg (by omega), if_neg (by omega)]
theorem fdc_f {σ : Nat → Int} {c k : Nat} (h : k < c) : wel (fdc σ c) k = if (σ 3 + 1) % ((k : Int) + 1) = 0 then wel σ k / 2 else wel σ k := by
  unfold wel fdc
  rw [if_neg (by omega), if_pos (by omega), show (((8 + k : Nat) : Int) - 7) = (k : Int) + 1 by omega]
theorem fdc_s1 {σ : Nat → Int} {c : Nat} (h : (σ 3 + 1) % ((c : Int) + 1) = 0) : up (fdc σ c) (8 + c) (wel σ c / 2) = fdc σ (c + 1) := by
  funext j
  unfold up fdc wel
  by_cases h1 : j = 8 + c
  · subst h1
    rw [if_pos rfl, if_neg (by omega), if_pos (by omega), if_pos (by rw [show (((8 + c : Nat) : Int) - 7) = (c : Int) + 1 by omega]; exact h)]
  · rw [if_neg h1]
    by_cases h2 : j = 3
    · rw [if_pos h2, if_pos h2]
    · rw [if_neg h2, if_neg h2]
      by_cases h3 : 8 ≤ j ∧ j < 8 + c
      · rw [if_pos h3, if_pos (show 8 ≤ j ∧ j < 8 + (c + 1) by omega)]
      · rw [if_neg h3, if_neg (show ¬ (8 ≤ j ∧ j < 8 + (c + 1)) by omega)]
theorem fdc_s0 {σ : Nat → Int} {c : Nat} (h : ¬ (σ 3 + 1) % ((c : Int) + 1) = 0) : fdc σ c = fdc σ (c + 1) := by
  funext j
  unfold fdc
  by_cases h2 : j = 3
  · rw [if_pos h2, if_pos h2]
  · rw [if_neg h2, if_neg h2]
    by_cases h3 : 8 ≤ j ∧ j < 8 + c
    · rw [if_pos h3, if_pos (show 8 ≤ j ∧ j < 8 + (c + 1) by omega)]
    · rw [if_neg h3]
      by_cases h4 : j = 8 + c
      · subst h4
        rw [if_pos (show 8 ≤ 8 + c ∧ 8 + c < 8 + (c + 1) by omega), if_neg (by rw [show (((8 + c : Nat) : Int) - 7) = (c : Int) + 1 by omega]; exact h)]
      · rw [if_neg (show ¬ (8 ≤ j ∧ j < 8 + (c + 1)) by omega)]
theorem fdc_u0 {σ : Nat → Int} {c : Nat} (h : ¬ (σ 3 + 1) % ((c : Int) + 1) = 0) : up (fdc σ c) (8 + c) (wel σ c) = fdc σ (c + 1) := by
  rw [← fdc_s0 h]
  funext j
  unfold up
  by_cases h1 : j = 8 + c
  · rw [if_pos h1, h1, fdc_w (Nat.le_refl _)]
  · rw [if_neg h1]
theorem psum_s (f : Nat → Int) (n : Nat) : psum f (n + 1) = psum f n + f n := rfl
theorem psum_ext {f g : Nat → Int} : ∀ {n : Nat}, (∀ k, k < n → f k = g k) → psum f n = psum g n
  | 0, _ => rfl
  | n + 1, h => by
    rw [psum_s, psum_s, psum_ext (fun k hk => h k (by omega)), h n (by omega)]
theorem psum_sub {f g h : Nat → Int} (e : ∀ k, h k = f k - g k) : ∀ n : Nat, psum h n = psum f n - psum g n
  | 0 => rfl
  | n + 1 => by
    have := psum_sub e n
    rw [psum_s, psum_s, psum_s, this, e n]
    omega
/-- what the first colours c lose in an hour -/
def lost (σ : Nat → Int) (c : Nat) : Int := psum (wel σ) c - psum (wel (fd σ)) c
theorem lost_0 {σ : Nat → Int} : lost σ 0 = 0 := by
  unfold lost
  show (0 : Int) - 0 = 0
  rfl
theorem fd_w {σ : Nat → Int} {k : Nat} (h : k < 10) : wel (fd σ) k = if (σ 3 + 1) % ((k : Int) + 1) = 0 then wel σ k / 2 else wel σ k := fdc_f h
theorem lost_s1 {σ : Nat → Int} {c : Nat} (hc : c < 10) (h : (σ 3 + 1) % ((c : Int) + 1) = 0) : lost σ (c + 1) = lost σ c + (wel σ c - wel σ c / 2) := by
  unfold lost
  rw [psum_s, psum_s, fd_w hc, if_pos h]
  omega
theorem lost_s0 {σ : Nat → Int} {c : Nat} (hc : c < 10) (h : ¬ (σ 3 + 1) % ((c : Int) + 1) = 0) : lost σ (c + 1) = lost σ c := by
  unfold lost
  rw [psum_s, psum_s, fd_w hc, if_neg h]
  omega
/-- what n hours lose -/
def lostN (σ : Nat → Int) (n : Nat) : Int := psum (wel σ) 10 - psum (wel (fdN σ n)) 10
theorem lostN_0 {σ : Nat → Int} : lostN σ 0 = 0 := by unfold lostN fdN; omega
theorem lostN_s {σ : Nat → Int} {n : Nat} : lostN σ (n + 1) = lostN σ n + lost (fdN σ n) 10 := by
  unfold lostN lost
  show _ - psum (wel (fd (fdN σ n))) 10 = _
  omega
theorem fdN_3 {σ : Nat → Int} : ∀ n : Nat, fdN σ n 3 = σ 3 + (n : Int)
  | 0 => by unfold fdN; omega
  | n + 1 => by
    show fdc (fdN σ n) 10 3 = _
    rw [fdc_3, fdN_3 n]
    omega
theorem fd_o {σ : Nat → Int} {j : Nat} (h : j ≠ 3 ∧ ¬ (8 ≤ j ∧ j < 18)) : fd σ j = σ j := by
  unfold fd fdc
  rw [if_neg h.1, if_neg h.2]
theorem fdN_o {σ : Nat → Int} {j : Nat} (h : j ≠ 3 ∧ ¬ (8 ≤ j ∧ j < 18)) : ∀ n : Nat, fdN σ n j = σ j
  | 0 => rfl
  | n + 1 => (fd_o h).trans (fdN_o h n)
theorem fdN_w {σ : Nat → Int} {c : Nat} (hc : c < 10) : ∀ n : Nat, wel (fdN σ n) c = la σ c n
  | 0 => rfl
  | n + 1 => by
    show wel (fd (fdN σ n)) c = _
    rw [fd_w hc, fdN_w hc n, fdN_3]
    rw [la_s]
    rw [show σ 3 + (n : Int) + 1 = σ 3 + ((n + 1 : Nat) : Int) by omega]
theorem psum_le {f g : Nat → Int} : ∀ n : Nat, (∀ k, k < n → f k ≤ g k) → psum f n ≤ psum g n
  | 0, _ => Int.le_refl _
  | n + 1, h => by
    have := psum_le n (fun k hk => h k (by omega))
    have := h n (by omega)
    rw [psum_s, psum_s]
    omega
theorem psum_c {x : Int} : ∀ n : Nat, psum (fun _ => x) n = (n : Int) * x
  | 0 => by show (0 : Int) = _; rw [Int.natCast_zero, Int.zero_mul]
  | n + 1 => by
    rw [psum_s, psum_c n, Int.natCast_add, Int.add_mul]
    show _ = _ + 1 * x
    rw [Int.one_mul]
theorem lostN_rng {σ : Nat → Int} (hw : ∀ c : Nat, c < 10 → 0 ≤ wel σ c ∧ wel σ c ≤ 999) (n : Nat) : 0 ≤ lostN σ n ∧ lostN σ n ≤ 9990 := by
  have h1 := psum_le (f := wel (fdN σ n)) (g := wel σ) 10 (fun k hk => by rw [fdN_w hk]; have := la_mono (hw k hk).1 0 n; rw [Nat.zero_add] at this; exact this)
  have h2 := psum_le (f := fun _ => (0 : Int)) (g := wel (fdN σ n)) 10 (fun k hk => by rw [fdN_w hk]; exact (la_rng (hw k hk) n).1)
  have h3 := psum_le (f := wel σ) (g := fun _ => (999 : Int)) 10 (fun k hk => (hw k hk).2)
  rw [psum_c] at h2 h3
  unfold lostN
  omega
def s_pass (σ : Nat → Int) (n : Nat) : Nat → Int := up (fdN σ n) 18 (σ 18 + lostN σ n)
-- editions and proofs
def miss (σ : Nat → Int) (e : Nat) : Int := run σ e - prt σ e
def s_pour (σ : Nat → Int) (c : Nat) (u : Int) : Nat → Int := up (up σ (8 + c) (wel σ c + u)) 6 (σ 6 + u)
def s_buy (σ : Nat → Int) (u : Int) : Nat → Int := up σ 2 (σ 2 + u)
def s_add (σ : Nat → Int) (c n : Int) : Nat → Int := up (up (up (up σ (20 + 4 * (σ 0).toNat) c) (20 + 4 * (σ 0).toNat + 1) n) (20 + 4 * (σ 0).toNat + 2) 0) 0 (σ 0 + 1)
/-- the numbers from a on (up to b) come from d further -/
def gapt (σ : Nat → Int) (a b d : Nat) : Nat → Int := fun j => if a ≤ j ∧ j < b then σ (j + d) else σ j
theorem gapt_0 {σ : Nat → Int} {a b d : Nat} (h : b ≤ a) : gapt σ a b d = σ := by
  funext j
  exact if_neg (by omega)
theorem gapt_s {σ : Nat → Int} {a b d : Nat} (h : a ≤ b) : up (gapt σ a b d) b (σ (b + d)) = gapt σ a (b + 1) d := by
  funext j
  unfold up gapt
  by_cases h1 : j = b
  · subst h1
    rw [if_pos rfl, if_pos (by omega)]
  · rw [if_neg h1]
    by_cases h2 : a ≤ j ∧ j < b
    · rw [if_pos h2, if_pos (by omega)]
    · rw [if_neg h2, if_neg (by omega)]
theorem gapt_hi {σ : Nat → Int} {a b d j : Nat} (h : b ≤ j) : gapt σ a b d j = σ j := if_neg (by omega)
theorem gapt_lo {σ : Nat → Int} {a b d j : Nat} (h : j < a) : gapt σ a b d j = σ j := if_neg (by omega)
def s_rem (σ : Nat → Int) (e : Nat) : Nat → Int := gapt (up σ 0 (σ 0 - 1)) (20 + 4 * e) (20 + 4 * (σ 0 - 1).toNat) 4
def s_drop (σ : Nat → Int) (p : Nat) : Nat → Int := gapt (up σ 1 (σ 1 - 1)) (48 + 2 * p) (48 + 2 * (σ 1 - 1).toNat) 2
def s_prove (σ : Nat → Int) (n : Int) : Nat → Int := up (up (up σ (48 + 2 * (σ 1).toNat) n) (48 + 2 * (σ 1).toNat + 1) (σ 3)) 1 (σ 1 + 1)
def wash (a b : Int) : Int := if a ≤ b then b - a else 2 * (a - b) + 1
theorem wash_le {a b : Int} (h : a ≤ b) : wash a b = b - a := if_pos h
theorem wash_gt {a b : Int} (h : ¬ a ≤ b) : wash a b = 2 * (a - b) + 1 := if_neg h
theorem wash_rng {a b : Int} (ha : 0 ≤ a ∧ a ≤ 9) (hb : 0 ≤ b ∧ b ≤ 9) : 0 ≤ wash a b ∧ wash a b ≤ 19 := by
  unfold wash
  by_cases h : a ≤ b
  · rw [if_pos h]; omega
  · rw [if_neg h]; omega
def s_print (σ : Nat → Int) (e : Nat) (n : Int) : Nat → Int := up (up (up (up (up (up σ 5 (σ 5 + (wash (σ 4) (col σ e) + n))) 4 (col σ e)) 2 (σ 2 - n)) (8 + (col σ e).toNat) (wel σ (col σ e).toNat - n)) 7 (σ 7 + n)) (20 + 4 * e + 2) (prt σ e + n)
-- shares
def nsh (σ f : Nat → Int) : Nat → Int
  | 0 => -1
  | k + 1 => if f k < miss σ k ∧ (nsh σ f k < 0 ∨ f k < f (nsh σ f k).toNat) then (k : Int) else nsh σ f k
theorem nsh_rng {σ f : Nat → Int} : ∀ k : Nat, -1 ≤ nsh σ f k ∧ nsh σ f k < (k : Int)
  | 0 => by unfold nsh; omega
  | k + 1 => by
    have := nsh_rng (σ := σ) (f := f) k
    unfold nsh
    by_cases h : f k < miss σ k ∧ (nsh σ f k < 0 ∨ f k < f (nsh σ f k).toNat)
    · rw [if_pos h]; omega
    · rw [if_neg h]; omega
theorem nsh_ext {σ f g : Nat → Int} : ∀ {k : Nat}, (∀ j, j < k → f j = g j) → nsh σ f k = nsh σ g k
  | 0, _ => rfl
  | k + 1, h => by
    have e := nsh_ext (σ := σ) (f := f) (g := g) (k := k) (fun j hj => h j (by omega))
    have r := nsh_rng (σ := σ) (f := g) k
    unfold nsh
    rw [e, h k (by omega)]
    by_cases h0 : nsh σ g k < 0
    · simp [h0]
    · rw [h (nsh σ g k).toNat (by omega)]
def shs (σ : Nat → Int) : Nat → Nat → Int
  | 0 => fun _ => 0
  | n + 1 => if nsh σ (shs σ n) (σ 0).toNat < 0 then shs σ n else up (shs σ n) (nsh σ (shs σ n) (σ 0).toNat).toNat (shs σ n (nsh σ (shs σ n) (σ 0).toNat).toNat + 1)
theorem shs_end {σ : Nat → Int} {n : Nat} (h : nsh σ (shs σ n) (σ 0).toNat < 0) : ∀ k : Nat, shs σ (n + k) = shs σ n
  | 0 => rfl
  | k + 1 => by
    have e := shs_end h k
    show (if nsh σ (shs σ (n + k)) (σ 0).toNat < 0 then shs σ (n + k) else _) = _
    rw [if_pos (by rw [e]; exact h), e]
-- a row of which the first k numbers are given
def mgk (k : Nat) (f g : Nat → Int) : Nat → Int := fun j => if j < k then f j else g j
theorem mgk_lt {k : Nat} {f g : Nat → Int} {j : Nat} (h : j < k) : mgk k f g j = f j := if_pos h
theorem mgk_ge {k : Nat} {f g : Nat → Int} {j : Nat} (h : k ≤ j) : mgk k f g j = g j := if_neg (by omega)
theorem mgk_0 {f g : Nat → Int} : g = mgk 0 f g := by
  funext j
  exact (if_neg (by omega)).symm
theorem mgk_up {k : Nat} {f g : Nat → Int} {x : Int} : up (mgk k f g) k x = mgk (k + 1) (up f k x) g := by
  funext j
  show (if j = k then x else (if j < k then f j else g j)) = (if j < k + 1 then (if j = k then x else f j) else g j)
  by_cases h : j = k
  · rw [if_pos h, if_pos (by omega), if_pos h]
  · rw [if_neg h]
    by_cases h2 : j < k
    · rw [if_pos h2, if_pos (by omega), if_neg h]
    · rw [if_neg h2, if_neg (by omega)]
theorem mgk_in {k i : Nat} {f g : Nat → Int} {x : Int} (hi : i < k) : up (mgk k f g) i x = mgk k (up f i x) g := by
  funext j
  show (if j = i then x else (if j < k then f j else g j)) = (if j < k then (if j = i then x else f j) else g j)
  by_cases h : j = i
  · rw [if_pos h, if_pos (by omega), if_pos h]
  · rw [if_neg h]
    by_cases h2 : j < k
    · rw [if_pos h2, if_pos h2, if_neg h]
    · rw [if_neg h2, if_neg h2]
theorem mgk_z {k : Nat} {g : Nat → Int} : up (mgk k (fun _ => 0) g) k 0 = mgk (k + 1) (fun _ => 0) g := by
  rw [mgk_up]
  congr 1
  funext j
  unfold up
  by_cases h : j = k
  · rw [if_pos h]
  · rw [if_neg h]
theorem shs_s (σ : Nat → Int) (n : Nat) : shs σ (n + 1) = if nsh σ (shs σ n) (σ 0).toNat < 0 then shs σ n else up (shs σ n) (nsh σ (shs σ n) (σ 0).toNat).toNat (shs σ n (nsh σ (shs σ n) (σ 0).toNat).toNat + 1) := rfl
theorem shs_rng {σ : Nat → Int} (j : Nat) : ∀ n : Nat, 0 ≤ shs σ n j ∧ shs σ n j ≤ (n : Int)
  | 0 => by
    show 0 ≤ (0 : Int) ∧ (0 : Int) ≤ ((0 : Nat) : Int)
    omega
  | n + 1 => by
    have ih := shs_rng (σ := σ) j n
    have ih2 := shs_rng (σ := σ) (nsh σ (shs σ n) (σ 0).toNat).toNat n
    rw [shs_s]
    by_cases h : nsh σ (shs σ n) (σ 0).toNat < 0
    · rw [if_pos h]; omega
    · rw [if_neg h]
      unfold up
      by_cases h2 : j = (nsh σ (shs σ n) (σ 0).toNat).toNat
      · rw [if_pos h2]; omega
      · rw [if_neg h2]; omega
theorem nsh_mg {σ f g : Nat → Int} {k : Nat} (hk : k ≤ 7) : nsh σ (mgk 7 f g) k = nsh σ f k := nsh_ext (fun j hj => mgk_lt (by omega))
theorem shs_step {σ ψ : Nat → Int} {s : Nat} {a : Int} (h0 : σ 0 ≤ 7) (ha : a = nsh σ (mgk 7 (shs σ s) ψ) (σ 0).toNat) (h1 : ¬ a < 0) : up (mgk 7 (shs σ s) ψ) a.toNat (mgk 7 (shs σ s) ψ a.toNat + 1) = mgk 7 (shs σ (s + 1)) ψ := by
  rw [nsh_mg (by omega)] at ha
  have r := nsh_rng (σ := σ) (f := shs σ s) (σ 0).toNat
  rw [mgk_in (by omega), mgk_lt (by omega), shs_s, if_neg (by rw [← ha]; exact h1), ← ha]
theorem shs_fin {σ ψ : Nat → Int} {s : Nat} {a : Int} (h0 : σ 0 ≤ 7) (ha : a = nsh σ (mgk 7 (shs σ s) ψ) (σ 0).toNat) (h1 : a < 0) (n : Nat) (hn : s ≤ n) : mgk 7 (shs σ s) ψ = mgk 7 (shs σ n) ψ := by
  rw [nsh_mg (by omega)] at ha
  have := shs_end (σ := σ) (n := s) (by rw [← ha]; exact h1) (n - s)
  rw [show s + (n - s) = n by omega] at this
  rw [this]
-- the order by missing copies
def ahd (σ : Nat → Int) (k : Nat) : Nat → Int
  | 0 => 0
  | o + 1 => ahd σ k o + (if miss σ k < miss σ o ∨ miss σ o = miss σ k ∧ o < k then 1 else 0)
theorem ahd_s (σ : Nat → Int) (k o : Nat) : ahd σ k (o + 1) = ahd σ k o + (if miss σ k < miss σ o ∨ miss σ o = miss σ k ∧ o < k then 1 else 0) := rfl
theorem ahd_1 {σ : Nat → Int} {k o : Nat} (h : miss σ k < miss σ o ∨ miss σ o = miss σ k ∧ o < k) : ahd σ k (o + 1) = ahd σ k o + 1 := by rw [ahd_s, if_pos h]
theorem ahd_n {σ : Nat → Int} {k o : Nat} (h : ¬ (miss σ k < miss σ o ∨ miss σ o = miss σ k ∧ o < k)) : ahd σ k (o + 1) = ahd σ k o := by rw [ahd_s, if_neg h]; omega
theorem ahd_rng {σ : Nat → Int} {k : Nat} : ∀ o : Nat, 0 ≤ ahd σ k o ∧ ahd σ k o ≤ (o : Int)
  | 0 => by unfold ahd; omega
  | o + 1 => by
    have := ahd_rng (σ := σ) (k := k) o
    rw [ahd_s]
    by_cases h : miss σ k < miss σ o ∨ miss σ o = miss σ k ∧ o < k
    · rw [if_pos h]; omega
    · rw [if_neg h]; omega
-- rises
def rin (σ L C : Nat → Int) (k : Nat) : Nat → Int × Int
  | 0 => (1, 1)
  | o + 1 => if mrk σ k ≤ mrk σ o ∨ L o + 1 < (rin σ L C k o).1 then rin σ L C k o else (L o + 1, if (rin σ L C k o).1 < L o + 1 then C o else (rin σ L C k o).2 + C o)
def rtb (σ : Nat → Int) : Nat → (Nat → Int) × (Nat → Int)
  | 0 => (fun _ => 0, fun _ => 0)
  | k + 1 => (up (rtb σ k).1 k (rin σ (rtb σ k).1 (rtb σ k).2 k k).1, up (rtb σ k).2 k (rin σ (rtb σ k).1 (rtb σ k).2 k k).2)
def rmx (σ : Nat → Int) : Nat → Int
  | 0 => 0
  | k + 1 => if rmx σ k < (rin σ (rtb σ k).1 (rtb σ k).2 k k).1 then (rin σ (rtb σ k).1 (rtb σ k).2 k k).1 else rmx σ k
theorem rin_s (σ L C : Nat → Int) (k o : Nat) : rin σ L C k (o + 1) = if mrk σ k ≤ mrk σ o ∨ L o + 1 < (rin σ L C k o).1 then rin σ L C k o else (L o + 1, if (rin σ L C k o).1 < L o + 1 then C o else (rin σ L C k o).2 + C o) := rfl
theorem rin_skip {σ L C : Nat → Int} {k o : Nat} (h : mrk σ k ≤ mrk σ o ∨ L o + 1 < (rin σ L C k o).1) : rin σ L C k (o + 1) = rin σ L C k o := by rw [rin_s, if_pos h]
theorem rin_gt {σ L C : Nat → Int} {k o : Nat} (h : ¬ mrk σ k ≤ mrk σ o) (h2 : (rin σ L C k o).1 < L o + 1) : rin σ L C k (o + 1) = (L o + 1, C o) := by rw [rin_s, if_neg (by omega), if_pos h2]
theorem rin_eq {σ L C : Nat → Int} {k o : Nat} (h : ¬ mrk σ k ≤ mrk σ o) (h2 : L o + 1 = (rin σ L C k o).1) : rin σ L C k (o + 1) = (L o + 1, (rin σ L C k o).2 + C o) := by rw [rin_s, if_neg (by omega), if_neg (by omega)]
theorem rin_rng {σ L C : Nat → Int} {k : Nat} (hL : ∀ j, j < k → 1 ≤ L j ∧ L j ≤ (j : Int) + 1) : ∀ o : Nat, o ≤ k → 1 ≤ (rin σ L C k o).1 ∧ (rin σ L C k o).1 ≤ (o : Int) + 1
  | 0, _ => by
    show 1 ≤ (1 : Int) ∧ (1 : Int) ≤ _
    omega
  | o + 1, h => by
    have ih := rin_rng (σ := σ) (C := C) hL o (by omega)
    have := hL o (by omega)
    rw [rin_s]
    by_cases h2 : mrk σ k ≤ mrk σ o ∨ L o + 1 < (rin σ L C k o).1
    · rw [if_pos h2]; omega
    · rw [if_neg h2]
      show 1 ≤ L o + 1 ∧ L o + 1 ≤ _
      omega
theorem rtb_s1 (σ : Nat → Int) (k : Nat) : (rtb σ (k + 1)).1 = up (rtb σ k).1 k (rin σ (rtb σ k).1 (rtb σ k).2 k k).1 := rfl
theorem rtb_s2 (σ : Nat → Int) (k : Nat) : (rtb σ (k + 1)).2 = up (rtb σ k).2 k (rin σ (rtb σ k).1 (rtb σ k).2 k k).2 := rfl
theorem rtb_rng {σ : Nat → Int} : ∀ k j : Nat, j < k → 1 ≤ (rtb σ k).1 j ∧ (rtb σ k).1 j ≤ (j : Int) + 1
  | 0, j, h => absurd h (Nat.not_lt_zero _)
  | k + 1, j, h => by
    have ih := rtb_rng (σ := σ) k
    rw [rtb_s1]
    unfold up
    by_cases h2 : j = k
    · rw [if_pos h2]
      have := rin_rng (σ := σ) (C := (rtb σ k).2) ih k (Nat.le_refl _)
      omega
    · rw [if_neg h2]
      exact ih j (by omega)
theorem rmx_s (σ : Nat → Int) (k : Nat) : rmx σ (k + 1) = if rmx σ k < (rin σ (rtb σ k).1 (rtb σ k).2 k k).1 then (rin σ (rtb σ k).1 (rtb σ k).2 k k).1 else rmx σ k := rfl
theorem rmx_rng {σ : Nat → Int} : ∀ k : Nat, 0 ≤ rmx σ k ∧ rmx σ k ≤ (k : Int)
  | 0 => by unfold rmx; omega
  | k + 1 => by
    have ih := rmx_rng (σ := σ) k
    have r := rin_rng (σ := σ) (C := (rtb σ k).2) (rtb_rng (σ := σ) k) k (Nat.le_refl _)
    rw [rmx_s]
    by_cases h : rmx σ k < (rin σ (rtb σ k).1 (rtb σ k).2 k k).1
    · rw [if_pos h]; omega
    · rw [if_neg h]; omega
/-- how many longest rises there are -/
def rcf (σ : Nat → Int) (n k : Nat) : Int := if (rtb σ n).1 k = rmx σ n then (rtb σ n).2 k else 0
theorem rcf_1 {σ : Nat → Int} {n k : Nat} (h : (rtb σ n).1 k = rmx σ n) : rcf σ n k = (rtb σ n).2 k := if_pos h
theorem rcf_0 {σ : Nat → Int} {n k : Nat} (h : ¬ (rtb σ n).1 k = rmx σ n) : rcf σ n k = 0 := if_neg h
def rct (σ : Nat → Int) (n : Nat) : Int := (if rmx σ n = 0 then 1 else 0) + psum (rcf σ n) n
