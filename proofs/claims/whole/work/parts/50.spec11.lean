/-! the ranks by missing copies are all taken (made by wip/whole/mkspec11.py) -/
def bef (σ : Nat → Int) (o k : Nat) : Prop := miss σ k < miss σ o ∨ miss σ o = miss σ k ∧ o < k
theorem ahd_b1 {σ : Nat → Int} {k o : Nat} (h : bef σ o k) : ahd σ k (o + 1) = ahd σ k o + 1 := ahd_1 h
theorem ahd_b0 {σ : Nat → Int} {k o : Nat} (h : ¬ bef σ o k) : ahd σ k (o + 1) = ahd σ k o := ahd_n h
theorem ahd_mono {σ : Nat → Int} {j k : Nat} (h : bef σ j k) : ∀ o : Nat, ahd σ j o ≤ ahd σ k o ∧ (j < o → ahd σ j o + 1 ≤ ahd σ k o)
  | 0 => ⟨Int.le_refl _, fun q => absurd q (Nat.not_lt_zero _)⟩
  | o + 1 => by
    obtain ⟨h1, h2⟩ := ahd_mono h o
    have hk := h
    unfold bef at hk
    by_cases a : bef σ o j
    · have b : bef σ o k := by unfold bef at a ⊢; omega
      rw [ahd_b1 a, ahd_b1 b]
      refine ⟨by omega, fun q => ?_⟩
      have : j ≠ o := fun e => by subst e; unfold bef at a; omega
      have := h2 (by omega)
      omega
    · rw [ahd_b0 a]
      by_cases b : bef σ o k
      · rw [ahd_b1 b]
        exact ⟨by omega, fun q => by omega⟩
      · rw [ahd_b0 b]
        refine ⟨h1, fun q => ?_⟩
        have : j ≠ o := fun e => by subst e; exact b h
        exact h2 (by omega)
theorem ahd_all {σ : Nat → Int} : ∀ (n : Nat) (e : Int), 0 ≤ e → e < (n : Int) → ∃ j : Nat, j < n ∧ ahd σ j n = e
  | 0, e, h1, h2 => by omega
  | n + 1, e, h1, h2 => by
    have hr := ahd_rng (σ := σ) (k := n) n
    have hn : ahd σ n (n + 1) = ahd σ n n := ahd_b0 (by unfold bef; omega)
    rcases Int.lt_trichotomy e (ahd σ n n) with q | q | q
    · obtain ⟨j, hj, ej⟩ := ahd_all (σ := σ) n e h1 (by omega)
      refine ⟨j, by omega, ?_⟩
      by_cases b : bef σ n j
      · have := (ahd_mono b n).1
        omega
      · rw [ahd_b0 b]; exact ej
    · exact ⟨n, by omega, hn.trans q.symm⟩
    · obtain ⟨j, hj, ej⟩ := ahd_all (σ := σ) n (e - 1) (by omega) (by omega)
      refine ⟨j, by omega, ?_⟩
      by_cases b : bef σ n j
      · rw [ahd_b1 b]; omega
      · have b2 : bef σ j n := by unfold bef at b ⊢; omega
        have := (ahd_mono b2 n).2 hj
        omega
