/-! the minutes by all orders are the fewest (made by wip/whole/mkspec8.py) -/
theorem fmn_spec (g : Nat → Int) : ∀ k : Nat, (∀ i : Nat, i < k → fmn g k ≤ g i) ∧ fmn g k ≤ 1000 ∧ (fmn g k = 1000 ∨ ∃ i : Nat, i < k ∧ fmn g k = g i)
  | 0 => ⟨fun i h => absurd h (Nat.not_lt_zero _), Int.le_refl _, Or.inl rfl⟩
  | k + 1 => by
    obtain ⟨h1, h2, h3⟩ := fmn_spec g k
    rw [fmn_s]
    refine ⟨fun i hi => ?_, by omega, ?_⟩
    · rcases Nat.lt_or_ge i k with q | q
      · have := h1 i q; omega
      · rw [show i = k by omega]; omega
    · rcases Int.lt_or_le (g k) (fmn g k) with q | q
      · exact Or.inr ⟨k, by omega, by omega⟩
      · rcases h3 with e | ⟨i, hi, e⟩
        · exact Or.inl (by omega)
        · exact Or.inr ⟨i, by omega, by omega⟩
def rl (r : Nat → Int) : Nat → Nat → List Int
  | _, 0 => []
  | a, n + 1 => r a :: rl r (a + 1) n
theorem rl_ext {r r' : Nat → Int} : ∀ (n a : Nat), (∀ k : Nat, a ≤ k → k < a + n → r k = r' k) → rl r a n = rl r' a n
  | 0, _, _ => rfl
  | n + 1, a, h => by
    show r a :: rl r (a + 1) n = r' a :: rl r' (a + 1) n
    rw [h a (by omega) (by omega), rl_ext n (a + 1) (fun k h1 h2 => h k (by omega) (by omega))]
theorem rl_mem {r : Nat → Int} {v : Int} : ∀ (n a : Nat), v ∈ rl r a n → ∃ i : Nat, i < n ∧ r (a + i) = v
  | 0, _, h => absurd h List.not_mem_nil
  | n + 1, a, h => by
    rcases List.mem_cons.mp h with e | e
    · exact ⟨0, by omega, e.symm⟩
    · obtain ⟨i, h1, h2⟩ := rl_mem n (a + 1) e
      exact ⟨i + 1, by omega, by rw [show a + (i + 1) = a + 1 + i by omega]; exact h2⟩
theorem rl_in {r : Nat → Int} : ∀ (n a i : Nat), i < n → r (a + i) ∈ rl r a n
  | 0, _, _, h => absurd h (Nat.not_lt_zero _)
  | n + 1, a, 0, _ => List.mem_cons_self
  | n + 1, a, i + 1, h => by
    rw [show a + (i + 1) = a + 1 + i by omega]
    exact List.mem_cons_of_mem _ (rl_in n (a + 1) i (by omega))
theorem rl_up {r : Nat → Int} {v : Int} : ∀ (n b j : Nat), b ≤ j → j < b + n → (v :: rl r b n).Perm (r j :: rl (up r j v) b n)
  | 0, b, j, h1, h2 => by omega
  | n + 1, b, j, h1, h2 => by
    show (v :: r b :: rl r (b + 1) n).Perm (r j :: up r j v b :: rl (up r j v) (b + 1) n)
    by_cases q : j = b
    · subst q
      rw [up_self, rl_ext (r := up r j v) (r' := r) n (j + 1) (fun k g1 g2 => up_ne (by omega))]
      exact List.Perm.swap _ _ _
    · rw [up_ne (show b ≠ j by omega)]
      exact ((List.Perm.swap _ _ _).trans ((rl_up n (b + 1) j (by omega) (by omega)).cons (r b))).trans (List.Perm.swap _ _ _)
theorem rl_swp {r : Nat → Int} {a n i : Nat} (hi : i < n + 1) : (rl r a (n + 1)).Perm (r (a + i) :: rl (swp r a (a + i)) (a + 1) n) := by
  have e : rl (swp r a (a + i)) (a + 1) n = rl (up r (a + i) (r a)) (a + 1) n := rl_ext n (a + 1) (fun k h1 h2 => by
    unfold swp
    by_cases q : k = a + i
    · rw [q, up_self, up_self]
    · rw [up_ne q, up_ne q, up_ne (by omega)])
  rw [e]
  show (r a :: rl r (a + 1) n).Perm _
  rcases Nat.eq_zero_or_pos i with q | q
  · subst q
    show (r a :: rl r (a + 1) n).Perm (r a :: rl (up r a (r a)) (a + 1) n)
    rw [rl_ext (r := up r a (r a)) (r' := r) n (a + 1) (fun k g1 g2 => up_ne (by omega))]
  · exact rl_up n (a + 1) (a + i) (by omega) (by omega)
theorem kr_mcl {cl : Nat → Int} : ∀ (n : Nat) (r : Nat → Int) (a : Nat) (p : Int) (L : List Nat), L.length = n → n ≤ 50 → (rl r a n).Perm (L.map cl) → (∀ x, x ∈ L → 0 ≤ cl x ∧ cl x ≤ 9) → 0 ≤ p ∧ p ≤ 9 → kr n r a p = mcl cl p L
  | 0, r, a, p, L, hn, _, _, _, _ => by
    rw [List.eq_nil_of_length_eq_zero hn]
    rfl
  | n + 1, r, a, p, L, hn, h50, hP, hr, hp => by
    have hg : ∀ (i : Nat) (x : Nat), i < n + 1 → x ∈ L → r (a + i) = cl x → wash p (r (a + i)) + kr n (swp r a (a + i)) (a + 1) (r (a + i)) = mof cl p L x := by
      intro i x hi hx e
      have h1 : (r (a + i) :: rl (swp r a (a + i)) (a + 1) n).Perm (cl x :: (L.erase x).map cl) := ((rl_swp hi).symm.trans hP).trans ((List.perm_cons_erase hx).map cl)
      rw [e] at h1
      have h2 := h1.cons_inv
      rw [e, kr_mcl n _ (a + 1) (cl x) (L.erase x) (by rw [List.length_erase_of_mem hx, hn]; rfl) (by omega) h2 (fun y hy => hr y (List.mem_of_mem_erase hy)) (hr x hx)]
      rfl
    have hL : L ≠ [] := fun e => by rw [e] at hn; cases hn
    obtain ⟨pp, s, x0, e1, e2, f1, f2⟩ := chs_spec (mof cl p L) hL
    have hx0 : x0 ∈ L := by rw [e1]; exact List.mem_append_right _ List.mem_cons_self
    have hv : mcl cl p L = mof cl p L x0 := by rw [mcl_s, e2]
    have hle : ∀ x, x ∈ L → mof cl p L x0 ≤ mof cl p L x := fun x hx => by
      rw [e1] at hx
      rcases List.mem_append.mp hx with q | q
      · exact Int.le_of_lt (f1 x q)
      · rcases List.mem_cons.mp q with q | q
        · rw [q]; exact Int.le_refl _
        · exact f2 x q
    obtain ⟨i0, hi0, ei0⟩ := rl_mem (n + 1) a (hP.symm.subset (List.mem_map.mpr ⟨x0, hx0, rfl⟩))
    obtain ⟨s1, s2, s3⟩ := fmn_spec (fun i => wash p (r (a + i)) + kr n (swp r a (a + i)) (a + 1) (r (a + i))) (n + 1)
    have t1 := s1 i0 hi0
    have t2 := hg i0 x0 hi0 hx0 ei0
    have hrng := mcl_rng hr hp
    rw [hn] at hrng
    show fmn (fun i => wash p (r (a + i)) + kr n (swp r a (a + i)) (a + 1) (r (a + i))) (n + 1) = _
    rw [hv] at hrng ⊢
    have t3 : fmn (fun i => wash p (r (a + i)) + kr n (swp r a (a + i)) (a + 1) (r (a + i))) (n + 1) ≤ mof cl p L x0 := Int.le_trans t1 (Int.le_of_eq t2)
    rcases s3 with e | ⟨i, hi, e⟩
    · omega
    · obtain ⟨x, hx, ex⟩ := List.mem_map.mp (hP.subset (rl_in (n + 1) a i hi))
      have t4 := hg i x hi hx ex.symm
      have t5 := hle x hx
      have t6 : fmn (fun i => wash p (r (a + i)) + kr n (swp r a (a + i)) (a + 1) (r (a + i))) (n + 1) = mof cl p L x := e.trans t4
      omega
theorem rl_s {r : Nat → Int} : ∀ (n a : Nat), rl r a (n + 1) = rl r a n ++ [r (a + n)]
  | 0, _ => rfl
  | n + 1, a => by
    show r a :: rl r (a + 1) (n + 1) = (r a :: rl r (a + 1) n) ++ [r (a + (n + 1))]
    rw [rl_s n (a + 1), show a + (n + 1) = a + 1 + n by omega]
    rfl
theorem rl_lot {r : Nat → Int} : ∀ n : Nat, rl r 0 n = (lot 0 n).map r
  | 0 => rfl
  | n + 1 => by rw [rl_s, lot0_s, List.map_append, rl_lot n, Nat.zero_add]; rfl
theorem ord_kr {σ : Nat → Int} {m : Int} (hI : SI σ m) : kr (oc σ (σ 0).toNat) (oC σ (σ 0).toNat) 0 (σ 4) = mcl (col σ) (σ 4) (lin (opb σ (σ 0).toNat) (σ 0).toNat) := by
  obtain ⟨s0, s1, s2, s3, s4, s5, s6, s7, s18, sb, sw, se, sp⟩ := hI
  have h7 := oc_le (σ := σ) (σ 0).toNat
  rw [← ord_mcl (by omega)]
  refine kr_mcl (oc σ (σ 0).toNat) _ 0 (σ 4) (lot 0 (oc σ (σ 0).toNat)) (lot_len _) (by omega) (by rw [rl_lot]) (fun x hx => ?_) s4
  obtain ⟨g1, g2, g3, g4⟩ := og_lt ((lot_mem _).mp hx).1
  rw [g4]
  exact (se _ (by omega)).1
