/-! the class's order is the model's; the printing of all (made by wip/whole/mkspec6.py) -/
theorem chl_keep {f : Nat → Int} : ∀ (s : List Nat) (a : Int × Int), 0 ≤ a.1 → (∀ y, y ∈ s → a.2 ≤ f y) → chl f a s = a
  | [], _, _, _ => rfl
  | z :: t, a, h, h2 => by
    show chl f (if a.1 < 0 ∨ f z < a.2 then ((z : Int), f z) else a) t = a
    have := h2 z List.mem_cons_self
    rw [if_neg (by omega)]
    exact chl_keep t a h (fun y hy => h2 y (List.mem_cons_of_mem _ hy))
theorem chl_take {f : Nat → Int} {x : Nat} {s : List Nat} (h2 : ∀ y, y ∈ s → f x ≤ f y) : ∀ (p : List Nat) (a : Int × Int), (a.1 < 0 ∨ f x < a.2) → (∀ y, y ∈ p → f x < f y) → chl f a (p ++ x :: s) = ((x : Int), f x)
  | [], a, h, _ => by
    show chl f (if a.1 < 0 ∨ f x < a.2 then ((x : Int), f x) else a) s = _
    rw [if_pos h]
    exact chl_keep s _ (by show (0 : Int) ≤ (x : Int); omega) h2
  | z :: t, a, h, hp => by
    show chl f (if a.1 < 0 ∨ f z < a.2 then ((z : Int), f z) else a) (t ++ x :: s) = _
    refine chl_take h2 t _ ?_ (fun y hy => hp y (List.mem_cons_of_mem _ hy))
    by_cases g : a.1 < 0 ∨ f z < a.2
    · rw [if_pos g]; exact Or.inr (hp z List.mem_cons_self)
    · rw [if_neg g]; exact h
theorem chs_uniq {f : Nat → Int} {p s : List Nat} {x : Nat} (h1 : ∀ y, y ∈ p → f x < f y) (h2 : ∀ y, y ∈ s → f x ≤ f y) : chs f (p ++ x :: s) = ((x : Int), f x) := chl_take h2 p _ (Or.inl (by decide)) h1
theorem chs_map {f : Nat → Int} {g : Nat → Nat} {L : List Nat} (h : L ≠ []) : ∃ x : Nat, x ∈ L ∧ chs (fun y => f (g y)) L = ((x : Int), f (g x)) ∧ chs f (L.map g) = ((g x : Int), f (g x)) := by
  obtain ⟨p, s, x, e1, e2, h1, h2⟩ := chs_spec (fun y => f (g y)) h
  refine ⟨x, by rw [e1]; exact List.mem_append_right _ List.mem_cons_self, e2, ?_⟩
  rw [e1, List.map_append, List.map_cons]
  refine chs_uniq (fun y hy => ?_) (fun y hy => ?_)
  · obtain ⟨z, hz, rfl⟩ := List.mem_map.mp hy
    exact h1 z hz
  · obtain ⟨z, hz, rfl⟩ := List.mem_map.mp hy
    exact h2 z hz
theorem er_map {g : Nat → Nat} : ∀ (L : List Nat) (x : Nat), (∀ y, y ∈ L → g y = g x → y = x) → (L.map g).erase (g x) = (L.erase x).map g
  | [], _, _ => rfl
  | z :: t, x, h => by
    by_cases e : z = x
    · subst e
      rw [List.map_cons, List.erase_cons_head, List.erase_cons_head]
    · have e2 : g z ≠ g x := fun q => e (h z List.mem_cons_self q)
      rw [List.map_cons, List.erase_cons_tail (by simpa using e2), List.erase_cons_tail (by simpa using e), List.map_cons, er_map t x (fun y hy => h y (List.mem_cons_of_mem _ hy))]
def inj (g : Nat → Nat) (L : List Nat) : Prop := ∀ x, x ∈ L → ∀ y, y ∈ L → g y = g x → y = x
theorem inj_e {g : Nat → Nat} {L : List Nat} (h : inj g L) (x : Nat) : inj g (L.erase x) := fun a ha b hb => h a (List.mem_of_mem_erase ha) b (List.mem_of_mem_erase hb)
theorem mc_map {cl : Nat → Int} {g : Nat → Nat} : ∀ (n : Nat) (c : Int) (L : List Nat), inj g L → mc cl n c (L.map g) = mc (fun y => cl (g y)) n c L
  | 0, _, _, _ => rfl
  | n + 1, c, L, h => by
    show (chs (fun x => wash c (cl x) + mc cl n (cl x) ((L.map g).erase x)) (L.map g)).2 = (chs (fun x => wash c (cl (g x)) + mc (fun y => cl (g y)) n (cl (g x)) (L.erase x)) L).2
    by_cases hL : L = []
    · subst hL; rfl
    · obtain ⟨x, hx, e1, e2⟩ := chs_map (f := fun x => wash c (cl x) + mc cl n (cl x) ((L.map g).erase x)) (g := g) hL
      rw [e2]
      rw [← chs_ext (f := fun y => wash c (cl (g y)) + mc cl n (cl (g y)) ((L.map g).erase (g y)))] 
      · rw [e1]
      · intro y hy
        show wash c (cl (g y)) + mc cl n (cl (g y)) ((L.map g).erase (g y)) = wash c (cl (g y)) + mc (fun y => cl (g y)) n (cl (g y)) (L.erase y)
        rw [er_map L y (fun z hz => h y hy z hz), mc_map n (cl (g y)) (L.erase y) (inj_e h y)]
theorem mcl_map {cl : Nat → Int} {g : Nat → Nat} {c : Int} {L : List Nat} (h : inj g L) : mcl cl c (L.map g) = mcl (fun y => cl (g y)) c L := by
  unfold mcl
  rw [List.length_map]
  exact mc_map _ c L h
theorem mo_map {cl : Nat → Int} {g : Nat → Nat} : ∀ (n : Nat) (c : Int) (L : List Nat), L.length = n → inj g L → mo cl n c (L.map g) = (mo (fun y => cl (g y)) n c L).map g
  | 0, _, _, _, _ => rfl
  | n + 1, c, L, hn, h => by
    have hL : L ≠ [] := fun e => by rw [e] at hn; cases hn
    obtain ⟨x, hx, e1, e2⟩ := chs_map (f := mof cl c (L.map g)) (g := g) hL
    have e3 : chs (mof (fun y => cl (g y)) c L) L = ((x : Int), mof cl c (L.map g) (g x)) := by
      rw [← e1]
      refine chs_ext (fun y hy => ?_)
      show wash c (cl (g y)) + mcl (fun y => cl (g y)) (cl (g y)) (L.erase y) = wash c (cl (g y)) + mcl cl (cl (g y)) ((L.map g).erase (g y))
      rw [er_map L y (fun z hz => h y hy z hz), mcl_map (inj_e h y)]
    show (if (chs (mof cl c (L.map g)) (L.map g)).1 < 0 then [] else (chs (mof cl c (L.map g)) (L.map g)).1.toNat :: mo cl n (cl (chs (mof cl c (L.map g)) (L.map g)).1.toNat) ((L.map g).erase (chs (mof cl c (L.map g)) (L.map g)).1.toNat)) = (if (chs (mof (fun y => cl (g y)) c L) L).1 < 0 then [] else (chs (mof (fun y => cl (g y)) c L) L).1.toNat :: mo (fun y => cl (g y)) n (cl (g (chs (mof (fun y => cl (g y)) c L) L).1.toNat)) (L.erase (chs (mof (fun y => cl (g y)) c L) L).1.toNat)).map g
    rw [e2, e3]
    show (if (g x : Int) < 0 then [] else (g x : Int).toNat :: mo cl n (cl (g x : Int).toNat) ((L.map g).erase (g x : Int).toNat)) = (if (x : Int) < 0 then [] else (x : Int).toNat :: mo (fun y => cl (g y)) n (cl (g (x : Int).toNat)) (L.erase (x : Int).toNat)).map g
    rw [if_neg (by omega), if_neg (by omega), Int.toNat_natCast, Int.toNat_natCast, List.map_cons, er_map L x (fun z hz => h x hx z hz), mo_map n (cl (g x)) (L.erase x) (by rw [List.length_erase_of_mem hx, hn]; rfl) (inj_e h x)]
theorem mol_map {cl : Nat → Int} {g : Nat → Nat} {c : Int} {L : List Nat} (h : inj g L) : mol cl c (L.map g) = (mol (fun y => cl (g y)) c L).map g := by
  unfold mol
  rw [List.length_map]
  exact mo_map _ c L rfl h
/-- the number of the i-th open edition -/
def og (σ : Nat → Int) (k i : Nat) : Nat := (oO σ k i).toNat
theorem og_1 {σ : Nat → Int} {k : Nat} (h : 0 < miss σ k) : og σ (k + 1) (oc σ k) = k := by unfold og; rw [oO_1 h, up_self]; rfl
theorem og_k {σ : Nat → Int} {k i : Nat} (hi : i < oc σ k) : og σ (k + 1) i = og σ k i := by
  unfold og
  by_cases h : 0 < miss σ k
  · rw [oO_1 h, up_ne (by omega)]
  · rw [oO_0 h]
theorem og_lt {σ : Nat → Int} {k i : Nat} (hi : i < oc σ k) : og σ k i < k ∧ 0 < miss σ (og σ k i) ∧ oO σ k i = (og σ k i : Int) ∧ oC σ k i = col σ (og σ k i) := by
  obtain ⟨e, h1, h2, h3, h4⟩ := oO_spec (σ := σ) k i hi
  have e9 : og σ k i = e := by unfold og; rw [h2]; rfl
  rw [e9]
  exact ⟨h1, h4, h2, h3⟩
theorem og_inj {σ : Nat → Int} : ∀ k i j : Nat, i < oc σ k → j < oc σ k → og σ k i = og σ k j → i = j
  | 0, i, _, h, _, _ => absurd h (Nat.not_lt_zero _)
  | k + 1, i, j, hi, hj, e => by
    by_cases h : 0 < miss σ k
    · rw [oc_1 h] at hi hj
      rcases Nat.lt_or_ge i (oc σ k) with a | a
      · rcases Nat.lt_or_ge j (oc σ k) with b | b
        · rw [og_k a, og_k b] at e
          exact og_inj k i j a b e
        · rw [show j = oc σ k by omega, og_1 h, og_k a] at e
          have := (og_lt a).1
          omega
      · rcases Nat.lt_or_ge j (oc σ k) with b | b
        · rw [show i = oc σ k by omega, og_1 h, og_k b] at e
          have := (og_lt b).1
          omega
        · omega
    · rw [oc_0 h] at hi hj
      rw [og_k hi, og_k hj] at e
      exact og_inj k i j hi hj e
theorem lot0_s (n : Nat) : lot 0 (n + 1) = lot 0 n ++ [n] := lot_0 (by rw [Nat.zero_testBit]; decide)
theorem lin_og {σ : Nat → Int} {N : Nat} (hN : N ≤ 7) : ∀ k : Nat, k ≤ N → lin (opb σ N) k = (lot 0 (oc σ k)).map (og σ k)
  | 0, _ => rfl
  | k + 1, hk => by
    have ih := lin_og (σ := σ) hN k (by omega)
    have hb := opb_bit (σ := σ) N hN k (by omega)
    have hm : (lot 0 (oc σ k)).map (og σ (k + 1)) = (lot 0 (oc σ k)).map (og σ k) := List.map_congr_left (fun i hi => og_k ((lot_mem _).mp hi).1)
    by_cases h : 0 < miss σ k
    · rw [lin_1 (by rw [hb]; simp [h]; omega), ih, oc_1 h, lot0_s, List.map_append, List.map_cons, List.map_nil, og_1 h, hm]
    · rw [lin_n (by rw [hb]; simp [h]), ih, oc_0 h, hm]
def opm (σ : Nat → Int) : List Nat := mol (col σ) (σ 4) (lin (opb σ (σ 0).toNat) (σ 0).toNat)
section OPM
variable {σ : Nat → Int} {m : Int}
theorem og_i (σ : Nat → Int) (k : Nat) : inj (og σ k) (lot 0 (oc σ k)) := fun x hx y hy e => og_inj k y x ((lot_mem _).mp hy).1 ((lot_mem _).mp hx).1 e
theorem ord_len (h7 : (σ 0).toNat ≤ 7) : (lin (opb σ (σ 0).toNat) (σ 0).toNat).length = oc σ (σ 0).toNat := by rw [lin_og h7 _ (Nat.le_refl _), List.length_map, lot_len]
theorem ord_mcl (h7 : (σ 0).toNat ≤ 7) : mcl (oC σ (σ 0).toNat) (σ 4) (lot 0 (oc σ (σ 0).toNat)) = mcl (col σ) (σ 4) (lin (opb σ (σ 0).toNat) (σ 0).toNat) := by
  rw [lin_og h7 _ (Nat.le_refl _), mcl_map (og_i σ _)]
  exact mcl_ext (fun x hx => (og_lt ((lot_mem _).mp hx).1).2.2.2)
theorem ord_mol (h7 : (σ 0).toNat ≤ 7) : opm σ = (mol (oC σ (σ 0).toNat) (σ 4) (lot 0 (oc σ (σ 0).toNat))).map (og σ (σ 0).toNat) := by
  unfold opm
  rw [lin_og h7 _ (Nat.le_refl _), mol_map (og_i σ _)]
  exact congrArg _ (mol_ext (fun x hx => ((og_lt ((lot_mem _).mp hx).1).2.2.2).symm))
theorem opm_len (h7 : (σ 0).toNat ≤ 7) : (opm σ).length = oc σ (σ 0).toNat := by unfold opm; rw [mol_len, ord_len h7]
theorem ord_at (h7 : (σ 0).toNat ≤ 7) {i : Nat} (hi : i < oc σ (σ 0).toNat) : oO σ (σ 0).toNat ((mol (oC σ (σ 0).toNat) (σ 4) (lot 0 (oc σ (σ 0).toNat))).getD i 0) = (((opm σ).getD i 0 : Nat) : Int) := by
  have hl : i < (mol (oC σ (σ 0).toNat) (σ 4) (lot 0 (oc σ (σ 0).toNat))).length := by rw [mol_len, lot_len]; exact hi
  rw [ord_mol h7, List.getD_eq_getElem?_getD, List.getD_eq_getElem?_getD, List.getElem?_map, List.getElem?_eq_getElem hl]
  show oO σ _ _ = ((og σ _ _ : Nat) : Int)
  refine (og_lt ?_).2.2.1
  have := mol_lt (cl := oC σ (σ 0).toNat) (c := σ 4) (n := oc σ (σ 0).toNat) (i := i) hi
  rw [List.getD_eq_getElem?_getD, List.getElem?_eq_getElem hl] at this
  exact this
end OPM
