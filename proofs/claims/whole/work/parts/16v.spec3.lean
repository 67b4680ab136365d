/-! the best order, over lists of indices (made by wip/whole/mkspec3.py) -/
/-- the first of the best: (index, value), (-1, 0) when there is none -/
def chl (f : Nat → Int) (a : Int × Int) : List Nat → Int × Int
  | [] => a
  | x :: t => chl f (if a.1 < 0 ∨ f x < a.2 then ((x : Int), f x) else a) t
def chs (f : Nat → Int) (L : List Nat) : Int × Int := chl f (-1, 0) L
theorem chl_app (f : Nat → Int) : ∀ (L : List Nat) (a : Int × Int) (x : Nat), chl f a (L ++ [x]) = (if (chl f a L).1 < 0 ∨ f x < (chl f a L).2 then ((x : Int), f x) else chl f a L)
  | [], _, _ => rfl
  | _ :: t, _, x => chl_app f t _ x
theorem chs_app (f : Nat → Int) (L : List Nat) (x : Nat) : chs f (L ++ [x]) = (if (chs f L).1 < 0 ∨ f x < (chs f L).2 then ((x : Int), f x) else chs f L) := chl_app f L _ x
theorem chs_1 {f : Nat → Int} {L : List Nat} {x : Nat} (h : (chs f L).1 < 0 ∨ f x < (chs f L).2) : chs f (L ++ [x]) = ((x : Int), f x) := by rw [chs_app, if_pos h]
theorem chs_0 {f : Nat → Int} {L : List Nat} {x : Nat} (h : ¬ ((chs f L).1 < 0 ∨ f x < (chs f L).2)) : chs f (L ++ [x]) = chs f L := by rw [chs_app, if_neg h]
theorem chl_ext {f g : Nat → Int} : ∀ (L : List Nat) (a : Int × Int), (∀ x, x ∈ L → f x = g x) → chl f a L = chl g a L
  | [], _, _ => rfl
  | x :: t, a, h => by
    show chl f (if a.1 < 0 ∨ f x < a.2 then ((x : Int), f x) else a) t = chl g (if a.1 < 0 ∨ g x < a.2 then ((x : Int), g x) else a) t
    rw [h x List.mem_cons_self]
    exact chl_ext t _ (fun y hy => h y (List.mem_cons_of_mem _ hy))
theorem chs_ext {f g : Nat → Int} {L : List Nat} (h : ∀ x, x ∈ L → f x = g x) : chs f L = chs g L := chl_ext L _ h
/-- what is known of the choice: nothing of an empty list, else a member, its value, least, and less than those ahead of it -/
theorem chl_spec (f : Nat → Int) : ∀ (L : List Nat) (a : Int × Int), 0 ≤ a.1 → (chl f a L = a ∧ ∀ y, y ∈ L → a.2 ≤ f y) ∨ ∃ (p s : List Nat) (x : Nat), L = p ++ x :: s ∧ chl f a L = ((x : Int), f x) ∧ f x < a.2 ∧ (∀ y, y ∈ p → f x < f y) ∧ ∀ y, y ∈ s → f x ≤ f y
  | [], _, _ => Or.inl ⟨rfl, fun _ h => absurd h List.not_mem_nil⟩
  | z :: t, a, ha => by
    show (chl f (if a.1 < 0 ∨ f z < a.2 then ((z : Int), f z) else a) t = a ∧ _) ∨ _
    by_cases c : a.1 < 0 ∨ f z < a.2
    · have hz : f z < a.2 := by omega
      have e : chl f a (z :: t) = chl f ((z : Int), f z) t := by show chl f (if _ then _ else _) t = _; rw [if_pos c]
      rcases chl_spec f t ((z : Int), f z) (by show (0 : Int) ≤ (z : Int); omega) with ⟨h1, h2⟩ | ⟨p, s, x, h1, h2, h3, h4, h5⟩
      · exact Or.inr ⟨[], t, z, rfl, e.trans h1, hz, fun y hy => absurd hy List.not_mem_nil, h2⟩
      · refine Or.inr ⟨z :: p, s, x, by rw [h1]; rfl, e.trans h2, Int.lt_trans h3 hz, fun y hy => ?_, h5⟩
        rcases List.mem_cons.mp hy with q | q
        · rw [q]; exact h3
        · exact h4 y q
    · have e : chl f a (z :: t) = chl f a t := by show chl f (if _ then _ else _) t = _; rw [if_neg c]
      have hz : a.2 ≤ f z := by omega
      rw [if_neg c]
      rcases chl_spec f t a ha with ⟨h1, h2⟩ | ⟨p, s, x, h1, h2, h3, h4, h5⟩
      · refine Or.inl ⟨h1, fun y hy => ?_⟩
        rcases List.mem_cons.mp hy with q | q
        · rw [q]; exact hz
        · exact h2 y q
      · refine Or.inr ⟨z :: p, s, x, by rw [h1]; rfl, e.trans h2, h3, fun y hy => ?_, h5⟩
        rcases List.mem_cons.mp hy with q | q
        · rw [q]; omega
        · exact h4 y q
theorem chs_nil (f : Nat → Int) : chs f [] = (-1, 0) := rfl
theorem chs_spec (f : Nat → Int) {L : List Nat} (h : L ≠ []) : ∃ (p s : List Nat) (x : Nat), L = p ++ x :: s ∧ chs f L = ((x : Int), f x) ∧ (∀ y, y ∈ p → f x < f y) ∧ ∀ y, y ∈ s → f x ≤ f y := by
  match L, h with
  | z :: t, _ =>
    have e : chs f (z :: t) = chl f ((z : Int), f z) t := by show chl f (if _ then _ else _) t = _; rw [if_pos (Or.inl (by decide))]
    rcases chl_spec f t ((z : Int), f z) (by show (0 : Int) ≤ (z : Int); omega) with ⟨h1, h2⟩ | ⟨p, s, x, h1, h2, h3, h4, h5⟩
    · exact ⟨[], t, z, rfl, e.trans h1, fun y hy => absurd hy List.not_mem_nil, h2⟩
    · refine ⟨z :: p, s, x, by rw [h1]; rfl, e.trans h2, fun y hy => ?_, h5⟩
      rcases List.mem_cons.mp hy with q | q
      · rw [q]; exact h3
      · exact h4 y q
/-- the fewest minutes from colour c over the rest L -/
def mc (cl : Nat → Int) : Nat → Int → List Nat → Int
  | 0, _, _ => 0
  | k + 1, c, L => (chs (fun x => wash c (cl x) + mc cl k (cl x) (L.erase x)) L).2
def mcl (cl : Nat → Int) (c : Int) (L : List Nat) : Int := mc cl L.length c L
def mof (cl : Nat → Int) (c : Int) (L : List Nat) (x : Nat) : Int := wash c (cl x) + mcl cl (cl x) (L.erase x)
theorem mcl_s (cl : Nat → Int) (c : Int) (L : List Nat) : mcl cl c L = (chs (mof cl c L) L).2 := by
  unfold mcl
  match L with
  | [] => rfl
  | z :: t =>
    show (chs (fun x => wash c (cl x) + mc cl t.length (cl x) ((z :: t).erase x)) (z :: t)).2 = _
    rw [chs_ext (g := mof cl c (z :: t))]
    intro x hx
    unfold mof mcl
    rw [List.length_erase_of_mem hx]
    rfl
/-- the best order from colour c over the rest L -/
def mo (cl : Nat → Int) : Nat → Int → List Nat → List Nat
  | 0, _, _ => []
  | k + 1, c, L => if (chs (mof cl c L) L).1 < 0 then [] else (chs (mof cl c L) L).1.toNat :: mo cl k (cl (chs (mof cl c L) L).1.toNat) (L.erase (chs (mof cl c L) L).1.toNat)
def mol (cl : Nat → Int) (c : Int) (L : List Nat) : List Nat := mo cl L.length c L
theorem mol_nil (cl : Nat → Int) (c : Int) : mol cl c [] = [] := rfl
theorem mol_s {cl : Nat → Int} {c : Int} {L : List Nat} {x : Nat} (hx : x ∈ L) (h : (chs (mof cl c L) L).1 = (x : Int)) : mol cl c L = x :: mol cl (cl x) (L.erase x) := by
  unfold mol
  match L with
  | [] => exact absurd hx List.not_mem_nil
  | z :: t =>
    show (if (chs (mof cl c (z :: t)) (z :: t)).1 < 0 then [] else _) = _
    rw [if_neg (by rw [h]; omega), h, Int.toNat_natCast, List.length_erase_of_mem hx]
    rfl
theorem mcl_at {cl : Nat → Int} {c : Int} {L : List Nat} {x : Nat} (hx : L ≠ []) (h : (chs (mof cl c L) L).1 = (x : Int)) : x ∈ L ∧ mcl cl c L = mof cl c L x := by
  obtain ⟨p, s, y, e1, e2, -, -⟩ := chs_spec (mof cl c L) hx
  rw [e2] at h
  have e : y = x := by
    have : (y : Int) = (x : Int) := h
    omega
  subst e
  refine ⟨by rw [e1]; exact List.mem_append_right _ List.mem_cons_self, ?_⟩
  rw [mcl_s, e2]
theorem mo_len {cl : Nat → Int} : ∀ (n : Nat) (c : Int) (L : List Nat), L.length = n → (mo cl n c L).length = n
  | 0, _, _, _ => rfl
  | n + 1, c, L, h => by
    have hL : L ≠ [] := fun e => by rw [e] at h; cases h
    obtain ⟨p, s, x, e1, e2, -, -⟩ := chs_spec (mof cl c L) hL
    have hx : x ∈ L := by rw [e1]; exact List.mem_append_right _ List.mem_cons_self
    show (if (chs (mof cl c L) L).1 < 0 then [] else (chs (mof cl c L) L).1.toNat :: mo cl n (cl (chs (mof cl c L) L).1.toNat) (L.erase (chs (mof cl c L) L).1.toNat)).length = n + 1
    rw [e2]
    show (if (x : Int) < 0 then [] else (x : Int).toNat :: mo cl n (cl (x : Int).toNat) (L.erase (x : Int).toNat)).length = n + 1
    rw [if_neg (by omega), Int.toNat_natCast, List.length_cons, mo_len n _ _ (by rw [List.length_erase_of_mem hx, h]; rfl)]
theorem mol_len (cl : Nat → Int) (c : Int) (L : List Nat) : (mol cl c L).length = L.length := mo_len _ c L rfl
theorem mc_rng {cl : Nat → Int} : ∀ (n : Nat) (c : Int) (L : List Nat), (∀ x, x ∈ L → 0 ≤ cl x ∧ cl x ≤ 9) → 0 ≤ c ∧ c ≤ 9 → 0 ≤ mc cl n c L ∧ mc cl n c L ≤ 19 * (n : Int)
  | 0, _, _, _, _ => by unfold mc; omega
  | n + 1, c, L, hcl, hc => by
    by_cases hL : L = []
    · subst hL
      show 0 ≤ (0 : Int) ∧ (0 : Int) ≤ _
      omega
    · obtain ⟨p, s, x, e1, e2, -, -⟩ := chs_spec (fun x => wash c (cl x) + mc cl n (cl x) (L.erase x)) hL
      have hx : x ∈ L := by rw [e1]; exact List.mem_append_right _ List.mem_cons_self
      show 0 ≤ (chs (fun x => wash c (cl x) + mc cl n (cl x) (L.erase x)) L).2 ∧ (chs (fun x => wash c (cl x) + mc cl n (cl x) (L.erase x)) L).2 ≤ _
      rw [e2]
      have w := wash_rng hc (hcl x hx)
      have i := mc_rng n (cl x) (L.erase x) (fun y hy => hcl y (List.mem_of_mem_erase hy)) (hcl x hx)
      show 0 ≤ wash c (cl x) + mc cl n (cl x) (L.erase x) ∧ wash c (cl x) + mc cl n (cl x) (L.erase x) ≤ _
      omega
theorem mcl_rng {cl : Nat → Int} {c : Int} {L : List Nat} (h : ∀ x, x ∈ L → 0 ≤ cl x ∧ cl x ≤ 9) (hc : 0 ≤ c ∧ c ≤ 9) : 0 ≤ mcl cl c L ∧ mcl cl c L ≤ 19 * (L.length : Int) := mc_rng _ c L h hc
theorem mc_ext {cl cl' : Nat → Int} : ∀ (n : Nat) (c : Int) (L : List Nat), (∀ x, x ∈ L → cl x = cl' x) → mc cl n c L = mc cl' n c L
  | 0, _, _, _ => rfl
  | n + 1, c, L, h => by
    show (chs (fun x => wash c (cl x) + mc cl n (cl x) (L.erase x)) L).2 = (chs (fun x => wash c (cl' x) + mc cl' n (cl' x) (L.erase x)) L).2
    rw [chs_ext (g := fun x => wash c (cl' x) + mc cl' n (cl' x) (L.erase x))]
    intro x hx
    show wash c (cl x) + mc cl n (cl x) (L.erase x) = wash c (cl' x) + mc cl' n (cl' x) (L.erase x)
    rw [h x hx, mc_ext n (cl' x) (L.erase x) (fun y hy => h y (List.mem_of_mem_erase hy))]
theorem mcl_ext {cl cl' : Nat → Int} {c : Int} {L : List Nat} (h : ∀ x, x ∈ L → cl x = cl' x) : mcl cl c L = mcl cl' c L := mc_ext _ c L h
theorem mof_ext {cl cl' : Nat → Int} {c : Int} {L : List Nat} {x : Nat} (h : ∀ x, x ∈ L → cl x = cl' x) (hx : x ∈ L) : mof cl c L x = mof cl' c L x := by
  unfold mof
  rw [h x hx, mcl_ext (fun y hy => h y (List.mem_of_mem_erase hy))]
theorem mo_ext {cl cl' : Nat → Int} : ∀ (n : Nat) (c : Int) (L : List Nat), (∀ x, x ∈ L → cl x = cl' x) → mo cl n c L = mo cl' n c L
  | 0, _, _, _ => rfl
  | n + 1, c, L, h => by
    by_cases hL : L = []
    · subst hL; rfl
    · have e := chs_ext (L := L) (fun x hx => mof_ext (c := c) h hx)
      obtain ⟨p, s, x, e1, e2, -, -⟩ := chs_spec (mof cl' c L) hL
      have hx : x ∈ L := by rw [e1]; exact List.mem_append_right _ List.mem_cons_self
      show (if (chs (mof cl c L) L).1 < 0 then [] else (chs (mof cl c L) L).1.toNat :: mo cl n (cl (chs (mof cl c L) L).1.toNat) (L.erase (chs (mof cl c L) L).1.toNat)) = (if (chs (mof cl' c L) L).1 < 0 then [] else (chs (mof cl' c L) L).1.toNat :: mo cl' n (cl' (chs (mof cl' c L) L).1.toNat) (L.erase (chs (mof cl' c L) L).1.toNat))
      rw [e, e2]
      show (if (x : Int) < 0 then [] else (x : Int).toNat :: mo cl n (cl (x : Int).toNat) (L.erase (x : Int).toNat)) = (if (x : Int) < 0 then [] else (x : Int).toNat :: mo cl' n (cl' (x : Int).toNat) (L.erase (x : Int).toNat))
      rw [if_neg (by omega), if_neg (by omega), Int.toNat_natCast, h x hx, mo_ext n (cl' x) (L.erase x) (fun y hy => h y (List.mem_of_mem_erase hy))]
theorem mol_ext {cl cl' : Nat → Int} {c : Int} {L : List Nat} (h : ∀ x, x ∈ L → cl x = cl' x) : mol cl c L = mol cl' c L := mo_ext _ c L h
-- sets of indices as numbers
/-- the indices below n that are in the set S (as bits), in order -/
def lin (S : Nat) : Nat → List Nat
  | 0 => []
  | k + 1 => if S.testBit k then lin S k ++ [k] else lin S k
/-- those that are not -/
def lot (S : Nat) : Nat → List Nat
  | 0 => []
  | k + 1 => if S.testBit k then lot S k else lot S k ++ [k]
theorem lin_mem {S x : Nat} : ∀ n : Nat, x ∈ lin S n ↔ x < n ∧ S.testBit x = true
  | 0 => by unfold lin; simp
  | n + 1 => by
    have ih := lin_mem (S := S) (x := x) n
    unfold lin
    by_cases h : S.testBit n = true
    · rw [if_pos h, List.mem_append, ih, List.mem_singleton]
      constructor
      · rintro (⟨h1, h2⟩ | h1)
        · exact ⟨by omega, h2⟩
        · subst h1; exact ⟨by omega, h⟩
      · rintro ⟨h1, h2⟩
        by_cases e : x = n
        · exact Or.inr e
        · exact Or.inl ⟨by omega, h2⟩
    · rw [if_neg h, ih]
      constructor
      · rintro ⟨h1, h2⟩; exact ⟨by omega, h2⟩
      · rintro ⟨h1, h2⟩
        by_cases e : x = n
        · subst e; exact absurd h2 h
        · exact ⟨by omega, h2⟩
theorem lot_mem {S x : Nat} : ∀ n : Nat, x ∈ lot S n ↔ x < n ∧ S.testBit x = false
  | 0 => by unfold lot; simp
  | n + 1 => by
    have ih := lot_mem (S := S) (x := x) n
    unfold lot
    by_cases h : S.testBit n = true
    · rw [if_pos h, ih]
      constructor
      · rintro ⟨h1, h2⟩; exact ⟨by omega, h2⟩
      · rintro ⟨h1, h2⟩
        by_cases e : x = n
        · subst e; rw [h] at h2; cases h2
        · exact ⟨by omega, h2⟩
    · rw [if_neg h, List.mem_append, ih, List.mem_singleton]
      constructor
      · rintro (⟨h1, h2⟩ | h1)
        · exact ⟨by omega, h2⟩
        · subst h1; exact ⟨by omega, by simpa using h⟩
      · rintro ⟨h1, h2⟩
        by_cases e : x = n
        · exact Or.inr e
        · exact Or.inl ⟨by omega, h2⟩
theorem lin_erase {S S' j : Nat} (hj : S.testBit j = true) (h : ∀ k : Nat, k < 7 → S'.testBit k = (S.testBit k && decide (k ≠ j))) : ∀ n : Nat, n ≤ 7 → lin S' n = (lin S n).erase j
  | 0, _ => rfl
  | n + 1, hn => by
    have ih := lin_erase hj h n (by omega)
    have e := h n (by omega)
    unfold lin
    by_cases c : n = j
    · subst c
      have e1 : S'.testBit n = false := by rw [e]; simp
      rw [if_neg (by rw [e1]; decide), if_pos hj, List.erase_append_right _ (fun q => by have := (lin_mem n).mp q; omega)]
      have e3 : ([n] : List Nat).erase n = [] := by simp
      rw [e3, List.append_nil, ih, List.erase_of_not_mem (fun q => by have := (lin_mem n).mp q; omega)]
    · have e1 : S'.testBit n = S.testBit n := by rw [e]; simp [c]
      rw [e1]
      by_cases d : S.testBit n = true
      · rw [if_pos d, if_pos d, ih]
        by_cases q : j ∈ lin S n
        · rw [List.erase_append_left _ q]
        · rw [List.erase_append_right _ q, List.erase_of_not_mem q]
          have e3 : ([n] : List Nat).erase j = [n] := List.erase_of_not_mem (by simp; omega)
          rw [e3]
      · rw [if_neg d, if_neg d, ih]
theorem lot_erase {S S' j : Nat} (hj : S.testBit j = false) (h : ∀ k : Nat, k < 7 → S'.testBit k = (S.testBit k || decide (k = j))) : ∀ n : Nat, n ≤ 7 → lot S' n = (lot S n).erase j
  | 0, _ => rfl
  | n + 1, hn => by
    have ih := lot_erase hj h n (by omega)
    have e := h n (by omega)
    unfold lot
    by_cases c : n = j
    · subst c
      have e1 : S'.testBit n = true := by rw [e]; simp
      rw [if_pos e1, if_neg (by rw [hj]; decide), List.erase_append_right _ (fun q => by have := (lot_mem n).mp q; omega)]
      have e3 : ([n] : List Nat).erase n = [] := by simp
      rw [e3, List.append_nil, ih, List.erase_of_not_mem (fun q => by have := (lot_mem n).mp q; omega)]
    · have e1 : S'.testBit n = S.testBit n := by rw [e]; simp [c]
      rw [e1]
      by_cases d : S.testBit n = true
      · rw [if_pos d, if_pos d, ih]
      · rw [if_neg d, if_neg d, ih]
        by_cases q : j ∈ lot S n
        · rw [List.erase_append_left _ q]
        · rw [List.erase_append_right _ q, List.erase_of_not_mem q]
          have e3 : ([n] : List Nat).erase j = [n] := List.erase_of_not_mem (by simp; omega)
          rw [e3]
theorem bt_or : ∀ S : Nat, S < 128 → ∀ j : Nat, j < 7 → ia_or (S : Int) (ia_shl 1 (j : Int)) = ((S ||| 2 ^ j : Nat) : Int) ∧ (S ||| 2 ^ j) < 128 := by decide +kernel
theorem bt_orb : ∀ S : Nat, S < 128 → ∀ j : Nat, j < 7 → ∀ k : Nat, k < 7 → (S ||| 2 ^ j).testBit k = (S.testBit k || decide (k = j)) := by decide +kernel
theorem bt_c : ∀ S : Nat, S < 128 → ∀ j : Nat, j < 7 → ia_and (S : Int) (ia_shl 1 (j : Int)) = if S.testBit j then ((2 ^ j : Nat) : Int) else 0 := by decide +kernel
theorem bt_m : ∀ S : Nat, S < 128 → ∀ j : Nat, j < 7 → ia_and (ia_shr (S : Int) (j : Int)) 1 = if S.testBit j then 1 else 0 := by decide +kernel
theorem bt_x : ∀ S : Nat, S < 128 → ∀ j : Nat, j < 7 → ia_and (S : Int) (ia_xor (ia_shl 1 (j : Int)) (-1)) = ((S &&& (255 - 2 ^ j) : Nat) : Int) ∧ (S &&& (255 - 2 ^ j)) ≤ S ∧ (S.testBit j = true → (S &&& (255 - 2 ^ j)) < S) := by decide +kernel
theorem bt_xb : ∀ S : Nat, S < 128 → ∀ j : Nat, j < 7 → ∀ k : Nat, k < 7 → (S &&& (255 - 2 ^ j)).testBit k = (S.testBit k && decide (k ≠ j)) := by decide +kernel
theorem bt_1 : ∀ j : Nat, j < 8 → ia_shl 1 (j : Int) = ((2 ^ j : Nat) : Int) ∧ 2 ^ j ≤ 128 := by decide +kernel
theorem bt_lt : ∀ c : Nat, c < 8 → ∀ S : Nat, S < 2 ^ c → ∀ j : Nat, j < c → (S ||| 2 ^ j) < 2 ^ c ∧ (S.testBit j = false → S < (S ||| 2 ^ j)) := by decide +kernel
theorem bt_full : ∀ c : Nat, c < 8 → ∀ S : Nat, S < 2 ^ c → lot S c = [] → S = 2 ^ c - 1 := by decide +kernel
theorem bt_0 : ∀ S : Nat, S < 128 → lin S 7 = [] → S = 0 := by decide +kernel
theorem lin_0 : ∀ n : Nat, lin 0 n = []
  | 0 => rfl
  | n + 1 => by
    unfold lin
    rw [Nat.zero_testBit, if_neg (by decide), lin_0 n]
theorem bt_p : ∀ j : Nat, j < 7 → 1 ≤ 2 ^ j ∧ 2 ^ j ≤ 64 := by decide
theorem lot_0 {S k : Nat} (h : ¬ S.testBit k = true) : lot S (k + 1) = lot S k ++ [k] := if_neg h
theorem lot_1 {S k : Nat} (h : S.testBit k = true) : lot S (k + 1) = lot S k := if_pos h
theorem lin_n {S k : Nat} (h : ¬ S.testBit k = true) : lin S (k + 1) = lin S k := if_neg h
theorem lin_1 {S k : Nat} (h : S.testBit k = true) : lin S (k + 1) = lin S k ++ [k] := if_pos h
theorem lot_len : ∀ n : Nat, (lot 0 n).length = n
  | 0 => rfl
  | n + 1 => by rw [lot_0 (by rw [Nat.zero_testBit]; decide), List.length_append, lot_len n]; rfl
-- the class's table
def cnf (A2 R3 : Nat → Int) (S : Nat) (c : Int) (x : Nat) : Int := wash c (A2 x) + R3 ((S ||| 2 ^ x) * 7 + x)
/-- the table holds what it should for all sets above S -/
def TB (A2 R3 : Nat → Int) (cn S : Nat) : Prop := ∀ S' : Nat, S < S' → S' < 2 ^ cn → ∀ l : Nat, l < cn → S'.testBit l = true → R3 (S' * 7 + l) = mcl A2 (A2 l) (lot S' cn)
theorem pw_le : ∀ c : Nat, c < 8 → 2 ^ c ≤ 128 := by decide
theorem TB_at {A2 R3 : Nat → Int} {cn S x : Nat} (h : TB A2 R3 cn S) (hcn : cn ≤ 7) (hS : S < 2 ^ cn) (hx : x < cn) (hb : S.testBit x = false) : R3 ((S ||| 2 ^ x) * 7 + x) = mcl A2 (A2 x) ((lot S cn).erase x) := by
  have h128 := pw_le cn (by omega)
  have hl := bt_lt cn (by omega) S hS x hx
  have hb2 := bt_orb S (by omega) x (by omega)
  rw [h (S ||| 2 ^ x) (hl.2 hb) hl.1 x hx (by rw [hb2 x (by omega)]; simp), lot_erase hb (fun k hk => hb2 k hk) cn hcn]
theorem TB_chs {A2 R3 : Nat → Int} {cn S : Nat} {c : Int} (h : TB A2 R3 cn S) (hcn : cn ≤ 7) (hS : S < 2 ^ cn) : chs (cnf A2 R3 S c) (lot S cn) = chs (mof A2 c (lot S cn)) (lot S cn) :=
  chs_ext (fun x hx => by
    have hm := (lot_mem cn).mp hx
    show wash c (A2 x) + R3 ((S ||| 2 ^ x) * 7 + x) = wash c (A2 x) + mcl A2 (A2 x) ((lot S cn).erase x)
    rw [TB_at h hcn hS hm.1 hm.2])
theorem len_erase {L : List Nat} {x : Nat} : (L.erase x).length ≤ L.length := List.length_erase_le
theorem lot_lle (S : Nat) : ∀ n : Nat, (lot S n).length ≤ n
  | 0 => Nat.le_refl _
  | n + 1 => by
    have := lot_lle S n
    by_cases h : S.testBit n = true
    · rw [lot_1 h]; omega
    · rw [lot_0 h, List.length_append]; show _ + 1 ≤ _; omega
theorem TB_rng {A2 R3 : Nat → Int} {cn S x : Nat} (h : TB A2 R3 cn S) (hcn : cn ≤ 7) (hS : S < 2 ^ cn) (hA : ∀ x : Nat, x < cn → 0 ≤ A2 x ∧ A2 x ≤ 9) (hx : x < cn) (hb : S.testBit x = false) : 0 ≤ R3 ((S ||| 2 ^ x) * 7 + x) ∧ R3 ((S ||| 2 ^ x) * 7 + x) ≤ 1000 := by
  rw [TB_at h hcn hS hx hb]
  have := mcl_rng (cl := A2) (c := A2 x) (L := (lot S cn).erase x) (fun y hy => hA y ((lot_mem cn).mp (List.mem_of_mem_erase hy)).1) (hA x hx)
  have l1 := len_erase (L := lot S cn) (x := x)
  have l2 := lot_lle S cn
  omega
/-- the cells of the set S itself, first l of them -/
def TC (A2 R3 : Nat → Int) (cn S l : Nat) : Prop := ∀ i : Nat, i < l → S.testBit i = true → R3 (S * 7 + i) = mcl A2 (A2 i) (lot S cn)
theorem TB_u {A2 R3 : Nat → Int} {cn S l : Nat} {v : Int} (h : TB A2 R3 cn S) (hl : l < 7) (hcn : cn ≤ 7) : TB A2 (up R3 (S * 7 + l) v) cn S := fun S' h1 h2 i hi hb => by
  rw [up_ne (by omega)]
  exact h S' h1 h2 i hi hb
theorem TC_u {A2 R3 : Nat → Int} {cn S l : Nat} {v : Int} (h : TC A2 R3 cn S l) (hv : v = mcl A2 (A2 l) (lot S cn)) : TC A2 (up R3 (S * 7 + l) v) cn S (l + 1) := fun i hi hb => by
  by_cases e : i = l
  · subst e; rw [up_self, hv]
  · rw [up_ne (by omega)]; exact h i (by omega) hb
theorem TC_n {A2 R3 : Nat → Int} {cn S l : Nat} (h : TC A2 R3 cn S l) (hb : ¬ S.testBit l = true) : TC A2 R3 cn S (l + 1) := fun i hi hb2 => by
  by_cases e : i = l
  · subst e; exact absurd hb2 hb
  · exact h i (by omega) hb2
theorem TB_s {A2 R3 : Nat → Int} {cn S : Nat} (h : TB A2 R3 cn (S + 1)) (hc : TC A2 R3 cn (S + 1) cn) : TB A2 R3 cn S := fun S' h1 h2 i hi hb => by
  by_cases e : S' = S + 1
  · subst e; exact hc i hi hb
  · exact h S' (by omega) h2 i hi hb
theorem ord_s {R4 A1 : Nat → Int} {PL : List Nat} {q x : Nat} (hL : PL.length = q) (hO : ∀ i : Nat, i < q → R4 i = A1 (PL.getD i 0)) : ∀ i : Nat, i < q + 1 → up R4 q (A1 x) i = A1 ((PL ++ [x]).getD i 0) := fun i hi => by
  by_cases e : i = q
  · subst e
    rw [up_self]
    congr 1
    rw [List.getD_eq_getElem?_getD, List.getElem?_append_right (by omega), hL]
    simp
  · rw [up_ne e, hO i (by omega)]
    congr 1
    rw [List.getD_eq_getElem?_getD, List.getD_eq_getElem?_getD, List.getElem?_append_left (by omega)]
theorem mo_mem {cl : Nat → Int} : ∀ (n : Nat) (c : Int) (L : List Nat) (y : Nat), y ∈ mo cl n c L → y ∈ L
  | 0, _, _, _, h => absurd h List.not_mem_nil
  | n + 1, c, L, y, h => by
    by_cases hL : L = []
    · subst hL
      exact absurd h List.not_mem_nil
    · obtain ⟨p, s, x, e1, e2, -, -⟩ := chs_spec (mof cl c L) hL
      have hx : x ∈ L := by rw [e1]; exact List.mem_append_right _ List.mem_cons_self
      have h2 : y ∈ (if (chs (mof cl c L) L).1 < 0 then [] else (chs (mof cl c L) L).1.toNat :: mo cl n (cl (chs (mof cl c L) L).1.toNat) (L.erase (chs (mof cl c L) L).1.toNat)) := h
      rw [e2] at h2
      have h3 : y ∈ (if (x : Int) < 0 then [] else (x : Int).toNat :: mo cl n (cl (x : Int).toNat) (L.erase (x : Int).toNat)) := h2
      rw [if_neg (by omega), Int.toNat_natCast] at h3
      rcases List.mem_cons.mp h3 with q | q
      · rw [q]; exact hx
      · exact List.mem_of_mem_erase (mo_mem n _ _ y q)
theorem mol_mem {cl : Nat → Int} {c : Int} {L : List Nat} {y : Nat} (h : y ∈ mol cl c L) : y ∈ L := mo_mem _ c L y h
theorem mol_lt {cl : Nat → Int} {c : Int} {n i : Nat} (h : i < n) : (mol cl c (lot 0 n)).getD i 0 < n := by
  have hl : i < (mol cl c (lot 0 n)).length := by rw [mol_len, lot_len]; exact h
  rw [List.getD_eq_getElem?_getD, List.getElem?_eq_getElem hl]
  exact ((lot_mem n).mp (mol_mem (List.getElem_mem hl))).1
-- by all orders
def swp (r : Nat → Int) (i j : Nat) : Nat → Int := up (up r i (r j)) j (r i)
theorem swp_swp {r : Nat → Int} {i j : Nat} : swp (swp r i j) i j = r := by
  funext a
  unfold swp up
  by_cases h1 : a = j
  · subst h1
    simp
    by_cases h2 : i = a
    · subst h2; simp
    · simp [h2]
  · by_cases h2 : a = i
    · subst h2; simp [h1]
    · simp [h1, h2]
def fmn (g : Nat → Int) : Nat → Int
  | 0 => 1000
  | i + 1 => min (fmn g i) (g i)
def kr : Nat → (Nat → Int) → Nat → Int → Int
  | 0, _, _, _ => 0
  | n + 1, r, a, p => fmn (fun i => wash p (r (a + i)) + kr n (swp r a (a + i)) (a + 1) (r (a + i))) (n + 1)
theorem fmn_s (g : Nat → Int) (i : Nat) : fmn g (i + 1) = min (fmn g i) (g i) := rfl
theorem fmn_rng {g : Nat → Int} : ∀ n : Nat, (∀ i, i < n → 0 ≤ g i) → 0 ≤ fmn g n ∧ fmn g n ≤ 1000
  | 0, _ => by unfold fmn; omega
  | n + 1, h => by
    have := fmn_rng n (fun i hi => h i (by omega))
    have := h n (by omega)
    rw [fmn_s]; omega
-- the open editions
def oc (σ : Nat → Int) : Nat → Nat
  | 0 => 0
  | k + 1 => if 0 < miss σ k then oc σ k + 1 else oc σ k
def oO (σ : Nat → Int) : Nat → Nat → Int
  | 0 => fun _ => 0
  | k + 1 => if 0 < miss σ k then up (oO σ k) (oc σ k) (k : Int) else oO σ k
def oC (σ : Nat → Int) : Nat → Nat → Int
  | 0 => fun _ => 0
  | k + 1 => if 0 < miss σ k then up (oC σ k) (oc σ k) (col σ k) else oC σ k
theorem oc_1 {σ : Nat → Int} {k : Nat} (h : 0 < miss σ k) : oc σ (k + 1) = oc σ k + 1 := if_pos h
theorem oc_0 {σ : Nat → Int} {k : Nat} (h : ¬ 0 < miss σ k) : oc σ (k + 1) = oc σ k := if_neg h
theorem oO_1 {σ : Nat → Int} {k : Nat} (h : 0 < miss σ k) : oO σ (k + 1) = up (oO σ k) (oc σ k) (k : Int) := if_pos h
theorem oO_0 {σ : Nat → Int} {k : Nat} (h : ¬ 0 < miss σ k) : oO σ (k + 1) = oO σ k := if_neg h
theorem oC_1 {σ : Nat → Int} {k : Nat} (h : 0 < miss σ k) : oC σ (k + 1) = up (oC σ k) (oc σ k) (col σ k) := if_pos h
theorem oC_0 {σ : Nat → Int} {k : Nat} (h : ¬ 0 < miss σ k) : oC σ (k + 1) = oC σ k := if_neg h
theorem oc_le {σ : Nat → Int} : ∀ k : Nat, oc σ k ≤ k
  | 0 => Nat.le_refl _
  | k + 1 => by
    have := oc_le (σ := σ) k
    by_cases h : 0 < miss σ k
    · rw [oc_1 h]; omega
    · rw [oc_0 h]; omega
/-- each open edition's number and colour -/
theorem oO_spec {σ : Nat → Int} : ∀ k i : Nat, i < oc σ k → ∃ e : Nat, e < k ∧ oO σ k i = (e : Int) ∧ oC σ k i = col σ e ∧ 0 < miss σ e
  | 0, i, h => absurd h (Nat.not_lt_zero _)
  | k + 1, i, h => by
    by_cases c : 0 < miss σ k
    · rw [oc_1 c] at h
      rw [oO_1 c, oC_1 c]
      by_cases e : i = oc σ k
      · subst e
        exact ⟨k, by omega, up_self _ _ _, up_self _ _ _, c⟩
      · rw [up_ne e, up_ne e]
        obtain ⟨j, h1, h2⟩ := oO_spec (σ := σ) k i (by omega)
        exact ⟨j, by omega, h2⟩
    · rw [oc_0 c] at h
      rw [oO_0 c, oC_0 c]
      obtain ⟨j, h1, h2⟩ := oO_spec k i h
      exact ⟨j, by omega, h2⟩
