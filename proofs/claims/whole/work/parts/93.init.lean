/-! the law: its beginning (made by wip/whole/start.py) -/
theorem jnJ {X : ia_X} {own : String} {cc : ByteArray} {nL d mc ms cells slots pc N : Nat} {ls st : List (Nat × Int)} {Z : ia_Z} {V : ia_H} (F : ia_Fix X own cc nL d mc ms) {x : Int} (len : Nat) (hx : x = (len : Int)) (hl : len ≤ 1000000) (h : ZJ N Z) (hN : N ≤ 200) (hk : kdL.getD N 0 = 1 ∧ lnL.getD N 0 = len) (hR : cells + 1 ≤ mc ∧ slots + len ≤ ms) (dg : decode cc pc = .ok (.newarray .long, 2)) (kk : ∀ (Z1 : ia_Z) (V1 : ia_H), ZJ (N + 1) Z1 → V1 N = (fun _ => 0) → (∀ p : Nat, p ≠ N → V1 p = V p) → ia_G X (cells + 1) (slots + len) (pc + 2) ls ((4, (N : Int)) :: st) Z1 V1) : ia_G X cells slots pc ls ((0, x) :: st) Z V := by
  obtain ⟨e, h2⟩ := h
  subst e
  exact ia_newaJ F len hx hl ia_a_long (Nat.lt_of_le_of_lt hN (by decide)) hR dg (kk _ _ (zj_n ⟨rfl, h2⟩ hk) (funext fun _ => if_pos rfl) (fun p hp => funext fun _ => if_neg hp))
theorem jnD {X : ia_X} {own : String} {cc : ByteArray} {nL d mc ms cells slots pc N : Nat} {ls st : List (Nat × Int)} {Z : ia_Z} {V : ia_H} (F : ia_Fix X own cc nL d mc ms) {x : Int} (len : Nat) (hx : x = (len : Int)) (hl : len ≤ 1000000) (h : ZJ N Z) (hN : N ≤ 200) (hk : kdL.getD N 0 = 2 ∧ lnL.getD N 0 = len) (hR : cells + 1 ≤ mc ∧ slots + len ≤ ms) (dg : decode cc pc = .ok (.newarray .double, 2)) (kk : ∀ (Z1 : ia_Z) (V1 : ia_H), ZJ (N + 1) Z1 → V1 N = (fun _ => 0) → (∀ p : Nat, p ≠ N → V1 p = V p) → ia_G X (cells + 1) (slots + len) (pc + 2) ls ((4, (N : Int)) :: st) Z1 V1) : ia_G X cells slots pc ls ((0, x) :: st) Z V := by
  obtain ⟨e, h2⟩ := h
  subst e
  exact ia_newaD F len hx hl ia_a_double (Nat.lt_of_le_of_lt hN (by decide)) hR dg (kk _ _ (zj_n ⟨rfl, h2⟩ hk) (funext fun _ => if_pos rfl) (fun p hp => funext fun _ => if_neg hp))
theorem ptr_k {p k q : Nat} (h : ptr p k = some q) : k < 20 := by
  rcases Nat.lt_or_ge k 20 with g | g
  · exact g
  · exfalso
    unfold ptr at h
    split at h
    · rw [if_neg (by omega)] at h
      cases h
    · split at h <;> first | (cases h; done) | (rw [if_neg (by omega)] at h; cases h) | (split at h <;> first | omega | cases h)
theorem ptr_p : ∀ p : Nat, p < 116 → ∀ k : Nat, k < 20 → (ptr p k).isSome = true → p ∈ ([0, 1, 8, 15, 16, 17, 24, 31, 38, 45, 52, 59, 66, 73, 80, 85, 87, 91, 99] : List Nat) := by decide +kernel
theorem ptr_r0 : ∀ k : Nat, k < 20 → (ptr 0 k).all (fun q => decide ((up (up (up (up (up (up (up (up (up (up (up (ia_d0 10) 0 ((1 : Nat) : Int)) 1 ((8 : Nat) : Int)) 2 ((15 : Nat) : Int)) 3 ((80 : Nat) : Int)) 4 ((85 : Nat) : Int)) 5 ((87 : Nat) : Int)) 6 ((91 : Nat) : Int)) 7 ((97 : Nat) : Int)) 8 0) 9 (-1)) 10 (-1)) k = (q : Int))) = true := by decide +kernel
theorem ptr_r1 : ∀ k : Nat, k < 20 → (ptr 1 k).all (fun q => decide ((up (up (up (up (up (up (up (up (up (up (up (up (up (up (up (ia_d0 9) 0 ((2 : Nat) : Int)) 1 ((3 : Nat) : Int)) 2 ((4 : Nat) : Int)) 3 ((5 : Nat) : Int)) 4 ((6 : Nat) : Int)) 5 ((7 : Nat) : Int)) 6 0) 7 0) 8 0) 9 0) 10 0) 11 0) 12 0) 13 0) 14 0) k = (q : Int))) = true := by decide +kernel
theorem ptr_r8 : ∀ k : Nat, k < 20 → (ptr 8 k).all (fun q => decide ((up (up (up (up (up (up (up (up (up (up (up (up (up (up (up (ia_d0 9) 0 ((9 : Nat) : Int)) 1 ((10 : Nat) : Int)) 2 ((11 : Nat) : Int)) 3 ((12 : Nat) : Int)) 4 ((13 : Nat) : Int)) 5 ((14 : Nat) : Int)) 6 0) 7 0) 8 0) 9 0) 10 0) 11 0) 12 0) 13 0) 14 0) k = (q : Int))) = true := by decide +kernel
theorem ptr_r15 : ∀ k : Nat, k < 20 → (ptr 15 k).all (fun q => decide ((up (up (up (ia_d0 6) 0 ((16 : Nat) : Int)) 1 0) 2 0) k = (q : Int))) = true := by decide +kernel
theorem ptr_r16 : ∀ k : Nat, k < 20 → (ptr 16 k).all (fun q => decide ((up (up (up (up (up (up (up (up (up (fun _ => -1) 0 ((17 : Nat) : Int)) 1 ((24 : Nat) : Int)) 2 ((31 : Nat) : Int)) 3 ((38 : Nat) : Int)) 4 ((45 : Nat) : Int)) 5 ((52 : Nat) : Int)) 6 ((59 : Nat) : Int)) 7 ((66 : Nat) : Int)) 8 ((73 : Nat) : Int)) k = (q : Int))) = true := by decide +kernel
theorem ptr_r17 : ∀ k : Nat, k < 20 → (ptr 17 k).all (fun q => decide ((up (up (up (up (up (up (up (up (up (up (up (up (up (up (up (ia_d0 9) 0 ((18 : Nat) : Int)) 1 ((19 : Nat) : Int)) 2 ((20 : Nat) : Int)) 3 ((21 : Nat) : Int)) 4 ((22 : Nat) : Int)) 5 ((23 : Nat) : Int)) 6 0) 7 0) 8 0) 9 0) 10 0) 11 0) 12 0) 13 0) 14 0) k = (q : Int))) = true := by decide +kernel
theorem ptr_r24 : ∀ k : Nat, k < 20 → (ptr 24 k).all (fun q => decide ((up (up (up (up (up (up (up (up (up (up (up (up (up (up (up (ia_d0 9) 0 ((25 : Nat) : Int)) 1 ((26 : Nat) : Int)) 2 ((27 : Nat) : Int)) 3 ((28 : Nat) : Int)) 4 ((29 : Nat) : Int)) 5 ((30 : Nat) : Int)) 6 0) 7 0) 8 0) 9 0) 10 0) 11 0) 12 0) 13 0) 14 0) k = (q : Int))) = true := by decide +kernel
theorem ptr_r31 : ∀ k : Nat, k < 20 → (ptr 31 k).all (fun q => decide ((up (up (up (up (up (up (up (up (up (up (up (up (up (up (up (ia_d0 9) 0 ((32 : Nat) : Int)) 1 ((33 : Nat) : Int)) 2 ((34 : Nat) : Int)) 3 ((35 : Nat) : Int)) 4 ((36 : Nat) : Int)) 5 ((37 : Nat) : Int)) 6 0) 7 0) 8 0) 9 0) 10 0) 11 0) 12 0) 13 0) 14 0) k = (q : Int))) = true := by decide +kernel
theorem ptr_r38 : ∀ k : Nat, k < 20 → (ptr 38 k).all (fun q => decide ((up (up (up (up (up (up (up (up (up (up (up (up (up (up (up (ia_d0 9) 0 ((39 : Nat) : Int)) 1 ((40 : Nat) : Int)) 2 ((41 : Nat) : Int)) 3 ((42 : Nat) : Int)) 4 ((43 : Nat) : Int)) 5 ((44 : Nat) : Int)) 6 0) 7 0) 8 0) 9 0) 10 0) 11 0) 12 0) 13 0) 14 0) k = (q : Int))) = true := by decide +kernel
theorem ptr_r45 : ∀ k : Nat, k < 20 → (ptr 45 k).all (fun q => decide ((up (up (up (up (up (up (up (up (up (up (up (up (up (up (up (ia_d0 9) 0 ((46 : Nat) : Int)) 1 ((47 : Nat) : Int)) 2 ((48 : Nat) : Int)) 3 ((49 : Nat) : Int)) 4 ((50 : Nat) : Int)) 5 ((51 : Nat) : Int)) 6 0) 7 0) 8 0) 9 0) 10 0) 11 0) 12 0) 13 0) 14 0) k = (q : Int))) = true := by decide +kernel
theorem ptr_r52 : ∀ k : Nat, k < 20 → (ptr 52 k).all (fun q => decide ((up (up (up (up (up (up (up (up (up (up (up (up (up (up (up (ia_d0 9) 0 ((53 : Nat) : Int)) 1 ((54 : Nat) : Int)) 2 ((55 : Nat) : Int)) 3 ((56 : Nat) : Int)) 4 ((57 : Nat) : Int)) 5 ((58 : Nat) : Int)) 6 0) 7 0) 8 0) 9 0) 10 0) 11 0) 12 0) 13 0) 14 0) k = (q : Int))) = true := by decide +kernel
theorem ptr_r59 : ∀ k : Nat, k < 20 → (ptr 59 k).all (fun q => decide ((up (up (up (up (up (up (up (up (up (up (up (up (up (up (up (ia_d0 9) 0 ((60 : Nat) : Int)) 1 ((61 : Nat) : Int)) 2 ((62 : Nat) : Int)) 3 ((63 : Nat) : Int)) 4 ((64 : Nat) : Int)) 5 ((65 : Nat) : Int)) 6 0) 7 0) 8 0) 9 0) 10 0) 11 0) 12 0) 13 0) 14 0) k = (q : Int))) = true := by decide +kernel
theorem ptr_r66 : ∀ k : Nat, k < 20 → (ptr 66 k).all (fun q => decide ((up (up (up (up (up (up (up (up (up (up (up (up (up (up (up (ia_d0 9) 0 ((67 : Nat) : Int)) 1 ((68 : Nat) : Int)) 2 ((69 : Nat) : Int)) 3 ((70 : Nat) : Int)) 4 ((71 : Nat) : Int)) 5 ((72 : Nat) : Int)) 6 0) 7 0) 8 0) 9 0) 10 0) 11 0) 12 0) 13 0) 14 0) k = (q : Int))) = true := by decide +kernel
theorem ptr_r73 : ∀ k : Nat, k < 20 → (ptr 73 k).all (fun q => decide ((up (up (up (up (up (up (up (up (up (up (up (up (up (up (up (ia_d0 9) 0 ((74 : Nat) : Int)) 1 ((75 : Nat) : Int)) 2 ((76 : Nat) : Int)) 3 ((77 : Nat) : Int)) 4 ((78 : Nat) : Int)) 5 ((79 : Nat) : Int)) 6 0) 7 0) 8 0) 9 0) 10 0) 11 0) 12 0) 13 0) 14 0) k = (q : Int))) = true := by decide +kernel
theorem ptr_r80 : ∀ k : Nat, k < 20 → (ptr 80 k).all (fun q => decide ((up (up (up (up (up (up (up (ia_d0 4) 0 ((81 : Nat) : Int)) 1 ((82 : Nat) : Int)) 2 ((83 : Nat) : Int)) 3 ((84 : Nat) : Int)) 4 0) 5 0) 6 0) k = (q : Int))) = true := by decide +kernel
theorem ptr_r85 : ∀ k : Nat, k < 20 → (ptr 85 k).all (fun q => decide ((up (ia_d0 8) 0 ((86 : Nat) : Int)) k = (q : Int))) = true := by decide +kernel
theorem ptr_r87 : ∀ k : Nat, k < 20 → (ptr 87 k).all (fun q => decide ((up (up (up (ia_d0 7) 0 ((88 : Nat) : Int)) 1 ((89 : Nat) : Int)) 2 ((90 : Nat) : Int)) k = (q : Int))) = true := by decide +kernel
theorem ptr_r91 : ∀ k : Nat, k < 20 → (ptr 91 k).all (fun q => decide ((up (up (up (up (up (up (ia_d0 5) 0 ((92 : Nat) : Int)) 1 ((94 : Nat) : Int)) 2 ((95 : Nat) : Int)) 3 ((96 : Nat) : Int)) 4 0) 5 0) k = (q : Int))) = true := by decide +kernel
theorem ptr_r99 : ∀ k : Nat, k < 20 → (ptr 99 k).all (fun q => decide ((up (up (up (up (up (up (up (up (up (up (up (up (up (up (up (up (up (up (up (up (up (up (up (up (up (ia_d0 11) 0 ((100 : Nat) : Int)) 1 ((101 : Nat) : Int)) 2 ((102 : Nat) : Int)) 3 ((103 : Nat) : Int)) 4 ((104 : Nat) : Int)) 5 ((105 : Nat) : Int)) 6 ((106 : Nat) : Int)) 7 ((107 : Nat) : Int)) 8 ((108 : Nat) : Int)) 9 0) 10 0) 11 (-1)) 12 (-1)) 13 0) 14 ((109 : Nat) : Int)) 15 0) 16 ((110 : Nat) : Int)) 17 ((111 : Nat) : Int)) 18 ((112 : Nat) : Int)) 19 ((113 : Nat) : Int)) 20 0) 21 0) 22 0) 23 0) 24 0) k = (q : Int))) = true := by decide +kernel
theorem ptr_all {k q : Nat} {f : Nat → Int} {x : Option Nat} (h : x = some q) (ha : x.all (fun q => decide (f k = (q : Int))) = true) : f k = (q : Int) := by
  subst h
  simpa using ha
set_option maxRecDepth 100000 in
theorem LvI_0 {Z : ia_Z} {V : ia_H} (hz : ZJ 116 Z) (r0 : V 0 = (up (up (up (up (up (up (up (up (up (up (up (ia_d0 10) 0 ((1 : Nat) : Int)) 1 ((8 : Nat) : Int)) 2 ((15 : Nat) : Int)) 3 ((80 : Nat) : Int)) 4 ((85 : Nat) : Int)) 5 ((87 : Nat) : Int)) 6 ((91 : Nat) : Int)) 7 ((97 : Nat) : Int)) 8 0) 9 (-1)) 10 (-1))) (r1 : V 1 = (up (up (up (up (up (up (up (up (up (up (up (up (up (up (up (ia_d0 9) 0 ((2 : Nat) : Int)) 1 ((3 : Nat) : Int)) 2 ((4 : Nat) : Int)) 3 ((5 : Nat) : Int)) 4 ((6 : Nat) : Int)) 5 ((7 : Nat) : Int)) 6 0) 7 0) 8 0) 9 0) 10 0) 11 0) 12 0) 13 0) 14 0)) (r2 : V 2 = (fun _ => 0)) (r8 : V 8 = (up (up (up (up (up (up (up (up (up (up (up (up (up (up (up (ia_d0 9) 0 ((9 : Nat) : Int)) 1 ((10 : Nat) : Int)) 2 ((11 : Nat) : Int)) 3 ((12 : Nat) : Int)) 4 ((13 : Nat) : Int)) 5 ((14 : Nat) : Int)) 6 0) 7 0) 8 0) 9 0) 10 0) 11 0) 12 0) 13 0) 14 0)) (r15 : V 15 = (up (up (up (ia_d0 6) 0 ((16 : Nat) : Int)) 1 0) 2 0)) (r16 : V 16 = (up (up (up (up (up (up (up (up (up (fun _ => -1) 0 ((17 : Nat) : Int)) 1 ((24 : Nat) : Int)) 2 ((31 : Nat) : Int)) 3 ((38 : Nat) : Int)) 4 ((45 : Nat) : Int)) 5 ((52 : Nat) : Int)) 6 ((59 : Nat) : Int)) 7 ((66 : Nat) : Int)) 8 ((73 : Nat) : Int))) (r17 : V 17 = (up (up (up (up (up (up (up (up (up (up (up (up (up (up (up (ia_d0 9) 0 ((18 : Nat) : Int)) 1 ((19 : Nat) : Int)) 2 ((20 : Nat) : Int)) 3 ((21 : Nat) : Int)) 4 ((22 : Nat) : Int)) 5 ((23 : Nat) : Int)) 6 0) 7 0) 8 0) 9 0) 10 0) 11 0) 12 0) 13 0) 14 0)) (r24 : V 24 = (up (up (up (up (up (up (up (up (up (up (up (up (up (up (up (ia_d0 9) 0 ((25 : Nat) : Int)) 1 ((26 : Nat) : Int)) 2 ((27 : Nat) : Int)) 3 ((28 : Nat) : Int)) 4 ((29 : Nat) : Int)) 5 ((30 : Nat) : Int)) 6 0) 7 0) 8 0) 9 0) 10 0) 11 0) 12 0) 13 0) 14 0)) (r31 : V 31 = (up (up (up (up (up (up (up (up (up (up (up (up (up (up (up (ia_d0 9) 0 ((32 : Nat) : Int)) 1 ((33 : Nat) : Int)) 2 ((34 : Nat) : Int)) 3 ((35 : Nat) : Int)) 4 ((36 : Nat) : Int)) 5 ((37 : Nat) : Int)) 6 0) 7 0) 8 0) 9 0) 10 0) 11 0) 12 0) 13 0) 14 0)) (r38 : V 38 = (up (up (up (up (up (up (up (up (up (up (up (up (up (up (up (ia_d0 9) 0 ((39 : Nat) : Int)) 1 ((40 : Nat) : Int)) 2 ((41 : Nat) : Int)) 3 ((42 : Nat) : Int)) 4 ((43 : Nat) : Int)) 5 ((44 : Nat) : Int)) 6 0) 7 0) 8 0) 9 0) 10 0) 11 0) 12 0) 13 0) 14 0)) (r45 : V 45 = (up (up (up (up (up (up (up (up (up (up (up (up (up (up (up (ia_d0 9) 0 ((46 : Nat) : Int)) 1 ((47 : Nat) : Int)) 2 ((48 : Nat) : Int)) 3 ((49 : Nat) : Int)) 4 ((50 : Nat) : Int)) 5 ((51 : Nat) : Int)) 6 0) 7 0) 8 0) 9 0) 10 0) 11 0) 12 0) 13 0) 14 0)) (r52 : V 52 = (up (up (up (up (up (up (up (up (up (up (up (up (up (up (up (ia_d0 9) 0 ((53 : Nat) : Int)) 1 ((54 : Nat) : Int)) 2 ((55 : Nat) : Int)) 3 ((56 : Nat) : Int)) 4 ((57 : Nat) : Int)) 5 ((58 : Nat) : Int)) 6 0) 7 0) 8 0) 9 0) 10 0) 11 0) 12 0) 13 0) 14 0)) (r59 : V 59 = (up (up (up (up (up (up (up (up (up (up (up (up (up (up (up (ia_d0 9) 0 ((60 : Nat) : Int)) 1 ((61 : Nat) : Int)) 2 ((62 : Nat) : Int)) 3 ((63 : Nat) : Int)) 4 ((64 : Nat) : Int)) 5 ((65 : Nat) : Int)) 6 0) 7 0) 8 0) 9 0) 10 0) 11 0) 12 0) 13 0) 14 0)) (r66 : V 66 = (up (up (up (up (up (up (up (up (up (up (up (up (up (up (up (ia_d0 9) 0 ((67 : Nat) : Int)) 1 ((68 : Nat) : Int)) 2 ((69 : Nat) : Int)) 3 ((70 : Nat) : Int)) 4 ((71 : Nat) : Int)) 5 ((72 : Nat) : Int)) 6 0) 7 0) 8 0) 9 0) 10 0) 11 0) 12 0) 13 0) 14 0)) (r73 : V 73 = (up (up (up (up (up (up (up (up (up (up (up (up (up (up (up (ia_d0 9) 0 ((74 : Nat) : Int)) 1 ((75 : Nat) : Int)) 2 ((76 : Nat) : Int)) 3 ((77 : Nat) : Int)) 4 ((78 : Nat) : Int)) 5 ((79 : Nat) : Int)) 6 0) 7 0) 8 0) 9 0) 10 0) 11 0) 12 0) 13 0) 14 0)) (r80 : V 80 = (up (up (up (up (up (up (up (ia_d0 4) 0 ((81 : Nat) : Int)) 1 ((82 : Nat) : Int)) 2 ((83 : Nat) : Int)) 3 ((84 : Nat) : Int)) 4 0) 5 0) 6 0)) (r85 : V 85 = (up (ia_d0 8) 0 ((86 : Nat) : Int))) (r87 : V 87 = (up (up (up (ia_d0 7) 0 ((88 : Nat) : Int)) 1 ((89 : Nat) : Int)) 2 ((90 : Nat) : Int))) (r91 : V 91 = (up (up (up (up (up (up (ia_d0 5) 0 ((92 : Nat) : Int)) 1 ((94 : Nat) : Int)) 2 ((95 : Nat) : Int)) 3 ((96 : Nat) : Int)) 4 0) 5 0)) (r92 : V 92 = (up (up (ia_d0 1) 0 ((93 : Nat) : Int)) 1 0)) (r93 : V 93 = (fun _ => 0)) (r97 : V 97 = (up (up (ia_d0 1) 0 ((98 : Nat) : Int)) 1 0)) (r98 : V 98 = (fun _ => 0)) (r99 : V 99 = (up (up (up (up (up (up (up (up (up (up (up (up (up (up (up (up (up (up (up (up (up (up (up (up (up (ia_d0 11) 0 ((100 : Nat) : Int)) 1 ((101 : Nat) : Int)) 2 ((102 : Nat) : Int)) 3 ((103 : Nat) : Int)) 4 ((104 : Nat) : Int)) 5 ((105 : Nat) : Int)) 6 ((106 : Nat) : Int)) 7 ((107 : Nat) : Int)) 8 ((108 : Nat) : Int)) 9 0) 10 0) 11 (-1)) 12 (-1)) 13 0) 14 ((109 : Nat) : Int)) 15 0) 16 ((110 : Nat) : Int)) 17 ((111 : Nat) : Int)) 18 ((112 : Nat) : Int)) 19 ((113 : Nat) : Int)) 20 0) 21 0) 22 0) 23 0) 24 0)) (r100 : V 100 = (fun _ => 0)) (r102 : V 102 = (fun _ => 0)) : LvI 0 Z V := by
  have hZ : ZI Z := ⟨by rw [hz.1]; exact Nat.le_refl _, by rw [hz.1]; decide, hz.2⟩
  have hP : PI V := fun p k q h => by
    have g1 := (ptr_lt h).1
    have g2 := ptr_k h
    have g3 := ptr_p p g1 k g2 (by rw [h]; rfl)
    simp only [List.mem_cons, List.not_mem_nil, or_false] at g3
    rcases g3 with rfl | rfl | rfl | rfl | rfl | rfl | rfl | rfl | rfl | rfl | rfl | rfl | rfl | rfl | rfl | rfl | rfl | rfl | rfl
    · rw [r0]; exact ptr_all h (ptr_r0 k g2)
    · rw [r1]; exact ptr_all h (ptr_r1 k g2)
    · rw [r8]; exact ptr_all h (ptr_r8 k g2)
    · rw [r15]; exact ptr_all h (ptr_r15 k g2)
    · rw [r16]; exact ptr_all h (ptr_r16 k g2)
    · rw [r17]; exact ptr_all h (ptr_r17 k g2)
    · rw [r24]; exact ptr_all h (ptr_r24 k g2)
    · rw [r31]; exact ptr_all h (ptr_r31 k g2)
    · rw [r38]; exact ptr_all h (ptr_r38 k g2)
    · rw [r45]; exact ptr_all h (ptr_r45 k g2)
    · rw [r52]; exact ptr_all h (ptr_r52 k g2)
    · rw [r59]; exact ptr_all h (ptr_r59 k g2)
    · rw [r66]; exact ptr_all h (ptr_r66 k g2)
    · rw [r73]; exact ptr_all h (ptr_r73 k g2)
    · rw [r80]; exact ptr_all h (ptr_r80 k g2)
    · rw [r85]; exact ptr_all h (ptr_r85 k g2)
    · rw [r87]; exact ptr_all h (ptr_r87 k g2)
    · rw [r91]; exact ptr_all h (ptr_r91 k g2)
    · rw [r99]; exact ptr_all h (ptr_r99 k g2)
  refine ⟨⟨hZ, hP, by rw [hz.1]; decide, by decide⟩, ⟨⟨fun c hc => by rw [r2, r100]; rfl, fun e he => ?_, fun e he => ?_, ?_, ?_, ?_, ?_, ?_, ?_, ?_, ?_, ?_, ?_, ?_⟩, ?_⟩, ⟨⟨?_, ?_⟩, ?_, fun k hk => ?_⟩, ⟨?_, ?_, ?_, fun g => ?_⟩, ⟨⟨?_, ?_⟩, ?_, ?_⟩, ⟨0, 93, 16, by decide, ?_, ?_⟩, ⟨0, 98, 16, by decide, ?_, ?_⟩, ?_⟩
  · rw [r100] at he
    exact absurd (show (e : Int) < 0 from he) (by omega)
  · rw [r100] at he
    exact absurd (show (e : Int) < 0 from he) (by omega)
  · rw [r1, r100]
    rfl
  · rw [r1, r100]
    rfl
  · rw [r1, r100]
    rfl
  · rw [r1, r100]
    rfl
  · rw [r1, r100]
    rfl
  · rw [r1, r100]
    rfl
  · rw [r1, r100]
    rfl
  · rw [r1, r100]
    rfl
  · rw [r1, r100]
    rfl
  · rw [r100]
    decide
  · rw [r100]
    decide
  · rw [r100]
    refine ⟨by decide, by decide, by decide, by decide, by decide, by decide, by decide, by decide, by decide, by decide, fun c hc => ?_, fun e he => absurd (show (e : Int) < 0 from he) (by omega), fun e he => absurd (show (e : Int) < 0 from he) (by omega)⟩
    exact ⟨Int.le_refl 0, (by decide : (0 : Int) ≤ 999)⟩
  · rw [r15]
    decide
  · rw [r15]
    decide
  · rw [r99, r15]
    rfl
  · rw [r15] at hk
    exact absurd hk (Int.not_lt.mpr (Int.natCast_nonneg k))
  · rw [r0]
    exact Or.inl rfl
  · rw [r99, r0]
    rfl
  · rw [r102]
    decide
  · rw [r0] at g
    exact absurd g (by decide)
  · rw [r0]
    decide
  · rw [r99, r0]
    rfl
  · rw [r0]
    decide
  · rw [r99, r0]
    rfl
  · rw [r99]
    rfl
  · exact ⟨zj hz (by decide) ⟨rfl, rfl⟩, zj hz (by decide) ⟨rfl, rfl⟩, by rw [r92]; rfl, by rw [r92]; rfl, by rw [r92]; rfl, ⟨by decide, by decide⟩, fun i hi => absurd hi (Nat.not_lt_zero _), fun i hi => by rw [r93]; exact ⟨Int.le_refl 0, (by decide : (0 : Int) ≤ 126)⟩, Or.inl rfl⟩
  · rw [r99]
    rfl
  · exact ⟨zj hz (by decide) ⟨rfl, rfl⟩, zj hz (by decide) ⟨rfl, rfl⟩, by rw [r97]; rfl, by rw [r97]; rfl, by rw [r97]; rfl, ⟨by decide, by decide⟩, fun i hi => absurd hi (Nat.not_lt_zero _), fun i hi => by rw [r98]; exact ⟨Int.le_refl 0, (by decide : (0 : Int) ≤ 126)⟩, Or.inl rfl⟩
  · rw [r92, r97]
    decide
set_option maxRecDepth 100000 in
set_option maxHeartbeats 2000000 in
theorem law_begin {X : ia_X} {LX : Nat} {xs : Nat → Int32} (F : ia_Fix X RL cL_law 9 20 20000 3600000) (hX : LSc X LX xs) (hL : LX ≤ 1536) (kend : ∀ (cells slots : Nat) (ls : List (Nat × Int)) (Z : ia_Z) (V : ia_H), cells ≤ 20000 → slots ≤ 3600000 → ia_G X cells slots 2410 ls [] Z V) {Z : ia_Z} {V : ia_H} (hz : ZJ 0 Z) : ia_G X 0 0 0 [(4, ((ia_E0 + 400 : Nat) : Int)), (9, 0), (9, 0), (9, 0), (9, 0), (9, 0), (9, 0), (9, 0), (9, 0)] [] Z V := by
  refine jnO (pc := 0) F cls10 ⟨il_RL_8, ia_i_RX7, ii_RX7⟩ hz (by decide) ⟨rfl, rfl⟩ ⟨by decide, by decide⟩ dL_law_0 (fun Z1 V1 z1 w1 o1 => ?_)
  refine ia_dup (pc := 3) F dL_law_3 (Or.inr (Or.inr rfl)) ?_
  refine jI (pc := 4) F 0 0 0 (c_X7_init z1 w1 (fun Z2 V2 z2 a0 a1 a2 a3 a4 a5 a6 a7 a8 a9 a10 a11 a12 a13 a14 a15 a16 a17 a18 a19 a20 a21 a22 a23 a24 a25 a26 a27 a28 a29 a30 a31 a32 a33 a34 a35 a36 a37 a38 a39 a40 a41 a42 a43 a44 a45 a46 a47 a48 a49 a50 a51 a52 a53 a54 a55 a56 a57 a58 a59 a60 a61 a62 a63 a64 a65 a66 a67 a68 a69 a70 a71 a72 a73 a74 a75 a76 a77 a78 a79 a80 a81 a82 a83 a84 a85 a86 a87 a88 a89 a90 a91 a92 a93 a94 a95 a96 a97 a98 o2 => ?_)) rfl ⟨k_X7_init, il_RL_128, im_X7_init, ii_RX7⟩ rfl 0 rfl hd_X7_init ⟨by decide, by decide, by decide, by decide, Nat.le_of_ble_eq_true rfl⟩ dL_law_4
  refine j0 ?_
  refine ia_astore_n (pc := 7) F (ls' := [(4, ((ia_E0 + 400 : Nat) : Int)), (4, ((0 : Nat) : Int)), (9, 0), (9, 0), (9, 0), (9, 0), (9, 0), (9, 0), (9, 0)]) dL_law_7 (Nat.le_of_ble_eq_true rfl) rfl rfl ?_
  refine jnO (pc := 8) F cls11 ⟨il_RL_129, ia_i_RX8, ii_RX8⟩ z2 (by decide) ⟨rfl, rfl⟩ ⟨by decide, by decide⟩ dL_law_8 (fun Z3 V3 z3 w3 o3 => ?_)
  refine ia_dup (pc := 11) F dL_law_11 (Or.inr (Or.inr rfl)) ?_
  refine jI (pc := 12) F 0 0 99 (c_X8_init z3 w3 (fun Z4 V4 z4 b99 b100 b101 b102 b103 b104 b105 b106 b107 b108 b109 b110 b111 b112 b113 o4 => ?_)) rfl ⟨k_X8_init, il_RL_131, im_X8_init, ii_RX8⟩ rfl 0 rfl hd_X8_init ⟨by decide, by decide, by decide, by decide, Nat.le_of_ble_eq_true rfl⟩ dL_law_12
  refine j0 ?_
  refine ia_astore_n (pc := 15) F (ls' := [(4, ((ia_E0 + 400 : Nat) : Int)), (4, ((0 : Nat) : Int)), (4, ((99 : Nat) : Int)), (9, 0), (9, 0), (9, 0), (9, 0), (9, 0), (9, 0)]) dL_law_15 (Nat.le_of_ble_eq_true rfl) rfl rfl ?_
  refine ia_iconst (pc := 16) F dL_law_16 ?_
  refine jnJ (pc := 17) F 1 rfl (by decide) z4 (by decide) ⟨rfl, rfl⟩ ⟨by decide, by decide⟩ dL_law_17 (fun Z5 V5 z5 w5 o5 => ?_)
  refine ia_astore_n (pc := 19) F (ls' := [(4, ((ia_E0 + 400 : Nat) : Int)), (4, ((0 : Nat) : Int)), (4, ((99 : Nat) : Int)), (4, ((114 : Nat) : Int)), (9, 0), (9, 0), (9, 0), (9, 0), (9, 0)]) dL_law_19 (Nat.le_of_ble_eq_true rfl) rfl rfl ?_
  refine ia_iconst (pc := 20) F dL_law_20 ?_
  refine jnD (pc := 21) F 1 rfl (by decide) z5 (by decide) ⟨rfl, rfl⟩ ⟨by decide, by decide⟩ dL_law_21 (fun Z6 V6 z6 w6 o6 => ?_)
  refine ia_astore (pc := 23) F (ls' := [(4, ((ia_E0 + 400 : Nat) : Int)), (4, ((0 : Nat) : Int)), (4, ((99 : Nat) : Int)), (4, ((114 : Nat) : Int)), (4, ((115 : Nat) : Int)), (9, 0), (9, 0), (9, 0), (9, 0)]) dL_law_23 (Nat.le_of_ble_eq_true rfl) rfl rfl ?_
  refine ia_iconst (pc := 25) F dL_law_25 ?_
  refine ia_istore (pc := 26) F (ls' := [(4, ((ia_E0 + 400 : Nat) : Int)), (4, ((0 : Nat) : Int)), (4, ((99 : Nat) : Int)), (4, ((114 : Nat) : Int)), (4, ((115 : Nat) : Int)), (0, ((3 * 0 : Nat) : Int)), (9, 0), (9, 0), (9, 0)]) dL_law_26 (Nat.le_of_ble_eq_true rfl) rfl rfl ?_
  refine lq_wid (c2 := 200) (s2 := 5000) (by decide) (by decide) ?_
  exact law_loop F hX hL kend 513 0 200 5000 Z6 V6 (by decide) rfl rfl (LvI_0 z6 (((o6 0 (by decide)).trans ((o5 0 (by decide)).trans ((o4 0 (by decide)).trans (o3 0 (by decide))))).trans a0) (((o6 1 (by decide)).trans ((o5 1 (by decide)).trans ((o4 1 (by decide)).trans (o3 1 (by decide))))).trans a1) (((o6 2 (by decide)).trans ((o5 2 (by decide)).trans ((o4 2 (by decide)).trans (o3 2 (by decide))))).trans a2) (((o6 8 (by decide)).trans ((o5 8 (by decide)).trans ((o4 8 (by decide)).trans (o3 8 (by decide))))).trans a8) (((o6 15 (by decide)).trans ((o5 15 (by decide)).trans ((o4 15 (by decide)).trans (o3 15 (by decide))))).trans a15) (((o6 16 (by decide)).trans ((o5 16 (by decide)).trans ((o4 16 (by decide)).trans (o3 16 (by decide))))).trans a16) (((o6 17 (by decide)).trans ((o5 17 (by decide)).trans ((o4 17 (by decide)).trans (o3 17 (by decide))))).trans a17) (((o6 24 (by decide)).trans ((o5 24 (by decide)).trans ((o4 24 (by decide)).trans (o3 24 (by decide))))).trans a24) (((o6 31 (by decide)).trans ((o5 31 (by decide)).trans ((o4 31 (by decide)).trans (o3 31 (by decide))))).trans a31) (((o6 38 (by decide)).trans ((o5 38 (by decide)).trans ((o4 38 (by decide)).trans (o3 38 (by decide))))).trans a38) (((o6 45 (by decide)).trans ((o5 45 (by decide)).trans ((o4 45 (by decide)).trans (o3 45 (by decide))))).trans a45) (((o6 52 (by decide)).trans ((o5 52 (by decide)).trans ((o4 52 (by decide)).trans (o3 52 (by decide))))).trans a52) (((o6 59 (by decide)).trans ((o5 59 (by decide)).trans ((o4 59 (by decide)).trans (o3 59 (by decide))))).trans a59) (((o6 66 (by decide)).trans ((o5 66 (by decide)).trans ((o4 66 (by decide)).trans (o3 66 (by decide))))).trans a66) (((o6 73 (by decide)).trans ((o5 73 (by decide)).trans ((o4 73 (by decide)).trans (o3 73 (by decide))))).trans a73) (((o6 80 (by decide)).trans ((o5 80 (by decide)).trans ((o4 80 (by decide)).trans (o3 80 (by decide))))).trans a80) (((o6 85 (by decide)).trans ((o5 85 (by decide)).trans ((o4 85 (by decide)).trans (o3 85 (by decide))))).trans a85) (((o6 87 (by decide)).trans ((o5 87 (by decide)).trans ((o4 87 (by decide)).trans (o3 87 (by decide))))).trans a87) (((o6 91 (by decide)).trans ((o5 91 (by decide)).trans ((o4 91 (by decide)).trans (o3 91 (by decide))))).trans a91) (((o6 92 (by decide)).trans ((o5 92 (by decide)).trans ((o4 92 (by decide)).trans (o3 92 (by decide))))).trans a92) (((o6 93 (by decide)).trans ((o5 93 (by decide)).trans ((o4 93 (by decide)).trans (o3 93 (by decide))))).trans a93) (((o6 97 (by decide)).trans ((o5 97 (by decide)).trans ((o4 97 (by decide)).trans (o3 97 (by decide))))).trans a97) (((o6 98 (by decide)).trans ((o5 98 (by decide)).trans ((o4 98 (by decide)).trans (o3 98 (by decide))))).trans a98) (((o6 99 (by decide)).trans (o5 99 (by decide))).trans b99) (((o6 100 (by decide)).trans (o5 100 (by decide))).trans b100) (((o6 102 (by decide)).trans (o5 102 (by decide))).trans b102))
