/-! what holds at the entry of the law: classes, statics, constants (made by wip/whole/start.py) -/
theorem tm1 {w : Cond} (h : w ∈ tables_1_1) : w ∈ lw_tbl := List.mem_append_right _ (List.mem_append_left _ h)
theorem tm2 {w : Cond} (h : w ∈ tables_1_2) : w ∈ lw_tbl := List.mem_append_right _ (List.mem_append_right _ (List.mem_append_left _ h))
theorem tm3 {w : Cond} (h : w ∈ tables_1_3) : w ∈ lw_tbl := List.mem_append_right _ (List.mem_append_right _ (List.mem_append_right _ (List.mem_append_left _ h)))
theorem tm4 {w : Cond} (h : w ∈ tables_1_4) : w ∈ lw_tbl := List.mem_append_right _ (List.mem_append_right _ (List.mem_append_right _ (List.mem_append_right _ (List.mem_append_left _ h))))
theorem tm5 {w : Cond} (h : w ∈ tables_1_5) : w ∈ lw_tbl := List.mem_append_right _ (List.mem_append_right _ (List.mem_append_right _ (List.mem_append_right _ (List.mem_append_right _ (List.mem_append_left _ h)))))
theorem tm6 {w : Cond} (h : w ∈ tables_1_6) : w ∈ lw_tbl := List.mem_append_right _ (List.mem_append_right _ (List.mem_append_right _ (List.mem_append_right _ (List.mem_append_right _ (List.mem_append_right _ (List.mem_append_left _ h))))))
theorem tm7 {w : Cond} (h : w ∈ tables_1_7) : w ∈ lw_tbl := List.mem_append_right _ (List.mem_append_right _ (List.mem_append_right _ (List.mem_append_right _ (List.mem_append_right _ (List.mem_append_right _ (List.mem_append_right _ (List.mem_append_left _ h)))))))
theorem tm8 {w : Cond} (h : w ∈ tables_1_8) : w ∈ lw_tbl := List.mem_append_right _ (List.mem_append_right _ (List.mem_append_right _ (List.mem_append_right _ (List.mem_append_right _ (List.mem_append_right _ (List.mem_append_right _ (List.mem_append_right _ (List.mem_append_left _ h))))))))
theorem tm9 {w : Cond} (h : w ∈ tables_1_9) : w ∈ lw_tbl := List.mem_append_right _ (List.mem_append_right _ (List.mem_append_right _ (List.mem_append_right _ (List.mem_append_right _ (List.mem_append_right _ (List.mem_append_right _ (List.mem_append_right _ (List.mem_append_right _ h))))))))
def na : List Cond := flatC (Jvm.Cond.and given_1 narrow_1)
def wk_T (i : Nat) : Term := .static RX1 (ia_cmd i) "LInkPrintery$Command;"
def wk_n : Nat → Nat
  | 0 => 62
  | 1 => 68
  | 2 => 71
  | 3 => 74
  | 4 => 77
  | 5 => 80
  | 6 => 83
  | 7 => 86
  | _ => 89
def wp_ex : Nat → Nat
  | 0 => 10
  | 1 => 15
  | 2 => 20
  | 3 => 25
  | 4 => 30
  | 5 => 5
  | 6 => 35
  | 7 => 40
  | _ => 257
def wp_st : Nat → Nat
  | 0 => 805
  | 1 => 812
  | 2 => 821
  | 3 => 832
  | 4 => 842
  | 5 => 798
  | 6 => 851
  | 7 => 860
  | _ => 869
def wk_S (i : Nat) : Term := .string RX1 (wk_n i)
def wk_V (i : Nat) : Term := .field (wk_S i) "java/lang/String" "value" "[B"
def wk_B (i : Nat) : List Int32 := (ia_word i).map Int32.ofInt
theorem na_ex : ∀ i : Nat, i < 9 → na[wp_ex i]? = some (Cond.exactly (wk_T i) RX1) := by decide +kernel
theorem na_or : ∀ i : Nat, i < 9 → na[wp_ex i + 1]? = some (Cond.eq (.field (wk_T i) "java/lang/Enum" "ordinal" "I") (.int (Int32.ofNat i))) := by decide +kernel
theorem na_wd : ∀ i : Nat, i < 9 → na[wp_ex i + 2]? = some (Cond.eq (.field (wk_T i) RX1 "word" "Ljava/lang/String;") (wk_S i)) := by decide +kernel
theorem na_f1 : ∀ i : Nat, i < 9 → na[wp_ex i + 3]? = some (Cond.eq (.field (wk_T i) RX1 "firstDigits" "I") (.int (Int32.ofInt (ia_dig1 i)))) := by decide +kernel
theorem na_f2 : ∀ i : Nat, i < 9 → na[wp_ex i + 4]? = some (Cond.eq (.field (wk_T i) RX1 "secondDigits" "I") (.int (Int32.ofInt (ia_dig2 i)))) := by decide +kernel
theorem na_sx : ∀ i : Nat, i < 9 → na[wp_st i]? = some (Cond.exactly (wk_S i) "java/lang/String") := by decide +kernel
theorem na_sc : ∀ i : Nat, i < 9 → na[wp_st i + 1]? = some (Cond.eq (.field (wk_S i) "java/lang/String" "coder" "B") (.int 0)) := by decide +kernel
theorem na_sa : ∀ i : Nat, i < 9 → na[wp_st i + 2]? = some (Cond.arrayOf (wk_V i) .byte) := by decide +kernel
theorem na_sl : ∀ i : Nat, i < 9 → na[wp_st i + 3]? = some (Cond.eq (.length (wk_V i)) (.int (Int32.ofNat (ia_word i).length))) := by decide +kernel
theorem na_cm : ∀ i : Nat, i < 9 → na[267 + i]? = some (Cond.eq (.elem (.static RX7 "COMMANDS" "[LInkPrintery$Command;") (.int (Int32.ofNat i))) (wk_T i)) := by decide +kernel
theorem na_sb : ∀ i : Nat, i < 9 → ∀ j : Nat, j < (ia_word i).length → na[wp_st i + 4 + j]? = some (Cond.eq (.elem (wk_V i) (.int (Int32.ofNat j))) (.int ((wk_B i).getD j 0))) := by decide +kernel
theorem na_do : ∀ j : Nat, j < 100 → na[54 + j]? = some (Cond.eq (.elem (.static RJ6 "DigitOnes" "[B") (.int (Int32.ofNat j))) (.int (Int32.ofInt ((48 + j % 10 : Nat) : Int)))) := by decide +kernel
theorem na_dt : ∀ j : Nat, j < 100 → na[157 + j]? = some (Cond.eq (.elem (.static RJ6 "DigitTens" "[B") (.int (Int32.ofNat j))) (.int (Int32.ofInt ((48 + j / 10 : Nat) : Int)))) := by decide +kernel
def wk_g (i : Nat) : List Int32 := [Int32.ofNat (ia_word i).length, (wk_B i).getD 0 0, (wk_B i).getD 1 0, (wk_B i).getD 2 0]
theorem wk_dis : ∀ i : Nat, i < 9 → ∀ j : Nat, j < 9 → wk_g i = wk_g j → i = j := by decide +kernel
theorem wk_or : ∀ i : Nat, i < 9 → ∀ j : Nat, j < 9 → Int32.ofNat i = Int32.ofNat j → i = j := by decide +kernel
theorem wk_l3 : ∀ i : Nat, i < 9 → 3 ≤ (ia_word i).length ∧ (ia_word i).length < 2 ^ 31 := by decide +kernel
theorem wk_gl : ∀ i : Nat, i < 9 → ((List.range 9).map (fun i => (ia_word i).length)).getD i 0 = (ia_word i).length ∧ ((List.range 9).map (fun i => (ia_word i).map Int32.ofInt)).getD i [] = wk_B i := by decide +kernel
theorem wk_ly : ∀ i : Nat, i < 9 → Cond.laysStatic RX1 (ia_cmd i) "LInkPrintery$Command;" ∈ lw_tbl := fun i hi => by
  rcases (show i = 0 ∨ i = 1 ∨ i = 2 ∨ i = 3 ∨ i = 4 ∨ i = 5 ∨ i = 6 ∨ i = 7 ∨ i = 8 by omega) with rfl | rfl | rfl | rfl | rfl | rfl | rfl | rfl | rfl
  · exact (tm2 (List.mem_of_getElem? (i := 90) (by decide +kernel)))
  · exact (tm2 (List.mem_of_getElem? (i := 103) (by decide +kernel)))
  · exact (tm2 (List.mem_of_getElem? (i := 109) (by decide +kernel)))
  · exact (tm2 (List.mem_of_getElem? (i := 115) (by decide +kernel)))
  · exact (tm2 (List.mem_of_getElem? (i := 128) (by decide +kernel)))
  · exact (tm2 (List.mem_of_getElem? (i := 69) (by decide +kernel)))
  · exact (tm2 (List.mem_of_getElem? (i := 183) (by decide +kernel)))
  · exact (tm2 (List.mem_of_getElem? (i := 196) (by decide +kernel)))
  · exact (tm6 (List.mem_of_getElem? (i := 7) (by decide +kernel)))
section WKS
variable {s : State} {args : Array Value}
theorem wk_hs (hgv : (Jvm.Cond.and given_1 narrow_1).before args s = true) {k : Nat} {w : Cond} (h : na[k]? = some w) : w.before args s = true := flat_of_before _ hgv w (List.mem_of_getElem? h)
theorem wk_ev {t : Term} {c : String} (h : (Cond.exactly t c).before args s = true) : ∃ a : Nat, t.eval args s none [] s = some (.ref a) := by
  obtain ⟨a, -, -, -, q1, -⟩ := Cond.exactly_spec h
  exact ⟨a, q1⟩
theorem wk_rf {t : Term} (h : (Cond.isRef t).before args s = true) : ∃ k a : Nat, t.eval args s none [] s = some (va_rf (if k = 0 then none else some a)) := by
  obtain ⟨v, h1, h2⟩ := Cond.isRef_spec h
  cases v with
  | null => exact ⟨0, 0, h1⟩
  | ref a => exact ⟨1, a, h1⟩
  | _ => simp [Value.isRef] at h2
theorem wk_same {t N M : Nat} {f g : Nat → Value} {A : Nat → Prop} {H : Heap} (h1 : va_T .byte t N f A s H) (h2 : va_T .byte t M g A s H) : Int32.ofNat N = Int32.ofNat M ∧ ∀ k : Nat, k < N → k < M → f k = g k := by
  obtain ⟨c, a1, -, -, -, a5, a6, -⟩ := h1
  obtain ⟨c2, b1, -, -, -, b5, b6, -⟩ := h2
  have e : c = c2 := Option.some.inj (a1.symm.trans b1)
  subst e
  exact ⟨a5.symm.trans b5, fun k hk hk2 => Option.some.inj ((a6 k hk).symm.trans (b6 k hk2))⟩
set_option maxRecDepth 20000 in
set_option maxHeartbeats 4000000 in
theorem wk_st (hts : ∀ w ∈ lw_tbl, w.before args s = true) (hgv : (Jvm.Cond.and given_1 narrow_1).before args s = true) (b : Nat) : ∃ ae : Nat → Nat, ae 400 = b ∧ ia_St s.heap.size ae s s.heap ∧ ia_Sx ae s := by
  have hA : ∀ a : Nat, a < s.heap.size → ¬ (fun q : Nat => s.heap.size ≤ q) a := fun a h h2 => absurd h (Nat.not_lt.mpr h2)
  have h1 : ∀ i : Nat, ∃ t : Nat, i < 9 → (wk_T i).eval args s none [] s = some (.ref t) := fun i => by
    by_cases hi : i < 9
    · obtain ⟨a, h⟩ := wk_ev (wk_hs hgv (na_ex i hi))
      exact ⟨a, fun _ => h⟩
    · exact ⟨0, fun h => absurd h hi⟩
  obtain ⟨aT, hT⟩ := Classical.axiomOfChoice h1
  have h2 : ∀ i : Nat, ∃ t : Nat, i < 9 → (wk_S i).eval args s none [] s = some (.ref t) := fun i => by
    by_cases hi : i < 9
    · obtain ⟨a, h⟩ := wk_ev (wk_hs hgv (na_sx i hi))
      exact ⟨a, fun _ => h⟩
    · exact ⟨0, fun h => absurd h hi⟩
  obtain ⟨aS, hS⟩ := Classical.axiomOfChoice h2
  have h3 : ∀ i : Nat, ∃ t : Nat, i < 9 → (wk_V i).eval args s none [] s = some (.ref t) ∧ va_T .byte t (ia_word i).length (fun j => .int ((wk_B i).getD j 0)) (fun q : Nat => s.heap.size ≤ q) s s.heap := fun i => by
    by_cases hi : i < 9
    · obtain ⟨a, h⟩ := va_Tof (f := fun j => .int ((wk_B i).getD j 0)) (A := fun q : Nat => s.heap.size ≤ q) (wk_l3 i hi).2 (wk_hs hgv (na_sa i hi)) (va_eqt (wk_hs hgv (na_sl i hi))) (fun j hj => va_eqt (wk_hs hgv (na_sb i hi j hj))) hA
      exact ⟨a, fun _ => h⟩
    · exact ⟨0, fun h => absurd h hi⟩
  obtain ⟨aV, hV⟩ := Classical.axiomOfChoice h3
  obtain ⟨tC, hC1, hC2⟩ := va_Tof (tm := .static RX7 "COMMANDS" "[LInkPrintery$Command;") (ty := .object RX1) (N := 9) (f := fun i => .ref (aT i)) (A := fun q : Nat => s.heap.size ≤ q) (by decide) (wk_hs hgv (k := 264) (by decide +kernel)) (va_eqt (wk_hs hgv (k := 265) (by decide +kernel))) (fun j hj => va_eqv (wk_hs hgv (na_cm j hj)) (hT j hj)) hA
  obtain ⟨tO, hO1, hO2⟩ := va_Tof (tm := .static RJ6 "DigitOnes" "[B") (ty := .byte) (N := 100) (f := fun j => .int (Int32.ofInt ((48 + j % 10 : Nat) : Int))) (A := fun q : Nat => s.heap.size ≤ q) (by decide) (wk_hs hgv (k := 52) (by decide +kernel)) (va_eqt (wk_hs hgv (k := 53) (by decide +kernel))) (fun j hj => va_eqt (wk_hs hgv (na_do j hj))) hA
  obtain ⟨tN, hN1, hN2⟩ := va_Tof (tm := .static RJ6 "DigitTens" "[B") (ty := .byte) (N := 100) (f := fun j => .int (Int32.ofInt ((48 + j / 10 : Nat) : Int))) (A := fun q : Nat => s.heap.size ≤ q) (by decide) (wk_hs hgv (k := 155) (by decide +kernel)) (va_eqt (wk_hs hgv (k := 156) (by decide +kernel))) (fun j hj => va_eqt (wk_hs hgv (na_dt j hj))) hA
  obtain ⟨kB, tB, hB⟩ := wk_rf (t := .static RJ3 "SIOOBE_FORMATTER" "Ljava/util/function/BiFunction;") (wk_hs hgv (k := 47) (by decide +kernel))
  obtain ⟨ae, hae⟩ : ∃ f : Nat → Nat, f = fun k => if k < 9 then aT k else if 100 ≤ k ∧ k < 109 then aS (k - 100) else if 300 ≤ k ∧ k < 309 then aV (k - 300) else if k = 200 then tC else if k = 201 then tO else if k = 202 then tN else if k = 203 then tB else if k = 204 then kB else b := ⟨_, rfl⟩
  have e1 : ∀ i : Nat, i < 9 → ae i = aT i := fun i hi => by rw [hae]; exact if_pos hi
  have e2 : ∀ i : Nat, i < 9 → ae (100 + i) = aS i := fun i hi => by
    rw [hae]
    show (if 100 + i < 9 then _ else _) = _
    rw [if_neg (by omega), if_pos (by omega), Nat.add_sub_cancel_left]
  have e3 : ∀ i : Nat, i < 9 → ae (300 + i) = aV i := fun i hi => by
    rw [hae]
    show (if 300 + i < 9 then _ else _) = _
    rw [if_neg (by omega), if_neg (by omega), if_pos (by omega), Nat.add_sub_cancel_left]
  have e200 : ae 200 = tC := by rw [hae]; rfl
  have e201 : ae 201 = tO := by rw [hae]; rfl
  have e202 : ae 202 = tN := by rw [hae]; rfl
  have e203 : ae 203 = tB := by rw [hae]; rfl
  have e204 : ae 204 = kB := by rw [hae]; rfl
  refine ⟨ae, by rw [hae]; rfl, ⟨⟨?_, ?_⟩, fun i hi => ?_, ⟨?_, ?_⟩, ⟨fun i hi => ?_, fun i hi => ?_, fun i hi => ?_⟩, ⟨fun i hi => ?_, fun i j hi hj e => ?_⟩, ⟨?_, ?_⟩, ⟨?_, ?_⟩, ?_, ?_⟩, ?_, fun i j hi hj e => ?_, ?_, ?_, ?_⟩
  · exact vx_Zqof (hts _ (tm3 (List.mem_of_getElem? (i := 2) (by decide +kernel)))) (hts _ (tm1 (List.mem_of_getElem? (i := 17) (by decide +kernel)))) (wk_hs hgv (k := 45) (by decide +kernel)) hA
  · exact vx_Zqof (hts _ (tm3 (List.mem_of_getElem? (i := 4) (by decide +kernel)))) (hts _ (tm1 (List.mem_of_getElem? (i := 17) (by decide +kernel)))) (wk_hs hgv (k := 46) (by decide +kernel)) hA
  · rw [e1 i hi]
    exact ⟨va_Zref (hts _ (wk_ly i hi)) (hts _ (tm1 (List.mem_of_getElem? (i := 14) (by decide +kernel)))) (hT i hi) hA, va_Oof (wk_hs hgv (na_ex i hi)) (hT i hi) hA⟩
  · rw [e200]
    exact va_Zref (hts _ (tm6 (List.mem_of_getElem? (i := 116) (by decide +kernel)))) (hts _ (tm1 (List.mem_of_getElem? (i := 1) (by decide +kernel)))) hC1 hA
  · rw [e200]
    obtain ⟨c, a1, a2, a3, a4, a5, a6, a7⟩ := hC2
    exact ⟨c, a1, a2, a3, a4, a5, fun j hj => by
      show c.slots[j]? = some (.ref (ae j))
      rw [e1 j hj]
      exact a6 j hj, a7⟩
  · show va_OF RX1 "word" "Ljava/lang/String;" (.ref (ae (100 + i))) (ae i) (fun q : Nat => s.heap.size ≤ q) s s.heap
    rw [e1 i hi, e2 i hi]
    exact vk_OFof (hT i hi) (va_eqv (wk_hs hgv (na_wd i hi)) (hS i hi)) hA
  · show va_OF RX1 "firstDigits" "I" (.int (Int32.ofInt (ia_dig1 i))) (ae i) (fun q : Nat => s.heap.size ≤ q) s s.heap
    rw [e1 i hi]
    exact vk_OFof (hT i hi) (va_eqt (wk_hs hgv (na_f1 i hi))) hA
  · show va_OF RX1 "secondDigits" "I" (.int (Int32.ofInt (ia_dig2 i))) (ae i) (fun q : Nat => s.heap.size ≤ q) s s.heap
    rw [e1 i hi]
    exact vk_OFof (hT i hi) (va_eqt (wk_hs hgv (na_f2 i hi))) hA
  · show va_O "java/lang/String" (ae (100 + i)) (fun q : Nat => s.heap.size ≤ q) s s.heap ∧ va_OF "java/lang/String" "coder" "B" (.int 0) (ae (100 + i)) (fun q : Nat => s.heap.size ≤ q) s s.heap ∧ va_OF "java/lang/String" "value" "[B" (.ref (ae (300 + i))) (ae (100 + i)) (fun q : Nat => s.heap.size ≤ q) s s.heap ∧ va_T .byte (ae (300 + i)) (((List.range 9).map (fun i => (ia_word i).length)).getD i 0) (fun j => .int ((((List.range 9).map (fun i => (ia_word i).map Int32.ofInt)).getD i []).getD j 0)) (fun q : Nat => s.heap.size ≤ q) s s.heap
    rw [e2 i hi, e3 i hi, (wk_gl i hi).1, (wk_gl i hi).2]
    exact ⟨va_Oof (wk_hs hgv (na_sx i hi)) (hS i hi) hA, vk_OFof (hS i hi) (va_eqt (wk_hs hgv (na_sc i hi))) hA, vk_OFof (hS i hi) (hV i hi).1 hA, (hV i hi).2⟩
  · have e' : aS i = aS j := by rw [← e2 i hi, ← e2 j hj]; exact e
    have g1 := (va_fe (c := "java/lang/String") (n := "value") (d := "[B") (hS i hi)).symm.trans (hV i hi).1
    have g2 := (va_fe (c := "java/lang/String") (n := "value") (d := "[B") (hS j hj)).symm.trans (hV j hj).1
    rw [e'] at g1
    have g3 : aV i = aV j := by
      have := g1.symm.trans g2
      injection this with h
      injection h
    have g4 := (hV i hi).2
    rw [g3] at g4
    obtain ⟨l1, l2⟩ := wk_same g4 (hV j hj).2
    have q1 := wk_l3 i hi
    have q2 := wk_l3 j hj
    have pk : ∀ k : Nat, k < 3 → (wk_B i).getD k 0 = (wk_B j).getD k 0 := fun k hk => by
      have h9 : Value.int ((wk_B i).getD k 0) = Value.int ((wk_B j).getD k 0) := l2 k (by omega) (by omega)
      injection h9
    refine wk_dis i hi j hj ?_
    unfold wk_g
    rw [l1, pk 0 (by decide), pk 1 (by decide), pk 2 (by decide)]
  · exact va_Zof (hts _ (tm1 (List.mem_of_getElem? (i := 211) (by decide +kernel)))) (hts _ (tm1 (List.mem_of_getElem? (i := 10) (by decide +kernel)))) (va_eqt (wk_hs hgv (k := 4) (by decide +kernel))) hA
  · rw [e203, e204]
    exact va_Zof (hts _ (tm4 (List.mem_of_getElem? (i := 33) (by decide +kernel)))) (hts _ (tm1 (List.mem_of_getElem? (i := 30) (by decide +kernel)))) hB hA
  · rw [e201]
    exact va_Zref (hts _ (tm4 (List.mem_of_getElem? (i := 103) (by decide +kernel)))) (hts _ (tm1 (List.mem_of_getElem? (i := 33) (by decide +kernel)))) hO1 hA
  · rw [e201]
    exact hO2
  · rw [e202]
    exact va_Zref (hts _ (tm4 (List.mem_of_getElem? (i := 105) (by decide +kernel)))) (hts _ (tm1 (List.mem_of_getElem? (i := 33) (by decide +kernel)))) hN1 hA
  · rw [e202]
    exact hN2
  · intro t ht
    simp only [ia_strs, List.mem_cons, List.not_mem_nil, or_false] at ht
    rcases ht with rfl | rfl | rfl | rfl | rfl | rfl | rfl | rfl | rfl
    · obtain ⟨a, h⟩ := wk_ev (t := .string RX7 396) (c := "java/lang/String") (wk_hs hgv (k := 420) (by decide +kernel))
      exact ⟨a, vk_R.of (hts _ (tm3 (List.mem_of_getElem? (i := 21) (by decide +kernel)))) h⟩
    · obtain ⟨a, h⟩ := wk_ev (t := .string RX7 398) (c := "java/lang/String") (wk_hs hgv (k := 451) (by decide +kernel))
      exact ⟨a, vk_R.of (hts _ (tm3 (List.mem_of_getElem? (i := 59) (by decide +kernel)))) h⟩
    · obtain ⟨a, h⟩ := wk_ev (t := .string RX7 402) (c := "java/lang/String") (wk_hs hgv (k := 489) (by decide +kernel))
      exact ⟨a, vk_R.of (hts _ (tm3 (List.mem_of_getElem? (i := 78) (by decide +kernel)))) h⟩
    · obtain ⟨a, h⟩ := wk_ev (t := .string RX7 393) (c := "java/lang/String") (wk_hs hgv (k := 525) (by decide +kernel))
      exact ⟨a, vk_R.of (hts _ (tm3 (List.mem_of_getElem? (i := 94) (by decide +kernel)))) h⟩
    · obtain ⟨a, h⟩ := wk_ev (t := .string RX7 407) (c := "java/lang/String") (wk_hs hgv (k := 674) (by decide +kernel))
      exact ⟨a, vk_R.of (hts _ (tm5 (List.mem_of_getElem? (i := 202) (by decide +kernel)))) h⟩
    · obtain ⟨a, h⟩ := wk_ev (t := .string RX7 236) (c := "java/lang/String") (wk_hs hgv (k := 704) (by decide +kernel))
      exact ⟨a, vk_R.of (hts _ (tm6 (List.mem_of_getElem? (i := 45) (by decide +kernel)))) h⟩
    · obtain ⟨a, h⟩ := wk_ev (t := .string RX7 241) (c := "java/lang/String") (wk_hs hgv (k := 729) (by decide +kernel))
      exact ⟨a, vk_R.of (hts _ (tm6 (List.mem_of_getElem? (i := 54) (by decide +kernel)))) h⟩
    · obtain ⟨a, h⟩ := wk_ev (t := .string RX7 303) (c := "java/lang/String") (wk_hs hgv (k := 753) (by decide +kernel))
      exact ⟨a, vk_R.of (hts _ (tm6 (List.mem_of_getElem? (i := 157) (by decide +kernel)))) h⟩
    · obtain ⟨a, h⟩ := wk_ev (t := .string RX7 317) (c := "java/lang/String") (wk_hs hgv (k := 778) (by decide +kernel))
      exact ⟨a, vk_R.of (hts _ (tm6 (List.mem_of_getElem? (i := 166) (by decide +kernel)))) h⟩
  · have e' : aT i = aT j := by rw [← e1 i hi, ← e1 j hj]; exact e
    have g1 := (va_fe (c := "java/lang/Enum") (n := "ordinal") (d := "I") (hT i hi)).symm.trans (va_eqt (wk_hs hgv (na_or i hi)))
    have g2 := (va_fe (c := "java/lang/Enum") (n := "ordinal") (d := "I") (hT j hj)).symm.trans (va_eqt (wk_hs hgv (na_or j hj)))
    rw [e'] at g1
    have g3 := g1.symm.trans g2
    injection g3 with h
    injection h with h
    exact wk_or i hi j hj h
  · intro t ht
    simp only [ia_ncs, List.mem_cons, List.not_mem_nil, or_false] at ht
    rcases ht with rfl | rfl | rfl | rfl
    · exact va_Nc.of (wk_hs hgv (k := 286) (by decide +kernel))
    · exact va_Nc.of (wk_hs hgv (k := 323) (by decide +kernel))
    · exact va_Nc.of (wk_hs hgv (k := 324) (by decide +kernel))
    · exact va_Nc.of (wk_hs hgv (k := 306) (by decide +kernel))
  · exact va_AO.of (hts _ (tm1 (List.mem_of_getElem? (i := 124) (by decide +kernel))))
  · exact va_AO.of (hts _ (tm1 (List.mem_of_getElem? (i := 235) (by decide +kernel))))
set_option maxRecDepth 20000 in
theorem wk_U (hts : ∀ w ∈ lw_tbl, w.before args s = true) : ∀ w ∈ wU, w.before args s = true := by
  intro w hw
  rcases List.mem_append.mp (List.mem_filter.mp hw).1 with h | h
  · simp only [wX, List.mem_cons, List.not_mem_nil, or_false] at h
    rcases h with rfl | rfl
    · exact ja_selp (n := 4) ⟨by decide +kernel, by decide +kernel⟩ (hts _ (tm1 (List.mem_of_getElem? (i := 202) (by decide +kernel)))) (hts _ (tm9 (List.mem_of_getElem? (i := 4) (by decide +kernel)))) (hts _ (tm3 (List.mem_of_getElem? (i := 227) (by decide +kernel)))) (hts _ (tm3 (List.mem_of_getElem? (i := 228) (by decide +kernel))))
    · exact ja_selp (n := 4) ⟨by decide +kernel, by decide +kernel⟩ (hts _ (tm1 (List.mem_of_getElem? (i := 202) (by decide +kernel)))) (hts _ (tm9 (List.mem_of_getElem? (i := 5) (by decide +kernel)))) (hts _ (tm3 (List.mem_of_getElem? (i := 231) (by decide +kernel)))) (hts _ (tm3 (List.mem_of_getElem? (i := 232) (by decide +kernel))))
  · exact hts w h
theorem wk_nest (hts : ∀ w ∈ lw_tbl, w.before args s = true) : ∀ w ∈ ia_nest, va_Nw w s := by
  intro w hw
  obtain ⟨h1, h2⟩ := List.mem_filter.mp hw
  refine va_Nw.of ?_ (hts w h1)
  cases w <;> first | rfl | (simp at h2)
set_option maxRecDepth 20000 in
set_option maxHeartbeats 4000000 in
theorem wk_K (hU : ∀ w ∈ wU, w.before args s = true) (hts : ∀ w ∈ lw_tbl, w.before args s = true) : ∃ (g : va_G) (cA : Nat → ClassId), ∀ (n : Nat) (ae : Nat → Nat), va_K g vwCl (ia_tys (g, cA, n, ae)) s := by
  obtain ⟨c0, i0, h0⟩ := u_known (C := RJ0) (T := TJ0) (N := 4) (n := 4) hU cls0.2.1 (hU _ ia_i_RJ0)
  obtain ⟨c1, i1, h1⟩ := u_known (C := RJ4) (T := TJ4) (N := 4) (n := 4) hU cls1.2.1 (hU _ ia_i_RJ4)
  obtain ⟨c2, i2, h2⟩ := u_known (C := RJx00060) (T := TJx00060) (N := 6) (n := 6) hU (by decide +kernel) (hU _ ia_i_RJx00060)
  obtain ⟨c3, i3, h3⟩ := u_known (C := RJx7c733) (T := TJx7c733) (N := 6) (n := 6) hU (by decide +kernel) (hU _ ia_i_RJx7c733)
  obtain ⟨c4, i4, h4⟩ := u_known (C := RX0) (T := TX0) (N := 7) (n := 7) hU cls4.2.1 (hU _ ia_i_RX0)
  obtain ⟨c5, i5, h5⟩ := u_known (C := RX2) (T := TX2) (N := 6) (n := 6) hU cls5.2.1 (hU _ ia_i_RX2)
  obtain ⟨c6, i6, h6⟩ := u_known (C := RX3) (T := TX3) (N := 3) (n := 3) hU cls6.2.1 (hU _ ia_i_RX3)
  obtain ⟨c7, i7, h7⟩ := u_known (C := RX4) (T := TX4) (N := 3) (n := 3) hU cls7.2.1 (hU _ ia_i_RX4)
  obtain ⟨c8, i8, h8⟩ := u_known (C := RX5) (T := TX5) (N := 1) (n := 1) hU cls8.2.1 (hU _ ia_i_RX5)
  obtain ⟨c9, i9, h9⟩ := u_known (C := RX6) (T := TX6) (N := 15) (n := 15) hU cls9.2.1 (hU _ ia_i_RX6)
  obtain ⟨c10, i10, h10⟩ := u_known (C := RX7) (T := TX7) (N := 11) (n := 11) hU cls10.2.1 (hU _ ia_i_RX7)
  obtain ⟨c11, i11, h11⟩ := u_known (C := RX8) (T := TX8) (N := 25) (n := 25) hU cls11.2.1 (hU _ ia_i_RX8)
  obtain ⟨a0, k0, p0, u0, v0, w0⟩ := Cond.arrayClass_spec (hU _ ia_a_int)
  obtain ⟨a1, k1, p1, u1, v1, w1⟩ := Cond.arrayClass_spec (hU _ ia_a_long)
  obtain ⟨a2, k2, p2, u2, v2, w2⟩ := Cond.arrayClass_spec (hU _ ia_a_double)
  obtain ⟨a3, k3, p3, u3, v3, w3⟩ := Cond.arrayClass_spec (hU _ ia_a_byte)
  obtain ⟨p4, a4, k4, x4, -, v4, w4, u4⟩ := Cond.arrayOver_spec (hts (Cond.arrayOver (.object RX6)) (tm1 (List.mem_of_getElem? (i := 124) (by decide +kernel))))
  obtain ⟨p5, a5, k5, x5, -, v5, w5, u5⟩ := Cond.arrayOver_spec (hts (Cond.arrayOver (.object RX1)) (tm1 (List.mem_of_getElem? (i := 235) (by decide +kernel))))
  refine ⟨(fun k => if k = 0 then c0 else if k = 1 then c1 else if k = 2 then c2 else if k = 3 then c3 else if k = 4 then c4 else if k = 5 then c5 else if k = 6 then c6 else if k = 7 then c7 else if k = 8 then c8 else if k = 9 then c9 else if k = 10 then c10 else c11, fun k => if k = 0 then i0 else if k = 1 then i1 else if k = 2 then i2 else if k = 3 then i3 else if k = 4 then i4 else if k = 5 then i5 else if k = 6 then i6 else if k = 7 then i7 else if k = 8 then i8 else if k = 9 then i9 else if k = 10 then i10 else i11), fun k => if k = 0 then a0 else if k = 1 then a1 else if k = 2 then a2 else if k = 3 then a3 else if k = 4 then a4 else a5, fun n ae => ⟨?_, ?_⟩⟩
  · intro k q hq
    match k, hq with
    | 0, hq => cases hq; exact h0
    | 1, hq => cases hq; exact h1
    | 2, hq => cases hq; exact h2
    | 3, hq => cases hq; exact h3
    | 4, hq => cases hq; exact h4
    | 5, hq => cases hq; exact h5
    | 6, hq => cases hq; exact h6
    | 7, hq => cases hq; exact h7
    | 8, hq => cases hq; exact h8
    | 9, hq => cases hq; exact h9
    | 10, hq => cases hq; exact h10
    | 11, hq => cases hq; exact h11
    | k + 12, hq => simp [vwCl] at hq
  · intro k q hq
    match k, hq with
    | 0, hq => cases hq; exact ⟨fun n z => ⟨fun k h => (by cases h), k0, v0, p0, w0⟩, u0⟩
    | 1, hq => cases hq; exact ⟨fun n z => ⟨fun k h => (by cases h), k1, v1, p1, w1⟩, u1⟩
    | 2, hq => cases hq; exact ⟨fun n z => ⟨fun k h => (by cases h), k2, v2, p2, w2⟩, u2⟩
    | 3, hq => cases hq; exact ⟨fun n z => ⟨fun k h => (by cases h), k3, v3, p3, w3⟩, u3⟩
    | 4, hq => cases hq; exact ⟨fun n z => ⟨fun k h => (by cases h), k4, v4, p4, w4⟩, k4, p4, v4, w4, x4, u4⟩
    | 5, hq => cases hq; exact ⟨fun n z => ⟨fun k h => (by cases h), k5, v5, p5, w5⟩, k5, p5, v5, w5, x5, u5⟩
    | k + 6, hq => simp [ia_tys] at hq
theorem wk_kn (hts : ∀ w ∈ lw_tbl, w.before args s = true) (hgv : (Jvm.Cond.and given_1 narrow_1).before args s = true) (b : Nat) : ∃ gl : ia_GL, gl.2.2.1 = s.heap.size ∧ gl.2.2.2 400 = b ∧ ia_Kn gl s := by
  obtain ⟨ae, h1, h2, h3⟩ := wk_st hts hgv b
  obtain ⟨g, cA, h4⟩ := wk_K (wk_U hts) hts
  exact ⟨(g, cA, s.heap.size, ae), rfl, h1, h4 _ _, wk_nest hts, h2, h3, Nat.le_refl _⟩
end WKS
