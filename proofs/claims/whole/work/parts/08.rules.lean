/-! THE RULES: an instruction a row, over the abstract heap -/
section IAR
variable {X : ia_X} {own : String} {cc : ByteArray} {nL d mc ms cells slots pc : Nat} {ls st : List (Nat × Int)} {Z : ia_Z} {V : ia_H}
theorem ia_iconst (F : ia_Fix X own cc nL d mc ms) {n : Int} (dg : decode cc pc = .ok (.iconst n, 1)) (kk : ia_G X cells slots (pc + 1) ls ((0, n) :: st) Z V) : ia_G X cells slots pc ls st Z V :=
  fun H locs ad lsA r1 r2 r3 r4 r5 r6 r7 r8 => lv_iconst F.1.1 F.1.2.1 dg rfl (kk H locs ad lsA r1 r2 r3 r4 r5 r6 r7 (ia_wfc (ia_wfi (by decide)) r8))
theorem ia_bipush (F : ia_Fix X own cc nL d mc ms) {n : Int} (dg : decode cc pc = .ok (.bipush n, 2)) (hv : (Int8.ofInt n).toInt32 = Int32.ofInt n) (kk : ia_G X cells slots (pc + 2) ls ((0, n) :: st) Z V) : ia_G X cells slots pc ls st Z V :=
  fun H locs ad lsA r1 r2 r3 r4 r5 r6 r7 r8 => lv_bipush F.1.1 F.1.2.1 dg hv (kk H locs ad lsA r1 r2 r3 r4 r5 r6 r7 (ia_wfc (ia_wfi (by decide)) r8))
theorem ia_sipush (F : ia_Fix X own cc nL d mc ms) {n : Int} (dg : decode cc pc = .ok (.sipush n, 3)) (hv : (Int16.ofInt n).toInt32 = Int32.ofInt n) (kk : ia_G X cells slots (pc + 3) ls ((0, n) :: st) Z V) : ia_G X cells slots pc ls st Z V :=
  fun H locs ad lsA r1 r2 r3 r4 r5 r6 r7 r8 => lv_sipush F.1.1 F.1.2.1 dg hv (kk H locs ad lsA r1 r2 r3 r4 r5 r6 r7 (ia_wfc (ia_wfi (by decide)) r8))
theorem ia_lconst (F : ia_Fix X own cc nL d mc ms) {n : Fin 2} {v : Int} (dg : decode cc pc = .ok (.lconst n, 1)) (hv : Int64.ofNat (n : Nat) = Int64.ofInt v) (kk : ia_G X cells slots (pc + 1) ls ((1, v) :: st) Z V) : ia_G X cells slots pc ls st Z V :=
  fun H locs ad lsA r1 r2 r3 r4 r5 r6 r7 r8 => lv_lconst F.1.1 F.1.2.1 dg hv (kk H locs ad lsA r1 r2 r3 r4 r5 r6 r7 (ia_wfc (ia_wfi (by decide)) r8))
theorem ia_iload_n (F : ia_Fix X own cc nL d mc ms) {k : Fin 4} {x : Int} (dg : decode cc pc = .ok (.iload_n k, 1)) (hl : ls[(k : Nat)]? = some (0, x)) (kk : ia_G X cells slots (pc + 1) ls ((0, x) :: st) Z V) : ia_G X cells slots pc ls st Z V :=
  fun H locs ad lsA r1 r2 r3 r4 r5 r6 r7 r8 => lv_iload_n F.1.1 F.1.2.1 dg rfl (ia_L_at r5 hl (show (0 : Nat) ≠ 9 by decide)) (kk H locs ad lsA r1 r2 r3 r4 r5 r6 r7 (ia_wfc (ia_wfi (by decide)) r8))
theorem ia_iload (F : ia_Fix X own cc nL d mc ms) {i : Nat} {x : Int} (dg : decode cc pc = .ok (.iload i, 2)) (hl : ls[i]? = some (0, x)) (kk : ia_G X cells slots (pc + 2) ls ((0, x) :: st) Z V) : ia_G X cells slots pc ls st Z V :=
  fun H locs ad lsA r1 r2 r3 r4 r5 r6 r7 r8 => lv_iload F.1.1 F.1.2.1 dg (ia_L_at r5 hl (show (0 : Nat) ≠ 9 by decide)) (kk H locs ad lsA r1 r2 r3 r4 r5 r6 r7 (ia_wfc (ia_wfi (by decide)) r8))
theorem ia_lload_n (F : ia_Fix X own cc nL d mc ms) {k : Fin 4} {x : Int} (dg : decode cc pc = .ok (.lload_n k, 1)) (hl : ls[(k : Nat)]? = some (1, x)) (kk : ia_G X cells slots (pc + 1) ls ((1, x) :: st) Z V) : ia_G X cells slots pc ls st Z V :=
  fun H locs ad lsA r1 r2 r3 r4 r5 r6 r7 r8 => lv_lload_n F.1.1 F.1.2.1 dg rfl (ia_L_at r5 hl (show (1 : Nat) ≠ 9 by decide)) (kk H locs ad lsA r1 r2 r3 r4 r5 r6 r7 (ia_wfc (ia_wfi (by decide)) r8))
theorem ia_aload_n (F : ia_Fix X own cc nL d mc ms) {k : Fin 4} {x : Int} (dg : decode cc pc = .ok (.aload_n k, 1)) (hl : ls[(k : Nat)]? = some (4, x)) (kk : ia_G X cells slots (pc + 1) ls ((4, x) :: st) Z V) : ia_G X cells slots pc ls st Z V := by
  intro H locs ad lsA r1 r2 r3 r4 r5 r6 r7 r8
  have h := ia_L_at r5 hl (show (4 : Nat) ≠ 9 by decide)
  have w := kk H locs ad lsA r1 r2 r3 r4 r5 r6 r7 (ia_wfc (ia_wfa r7 hl) r8)
  rw [List.map_cons] at w
  rw [ia_cv4] at h w
  rcases va_rf_or (ia_rf ad x) with e | ⟨a, e⟩
  · rw [e] at h w; exact lv_aload_nN F.1.1 F.1.2.1 dg rfl h w
  · rw [e] at h w; exact lv_aload_n F.1.1 F.1.2.1 dg rfl h w
theorem ia_aload (F : ia_Fix X own cc nL d mc ms) {i : Nat} {x : Int} (dg : decode cc pc = .ok (.aload i, 2)) (hl : ls[i]? = some (4, x)) (kk : ia_G X cells slots (pc + 2) ls ((4, x) :: st) Z V) : ia_G X cells slots pc ls st Z V := by
  intro H locs ad lsA r1 r2 r3 r4 r5 r6 r7 r8
  have h := ia_L_at r5 hl (show (4 : Nat) ≠ 9 by decide)
  have w := kk H locs ad lsA r1 r2 r3 r4 r5 r6 r7 (ia_wfc (ia_wfa r7 hl) r8)
  rw [List.map_cons] at w
  rw [ia_cv4] at h w
  rcases va_rf_or (ia_rf ad x) with e | ⟨a, e⟩
  · rw [e] at h w; exact lv_aloadN F.1.1 F.1.2.1 dg h w
  · rw [e] at h w; exact lv_aload F.1.1 F.1.2.1 dg h w
theorem ia_istore_n (F : ia_Fix X own cc nL d mc ms) {k : Fin 4} {x : Int} {ls' : List (Nat × Int)} (dg : decode cc pc = .ok (.istore_n k, 1)) (hn : (k : Nat) < ls.length) (hok : ia_ok1 ls (k : Nat) = true) (e : ls.set (k : Nat) (0, x) = ls') (kk : ia_G X cells slots (pc + 1) ls' st Z V) : ia_G X cells slots pc ls ((0, x) :: st) Z V :=
  fun H locs ad lsA r1 r2 r3 r4 r5 r6 r7 r8 => lv_istore_n F.1.1 F.1.2.1 dg rfl r5 (by rw [← r6]; exact hn) rfl (fun ls9 h9 => kk H locs ad ls9 r1 r2 r3 r4 (e ▸ ia_L_set h9 hok (show (0 : Nat) ≠ 9 by decide)) (by rw [← e, List.length_set]; exact r6) (ia_wfs r7 (ia_wfi (by decide)) e) (ia_wft r8))
theorem ia_istore (F : ia_Fix X own cc nL d mc ms) {i : Nat} {x : Int} {ls' : List (Nat × Int)} (dg : decode cc pc = .ok (.istore i, 2)) (hn : i < ls.length) (hok : ia_ok1 ls i = true) (e : ls.set i (0, x) = ls') (kk : ia_G X cells slots (pc + 2) ls' st Z V) : ia_G X cells slots pc ls ((0, x) :: st) Z V :=
  fun H locs ad lsA r1 r2 r3 r4 r5 r6 r7 r8 => lv_istore F.1.1 F.1.2.1 dg r5 (by rw [← r6]; exact hn) rfl (fun ls9 h9 => kk H locs ad ls9 r1 r2 r3 r4 (e ▸ ia_L_set h9 hok (show (0 : Nat) ≠ 9 by decide)) (by rw [← e, List.length_set]; exact r6) (ia_wfs r7 (ia_wfi (by decide)) e) (ia_wft r8))
theorem ia_astore_n (F : ia_Fix X own cc nL d mc ms) {k : Fin 4} {x : Int} {ls' : List (Nat × Int)} (dg : decode cc pc = .ok (.astore_n k, 1)) (hn : (k : Nat) < ls.length) (hok : ia_ok1 ls (k : Nat) = true) (e : ls.set (k : Nat) (4, x) = ls') (kk : ia_G X cells slots (pc + 1) ls' st Z V) : ia_G X cells slots pc ls ((4, x) :: st) Z V := by
  intro H locs ad lsA r1 r2 r3 r4 r5 r6 r7 r8
  rw [List.map_cons, ia_cv4]
  rcases va_rf_or (ia_rf ad x) with u | ⟨a, u⟩
  · rw [u]
    exact lv_astore_nN F.1.1 F.1.2.1 dg rfl r5 (by rw [← r6]; exact hn) rfl (fun ls9 h9 => kk H locs ad ls9 r1 r2 r3 r4 (e ▸ ia_L_set (v := (4, x)) (by rw [ia_cv4, u]; exact h9) hok (show (4 : Nat) ≠ 9 by decide)) (by rw [← e, List.length_set]; exact r6) (ia_wfs r7 (ia_wfh r8) e) (ia_wft r8))
  · rw [u]
    exact lv_astore_n F.1.1 F.1.2.1 dg rfl r5 (by rw [← r6]; exact hn) rfl (fun ls9 h9 => kk H locs ad ls9 r1 r2 r3 r4 (e ▸ ia_L_set (v := (4, x)) (by rw [ia_cv4, u]; exact h9) hok (show (4 : Nat) ≠ 9 by decide)) (by rw [← e, List.length_set]; exact r6) (ia_wfs r7 (ia_wfh r8) e) (ia_wft r8))
theorem ia_astore (F : ia_Fix X own cc nL d mc ms) {i : Nat} {x : Int} {ls' : List (Nat × Int)} (dg : decode cc pc = .ok (.astore i, 2)) (hn : i < ls.length) (hok : ia_ok1 ls i = true) (e : ls.set i (4, x) = ls') (kk : ia_G X cells slots (pc + 2) ls' st Z V) : ia_G X cells slots pc ls ((4, x) :: st) Z V := by
  intro H locs ad lsA r1 r2 r3 r4 r5 r6 r7 r8
  rw [List.map_cons, ia_cv4]
  rcases va_rf_or (ia_rf ad x) with u | ⟨a, u⟩
  · rw [u]
    exact lv_astoreN F.1.1 F.1.2.1 dg r5 (by rw [← r6]; exact hn) rfl (fun ls9 h9 => kk H locs ad ls9 r1 r2 r3 r4 (e ▸ ia_L_set (v := (4, x)) (by rw [ia_cv4, u]; exact h9) hok (show (4 : Nat) ≠ 9 by decide)) (by rw [← e, List.length_set]; exact r6) (ia_wfs r7 (ia_wfh r8) e) (ia_wft r8))
  · rw [u]
    exact lv_astore F.1.1 F.1.2.1 dg r5 (by rw [← r6]; exact hn) rfl (fun ls9 h9 => kk H locs ad ls9 r1 r2 r3 r4 (e ▸ ia_L_set (v := (4, x)) (by rw [ia_cv4, u]; exact h9) hok (show (4 : Nat) ≠ 9 by decide)) (by rw [← e, List.length_set]; exact r6) (ia_wfs r7 (ia_wfh r8) e) (ia_wft r8))
theorem ia_iinc (F : ia_Fix X own cc nL d mc ms) {i : Nat} {n x y : Int} {ls' : List (Nat × Int)} (dg : decode cc pc = .ok (.iinc i n, 3)) (hx : ls[i]? = some (0, x)) (hy : x + n = y) (hok : ia_ok1 ls i = true) (e : ls.set i (0, y) = ls') (kk : ia_G X cells slots (pc + 3) ls' st Z V) : ia_G X cells slots pc ls st Z V := by
  intro H locs ad lsA r1 r2 r3 r4 r5 r6 r7 r8
  have hn : i < ls.length := (List.getElem?_eq_some_iff.mp hx).1
  obtain ⟨k, hk⟩ := List.getElem?_of_mem (ia_L_mem.mpr ⟨(0, x), hx, (show (0 : Nat) ≠ 9 by decide), rfl⟩ : (i, ia_cv ad (0, x)) ∈ ia_L ad ls)
  exact lv_iinc F.1.1 F.1.2.1 dg r5 hk (v := Int32.ofInt y) (by rw [← hy, Int32.ofInt_add]) (by rw [← r6]; exact hn) rfl (fun ls9 h9 => kk H locs ad ls9 r1 r2 r3 r4 (e ▸ ia_L_set (v := (0, y)) h9 hok (show (0 : Nat) ≠ 9 by decide)) (by rw [← e, List.length_set]; exact r6) (ia_wfs r7 (ia_wfi (by decide)) e) r8)
theorem ia_iadd (F : ia_Fix X own cc nL d mc ms) {x y : Int} (dg : decode cc pc = .ok (.iadd, 1)) (kk : ia_G X cells slots (pc + 1) ls ((0, x + y) :: st) Z V) : ia_G X cells slots pc ls ((0, y) :: (0, x) :: st) Z V := by
  intro H locs ad lsA r1 r2 r3 r4 r5 r6 r7 r8
  have w := kk H locs ad lsA r1 r2 r3 r4 r5 r6 r7 (ia_wfc (ia_wfi (by decide)) (ia_wft (ia_wft r8)))
  rw [List.map_cons, ia_cv0, Int32.ofInt_add] at w
  exact lv_iadd F.1.1 F.1.2.1 dg w
theorem ia_isub (F : ia_Fix X own cc nL d mc ms) {x y : Int} (dg : decode cc pc = .ok (.isub, 1)) (kk : ia_G X cells slots (pc + 1) ls ((0, x - y) :: st) Z V) : ia_G X cells slots pc ls ((0, y) :: (0, x) :: st) Z V := by
  intro H locs ad lsA r1 r2 r3 r4 r5 r6 r7 r8
  have w := kk H locs ad lsA r1 r2 r3 r4 r5 r6 r7 (ia_wfc (ia_wfi (by decide)) (ia_wft (ia_wft r8)))
  rw [List.map_cons, ia_cv0, Int32.ofInt_sub] at w
  exact lv_isub F.1.1 F.1.2.1 dg w
theorem ia_imul (F : ia_Fix X own cc nL d mc ms) {x y : Int} (dg : decode cc pc = .ok (.imul, 1)) (kk : ia_G X cells slots (pc + 1) ls ((0, x * y) :: st) Z V) : ia_G X cells slots pc ls ((0, y) :: (0, x) :: st) Z V := by
  intro H locs ad lsA r1 r2 r3 r4 r5 r6 r7 r8
  have w := kk H locs ad lsA r1 r2 r3 r4 r5 r6 r7 (ia_wfc (ia_wfi (by decide)) (ia_wft (ia_wft r8)))
  rw [List.map_cons, ia_cv0, Int32.ofInt_mul] at w
  exact lv_imul F.1.1 F.1.2.1 dg w
theorem ia_goto (F : ia_Fix X own cc nL d mc ms) {off : Int} (tgt : Nat) (dg : decode cc pc = .ok (.goto off, 3)) (ht : (pc : Int) + off = (tgt : Int)) (kk : ia_G X cells slots tgt ls st Z V) : ia_G X cells slots pc ls st Z V :=
  fun H locs ad lsA r1 r2 r3 r4 r5 r6 r7 r8 => lv_goto F.1.1 F.1.2.1 dg ht (kk H locs ad lsA r1 r2 r3 r4 r5 r6 r7 r8)
theorem ia_dup (F : ia_Fix X own cc nL d mc ms) {v : Nat × Int} (dg : decode cc pc = .ok (.dup, 1)) (hv : v.1 = 0 ∨ v.1 = 2 ∨ v.1 = 4) (kk : ia_G X cells slots (pc + 1) ls (v :: v :: st) Z V) : ia_G X cells slots pc ls (v :: st) Z V :=
  fun H locs ad lsA r1 r2 r3 r4 r5 r6 r7 r8 => lv_dup F.1.1 F.1.2.1 dg (ia_cat1 ad hv) (kk H locs ad lsA r1 r2 r3 r4 r5 r6 r7 (ia_wfc (ia_wfh r8) r8))
theorem ia_dup2 (F : ia_Fix X own cc nL d mc ms) {u v : Nat × Int} (dg : decode cc pc = .ok (.dup2, 1)) (hu : u.1 = 0 ∨ u.1 = 2 ∨ u.1 = 4) (hv : v.1 = 0 ∨ v.1 = 2 ∨ v.1 = 4) (kk : ia_G X cells slots (pc + 1) ls (u :: v :: u :: v :: st) Z V) : ia_G X cells slots pc ls (u :: v :: st) Z V :=
  fun H locs ad lsA r1 r2 r3 r4 r5 r6 r7 r8 => lv_dup2_11 F.1.1 F.1.2.1 dg (ia_cat1 ad hu) (ia_cat1 ad hv) (kk H locs ad lsA r1 r2 r3 r4 r5 r6 r7 (ia_wfc (ia_wfh r8) (ia_wfc (ia_wfh (ia_wft r8)) r8)))
theorem ia_pop (F : ia_Fix X own cc nL d mc ms) {v : Nat × Int} (dg : decode cc pc = .ok (.pop, 1)) (hv : v.1 = 0 ∨ v.1 = 2 ∨ v.1 = 4) (kk : ia_G X cells slots (pc + 1) ls st Z V) : ia_G X cells slots pc ls (v :: st) Z V :=
  fun H locs ad lsA r1 r2 r3 r4 r5 r6 r7 r8 => lv_pop F.1.1 F.1.2.1 dg (ia_cat1 ad hv) (kk H locs ad lsA r1 r2 r3 r4 r5 r6 r7 (ia_wft r8))
-- comparisons
theorem ia_ofeq {x y : Int} (hx : -2147483648 ≤ x ∧ x ≤ 2147483647) (hy : -2147483648 ≤ y ∧ y ≤ 2147483647) : Int32.ofInt x = Int32.ofInt y ↔ x = y := by
  constructor
  · intro h
    have := congrArg Int32.toInt h
    rwa [Int32.toInt_ofInt_of_le (by simpa using hx.1) (by simp; omega), Int32.toInt_ofInt_of_le (by simpa using hy.1) (by simp; omega)] at this
  · rintro rfl; rfl
theorem ia_oflt {x y : Int} (hx : -2147483648 ≤ x ∧ x ≤ 2147483647) (hy : -2147483648 ≤ y ∧ y ≤ 2147483647) : Int32.ofInt x < Int32.ofInt y ↔ x < y := by
  rw [Int32.lt_iff_toInt_lt, Int32.toInt_ofInt_of_le (by simpa using hx.1) (by simp; omega), Int32.toInt_ofInt_of_le (by simpa using hy.1) (by simp; omega)]
theorem ia_ofle {x y : Int} (hx : -2147483648 ≤ x ∧ x ≤ 2147483647) (hy : -2147483648 ≤ y ∧ y ≤ 2147483647) : Int32.ofInt x ≤ Int32.ofInt y ↔ x ≤ y := by
  rw [Int32.le_iff_toInt_le, Int32.toInt_ofInt_of_le (by simpa using hx.1) (by simp; omega), Int32.toInt_ofInt_of_le (by simpa using hy.1) (by simp; omega)]
theorem ia_icmp_eq (F : ia_Fix X own cc nL d mc ms) {x y off : Int} (tgt : Nat) (dg : decode cc pc = .ok (.if_icmp .eq off, 3)) (ht : (pc : Int) + off = (tgt : Int)) (hx : -2147483648 ≤ x ∧ x ≤ 2147483647) (hy : -2147483648 ≤ y ∧ y ≤ 2147483647) (kt : x = y → ia_G X cells slots tgt ls st Z V) (kf : ¬ x = y → ia_G X cells slots (pc + 3) ls st Z V) : ia_G X cells slots pc ls ((0, y) :: (0, x) :: st) Z V :=
  fun H locs ad lsA r1 r2 r3 r4 r5 r6 r7 r8 => lv_icmp_eq F.1.1 F.1.2.1 dg ht (fun h => kt ((ia_ofeq hx hy).mp h) H locs ad lsA r1 r2 r3 r4 r5 r6 r7 (ia_wft (ia_wft r8))) (fun h => kf (fun h2 => h ((ia_ofeq hx hy).mpr h2)) H locs ad lsA r1 r2 r3 r4 r5 r6 r7 (ia_wft (ia_wft r8)))
theorem ia_if_eq (F : ia_Fix X own cc nL d mc ms) {x off : Int} (tgt : Nat) (dg : decode cc pc = .ok (.ifCond .eq off, 3)) (ht : (pc : Int) + off = (tgt : Int)) (hx : -2147483648 ≤ x ∧ x ≤ 2147483647) (kt : x = 0 → ia_G X cells slots tgt ls st Z V) (kf : ¬ x = 0 → ia_G X cells slots (pc + 3) ls st Z V) : ia_G X cells slots pc ls ((0, x) :: st) Z V :=
  fun H locs ad lsA r1 r2 r3 r4 r5 r6 r7 r8 => lv_if_eq F.1.1 F.1.2.1 dg ht (fun h => kt ((ia_ofeq hx (by decide : -2147483648 ≤ (0 : Int) ∧ (0 : Int) ≤ 2147483647)).mp h) H locs ad lsA r1 r2 r3 r4 r5 r6 r7 (ia_wft r8)) (fun h => kf (fun h2 => h ((ia_ofeq hx (by decide : -2147483648 ≤ (0 : Int) ∧ (0 : Int) ≤ 2147483647)).mpr h2)) H locs ad lsA r1 r2 r3 r4 r5 r6 r7 (ia_wft r8))
theorem ia_icmp_ne (F : ia_Fix X own cc nL d mc ms) {x y off : Int} (tgt : Nat) (dg : decode cc pc = .ok (.if_icmp .ne off, 3)) (ht : (pc : Int) + off = (tgt : Int)) (hx : -2147483648 ≤ x ∧ x ≤ 2147483647) (hy : -2147483648 ≤ y ∧ y ≤ 2147483647) (kt : ¬ x = y → ia_G X cells slots tgt ls st Z V) (kf : x = y → ia_G X cells slots (pc + 3) ls st Z V) : ia_G X cells slots pc ls ((0, y) :: (0, x) :: st) Z V :=
  fun H locs ad lsA r1 r2 r3 r4 r5 r6 r7 r8 => lv_icmp_ne F.1.1 F.1.2.1 dg ht (fun h => kt (fun h2 => h ((ia_ofeq hx hy).mpr h2)) H locs ad lsA r1 r2 r3 r4 r5 r6 r7 (ia_wft (ia_wft r8))) (fun h => kf ((ia_ofeq hx hy).mp h) H locs ad lsA r1 r2 r3 r4 r5 r6 r7 (ia_wft (ia_wft r8)))
theorem ia_if_ne (F : ia_Fix X own cc nL d mc ms) {x off : Int} (tgt : Nat) (dg : decode cc pc = .ok (.ifCond .ne off, 3)) (ht : (pc : Int) + off = (tgt : Int)) (hx : -2147483648 ≤ x ∧ x ≤ 2147483647) (kt : ¬ x = 0 → ia_G X cells slots tgt ls st Z V) (kf : x = 0 → ia_G X cells slots (pc + 3) ls st Z V) : ia_G X cells slots pc ls ((0, x) :: st) Z V :=
  fun H locs ad lsA r1 r2 r3 r4 r5 r6 r7 r8 => lv_if_ne F.1.1 F.1.2.1 dg ht (fun h => kt (fun h2 => h ((ia_ofeq hx (by decide : -2147483648 ≤ (0 : Int) ∧ (0 : Int) ≤ 2147483647)).mpr h2)) H locs ad lsA r1 r2 r3 r4 r5 r6 r7 (ia_wft r8)) (fun h => kf ((ia_ofeq hx (by decide : -2147483648 ≤ (0 : Int) ∧ (0 : Int) ≤ 2147483647)).mp h) H locs ad lsA r1 r2 r3 r4 r5 r6 r7 (ia_wft r8))
theorem ia_icmp_lt (F : ia_Fix X own cc nL d mc ms) {x y off : Int} (tgt : Nat) (dg : decode cc pc = .ok (.if_icmp .lt off, 3)) (ht : (pc : Int) + off = (tgt : Int)) (hx : -2147483648 ≤ x ∧ x ≤ 2147483647) (hy : -2147483648 ≤ y ∧ y ≤ 2147483647) (kt : x < y → ia_G X cells slots tgt ls st Z V) (kf : ¬ x < y → ia_G X cells slots (pc + 3) ls st Z V) : ia_G X cells slots pc ls ((0, y) :: (0, x) :: st) Z V :=
  fun H locs ad lsA r1 r2 r3 r4 r5 r6 r7 r8 => lv_icmp_lt F.1.1 F.1.2.1 dg ht (fun h => kt ((ia_oflt hx hy).mp h) H locs ad lsA r1 r2 r3 r4 r5 r6 r7 (ia_wft (ia_wft r8))) (fun h => kf (fun h2 => h ((ia_oflt hx hy).mpr h2)) H locs ad lsA r1 r2 r3 r4 r5 r6 r7 (ia_wft (ia_wft r8)))
theorem ia_if_lt (F : ia_Fix X own cc nL d mc ms) {x off : Int} (tgt : Nat) (dg : decode cc pc = .ok (.ifCond .lt off, 3)) (ht : (pc : Int) + off = (tgt : Int)) (hx : -2147483648 ≤ x ∧ x ≤ 2147483647) (kt : x < 0 → ia_G X cells slots tgt ls st Z V) (kf : ¬ x < 0 → ia_G X cells slots (pc + 3) ls st Z V) : ia_G X cells slots pc ls ((0, x) :: st) Z V :=
  fun H locs ad lsA r1 r2 r3 r4 r5 r6 r7 r8 => lv_if_lt F.1.1 F.1.2.1 dg ht (fun h => kt ((ia_oflt hx (by decide : -2147483648 ≤ (0 : Int) ∧ (0 : Int) ≤ 2147483647)).mp h) H locs ad lsA r1 r2 r3 r4 r5 r6 r7 (ia_wft r8)) (fun h => kf (fun h2 => h ((ia_oflt hx (by decide : -2147483648 ≤ (0 : Int) ∧ (0 : Int) ≤ 2147483647)).mpr h2)) H locs ad lsA r1 r2 r3 r4 r5 r6 r7 (ia_wft r8))
theorem ia_icmp_ge (F : ia_Fix X own cc nL d mc ms) {x y off : Int} (tgt : Nat) (dg : decode cc pc = .ok (.if_icmp .ge off, 3)) (ht : (pc : Int) + off = (tgt : Int)) (hx : -2147483648 ≤ x ∧ x ≤ 2147483647) (hy : -2147483648 ≤ y ∧ y ≤ 2147483647) (kt : y ≤ x → ia_G X cells slots tgt ls st Z V) (kf : ¬ y ≤ x → ia_G X cells slots (pc + 3) ls st Z V) : ia_G X cells slots pc ls ((0, y) :: (0, x) :: st) Z V :=
  fun H locs ad lsA r1 r2 r3 r4 r5 r6 r7 r8 => lv_icmp_ge F.1.1 F.1.2.1 dg ht (fun h => kt ((ia_ofle hy hx).mp h) H locs ad lsA r1 r2 r3 r4 r5 r6 r7 (ia_wft (ia_wft r8))) (fun h => kf (fun h2 => h ((ia_ofle hy hx).mpr h2)) H locs ad lsA r1 r2 r3 r4 r5 r6 r7 (ia_wft (ia_wft r8)))
theorem ia_if_ge (F : ia_Fix X own cc nL d mc ms) {x off : Int} (tgt : Nat) (dg : decode cc pc = .ok (.ifCond .ge off, 3)) (ht : (pc : Int) + off = (tgt : Int)) (hx : -2147483648 ≤ x ∧ x ≤ 2147483647) (kt : 0 ≤ x → ia_G X cells slots tgt ls st Z V) (kf : ¬ 0 ≤ x → ia_G X cells slots (pc + 3) ls st Z V) : ia_G X cells slots pc ls ((0, x) :: st) Z V :=
  fun H locs ad lsA r1 r2 r3 r4 r5 r6 r7 r8 => lv_if_ge F.1.1 F.1.2.1 dg ht (fun h => kt ((ia_ofle (by decide : -2147483648 ≤ (0 : Int) ∧ (0 : Int) ≤ 2147483647) hx).mp h) H locs ad lsA r1 r2 r3 r4 r5 r6 r7 (ia_wft r8)) (fun h => kf (fun h2 => h ((ia_ofle (by decide : -2147483648 ≤ (0 : Int) ∧ (0 : Int) ≤ 2147483647) hx).mpr h2)) H locs ad lsA r1 r2 r3 r4 r5 r6 r7 (ia_wft r8))
theorem ia_icmp_gt (F : ia_Fix X own cc nL d mc ms) {x y off : Int} (tgt : Nat) (dg : decode cc pc = .ok (.if_icmp .gt off, 3)) (ht : (pc : Int) + off = (tgt : Int)) (hx : -2147483648 ≤ x ∧ x ≤ 2147483647) (hy : -2147483648 ≤ y ∧ y ≤ 2147483647) (kt : y < x → ia_G X cells slots tgt ls st Z V) (kf : ¬ y < x → ia_G X cells slots (pc + 3) ls st Z V) : ia_G X cells slots pc ls ((0, y) :: (0, x) :: st) Z V :=
  fun H locs ad lsA r1 r2 r3 r4 r5 r6 r7 r8 => lv_icmp_gt F.1.1 F.1.2.1 dg ht (fun h => kt ((ia_oflt hy hx).mp h) H locs ad lsA r1 r2 r3 r4 r5 r6 r7 (ia_wft (ia_wft r8))) (fun h => kf (fun h2 => h ((ia_oflt hy hx).mpr h2)) H locs ad lsA r1 r2 r3 r4 r5 r6 r7 (ia_wft (ia_wft r8)))
theorem ia_if_gt (F : ia_Fix X own cc nL d mc ms) {x off : Int} (tgt : Nat) (dg : decode cc pc = .ok (.ifCond .gt off, 3)) (ht : (pc : Int) + off = (tgt : Int)) (hx : -2147483648 ≤ x ∧ x ≤ 2147483647) (kt : 0 < x → ia_G X cells slots tgt ls st Z V) (kf : ¬ 0 < x → ia_G X cells slots (pc + 3) ls st Z V) : ia_G X cells slots pc ls ((0, x) :: st) Z V :=
  fun H locs ad lsA r1 r2 r3 r4 r5 r6 r7 r8 => lv_if_gt F.1.1 F.1.2.1 dg ht (fun h => kt ((ia_oflt (by decide : -2147483648 ≤ (0 : Int) ∧ (0 : Int) ≤ 2147483647) hx).mp h) H locs ad lsA r1 r2 r3 r4 r5 r6 r7 (ia_wft r8)) (fun h => kf (fun h2 => h ((ia_oflt (by decide : -2147483648 ≤ (0 : Int) ∧ (0 : Int) ≤ 2147483647) hx).mpr h2)) H locs ad lsA r1 r2 r3 r4 r5 r6 r7 (ia_wft r8))
theorem ia_icmp_le (F : ia_Fix X own cc nL d mc ms) {x y off : Int} (tgt : Nat) (dg : decode cc pc = .ok (.if_icmp .le off, 3)) (ht : (pc : Int) + off = (tgt : Int)) (hx : -2147483648 ≤ x ∧ x ≤ 2147483647) (hy : -2147483648 ≤ y ∧ y ≤ 2147483647) (kt : x ≤ y → ia_G X cells slots tgt ls st Z V) (kf : ¬ x ≤ y → ia_G X cells slots (pc + 3) ls st Z V) : ia_G X cells slots pc ls ((0, y) :: (0, x) :: st) Z V :=
  fun H locs ad lsA r1 r2 r3 r4 r5 r6 r7 r8 => lv_icmp_le F.1.1 F.1.2.1 dg ht (fun h => kt ((ia_ofle hx hy).mp h) H locs ad lsA r1 r2 r3 r4 r5 r6 r7 (ia_wft (ia_wft r8))) (fun h => kf (fun h2 => h ((ia_ofle hx hy).mpr h2)) H locs ad lsA r1 r2 r3 r4 r5 r6 r7 (ia_wft (ia_wft r8)))
theorem ia_if_le (F : ia_Fix X own cc nL d mc ms) {x off : Int} (tgt : Nat) (dg : decode cc pc = .ok (.ifCond .le off, 3)) (ht : (pc : Int) + off = (tgt : Int)) (hx : -2147483648 ≤ x ∧ x ≤ 2147483647) (kt : x ≤ 0 → ia_G X cells slots tgt ls st Z V) (kf : ¬ x ≤ 0 → ia_G X cells slots (pc + 3) ls st Z V) : ia_G X cells slots pc ls ((0, x) :: st) Z V :=
  fun H locs ad lsA r1 r2 r3 r4 r5 r6 r7 r8 => lv_if_le F.1.1 F.1.2.1 dg ht (fun h => kt ((ia_ofle hx (by decide : -2147483648 ≤ (0 : Int) ∧ (0 : Int) ≤ 2147483647)).mp h) H locs ad lsA r1 r2 r3 r4 r5 r6 r7 (ia_wft r8)) (fun h => kf (fun h2 => h ((ia_ofle hx (by decide : -2147483648 ≤ (0 : Int) ∧ (0 : Int) ≤ 2147483647)).mpr h2)) H locs ad lsA r1 r2 r3 r4 r5 r6 r7 (ia_wft r8))
end IAR
