/-! the other instructions -/
def ia_and (x y : Int) : Int := (Int32.ofInt x &&& Int32.ofInt y).toInt
def ia_or (x y : Int) : Int := (Int32.ofInt x ||| Int32.ofInt y).toInt
def ia_xor (x y : Int) : Int := (Int32.ofInt x ^^^ Int32.ofInt y).toInt
def ia_shl (x y : Int) : Int := (Int32.ofInt x <<< (Int32.ofInt y &&& 31)).toInt
def ia_shr (x y : Int) : Int := (Int32.ofInt x >>> (Int32.ofInt y &&& 31)).toInt
def ia_i8 (x : Int) : Int := (Int32.ofInt x).toInt8.toInt32.toInt
def ia_lc (x y : Int) : Int := if y < x then 1 else if x = y then 0 else -1
def ia_i2d (x : Int) : Int := ((FP.i2d (Int32.ofInt x)).toNat : Int)
def ia_i2f (x : Int) : Int := ((FP.i2f (Int32.ofInt x)).toNat : Int)
def ia_l2f (x : Int) : Int := ((FP.l2f (Int64.ofInt x)).toNat : Int)
def ia_f2d (x : Int) : Int := ((FP.f2d (UInt32.ofNat x.toNat)).toNat : Int)
def ia_ddiv (x y : Int) : Int := ((FP.ddiv (UInt64.ofNat x.toNat) (UInt64.ofNat y.toNat)).toNat : Int)
def ia_fdiv (x y : Int) : Int := ((FP.fdiv (UInt32.ofNat x.toNat) (UInt32.ofNat y.toNat)).toNat : Int)
def ia_dcl (x y : Int) : Int := (Op.cmpValue (FP.dcmp (UInt64.ofNat x.toNat) (UInt64.ofNat y.toNat)) .l).toInt
def ia_fcl (x y : Int) : Int := (Op.cmpValue (FP.fcmp (UInt32.ofNat x.toNat) (UInt32.ofNat y.toNat)) .l).toInt
theorem ia_toI {x : Int} (hx : -2147483648 ≤ x ∧ x ≤ 2147483647) : (Int32.ofInt x).toInt = x := Int32.toInt_ofInt_of_le (by simpa using hx.1) (by simp; omega)
theorem ia_ofd (x : UInt64) : UInt64.ofNat ((x.toNat : Int)).toNat = x := by rw [Int.toNat_natCast, UInt64.ofNat_toNat]
theorem ia_off (x : UInt32) : UInt32.ofNat ((x.toNat : Int)).toNat = x := by rw [Int.toNat_natCast, UInt32.ofNat_toNat]
theorem ia_i2l0 {x : Int} (hx : -2147483648 ≤ x ∧ x ≤ 2147483647) : (Int32.ofInt x).toInt64 = Int64.ofInt x := by
  apply Int64.toInt_inj.mp
  rw [Int32.toInt_toInt64, ia_toI hx, Int64.toInt_ofInt_of_le (by simp; omega) (by simp; omega)]
theorem ia_i2c0 (x : Int) : ((Int32.ofInt x).toUInt32 % 65536).toInt32 = Int32.ofInt (x % 65536) := by
  rw [pk_char]
  have e : (Int32.ofInt x).toBitVec.toNat = (x % 4294967296).toNat := by
    show (BitVec.ofInt 32 x).toNat = _
    rw [BitVec.toNat_ofInt]; rfl
  rw [e]
  show Int32.ofInt (((x % 4294967296).toNat % 65536 : Nat) : Int) = _
  congr 1
  omega
section IAM
variable {X : ia_X} {own nm : String} {cc : ByteArray} {nL d mc ms cells slots pc : Nat} {ls st : List (Nat × Int)} {Z : ia_Z} {V : ia_H} {Q : ia_O → ia_Z → ia_H → Prop}
theorem ia_iand (F : ia_Fix X own cc nL d mc ms) {x y : Int} (dg : decode cc pc = .ok (.iand, 1)) (kk : ia_G X cells slots (pc + 1) ls ((0, ia_and x y) :: st) Z V) : ia_G X cells slots pc ls ((0, y) :: (0, x) :: st) Z V := by
  intro H locs ad lsA r1 r2 r3 r4 r5 r6 r7 r8
  have w := kk H locs ad lsA r1 r2 r3 r4 r5 r6 r7 (ia_wfc (ia_wfi (by decide)) (ia_wft (ia_wft r8)))
  rw [List.map_cons, ia_cv0, ia_and, Int32.ofInt_toInt] at w
  exact lv_iand F.1.1 F.1.2.1 dg w
theorem ia_ior (F : ia_Fix X own cc nL d mc ms) {x y : Int} (dg : decode cc pc = .ok (.ior, 1)) (kk : ia_G X cells slots (pc + 1) ls ((0, ia_or x y) :: st) Z V) : ia_G X cells slots pc ls ((0, y) :: (0, x) :: st) Z V := by
  intro H locs ad lsA r1 r2 r3 r4 r5 r6 r7 r8
  have w := kk H locs ad lsA r1 r2 r3 r4 r5 r6 r7 (ia_wfc (ia_wfi (by decide)) (ia_wft (ia_wft r8)))
  rw [List.map_cons, ia_cv0, ia_or, Int32.ofInt_toInt] at w
  exact lv_ior F.1.1 F.1.2.1 dg w
theorem ia_ixor (F : ia_Fix X own cc nL d mc ms) {x y : Int} (dg : decode cc pc = .ok (.ixor, 1)) (kk : ia_G X cells slots (pc + 1) ls ((0, ia_xor x y) :: st) Z V) : ia_G X cells slots pc ls ((0, y) :: (0, x) :: st) Z V := by
  intro H locs ad lsA r1 r2 r3 r4 r5 r6 r7 r8
  have w := kk H locs ad lsA r1 r2 r3 r4 r5 r6 r7 (ia_wfc (ia_wfi (by decide)) (ia_wft (ia_wft r8)))
  rw [List.map_cons, ia_cv0, ia_xor, Int32.ofInt_toInt] at w
  exact lv_ixor F.1.1 F.1.2.1 dg w
theorem ia_ishl (F : ia_Fix X own cc nL d mc ms) {x y : Int} (dg : decode cc pc = .ok (.ishl, 1)) (kk : ia_G X cells slots (pc + 1) ls ((0, ia_shl x y) :: st) Z V) : ia_G X cells slots pc ls ((0, y) :: (0, x) :: st) Z V := by
  intro H locs ad lsA r1 r2 r3 r4 r5 r6 r7 r8
  have w := kk H locs ad lsA r1 r2 r3 r4 r5 r6 r7 (ia_wfc (ia_wfi (by decide)) (ia_wft (ia_wft r8)))
  rw [List.map_cons, ia_cv0, ia_shl, Int32.ofInt_toInt] at w
  exact lv_ishl F.1.1 F.1.2.1 dg w
theorem ia_ishr (F : ia_Fix X own cc nL d mc ms) {x y : Int} (dg : decode cc pc = .ok (.ishr, 1)) (kk : ia_G X cells slots (pc + 1) ls ((0, ia_shr x y) :: st) Z V) : ia_G X cells slots pc ls ((0, y) :: (0, x) :: st) Z V := by
  intro H locs ad lsA r1 r2 r3 r4 r5 r6 r7 r8
  have w := kk H locs ad lsA r1 r2 r3 r4 r5 r6 r7 (ia_wfc (ia_wfi (by decide)) (ia_wft (ia_wft r8)))
  rw [List.map_cons, ia_cv0, ia_shr, Int32.ofInt_toInt] at w
  exact lv_ishr F.1.1 F.1.2.1 dg w
theorem ia_idiv (F : ia_Fix X own cc nL d mc ms) {x y : Int} (dg : decode cc pc = .ok (.idiv, 1)) (hx : 0 ≤ x ∧ x ≤ 2147483647) (hy : 0 < y ∧ y ≤ 2147483647) (kk : ia_G X cells slots (pc + 1) ls ((0, x / y) :: st) Z V) : ia_G X cells slots pc ls ((0, y) :: (0, x) :: st) Z V := by
  intro H locs ad lsA r1 r2 r3 r4 r5 r6 r7 r8
  have w := kk H locs ad lsA r1 r2 r3 r4 r5 r6 r7 (ia_wfc (ia_wfi (by decide)) (ia_wft (ia_wft r8)))
  obtain ⟨a, rfl⟩ : ∃ a : Nat, x = (a : Int) := ⟨x.toNat, by omega⟩
  obtain ⟨b, rfl⟩ : ∃ b : Nat, y = (b : Int) := ⟨y.toNat, by omega⟩
  have h := pk_div (a := a) (d := b) (by omega) (by omega) (by omega)
  rw [List.map_cons, ia_cv0] at w
  refine lv_idiv F.1.1 F.1.2.1 dg (show ¬ nI b = 0 from nI_ne0 (by omega) (by omega)) ?_
  have e : Int32.ofInt (a : Int) / Int32.ofInt (b : Int) = Int32.ofInt ((a : Int) / (b : Int)) := h
  rw [e]
  exact w
theorem ia_irem (F : ia_Fix X own cc nL d mc ms) {x y : Int} (dg : decode cc pc = .ok (.irem, 1)) (hx : 0 ≤ x ∧ x ≤ 2147483647) (hy : 0 < y ∧ y ≤ 2147483647) (kk : ia_G X cells slots (pc + 1) ls ((0, x % y) :: st) Z V) : ia_G X cells slots pc ls ((0, y) :: (0, x) :: st) Z V := by
  intro H locs ad lsA r1 r2 r3 r4 r5 r6 r7 r8
  have w := kk H locs ad lsA r1 r2 r3 r4 r5 r6 r7 (ia_wfc (ia_wfi (by decide)) (ia_wft (ia_wft r8)))
  obtain ⟨a, rfl⟩ : ∃ a : Nat, x = (a : Int) := ⟨x.toNat, by omega⟩
  obtain ⟨b, rfl⟩ : ∃ b : Nat, y = (b : Int) := ⟨y.toNat, by omega⟩
  have h := pk_rem (a := a) (d := b) (by omega) (by omega) (by omega)
  rw [List.map_cons, ia_cv0] at w
  refine lv_irem F.1.1 F.1.2.1 dg (show ¬ nI b = 0 from nI_ne0 (by omega) (by omega)) ?_
  have e : Int32.ofInt (a : Int) - Int32.ofInt (a : Int) / Int32.ofInt (b : Int) * Int32.ofInt (b : Int) = Int32.ofInt ((a : Int) % (b : Int)) := h
  rw [e]
  exact w
theorem ia_i2lr (F : ia_Fix X own cc nL d mc ms) {x : Int} (dg : decode cc pc = .ok (.i2l, 1)) (hx : -2147483648 ≤ x ∧ x ≤ 2147483647) (kk : ia_G X cells slots (pc + 1) ls ((1, x) :: st) Z V) : ia_G X cells slots pc ls ((0, x) :: st) Z V :=
  fun H locs ad lsA r1 r2 r3 r4 r5 r6 r7 r8 => lv_i2l F.1.1 F.1.2.1 dg (ia_i2l0 hx) (kk H locs ad lsA r1 r2 r3 r4 r5 r6 r7 (ia_wfc (ia_wfi (by decide)) (ia_wft r8)))
theorem ia_i2c (F : ia_Fix X own cc nL d mc ms) {x : Int} (dg : decode cc pc = .ok (.i2c, 1)) (kk : ia_G X cells slots (pc + 1) ls ((0, x % 65536) :: st) Z V) : ia_G X cells slots pc ls ((0, x) :: st) Z V :=
  fun H locs ad lsA r1 r2 r3 r4 r5 r6 r7 r8 => lv_i2c F.1.1 F.1.2.1 dg (ia_i2c0 x) (kk H locs ad lsA r1 r2 r3 r4 r5 r6 r7 (ia_wfc (ia_wfi (by decide)) (ia_wft r8)))
theorem ia_i2b (F : ia_Fix X own cc nL d mc ms) {x : Int} (dg : decode cc pc = .ok (.i2b, 1)) (kk : ia_G X cells slots (pc + 1) ls ((0, ia_i8 x) :: st) Z V) : ia_G X cells slots pc ls ((0, x) :: st) Z V :=
  fun H locs ad lsA r1 r2 r3 r4 r5 r6 r7 r8 => lv_i2b F.1.1 F.1.2.1 dg (Int32.ofInt_toInt _).symm (kk H locs ad lsA r1 r2 r3 r4 r5 r6 r7 (ia_wfc (ia_wfi (by decide)) (ia_wft r8)))
theorem ia_ineg (F : ia_Fix X own cc nL d mc ms) {x : Int} (dg : decode cc pc = .ok (.ineg, 1)) (kk : ia_G X cells slots (pc + 1) ls ((0, -x) :: st) Z V) : ia_G X cells slots pc ls ((0, x) :: st) Z V := by
  intro H locs ad lsA r1 r2 r3 r4 r5 r6 r7 r8
  have w := kk H locs ad lsA r1 r2 r3 r4 r5 r6 r7 (ia_wfc (ia_wfi (by decide)) (ia_wft r8))
  rw [List.map_cons, ia_cv0, Int32.ofInt_neg] at w
  exact lv_ineg F.1.1 F.1.2.1 dg w
theorem ia_ladd (F : ia_Fix X own cc nL d mc ms) {x y : Int} (dg : decode cc pc = .ok (.ladd, 1)) (kk : ia_G X cells slots (pc + 1) ls ((1, x + y) :: st) Z V) : ia_G X cells slots pc ls ((1, y) :: (1, x) :: st) Z V := by
  intro H locs ad lsA r1 r2 r3 r4 r5 r6 r7 r8
  have w := kk H locs ad lsA r1 r2 r3 r4 r5 r6 r7 (ia_wfc (ia_wfi (by decide)) (ia_wft (ia_wft r8)))
  rw [List.map_cons, ia_cv1, Int64.ofInt_add] at w
  exact lv_ladd F.1.1 F.1.2.1 dg w
theorem ia_lcmp (F : ia_Fix X own cc nL d mc ms) {x y : Int} (dg : decode cc pc = .ok (.lcmp, 1)) (hx : -9223372036854775808 ≤ x ∧ x ≤ 9223372036854775807) (hy : -9223372036854775808 ≤ y ∧ y ≤ 9223372036854775807) (kk : ia_G X cells slots (pc + 1) ls ((0, ia_lc x y) :: st) Z V) : ia_G X cells slots pc ls ((1, y) :: (1, x) :: st) Z V := by
  intro H locs ad lsA r1 r2 r3 r4 r5 r6 r7 r8
  have w := kk H locs ad lsA r1 r2 r3 r4 r5 r6 r7 (ia_wfc (ia_wfi (by decide)) (ia_wft (ia_wft r8)))
  have ex : (Int64.ofInt x).toInt = x := Int64.toInt_ofInt_of_le (by simp; omega) (by simp; omega)
  have ey : (Int64.ofInt y).toInt = y := Int64.toInt_ofInt_of_le (by simp; omega) (by simp; omega)
  have e : lg_cmp (Int64.ofInt x) (Int64.ofInt y) = Int32.ofInt (ia_lc x y) := by
    unfold lg_cmp ia_lc
    have h1 : (Int64.ofInt x > Int64.ofInt y) ↔ y < x := by rw [gt_iff_lt, Int64.lt_iff_toInt_lt, ex, ey]
    have h2 : (Int64.ofInt x = Int64.ofInt y) ↔ x = y := by rw [← Int64.toInt_inj, ex, ey]
    by_cases c1 : y < x
    · rw [if_pos (h1.mpr c1), if_pos c1]; rfl
    · rw [if_neg (fun h => c1 (h1.mp h)), if_neg c1]
      by_cases c2 : x = y
      · rw [if_pos (h2.mpr c2), if_pos c2]; rfl
      · rw [if_neg (fun h => c2 (h2.mp h)), if_neg c2]; rfl
  rw [List.map_cons, ia_cv0, ← e] at w
  exact W.lcmp F.1.1 F.1.2.1 dg w
theorem ia_null (F : ia_Fix X own cc nL d mc ms) (dg : decode cc pc = .ok (.aconst_null, 1)) (kk : ia_G X cells slots (pc + 1) ls ((4, -1) :: st) Z V) : ia_G X cells slots pc ls st Z V :=
  fun H locs ad lsA r1 r2 r3 r4 r5 r6 r7 r8 => lv_null F.1.1 F.1.2.1 dg (kk H locs ad lsA r1 r2 r3 r4 r5 r6 r7 (ia_wfc (fun _ => Or.inl (by show (-1 : Int) < _; omega)) r8))
theorem ia_ifnonnullN (F : ia_Fix X own cc nL d mc ms) {x off : Int} (hx : x < 0) (dg : decode cc pc = .ok (.ifnonnull off, 3)) (kk : ia_G X cells slots (pc + 3) ls st Z V) : ia_G X cells slots pc ls ((4, x) :: st) Z V := by
  intro H locs ad lsA r1 r2 r3 r4 r5 r6 r7 r8
  rw [List.map_cons, ia_cvN ad hx]
  exact lv_ifnonnullN F.1.1 F.1.2.1 dg (kk H locs ad lsA r1 r2 r3 r4 r5 r6 r7 (ia_wft r8))
theorem ia_ifnonnull (F : ia_Fix X own cc nL d mc ms) {x off : Int} (tgt k : Nat) (hx : x = (k : Int)) (dg : decode cc pc = .ok (.ifnonnull off, 3)) (ht : (pc : Int) + off = (tgt : Int)) (kk : ia_G X cells slots tgt ls st Z V) : ia_G X cells slots pc ls ((4, x) :: st) Z V := by
  intro H locs ad lsA r1 r2 r3 r4 r5 r6 r7 r8
  subst hx
  rw [List.map_cons, ia_cvR]
  exact lv_ifnonnull F.1.1 F.1.2.1 dg ht (kk H locs ad lsA r1 r2 r3 r4 r5 r6 r7 (ia_wft r8))
/-- two of the constants -/
theorem ia_acmp_ne (F : ia_Fix X own cc nL d mc ms) {x y off : Int} (tgt i j : Nat) (hx : x = ((ia_E0 + i : Nat) : Int)) (hy : y = ((ia_E0 + j : Nat) : Int)) (hi : i < 9) (hj : j < 9) (dg : decode cc pc = .ok (.if_acmp .ne off, 3)) (ht : (pc : Int) + off = (tgt : Int)) (kt : ¬ i = j → ia_G X cells slots tgt ls st Z V) (kf : i = j → ia_G X cells slots (pc + 3) ls st Z V) : ia_G X cells slots pc ls ((4, y) :: (4, x) :: st) Z V := by
  intro H locs ad lsA r1 r2 r3 r4 r5 r6 r7 r8
  subst hx hy
  have inj := F.1.2.2.2.2.2.1.2.2.2.1.2.1
  rw [List.map_cons, List.map_cons, ia_cv4, ia_cv4, ia_rfk, ia_rfk, r1.2.2.2.1, r1.2.2.2.1]
  exact lv_acmp_ne F.1.1 F.1.2.1 dg ht (fun h => kt (fun h2 => h (by rw [h2])) H locs ad lsA r1 r2 r3 r4 r5 r6 r7 (ia_wft (ia_wft r8))) (fun h => kf (inj i j hi hj (Option.some.inj h)) H locs ad lsA r1 r2 r3 r4 r5 r6 r7 (ia_wft (ia_wft r8)))
theorem ia_tsIn (F : ia_Fix X own cc nL d mc ms) {x dflt lo hi off : Int} {offs : Array Int} {len : Nat} (tgt : Nat) (dg : decode cc pc = .ok (.tableswitch dflt lo hi offs, len)) (hr : -2147483648 ≤ x ∧ x ≤ 2147483647) (hx : lo ≤ x ∧ x ≤ hi) (ho : offs[(x - lo).toNat]? = some off) (ht : (pc : Int) + off = (tgt : Int)) (kk : ia_G X cells slots tgt ls st Z V) : ia_G X cells slots pc ls ((0, x) :: st) Z V :=
  fun H locs ad lsA r1 r2 r3 r4 r5 r6 r7 r8 => lv_tableIn F.1.1 F.1.2.1 dg (by rw [ia_toI hr]; omega) (by rw [ia_toI hr]; omega) (by rw [ia_toI hr]; exact ho) ht (kk H locs ad lsA r1 r2 r3 r4 r5 r6 r7 (ia_wft r8))
theorem ia_tsOut (F : ia_Fix X own cc nL d mc ms) {x dflt lo hi : Int} {offs : Array Int} {len : Nat} (tgt : Nat) (dg : decode cc pc = .ok (.tableswitch dflt lo hi offs, len)) (hr : -2147483648 ≤ x ∧ x ≤ 2147483647) (hx : x < lo ∨ hi < x) (ht : (pc : Int) + dflt = (tgt : Int)) (kk : ia_G X cells slots tgt ls st Z V) : ia_G X cells slots pc ls ((0, x) :: st) Z V :=
  fun H locs ad lsA r1 r2 r3 r4 r5 r6 r7 r8 => lv_tableOut F.1.1 F.1.2.1 dg (by rw [ia_toI hr]; exact hx) ht (kk H locs ad lsA r1 r2 r3 r4 r5 r6 r7 (ia_wft r8))
theorem ia_ldcI (F : ia_Fix X own cc nL d mc ms) {index : Nat} {v : Int} (hw : Cond.constant own index (Int32.ofInt v) ∈ wU) (dg : decode cc pc = .ok (.ldc index, 2)) (kk : ia_G X cells slots (pc + 2) ls ((0, v) :: st) Z V) : ia_G X cells slots pc ls st Z V :=
  fun H locs ad lsA r1 r2 r3 r4 r5 r6 r7 r8 => lv_ldc F.1.1 F.1.2.1 F.1.2.2.2.1 (F.1.2.2.2.2.1 _ hw) dg (kk H locs ad lsA r1 r2 r3 r4 r5 r6 r7 (ia_wfc (ia_wfi (by decide)) r8))
theorem ia_ldcwI (F : ia_Fix X own cc nL d mc ms) {index : Nat} {v : Int} (hw : Cond.constant own index (Int32.ofInt v) ∈ wU) (dg : decode cc pc = .ok (.ldc_w index, 3)) (kk : ia_G X cells slots (pc + 3) ls ((0, v) :: st) Z V) : ia_G X cells slots pc ls st Z V :=
  fun H locs ad lsA r1 r2 r3 r4 r5 r6 r7 r8 => lv_ldcw F.1.1 F.1.2.1 F.1.2.2.2.1 (F.1.2.2.2.2.1 _ hw) dg (kk H locs ad lsA r1 r2 r3 r4 r5 r6 r7 (ia_wfc (ia_wfi (by decide)) r8))
-- floats and doubles
theorem ia_i2dr (F : ia_Fix X own cc nL d mc ms) {x : Int} (dg : decode cc pc = .ok (.i2d, 1)) (kk : ia_G X cells slots (pc + 1) ls ((3, ia_i2d x) :: st) Z V) : ia_G X cells slots pc ls ((0, x) :: st) Z V := by
  intro H locs ad lsA r1 r2 r3 r4 r5 r6 r7 r8
  have w := kk H locs ad lsA r1 r2 r3 r4 r5 r6 r7 (ia_wfc (ia_wfi (by decide)) (ia_wft r8))
  rw [List.map_cons, ia_cv3, ia_i2d, ia_ofd] at w
  exact lv_i2d F.1.1 F.1.2.1 dg w
theorem ia_i2fr (F : ia_Fix X own cc nL d mc ms) {x : Int} (dg : decode cc pc = .ok (.i2f, 1)) (kk : ia_G X cells slots (pc + 1) ls ((2, ia_i2f x) :: st) Z V) : ia_G X cells slots pc ls ((0, x) :: st) Z V := by
  intro H locs ad lsA r1 r2 r3 r4 r5 r6 r7 r8
  have w := kk H locs ad lsA r1 r2 r3 r4 r5 r6 r7 (ia_wfc (ia_wfi (by decide)) (ia_wft r8))
  rw [List.map_cons, ia_cv2, ia_i2f, ia_off] at w
  exact lv_i2f F.1.1 F.1.2.1 dg w
theorem ia_l2fr (F : ia_Fix X own cc nL d mc ms) {x : Int} (dg : decode cc pc = .ok (.l2f, 1)) (kk : ia_G X cells slots (pc + 1) ls ((2, ia_l2f x) :: st) Z V) : ia_G X cells slots pc ls ((1, x) :: st) Z V := by
  intro H locs ad lsA r1 r2 r3 r4 r5 r6 r7 r8
  have w := kk H locs ad lsA r1 r2 r3 r4 r5 r6 r7 (ia_wfc (ia_wfi (by decide)) (ia_wft r8))
  rw [List.map_cons, ia_cv2, ia_l2f, ia_off] at w
  exact lv_l2f F.1.1 F.1.2.1 dg w
theorem ia_f2dr (F : ia_Fix X own cc nL d mc ms) {x : Int} (dg : decode cc pc = .ok (.f2d, 1)) (hn : vf_n64 (FP.f2d (UInt32.ofNat x.toNat))) (kk : ia_G X cells slots (pc + 1) ls ((3, ia_f2d x) :: st) Z V) : ia_G X cells slots pc ls ((2, x) :: st) Z V := by
  intro H locs ad lsA r1 r2 r3 r4 r5 r6 r7 r8
  have w := kk H locs ad lsA r1 r2 r3 r4 r5 r6 r7 (ia_wfc (ia_wfi (by decide)) (ia_wft r8))
  rw [List.map_cons, ia_cv3, ia_f2d, ia_ofd] at w
  exact lv_f2d F.1.1 F.1.2.1 dg hn w
theorem ia_ddivr (F : ia_Fix X own cc nL d mc ms) {x y : Int} (dg : decode cc pc = .ok (.ddiv, 1)) (hn : vf_n64 (FP.ddiv (UInt64.ofNat x.toNat) (UInt64.ofNat y.toNat))) (kk : ia_G X cells slots (pc + 1) ls ((3, ia_ddiv x y) :: st) Z V) : ia_G X cells slots pc ls ((3, y) :: (3, x) :: st) Z V := by
  intro H locs ad lsA r1 r2 r3 r4 r5 r6 r7 r8
  have w := kk H locs ad lsA r1 r2 r3 r4 r5 r6 r7 (ia_wfc (ia_wfi (by decide)) (ia_wft (ia_wft r8)))
  rw [List.map_cons, ia_cv3, ia_ddiv, ia_ofd] at w
  exact lv_ddiv F.1.1 F.1.2.1 dg hn w
theorem ia_fdivr (F : ia_Fix X own cc nL d mc ms) {x y : Int} (dg : decode cc pc = .ok (.fdiv, 1)) (hn : vf_n32 (FP.fdiv (UInt32.ofNat x.toNat) (UInt32.ofNat y.toNat))) (kk : ia_G X cells slots (pc + 1) ls ((2, ia_fdiv x y) :: st) Z V) : ia_G X cells slots pc ls ((2, y) :: (2, x) :: st) Z V := by
  intro H locs ad lsA r1 r2 r3 r4 r5 r6 r7 r8
  have w := kk H locs ad lsA r1 r2 r3 r4 r5 r6 r7 (ia_wfc (ia_wfi (by decide)) (ia_wft (ia_wft r8)))
  rw [List.map_cons, ia_cv2, ia_fdiv, ia_off] at w
  exact lv_fdiv F.1.1 F.1.2.1 dg hn w
theorem ia_dcmpl (F : ia_Fix X own cc nL d mc ms) {x y : Int} (dg : decode cc pc = .ok (.dcmp .l, 1)) (kk : ia_G X cells slots (pc + 1) ls ((0, ia_dcl x y) :: st) Z V) : ia_G X cells slots pc ls ((3, y) :: (3, x) :: st) Z V := by
  intro H locs ad lsA r1 r2 r3 r4 r5 r6 r7 r8
  have w := kk H locs ad lsA r1 r2 r3 r4 r5 r6 r7 (ia_wfc (ia_wfi (by decide)) (ia_wft (ia_wft r8)))
  rw [List.map_cons, ia_cv0, ia_dcl, Int32.ofInt_toInt] at w
  exact lv_dcmp F.1.1 F.1.2.1 dg w
theorem ia_fcmpl (F : ia_Fix X own cc nL d mc ms) {x y : Int} (dg : decode cc pc = .ok (.fcmp .l, 1)) (kk : ia_G X cells slots (pc + 1) ls ((0, ia_fcl x y) :: st) Z V) : ia_G X cells slots pc ls ((2, y) :: (2, x) :: st) Z V := by
  intro H locs ad lsA r1 r2 r3 r4 r5 r6 r7 r8
  have w := kk H locs ad lsA r1 r2 r3 r4 r5 r6 r7 (ia_wfc (ia_wfi (by decide)) (ia_wft (ia_wft r8)))
  rw [List.map_cons, ia_cv0, ia_fcl, Int32.ofInt_toInt] at w
  exact lv_fcmp F.1.1 F.1.2.1 dg w
theorem ia_fconst0 (F : ia_Fix X own cc nL d mc ms) (dg : decode cc pc = .ok (.fconst 0, 1)) (kk : ia_G X cells slots (pc + 1) ls ((2, (FP.fconst0.toNat : Int)) :: st) Z V) : ia_G X cells slots pc ls st Z V := by
  intro H locs ad lsA r1 r2 r3 r4 r5 r6 r7 r8
  have w := kk H locs ad lsA r1 r2 r3 r4 r5 r6 r7 (ia_wfc (ia_wfi (by decide)) r8)
  rw [List.map_cons, ia_cv2, ia_off] at w
  exact lv_fconst0 F.1.1 F.1.2.1 dg w
theorem ia_dconst0 (F : ia_Fix X own cc nL d mc ms) (dg : decode cc pc = .ok (.dconst 0, 1)) (kk : ia_G X cells slots (pc + 1) ls ((3, (FP.dconst0.toNat : Int)) :: st) Z V) : ia_G X cells slots pc ls st Z V := by
  intro H locs ad lsA r1 r2 r3 r4 r5 r6 r7 r8
  have w := kk H locs ad lsA r1 r2 r3 r4 r5 r6 r7 (ia_wfc (ia_wfi (by decide)) r8)
  rw [List.map_cons, ia_cv3, ia_ofd] at w
  exact lv_dconst0 F.1.1 F.1.2.1 dg w
-- library calls that have rows of their own
theorem ia_objInit (F : ia_Fix X own cc nL d mc ms) {a : Int} (q : Nat) (ha : a = (q : Int)) {idx : Nat} (hw : Cond.methodLink own idx objectInit ∈ wU ∧ Cond.instanceMethod objectInit ∈ wU ∧ Cond.code objectInit ⟨#[0xb1]⟩ 1 none ∈ wU) (hd : 1 ≤ d ∧ st.length ≤ 4) (dg : decode cc pc = .ok (.invokespecial idx, 3)) (kk : ia_G X cells slots (pc + 3) ls st Z V) : ia_G X cells slots pc ls ((4, a) :: st) Z V := by
  intro H locs ad lsA r1 r2 r3 r4 r5 r6 r7 r8
  subst ha
  have h1 := F.1.2.2.2.2.2.2.1
  have h2 := F.1.2.2.2.2.2.2.2.1
  have h3 := ia_catle ad hd.2
  rw [List.map_cons, ia_cvR]
  exact W.objInit F.1.1 F.1.2.1 F.1.2.2.2.1 (F.1.2.2.2.2.1 _ hw.1) (F.1.2.2.2.2.1 _ hw.2.1) (F.1.2.2.2.2.1 _ hw.2.2) rfl (r5.1.trans F.1.2.2.1.symm) rfl dg (by omega) (by
    have : 2 * (F0 X.2.2.2.2.2.1 pc lsA (Value.ref (ad q) :: st.map (ia_cv ad))).monitorRoom = 0 := by rfl
    omega) (kk H locs ad lsA r1 r2 r3 r4 r5 r6 r7 (ia_wft r8))
theorem ia_min (F : ia_Fix X own cc nL d mc ms) {x y : Int} {index : Nat} (hx : -2147483648 ≤ x ∧ x ≤ 2147483647) (hy : -2147483648 ≤ y ∧ y ≤ 2147483647) (hw : Cond.methodLink own index Lib.Math.min.name ∈ wU ∧ Cond.static Lib.Math.min.name ∈ wU ∧ Cond.initialized "java/lang/Math" ∈ wU ∧ Cond.code Lib.Math.min.name Lib.Math.min.code 2 (some .int) ∈ wU) (hd : 1 ≤ d ∧ st.length ≤ 4 ∧ cells ≤ mc ∧ slots ≤ ms) (dg : decode cc pc = .ok (.invokestatic index, 3)) (kk : ia_G X cells slots (pc + 3) ls ((0, if y < x then y else x) :: st) Z V) : ia_G X cells slots pc ls ((0, y) :: (0, x) :: st) Z V := by
  intro H locs ad lsA r1 r2 r3 r4 r5 r6 r7 r8
  have h1 := F.1.2.2.2.2.2.2.1
  have h2 := F.1.2.2.2.2.2.2.2.1
  have h3 := ia_catle ad hd.2.1
  have w := kk H locs ad lsA r1 r2 r3 r4 r5 r6 r7 (ia_wfc (ia_wfi (by decide)) (ia_wft (ia_wft r8)))
  rw [List.map_cons, ia_cv0] at w
  refine va_mmin F.1.1 F.1.2.1 (F.1.2.2.1.trans r5.1.symm) F.1.2.2.2.1 (F.1.2.2.2.2.1 _ hw.1) (F.1.2.2.2.2.1 _ hw.2.1) (F.1.2.2.2.2.1 _ hw.2.2.1) (F.1.2.2.2.2.1 _ hw.2.2.2) (by omega) (by omega) (by have := F.1.2.2.2.2.2.2.2.2.1; omega) (by have := F.1.2.2.2.2.2.2.2.2.2.1; omega) dg ?_
  by_cases h : y < x
  · rw [if_pos ((ia_oflt hy hx).mpr h)]
    rw [if_pos h] at w
    exact w
  · rw [if_neg (fun h2 => h ((ia_oflt hy hx).mp h2))]
    rw [if_neg h] at w
    exact w
theorem ia_max (F : ia_Fix X own cc nL d mc ms) {x y : Int} {index : Nat} (hx : -2147483648 ≤ x ∧ x ≤ 2147483647) (hy : -2147483648 ≤ y ∧ y ≤ 2147483647) (hw : Cond.methodLink own index Lib.Math.max.name ∈ wU ∧ Cond.static Lib.Math.max.name ∈ wU ∧ Cond.initialized "java/lang/Math" ∈ wU ∧ Cond.code Lib.Math.max.name Lib.Math.max.code 2 (some .int) ∈ wU) (hd : 1 ≤ d ∧ st.length ≤ 4 ∧ cells ≤ mc ∧ slots ≤ ms) (dg : decode cc pc = .ok (.invokestatic index, 3)) (kk : ia_G X cells slots (pc + 3) ls ((0, if x < y then y else x) :: st) Z V) : ia_G X cells slots pc ls ((0, y) :: (0, x) :: st) Z V := by
  intro H locs ad lsA r1 r2 r3 r4 r5 r6 r7 r8
  have h1 := F.1.2.2.2.2.2.2.1
  have h2 := F.1.2.2.2.2.2.2.2.1
  have h3 := ia_catle ad hd.2.1
  have w := kk H locs ad lsA r1 r2 r3 r4 r5 r6 r7 (ia_wfc (ia_wfi (by decide)) (ia_wft (ia_wft r8)))
  rw [List.map_cons, ia_cv0] at w
  refine va_mmax F.1.1 F.1.2.1 (F.1.2.2.1.trans r5.1.symm) F.1.2.2.2.1 (F.1.2.2.2.2.1 _ hw.1) (F.1.2.2.2.2.1 _ hw.2.1) (F.1.2.2.2.2.1 _ hw.2.2.1) (F.1.2.2.2.2.1 _ hw.2.2.2) (by omega) (by omega) (by have := F.1.2.2.2.2.2.2.2.2.1; omega) (by have := F.1.2.2.2.2.2.2.2.2.2.1; omega) dg ?_
  by_cases h : x < y
  · rw [if_pos ((ia_oflt hx hy).mpr h)]
    rw [if_pos h] at w
    exact w
  · rw [if_neg (fun h2 => h ((ia_oflt hx hy).mp h2))]
    rw [if_neg h] at w
    exact w
theorem ia_throwW (F : ia_Fix X RX7 cc nL d mc ms) {ret : Option FieldType} (M : ia_Me X ret nm mc ms Q) {cls text : String} {names : List String} {ik is ic : Nat} (hcls : Bundle.fit cls = true) (hnames : ∀ n ∈ names, Bundle.fit n = true)
    (hk : Cond.classLink RX7 ik cls ∈ wU) (hini : Cond.initialized cls ∈ wU) (hstr : (RX7, is, text) ∈ ia_strs) (hat : ∀ w ∈ vx_atS RX7 ic cls names, w ∈ wU ∨ w ∈ ia_nest)
    (hgood : ∀ w ∈ Cond.classLink RX7 ik cls :: Cond.initialized cls :: vx_atS RX7 ic cls names, vx_ot w = true)
    (d0 : decode cc pc = .ok (.new ik, 3)) (d3 : decode cc (pc + 3) = .ok (.dup, 1)) (d4 : decode cc (pc + 4) = .ok (.ldc_w is, 3)) (d7 : decode cc (pc + 7) = .ok (.invokespecial ic, 3)) (d10 : decode cc (pc + 10) = .ok (.athrow, 1))
    (hR : names.length + 3 < d ∧ names.length ≤ 4 ∧ st.length ≤ 4 ∧ cells + 1 ≤ mc ∧ slots + 6 ≤ ms) (hQ : Q (.inr cls) Z V) : ia_G X cells slots pc ls st Z V := by
  intro H locs ad lsA r1 r2 r3 r4 r5 r6 r7 r8
  rw [M.1]
  obtain ⟨-, -, kS, ⟨kT, -⟩, -⟩ := F.1.2.2.2.2.2.1
  obtain ⟨sa, hsa⟩ := kT _ hstr
  have hf := F.1.2.2.2.2.2.2.1
  have hlc := F.1.2.2.2.2.2.2.2.1
  have hcat := ia_catle ad hR.2.2.1
  refine vx_throwSW F.1.1 F.1.2.1 F.1.2.2.2.2.2.2.2.2.2.2.2 F.1.2.2.2.1 hcls hnames (F.1.2.2.2.2.1 _ hk) (F.1.2.2.2.2.1 _ hini) hsa (fun w hw => ?_) hgood kS.1.1 kS.1.2 r4 (by rw [r5.1]; exact F.1.2.2.1.symm) d0 d3 d4 d7 d10 (fun x hx => (M.2.2.2 x hx).elim) (by omega) (by omega) (by have := F.1.2.2.2.2.2.2.2.2.1; omega) (by have := F.1.2.2.2.2.2.2.2.2.2.1; omega) F.1.2.2.2.2.2.2.2.2.2.2.1 (fun t hv hz hq => ?_) r4.2.2 hR.2.2.2.1 hR.2.2.2.2
  · rcases hat w hw with h | h
    · exact F.1.2.2.2.2.1 _ h
    · exact va_Nw.use (ia_nest_on h) (F.1.2.2.2.2.2.1.2.1 _ h)
  · refine ⟨Z, V, ad, hQ, ⟨r1.1.kept (fun k q hk => hq _ (va_at.lt (r1.1 k q hk))), r1.2⟩, r2, r3, ⟨Nat.le_trans r4.1 hz, fun q h1 h2 => by rw [hq q (Nat.lt_of_lt_of_le h1 r4.1)]; exact r4.2.1 q h1 h2⟩⟩
end IAM
