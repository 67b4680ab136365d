/-! places, shape and pointers of the run's own objects (made by wip/whole/mkbase.py) -/
def kdL : List Nat := [20, 19, 0, 0, 0, 0, 0, 0, 19, 0, 0, 0, 0, 0, 0, 16, 4, 19, 0, 0, 0, 0, 0, 0, 19, 0, 0, 0, 0, 0, 0, 19, 0, 0, 0, 0, 0, 0, 19, 0, 0, 0, 0, 0, 0, 19, 0, 0, 0, 0, 0, 0, 19, 0, 0, 0, 0, 0, 0, 19, 0, 0, 0, 0, 0, 0, 19, 0, 0, 0, 0, 0, 0, 19, 0, 0, 0, 0, 0, 0, 14, 0, 0, 0, 0, 18, 0, 17, 0, 0, 0, 15, 11, 3, 5, 0, 0, 11, 3, 21, 0, 0, 0, 0, 0, 0, 0, 0, 0, 0, 0, 0, 0, 0, 1, 2]
def lnL : List Nat := [0, 0, 10, 7, 7, 7, 12, 12, 0, 10, 7, 7, 7, 12, 12, 0, 9, 0, 10, 7, 7, 7, 12, 12, 0, 10, 7, 7, 7, 12, 12, 0, 10, 7, 7, 7, 12, 12, 0, 10, 7, 7, 7, 12, 12, 0, 10, 7, 7, 7, 12, 12, 0, 10, 7, 7, 7, 12, 12, 0, 10, 7, 7, 7, 12, 12, 0, 10, 7, 7, 7, 12, 12, 0, 10, 7, 7, 7, 12, 12, 0, 7, 7, 896, 7, 0, 7, 0, 12, 12, 12, 0, 0, 16, 16, 16, 16, 0, 16, 0, 72, 72, 72, 576, 1024, 7, 12, 12, 7, 80, 60, 32, 32, 32, 1, 1]
def ZI (Z : ia_Z) : Prop := 116 ≤ Z.2.2 ∧ Z.2.2 ≤ 900000 ∧ ∀ k, k < 116 → Z.1 k = kdL.getD k 0 ∧ Z.2.1 k = lnL.getD k 0
theorem z0 {Z : ia_Z} (h : ZI Z) : 0 < Z.2.2 ∧ Z.1 0 = 20 ∧ Z.2.1 0 = 0 := ⟨Nat.lt_of_lt_of_le (by decide) h.1, h.2.2 0 (by decide)⟩
theorem z1 {Z : ia_Z} (h : ZI Z) : 1 < Z.2.2 ∧ Z.1 1 = 19 ∧ Z.2.1 1 = 0 := ⟨Nat.lt_of_lt_of_le (by decide) h.1, h.2.2 1 (by decide)⟩
theorem z2 {Z : ia_Z} (h : ZI Z) : 2 < Z.2.2 ∧ Z.1 2 = 0 ∧ Z.2.1 2 = 10 := ⟨Nat.lt_of_lt_of_le (by decide) h.1, h.2.2 2 (by decide)⟩
theorem z3 {Z : ia_Z} (h : ZI Z) : 3 < Z.2.2 ∧ Z.1 3 = 0 ∧ Z.2.1 3 = 7 := ⟨Nat.lt_of_lt_of_le (by decide) h.1, h.2.2 3 (by decide)⟩
theorem z4 {Z : ia_Z} (h : ZI Z) : 4 < Z.2.2 ∧ Z.1 4 = 0 ∧ Z.2.1 4 = 7 := ⟨Nat.lt_of_lt_of_le (by decide) h.1, h.2.2 4 (by decide)⟩
theorem z5 {Z : ia_Z} (h : ZI Z) : 5 < Z.2.2 ∧ Z.1 5 = 0 ∧ Z.2.1 5 = 7 := ⟨Nat.lt_of_lt_of_le (by decide) h.1, h.2.2 5 (by decide)⟩
theorem z6 {Z : ia_Z} (h : ZI Z) : 6 < Z.2.2 ∧ Z.1 6 = 0 ∧ Z.2.1 6 = 12 := ⟨Nat.lt_of_lt_of_le (by decide) h.1, h.2.2 6 (by decide)⟩
theorem z7 {Z : ia_Z} (h : ZI Z) : 7 < Z.2.2 ∧ Z.1 7 = 0 ∧ Z.2.1 7 = 12 := ⟨Nat.lt_of_lt_of_le (by decide) h.1, h.2.2 7 (by decide)⟩
theorem z8 {Z : ia_Z} (h : ZI Z) : 8 < Z.2.2 ∧ Z.1 8 = 19 ∧ Z.2.1 8 = 0 := ⟨Nat.lt_of_lt_of_le (by decide) h.1, h.2.2 8 (by decide)⟩
theorem z9 {Z : ia_Z} (h : ZI Z) : 9 < Z.2.2 ∧ Z.1 9 = 0 ∧ Z.2.1 9 = 10 := ⟨Nat.lt_of_lt_of_le (by decide) h.1, h.2.2 9 (by decide)⟩
theorem z10 {Z : ia_Z} (h : ZI Z) : 10 < Z.2.2 ∧ Z.1 10 = 0 ∧ Z.2.1 10 = 7 := ⟨Nat.lt_of_lt_of_le (by decide) h.1, h.2.2 10 (by decide)⟩
theorem z11 {Z : ia_Z} (h : ZI Z) : 11 < Z.2.2 ∧ Z.1 11 = 0 ∧ Z.2.1 11 = 7 := ⟨Nat.lt_of_lt_of_le (by decide) h.1, h.2.2 11 (by decide)⟩
theorem z12 {Z : ia_Z} (h : ZI Z) : 12 < Z.2.2 ∧ Z.1 12 = 0 ∧ Z.2.1 12 = 7 := ⟨Nat.lt_of_lt_of_le (by decide) h.1, h.2.2 12 (by decide)⟩
theorem z13 {Z : ia_Z} (h : ZI Z) : 13 < Z.2.2 ∧ Z.1 13 = 0 ∧ Z.2.1 13 = 12 := ⟨Nat.lt_of_lt_of_le (by decide) h.1, h.2.2 13 (by decide)⟩
theorem z14 {Z : ia_Z} (h : ZI Z) : 14 < Z.2.2 ∧ Z.1 14 = 0 ∧ Z.2.1 14 = 12 := ⟨Nat.lt_of_lt_of_le (by decide) h.1, h.2.2 14 (by decide)⟩
theorem z15 {Z : ia_Z} (h : ZI Z) : 15 < Z.2.2 ∧ Z.1 15 = 16 ∧ Z.2.1 15 = 0 := ⟨Nat.lt_of_lt_of_le (by decide) h.1, h.2.2 15 (by decide)⟩
theorem z16 {Z : ia_Z} (h : ZI Z) : 16 < Z.2.2 ∧ Z.1 16 = 4 ∧ Z.2.1 16 = 9 := ⟨Nat.lt_of_lt_of_le (by decide) h.1, h.2.2 16 (by decide)⟩
theorem z17 {Z : ia_Z} (h : ZI Z) : 17 < Z.2.2 ∧ Z.1 17 = 19 ∧ Z.2.1 17 = 0 := ⟨Nat.lt_of_lt_of_le (by decide) h.1, h.2.2 17 (by decide)⟩
theorem z18 {Z : ia_Z} (h : ZI Z) : 18 < Z.2.2 ∧ Z.1 18 = 0 ∧ Z.2.1 18 = 10 := ⟨Nat.lt_of_lt_of_le (by decide) h.1, h.2.2 18 (by decide)⟩
theorem z19 {Z : ia_Z} (h : ZI Z) : 19 < Z.2.2 ∧ Z.1 19 = 0 ∧ Z.2.1 19 = 7 := ⟨Nat.lt_of_lt_of_le (by decide) h.1, h.2.2 19 (by decide)⟩
theorem z20 {Z : ia_Z} (h : ZI Z) : 20 < Z.2.2 ∧ Z.1 20 = 0 ∧ Z.2.1 20 = 7 := ⟨Nat.lt_of_lt_of_le (by decide) h.1, h.2.2 20 (by decide)⟩
theorem z21 {Z : ia_Z} (h : ZI Z) : 21 < Z.2.2 ∧ Z.1 21 = 0 ∧ Z.2.1 21 = 7 := ⟨Nat.lt_of_lt_of_le (by decide) h.1, h.2.2 21 (by decide)⟩
theorem z22 {Z : ia_Z} (h : ZI Z) : 22 < Z.2.2 ∧ Z.1 22 = 0 ∧ Z.2.1 22 = 12 := ⟨Nat.lt_of_lt_of_le (by decide) h.1, h.2.2 22 (by decide)⟩
theorem z23 {Z : ia_Z} (h : ZI Z) : 23 < Z.2.2 ∧ Z.1 23 = 0 ∧ Z.2.1 23 = 12 := ⟨Nat.lt_of_lt_of_le (by decide) h.1, h.2.2 23 (by decide)⟩
theorem z24 {Z : ia_Z} (h : ZI Z) : 24 < Z.2.2 ∧ Z.1 24 = 19 ∧ Z.2.1 24 = 0 := ⟨Nat.lt_of_lt_of_le (by decide) h.1, h.2.2 24 (by decide)⟩
theorem z25 {Z : ia_Z} (h : ZI Z) : 25 < Z.2.2 ∧ Z.1 25 = 0 ∧ Z.2.1 25 = 10 := ⟨Nat.lt_of_lt_of_le (by decide) h.1, h.2.2 25 (by decide)⟩
theorem z26 {Z : ia_Z} (h : ZI Z) : 26 < Z.2.2 ∧ Z.1 26 = 0 ∧ Z.2.1 26 = 7 := ⟨Nat.lt_of_lt_of_le (by decide) h.1, h.2.2 26 (by decide)⟩
theorem z27 {Z : ia_Z} (h : ZI Z) : 27 < Z.2.2 ∧ Z.1 27 = 0 ∧ Z.2.1 27 = 7 := ⟨Nat.lt_of_lt_of_le (by decide) h.1, h.2.2 27 (by decide)⟩
theorem z28 {Z : ia_Z} (h : ZI Z) : 28 < Z.2.2 ∧ Z.1 28 = 0 ∧ Z.2.1 28 = 7 := ⟨Nat.lt_of_lt_of_le (by decide) h.1, h.2.2 28 (by decide)⟩
theorem z29 {Z : ia_Z} (h : ZI Z) : 29 < Z.2.2 ∧ Z.1 29 = 0 ∧ Z.2.1 29 = 12 := ⟨Nat.lt_of_lt_of_le (by decide) h.1, h.2.2 29 (by decide)⟩
theorem z30 {Z : ia_Z} (h : ZI Z) : 30 < Z.2.2 ∧ Z.1 30 = 0 ∧ Z.2.1 30 = 12 := ⟨Nat.lt_of_lt_of_le (by decide) h.1, h.2.2 30 (by decide)⟩
theorem z31 {Z : ia_Z} (h : ZI Z) : 31 < Z.2.2 ∧ Z.1 31 = 19 ∧ Z.2.1 31 = 0 := ⟨Nat.lt_of_lt_of_le (by decide) h.1, h.2.2 31 (by decide)⟩
theorem z32 {Z : ia_Z} (h : ZI Z) : 32 < Z.2.2 ∧ Z.1 32 = 0 ∧ Z.2.1 32 = 10 := ⟨Nat.lt_of_lt_of_le (by decide) h.1, h.2.2 32 (by decide)⟩
theorem z33 {Z : ia_Z} (h : ZI Z) : 33 < Z.2.2 ∧ Z.1 33 = 0 ∧ Z.2.1 33 = 7 := ⟨Nat.lt_of_lt_of_le (by decide) h.1, h.2.2 33 (by decide)⟩
theorem z34 {Z : ia_Z} (h : ZI Z) : 34 < Z.2.2 ∧ Z.1 34 = 0 ∧ Z.2.1 34 = 7 := ⟨Nat.lt_of_lt_of_le (by decide) h.1, h.2.2 34 (by decide)⟩
theorem z35 {Z : ia_Z} (h : ZI Z) : 35 < Z.2.2 ∧ Z.1 35 = 0 ∧ Z.2.1 35 = 7 := ⟨Nat.lt_of_lt_of_le (by decide) h.1, h.2.2 35 (by decide)⟩
theorem z36 {Z : ia_Z} (h : ZI Z) : 36 < Z.2.2 ∧ Z.1 36 = 0 ∧ Z.2.1 36 = 12 := ⟨Nat.lt_of_lt_of_le (by decide) h.1, h.2.2 36 (by decide)⟩
theorem z37 {Z : ia_Z} (h : ZI Z) : 37 < Z.2.2 ∧ Z.1 37 = 0 ∧ Z.2.1 37 = 12 := ⟨Nat.lt_of_lt_of_le (by decide) h.1, h.2.2 37 (by decide)⟩
theorem z38 {Z : ia_Z} (h : ZI Z) : 38 < Z.2.2 ∧ Z.1 38 = 19 ∧ Z.2.1 38 = 0 := ⟨Nat.lt_of_lt_of_le (by decide) h.1, h.2.2 38 (by decide)⟩
theorem z39 {Z : ia_Z} (h : ZI Z) : 39 < Z.2.2 ∧ Z.1 39 = 0 ∧ Z.2.1 39 = 10 := ⟨Nat.lt_of_lt_of_le (by decide) h.1, h.2.2 39 (by decide)⟩
theorem z40 {Z : ia_Z} (h : ZI Z) : 40 < Z.2.2 ∧ Z.1 40 = 0 ∧ Z.2.1 40 = 7 := ⟨Nat.lt_of_lt_of_le (by decide) h.1, h.2.2 40 (by decide)⟩
theorem z41 {Z : ia_Z} (h : ZI Z) : 41 < Z.2.2 ∧ Z.1 41 = 0 ∧ Z.2.1 41 = 7 := ⟨Nat.lt_of_lt_of_le (by decide) h.1, h.2.2 41 (by decide)⟩
theorem z42 {Z : ia_Z} (h : ZI Z) : 42 < Z.2.2 ∧ Z.1 42 = 0 ∧ Z.2.1 42 = 7 := ⟨Nat.lt_of_lt_of_le (by decide) h.1, h.2.2 42 (by decide)⟩
theorem z43 {Z : ia_Z} (h : ZI Z) : 43 < Z.2.2 ∧ Z.1 43 = 0 ∧ Z.2.1 43 = 12 := ⟨Nat.lt_of_lt_of_le (by decide) h.1, h.2.2 43 (by decide)⟩
theorem z44 {Z : ia_Z} (h : ZI Z) : 44 < Z.2.2 ∧ Z.1 44 = 0 ∧ Z.2.1 44 = 12 := ⟨Nat.lt_of_lt_of_le (by decide) h.1, h.2.2 44 (by decide)⟩
theorem z45 {Z : ia_Z} (h : ZI Z) : 45 < Z.2.2 ∧ Z.1 45 = 19 ∧ Z.2.1 45 = 0 := ⟨Nat.lt_of_lt_of_le (by decide) h.1, h.2.2 45 (by decide)⟩
theorem z46 {Z : ia_Z} (h : ZI Z) : 46 < Z.2.2 ∧ Z.1 46 = 0 ∧ Z.2.1 46 = 10 := ⟨Nat.lt_of_lt_of_le (by decide) h.1, h.2.2 46 (by decide)⟩
theorem z47 {Z : ia_Z} (h : ZI Z) : 47 < Z.2.2 ∧ Z.1 47 = 0 ∧ Z.2.1 47 = 7 := ⟨Nat.lt_of_lt_of_le (by decide) h.1, h.2.2 47 (by decide)⟩
theorem z48 {Z : ia_Z} (h : ZI Z) : 48 < Z.2.2 ∧ Z.1 48 = 0 ∧ Z.2.1 48 = 7 := ⟨Nat.lt_of_lt_of_le (by decide) h.1, h.2.2 48 (by decide)⟩
theorem z49 {Z : ia_Z} (h : ZI Z) : 49 < Z.2.2 ∧ Z.1 49 = 0 ∧ Z.2.1 49 = 7 := ⟨Nat.lt_of_lt_of_le (by decide) h.1, h.2.2 49 (by decide)⟩
theorem z50 {Z : ia_Z} (h : ZI Z) : 50 < Z.2.2 ∧ Z.1 50 = 0 ∧ Z.2.1 50 = 12 := ⟨Nat.lt_of_lt_of_le (by decide) h.1, h.2.2 50 (by decide)⟩
theorem z51 {Z : ia_Z} (h : ZI Z) : 51 < Z.2.2 ∧ Z.1 51 = 0 ∧ Z.2.1 51 = 12 := ⟨Nat.lt_of_lt_of_le (by decide) h.1, h.2.2 51 (by decide)⟩
theorem z52 {Z : ia_Z} (h : ZI Z) : 52 < Z.2.2 ∧ Z.1 52 = 19 ∧ Z.2.1 52 = 0 := ⟨Nat.lt_of_lt_of_le (by decide) h.1, h.2.2 52 (by decide)⟩
theorem z53 {Z : ia_Z} (h : ZI Z) : 53 < Z.2.2 ∧ Z.1 53 = 0 ∧ Z.2.1 53 = 10 := ⟨Nat.lt_of_lt_of_le (by decide) h.1, h.2.2 53 (by decide)⟩
theorem z54 {Z : ia_Z} (h : ZI Z) : 54 < Z.2.2 ∧ Z.1 54 = 0 ∧ Z.2.1 54 = 7 := ⟨Nat.lt_of_lt_of_le (by decide) h.1, h.2.2 54 (by decide)⟩
theorem z55 {Z : ia_Z} (h : ZI Z) : 55 < Z.2.2 ∧ Z.1 55 = 0 ∧ Z.2.1 55 = 7 := ⟨Nat.lt_of_lt_of_le (by decide) h.1, h.2.2 55 (by decide)⟩
theorem z56 {Z : ia_Z} (h : ZI Z) : 56 < Z.2.2 ∧ Z.1 56 = 0 ∧ Z.2.1 56 = 7 := ⟨Nat.lt_of_lt_of_le (by decide) h.1, h.2.2 56 (by decide)⟩
theorem z57 {Z : ia_Z} (h : ZI Z) : 57 < Z.2.2 ∧ Z.1 57 = 0 ∧ Z.2.1 57 = 12 := ⟨Nat.lt_of_lt_of_le (by decide) h.1, h.2.2 57 (by decide)⟩
theorem z58 {Z : ia_Z} (h : ZI Z) : 58 < Z.2.2 ∧ Z.1 58 = 0 ∧ Z.2.1 58 = 12 := ⟨Nat.lt_of_lt_of_le (by decide) h.1, h.2.2 58 (by decide)⟩
theorem z59 {Z : ia_Z} (h : ZI Z) : 59 < Z.2.2 ∧ Z.1 59 = 19 ∧ Z.2.1 59 = 0 := ⟨Nat.lt_of_lt_of_le (by decide) h.1, h.2.2 59 (by decide)⟩
theorem z60 {Z : ia_Z} (h : ZI Z) : 60 < Z.2.2 ∧ Z.1 60 = 0 ∧ Z.2.1 60 = 10 := ⟨Nat.lt_of_lt_of_le (by decide) h.1, h.2.2 60 (by decide)⟩
theorem z61 {Z : ia_Z} (h : ZI Z) : 61 < Z.2.2 ∧ Z.1 61 = 0 ∧ Z.2.1 61 = 7 := ⟨Nat.lt_of_lt_of_le (by decide) h.1, h.2.2 61 (by decide)⟩
theorem z62 {Z : ia_Z} (h : ZI Z) : 62 < Z.2.2 ∧ Z.1 62 = 0 ∧ Z.2.1 62 = 7 := ⟨Nat.lt_of_lt_of_le (by decide) h.1, h.2.2 62 (by decide)⟩
theorem z63 {Z : ia_Z} (h : ZI Z) : 63 < Z.2.2 ∧ Z.1 63 = 0 ∧ Z.2.1 63 = 7 := ⟨Nat.lt_of_lt_of_le (by decide) h.1, h.2.2 63 (by decide)⟩
theorem z64 {Z : ia_Z} (h : ZI Z) : 64 < Z.2.2 ∧ Z.1 64 = 0 ∧ Z.2.1 64 = 12 := ⟨Nat.lt_of_lt_of_le (by decide) h.1, h.2.2 64 (by decide)⟩
theorem z65 {Z : ia_Z} (h : ZI Z) : 65 < Z.2.2 ∧ Z.1 65 = 0 ∧ Z.2.1 65 = 12 := ⟨Nat.lt_of_lt_of_le (by decide) h.1, h.2.2 65 (by decide)⟩
theorem z66 {Z : ia_Z} (h : ZI Z) : 66 < Z.2.2 ∧ Z.1 66 = 19 ∧ Z.2.1 66 = 0 := ⟨Nat.lt_of_lt_of_le (by decide) h.1, h.2.2 66 (by decide)⟩
theorem z67 {Z : ia_Z} (h : ZI Z) : 67 < Z.2.2 ∧ Z.1 67 = 0 ∧ Z.2.1 67 = 10 := ⟨Nat.lt_of_lt_of_le (by decide) h.1, h.2.2 67 (by decide)⟩
theorem z68 {Z : ia_Z} (h : ZI Z) : 68 < Z.2.2 ∧ Z.1 68 = 0 ∧ Z.2.1 68 = 7 := ⟨Nat.lt_of_lt_of_le (by decide) h.1, h.2.2 68 (by decide)⟩
theorem z69 {Z : ia_Z} (h : ZI Z) : 69 < Z.2.2 ∧ Z.1 69 = 0 ∧ Z.2.1 69 = 7 := ⟨Nat.lt_of_lt_of_le (by decide) h.1, h.2.2 69 (by decide)⟩
theorem z70 {Z : ia_Z} (h : ZI Z) : 70 < Z.2.2 ∧ Z.1 70 = 0 ∧ Z.2.1 70 = 7 := ⟨Nat.lt_of_lt_of_le (by decide) h.1, h.2.2 70 (by decide)⟩
theorem z71 {Z : ia_Z} (h : ZI Z) : 71 < Z.2.2 ∧ Z.1 71 = 0 ∧ Z.2.1 71 = 12 := ⟨Nat.lt_of_lt_of_le (by decide) h.1, h.2.2 71 (by decide)⟩
theorem z72 {Z : ia_Z} (h : ZI Z) : 72 < Z.2.2 ∧ Z.1 72 = 0 ∧ Z.2.1 72 = 12 := ⟨Nat.lt_of_lt_of_le (by decide) h.1, h.2.2 72 (by decide)⟩
theorem z73 {Z : ia_Z} (h : ZI Z) : 73 < Z.2.2 ∧ Z.1 73 = 19 ∧ Z.2.1 73 = 0 := ⟨Nat.lt_of_lt_of_le (by decide) h.1, h.2.2 73 (by decide)⟩
theorem z74 {Z : ia_Z} (h : ZI Z) : 74 < Z.2.2 ∧ Z.1 74 = 0 ∧ Z.2.1 74 = 10 := ⟨Nat.lt_of_lt_of_le (by decide) h.1, h.2.2 74 (by decide)⟩
theorem z75 {Z : ia_Z} (h : ZI Z) : 75 < Z.2.2 ∧ Z.1 75 = 0 ∧ Z.2.1 75 = 7 := ⟨Nat.lt_of_lt_of_le (by decide) h.1, h.2.2 75 (by decide)⟩
theorem z76 {Z : ia_Z} (h : ZI Z) : 76 < Z.2.2 ∧ Z.1 76 = 0 ∧ Z.2.1 76 = 7 := ⟨Nat.lt_of_lt_of_le (by decide) h.1, h.2.2 76 (by decide)⟩
theorem z77 {Z : ia_Z} (h : ZI Z) : 77 < Z.2.2 ∧ Z.1 77 = 0 ∧ Z.2.1 77 = 7 := ⟨Nat.lt_of_lt_of_le (by decide) h.1, h.2.2 77 (by decide)⟩
theorem z78 {Z : ia_Z} (h : ZI Z) : 78 < Z.2.2 ∧ Z.1 78 = 0 ∧ Z.2.1 78 = 12 := ⟨Nat.lt_of_lt_of_le (by decide) h.1, h.2.2 78 (by decide)⟩
theorem z79 {Z : ia_Z} (h : ZI Z) : 79 < Z.2.2 ∧ Z.1 79 = 0 ∧ Z.2.1 79 = 12 := ⟨Nat.lt_of_lt_of_le (by decide) h.1, h.2.2 79 (by decide)⟩
theorem z80 {Z : ia_Z} (h : ZI Z) : 80 < Z.2.2 ∧ Z.1 80 = 14 ∧ Z.2.1 80 = 0 := ⟨Nat.lt_of_lt_of_le (by decide) h.1, h.2.2 80 (by decide)⟩
theorem z81 {Z : ia_Z} (h : ZI Z) : 81 < Z.2.2 ∧ Z.1 81 = 0 ∧ Z.2.1 81 = 7 := ⟨Nat.lt_of_lt_of_le (by decide) h.1, h.2.2 81 (by decide)⟩
theorem z82 {Z : ia_Z} (h : ZI Z) : 82 < Z.2.2 ∧ Z.1 82 = 0 ∧ Z.2.1 82 = 7 := ⟨Nat.lt_of_lt_of_le (by decide) h.1, h.2.2 82 (by decide)⟩
theorem z83 {Z : ia_Z} (h : ZI Z) : 83 < Z.2.2 ∧ Z.1 83 = 0 ∧ Z.2.1 83 = 896 := ⟨Nat.lt_of_lt_of_le (by decide) h.1, h.2.2 83 (by decide)⟩
theorem z84 {Z : ia_Z} (h : ZI Z) : 84 < Z.2.2 ∧ Z.1 84 = 0 ∧ Z.2.1 84 = 7 := ⟨Nat.lt_of_lt_of_le (by decide) h.1, h.2.2 84 (by decide)⟩
theorem z85 {Z : ia_Z} (h : ZI Z) : 85 < Z.2.2 ∧ Z.1 85 = 18 ∧ Z.2.1 85 = 0 := ⟨Nat.lt_of_lt_of_le (by decide) h.1, h.2.2 85 (by decide)⟩
theorem z86 {Z : ia_Z} (h : ZI Z) : 86 < Z.2.2 ∧ Z.1 86 = 0 ∧ Z.2.1 86 = 7 := ⟨Nat.lt_of_lt_of_le (by decide) h.1, h.2.2 86 (by decide)⟩
theorem z87 {Z : ia_Z} (h : ZI Z) : 87 < Z.2.2 ∧ Z.1 87 = 17 ∧ Z.2.1 87 = 0 := ⟨Nat.lt_of_lt_of_le (by decide) h.1, h.2.2 87 (by decide)⟩
theorem z88 {Z : ia_Z} (h : ZI Z) : 88 < Z.2.2 ∧ Z.1 88 = 0 ∧ Z.2.1 88 = 12 := ⟨Nat.lt_of_lt_of_le (by decide) h.1, h.2.2 88 (by decide)⟩
theorem z89 {Z : ia_Z} (h : ZI Z) : 89 < Z.2.2 ∧ Z.1 89 = 0 ∧ Z.2.1 89 = 12 := ⟨Nat.lt_of_lt_of_le (by decide) h.1, h.2.2 89 (by decide)⟩
theorem z90 {Z : ia_Z} (h : ZI Z) : 90 < Z.2.2 ∧ Z.1 90 = 0 ∧ Z.2.1 90 = 12 := ⟨Nat.lt_of_lt_of_le (by decide) h.1, h.2.2 90 (by decide)⟩
theorem z91 {Z : ia_Z} (h : ZI Z) : 91 < Z.2.2 ∧ Z.1 91 = 15 ∧ Z.2.1 91 = 0 := ⟨Nat.lt_of_lt_of_le (by decide) h.1, h.2.2 91 (by decide)⟩
theorem z92 {Z : ia_Z} (h : ZI Z) : 92 < Z.2.2 ∧ Z.1 92 = 11 ∧ Z.2.1 92 = 0 := ⟨Nat.lt_of_lt_of_le (by decide) h.1, h.2.2 92 (by decide)⟩
theorem z93 {Z : ia_Z} (h : ZI Z) : 93 < Z.2.2 ∧ Z.1 93 = 3 ∧ Z.2.1 93 = 16 := ⟨Nat.lt_of_lt_of_le (by decide) h.1, h.2.2 93 (by decide)⟩
theorem z94 {Z : ia_Z} (h : ZI Z) : 94 < Z.2.2 ∧ Z.1 94 = 5 ∧ Z.2.1 94 = 16 := ⟨Nat.lt_of_lt_of_le (by decide) h.1, h.2.2 94 (by decide)⟩
theorem z95 {Z : ia_Z} (h : ZI Z) : 95 < Z.2.2 ∧ Z.1 95 = 0 ∧ Z.2.1 95 = 16 := ⟨Nat.lt_of_lt_of_le (by decide) h.1, h.2.2 95 (by decide)⟩
theorem z96 {Z : ia_Z} (h : ZI Z) : 96 < Z.2.2 ∧ Z.1 96 = 0 ∧ Z.2.1 96 = 16 := ⟨Nat.lt_of_lt_of_le (by decide) h.1, h.2.2 96 (by decide)⟩
theorem z97 {Z : ia_Z} (h : ZI Z) : 97 < Z.2.2 ∧ Z.1 97 = 11 ∧ Z.2.1 97 = 0 := ⟨Nat.lt_of_lt_of_le (by decide) h.1, h.2.2 97 (by decide)⟩
theorem z98 {Z : ia_Z} (h : ZI Z) : 98 < Z.2.2 ∧ Z.1 98 = 3 ∧ Z.2.1 98 = 16 := ⟨Nat.lt_of_lt_of_le (by decide) h.1, h.2.2 98 (by decide)⟩
theorem z99 {Z : ia_Z} (h : ZI Z) : 99 < Z.2.2 ∧ Z.1 99 = 21 ∧ Z.2.1 99 = 0 := ⟨Nat.lt_of_lt_of_le (by decide) h.1, h.2.2 99 (by decide)⟩
theorem z100 {Z : ia_Z} (h : ZI Z) : 100 < Z.2.2 ∧ Z.1 100 = 0 ∧ Z.2.1 100 = 72 := ⟨Nat.lt_of_lt_of_le (by decide) h.1, h.2.2 100 (by decide)⟩
theorem z101 {Z : ia_Z} (h : ZI Z) : 101 < Z.2.2 ∧ Z.1 101 = 0 ∧ Z.2.1 101 = 72 := ⟨Nat.lt_of_lt_of_le (by decide) h.1, h.2.2 101 (by decide)⟩
theorem z102 {Z : ia_Z} (h : ZI Z) : 102 < Z.2.2 ∧ Z.1 102 = 0 ∧ Z.2.1 102 = 72 := ⟨Nat.lt_of_lt_of_le (by decide) h.1, h.2.2 102 (by decide)⟩
theorem z103 {Z : ia_Z} (h : ZI Z) : 103 < Z.2.2 ∧ Z.1 103 = 0 ∧ Z.2.1 103 = 576 := ⟨Nat.lt_of_lt_of_le (by decide) h.1, h.2.2 103 (by decide)⟩
theorem z104 {Z : ia_Z} (h : ZI Z) : 104 < Z.2.2 ∧ Z.1 104 = 0 ∧ Z.2.1 104 = 1024 := ⟨Nat.lt_of_lt_of_le (by decide) h.1, h.2.2 104 (by decide)⟩
theorem z105 {Z : ia_Z} (h : ZI Z) : 105 < Z.2.2 ∧ Z.1 105 = 0 ∧ Z.2.1 105 = 7 := ⟨Nat.lt_of_lt_of_le (by decide) h.1, h.2.2 105 (by decide)⟩
theorem z106 {Z : ia_Z} (h : ZI Z) : 106 < Z.2.2 ∧ Z.1 106 = 0 ∧ Z.2.1 106 = 12 := ⟨Nat.lt_of_lt_of_le (by decide) h.1, h.2.2 106 (by decide)⟩
theorem z107 {Z : ia_Z} (h : ZI Z) : 107 < Z.2.2 ∧ Z.1 107 = 0 ∧ Z.2.1 107 = 12 := ⟨Nat.lt_of_lt_of_le (by decide) h.1, h.2.2 107 (by decide)⟩
theorem z108 {Z : ia_Z} (h : ZI Z) : 108 < Z.2.2 ∧ Z.1 108 = 0 ∧ Z.2.1 108 = 7 := ⟨Nat.lt_of_lt_of_le (by decide) h.1, h.2.2 108 (by decide)⟩
theorem z109 {Z : ia_Z} (h : ZI Z) : 109 < Z.2.2 ∧ Z.1 109 = 0 ∧ Z.2.1 109 = 80 := ⟨Nat.lt_of_lt_of_le (by decide) h.1, h.2.2 109 (by decide)⟩
theorem z110 {Z : ia_Z} (h : ZI Z) : 110 < Z.2.2 ∧ Z.1 110 = 0 ∧ Z.2.1 110 = 60 := ⟨Nat.lt_of_lt_of_le (by decide) h.1, h.2.2 110 (by decide)⟩
theorem z111 {Z : ia_Z} (h : ZI Z) : 111 < Z.2.2 ∧ Z.1 111 = 0 ∧ Z.2.1 111 = 32 := ⟨Nat.lt_of_lt_of_le (by decide) h.1, h.2.2 111 (by decide)⟩
theorem z112 {Z : ia_Z} (h : ZI Z) : 112 < Z.2.2 ∧ Z.1 112 = 0 ∧ Z.2.1 112 = 32 := ⟨Nat.lt_of_lt_of_le (by decide) h.1, h.2.2 112 (by decide)⟩
theorem z113 {Z : ia_Z} (h : ZI Z) : 113 < Z.2.2 ∧ Z.1 113 = 0 ∧ Z.2.1 113 = 32 := ⟨Nat.lt_of_lt_of_le (by decide) h.1, h.2.2 113 (by decide)⟩
theorem z114 {Z : ia_Z} (h : ZI Z) : 114 < Z.2.2 ∧ Z.1 114 = 1 ∧ Z.2.1 114 = 1 := ⟨Nat.lt_of_lt_of_le (by decide) h.1, h.2.2 114 (by decide)⟩
theorem z115 {Z : ia_Z} (h : ZI Z) : 115 < Z.2.2 ∧ Z.1 115 = 2 ∧ Z.2.1 115 = 1 := ⟨Nat.lt_of_lt_of_le (by decide) h.1, h.2.2 115 (by decide)⟩
def ptr (p k : Nat) : Option Nat :=
  if 17 ≤ p ∧ p < 80 then (if (p - 17) % 7 = 0 ∧ k < 6 then some (p + 1 + k) else none) else
  match p with
  | 0 => (match k with | 0 => some 1 | 1 => some 8 | 2 => some 15 | 3 => some 80 | 4 => some 85 | 5 => some 87 | 6 => some 91 | 7 => some 97 | _ => none)
  | 1 => (match k with | 0 => some 2 | 1 => some 3 | 2 => some 4 | 3 => some 5 | 4 => some 6 | 5 => some 7 | _ => none)
  | 8 => (match k with | 0 => some 9 | 1 => some 10 | 2 => some 11 | 3 => some 12 | 4 => some 13 | 5 => some 14 | _ => none)
  | 15 => (match k with | 0 => some 16 | _ => none)
  | 16 => if k < 9 then some (17 + 7 * k) else none
  | 80 => (match k with | 0 => some 81 | 1 => some 82 | 2 => some 83 | 3 => some 84 | _ => none)
  | 85 => (match k with | 0 => some 86 | _ => none)
  | 87 => (match k with | 0 => some 88 | 1 => some 89 | 2 => some 90 | _ => none)
  | 91 => (match k with | 0 => some 92 | 1 => some 94 | 2 => some 95 | 3 => some 96 | _ => none)
  | 99 => (match k with | 0 => some 100 | 1 => some 101 | 2 => some 102 | 3 => some 103 | 4 => some 104 | 5 => some 105 | 6 => some 106 | 7 => some 107 | 8 => some 108 | 14 => some 109 | 16 => some 110 | 17 => some 111 | 18 => some 112 | 19 => some 113 | _ => none)
  | _ => none
def PI (V : ia_H) : Prop := ∀ p k q : Nat, ptr p k = some q → V p k = (q : Int)
theorem PI_u {V : ia_H} {p k : Nat} {x : Int} (h : PI V) (e : ptr p k = none) : PI (ia_u V p k x) := fun a j q h2 => by
  by_cases hc : a = p ∧ j = k
  · rw [hc.1, hc.2, e] at h2; cases h2
  · show (if a = p ∧ j = k then x else V a j) = (q : Int)
    rw [if_neg hc]; exact h a j q h2
theorem PI_row {V V' : ia_H} (h : PI V) (S : List Nat) (hS : ∀ p, p ∈ S → ∀ k, ptr p k = none) (hF : ∀ p, p ∉ S → V' p = V p) : PI V' := fun a j q h2 => by
  by_cases hc : a ∈ S
  · rw [hS a hc j] at h2; cases h2
  · rw [hF a hc]; exact h a j q h2
/-- one row's value changed -/
def up (f : Nat → Int) (k : Nat) (x : Int) : Nat → Int := fun j => if j = k then x else f j
theorem up_self (f : Nat → Int) (k : Nat) (x : Int) : up f k x k = x := if_pos rfl
theorem up_ne {f : Nat → Int} {k j : Nat} {x : Int} (h : j ≠ k) : up f k x j = f j := if_neg h
theorem rowU {V : ia_H} {q k : Nat} {x : Int} {f : Nat → Int} (h : V q = f) : ia_u V q k x q = up f k x := by
  funext j
  show (if q = q ∧ j = k then x else V q j) = if j = k then x else f j
  rw [h]
  by_cases hj : j = k
  · rw [if_pos ⟨rfl, hj⟩, if_pos hj]
  · rw [if_neg (fun e => hj e.2), if_neg hj]
theorem rowN {V : ia_H} {p q k : Nat} {x : Int} (h : p ≠ q) : ia_u V q k x p = V p := by
  funext j
  exact if_neg (fun e => h e.1)
theorem Fr_0 {V : ia_H} {S : List Nat} : ∀ p, p ∉ S → V p = V p := fun _ _ => rfl
theorem Fr_u {V V1 : ia_H} {S : List Nat} {q k : Nat} {x : Int} (h : ∀ p, p ∉ S → V1 p = V p) (hq : q ∈ S) : ∀ p, p ∉ S → ia_u V1 q k x p = V p := fun p hp => by
  rw [rowN (fun e => hp (by rw [e]; exact hq))]; exact h p hp
theorem Fr_c {V V1 V2 : ia_H} {S T : List Nat} (h : ∀ p, p ∉ S → V1 p = V p) (h2 : ∀ p, p ∉ T → V2 p = V1 p) (hT : ∀ p, p ∈ T → p ∈ S) : ∀ p, p ∉ S → V2 p = V p := fun p hp => (h2 p (fun e => hp (hT p e))).trans (h p hp)
-- the state's parts, over the one row of numbers
def wel (σ : Nat → Int) (c : Nat) : Int := σ (8 + c)
def col (σ : Nat → Int) (e : Nat) : Int := σ (20 + 4 * e)
def run (σ : Nat → Int) (e : Nat) : Int := σ (20 + 4 * e + 1)
def prt (σ : Nat → Int) (e : Nat) : Int := σ (20 + 4 * e + 2)
def mrk (σ : Nat → Int) (p : Nat) : Int := σ (48 + 2 * p)
def mad (σ : Nat → Int) (p : Nat) : Int := σ (48 + 2 * p + 1)
def psum (f : Nat → Int) : Nat → Int
  | 0 => 0
  | n + 1 => psum f n + f n
/-- the shop at place b (its rows b + 1 .. b + 6) holds the state σ -/
def Sh (b : Nat) (V : ia_H) (σ : Nat → Int) : Prop :=
  (∀ c : Nat, c < 10 → V (b + 1) c = wel σ c) ∧ (∀ e : Nat, (e : Int) < σ 0 → V (b + 2) e = col σ e ∧ V (b + 3) e = run σ e ∧ V (b + 4) e = prt σ e) ∧ (∀ p : Nat, (p : Int) < σ 1 → V (b + 5) p = mrk σ p ∧ V (b + 6) p = mad σ p) ∧ V b 6 = σ 0 ∧ V b 7 = σ 1 ∧ V b 8 = σ 2 ∧ V b 9 = σ 3 ∧ V b 10 = σ 4 ∧ V b 11 = σ 5 ∧ V b 12 = σ 6 ∧ V b 13 = σ 7 ∧ V b 14 = σ 18
section SHS
variable {V V' : ia_H} {σ : Nat → Int}
theorem Sh.wel (h : Sh 1 V σ) (c : Nat) (hc : c < 10) : V 2 c = wel σ c := h.1 c hc
theorem Sh.col (h : Sh 1 V σ) (e : Nat) (he : (e : Int) < σ 0) : V 3 e = col σ e := (h.2.1 e he).1
theorem Sh.run (h : Sh 1 V σ) (e : Nat) (he : (e : Int) < σ 0) : V 4 e = run σ e := (h.2.1 e he).2.1
theorem Sh.prt (h : Sh 1 V σ) (e : Nat) (he : (e : Int) < σ 0) : V 5 e = prt σ e := (h.2.1 e he).2.2
theorem Sh.mrk (h : Sh 1 V σ) (e : Nat) (he : (e : Int) < σ 1) : V 6 e = mrk σ e := (h.2.2.1 e he).1
theorem Sh.mad (h : Sh 1 V σ) (e : Nat) (he : (e : Int) < σ 1) : V 7 e = mad σ e := (h.2.2.1 e he).2
theorem Sh.f6 (h : Sh 1 V σ) : V 1 6 = σ 0 := h.2.2.2.1
theorem Sh.f7 (h : Sh 1 V σ) : V 1 7 = σ 1 := h.2.2.2.2.1
theorem Sh.f8 (h : Sh 1 V σ) : V 1 8 = σ 2 := h.2.2.2.2.2.1
theorem Sh.f9 (h : Sh 1 V σ) : V 1 9 = σ 3 := h.2.2.2.2.2.2.1
theorem Sh.f10 (h : Sh 1 V σ) : V 1 10 = σ 4 := h.2.2.2.2.2.2.2.1
theorem Sh.f11 (h : Sh 1 V σ) : V 1 11 = σ 5 := h.2.2.2.2.2.2.2.2.1
theorem Sh.f12 (h : Sh 1 V σ) : V 1 12 = σ 6 := h.2.2.2.2.2.2.2.2.2.1
theorem Sh.f13 (h : Sh 1 V σ) : V 1 13 = σ 7 := h.2.2.2.2.2.2.2.2.2.2.1
theorem Sh.f14 (h : Sh 1 V σ) : V 1 14 = σ 18 := h.2.2.2.2.2.2.2.2.2.2.2
theorem Sh_rows {b b' : Nat} (h : Sh b V σ) (e0 : ∀ k, 6 ≤ k → V' b' k = V b k) (e1 : V' (b' + 1) = V (b + 1)) (e2 : V' (b' + 2) = V (b + 2)) (e3 : V' (b' + 3) = V (b + 3)) (e4 : V' (b' + 4) = V (b + 4)) (e5 : V' (b' + 5) = V (b + 5)) (e6 : V' (b' + 6) = V (b + 6)) : Sh b' V' σ := by
  unfold Sh
  rw [e1, e2, e3, e4, e5, e6, e0 6 (by decide), e0 7 (by decide), e0 8 (by decide), e0 9 (by decide), e0 10 (by decide), e0 11 (by decide), e0 12 (by decide), e0 13 (by decide), e0 14 (by decide)]
  exact h
theorem Sh_u {p k : Nat} {x : Int} (h : Sh 1 V σ) (hp : ¬ (1 ≤ p ∧ p ≤ 7)) : Sh 1 (ia_u V p k x) σ :=
  Sh_rows h (fun j _ => congrFun (rowN (by omega)) j) (rowN (by omega)) (rowN (by omega)) (rowN (by omega)) (rowN (by omega)) (rowN (by omega)) (rowN (by omega))
theorem Sh_fr {S : List Nat} (h : Sh 1 V σ) (hF : ∀ p, p ∉ S → V' p = V p) (hS : ∀ p, 1 ≤ p ∧ p ≤ 7 → p ∉ S) : Sh 1 V' σ :=
  Sh_rows h (fun j _ => by rw [hF 1 (hS 1 (by decide))]) (hF 2 (hS 2 (by decide))) (hF 3 (hS 3 (by decide))) (hF 4 (hS 4 (by decide))) (hF 5 (hS 5 (by decide))) (hF 6 (hS 6 (by decide))) (hF 7 (hS 7 (by decide)))
end SHS
/-- what holds of a state after at most m changes -/
def SI (σ : Nat → Int) (m : Int) : Prop :=
  (0 ≤ σ 0 ∧ σ 0 ≤ 7) ∧ (0 ≤ σ 1 ∧ σ 1 ≤ 12) ∧ (0 ≤ σ 2 ∧ σ 2 ≤ 9999) ∧ (0 ≤ σ 3 ∧ σ 3 ≤ 48 * m ∧ m ≤ 20000) ∧ (0 ≤ σ 4 ∧ σ 4 ≤ 9) ∧ (0 ≤ σ 5 ∧ σ 5 ≤ 600 * m) ∧ (0 ≤ σ 6 ∧ σ 6 ≤ 999 * m) ∧ 0 ≤ σ 7 ∧ 0 ≤ σ 18 ∧ σ 6 = psum (wel σ) 10 + σ 7 + σ 18 ∧ (∀ c : Nat, c < 10 → 0 ≤ wel σ c ∧ wel σ c ≤ 999) ∧ (∀ e : Nat, (e : Int) < σ 0 → (0 ≤ col σ e ∧ col σ e ≤ 9) ∧ (1 ≤ run σ e ∧ run σ e ≤ 50) ∧ 0 ≤ prt σ e ∧ prt σ e ≤ run σ e) ∧ (∀ p : Nat, (p : Int) < σ 1 → (0 ≤ mrk σ p ∧ mrk σ p ≤ 99) ∧ 0 ≤ mad σ p ∧ mad σ p ≤ 48 * m)
-- the rows of the walk
theorem ia_tg {args : List (Nat × Int)} (h : (args.all (fun u => u.1 == 0 || u.1 == 2 || u.1 == 4)) = true) : ∀ u ∈ args, u.1 = 0 ∨ u.1 = 2 ∨ u.1 = 4 := fun u hu => by
  have := List.all_eq_true.mp h u hu
  simpa [or_assoc] using this
def ia_ct (X : ia_X) (cells slots pc : Nat) (ls st : List (Nat × Int)) (n : Nat) : ia_O → ia_Z → ia_H → Prop
  | .inl v, Z, V => n ≤ Z.2.2 → ia_G X cells slots pc ls (v.toList ++ st) Z V
  | .inr E, Z, V => n ≤ Z.2.2 → ia_T X cells slots (pc - 3) ls Z V E
section JR
variable {X : ia_X} {own : String} {cc : ByteArray} {nL d mc ms cells slots pc n : Nat} {ls st : List (Nat × Int)} {Z : ia_Z} {V : ia_H}
theorem j1 {t : Nat} {x : Int} (h : ia_G X cells slots (pc + 3) ls ((t, x) :: st) Z V) : ia_ct X cells slots (pc + 3) ls st n (.inl (some (t, x))) Z V := fun _ => h
theorem j0 (h : ia_G X cells slots (pc + 3) ls st Z V) : ia_ct X cells slots (pc + 3) ls st n (.inl none) Z V := fun _ => h
theorem jx {E : String} (h : ia_T X cells slots pc ls Z V E) : ia_ct X cells slots (pc + 3) ls st n (.inr E) Z V := fun _ => h
theorem jg (F : ia_Fix X own cc nL d mc ms) {ci N index : Nat} {C : String} {T : u_T} {q L k t : Nat} {x : Int} (z : q < Z.2.2 ∧ Z.1 q = 10 + ci ∧ Z.2.1 q = L) (hC : ia_Cls ci C T N) (hf : k < N ∧ ia_tag (ia_ty ci k) = t) (hx : V q k = x) (hw : Cond.fieldLink own index (T k).1 (T k).2.1 (T k).2.2.1 ∈ wU) (dg : decode cc pc = .ok (.getfield index, 3)) (kk : ia_G X cells slots (pc + 3) ls ((t, x) :: st) Z V) : ia_G X cells slots pc ls ((4, (q : Int)) :: st) Z V :=
  ia_getf F hC k hf.1 q rfl z.1 z.2.1 hf.2 hx hw dg kk
theorem jp (F : ia_Fix X own cc nL d mc ms) {ci N index : Nat} {C : String} {T : u_T} {q L k t : Nat} {y : Int} (z : q < Z.2.2 ∧ Z.1 q = 10 + ci ∧ Z.2.1 q = L) (hC : ia_Cls ci C T N) (hf : k < N ∧ ia_tag (ia_ty ci k) = t) (hfin : (T k).2.2.2 = false) (hn : ∀ ad : Nat → Nat, narrow (ia_ty ci k) (ia_cv ad (t, y)) = ia_cv ad (t, y) ∧ fits (ia_ty ci k) (ia_cv ad (t, y)) = true) (hw : Cond.fieldLink own index (T k).1 (T k).2.1 (T k).2.2.1 ∈ wU) (dg : decode cc pc = .ok (.putfield index, 3)) (kk : ia_G X cells slots (pc + 3) ls st Z (ia_u V q k y)) : ia_G X cells slots pc ls ((t, y) :: (4, (q : Int)) :: st) Z V :=
  ia_putf F hC k hf.1 q rfl z.1 z.2.1 hf.2 hfin hn hw dg kk
theorem ja (F : ia_Fix X own cc nL d mc ms) {x v : Int} {q L : Nat} (z : q < Z.2.2 ∧ Z.1 q = 0 ∧ Z.2.1 q = L) (i : Nat) (hi : x = (i : Int)) (hin : i < L) (hv : V q i = v) (dg : decode cc pc = .ok (.iaload, 1)) (kk : ia_G X cells slots (pc + 1) ls ((0, v) :: st) Z V) : ia_G X cells slots pc ls ((0, x) :: (4, (q : Int)) :: st) Z V :=
  ia_iaload F q i rfl hi z.1 z.2.1 (by rw [z.2.2]; exact hin) hv dg kk
theorem jal (F : ia_Fix X own cc nL d mc ms) {x v : Int} {q L : Nat} (z : q < Z.2.2 ∧ Z.1 q = 1 ∧ Z.2.1 q = L) (i : Nat) (hi : x = (i : Int)) (hin : i < L) (hv : V q i = v) (dg : decode cc pc = .ok (.laload, 1)) (kk : ia_G X cells slots (pc + 1) ls ((1, v) :: st) Z V) : ia_G X cells slots pc ls ((0, x) :: (4, (q : Int)) :: st) Z V :=
  ia_laload F q i rfl hi z.1 z.2.1 (by rw [z.2.2]; exact hin) hv dg kk
theorem jab (F : ia_Fix X own cc nL d mc ms) {x v : Int} {q L : Nat} (z : q < Z.2.2 ∧ Z.1 q = 3 ∧ Z.2.1 q = L) (i : Nat) (hi : x = (i : Int)) (hin : i < L) (hv : V q i = v) (dg : decode cc pc = .ok (.baload, 1)) (kk : ia_G X cells slots (pc + 1) ls ((0, v) :: st) Z V) : ia_G X cells slots pc ls ((0, x) :: (4, (q : Int)) :: st) Z V :=
  ia_baload F q i rfl hi z.1 z.2.1 (by rw [z.2.2]; exact hin) hv dg kk
theorem js (F : ia_Fix X own cc nL d mc ms) {x y : Int} {q L : Nat} (z : q < Z.2.2 ∧ Z.1 q = 0 ∧ Z.2.1 q = L) (i : Nat) (hi : x = (i : Int)) (hin : i < L) (dg : decode cc pc = .ok (.iastore, 1)) (kk : ia_G X cells slots (pc + 1) ls st Z (ia_u V q i y)) : ia_G X cells slots pc ls ((0, y) :: (0, x) :: (4, (q : Int)) :: st) Z V :=
  ia_iastore F q i rfl hi z.1 z.2.1 (by rw [z.2.2]; exact hin) dg kk
theorem jlen (F : ia_Fix X own cc nL d mc ms) {q L k : Nat} (z : q < Z.2.2 ∧ Z.1 q = k ∧ Z.2.1 q = L) (hk : k < 6) (dg : decode cc pc = .ok (.arraylength, 1)) (kk : ia_G X cells slots (pc + 1) ls ((0, (L : Int)) :: st) Z V) : ia_G X cells slots pc ls ((4, (q : Int)) :: st) Z V :=
  ia_alen F q k 0 rfl z.1 z.2.1 hk (by rw [z.2.2]) dg kk
theorem jS (F : ia_Fix X own cc nL d mc ms) (ca sl : Nat) {index : Nat} {y : MethodName} {b : ByteArray} {nL' : Nat} {ret : Option FieldType} {As : List (Nat × Int)} {stA : List (Nat × Int)} {d' mc' ms' : Nat} (hK : ia_K y b nL' ret As Z V d' mc' ms' (ia_ct X (cells + mc') (slots + ms') (pc + 3) ls st Z.2.2)) (hst : stA = As.reverse ++ st)
    (hw : Cond.code y b nL' ret ∈ wU ∧ Cond.methodLink own index y ∈ wU ∧ Cond.static y ∈ wU ∧ Cond.initialized own ∈ wU) (hd : y.cls = own ∧ y.cls ≠ "java/lang/invoke/MethodHandle" ∧ y.cls ≠ "java/lang/invoke/VarHandle" ∧ (parseMethodDescriptor y.desc).map (fun d => d.parameters.length) = some As.length) (hR : d' + 1 ≤ d ∧ nL' ≤ 40 ∧ cells + mc' ≤ mc ∧ slots + ms' ≤ ms ∧ st.length ≤ 4) (dg : decode cc pc = .ok (.invokestatic index, 3)) : ia_G X cells slots pc ls stA Z V :=
  ia_callS F hK hst hw hd hR dg (fun _ _ _ h => h) (fun _ _ _ h => h)
theorem jSN (F : ia_Fix X own cc nL d mc ms) (ca sl : Nat) {index : Nat} {host : String} {y : MethodName} {b : ByteArray} {nL' : Nat} {ret : Option FieldType} {As : List (Nat × Int)} {stA : List (Nat × Int)} {d' mc' ms' : Nat} (hK : ia_K y b nL' ret As Z V d' mc' ms' (ia_ct X (cells + mc') (slots + ms') (pc + 3) ls st Z.2.2)) (hst : stA = As.reverse ++ st)
    (hw : Cond.code y b nL' ret ∈ wU ∧ Cond.methodLinkNest own index y host ∈ ia_nest ∧ Cond.static y ∈ wU ∧ Cond.initialized y.cls ∈ wU) (hd : y.cls ≠ "java/lang/invoke/MethodHandle" ∧ y.cls ≠ "java/lang/invoke/VarHandle" ∧ (parseMethodDescriptor y.desc).map (fun d => d.parameters.length) = some As.length) (hR : d' + 1 ≤ d ∧ nL' ≤ 40 ∧ cells + mc' ≤ mc ∧ slots + ms' ≤ ms ∧ st.length ≤ 4) (dg : decode cc pc = .ok (.invokestatic index, 3)) : ia_G X cells slots pc ls stA Z V :=
  ia_callSN F hK hst hw hd hR dg (fun _ _ _ h => h) (fun _ _ _ h => h)
theorem jV (F : ia_Fix X own cc nL d mc ms) (ca sl : Nat) {index : Nat} {y : MethodName} {b : ByteArray} {nL' : Nat} {ret : Option FieldType} {As : List (Nat × Int)} {stA : List (Nat × Int)} {d' mc' ms' q ci N L : Nat} {T : u_T} (z : q < Z.2.2 ∧ Z.1 q = 10 + ci ∧ Z.2.1 q = L) (hC : vwCl[ci]? = some (y.cls, T, N)) (hK : ia_K y b nL' ret ((4, (q : Int)) :: As) Z V d' mc' ms' (ia_ct X (cells + mc') (slots + ms') (pc + 3) ls st Z.2.2)) (hst : stA = As.reverse ++ (4, (q : Int)) :: st)
    (hw : Cond.code y b nL' ret ∈ wU ∧ Cond.methodLink own index y ∈ wU ∧ Cond.instanceMethod y ∈ wU ∧ Cond.selects y.cls y y ∈ wU ∧ Cond.initialized y.cls ∈ wU) (hd : y.cls ≠ "java/lang/invoke/MethodHandle" ∧ y.cls ≠ "java/lang/invoke/VarHandle" ∧ (parseMethodDescriptor y.desc).map (fun d => d.parameters.length) = some As.length) (hR : d' + 1 ≤ d ∧ nL' ≤ 40 ∧ cells + mc' ≤ mc ∧ slots + ms' ≤ ms ∧ st.length ≤ 4) (dg : decode cc pc = .ok (.invokevirtual index, 3)) : ia_G X cells slots pc ls stA Z V :=
  ia_callV F q hC z.1 z.2.1 hK hst hw hd hR dg (fun _ _ _ h => h) (fun _ _ _ h => h)
theorem jI (F : ia_Fix X own cc nL d mc ms) (ca sl : Nat) {index : Nat} {y : MethodName} {b : ByteArray} {nL' : Nat} {As : List (Nat × Int)} {stA : List (Nat × Int)} {d' mc' ms' : Nat} (q : Nat) (hK : ia_K y b nL' none ((4, (q : Int)) :: As) Z V d' mc' ms' (ia_ct X (cells + mc') (slots + ms') (pc + 3) ls st Z.2.2)) (hst : stA = As.reverse ++ (4, (q : Int)) :: st)
    (hw : Cond.code y b nL' none ∈ wU ∧ Cond.methodLink own index y ∈ wU ∧ Cond.instanceMethod y ∈ wU ∧ Cond.initialized y.cls ∈ wU) (hd : y.name = "<init>" ∧ y.cls ≠ "java/lang/invoke/MethodHandle" ∧ y.cls ≠ "java/lang/invoke/VarHandle" ∧ (parseMethodDescriptor y.desc).map (fun d => d.parameters.length) = some As.length) (hR : d' + 1 ≤ d ∧ nL' ≤ 40 ∧ cells + mc' ≤ mc ∧ slots + ms' ≤ ms ∧ st.length ≤ 4) (dg : decode cc pc = .ok (.invokespecial index, 3)) : ia_G X cells slots pc ls stA Z V :=
  ia_callI F q hK hst hw hd hR dg (fun _ _ _ h => h) (fun _ _ _ h => h)
theorem jIN (F : ia_Fix X own cc nL d mc ms) (ca sl : Nat) {index : Nat} {host : String} {y : MethodName} {b : ByteArray} {nL' : Nat} {As : List (Nat × Int)} {stA : List (Nat × Int)} {d' mc' ms' : Nat} (q : Nat) (hK : ia_K y b nL' none ((4, (q : Int)) :: As) Z V d' mc' ms' (ia_ct X (cells + mc') (slots + ms') (pc + 3) ls st Z.2.2)) (hst : stA = As.reverse ++ (4, (q : Int)) :: st)
    (hw : Cond.code y b nL' none ∈ wU ∧ Cond.methodLinkNest own index y host ∈ ia_nest ∧ Cond.instanceMethod y ∈ wU ∧ Cond.initialized y.cls ∈ wU) (hd : y.name = "<init>" ∧ y.cls ≠ "java/lang/invoke/MethodHandle" ∧ y.cls ≠ "java/lang/invoke/VarHandle" ∧ (parseMethodDescriptor y.desc).map (fun d => d.parameters.length) = some As.length) (hR : d' + 1 ≤ d ∧ nL' ≤ 40 ∧ cells + mc' ≤ mc ∧ slots + ms' ≤ ms ∧ st.length ≤ 4) (dg : decode cc pc = .ok (.invokespecial index, 3)) : ia_G X cells slots pc ls stA Z V :=
  ia_callIN F q hK hst hw hd hR dg (fun _ _ _ h => h) (fun _ _ _ h => h)
end JR
theorem f0_0 : 0 < 4 ∧ ia_tag (ia_ty 0 0) = 4 := ⟨by decide, rfl⟩
theorem f0_1 : 1 < 4 ∧ ia_tag (ia_ty 0 1) = 0 := ⟨by decide, rfl⟩
theorem f0_2 : 2 < 4 ∧ ia_tag (ia_ty 0 2) = 0 := ⟨by decide, rfl⟩
theorem f0_3 : 3 < 4 ∧ ia_tag (ia_ty 0 3) = 0 := ⟨by decide, rfl⟩
theorem f1_0 : 0 < 4 ∧ ia_tag (ia_ty 1 0) = 4 := ⟨by decide, rfl⟩
theorem f1_1 : 1 < 4 ∧ ia_tag (ia_ty 1 1) = 0 := ⟨by decide, rfl⟩
theorem f1_2 : 2 < 4 ∧ ia_tag (ia_ty 1 2) = 0 := ⟨by decide, rfl⟩
theorem f1_3 : 3 < 4 ∧ ia_tag (ia_ty 1 3) = 0 := ⟨by decide, rfl⟩
theorem f4_0 : 0 < 7 ∧ ia_tag (ia_ty 4 0) = 4 := ⟨by decide, rfl⟩
theorem f4_1 : 1 < 7 ∧ ia_tag (ia_ty 4 1) = 4 := ⟨by decide, rfl⟩
theorem f4_2 : 2 < 7 ∧ ia_tag (ia_ty 4 2) = 4 := ⟨by decide, rfl⟩
theorem f4_3 : 3 < 7 ∧ ia_tag (ia_ty 4 3) = 4 := ⟨by decide, rfl⟩
theorem f4_4 : 4 < 7 ∧ ia_tag (ia_ty 4 4) = 0 := ⟨by decide, rfl⟩
theorem f4_5 : 5 < 7 ∧ ia_tag (ia_ty 4 5) = 0 := ⟨by decide, rfl⟩
theorem f4_6 : 6 < 7 ∧ ia_tag (ia_ty 4 6) = 0 := ⟨by decide, rfl⟩
theorem f5_0 : 0 < 6 ∧ ia_tag (ia_ty 5 0) = 4 := ⟨by decide, rfl⟩
theorem f5_1 : 1 < 6 ∧ ia_tag (ia_ty 5 1) = 4 := ⟨by decide, rfl⟩
theorem f5_2 : 2 < 6 ∧ ia_tag (ia_ty 5 2) = 4 := ⟨by decide, rfl⟩
theorem f5_3 : 3 < 6 ∧ ia_tag (ia_ty 5 3) = 4 := ⟨by decide, rfl⟩
theorem f5_4 : 4 < 6 ∧ ia_tag (ia_ty 5 4) = 0 := ⟨by decide, rfl⟩
theorem f5_5 : 5 < 6 ∧ ia_tag (ia_ty 5 5) = 0 := ⟨by decide, rfl⟩
theorem f6_0 : 0 < 3 ∧ ia_tag (ia_ty 6 0) = 4 := ⟨by decide, rfl⟩
theorem f6_1 : 1 < 3 ∧ ia_tag (ia_ty 6 1) = 0 := ⟨by decide, rfl⟩
theorem f6_2 : 2 < 3 ∧ ia_tag (ia_ty 6 2) = 0 := ⟨by decide, rfl⟩
theorem f7_0 : 0 < 3 ∧ ia_tag (ia_ty 7 0) = 4 := ⟨by decide, rfl⟩
theorem f7_1 : 1 < 3 ∧ ia_tag (ia_ty 7 1) = 4 := ⟨by decide, rfl⟩
theorem f7_2 : 2 < 3 ∧ ia_tag (ia_ty 7 2) = 4 := ⟨by decide, rfl⟩
theorem f8_0 : 0 < 1 ∧ ia_tag (ia_ty 8 0) = 4 := ⟨by decide, rfl⟩
theorem f9_0 : 0 < 15 ∧ ia_tag (ia_ty 9 0) = 4 := ⟨by decide, rfl⟩
theorem f9_1 : 1 < 15 ∧ ia_tag (ia_ty 9 1) = 4 := ⟨by decide, rfl⟩
theorem f9_2 : 2 < 15 ∧ ia_tag (ia_ty 9 2) = 4 := ⟨by decide, rfl⟩
theorem f9_3 : 3 < 15 ∧ ia_tag (ia_ty 9 3) = 4 := ⟨by decide, rfl⟩
theorem f9_4 : 4 < 15 ∧ ia_tag (ia_ty 9 4) = 4 := ⟨by decide, rfl⟩
theorem f9_5 : 5 < 15 ∧ ia_tag (ia_ty 9 5) = 4 := ⟨by decide, rfl⟩
theorem f9_6 : 6 < 15 ∧ ia_tag (ia_ty 9 6) = 0 := ⟨by decide, rfl⟩
theorem f9_7 : 7 < 15 ∧ ia_tag (ia_ty 9 7) = 0 := ⟨by decide, rfl⟩
theorem f9_8 : 8 < 15 ∧ ia_tag (ia_ty 9 8) = 0 := ⟨by decide, rfl⟩
theorem f9_9 : 9 < 15 ∧ ia_tag (ia_ty 9 9) = 0 := ⟨by decide, rfl⟩
theorem f9_10 : 10 < 15 ∧ ia_tag (ia_ty 9 10) = 0 := ⟨by decide, rfl⟩
theorem f9_11 : 11 < 15 ∧ ia_tag (ia_ty 9 11) = 0 := ⟨by decide, rfl⟩
theorem f9_12 : 12 < 15 ∧ ia_tag (ia_ty 9 12) = 0 := ⟨by decide, rfl⟩
theorem f9_13 : 13 < 15 ∧ ia_tag (ia_ty 9 13) = 0 := ⟨by decide, rfl⟩
theorem f9_14 : 14 < 15 ∧ ia_tag (ia_ty 9 14) = 1 := ⟨by decide, rfl⟩
theorem f10_0 : 0 < 11 ∧ ia_tag (ia_ty 10 0) = 4 := ⟨by decide, rfl⟩
theorem f10_1 : 1 < 11 ∧ ia_tag (ia_ty 10 1) = 4 := ⟨by decide, rfl⟩
theorem f10_2 : 2 < 11 ∧ ia_tag (ia_ty 10 2) = 4 := ⟨by decide, rfl⟩
theorem f10_3 : 3 < 11 ∧ ia_tag (ia_ty 10 3) = 4 := ⟨by decide, rfl⟩
theorem f10_4 : 4 < 11 ∧ ia_tag (ia_ty 10 4) = 4 := ⟨by decide, rfl⟩
theorem f10_5 : 5 < 11 ∧ ia_tag (ia_ty 10 5) = 4 := ⟨by decide, rfl⟩
theorem f10_6 : 6 < 11 ∧ ia_tag (ia_ty 10 6) = 4 := ⟨by decide, rfl⟩
theorem f10_7 : 7 < 11 ∧ ia_tag (ia_ty 10 7) = 4 := ⟨by decide, rfl⟩
theorem f10_8 : 8 < 11 ∧ ia_tag (ia_ty 10 8) = 0 := ⟨by decide, rfl⟩
theorem f10_9 : 9 < 11 ∧ ia_tag (ia_ty 10 9) = 0 := ⟨by decide, rfl⟩
theorem f10_10 : 10 < 11 ∧ ia_tag (ia_ty 10 10) = 0 := ⟨by decide, rfl⟩
theorem f11_0 : 0 < 25 ∧ ia_tag (ia_ty 11 0) = 4 := ⟨by decide, rfl⟩
theorem f11_1 : 1 < 25 ∧ ia_tag (ia_ty 11 1) = 4 := ⟨by decide, rfl⟩
theorem f11_2 : 2 < 25 ∧ ia_tag (ia_ty 11 2) = 4 := ⟨by decide, rfl⟩
theorem f11_3 : 3 < 25 ∧ ia_tag (ia_ty 11 3) = 4 := ⟨by decide, rfl⟩
theorem f11_4 : 4 < 25 ∧ ia_tag (ia_ty 11 4) = 4 := ⟨by decide, rfl⟩
theorem f11_5 : 5 < 25 ∧ ia_tag (ia_ty 11 5) = 4 := ⟨by decide, rfl⟩
theorem f11_6 : 6 < 25 ∧ ia_tag (ia_ty 11 6) = 4 := ⟨by decide, rfl⟩
theorem f11_7 : 7 < 25 ∧ ia_tag (ia_ty 11 7) = 4 := ⟨by decide, rfl⟩
theorem f11_8 : 8 < 25 ∧ ia_tag (ia_ty 11 8) = 4 := ⟨by decide, rfl⟩
theorem f11_9 : 9 < 25 ∧ ia_tag (ia_ty 11 9) = 0 := ⟨by decide, rfl⟩
theorem f11_10 : 10 < 25 ∧ ia_tag (ia_ty 11 10) = 0 := ⟨by decide, rfl⟩
theorem f11_11 : 11 < 25 ∧ ia_tag (ia_ty 11 11) = 0 := ⟨by decide, rfl⟩
theorem f11_12 : 12 < 25 ∧ ia_tag (ia_ty 11 12) = 0 := ⟨by decide, rfl⟩
theorem f11_13 : 13 < 25 ∧ ia_tag (ia_ty 11 13) = 0 := ⟨by decide, rfl⟩
theorem f11_14 : 14 < 25 ∧ ia_tag (ia_ty 11 14) = 4 := ⟨by decide, rfl⟩
theorem f11_15 : 15 < 25 ∧ ia_tag (ia_ty 11 15) = 0 := ⟨by decide, rfl⟩
theorem f11_16 : 16 < 25 ∧ ia_tag (ia_ty 11 16) = 4 := ⟨by decide, rfl⟩
theorem f11_17 : 17 < 25 ∧ ia_tag (ia_ty 11 17) = 4 := ⟨by decide, rfl⟩
theorem f11_18 : 18 < 25 ∧ ia_tag (ia_ty 11 18) = 4 := ⟨by decide, rfl⟩
theorem f11_19 : 19 < 25 ∧ ia_tag (ia_ty 11 19) = 4 := ⟨by decide, rfl⟩
theorem f11_20 : 20 < 25 ∧ ia_tag (ia_ty 11 20) = 0 := ⟨by decide, rfl⟩
theorem f11_21 : 21 < 25 ∧ ia_tag (ia_ty 11 21) = 0 := ⟨by decide, rfl⟩
theorem f11_22 : 22 < 25 ∧ ia_tag (ia_ty 11 22) = 0 := ⟨by decide, rfl⟩
theorem f11_23 : 23 < 25 ∧ ia_tag (ia_ty 11 23) = 0 := ⟨by decide, rfl⟩
theorem f11_24 : 24 < 25 ∧ ia_tag (ia_ty 11 24) = 0 := ⟨by decide, rfl⟩
