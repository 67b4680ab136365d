/-! places, shape and pointers of the run's own objects (made by wip/whole/mkbase.py) -/
def kdL : List Nat := [20, 19, 0, 0, 0, 0, 0, 0, 19, 0, 0, 0, 0, 0, 0, 16, 4, 19, 0, 0, 0, 0, 0, 0, 19, 0, 0, 0, 0, 0, 0, 19, 0, 0, 0, 0, 0, 0, 19, 0, 0, 0, 0, 0, 0, 19, 0, 0, 0, 0, 0, 0, 19, 0, 0, 0, 0, 0, 0, 19, 0, 0, 0, 0, 0, 0, 19, 0, 0, 0, 0, 0, 0, 19, 0, 0, 0, 0, 0, 0, 14, 0, 0, 0, 0, 18, 0, 17, 0, 0, 0, 15, 11, 3, 5, 0, 0, 11, 3, 21, 0, 0, 0, 0, 0, 0, 0, 0, 0, 0, 0, 0, 0, 0, 1, 2]
def lnL : List Nat := [0, 0, 10, 7, 7, 7, 12, 12, 0, 10, 7, 7, 7, 12, 12, 0, 9, 0, 10, 7, 7, 7, 12, 12, 0, 10, 7, 7, 7, 12, 12, 0, 10, 7, 7, 7, 12, 12, 0, 10, 7, 7, 7, 12, 12, 0, 10, 7, 7, 7, 12, 12, 0, 10, 7, 7, 7, 12, 12, 0, 10, 7, 7, 7, 12, 12, 0, 10, 7, 7, 7, 12, 12, 0, 10, 7, 7, 7, 12, 12, 0, 7, 7, 896, 7, 0, 7, 0, 12, 12, 12, 0, 0, 16, 16, 16, 16, 0, 16, 0, 72, 72, 72, 576, 1024, 7, 12, 12, 7, 80, 60, 32, 32, 32, 1, 1]
def ZI (Z : ia_Z) : Prop := 116 ≤ Z.2.2 ∧ Z.2.2 ≤ 900000 ∧ ∀ k, k < 116 → Z.1 k = kdL.getD k 0 ∧ Z.2.1 k = lnL.getD k 0
theorem z0 {Z : ia_Z} (h : ZI Z) : 0 < Z.2.2 ∧ Z.1 0 = 20 ∧ Z.2.1 0 = 0 := ⟨Nat.lt_of_lt_of_le (by decide) h.1, h.2.2 0 (by decide)⟩
theorem z1 {Z : ia_Z} (h : ZI Z) : 1 < Z.2.2 ∧ Z.1 1 = 19 ∧ Z.2.1 1 = 0 := ⟨Nat.lt_of_lt_of_le (by decide) h.1, h.2.2 1 (by decide)⟩
theorem z2 {Z : ia_Z} (h : ZI Z) : 2 < Z.2.2 ∧ Z.1 2 = 0 ∧ Z.2.1 2 = 10 := ⟨Nat.lt_of_lt_of_le (by decide) h.1, h.2.2 2 (by decide)⟩
theorem z3 {Z : ia_Z} (h : ZI Z) : 3 < Z.2.2 ∧ Z.1 3 = 0 ∧ Z.2.1 3 = 7 := ⟨Nat.lt_of_lt_of_le (by decide) h.1, h.2.2 3 (by decide)⟩
theorem z4 {Z : ia_Z} (h : ZI Z) : 4 < Z.2.2 ∧ Z.1 4 = 0 ∧ Z.2.1 4 = 7 := ⟨Nat.lt_of_lt_of_le (by decide) h.1, h.2.2 4 (by decide)⟩
theorem z5 {Z : ia_Z} (h : ZI Z) : 5 < Z.2.2 ∧ Z.1 5 = 0 ∧ Z.2.1 5 = 7 := ⟨Nat.lt_of_lt_of_le (by decide) h.1, h.2.2 5 (by decide)⟩
theorem z6 {Z : ia_Z} (h : ZI Z) : 6 < Z.2.2 ∧ Z.1 6 = 0 ∧ Z.2.1 6 = 12 := ⟨Nat.lt_of_lt_of_le (by decide) h.1, h.2.2 6 (by decide)⟩
theorem z7 {Z : ia_Z} (h : ZI Z) : 7 < Z.2.2 ∧ Z.1 7 = 0 ∧ Z.2.1 7 = 12 := ⟨Nat.lt_of_lt_of_le (by decide) h.1, h.2.2 7 (by decide)⟩
theorem z8 {Z : ia_Z} (h : ZI Z) : 8 < Z.2.2 ∧ Z.1 8 = 19 ∧ Z.2.1 8 = 0 := ⟨Nat.lt_of_lt_of_le (by decide) h.1, h.2.2 8 (by decide)⟩
theorem z9 {Z : ia_Z} (h : ZI Z) : 9 < Z.2.2 ∧ Z.1 9 = 0 ∧ Z.2.1 9 = 10 := ⟨Nat.lt_of_lt_of_le (by decide) h.1, h.2.2 9 (by decide)⟩
theorem z10 {Z : ia_Z} (h : ZI Z) : 10 < Z.2.2 ∧ Z.1 10 = 0 ∧ Z.2.1 10 = 7 := ⟨Nat.lt_of_lt_of_le (by decide) h.1, h.2.2 10 (by decide)⟩
theorem z11 {Z : ia_Z} (h : ZI Z) : 11 < Z.2.2 ∧ Z.1 11 = 0 ∧ Z.2.1 11 = 7 := ⟨Nat.lt_of_lt_of_le (by decide) h.1, h.2.2 11 (by decide)⟩
theorem z12 {Z : ia_Z} (h : ZI Z) : 12 < Z.2.2 ∧ Z.1 12 = 0 ∧ Z.2.1 12 = 7 := ⟨Nat.lt_of_lt_of_le (by decide) h.1, h.2.2 12 (by decide)⟩
theorem z13 {Z : ia_Z} (h : ZI Z) : 13 < Z.2.2 ∧ Z.1 13 = 0 ∧ Z.2.1 13 = 12 := ⟨Nat.lt_of_lt_of_le (by decide) h.1, h.2.2 13 (by decide)⟩
theorem z14 {Z : ia_Z} (h : ZI Z) : 14 < Z.2.2 ∧ Z.1 14 = 0 ∧ Z.2.1 14 = 12 := ⟨Nat.lt_of_lt_of_le (by decide) h.1, h.2.2 14 (by decide)⟩
theorem z15 {Z : ia_Z} (h : ZI Z) : 15 < Z.2.2 ∧ Z.1 15 = 16 ∧ Z.2.1 15 = 0 := ⟨Nat.lt_of_lt_of_le (by decide) h.1, h.2.2 15 (by decide)⟩
theorem z16 {Z : ia_Z} (h : ZI Z) : 16 < Z.2.2 ∧ Z.1 16 = 4 ∧ Z.2.1 16 = 9 := ⟨Nat.lt_of_lt_of_le (by decide) h.1, h.2.2 16 (by decide)⟩
theorem z17 {Z : ia_Z} (h : ZI Z) : 17 < Z.2.2 ∧ Z.1 17 = 19 ∧ Z.2.1 17 = 0 := ⟨Nat.lt_of_lt_of_le (by decide) h.1, h.2.2 17 (by decide)⟩
theorem z18 {Z : ia_Z} (h : ZI Z) : 18 < Z.2.2 ∧ Z.1 18 = 0 ∧ Z.2.1 18 = 10 := ⟨Nat.lt_of_lt_of_le (by decide) h.1, h.2.2 18 (by decide)⟩
theorem z19 {Z : ia_Z} (h : ZI Z) : 19 < Z.2.2 ∧ Z.1 19 = 0 ∧ Z.2.1 19 = 7 := ⟨Nat.lt_of_lt_of_le (by decide) h.1, h.2.2 19 (by decide)⟩
theorem z20 {Z : ia_Z} (h : ZI Z) : 20 < Z.2.2 ∧ Z.1 20 = 0 ∧ Z.2.1 20 = 7 := ⟨Nat.lt_of_lt_of_le (by decide) h.1, h.2.2 20 (by decide)⟩
theorem z21 {Z : ia_Z} (h : ZI Z) : 21 < Z.2.2 ∧ Z.1 21 = 0 ∧ Z.2.1 21 = 7 := ⟨Nat.lt_of_lt_of_le (by decide) h.1, h.2.2 21 (by decide)⟩
theorem z22 {Z : ia_Z} (h : ZI Z) : 22 < Z.2.2 ∧ Z.1 22 = 0 ∧ Z.2.1 22 = 12 := ⟨Nat.lt_of_lt_of_le (by decide) h.1, h.2.2 22 (by decide)⟩
theorem z23 {Z : ia_Z} (h : ZI Z) : 23 < Z.2.2 ∧ Z.1 23 = 0 ∧ Z.2.1 23 = 12 := ⟨Nat.lt_of_lt_of_le (by decide) h.1, h.2.2 23 (by decide)⟩
theorem z24 {Z : ia_Z} (h : ZI Z) : 24 < Z.2.2 ∧ Z.1 24 = 19 ∧ Z.2.1 24 = 0 := ⟨Nat.lt_of_lt_of_le (by decide) h.1, h.2.2 24 (by decide)⟩
theorem z25 {Z : ia_Z} (h : ZI Z) : 25 < Z.2.2 ∧ Z.1 25 = 0 ∧ Z.2.1 25 = 10 := ⟨Nat.lt_of_lt_of_le (by decide) h.1, h.2.2 25 (by decide)⟩
theorem z26 {Z : ia_Z} (h : ZI Z) : 26 < Z.2.2 ∧ Z.1 26 = 0 ∧ Z.2.1 26 = 7 := ⟨Nat.lt_of_lt_of_le (by decide) h.1, h.2.2 26 (by decide)⟩
theorem z27 {Z : ia_Z} (h : ZI Z) : 27 < Z.2.2 ∧ Z.1 27 = 0 ∧ Z.2.1 27 = 7 := ⟨Nat.lt_of_lt_of_le (by decide) h.1, h.2.2 27 (by decide)⟩
theorem z28 {Z : ia_Z} (h : ZI Z) : 28 < Z.2.2 ∧ Z.1 28 = 0 ∧ Z.2.1 28 = 7 := ⟨Nat.lt_of_lt_of_le (by decide) h.1, h.2.2 28 (by decide)⟩
theorem z29 {Z : ia_Z} (h : ZI Z) : 29 < Z.2.2 ∧ Z.1 29 = 0 ∧ Z.2.1 29 = 12 := ⟨Nat.lt_of_lt_of_le (by decide) h.1, h.2.2 29 (by decide)⟩
theorem z30 {Z : ia_Z} (h : ZI Z) : 30 < Z.2.2 ∧ Z.1 30 = 0 ∧ Z.2.1 30 = 12 := ⟨Nat.lt_of_lt_of_le (by decide) h.1, h.2.2 30 (by decide)⟩
theorem z31 {Z : ia_Z} (h : ZI Z) : 31 < Z.2.2 ∧ Z.1 31 = 19 ∧ Z.2.1 31 = 0 := ⟨Nat.lt_of_lt_of_le (by decide) h.1, h.2.2 31 (by decide)⟩
theorem z32 {Z : ia_Z} (h : ZI Z) : 32 < Z.2.2 ∧ Z.1 32 = 0 ∧ Z.2.1 32 = 10 := ⟨Nat.lt_of_lt_of_le (by decide) h.1, h.2.2 32 (by decide)⟩
theorem z33 {Z : ia_Z} (h : ZI Z) : 33 < Z.2.2 ∧ Z.1 33 = 0 ∧ Z.2.1 33 = 7 := ⟨Nat.lt_of_lt_of_le (by decide) h.1, h.2.2 33 (by decide)⟩
theorem z34 {Z : ia_Z} (h : ZI Z) : 34 < Z.2.2 ∧ Z.1 34 = 0 ∧ Z.2.1 34 = 7 := ⟨Nat.lt_of_lt_of_le (by decide) h.1, h.2.2 34 (by decide)⟩
theorem z35 {Z : ia_Z} (h : ZI Z) : 35 < Z.2.2 ∧ Z.1 35 = 0 ∧ Z.2.1 35 = 7 := ⟨Nat.lt_of_lt_of_le (by decide) h.1, h.2.2 35 (by decide)⟩
theorem z36 {Z : ia_Z} (h : ZI Z) : 36 < Z.2.2 ∧ Z.1 36 = 0 ∧ Z.2.1 36 = 12 := ⟨Nat.lt_of_lt_of_le (by decide) h.1, h.2.2 36 (by decide)⟩
theorem z37 {Z : ia_Z} (h : ZI Z) : 37 < Z.2.2 ∧ Z.1 37 = 0 ∧ Z.2.1 37 = 12 := ⟨Nat.lt_of_lt_of_le (by decide) h.1, h.2.2 37 (by decide)⟩
theorem z38 {Z : ia_Z} (h : ZI Z) : 38 < Z.2.2 ∧ Z.1 38 = 19 ∧ Z.2.1 38 = 0 := ⟨Nat.lt_of_lt_of_le (by decide) h.1, h.2.2 38 (by decide)⟩
theorem z39 {Z : ia_Z} (h : ZI Z) : 39 < Z.2.2 ∧ Z.1 39 = 0 ∧ Z.2.1 39 = 10 := ⟨Nat.lt_of_lt_of_le (by decide) h.1, h.2.2 39 (by decide)⟩
theorem z40 {Z : ia_Z} (h : ZI Z) : 40 < Z.2.2 ∧ Z.1 40 = 0 ∧ Z.2.1 40 = 7 := ⟨Nat.lt_of_lt_of_le (by decide) h.1, h.2.2 40 (by decide)⟩
theorem z41 {Z : ia_Z} (h : ZI Z) : 41 < Z.2.2 ∧ Z.1 41 = 0 ∧ Z.2.1 41 = 7 := ⟨Nat.lt_of_lt_of_le (by decide) h.1, h.2.2 41 (by decide)⟩
theorem z42 {Z : ia_Z} (h : ZI Z) : 42 < Z.2.2 ∧ Z.1 42 = 0 ∧ Z.2.1 42 = 7 := ⟨Nat.lt_of_lt_of_le (by decide) h.1, h.2.2 42 (by decide)⟩
theorem z43 {Z : ia_Z} (h : ZI Z) : 43 < Z.2.2 ∧ Z.1 43 = 0 ∧ Z.2.1 43 = 12 := ⟨Nat.lt_of_lt_of_le (by decide) h.1, h.2.2 43 (by decide)⟩
theorem z44 {Z : ia_Z} (h : ZI Z) : 44 < Z.2.2 ∧ Z.1 44 = 0 ∧ Z.2.1 44 = 12 := ⟨Nat.lt_of_lt_of_le (by decide) h.1, h.2.2 44 (by decide)⟩
theorem z45 {Z : ia_Z} (h : ZI Z) : 45 < Z.2.2 ∧ Z.1 45 = 19 ∧ Z.2.1 45 = 0 := ⟨Nat.lt_of_lt_of_le (by decide) h.1, h.2.2 45 (by decide)⟩
theorem z46 {Z : ia_Z} (h : ZI Z) : 46 < Z.2.2 ∧ Z.1 46 = 0 ∧ Z.2.1 46 = 10 := ⟨Nat.lt_of_lt_of_le (by decide) h.1, h.2.2 46 (by decide)⟩
theorem z47 {Z : ia_Z} (h : ZI Z) : 47 < Z.2.2 ∧ Z.1 47 = 0 ∧ Z.2.1 47 = 7 := ⟨Nat.lt_of_lt_of_le (by decide) h.1, h.2.2 47 (by decide)⟩
theorem z48 {Z : ia_Z} (h : ZI Z) : 48 < Z.2.2 ∧ Z.1 48 = 0 ∧ Z.2.1 48 = 7 := ⟨Nat.lt_of_lt_of_le (by decide) h.1, h.2.2 48 (by decide)⟩
theorem z49 {Z : ia_Z} (h : ZI Z) : 49 < Z.2.2 ∧ Z.1 49 = 0 ∧ Z.2.1 49 = 7 := ⟨Nat.lt_of_lt_of_le (by decide) h.1, h.2.2 49 (by decide)⟩
theorem z50 {Z : ia_Z} (h : ZI Z) : 50 < Z.2.2 ∧ Z.1 50 = 0 ∧ Z.2.1 50 = 12 := ⟨Nat.lt_of_lt_of_le (by decide) h.1, h.2.2 50 (by decide)⟩
theorem z51 {Z : ia_Z} (h : ZI Z) : 51 < Z.2.2 ∧ Z.1 51 = 0 ∧ Z.2.1 51 = 12 := ⟨Nat.lt_of_lt_of_le (by decide) h.1, h.2.2 51 (by decide)⟩
theorem z52 {Z : ia_Z} (h : ZI Z) : 52 < Z.2.2 ∧ Z.1 52 = 19 ∧ Z.2.1 52 = 0 := ⟨Nat.lt_of_lt_of_le (by decide) h.1, h.2.2 52 (by decide)⟩
theorem z53 {Z : ia_Z} (h : ZI Z) : 53 < Z.2.2 ∧ Z.1 53 = 0 ∧ Z.2.1 53 = 10 := ⟨Nat.lt_of_lt_of_le (by decide) h.1, h.2.2 53 (by decide)⟩
theorem z54 {Z : ia_Z} (h : ZI Z) : 54 < Z.2.2 ∧ Z.1 54 = 0 ∧ Z.2.1 54 = 7 := ⟨Nat.lt_of_lt_of_le (by decide) h.1, h.2.2 54 (by decide)⟩
theorem z55 {Z : ia_Z} (h : ZI Z) : 55 < Z.2.2 ∧ Z.1 55 = 0 ∧ Z.2.1 55 = 7 := ⟨Nat.lt_of_lt_of_le (by decide) h.1, h.2.2 55 (by decide)⟩
theorem z56 {Z : ia_Z} (h : ZI Z) : 56 < Z.2.2 ∧ Z.1 56 = 0 ∧ Z.2.1 56 = 7 := ⟨Nat.lt_of_lt_of_le (by decide) h.1, h.2.2 56 (by decide)⟩
theorem z57 {Z : ia_Z} (h : ZI Z) : 57 < Z.2.2 ∧ Z.1 57 = 0 ∧ Z.2.1 57 = 12 := ⟨Nat.lt_of_lt_of_le (by decide) h.1, h.2.2 57 (by decide)⟩
theorem z58 {Z : ia_Z} (h : ZI Z) : 58 < Z.2.2 ∧ Z.1 58 = 0 ∧ Z.2.1 58 = 12 := ⟨Nat.lt_of_lt_of_le (by decide) h.1, h.2.2 58 (by decide)⟩
theorem z59 {Z : ia_Z} (h : ZI Z) : 59 < Z.2.2 ∧ Z.1 59 = 19 ∧ Z.2.1 59 = 0 := ⟨Nat.lt_of_lt_of_le (by decide) h.1, h.2.2 59 (by decide)⟩
theorem z60 {Z : ia_Z} (h : ZI Z) : 60 < Z.2.2 ∧ Z.1 60 = 0 ∧ Z.2.1 60 = 10 := ⟨Nat.lt_of_lt_of_le (by decide) h.1, h.2.2 60 (by decide)⟩
theorem z61 {Z : ia_Z} (h : ZI Z) : 61 < Z.2.2 ∧ Z.1 61 = 0 ∧ Z.2.1 61 = 7 := ⟨Nat.lt_of_lt_of_le (by decide) h.1, h.2.2 61 (by decide)⟩
theorem z62 {Z : ia_Z} (h : ZI Z) : 62 < Z.2.2 ∧ Z.1 62 = 0 ∧ Z.2.1 62 = 7 := ⟨Nat.lt_of_lt_of_le (by decide) h.1, h.2.2 62 (by decide)⟩
theorem z63 {Z : ia_Z} (h : ZI Z) : 63 < Z.2.2 ∧ Z.1 63 = 0 ∧ Z.2.1 63 = 7 := ⟨Nat.lt_of_lt_of_le (by decide) h.1, h.2.2 63 (by decide)⟩
theorem z64 {Z : ia_Z} (h : ZI Z) : 64 < Z.2.2 ∧ Z.1 64 = 0 ∧ Z.2.1 64 = 12 := ⟨Nat.lt_of_lt_of_le (by decide) h.1, h.2.2 64 (by decide)⟩
theorem z65 {Z : ia_Z} (h : ZI Z) : 65 < Z.2.2 ∧ Z.1 65 = 0 ∧ Z.2.1 65 = 12 := ⟨Nat.lt_of_lt_of_le (by decide) h.1, h.2.2 65 (by decide)⟩
theorem z66 {Z : ia_Z} (h : ZI Z) : 66 < Z.2.2 ∧ Z.1 66 = 19 ∧ Z.2.1 66 = 0 := ⟨Nat.lt_of_lt_of_le (by decide) h.1, h.2.2 66 (by decide)⟩
theorem z67 {Z : ia_Z} (h : ZI Z) : 67 < Z.2.2 ∧ Z.1 67 = 0 ∧ Z.2.1 67 = 10 := ⟨Nat.lt_of_lt_of_le (by decide) h.1, h.2.2 67 (by decide)⟩
theorem z68 {Z : ia_Z} (h : ZI Z) : 68 < Z.2.2 ∧ Z.1 68 = 0 ∧ Z.2.1 68 = 7 := ⟨Nat.lt_of_lt_of_le (by decide) h.1, h.2.2 68 (by decide)⟩
theorem z69 {Z : ia_Z} (h : ZI Z) : 69 < Z.2.2 ∧ Z.1 69 = 0 ∧ Z.2.1 69 = 7 := ⟨Nat.lt_of_lt_of_le (by decide) h.1, h.2.2 69 (by decide)⟩
theorem z70 {Z : ia_Z} (h : ZI Z) : 70 < Z.2.2 ∧ Z.1 70 = 0 ∧ Z.2.1 70 = 7 := ⟨Nat.lt_of_lt_of_le (by decide) h.1, h.2.2 70 (by decide)⟩
theorem z71 {Z : ia_Z} (h : ZI Z) : 71 < Z.2.2 ∧ Z.1 71 = 0 ∧ Z.2.1 71 = 12 := ⟨Nat.lt_of_lt_of_le (by decide) h.1, h.2.2 71 (by decide)⟩
theorem z72 {Z : ia_Z} (h : ZI Z) : 72 < Z.2.2 ∧ Z.1 72 = 0 ∧ Z.2.1 72 = 12 := ⟨Nat.lt_of_lt_of_le (by decide) h.1, h.2.2 72 (by decide)⟩
theorem z73 {Z : ia_Z} (h : ZI Z) : 73 < Z.2.2 ∧ Z.1 73 = 19 ∧ Z.2.1 73 = 0 := ⟨Nat.lt_of_lt_of_le (by decide) h.1, h.2.2 73 (by decide)⟩
theorem z74 {Z : ia_Z} (h : ZI Z) : 74 < Z.2.2 ∧ Z.1 74 = 0 ∧ Z.2.1 74 = 10 := ⟨Nat.lt_of_lt_of_le (by decide) h.1, h.2.2 74 (by decide)⟩
theorem z75 {Z : ia_Z} (h : ZI Z) : 75 < Z.2.2 ∧ Z.1 75 = 0 ∧ Z.2.1 75 = 7 := ⟨Nat.lt_of_lt_of_le (by decide) h.1, h.2.2 75 (by decide)⟩
theorem z76 {Z : ia_Z} (h : ZI Z) : 76 < Z.2.2 ∧ Z.1 76 = 0 ∧ Z.2.1 76 = 7 := ⟨Nat.lt_of_lt_of_le (by decide) h.1, h.2.2 76 (by decide)⟩
theorem z77 {Z : ia_Z} (h : ZI Z) : 77 < Z.2.2 ∧ Z.1 77 = 0 ∧ Z.2.1 77 = 7 := ⟨Nat.lt_of_lt_of_le (by decide) h.1, h.2.2 77 (by decide)⟩
theorem z78 {Z : ia_Z} (h : ZI Z) : 78 < Z.2.2 ∧ Z.1 78 = 0 ∧ Z.2.1 78 = 12 := ⟨Nat.lt_of_lt_of_le (by decide) h.1, h.2.2 78 (by decide)⟩
theorem z79 {Z : ia_Z} (h : ZI Z) : 79 < Z.2.2 ∧ Z.1 79 = 0 ∧ Z.2.1 79 = 12 := ⟨Nat.lt_of_lt_of_le (by decide) h.1, h.2.2 79 (by decide)⟩
theorem z80 {Z : ia_Z} (h : ZI Z) : 80 < Z.2.2 ∧ Z.1 80 = 14 ∧ Z.2.1 80 = 0 := ⟨Nat.lt_of_lt_of_le (by decide) h.1, h.2.2 80 (by decide)⟩
theorem z81 {Z : ia_Z} (h : ZI Z) : 81 < Z.2.2 ∧ Z.1 81 = 0 ∧ Z.2.1 81 = 7 := ⟨Nat.lt_of_lt_of_le (by decide) h.1, h.2.2 81 (by decide)⟩
theorem z82 {Z : ia_Z} (h : ZI Z) : 82 < Z.2.2 ∧ Z.1 82 = 0 ∧ Z.2.1 82 = 7 := ⟨Nat.lt_of_lt_of_le (by decide) h.1, h.2.2 82 (by decide)⟩
theorem z83 {Z : ia_Z} (h : ZI Z) : 83 < Z.2.2 ∧ Z.1 83 = 0 ∧ Z.2.1 83 = 896 := ⟨Nat.lt_of_lt_of_le (by decide) h.1, h.2.2 83 (by decide)⟩
theorem z84 {Z : ia_Z} (h : ZI Z) : 84 < Z.2.2 ∧ Z.1 84 = 0 ∧ Z.2.1 84 = 7 := ⟨Nat.lt_of_lt_of_le (by decide) h.1, h.2.2 84 (by decide)⟩
theorem z85 {Z : ia_Z} (h : ZI Z) : 85 < Z.2.2 ∧ Z.1 85 = 18 ∧ Z.2.1 85 = 0 := ⟨Nat.lt_of_lt_of_le (by decide) h.1, h.2.2 85 (by decide)⟩
theorem z86 {Z : ia_Z} (h : ZI Z) : 86 < Z.2.2 ∧ Z.1 86 = 0 ∧ Z.2.1 86 = 7 := ⟨Nat.lt_of_lt_of_le (by decide) h.1, h.2.2 86 (by decide)⟩
theorem z87 {Z : ia_Z} (h : ZI Z) : 87 < Z.2.2 ∧ Z.1 87 = 17 ∧ Z.2.1 87 = 0 := ⟨Nat.lt_of_lt_of_le (by decide) h.1, h.2.2 87 (by decide)⟩
theorem z88 {Z : ia_Z} (h : ZI Z) : 88 < Z.2.2 ∧ Z.1 88 = 0 ∧ Z.2.1 88 = 12 := ⟨Nat.lt_of_lt_of_le (by decide) h.1, h.2.2 88 (by decide)⟩
theorem z89 {Z : ia_Z} (h : ZI Z) : 89 < Z.2.2 ∧ Z.1 89 = 0 ∧ Z.2.1 89 = 12 := ⟨Nat.lt_of_lt_of_le (by decide) h.1, h.2.2 89 (by decide)⟩
theorem z90 {Z : ia_Z} (h : ZI Z) : 90 < Z.2.2 ∧ Z.1 90 = 0 ∧ Z.2.1 90 = 12 := ⟨Nat.lt_of_lt_of_le (by decide) h.1, h.2.2 90 (by decide)⟩
theorem z91 {Z : ia_Z} (h : ZI Z) : 91 < Z.2.2 ∧ Z.1 91 = 15 ∧ Z.2.1 91 = 0 := ⟨Nat.lt_of_lt_of_le (by decide) h.1, h.2.2 91 (by decide)⟩
theorem z92 {Z : ia_Z} (h : ZI Z) : 92 < Z.2.2 ∧ Z.1 92 = 11 ∧ Z.2.1 92 = 0 := ⟨Nat.lt_of_lt_of_le (by decide) h.1, h.2.2 92 (by decide)⟩
theorem z93 {Z : ia_Z} (h : ZI Z) : 93 < Z.2.2 ∧ Z.1 93 = 3 ∧ Z.2.1 93 = 16 := ⟨Nat.lt_of_lt_of_le (by decide) h.1, h.2.2 93 (by decide)⟩
theorem z94 {Z : ia_Z} (h : ZI Z) : 94 < Z.2.2 ∧ Z.1 94 = 5 ∧ Z.2.1 94 = 16 := ⟨Nat.lt_of_lt_of_le (by decide) h.1, h.2.2 94 (by decide)⟩
theorem z95 {Z : ia_Z} (h : ZI Z) : 95 < Z.2.2 ∧ Z.1 95 = 0 ∧ Z.2.1 95 = 16 := ⟨Nat.lt_of_lt_of_le (by decide) h.1, h.2.2 95 (by decide)⟩
theorem z96 {Z : ia_Z} (h : ZI Z) : 96 < Z.2.2 ∧ Z.1 96 = 0 ∧ Z.2.1 96 = 16 := ⟨Nat.lt_of_lt_of_le (by decide) h.1, h.2.2 96 (by decide)⟩
theorem z97 {Z : ia_Z} (h : ZI Z) : 97 < Z.2.2 ∧ Z.1 97 = 11 ∧ Z.2.1 97 = 0 := ⟨Nat.lt_of_lt_of_le (by decide) h.1, h.2.2 97 (by decide)⟩
theorem z98 {Z : ia_Z} (h : ZI Z) : 98 < Z.2.2 ∧ Z.1 98 = 3 ∧ Z.2.1 98 = 16 := ⟨Nat.lt_of_lt_of_le (by decide) h.1, h.2.2 98 (by decide)⟩
theorem z99 {Z : ia_Z} (h : ZI Z) : 99 < Z.2.2 ∧ Z.1 99 = 21 ∧ Z.2.1 99 = 0 := ⟨Nat.lt_of_lt_of_le (by decide) h.1, h.2.2 99 (by decide)⟩
theorem z100 {Z : ia_Z} (h : ZI Z) : 100 < Z.2.2 ∧ Z.1 100 = 0 ∧ Z.2.1 100 = 72 := ⟨Nat.lt_of_lt_of_le (by decide) h.1, h.2.2 100 (by decide)⟩
theorem z101 {Z : ia_Z} (h : ZI Z) : 101 < Z.2.2 ∧ Z.1 101 = 0 ∧ Z.2.1 101 = 72 := ⟨Nat.lt_of_lt_of_le (by decide) h.1, h.2.2 101 (by decide)⟩
theorem z102 {Z : ia_Z} (h : ZI Z) : 102 < Z.2.2 ∧ Z.1 102 = 0 ∧ Z.2.1 102 = 72 := ⟨Nat.lt_of_lt_of_le (by decide) h.1, h.2.2 102 (by decide)⟩
theorem z103 {Z : ia_Z} (h : ZI Z) : 103 < Z.2.2 ∧ Z.1 103 = 0 ∧ Z.2.1 103 = 576 := ⟨Nat.lt_of_lt_of_le (by decide) h.1, h.2.2 103 (by decide)⟩
theorem z104 {Z : ia_Z} (h : ZI Z) : 104 < Z.2.2 ∧ Z.1 104 = 0 ∧ Z.2.1 104 = 1024 := ⟨Nat.lt_of_lt_of_le (by decide) h.1, h.2.2 104 (by decide)⟩
theorem z105 {Z : ia_Z} (h : ZI Z) : 105 < Z.2.2 ∧ Z.1 105 = 0 ∧ Z.2.1 105 = 7 := ⟨Nat.lt_of_lt_of_le (by decide) h.1, h.2.2 105 (by decide)⟩
theorem z106 {Z : ia_Z} (h : ZI Z) : 106 < Z.2.2 ∧ Z.1 106 = 0 ∧ Z.2.1 106 = 12 := ⟨Nat.lt_of_lt_of_le (by decide) h.1, h.2.2 106 (by decide)⟩
theorem z107 {Z : ia_Z} (h : ZI Z) : 107 < Z.2.2 ∧ Z.1 107 = 0 ∧ Z.2.1 107 = 12 := ⟨Nat.lt_of_lt_of_le (by decide) h.1, h.2.2 107 (by decide)⟩
theorem z108 {Z : ia_Z} (h : ZI Z) : 108 < Z.2.2 ∧ Z.1 108 = 0 ∧ Z.2.1 108 = 7 := ⟨Nat.lt_of_lt_of_le (by decide) h.1, h.2.2 108 (by decide)⟩
theorem z109 {Z : ia_Z} (h : ZI Z) : 109 < Z.2.2 ∧ Z.1 109 = 0 ∧ Z.2.1 109 = 80 := ⟨Nat.lt_of_lt_of_le (by decide) h.1, h.2.2 109 (by decide)⟩
theorem z110 {Z : ia_Z} (h : ZI Z) : 110 < Z.2.2 ∧ Z.1 110 = 0 ∧ Z.2.1 110 = 60 := ⟨Nat.lt_of_lt_of_le (by decide) h.1, h.2.2 110 (by decide)⟩
theorem z111 {Z : ia_Z} (h : ZI Z) : 111 < Z.2.2 ∧ Z.1 111 = 0 ∧ Z.2.1 111 = 32 := ⟨Nat.lt_of_lt_of_le (by decide) h.1, h.2.2 111 (by decide)⟩
theorem z112 {Z : ia_Z} (h : ZI Z) : 112 < Z.2.2 ∧ Z.1 112 = 0 ∧ Z.2.1 112 = 32 := ⟨Nat.lt_of_lt_of_le (by decide) h.1, h.2.2 112 (by decide)⟩
theorem z113 {Z : ia_Z} (h : ZI Z) : 113 < Z.2.2 ∧ Z.1 113 = 0 ∧ Z.2.1 113 = 32 := ⟨Nat.lt_of_lt_of_le (by decide) h.1, h.2.2 113 (by decide)⟩
theorem z114 {Z : ia_Z} (h : ZI Z) : 114 < Z.2.2 ∧ Z.1 114 = 1 ∧ Z.2.1 114 = 1 := ⟨Nat.lt_of_lt_of_le (by decide) h.1, h.2.2 114 (by decide)⟩
theorem z115 {Z : ia_Z} (h : ZI Z) : 115 < Z.2.2 ∧ Z.1 115 = 2 ∧ Z.2.1 115 = 1 := ⟨Nat.lt_of_lt_of_le (by decide) h.1, h.2.2 115 (by decide)⟩
def ptr (p k : Nat) : Option Nat :=
  if 17 ≤ p ∧ p < 80 then (if (p - 17) % 7 = 0 ∧ k < 6 then some (p + 1 + k) else none) else
  match p with
  | 0 => (match k with | 0 => some 1 | 1 => some 8 | 2 => some 15 | 3 => some 80 | 4 => some 85 | 5 => some 87 | 6 => some 91 | 7 => some 97 | _ => none)
  | 1 => (match k with | 0 => some 2 | 1 => some 3 | 2 => some 4 | 3 => some 5 | 4 => some 6 | 5 => some 7 | _ => none)
  | 8 => (match k with | 0 => some 9 | 1 => some 10 | 2 => some 11 | 3 => some 12 | 4 => some 13 | 5 => some 14 | _ => none)
  | 15 => (match k with | 0 => some 16 | _ => none)
  | 16 => if k < 9 then some (17 + 7 * k) else none
  | 80 => (match k with | 0 => some 81 | 1 => some 82 | 2 => some 83 | 3 => some 84 | _ => none)
  | 85 => (match k with | 0 => some 86 | _ => none)
  | 87 => (match k with | 0 => some 88 | 1 => some 89 | 2 => some 90 | _ => none)
  | 91 => (match k with | 0 => some 92 | 1 => some 94 | 2 => some 95 | 3 => some 96 | _ => none)
  | 99 => (match k with | 0 => some 100 | 1 => some 101 | 2 => some 102 | 3 => some 103 | 4 => some 104 | 5 => some 105 | 6 => some 106 | 7 => some 107 | 8 => some 108 | 14 => some 109 | 16 => some 110 | 17 => some 111 | 18 => some 112 | 19 => some 113 | _ => none)
  | _ => none
def PI (V : ia_H) : Prop := ∀ p k q : Nat, ptr p k = some q → V p k = (q : Int)
theorem PI_u {V : ia_H} {p k : Nat} {x : Int} (h : PI V) (e : ptr p k = none) : PI (ia_u V p k x) := fun a j q h2 => by
  by_cases hc : a = p ∧ j = k
  · rw [hc.1, hc.2, e] at h2; cases h2
  · show (if a = p ∧ j = k then x else V a j) = (q : Int)
    rw [if_neg hc]; exact h a j q h2
theorem PI_row {V V' : ia_H} (h : PI V) (S : List Nat) (hS : ∀ p, p ∈ S → ∀ k, ptr p k = none) (hF : ∀ p, p ∉ S → V' p = V p) : PI V' := fun a j q h2 => by
  by_cases hc : a ∈ S
  · rw [hS a hc j] at h2; cases h2
  · rw [hF a hc]; exact h a j q h2
/-- one row's value changed -/
def up (f : Nat → Int) (k : Nat) (x : Int) : Nat → Int := fun j => if j = k then x else f j
theorem up_self (f : Nat → Int) (k : Nat) (x : Int) : up f k x k = x := if_pos rfl
theorem up_ne {f : Nat → Int} {k j : Nat} {x : Int} (h : j ≠ k) : up f k x j = f j := if_neg h
theorem rowU {V : ia_H} {q k : Nat} {x : Int} {f : Nat → Int} (h : V q = f) : ia_u V q k x q = up f k x := by
  funext j
  show (if q = q ∧ j = k then x else V q j) = if j = k then x else f j
  rw [h]
  by_cases hj : j = k
  · rw [if_pos ⟨rfl, hj⟩, if_pos hj]
  · rw [if_neg (fun e => hj e.2), if_neg hj]
theorem rowN {V : ia_H} {p q k : Nat} {x : Int} (h : p ≠ q) : ia_u V q k x p = V p := by
  funext j
  exact if_neg (fun e => h e.1)
theorem Fr_0 {V : ia_H} {S : List Nat} : ∀ p, p ∉ S → V p = V p := fun _ _ => rfl
theorem Fr_u {V V1 : ia_H} {S : List Nat} {q k : Nat} {x : Int} (h : ∀ p, p ∉ S → V1 p = V p) (hq : q ∈ S) : ∀ p, p ∉ S → ia_u V1 q k x p = V p := fun p hp => by
  rw [rowN (fun e => hp (by rw [e]; exact hq))]; exact h p hp
theorem Fr_c {V V1 V2 : ia_H} {S T : List Nat} (h : ∀ p, p ∉ S → V1 p = V p) (h2 : ∀ p, p ∉ T → V2 p = V1 p) (hT : ∀ p, p ∈ T → p ∈ S) : ∀ p, p ∉ S → V2 p = V p := fun p hp => (h2 p (fun e => hp (hT p e))).trans (h p hp)
-- the state's parts, over the one row of numbers
def wel (σ : Nat → Int) (c : Nat) : Int := σ (8 + c)
def col (σ : Nat → Int) (e : Nat) : Int := σ (20 + 4 * e)
def run (σ : Nat → Int) (e : Nat) : Int := σ (20 + 4 * e + 1)
def prt (σ : Nat → Int) (e : Nat) : Int := σ (20 + 4 * e + 2)
def mrk (σ : Nat → Int) (p : Nat) : Int := σ (48 + 2 * p)
def mad (σ : Nat → Int) (p : Nat) : Int := σ (48 + 2 * p + 1)
def psum (f : Nat → Int) : Nat → Int
  | 0 => 0
  | n + 1 => psum f n + f n
/-- the shop at place b (its rows b + 1 .. b + 6) holds the state σ -/
def Sh (b : Nat) (V : ia_H) (σ : Nat → Int) : Prop :=
  (∀ c : Nat, c < 10 → V (b + 1) c = wel σ c) ∧ (∀ e : Nat, (e : Int) < σ 0 → V (b + 2) e = col σ e ∧ V (b + 3) e = run σ e ∧ V (b + 4) e = prt σ e) ∧ (∀ p : Nat, (p : Int) < σ 1 → V (b + 5) p = mrk σ p ∧ V (b + 6) p = mad σ p) ∧ V b 6 = σ 0 ∧ V b 7 = σ 1 ∧ V b 8 = σ 2 ∧ V b 9 = σ 3 ∧ V b 10 = σ 4 ∧ V b 11 = σ 5 ∧ V b 12 = σ 6 ∧ V b 13 = σ 7 ∧ V b 14 = σ 18 ∧ σ 0 ≤ 7 ∧ σ 1 ≤ 12
section SHS
variable {V V' : ia_H} {σ : Nat → Int}
theorem Sh.wel (h : Sh 1 V σ) (c : Nat) (hc : c < 10) : V 2 c = wel σ c := h.1 c hc
theorem Sh.col (h : Sh 1 V σ) (e : Nat) (he : (e : Int) < σ 0) : V 3 e = col σ e := (h.2.1 e he).1
theorem Sh.run (h : Sh 1 V σ) (e : Nat) (he : (e : Int) < σ 0) : V 4 e = run σ e := (h.2.1 e he).2.1
theorem Sh.prt (h : Sh 1 V σ) (e : Nat) (he : (e : Int) < σ 0) : V 5 e = prt σ e := (h.2.1 e he).2.2
theorem Sh.mrk (h : Sh 1 V σ) (e : Nat) (he : (e : Int) < σ 1) : V 6 e = mrk σ e := (h.2.2.1 e he).1
theorem Sh.mad (h : Sh 1 V σ) (e : Nat) (he : (e : Int) < σ 1) : V 7 e = mad σ e := (h.2.2.1 e he).2
theorem Sh.f6 (h : Sh 1 V σ) : V 1 6 = σ 0 := h.2.2.2.1
theorem Sh.f7 (h : Sh 1 V σ) : V 1 7 = σ 1 := h.2.2.2.2.1
theorem Sh.f8 (h : Sh 1 V σ) : V 1 8 = σ 2 := h.2.2.2.2.2.1
theorem Sh.f9 (h : Sh 1 V σ) : V 1 9 = σ 3 := h.2.2.2.2.2.2.1
theorem Sh.f10 (h : Sh 1 V σ) : V 1 10 = σ 4 := h.2.2.2.2.2.2.2.1
theorem Sh.f11 (h : Sh 1 V σ) : V 1 11 = σ 5 := h.2.2.2.2.2.2.2.2.1
theorem Sh.f12 (h : Sh 1 V σ) : V 1 12 = σ 6 := h.2.2.2.2.2.2.2.2.2.1
theorem Sh.f13 (h : Sh 1 V σ) : V 1 13 = σ 7 := h.2.2.2.2.2.2.2.2.2.2.1
theorem Sh.f14 (h : Sh 1 V σ) : V 1 14 = σ 18 := h.2.2.2.2.2.2.2.2.2.2.2.1
theorem Sh.bd (h : Sh 1 V σ) : σ 0 ≤ 7 ∧ σ 1 ≤ 12 := h.2.2.2.2.2.2.2.2.2.2.2.2
theorem Sh_rows {b b' : Nat} (h : Sh b V σ) (e0 : ∀ k, 6 ≤ k → V' b' k = V b k) (e1 : V' (b' + 1) = V (b + 1)) (e2 : V' (b' + 2) = V (b + 2)) (e3 : V' (b' + 3) = V (b + 3)) (e4 : V' (b' + 4) = V (b + 4)) (e5 : V' (b' + 5) = V (b + 5)) (e6 : V' (b' + 6) = V (b + 6)) : Sh b' V' σ := by
  unfold Sh
  rw [e1, e2, e3, e4, e5, e6, e0 6 (by decide), e0 7 (by decide), e0 8 (by decide), e0 9 (by decide), e0 10 (by decide), e0 11 (by decide), e0 12 (by decide), e0 13 (by decide), e0 14 (by decide)]
  exact h
theorem Sh_u {p k : Nat} {x : Int} (h : Sh 1 V σ) (hp : ¬ (1 ≤ p ∧ p ≤ 7)) : Sh 1 (ia_u V p k x) σ :=
  Sh_rows h (fun j _ => congrFun (rowN (by omega)) j) (rowN (by omega)) (rowN (by omega)) (rowN (by omega)) (rowN (by omega)) (rowN (by omega)) (rowN (by omega))
theorem Sh_fr {S : List Nat} (h : Sh 1 V σ) (hF : ∀ p, p ∉ S → V' p = V p) (hS : 1 ∉ S ∧ 2 ∉ S ∧ 3 ∉ S ∧ 4 ∉ S ∧ 5 ∉ S ∧ 6 ∉ S ∧ 7 ∉ S) : Sh 1 V' σ :=
  Sh_rows h (fun j _ => by rw [hF 1 hS.1]) (hF 2 hS.2.1) (hF 3 hS.2.2.1) (hF 4 hS.2.2.2.1) (hF 5 hS.2.2.2.2.1) (hF 6 hS.2.2.2.2.2.1) (hF 7 hS.2.2.2.2.2.2)
end SHS
/-- what holds of a state after at most m changes -/
def SI (σ : Nat → Int) (m : Int) : Prop :=
  (0 ≤ σ 0 ∧ σ 0 ≤ 7) ∧ (0 ≤ σ 1 ∧ σ 1 ≤ 12) ∧ (0 ≤ σ 2 ∧ σ 2 ≤ 9999) ∧ (0 ≤ σ 3 ∧ σ 3 ≤ 48 * m ∧ m ≤ 20000) ∧ (0 ≤ σ 4 ∧ σ 4 ≤ 9) ∧ (0 ≤ σ 5 ∧ σ 5 ≤ 600 * m) ∧ (0 ≤ σ 6 ∧ σ 6 ≤ 999 * m) ∧ 0 ≤ σ 7 ∧ 0 ≤ σ 18 ∧ σ 6 = psum (wel σ) 10 + σ 7 + σ 18 ∧ (∀ c : Nat, c < 10 → 0 ≤ wel σ c ∧ wel σ c ≤ 999) ∧ (∀ e : Nat, (e : Int) < σ 0 → (0 ≤ col σ e ∧ col σ e ≤ 9) ∧ (1 ≤ run σ e ∧ run σ e ≤ 50) ∧ 0 ≤ prt σ e ∧ prt σ e ≤ run σ e) ∧ (∀ p : Nat, (p : Int) < σ 1 → (0 ≤ mrk σ p ∧ mrk σ p ≤ 99) ∧ 0 ≤ mad σ p ∧ mad σ p ≤ 48 * m)
-- the rows of the walk
theorem ia_tg {args : List (Nat × Int)} (h : (args.all (fun u => u.1 == 0 || u.1 == 2 || u.1 == 4)) = true) : ∀ u ∈ args, u.1 = 0 ∨ u.1 = 2 ∨ u.1 = 4 := fun u hu => by
  have := List.all_eq_true.mp h u hu
  simpa [or_assoc] using this
def ia_ct (X : ia_X) (cells slots pc : Nat) (ls st : List (Nat × Int)) (n : Nat) : ia_O → ia_Z → ia_H → Prop
  | .inl v, Z, V => n ≤ Z.2.2 → ia_G X cells slots pc ls (v.toList ++ st) Z V
  | .inr E, Z, V => n ≤ Z.2.2 → ia_T X cells slots (pc - 3) ls Z V E
section JR
variable {X : ia_X} {own : String} {cc : ByteArray} {nL d mc ms cells slots pc n : Nat} {ls st : List (Nat × Int)} {Z : ia_Z} {V : ia_H}
theorem j1 {t : Nat} {x : Int} (h : ia_G X cells slots (pc + 3) ls ((t, x) :: st) Z V) : ia_ct X cells slots (pc + 3) ls st n (.inl (some (t, x))) Z V := fun _ => h
theorem j0 (h : ia_G X cells slots (pc + 3) ls st Z V) : ia_ct X cells slots (pc + 3) ls st n (.inl none) Z V := fun _ => h
theorem jx {E : String} (h : ia_T X cells slots pc ls Z V E) : ia_ct X cells slots (pc + 3) ls st n (.inr E) Z V := fun _ => h
theorem jg (F : ia_Fix X own cc nL d mc ms) {ci N index : Nat} {C : String} {T : u_T} {q L k t : Nat} {x : Int} (z : q < Z.2.2 ∧ Z.1 q = 10 + ci ∧ Z.2.1 q = L) (hC : ia_Cls ci C T N) (hf : k < N ∧ ia_tag (ia_ty ci k) = t) (hx : V q k = x) (hw : Cond.fieldLink own index (T k).1 (T k).2.1 (T k).2.2.1 ∈ wU) (dg : decode cc pc = .ok (.getfield index, 3)) (kk : ia_G X cells slots (pc + 3) ls ((t, x) :: st) Z V) : ia_G X cells slots pc ls ((4, (q : Int)) :: st) Z V :=
  ia_getf F hC k hf.1 q rfl z.1 z.2.1 hf.2 hx hw dg kk
theorem jp (F : ia_Fix X own cc nL d mc ms) {ci N index : Nat} {C : String} {T : u_T} {q L k t : Nat} {y : Int} (z : q < Z.2.2 ∧ Z.1 q = 10 + ci ∧ Z.2.1 q = L) (hC : ia_Cls ci C T N) (hf : k < N ∧ ia_tag (ia_ty ci k) = t) (hfin : (T k).2.2.2 = false) (hn : ∀ ad : Nat → Nat, narrow (ia_ty ci k) (ia_cv ad (t, y)) = ia_cv ad (t, y) ∧ fits (ia_ty ci k) (ia_cv ad (t, y)) = true) (hw : Cond.fieldLink own index (T k).1 (T k).2.1 (T k).2.2.1 ∈ wU) (dg : decode cc pc = .ok (.putfield index, 3)) (kk : ia_G X cells slots (pc + 3) ls st Z (ia_u V q k y)) : ia_G X cells slots pc ls ((t, y) :: (4, (q : Int)) :: st) Z V :=
  ia_putf F hC k hf.1 q rfl z.1 z.2.1 hf.2 hfin hn hw dg kk
theorem ja (F : ia_Fix X own cc nL d mc ms) {x v : Int} {q L : Nat} (z : q < Z.2.2 ∧ Z.1 q = 0 ∧ Z.2.1 q = L) (i : Nat) (hi : x = (i : Int)) (hin : i < L) (hv : V q i = v) (dg : decode cc pc = .ok (.iaload, 1)) (kk : ia_G X cells slots (pc + 1) ls ((0, v) :: st) Z V) : ia_G X cells slots pc ls ((0, x) :: (4, (q : Int)) :: st) Z V :=
  ia_iaload F q i rfl hi z.1 z.2.1 (by rw [z.2.2]; exact hin) hv dg kk
theorem jal (F : ia_Fix X own cc nL d mc ms) {x v : Int} {q L : Nat} (z : q < Z.2.2 ∧ Z.1 q = 1 ∧ Z.2.1 q = L) (i : Nat) (hi : x = (i : Int)) (hin : i < L) (hv : V q i = v) (dg : decode cc pc = .ok (.laload, 1)) (kk : ia_G X cells slots (pc + 1) ls ((1, v) :: st) Z V) : ia_G X cells slots pc ls ((0, x) :: (4, (q : Int)) :: st) Z V :=
  ia_laload F q i rfl hi z.1 z.2.1 (by rw [z.2.2]; exact hin) hv dg kk
theorem jab (F : ia_Fix X own cc nL d mc ms) {x v : Int} {q L : Nat} (z : q < Z.2.2 ∧ Z.1 q = 3 ∧ Z.2.1 q = L) (i : Nat) (hi : x = (i : Int)) (hin : i < L) (hv : V q i = v) (dg : decode cc pc = .ok (.baload, 1)) (kk : ia_G X cells slots (pc + 1) ls ((0, v) :: st) Z V) : ia_G X cells slots pc ls ((0, x) :: (4, (q : Int)) :: st) Z V :=
  ia_baload F q i rfl hi z.1 z.2.1 (by rw [z.2.2]; exact hin) hv dg kk
theorem js (F : ia_Fix X own cc nL d mc ms) {x y : Int} {q L : Nat} (z : q < Z.2.2 ∧ Z.1 q = 0 ∧ Z.2.1 q = L) (i : Nat) (hi : x = (i : Int)) (hin : i < L) (dg : decode cc pc = .ok (.iastore, 1)) (kk : ia_G X cells slots (pc + 1) ls st Z (ia_u V q i y)) : ia_G X cells slots pc ls ((0, y) :: (0, x) :: (4, (q : Int)) :: st) Z V :=
  ia_iastore F q i rfl hi z.1 z.2.1 (by rw [z.2.2]; exact hin) dg kk
theorem jlen (F : ia_Fix X own cc nL d mc ms) {q L k : Nat} (z : q < Z.2.2 ∧ Z.1 q = k ∧ Z.2.1 q = L) (hk : k < 6) (dg : decode cc pc = .ok (.arraylength, 1)) (kk : ia_G X cells slots (pc + 1) ls ((0, (L : Int)) :: st) Z V) : ia_G X cells slots pc ls ((4, (q : Int)) :: st) Z V :=
  ia_alen F q k 0 rfl z.1 z.2.1 hk (by rw [z.2.2]) dg kk
theorem jS (F : ia_Fix X own cc nL d mc ms) (ca sl : Nat) {index : Nat} {y : MethodName} {b : ByteArray} {nL' : Nat} {ret : Option FieldType} {As : List (Nat × Int)} {stA : List (Nat × Int)} {d' mc' ms' : Nat} (hK : ia_K y b nL' ret As Z V d' mc' ms' (ia_ct X (cells + mc') (slots + ms') (pc + 3) ls st Z.2.2)) (hst : stA = As.reverse ++ st)
    (hw : Cond.code y b nL' ret ∈ wU ∧ Cond.methodLink own index y ∈ wU ∧ Cond.static y ∈ wU ∧ Cond.initialized own ∈ wU) (ho : y.cls = own) (nA : Nat) (hA : As.length = nA) (hd : y.cls ≠ "java/lang/invoke/MethodHandle" ∧ y.cls ≠ "java/lang/invoke/VarHandle" ∧ (parseMethodDescriptor y.desc).map (fun d => d.parameters.length) = some nA) (hR : d' + 1 ≤ d ∧ nL' ≤ 40 ∧ cells + mc' ≤ mc ∧ slots + ms' ≤ ms ∧ st.length ≤ 4) (dg : decode cc pc = .ok (.invokestatic index, 3)) : ia_G X cells slots pc ls stA Z V :=
  ia_callS F hK hst hw ⟨ho, hd.1, hd.2.1, by rw [hA]; exact hd.2.2⟩ hR dg (fun _ _ _ h => h) (fun _ _ _ h => h)
theorem jSN (F : ia_Fix X own cc nL d mc ms) (ca sl : Nat) {index : Nat} {host : String} {y : MethodName} {b : ByteArray} {nL' : Nat} {ret : Option FieldType} {As : List (Nat × Int)} {stA : List (Nat × Int)} {d' mc' ms' : Nat} (hK : ia_K y b nL' ret As Z V d' mc' ms' (ia_ct X (cells + mc') (slots + ms') (pc + 3) ls st Z.2.2)) (hst : stA = As.reverse ++ st)
    (hw : Cond.code y b nL' ret ∈ wU ∧ Cond.methodLinkNest own index y host ∈ ia_nest ∧ Cond.static y ∈ wU ∧ Cond.initialized y.cls ∈ wU) (nA : Nat) (hA : As.length = nA) (hd : y.cls ≠ "java/lang/invoke/MethodHandle" ∧ y.cls ≠ "java/lang/invoke/VarHandle" ∧ (parseMethodDescriptor y.desc).map (fun d => d.parameters.length) = some nA) (hR : d' + 1 ≤ d ∧ nL' ≤ 40 ∧ cells + mc' ≤ mc ∧ slots + ms' ≤ ms ∧ st.length ≤ 4) (dg : decode cc pc = .ok (.invokestatic index, 3)) : ia_G X cells slots pc ls stA Z V :=
  ia_callSN F hK hst hw ⟨hd.1, hd.2.1, by rw [hA]; exact hd.2.2⟩ hR dg (fun _ _ _ h => h) (fun _ _ _ h => h)
theorem jV (F : ia_Fix X own cc nL d mc ms) (ca sl : Nat) {index : Nat} {y : MethodName} {b : ByteArray} {nL' : Nat} {ret : Option FieldType} {As : List (Nat × Int)} {stA : List (Nat × Int)} {d' mc' ms' q ci N L : Nat} {T : u_T} (z : q < Z.2.2 ∧ Z.1 q = 10 + ci ∧ Z.2.1 q = L) (hC : vwCl[ci]? = some (y.cls, T, N)) (hK : ia_K y b nL' ret ((4, (q : Int)) :: As) Z V d' mc' ms' (ia_ct X (cells + mc') (slots + ms') (pc + 3) ls st Z.2.2)) (hst : stA = As.reverse ++ (4, (q : Int)) :: st)
    (hw : Cond.code y b nL' ret ∈ wU ∧ Cond.methodLink own index y ∈ wU ∧ Cond.instanceMethod y ∈ wU ∧ Cond.selects y.cls y y ∈ wU ∧ Cond.initialized y.cls ∈ wU) (nA : Nat) (hA : As.length = nA) (hd : y.cls ≠ "java/lang/invoke/MethodHandle" ∧ y.cls ≠ "java/lang/invoke/VarHandle" ∧ (parseMethodDescriptor y.desc).map (fun d => d.parameters.length) = some nA) (hR : d' + 1 ≤ d ∧ nL' ≤ 40 ∧ cells + mc' ≤ mc ∧ slots + ms' ≤ ms ∧ st.length ≤ 4) (dg : decode cc pc = .ok (.invokevirtual index, 3)) : ia_G X cells slots pc ls stA Z V :=
  ia_callV F q hC z.1 z.2.1 hK hst hw ⟨hd.1, hd.2.1, by rw [hA]; exact hd.2.2⟩ hR dg (fun _ _ _ h => h) (fun _ _ _ h => h)
theorem jI (F : ia_Fix X own cc nL d mc ms) (ca sl : Nat) {index : Nat} {y : MethodName} {b : ByteArray} {nL' : Nat} {As : List (Nat × Int)} {stA : List (Nat × Int)} {d' mc' ms' : Nat} (q : Nat) (hK : ia_K y b nL' none ((4, (q : Int)) :: As) Z V d' mc' ms' (ia_ct X (cells + mc') (slots + ms') (pc + 3) ls st Z.2.2)) (hst : stA = As.reverse ++ (4, (q : Int)) :: st)
    (hw : Cond.code y b nL' none ∈ wU ∧ Cond.methodLink own index y ∈ wU ∧ Cond.instanceMethod y ∈ wU ∧ Cond.initialized y.cls ∈ wU) (hi : y.name = "<init>") (nA : Nat) (hA : As.length = nA) (hd : y.cls ≠ "java/lang/invoke/MethodHandle" ∧ y.cls ≠ "java/lang/invoke/VarHandle" ∧ (parseMethodDescriptor y.desc).map (fun d => d.parameters.length) = some nA) (hR : d' + 1 ≤ d ∧ nL' ≤ 40 ∧ cells + mc' ≤ mc ∧ slots + ms' ≤ ms ∧ st.length ≤ 4) (dg : decode cc pc = .ok (.invokespecial index, 3)) : ia_G X cells slots pc ls stA Z V :=
  ia_callI F q hK hst hw ⟨hi, hd.1, hd.2.1, by rw [hA]; exact hd.2.2⟩ hR dg (fun _ _ _ h => h) (fun _ _ _ h => h)
theorem jIN (F : ia_Fix X own cc nL d mc ms) (ca sl : Nat) {index : Nat} {host : String} {y : MethodName} {b : ByteArray} {nL' : Nat} {As : List (Nat × Int)} {stA : List (Nat × Int)} {d' mc' ms' : Nat} (q : Nat) (hK : ia_K y b nL' none ((4, (q : Int)) :: As) Z V d' mc' ms' (ia_ct X (cells + mc') (slots + ms') (pc + 3) ls st Z.2.2)) (hst : stA = As.reverse ++ (4, (q : Int)) :: st)
    (hw : Cond.code y b nL' none ∈ wU ∧ Cond.methodLinkNest own index y host ∈ ia_nest ∧ Cond.instanceMethod y ∈ wU ∧ Cond.initialized y.cls ∈ wU) (hi : y.name = "<init>") (nA : Nat) (hA : As.length = nA) (hd : y.cls ≠ "java/lang/invoke/MethodHandle" ∧ y.cls ≠ "java/lang/invoke/VarHandle" ∧ (parseMethodDescriptor y.desc).map (fun d => d.parameters.length) = some nA) (hR : d' + 1 ≤ d ∧ nL' ≤ 40 ∧ cells + mc' ≤ mc ∧ slots + ms' ≤ ms ∧ st.length ≤ 4) (dg : decode cc pc = .ok (.invokespecial index, 3)) : ia_G X cells slots pc ls stA Z V :=
  ia_callIN F q hK hst hw ⟨hi, hd.1, hd.2.1, by rw [hA]; exact hd.2.2⟩ hR dg (fun _ _ _ h => h) (fun _ _ _ h => h)
end JR
theorem f0_0 : 0 < 4 ∧ ia_tag (ia_ty 0 0) = 4 := ⟨by decide, rfl⟩
theorem f0_1 : 1 < 4 ∧ ia_tag (ia_ty 0 1) = 0 := ⟨by decide, rfl⟩
theorem f0_2 : 2 < 4 ∧ ia_tag (ia_ty 0 2) = 0 := ⟨by decide, rfl⟩
theorem f0_3 : 3 < 4 ∧ ia_tag (ia_ty 0 3) = 0 := ⟨by decide, rfl⟩
theorem f1_0 : 0 < 4 ∧ ia_tag (ia_ty 1 0) = 4 := ⟨by decide, rfl⟩
theorem f1_1 : 1 < 4 ∧ ia_tag (ia_ty 1 1) = 0 := ⟨by decide, rfl⟩
theorem f1_2 : 2 < 4 ∧ ia_tag (ia_ty 1 2) = 0 := ⟨by decide, rfl⟩
theorem f1_3 : 3 < 4 ∧ ia_tag (ia_ty 1 3) = 0 := ⟨by decide, rfl⟩
theorem f4_0 : 0 < 7 ∧ ia_tag (ia_ty 4 0) = 4 := ⟨by decide, rfl⟩
theorem f4_1 : 1 < 7 ∧ ia_tag (ia_ty 4 1) = 4 := ⟨by decide, rfl⟩
theorem f4_2 : 2 < 7 ∧ ia_tag (ia_ty 4 2) = 4 := ⟨by decide, rfl⟩
theorem f4_3 : 3 < 7 ∧ ia_tag (ia_ty 4 3) = 4 := ⟨by decide, rfl⟩
theorem f4_4 : 4 < 7 ∧ ia_tag (ia_ty 4 4) = 0 := ⟨by decide, rfl⟩
theorem f4_5 : 5 < 7 ∧ ia_tag (ia_ty 4 5) = 0 := ⟨by decide, rfl⟩
theorem f4_6 : 6 < 7 ∧ ia_tag (ia_ty 4 6) = 0 := ⟨by decide, rfl⟩
theorem f5_0 : 0 < 6 ∧ ia_tag (ia_ty 5 0) = 4 := ⟨by decide, rfl⟩
theorem f5_1 : 1 < 6 ∧ ia_tag (ia_ty 5 1) = 4 := ⟨by decide, rfl⟩
theorem f5_2 : 2 < 6 ∧ ia_tag (ia_ty 5 2) = 4 := ⟨by decide, rfl⟩
theorem f5_3 : 3 < 6 ∧ ia_tag (ia_ty 5 3) = 4 := ⟨by decide, rfl⟩
theorem f5_4 : 4 < 6 ∧ ia_tag (ia_ty 5 4) = 0 := ⟨by decide, rfl⟩
theorem f5_5 : 5 < 6 ∧ ia_tag (ia_ty 5 5) = 0 := ⟨by decide, rfl⟩
theorem f6_0 : 0 < 3 ∧ ia_tag (ia_ty 6 0) = 4 := ⟨by decide, rfl⟩
theorem f6_1 : 1 < 3 ∧ ia_tag (ia_ty 6 1) = 0 := ⟨by decide, rfl⟩
theorem f6_2 : 2 < 3 ∧ ia_tag (ia_ty 6 2) = 0 := ⟨by decide, rfl⟩
theorem f7_0 : 0 < 3 ∧ ia_tag (ia_ty 7 0) = 4 := ⟨by decide, rfl⟩
theorem f7_1 : 1 < 3 ∧ ia_tag (ia_ty 7 1) = 4 := ⟨by decide, rfl⟩
theorem f7_2 : 2 < 3 ∧ ia_tag (ia_ty 7 2) = 4 := ⟨by decide, rfl⟩
theorem f8_0 : 0 < 1 ∧ ia_tag (ia_ty 8 0) = 4 := ⟨by decide, rfl⟩
theorem f9_0 : 0 < 15 ∧ ia_tag (ia_ty 9 0) = 4 := ⟨by decide, rfl⟩
theorem f9_1 : 1 < 15 ∧ ia_tag (ia_ty 9 1) = 4 := ⟨by decide, rfl⟩
theorem f9_2 : 2 < 15 ∧ ia_tag (ia_ty 9 2) = 4 := ⟨by decide, rfl⟩
theorem f9_3 : 3 < 15 ∧ ia_tag (ia_ty 9 3) = 4 := ⟨by decide, rfl⟩
theorem f9_4 : 4 < 15 ∧ ia_tag (ia_ty 9 4) = 4 := ⟨by decide, rfl⟩
theorem f9_5 : 5 < 15 ∧ ia_tag (ia_ty 9 5) = 4 := ⟨by decide, rfl⟩
theorem f9_6 : 6 < 15 ∧ ia_tag (ia_ty 9 6) = 0 := ⟨by decide, rfl⟩
theorem f9_7 : 7 < 15 ∧ ia_tag (ia_ty 9 7) = 0 := ⟨by decide, rfl⟩
theorem f9_8 : 8 < 15 ∧ ia_tag (ia_ty 9 8) = 0 := ⟨by decide, rfl⟩
theorem f9_9 : 9 < 15 ∧ ia_tag (ia_ty 9 9) = 0 := ⟨by decide, rfl⟩
theorem f9_10 : 10 < 15 ∧ ia_tag (ia_ty 9 10) = 0 := ⟨by decide, rfl⟩
theorem f9_11 : 11 < 15 ∧ ia_tag (ia_ty 9 11) = 0 := ⟨by decide, rfl⟩
theorem f9_12 : 12 < 15 ∧ ia_tag (ia_ty 9 12) = 0 := ⟨by decide, rfl⟩
theorem f9_13 : 13 < 15 ∧ ia_tag (ia_ty 9 13) = 0 := ⟨by decide, rfl⟩
theorem f9_14 : 14 < 15 ∧ ia_tag (ia_ty 9 14) = 1 := ⟨by decide, rfl⟩
theorem f10_0 : 0 < 11 ∧ ia_tag (ia_ty 10 0) = 4 := ⟨by decide, rfl⟩
theorem f10_1 : 1 < 11 ∧ ia_tag (ia_ty 10 1) = 4 := ⟨by decide, rfl⟩
theorem f10_2 : 2 < 11 ∧ ia_tag (ia_ty 10 2) = 4 := ⟨by decide, rfl⟩
theorem f10_3 : 3 < 11 ∧ ia_tag (ia_ty 10 3) = 4 := ⟨by decide, rfl⟩
theorem f10_4 : 4 < 11 ∧ ia_tag (ia_ty 10 4) = 4 := ⟨by decide, rfl⟩
theorem f10_5 : 5 < 11 ∧ ia_tag (ia_ty 10 5) = 4 := ⟨by decide, rfl⟩
theorem f10_6 : 6 < 11 ∧ ia_tag (ia_ty 10 6) = 4 := ⟨by decide, rfl⟩
theorem f10_7 : 7 < 11 ∧ ia_tag (ia_ty 10 7) = 4 := ⟨by decide, rfl⟩
theorem f10_8 : 8 < 11 ∧ ia_tag (ia_ty 10 8) = 0 := ⟨by decide, rfl⟩
theorem f10_9 : 9 < 11 ∧ ia_tag (ia_ty 10 9) = 0 := ⟨by decide, rfl⟩
theorem f10_10 : 10 < 11 ∧ ia_tag (ia_ty 10 10) = 0 := ⟨by decide, rfl⟩
theorem f11_0 : 0 < 25 ∧ ia_tag (ia_ty 11 0) = 4 := ⟨by decide, rfl⟩
theorem f11_1 : 1 < 25 ∧ ia_tag (ia_ty 11 1) = 4 := ⟨by decide, rfl⟩
theorem f11_2 : 2 < 25 ∧ ia_tag (ia_ty 11 2) = 4 := ⟨by decide, rfl⟩
theorem f11_3 : 3 < 25 ∧ ia_tag (ia_ty 11 3) = 4 := ⟨by decide, rfl⟩
theorem f11_4 : 4 < 25 ∧ ia_tag (ia_ty 11 4) = 4 := ⟨by decide, rfl⟩
theorem f11_5 : 5 < 25 ∧ ia_tag (ia_ty 11 5) = 4 := ⟨by decide, rfl⟩
theorem f11_6 : 6 < 25 ∧ ia_tag (ia_ty 11 6) = 4 := ⟨by decide, rfl⟩
theorem f11_7 : 7 < 25 ∧ ia_tag (ia_ty 11 7) = 4 := ⟨by decide, rfl⟩
theorem f11_8 : 8 < 25 ∧ ia_tag (ia_ty 11 8) = 4 := ⟨by decide, rfl⟩
theorem f11_9 : 9 < 25 ∧ ia_tag (ia_ty 11 9) = 0 := ⟨by decide, rfl⟩
theorem f11_10 : 10 < 25 ∧ ia_tag (ia_ty 11 10) = 0 := ⟨by decide, rfl⟩
theorem f11_11 : 11 < 25 ∧ ia_tag (ia_ty 11 11) = 0 := ⟨by decide, rfl⟩
theorem f11_12 : 12 < 25 ∧ ia_tag (ia_ty 11 12) = 0 := ⟨by decide, rfl⟩
theorem f11_13 : 13 < 25 ∧ ia_tag (ia_ty 11 13) = 0 := ⟨by decide, rfl⟩
theorem f11_14 : 14 < 25 ∧ ia_tag (ia_ty 11 14) = 4 := ⟨by decide, rfl⟩
theorem f11_15 : 15 < 25 ∧ ia_tag (ia_ty 11 15) = 0 := ⟨by decide, rfl⟩
theorem f11_16 : 16 < 25 ∧ ia_tag (ia_ty 11 16) = 4 := ⟨by decide, rfl⟩
theorem f11_17 : 17 < 25 ∧ ia_tag (ia_ty 11 17) = 4 := ⟨by decide, rfl⟩
theorem f11_18 : 18 < 25 ∧ ia_tag (ia_ty 11 18) = 4 := ⟨by decide, rfl⟩
theorem f11_19 : 19 < 25 ∧ ia_tag (ia_ty 11 19) = 4 := ⟨by decide, rfl⟩
theorem f11_20 : 20 < 25 ∧ ia_tag (ia_ty 11 20) = 0 := ⟨by decide, rfl⟩
theorem f11_21 : 21 < 25 ∧ ia_tag (ia_ty 11 21) = 0 := ⟨by decide, rfl⟩
theorem f11_22 : 22 < 25 ∧ ia_tag (ia_ty 11 22) = 0 := ⟨by decide, rfl⟩
theorem f11_23 : 23 < 25 ∧ ia_tag (ia_ty 11 23) = 0 := ⟨by decide, rfl⟩
theorem f11_24 : 24 < 25 ∧ ia_tag (ia_ty 11 24) = 0 := ⟨by decide, rfl⟩
theorem hd_X0_init : yX0_init.cls ≠ "java/lang/invoke/MethodHandle" ∧ yX0_init.cls ≠ "java/lang/invoke/VarHandle" ∧ (parseMethodDescriptor yX0_init.desc).map (fun d => d.parameters.length) = some 0 := ⟨by decide +kernel, by decide +kernel, by decide +kernel⟩
theorem hd_X0_find : yX0_find.cls ≠ "java/lang/invoke/MethodHandle" ∧ yX0_find.cls ≠ "java/lang/invoke/VarHandle" ∧ (parseMethodDescriptor yX0_find.desc).map (fun d => d.parameters.length) = some 1 := ⟨by decide +kernel, by decide +kernel, by decide +kernel⟩
theorem hd_X0_listOpen : yX0_listOpen.cls ≠ "java/lang/invoke/MethodHandle" ∧ yX0_listOpen.cls ≠ "java/lang/invoke/VarHandle" ∧ (parseMethodDescriptor yX0_listOpen.desc).map (fun d => d.parameters.length) = some 1 := ⟨by decide +kernel, by decide +kernel, by decide +kernel⟩
theorem hd_X0_follow : yX0_follow.cls ≠ "java/lang/invoke/MethodHandle" ∧ yX0_follow.cls ≠ "java/lang/invoke/VarHandle" ∧ (parseMethodDescriptor yX0_follow.desc).map (fun d => d.parameters.length) = some 1 := ⟨by decide +kernel, by decide +kernel, by decide +kernel⟩
theorem hd_X0_chooseNext : yX0_chooseNext.cls ≠ "java/lang/invoke/MethodHandle" ∧ yX0_chooseNext.cls ≠ "java/lang/invoke/VarHandle" ∧ (parseMethodDescriptor yX0_chooseNext.desc).map (fun d => d.parameters.length) = some 2 := ⟨by decide +kernel, by decide +kernel, by decide +kernel⟩
theorem hd_X0_contains : yX0_contains.cls ≠ "java/lang/invoke/MethodHandle" ∧ yX0_contains.cls ≠ "java/lang/invoke/VarHandle" ∧ (parseMethodDescriptor yX0_contains.desc).map (fun d => d.parameters.length) = some 2 := ⟨by decide +kernel, by decide +kernel, by decide +kernel⟩
theorem hd_X0_minutesOfAllOrders : yX0_minutesOfAllOrders.cls ≠ "java/lang/invoke/MethodHandle" ∧ yX0_minutesOfAllOrders.cls ≠ "java/lang/invoke/VarHandle" ∧ (parseMethodDescriptor yX0_minutesOfAllOrders.desc).map (fun d => d.parameters.length) = some 1 := ⟨by decide +kernel, by decide +kernel, by decide +kernel⟩
theorem hd_X0_fewestOfOrders : yX0_fewestOfOrders.cls ≠ "java/lang/invoke/MethodHandle" ∧ yX0_fewestOfOrders.cls ≠ "java/lang/invoke/VarHandle" ∧ (parseMethodDescriptor yX0_fewestOfOrders.desc).map (fun d => d.parameters.length) = some 4 := ⟨by decide +kernel, by decide +kernel, by decide +kernel⟩
theorem hd_X0_swap : yX0_swap.cls ≠ "java/lang/invoke/MethodHandle" ∧ yX0_swap.cls ≠ "java/lang/invoke/VarHandle" ∧ (parseMethodDescriptor yX0_swap.desc).map (fun d => d.parameters.length) = some 3 := ⟨by decide +kernel, by decide +kernel, by decide +kernel⟩
theorem hd_X2_init : yX2_init.cls ≠ "java/lang/invoke/MethodHandle" ∧ yX2_init.cls ≠ "java/lang/invoke/VarHandle" ∧ (parseMethodDescriptor yX2_init.desc).map (fun d => d.parameters.length) = some 0 := ⟨by decide +kernel, by decide +kernel, by decide +kernel⟩
theorem hd_X2_length : yX2_length.cls ≠ "java/lang/invoke/MethodHandle" ∧ yX2_length.cls ≠ "java/lang/invoke/VarHandle" ∧ (parseMethodDescriptor yX2_length.desc).map (fun d => d.parameters.length) = some 0 := ⟨by decide +kernel, by decide +kernel, by decide +kernel⟩
theorem hd_X2_add : yX2_add.cls ≠ "java/lang/invoke/MethodHandle" ∧ yX2_add.cls ≠ "java/lang/invoke/VarHandle" ∧ (parseMethodDescriptor yX2_add.desc).map (fun d => d.parameters.length) = some 1 := ⟨by decide +kernel, by decide +kernel, by decide +kernel⟩
theorem hd_X2_empty : yX2_empty.cls ≠ "java/lang/invoke/MethodHandle" ∧ yX2_empty.cls ≠ "java/lang/invoke/VarHandle" ∧ (parseMethodDescriptor yX2_empty.desc).map (fun d => d.parameters.length) = some 0 := ⟨by decide +kernel, by decide +kernel, by decide +kernel⟩
theorem hd_X2_read : yX2_read.cls ≠ "java/lang/invoke/MethodHandle" ∧ yX2_read.cls ≠ "java/lang/invoke/VarHandle" ∧ (parseMethodDescriptor yX2_read.desc).map (fun d => d.parameters.length) = some 0 := ⟨by decide +kernel, by decide +kernel, by decide +kernel⟩
theorem hd_X2_readCommand : yX2_readCommand.cls ≠ "java/lang/invoke/MethodHandle" ∧ yX2_readCommand.cls ≠ "java/lang/invoke/VarHandle" ∧ (parseMethodDescriptor yX2_readCommand.desc).map (fun d => d.parameters.length) = some 1 := ⟨by decide +kernel, by decide +kernel, by decide +kernel⟩
theorem hd_X2_readWord : yX2_readWord.cls ≠ "java/lang/invoke/MethodHandle" ∧ yX2_readWord.cls ≠ "java/lang/invoke/VarHandle" ∧ (parseMethodDescriptor yX2_readWord.desc).map (fun d => d.parameters.length) = some 0 := ⟨by decide +kernel, by decide +kernel, by decide +kernel⟩
theorem hd_X2_agreeingCharacters : yX2_agreeingCharacters.cls ≠ "java/lang/invoke/MethodHandle" ∧ yX2_agreeingCharacters.cls ≠ "java/lang/invoke/VarHandle" ∧ (parseMethodDescriptor yX2_agreeingCharacters.desc).map (fun d => d.parameters.length) = some 1 := ⟨by decide +kernel, by decide +kernel, by decide +kernel⟩
theorem hd_X2_readParameter : yX2_readParameter.cls ≠ "java/lang/invoke/MethodHandle" ∧ yX2_readParameter.cls ≠ "java/lang/invoke/VarHandle" ∧ (parseMethodDescriptor yX2_readParameter.desc).map (fun d => d.parameters.length) = some 1 := ⟨by decide +kernel, by decide +kernel, by decide +kernel⟩
theorem hd_X2_isAtDigit : yX2_isAtDigit.cls ≠ "java/lang/invoke/MethodHandle" ∧ yX2_isAtDigit.cls ≠ "java/lang/invoke/VarHandle" ∧ (parseMethodDescriptor yX2_isAtDigit.desc).map (fun d => d.parameters.length) = some 0 := ⟨by decide +kernel, by decide +kernel, by decide +kernel⟩
theorem hd_X2_skip : yX2_skip.cls ≠ "java/lang/invoke/MethodHandle" ∧ yX2_skip.cls ≠ "java/lang/invoke/VarHandle" ∧ (parseMethodDescriptor yX2_skip.desc).map (fun d => d.parameters.length) = some 1 := ⟨by decide +kernel, by decide +kernel, by decide +kernel⟩
theorem hd_X3_init : yX3_init.cls ≠ "java/lang/invoke/MethodHandle" ∧ yX3_init.cls ≠ "java/lang/invoke/VarHandle" ∧ (parseMethodDescriptor yX3_init.desc).map (fun d => d.parameters.length) = some 0 := ⟨by decide +kernel, by decide +kernel, by decide +kernel⟩
theorem hd_X3_note : yX3_note.cls ≠ "java/lang/invoke/MethodHandle" ∧ yX3_note.cls ≠ "java/lang/invoke/VarHandle" ∧ (parseMethodDescriptor yX3_note.desc).map (fun d => d.parameters.length) = some 1 := ⟨by decide +kernel, by decide +kernel, by decide +kernel⟩
theorem hd_X3_keepNoted : yX3_keepNoted.cls ≠ "java/lang/invoke/MethodHandle" ∧ yX3_keepNoted.cls ≠ "java/lang/invoke/VarHandle" ∧ (parseMethodDescriptor yX3_keepNoted.desc).map (fun d => d.parameters.length) = some 0 := ⟨by decide +kernel, by decide +kernel, by decide +kernel⟩
theorem hd_X3_takeBackNoted : yX3_takeBackNoted.cls ≠ "java/lang/invoke/MethodHandle" ∧ yX3_takeBackNoted.cls ≠ "java/lang/invoke/VarHandle" ∧ (parseMethodDescriptor yX3_takeBackNoted.desc).map (fun d => d.parameters.length) = some 1 := ⟨by decide +kernel, by decide +kernel, by decide +kernel⟩
theorem hd_X3_takeBackKept : yX3_takeBackKept.cls ≠ "java/lang/invoke/MethodHandle" ∧ yX3_takeBackKept.cls ≠ "java/lang/invoke/VarHandle" ∧ (parseMethodDescriptor yX3_takeBackKept.desc).map (fun d => d.parameters.length) = some 1 := ⟨by decide +kernel, by decide +kernel, by decide +kernel⟩
theorem hd_X3_forget : yX3_forget.cls ≠ "java/lang/invoke/MethodHandle" ∧ yX3_forget.cls ≠ "java/lang/invoke/VarHandle" ∧ (parseMethodDescriptor yX3_forget.desc).map (fun d => d.parameters.length) = some 0 := ⟨by decide +kernel, by decide +kernel, by decide +kernel⟩
theorem hd_X4_init : yX4_init.cls ≠ "java/lang/invoke/MethodHandle" ∧ yX4_init.cls ≠ "java/lang/invoke/VarHandle" ∧ (parseMethodDescriptor yX4_init.desc).map (fun d => d.parameters.length) = some 0 := ⟨by decide +kernel, by decide +kernel, by decide +kernel⟩
theorem hd_X4_longest : yX4_longest.cls ≠ "java/lang/invoke/MethodHandle" ∧ yX4_longest.cls ≠ "java/lang/invoke/VarHandle" ∧ (parseMethodDescriptor yX4_longest.desc).map (fun d => d.parameters.length) = some 1 := ⟨by decide +kernel, by decide +kernel, by decide +kernel⟩
theorem hd_X4_findRisesTo : yX4_findRisesTo.cls ≠ "java/lang/invoke/MethodHandle" ∧ yX4_findRisesTo.cls ≠ "java/lang/invoke/VarHandle" ∧ (parseMethodDescriptor yX4_findRisesTo.desc).map (fun d => d.parameters.length) = some 2 := ⟨by decide +kernel, by decide +kernel, by decide +kernel⟩
theorem hd_X4_lengthen : yX4_lengthen.cls ≠ "java/lang/invoke/MethodHandle" ∧ yX4_lengthen.cls ≠ "java/lang/invoke/VarHandle" ∧ (parseMethodDescriptor yX4_lengthen.desc).map (fun d => d.parameters.length) = some 2 := ⟨by decide +kernel, by decide +kernel, by decide +kernel⟩
theorem hd_X4_countLongest : yX4_countLongest.cls ≠ "java/lang/invoke/MethodHandle" ∧ yX4_countLongest.cls ≠ "java/lang/invoke/VarHandle" ∧ (parseMethodDescriptor yX4_countLongest.desc).map (fun d => d.parameters.length) = some 1 := ⟨by decide +kernel, by decide +kernel, by decide +kernel⟩
theorem hd_X4_longestByEnds : yX4_longestByEnds.cls ≠ "java/lang/invoke/MethodHandle" ∧ yX4_longestByEnds.cls ≠ "java/lang/invoke/VarHandle" ∧ (parseMethodDescriptor yX4_longestByEnds.desc).map (fun d => d.parameters.length) = some 1 := ⟨by decide +kernel, by decide +kernel, by decide +kernel⟩
theorem hd_X5_init : yX5_init.cls ≠ "java/lang/invoke/MethodHandle" ∧ yX5_init.cls ≠ "java/lang/invoke/VarHandle" ∧ (parseMethodDescriptor yX5_init.desc).map (fun d => d.parameters.length) = some 0 := ⟨by decide +kernel, by decide +kernel, by decide +kernel⟩
theorem hd_X5_dealSheetBySheet : yX5_dealSheetBySheet.cls ≠ "java/lang/invoke/MethodHandle" ∧ yX5_dealSheetBySheet.cls ≠ "java/lang/invoke/VarHandle" ∧ (parseMethodDescriptor yX5_dealSheetBySheet.desc).map (fun d => d.parameters.length) = some 1 := ⟨by decide +kernel, by decide +kernel, by decide +kernel⟩
theorem hd_X5_nextToGet : yX5_nextToGet.cls ≠ "java/lang/invoke/MethodHandle" ∧ yX5_nextToGet.cls ≠ "java/lang/invoke/VarHandle" ∧ (parseMethodDescriptor yX5_nextToGet.desc).map (fun d => d.parameters.length) = some 1 := ⟨by decide +kernel, by decide +kernel, by decide +kernel⟩
theorem hd_X5_dealByLevel : yX5_dealByLevel.cls ≠ "java/lang/invoke/MethodHandle" ∧ yX5_dealByLevel.cls ≠ "java/lang/invoke/VarHandle" ∧ (parseMethodDescriptor yX5_dealByLevel.desc).map (fun d => d.parameters.length) = some 1 := ⟨by decide +kernel, by decide +kernel, by decide +kernel⟩
theorem hd_X5_sheetsForLevel : yX5_sheetsForLevel.cls ≠ "java/lang/invoke/MethodHandle" ∧ yX5_sheetsForLevel.cls ≠ "java/lang/invoke/VarHandle" ∧ (parseMethodDescriptor yX5_sheetsForLevel.desc).map (fun d => d.parameters.length) = some 2 := ⟨by decide +kernel, by decide +kernel, by decide +kernel⟩
theorem hd_X6_init : yX6_init.cls ≠ "java/lang/invoke/MethodHandle" ∧ yX6_init.cls ≠ "java/lang/invoke/VarHandle" ∧ (parseMethodDescriptor yX6_init.desc).map (fun d => d.parameters.length) = some 0 := ⟨by decide +kernel, by decide +kernel, by decide +kernel⟩
theorem hd_X6_copyFrom : yX6_copyFrom.cls ≠ "java/lang/invoke/MethodHandle" ∧ yX6_copyFrom.cls ≠ "java/lang/invoke/VarHandle" ∧ (parseMethodDescriptor yX6_copyFrom.desc).map (fun d => d.parameters.length) = some 1 := ⟨by decide +kernel, by decide +kernel, by decide +kernel⟩
theorem hd_X6_pour : yX6_pour.cls ≠ "java/lang/invoke/MethodHandle" ∧ yX6_pour.cls ≠ "java/lang/invoke/VarHandle" ∧ (parseMethodDescriptor yX6_pour.desc).map (fun d => d.parameters.length) = some 2 := ⟨by decide +kernel, by decide +kernel, by decide +kernel⟩
theorem hd_X6_buy : yX6_buy.cls ≠ "java/lang/invoke/MethodHandle" ∧ yX6_buy.cls ≠ "java/lang/invoke/VarHandle" ∧ (parseMethodDescriptor yX6_buy.desc).map (fun d => d.parameters.length) = some 1 := ⟨by decide +kernel, by decide +kernel, by decide +kernel⟩
theorem hd_X6_letPass : yX6_letPass.cls ≠ "java/lang/invoke/MethodHandle" ∧ yX6_letPass.cls ≠ "java/lang/invoke/VarHandle" ∧ (parseMethodDescriptor yX6_letPass.desc).map (fun d => d.parameters.length) = some 1 := ⟨by decide +kernel, by decide +kernel, by decide +kernel⟩
theorem hd_X6_fadeInThisHour : yX6_fadeInThisHour.cls ≠ "java/lang/invoke/MethodHandle" ∧ yX6_fadeInThisHour.cls ≠ "java/lang/invoke/VarHandle" ∧ (parseMethodDescriptor yX6_fadeInThisHour.desc).map (fun d => d.parameters.length) = some 0 := ⟨by decide +kernel, by decide +kernel, by decide +kernel⟩
theorem hd_X6_inkInHour : yX6_inkInHour.cls ≠ "java/lang/invoke/MethodHandle" ∧ yX6_inkInHour.cls ≠ "java/lang/invoke/VarHandle" ∧ (parseMethodDescriptor yX6_inkInHour.desc).map (fun d => d.parameters.length) = some 3 := ⟨by decide +kernel, by decide +kernel, by decide +kernel⟩
theorem hd_X6_inkHourByHour : yX6_inkHourByHour.cls ≠ "java/lang/invoke/MethodHandle" ∧ yX6_inkHourByHour.cls ≠ "java/lang/invoke/VarHandle" ∧ (parseMethodDescriptor yX6_inkHourByHour.desc).map (fun d => d.parameters.length) = some 2 := ⟨by decide +kernel, by decide +kernel, by decide +kernel⟩
theorem hd_X6_inkHalved : yX6_inkHalved.cls ≠ "java/lang/invoke/MethodHandle" ∧ yX6_inkHalved.cls ≠ "java/lang/invoke/VarHandle" ∧ (parseMethodDescriptor yX6_inkHalved.desc).map (fun d => d.parameters.length) = some 2 := ⟨by decide +kernel, by decide +kernel, by decide +kernel⟩
theorem hd_X6_hoursToFallBelow : yX6_hoursToFallBelow.cls ≠ "java/lang/invoke/MethodHandle" ∧ yX6_hoursToFallBelow.cls ≠ "java/lang/invoke/VarHandle" ∧ (parseMethodDescriptor yX6_hoursToFallBelow.desc).map (fun d => d.parameters.length) = some 2 := ⟨by decide +kernel, by decide +kernel, by decide +kernel⟩
theorem hd_X6_hasEdition : yX6_hasEdition.cls ≠ "java/lang/invoke/MethodHandle" ∧ yX6_hasEdition.cls ≠ "java/lang/invoke/VarHandle" ∧ (parseMethodDescriptor yX6_hasEdition.desc).map (fun d => d.parameters.length) = some 1 := ⟨by decide +kernel, by decide +kernel, by decide +kernel⟩
theorem hd_X6_missing : yX6_missing.cls ≠ "java/lang/invoke/MethodHandle" ∧ yX6_missing.cls ≠ "java/lang/invoke/VarHandle" ∧ (parseMethodDescriptor yX6_missing.desc).map (fun d => d.parameters.length) = some 1 := ⟨by decide +kernel, by decide +kernel, by decide +kernel⟩
theorem hd_X6_takeEdition : yX6_takeEdition.cls ≠ "java/lang/invoke/MethodHandle" ∧ yX6_takeEdition.cls ≠ "java/lang/invoke/VarHandle" ∧ (parseMethodDescriptor yX6_takeEdition.desc).map (fun d => d.parameters.length) = some 2 := ⟨by decide +kernel, by decide +kernel, by decide +kernel⟩
theorem hd_X6_strikeEdition : yX6_strikeEdition.cls ≠ "java/lang/invoke/MethodHandle" ∧ yX6_strikeEdition.cls ≠ "java/lang/invoke/VarHandle" ∧ (parseMethodDescriptor yX6_strikeEdition.desc).map (fun d => d.parameters.length) = some 1 := ⟨by decide +kernel, by decide +kernel, by decide +kernel⟩
theorem hd_X6_printOne : yX6_printOne.cls ≠ "java/lang/invoke/MethodHandle" ∧ yX6_printOne.cls ≠ "java/lang/invoke/VarHandle" ∧ (parseMethodDescriptor yX6_printOne.desc).map (fun d => d.parameters.length) = some 1 := ⟨by decide +kernel, by decide +kernel, by decide +kernel⟩
theorem hd_X6_printUpTo : yX6_printUpTo.cls ≠ "java/lang/invoke/MethodHandle" ∧ yX6_printUpTo.cls ≠ "java/lang/invoke/VarHandle" ∧ (parseMethodDescriptor yX6_printUpTo.desc).map (fun d => d.parameters.length) = some 2 := ⟨by decide +kernel, by decide +kernel, by decide +kernel⟩
theorem hd_X6_editionOfRank : yX6_editionOfRank.cls ≠ "java/lang/invoke/MethodHandle" ∧ yX6_editionOfRank.cls ≠ "java/lang/invoke/VarHandle" ∧ (parseMethodDescriptor yX6_editionOfRank.desc).map (fun d => d.parameters.length) = some 1 := ⟨by decide +kernel, by decide +kernel, by decide +kernel⟩
theorem hd_X6_rankOf : yX6_rankOf.cls ≠ "java/lang/invoke/MethodHandle" ∧ yX6_rankOf.cls ≠ "java/lang/invoke/VarHandle" ∧ (parseMethodDescriptor yX6_rankOf.desc).map (fun d => d.parameters.length) = some 1 := ⟨by decide +kernel, by decide +kernel, by decide +kernel⟩
theorem hd_X6_hasProof : yX6_hasProof.cls ≠ "java/lang/invoke/MethodHandle" ∧ yX6_hasProof.cls ≠ "java/lang/invoke/VarHandle" ∧ (parseMethodDescriptor yX6_hasProof.desc).map (fun d => d.parameters.length) = some 1 := ⟨by decide +kernel, by decide +kernel, by decide +kernel⟩
theorem hd_X6_makeProof : yX6_makeProof.cls ≠ "java/lang/invoke/MethodHandle" ∧ yX6_makeProof.cls ≠ "java/lang/invoke/VarHandle" ∧ (parseMethodDescriptor yX6_makeProof.desc).map (fun d => d.parameters.length) = some 1 := ⟨by decide +kernel, by decide +kernel, by decide +kernel⟩
theorem hd_X6_discardProof : yX6_discardProof.cls ≠ "java/lang/invoke/MethodHandle" ∧ yX6_discardProof.cls ≠ "java/lang/invoke/VarHandle" ∧ (parseMethodDescriptor yX6_discardProof.desc).map (fun d => d.parameters.length) = some 1 := ⟨by decide +kernel, by decide +kernel, by decide +kernel⟩
theorem hd_X6_closeGap : yX6_closeGap.cls ≠ "java/lang/invoke/MethodHandle" ∧ yX6_closeGap.cls ≠ "java/lang/invoke/VarHandle" ∧ (parseMethodDescriptor yX6_closeGap.desc).map (fun d => d.parameters.length) = some 3 := ⟨by decide +kernel, by decide +kernel, by decide +kernel⟩
theorem hd_X7_init : yX7_init.cls ≠ "java/lang/invoke/MethodHandle" ∧ yX7_init.cls ≠ "java/lang/invoke/VarHandle" ∧ (parseMethodDescriptor yX7_init.desc).map (fun d => d.parameters.length) = some 0 := ⟨by decide +kernel, by decide +kernel, by decide +kernel⟩
theorem hd_X7_addInk : yX7_addInk.cls ≠ "java/lang/invoke/MethodHandle" ∧ yX7_addInk.cls ≠ "java/lang/invoke/VarHandle" ∧ (parseMethodDescriptor yX7_addInk.desc).map (fun d => d.parameters.length) = some 2 := ⟨by decide +kernel, by decide +kernel, by decide +kernel⟩
theorem hd_X7_addPaper : yX7_addPaper.cls ≠ "java/lang/invoke/MethodHandle" ∧ yX7_addPaper.cls ≠ "java/lang/invoke/VarHandle" ∧ (parseMethodDescriptor yX7_addPaper.desc).map (fun d => d.parameters.length) = some 1 := ⟨by decide +kernel, by decide +kernel, by decide +kernel⟩
theorem hd_X7_pass : yX7_pass.cls ≠ "java/lang/invoke/MethodHandle" ∧ yX7_pass.cls ≠ "java/lang/invoke/VarHandle" ∧ (parseMethodDescriptor yX7_pass.desc).map (fun d => d.parameters.length) = some 1 := ⟨by decide +kernel, by decide +kernel, by decide +kernel⟩
theorem hd_X7_ink : yX7_ink.cls ≠ "java/lang/invoke/MethodHandle" ∧ yX7_ink.cls ≠ "java/lang/invoke/VarHandle" ∧ (parseMethodDescriptor yX7_ink.desc).map (fun d => d.parameters.length) = some 1 := ⟨by decide +kernel, by decide +kernel, by decide +kernel⟩
theorem hd_X7_paper : yX7_paper.cls ≠ "java/lang/invoke/MethodHandle" ∧ yX7_paper.cls ≠ "java/lang/invoke/VarHandle" ∧ (parseMethodDescriptor yX7_paper.desc).map (fun d => d.parameters.length) = some 0 := ⟨by decide +kernel, by decide +kernel, by decide +kernel⟩
theorem hd_X7_hour : yX7_hour.cls ≠ "java/lang/invoke/MethodHandle" ∧ yX7_hour.cls ≠ "java/lang/invoke/VarHandle" ∧ (parseMethodDescriptor yX7_hour.desc).map (fun d => d.parameters.length) = some 0 := ⟨by decide +kernel, by decide +kernel, by decide +kernel⟩
theorem hd_X7_inkAfter : yX7_inkAfter.cls ≠ "java/lang/invoke/MethodHandle" ∧ yX7_inkAfter.cls ≠ "java/lang/invoke/VarHandle" ∧ (parseMethodDescriptor yX7_inkAfter.desc).map (fun d => d.parameters.length) = some 2 := ⟨by decide +kernel, by decide +kernel, by decide +kernel⟩
theorem hd_X7_inkByHalvings : yX7_inkByHalvings.cls ≠ "java/lang/invoke/MethodHandle" ∧ yX7_inkByHalvings.cls ≠ "java/lang/invoke/VarHandle" ∧ (parseMethodDescriptor yX7_inkByHalvings.desc).map (fun d => d.parameters.length) = some 2 := ⟨by decide +kernel, by decide +kernel, by decide +kernel⟩
theorem hd_X7_hoursUntilLess : yX7_hoursUntilLess.cls ≠ "java/lang/invoke/MethodHandle" ∧ yX7_hoursUntilLess.cls ≠ "java/lang/invoke/VarHandle" ∧ (parseMethodDescriptor yX7_hoursUntilLess.desc).map (fun d => d.parameters.length) = some 2 := ⟨by decide +kernel, by decide +kernel, by decide +kernel⟩
theorem hd_X7_addEdition : yX7_addEdition.cls ≠ "java/lang/invoke/MethodHandle" ∧ yX7_addEdition.cls ≠ "java/lang/invoke/VarHandle" ∧ (parseMethodDescriptor yX7_addEdition.desc).map (fun d => d.parameters.length) = some 2 := ⟨by decide +kernel, by decide +kernel, by decide +kernel⟩
theorem hd_X7_removeEdition : yX7_removeEdition.cls ≠ "java/lang/invoke/MethodHandle" ∧ yX7_removeEdition.cls ≠ "java/lang/invoke/VarHandle" ∧ (parseMethodDescriptor yX7_removeEdition.desc).map (fun d => d.parameters.length) = some 1 := ⟨by decide +kernel, by decide +kernel, by decide +kernel⟩
theorem hd_X7_print : yX7_print.cls ≠ "java/lang/invoke/MethodHandle" ∧ yX7_print.cls ≠ "java/lang/invoke/VarHandle" ∧ (parseMethodDescriptor yX7_print.desc).map (fun d => d.parameters.length) = some 1 := ⟨by decide +kernel, by decide +kernel, by decide +kernel⟩
theorem hd_X7_printAll : yX7_printAll.cls ≠ "java/lang/invoke/MethodHandle" ∧ yX7_printAll.cls ≠ "java/lang/invoke/VarHandle" ∧ (parseMethodDescriptor yX7_printAll.desc).map (fun d => d.parameters.length) = some 0 := ⟨by decide +kernel, by decide +kernel, by decide +kernel⟩
theorem hd_X7_editionCount : yX7_editionCount.cls ≠ "java/lang/invoke/MethodHandle" ∧ yX7_editionCount.cls ≠ "java/lang/invoke/VarHandle" ∧ (parseMethodDescriptor yX7_editionCount.desc).map (fun d => d.parameters.length) = some 0 := ⟨by decide +kernel, by decide +kernel, by decide +kernel⟩
theorem hd_X7_colourOf : yX7_colourOf.cls ≠ "java/lang/invoke/MethodHandle" ∧ yX7_colourOf.cls ≠ "java/lang/invoke/VarHandle" ∧ (parseMethodDescriptor yX7_colourOf.desc).map (fun d => d.parameters.length) = some 1 := ⟨by decide +kernel, by decide +kernel, by decide +kernel⟩
theorem hd_X7_runOf : yX7_runOf.cls ≠ "java/lang/invoke/MethodHandle" ∧ yX7_runOf.cls ≠ "java/lang/invoke/VarHandle" ∧ (parseMethodDescriptor yX7_runOf.desc).map (fun d => d.parameters.length) = some 1 := ⟨by decide +kernel, by decide +kernel, by decide +kernel⟩
theorem hd_X7_printedOf : yX7_printedOf.cls ≠ "java/lang/invoke/MethodHandle" ∧ yX7_printedOf.cls ≠ "java/lang/invoke/VarHandle" ∧ (parseMethodDescriptor yX7_printedOf.desc).map (fun d => d.parameters.length) = some 1 := ⟨by decide +kernel, by decide +kernel, by decide +kernel⟩
theorem hd_X7_isComplete : yX7_isComplete.cls ≠ "java/lang/invoke/MethodHandle" ∧ yX7_isComplete.cls ≠ "java/lang/invoke/VarHandle" ∧ (parseMethodDescriptor yX7_isComplete.desc).map (fun d => d.parameters.length) = some 1 := ⟨by decide +kernel, by decide +kernel, by decide +kernel⟩
theorem hd_X7_changeMinutes : yX7_changeMinutes.cls ≠ "java/lang/invoke/MethodHandle" ∧ yX7_changeMinutes.cls ≠ "java/lang/invoke/VarHandle" ∧ (parseMethodDescriptor yX7_changeMinutes.desc).map (fun d => d.parameters.length) = some 2 := ⟨by decide +kernel, by decide +kernel, by decide +kernel⟩
theorem hd_X7_pressColour : yX7_pressColour.cls ≠ "java/lang/invoke/MethodHandle" ∧ yX7_pressColour.cls ≠ "java/lang/invoke/VarHandle" ∧ (parseMethodDescriptor yX7_pressColour.desc).map (fun d => d.parameters.length) = some 0 := ⟨by decide +kernel, by decide +kernel, by decide +kernel⟩
theorem hd_X7_fewestMinutes : yX7_fewestMinutes.cls ≠ "java/lang/invoke/MethodHandle" ∧ yX7_fewestMinutes.cls ≠ "java/lang/invoke/VarHandle" ∧ (parseMethodDescriptor yX7_fewestMinutes.desc).map (fun d => d.parameters.length) = some 0 := ⟨by decide +kernel, by decide +kernel, by decide +kernel⟩
theorem hd_X7_minutesByOrders : yX7_minutesByOrders.cls ≠ "java/lang/invoke/MethodHandle" ∧ yX7_minutesByOrders.cls ≠ "java/lang/invoke/VarHandle" ∧ (parseMethodDescriptor yX7_minutesByOrders.desc).map (fun d => d.parameters.length) = some 0 := ⟨by decide +kernel, by decide +kernel, by decide +kernel⟩
theorem hd_X7_editionAt : yX7_editionAt.cls ≠ "java/lang/invoke/MethodHandle" ∧ yX7_editionAt.cls ≠ "java/lang/invoke/VarHandle" ∧ (parseMethodDescriptor yX7_editionAt.desc).map (fun d => d.parameters.length) = some 1 := ⟨by decide +kernel, by decide +kernel, by decide +kernel⟩
theorem hd_X7_shareOf : yX7_shareOf.cls ≠ "java/lang/invoke/MethodHandle" ∧ yX7_shareOf.cls ≠ "java/lang/invoke/VarHandle" ∧ (parseMethodDescriptor yX7_shareOf.desc).map (fun d => d.parameters.length) = some 1 := ⟨by decide +kernel, by decide +kernel, by decide +kernel⟩
theorem hd_X7_shareByLevel : yX7_shareByLevel.cls ≠ "java/lang/invoke/MethodHandle" ∧ yX7_shareByLevel.cls ≠ "java/lang/invoke/VarHandle" ∧ (parseMethodDescriptor yX7_shareByLevel.desc).map (fun d => d.parameters.length) = some 1 := ⟨by decide +kernel, by decide +kernel, by decide +kernel⟩
theorem hd_X7_editionByMissing : yX7_editionByMissing.cls ≠ "java/lang/invoke/MethodHandle" ∧ yX7_editionByMissing.cls ≠ "java/lang/invoke/VarHandle" ∧ (parseMethodDescriptor yX7_editionByMissing.desc).map (fun d => d.parameters.length) = some 1 := ⟨by decide +kernel, by decide +kernel, by decide +kernel⟩
theorem hd_X7_addProof : yX7_addProof.cls ≠ "java/lang/invoke/MethodHandle" ∧ yX7_addProof.cls ≠ "java/lang/invoke/VarHandle" ∧ (parseMethodDescriptor yX7_addProof.desc).map (fun d => d.parameters.length) = some 1 := ⟨by decide +kernel, by decide +kernel, by decide +kernel⟩
theorem hd_X7_dropProof : yX7_dropProof.cls ≠ "java/lang/invoke/MethodHandle" ∧ yX7_dropProof.cls ≠ "java/lang/invoke/VarHandle" ∧ (parseMethodDescriptor yX7_dropProof.desc).map (fun d => d.parameters.length) = some 1 := ⟨by decide +kernel, by decide +kernel, by decide +kernel⟩
theorem hd_X7_proofCount : yX7_proofCount.cls ≠ "java/lang/invoke/MethodHandle" ∧ yX7_proofCount.cls ≠ "java/lang/invoke/VarHandle" ∧ (parseMethodDescriptor yX7_proofCount.desc).map (fun d => d.parameters.length) = some 0 := ⟨by decide +kernel, by decide +kernel, by decide +kernel⟩
theorem hd_X7_marksOf : yX7_marksOf.cls ≠ "java/lang/invoke/MethodHandle" ∧ yX7_marksOf.cls ≠ "java/lang/invoke/VarHandle" ∧ (parseMethodDescriptor yX7_marksOf.desc).map (fun d => d.parameters.length) = some 1 := ⟨by decide +kernel, by decide +kernel, by decide +kernel⟩
theorem hd_X7_hourOf : yX7_hourOf.cls ≠ "java/lang/invoke/MethodHandle" ∧ yX7_hourOf.cls ≠ "java/lang/invoke/VarHandle" ∧ (parseMethodDescriptor yX7_hourOf.desc).map (fun d => d.parameters.length) = some 1 := ⟨by decide +kernel, by decide +kernel, by decide +kernel⟩
theorem hd_X7_longestRise : yX7_longestRise.cls ≠ "java/lang/invoke/MethodHandle" ∧ yX7_longestRise.cls ≠ "java/lang/invoke/VarHandle" ∧ (parseMethodDescriptor yX7_longestRise.desc).map (fun d => d.parameters.length) = some 0 := ⟨by decide +kernel, by decide +kernel, by decide +kernel⟩
theorem hd_X7_riseByEnds : yX7_riseByEnds.cls ≠ "java/lang/invoke/MethodHandle" ∧ yX7_riseByEnds.cls ≠ "java/lang/invoke/VarHandle" ∧ (parseMethodDescriptor yX7_riseByEnds.desc).map (fun d => d.parameters.length) = some 0 := ⟨by decide +kernel, by decide +kernel, by decide +kernel⟩
theorem hd_X7_riseCount : yX7_riseCount.cls ≠ "java/lang/invoke/MethodHandle" ∧ yX7_riseCount.cls ≠ "java/lang/invoke/VarHandle" ∧ (parseMethodDescriptor yX7_riseCount.desc).map (fun d => d.parameters.length) = some 0 := ⟨by decide +kernel, by decide +kernel, by decide +kernel⟩
theorem hd_X7_minutes : yX7_minutes.cls ≠ "java/lang/invoke/MethodHandle" ∧ yX7_minutes.cls ≠ "java/lang/invoke/VarHandle" ∧ (parseMethodDescriptor yX7_minutes.desc).map (fun d => d.parameters.length) = some 0 := ⟨by decide +kernel, by decide +kernel, by decide +kernel⟩
theorem hd_X7_poured : yX7_poured.cls ≠ "java/lang/invoke/MethodHandle" ∧ yX7_poured.cls ≠ "java/lang/invoke/VarHandle" ∧ (parseMethodDescriptor yX7_poured.desc).map (fun d => d.parameters.length) = some 0 := ⟨by decide +kernel, by decide +kernel, by decide +kernel⟩
theorem hd_X7_used : yX7_used.cls ≠ "java/lang/invoke/MethodHandle" ∧ yX7_used.cls ≠ "java/lang/invoke/VarHandle" ∧ (parseMethodDescriptor yX7_used.desc).map (fun d => d.parameters.length) = some 0 := ⟨by decide +kernel, by decide +kernel, by decide +kernel⟩
theorem hd_X7_faded : yX7_faded.cls ≠ "java/lang/invoke/MethodHandle" ∧ yX7_faded.cls ≠ "java/lang/invoke/VarHandle" ∧ (parseMethodDescriptor yX7_faded.desc).map (fun d => d.parameters.length) = some 0 := ⟨by decide +kernel, by decide +kernel, by decide +kernel⟩
theorem hd_X7_inkInWells : yX7_inkInWells.cls ≠ "java/lang/invoke/MethodHandle" ∧ yX7_inkInWells.cls ≠ "java/lang/invoke/VarHandle" ∧ (parseMethodDescriptor yX7_inkInWells.desc).map (fun d => d.parameters.length) = some 0 := ⟨by decide +kernel, by decide +kernel, by decide +kernel⟩
theorem hd_X7_meanRun : yX7_meanRun.cls ≠ "java/lang/invoke/MethodHandle" ∧ yX7_meanRun.cls ≠ "java/lang/invoke/VarHandle" ∧ (parseMethodDescriptor yX7_meanRun.desc).map (fun d => d.parameters.length) = some 0 := ⟨by decide +kernel, by decide +kernel, by decide +kernel⟩
theorem hd_X7_fadedShare : yX7_fadedShare.cls ≠ "java/lang/invoke/MethodHandle" ∧ yX7_fadedShare.cls ≠ "java/lang/invoke/VarHandle" ∧ (parseMethodDescriptor yX7_fadedShare.desc).map (fun d => d.parameters.length) = some 0 := ⟨by decide +kernel, by decide +kernel, by decide +kernel⟩
theorem hd_X7_writeEdition : yX7_writeEdition.cls ≠ "java/lang/invoke/MethodHandle" ∧ yX7_writeEdition.cls ≠ "java/lang/invoke/VarHandle" ∧ (parseMethodDescriptor yX7_writeEdition.desc).map (fun d => d.parameters.length) = some 1 := ⟨by decide +kernel, by decide +kernel, by decide +kernel⟩
theorem hd_X7_writeWells : yX7_writeWells.cls ≠ "java/lang/invoke/MethodHandle" ∧ yX7_writeWells.cls ≠ "java/lang/invoke/VarHandle" ∧ (parseMethodDescriptor yX7_writeWells.desc).map (fun d => d.parameters.length) = some 0 := ⟨by decide +kernel, by decide +kernel, by decide +kernel⟩
theorem hd_X7_lineAt : yX7_lineAt.cls ≠ "java/lang/invoke/MethodHandle" ∧ yX7_lineAt.cls ≠ "java/lang/invoke/VarHandle" ∧ (parseMethodDescriptor yX7_lineAt.desc).map (fun d => d.parameters.length) = some 1 := ⟨by decide +kernel, by decide +kernel, by decide +kernel⟩
theorem hd_X7_isConsistent : yX7_isConsistent.cls ≠ "java/lang/invoke/MethodHandle" ∧ yX7_isConsistent.cls ≠ "java/lang/invoke/VarHandle" ∧ (parseMethodDescriptor yX7_isConsistent.desc).map (fun d => d.parameters.length) = some 0 := ⟨by decide +kernel, by decide +kernel, by decide +kernel⟩
theorem hd_X7_type : yX7_type.cls ≠ "java/lang/invoke/MethodHandle" ∧ yX7_type.cls ≠ "java/lang/invoke/VarHandle" ∧ (parseMethodDescriptor yX7_type.desc).map (fun d => d.parameters.length) = some 1 := ⟨by decide +kernel, by decide +kernel, by decide +kernel⟩
theorem hd_X7_execute : yX7_execute.cls ≠ "java/lang/invoke/MethodHandle" ∧ yX7_execute.cls ≠ "java/lang/invoke/VarHandle" ∧ (parseMethodDescriptor yX7_execute.desc).map (fun d => d.parameters.length) = some 0 := ⟨by decide +kernel, by decide +kernel, by decide +kernel⟩
theorem hd_X7_errorPosition : yX7_errorPosition.cls ≠ "java/lang/invoke/MethodHandle" ∧ yX7_errorPosition.cls ≠ "java/lang/invoke/VarHandle" ∧ (parseMethodDescriptor yX7_errorPosition.desc).map (fun d => d.parameters.length) = some 0 := ⟨by decide +kernel, by decide +kernel, by decide +kernel⟩
theorem hd_X7_failedCommand : yX7_failedCommand.cls ≠ "java/lang/invoke/MethodHandle" ∧ yX7_failedCommand.cls ≠ "java/lang/invoke/VarHandle" ∧ (parseMethodDescriptor yX7_failedCommand.desc).map (fun d => d.parameters.length) = some 0 := ⟨by decide +kernel, by decide +kernel, by decide +kernel⟩
theorem hd_X7_undo : yX7_undo.cls ≠ "java/lang/invoke/MethodHandle" ∧ yX7_undo.cls ≠ "java/lang/invoke/VarHandle" ∧ (parseMethodDescriptor yX7_undo.desc).map (fun d => d.parameters.length) = some 0 := ⟨by decide +kernel, by decide +kernel, by decide +kernel⟩
theorem hd_X7_save : yX7_save.cls ≠ "java/lang/invoke/MethodHandle" ∧ yX7_save.cls ≠ "java/lang/invoke/VarHandle" ∧ (parseMethodDescriptor yX7_save.desc).map (fun d => d.parameters.length) = some 0 := ⟨by decide +kernel, by decide +kernel, by decide +kernel⟩
theorem hd_X7_restore : yX7_restore.cls ≠ "java/lang/invoke/MethodHandle" ∧ yX7_restore.cls ≠ "java/lang/invoke/VarHandle" ∧ (parseMethodDescriptor yX7_restore.desc).map (fun d => d.parameters.length) = some 0 := ⟨by decide +kernel, by decide +kernel, by decide +kernel⟩
theorem hd_X7_modify : yX7_modify.cls ≠ "java/lang/invoke/MethodHandle" ∧ yX7_modify.cls ≠ "java/lang/invoke/VarHandle" ∧ (parseMethodDescriptor yX7_modify.desc).map (fun d => d.parameters.length) = some 3 := ⟨by decide +kernel, by decide +kernel, by decide +kernel⟩
theorem hd_X7_carryOut : yX7_carryOut.cls ≠ "java/lang/invoke/MethodHandle" ∧ yX7_carryOut.cls ≠ "java/lang/invoke/VarHandle" ∧ (parseMethodDescriptor yX7_carryOut.desc).map (fun d => d.parameters.length) = some 3 := ⟨by decide +kernel, by decide +kernel, by decide +kernel⟩
theorem hd_X7_carryOutText : yX7_carryOutText.cls ≠ "java/lang/invoke/MethodHandle" ∧ yX7_carryOutText.cls ≠ "java/lang/invoke/VarHandle" ∧ (parseMethodDescriptor yX7_carryOutText.desc).map (fun d => d.parameters.length) = some 0 := ⟨by decide +kernel, by decide +kernel, by decide +kernel⟩
theorem hd_X7_printOpenEditions : yX7_printOpenEditions.cls ≠ "java/lang/invoke/MethodHandle" ∧ yX7_printOpenEditions.cls ≠ "java/lang/invoke/VarHandle" ∧ (parseMethodDescriptor yX7_printOpenEditions.desc).map (fun d => d.parameters.length) = some 0 := ⟨by decide +kernel, by decide +kernel, by decide +kernel⟩
theorem hd_X7_inkWaysAgree : yX7_inkWaysAgree.cls ≠ "java/lang/invoke/MethodHandle" ∧ yX7_inkWaysAgree.cls ≠ "java/lang/invoke/VarHandle" ∧ (parseMethodDescriptor yX7_inkWaysAgree.desc).map (fun d => d.parameters.length) = some 0 := ⟨by decide +kernel, by decide +kernel, by decide +kernel⟩
theorem hd_X7_shareWaysAgree : yX7_shareWaysAgree.cls ≠ "java/lang/invoke/MethodHandle" ∧ yX7_shareWaysAgree.cls ≠ "java/lang/invoke/VarHandle" ∧ (parseMethodDescriptor yX7_shareWaysAgree.desc).map (fun d => d.parameters.length) = some 0 := ⟨by decide +kernel, by decide +kernel, by decide +kernel⟩
theorem hd_X7_inkIsAccountedFor : yX7_inkIsAccountedFor.cls ≠ "java/lang/invoke/MethodHandle" ∧ yX7_inkIsAccountedFor.cls ≠ "java/lang/invoke/VarHandle" ∧ (parseMethodDescriptor yX7_inkIsAccountedFor.desc).map (fun d => d.parameters.length) = some 0 := ⟨by decide +kernel, by decide +kernel, by decide +kernel⟩
theorem hd_X7_throwIfRefused : yX7_throwIfRefused.cls ≠ "java/lang/invoke/MethodHandle" ∧ yX7_throwIfRefused.cls ≠ "java/lang/invoke/VarHandle" ∧ (parseMethodDescriptor yX7_throwIfRefused.desc).map (fun d => d.parameters.length) = some 1 := ⟨by decide +kernel, by decide +kernel, by decide +kernel⟩
theorem hd_X7_requireArgument : yX7_requireArgument.cls ≠ "java/lang/invoke/MethodHandle" ∧ yX7_requireArgument.cls ≠ "java/lang/invoke/VarHandle" ∧ (parseMethodDescriptor yX7_requireArgument.desc).map (fun d => d.parameters.length) = some 1 := ⟨by decide +kernel, by decide +kernel, by decide +kernel⟩
theorem hd_X7_requireState : yX7_requireState.cls ≠ "java/lang/invoke/MethodHandle" ∧ yX7_requireState.cls ≠ "java/lang/invoke/VarHandle" ∧ (parseMethodDescriptor yX7_requireState.desc).map (fun d => d.parameters.length) = some 1 := ⟨by decide +kernel, by decide +kernel, by decide +kernel⟩
theorem hd_X7_requireIndex : yX7_requireIndex.cls ≠ "java/lang/invoke/MethodHandle" ∧ yX7_requireIndex.cls ≠ "java/lang/invoke/VarHandle" ∧ (parseMethodDescriptor yX7_requireIndex.desc).map (fun d => d.parameters.length) = some 1 := ⟨by decide +kernel, by decide +kernel, by decide +kernel⟩
theorem hd_X7_requireElement : yX7_requireElement.cls ≠ "java/lang/invoke/MethodHandle" ∧ yX7_requireElement.cls ≠ "java/lang/invoke/VarHandle" ∧ (parseMethodDescriptor yX7_requireElement.desc).map (fun d => d.parameters.length) = some 1 := ⟨by decide +kernel, by decide +kernel, by decide +kernel⟩
theorem hd_X7_isColour : yX7_isColour.cls ≠ "java/lang/invoke/MethodHandle" ∧ yX7_isColour.cls ≠ "java/lang/invoke/VarHandle" ∧ (parseMethodDescriptor yX7_isColour.desc).map (fun d => d.parameters.length) = some 1 := ⟨by decide +kernel, by decide +kernel, by decide +kernel⟩
theorem hd_X7_isWithin : yX7_isWithin.cls ≠ "java/lang/invoke/MethodHandle" ∧ yX7_isWithin.cls ≠ "java/lang/invoke/VarHandle" ∧ (parseMethodDescriptor yX7_isWithin.desc).map (fun d => d.parameters.length) = some 3 := ⟨by decide +kernel, by decide +kernel, by decide +kernel⟩
theorem hd_X7_washMinutes : yX7_washMinutes.cls ≠ "java/lang/invoke/MethodHandle" ∧ yX7_washMinutes.cls ≠ "java/lang/invoke/VarHandle" ∧ (parseMethodDescriptor yX7_washMinutes.desc).map (fun d => d.parameters.length) = some 2 := ⟨by decide +kernel, by decide +kernel, by decide +kernel⟩
theorem hd_X7_sumOf : yX7_sumOf.cls ≠ "java/lang/invoke/MethodHandle" ∧ yX7_sumOf.cls ≠ "java/lang/invoke/VarHandle" ∧ (parseMethodDescriptor yX7_sumOf.desc).map (fun d => d.parameters.length) = some 2 := ⟨by decide +kernel, by decide +kernel, by decide +kernel⟩
theorem hd_X8_init : yX8_init.cls ≠ "java/lang/invoke/MethodHandle" ∧ yX8_init.cls ≠ "java/lang/invoke/VarHandle" ∧ (parseMethodDescriptor yX8_init.desc).map (fun d => d.parameters.length) = some 0 := ⟨by decide +kernel, by decide +kernel, by decide +kernel⟩
theorem hd_X8_thrown : yX8_thrown.cls ≠ "java/lang/invoke/MethodHandle" ∧ yX8_thrown.cls ≠ "java/lang/invoke/VarHandle" ∧ (parseMethodDescriptor yX8_thrown.desc).map (fun d => d.parameters.length) = some 0 := ⟨by decide +kernel, by decide +kernel, by decide +kernel⟩
theorem hd_X8_in : yX8_in.cls ≠ "java/lang/invoke/MethodHandle" ∧ yX8_in.cls ≠ "java/lang/invoke/VarHandle" ∧ (parseMethodDescriptor yX8_in.desc).map (fun d => d.parameters.length) = some 3 := ⟨by decide +kernel, by decide +kernel, by decide +kernel⟩
theorem hd_X8_less : yX8_less.cls ≠ "java/lang/invoke/MethodHandle" ∧ yX8_less.cls ≠ "java/lang/invoke/VarHandle" ∧ (parseMethodDescriptor yX8_less.desc).map (fun d => d.parameters.length) = some 2 := ⟨by decide +kernel, by decide +kernel, by decide +kernel⟩
theorem hd_X8_copy : yX8_copy.cls ≠ "java/lang/invoke/MethodHandle" ∧ yX8_copy.cls ≠ "java/lang/invoke/VarHandle" ∧ (parseMethodDescriptor yX8_copy.desc).map (fun d => d.parameters.length) = some 4 := ⟨by decide +kernel, by decide +kernel, by decide +kernel⟩
theorem hd_X8_fail : yX8_fail.cls ≠ "java/lang/invoke/MethodHandle" ∧ yX8_fail.cls ≠ "java/lang/invoke/VarHandle" ∧ (parseMethodDescriptor yX8_fail.desc).map (fun d => d.parameters.length) = some 1 := ⟨by decide +kernel, by decide +kernel, by decide +kernel⟩
theorem hd_X8_begin : yX8_begin.cls ≠ "java/lang/invoke/MethodHandle" ∧ yX8_begin.cls ≠ "java/lang/invoke/VarHandle" ∧ (parseMethodDescriptor yX8_begin.desc).map (fun d => d.parameters.length) = some 0 := ⟨by decide +kernel, by decide +kernel, by decide +kernel⟩
theorem hd_X8_commit : yX8_commit.cls ≠ "java/lang/invoke/MethodHandle" ∧ yX8_commit.cls ≠ "java/lang/invoke/VarHandle" ∧ (parseMethodDescriptor yX8_commit.desc).map (fun d => d.parameters.length) = some 1 := ⟨by decide +kernel, by decide +kernel, by decide +kernel⟩
theorem hd_X8_plain : yX8_plain.cls ≠ "java/lang/invoke/MethodHandle" ∧ yX8_plain.cls ≠ "java/lang/invoke/VarHandle" ∧ (parseMethodDescriptor yX8_plain.desc).map (fun d => d.parameters.length) = some 1 := ⟨by decide +kernel, by decide +kernel, by decide +kernel⟩
theorem hd_X8_checked : yX8_checked.cls ≠ "java/lang/invoke/MethodHandle" ∧ yX8_checked.cls ≠ "java/lang/invoke/VarHandle" ∧ (parseMethodDescriptor yX8_checked.desc).map (fun d => d.parameters.length) = some 1 := ⟨by decide +kernel, by decide +kernel, by decide +kernel⟩
theorem hd_X8_isColour : yX8_isColour.cls ≠ "java/lang/invoke/MethodHandle" ∧ yX8_isColour.cls ≠ "java/lang/invoke/VarHandle" ∧ (parseMethodDescriptor yX8_isColour.desc).map (fun d => d.parameters.length) = some 1 := ⟨by decide +kernel, by decide +kernel, by decide +kernel⟩
theorem hd_X8_cannotPour : yX8_cannotPour.cls ≠ "java/lang/invoke/MethodHandle" ∧ yX8_cannotPour.cls ≠ "java/lang/invoke/VarHandle" ∧ (parseMethodDescriptor yX8_cannotPour.desc).map (fun d => d.parameters.length) = some 2 := ⟨by decide +kernel, by decide +kernel, by decide +kernel⟩
theorem hd_X8_pours : yX8_pours.cls ≠ "java/lang/invoke/MethodHandle" ∧ yX8_pours.cls ≠ "java/lang/invoke/VarHandle" ∧ (parseMethodDescriptor yX8_pours.desc).map (fun d => d.parameters.length) = some 2 := ⟨by decide +kernel, by decide +kernel, by decide +kernel⟩
theorem hd_X8_addInk : yX8_addInk.cls ≠ "java/lang/invoke/MethodHandle" ∧ yX8_addInk.cls ≠ "java/lang/invoke/VarHandle" ∧ (parseMethodDescriptor yX8_addInk.desc).map (fun d => d.parameters.length) = some 2 := ⟨by decide +kernel, by decide +kernel, by decide +kernel⟩
theorem hd_X8_cannotBuy : yX8_cannotBuy.cls ≠ "java/lang/invoke/MethodHandle" ∧ yX8_cannotBuy.cls ≠ "java/lang/invoke/VarHandle" ∧ (parseMethodDescriptor yX8_cannotBuy.desc).map (fun d => d.parameters.length) = some 1 := ⟨by decide +kernel, by decide +kernel, by decide +kernel⟩
theorem hd_X8_buys : yX8_buys.cls ≠ "java/lang/invoke/MethodHandle" ∧ yX8_buys.cls ≠ "java/lang/invoke/VarHandle" ∧ (parseMethodDescriptor yX8_buys.desc).map (fun d => d.parameters.length) = some 1 := ⟨by decide +kernel, by decide +kernel, by decide +kernel⟩
theorem hd_X8_addPaper : yX8_addPaper.cls ≠ "java/lang/invoke/MethodHandle" ∧ yX8_addPaper.cls ≠ "java/lang/invoke/VarHandle" ∧ (parseMethodDescriptor yX8_addPaper.desc).map (fun d => d.parameters.length) = some 1 := ⟨by decide +kernel, by decide +kernel, by decide +kernel⟩
theorem hd_X8_passes : yX8_passes.cls ≠ "java/lang/invoke/MethodHandle" ∧ yX8_passes.cls ≠ "java/lang/invoke/VarHandle" ∧ (parseMethodDescriptor yX8_passes.desc).map (fun d => d.parameters.length) = some 1 := ⟨by decide +kernel, by decide +kernel, by decide +kernel⟩
theorem hd_X8_pass : yX8_pass.cls ≠ "java/lang/invoke/MethodHandle" ∧ yX8_pass.cls ≠ "java/lang/invoke/VarHandle" ∧ (parseMethodDescriptor yX8_pass.desc).map (fun d => d.parameters.length) = some 1 := ⟨by decide +kernel, by decide +kernel, by decide +kernel⟩
theorem hd_X8_ink : yX8_ink.cls ≠ "java/lang/invoke/MethodHandle" ∧ yX8_ink.cls ≠ "java/lang/invoke/VarHandle" ∧ (parseMethodDescriptor yX8_ink.desc).map (fun d => d.parameters.length) = some 1 := ⟨by decide +kernel, by decide +kernel, by decide +kernel⟩
theorem hd_X8_paper : yX8_paper.cls ≠ "java/lang/invoke/MethodHandle" ∧ yX8_paper.cls ≠ "java/lang/invoke/VarHandle" ∧ (parseMethodDescriptor yX8_paper.desc).map (fun d => d.parameters.length) = some 0 := ⟨by decide +kernel, by decide +kernel, by decide +kernel⟩
theorem hd_X8_hour : yX8_hour.cls ≠ "java/lang/invoke/MethodHandle" ∧ yX8_hour.cls ≠ "java/lang/invoke/VarHandle" ∧ (parseMethodDescriptor yX8_hour.desc).map (fun d => d.parameters.length) = some 0 := ⟨by decide +kernel, by decide +kernel, by decide +kernel⟩
theorem hd_X8_leftAfter : yX8_leftAfter.cls ≠ "java/lang/invoke/MethodHandle" ∧ yX8_leftAfter.cls ≠ "java/lang/invoke/VarHandle" ∧ (parseMethodDescriptor yX8_leftAfter.desc).map (fun d => d.parameters.length) = some 2 := ⟨by decide +kernel, by decide +kernel, by decide +kernel⟩
theorem hd_X8_after : yX8_after.cls ≠ "java/lang/invoke/MethodHandle" ∧ yX8_after.cls ≠ "java/lang/invoke/VarHandle" ∧ (parseMethodDescriptor yX8_after.desc).map (fun d => d.parameters.length) = some 2 := ⟨by decide +kernel, by decide +kernel, by decide +kernel⟩
theorem hd_X8_inkAfter : yX8_inkAfter.cls ≠ "java/lang/invoke/MethodHandle" ∧ yX8_inkAfter.cls ≠ "java/lang/invoke/VarHandle" ∧ (parseMethodDescriptor yX8_inkAfter.desc).map (fun d => d.parameters.length) = some 2 := ⟨by decide +kernel, by decide +kernel, by decide +kernel⟩
theorem hd_X8_inkByHalvings : yX8_inkByHalvings.cls ≠ "java/lang/invoke/MethodHandle" ∧ yX8_inkByHalvings.cls ≠ "java/lang/invoke/VarHandle" ∧ (parseMethodDescriptor yX8_inkByHalvings.desc).map (fun d => d.parameters.length) = some 2 := ⟨by decide +kernel, by decide +kernel, by decide +kernel⟩
theorem hd_X8_hoursUntilLess : yX8_hoursUntilLess.cls ≠ "java/lang/invoke/MethodHandle" ∧ yX8_hoursUntilLess.cls ≠ "java/lang/invoke/VarHandle" ∧ (parseMethodDescriptor yX8_hoursUntilLess.desc).map (fun d => d.parameters.length) = some 2 := ⟨by decide +kernel, by decide +kernel, by decide +kernel⟩
theorem hd_X8_e : yX8_e.cls ≠ "java/lang/invoke/MethodHandle" ∧ yX8_e.cls ≠ "java/lang/invoke/VarHandle" ∧ (parseMethodDescriptor yX8_e.desc).map (fun d => d.parameters.length) = some 2 := ⟨by decide +kernel, by decide +kernel, by decide +kernel⟩
theorem hd_X8_isEdition : yX8_isEdition.cls ≠ "java/lang/invoke/MethodHandle" ∧ yX8_isEdition.cls ≠ "java/lang/invoke/VarHandle" ∧ (parseMethodDescriptor yX8_isEdition.desc).map (fun d => d.parameters.length) = some 1 := ⟨by decide +kernel, by decide +kernel, by decide +kernel⟩
theorem hd_X8_missing : yX8_missing.cls ≠ "java/lang/invoke/MethodHandle" ∧ yX8_missing.cls ≠ "java/lang/invoke/VarHandle" ∧ (parseMethodDescriptor yX8_missing.desc).map (fun d => d.parameters.length) = some 1 := ⟨by decide +kernel, by decide +kernel, by decide +kernel⟩
theorem hd_X8_cannotAdd : yX8_cannotAdd.cls ≠ "java/lang/invoke/MethodHandle" ∧ yX8_cannotAdd.cls ≠ "java/lang/invoke/VarHandle" ∧ (parseMethodDescriptor yX8_cannotAdd.desc).map (fun d => d.parameters.length) = some 2 := ⟨by decide +kernel, by decide +kernel, by decide +kernel⟩
theorem hd_X8_adds : yX8_adds.cls ≠ "java/lang/invoke/MethodHandle" ∧ yX8_adds.cls ≠ "java/lang/invoke/VarHandle" ∧ (parseMethodDescriptor yX8_adds.desc).map (fun d => d.parameters.length) = some 2 := ⟨by decide +kernel, by decide +kernel, by decide +kernel⟩
theorem hd_X8_addEdition : yX8_addEdition.cls ≠ "java/lang/invoke/MethodHandle" ∧ yX8_addEdition.cls ≠ "java/lang/invoke/VarHandle" ∧ (parseMethodDescriptor yX8_addEdition.desc).map (fun d => d.parameters.length) = some 2 := ⟨by decide +kernel, by decide +kernel, by decide +kernel⟩
theorem hd_X8_removes : yX8_removes.cls ≠ "java/lang/invoke/MethodHandle" ∧ yX8_removes.cls ≠ "java/lang/invoke/VarHandle" ∧ (parseMethodDescriptor yX8_removes.desc).map (fun d => d.parameters.length) = some 1 := ⟨by decide +kernel, by decide +kernel, by decide +kernel⟩
theorem hd_X8_removeEdition : yX8_removeEdition.cls ≠ "java/lang/invoke/MethodHandle" ∧ yX8_removeEdition.cls ≠ "java/lang/invoke/VarHandle" ∧ (parseMethodDescriptor yX8_removeEdition.desc).map (fun d => d.parameters.length) = some 1 := ⟨by decide +kernel, by decide +kernel, by decide +kernel⟩
theorem hd_X8_change : yX8_change.cls ≠ "java/lang/invoke/MethodHandle" ∧ yX8_change.cls ≠ "java/lang/invoke/VarHandle" ∧ (parseMethodDescriptor yX8_change.desc).map (fun d => d.parameters.length) = some 2 := ⟨by decide +kernel, by decide +kernel, by decide +kernel⟩
theorem hd_X8_ofWell : yX8_ofWell.cls ≠ "java/lang/invoke/MethodHandle" ∧ yX8_ofWell.cls ≠ "java/lang/invoke/VarHandle" ∧ (parseMethodDescriptor yX8_ofWell.desc).map (fun d => d.parameters.length) = some 1 := ⟨by decide +kernel, by decide +kernel, by decide +kernel⟩
theorem hd_X8_prints : yX8_prints.cls ≠ "java/lang/invoke/MethodHandle" ∧ yX8_prints.cls ≠ "java/lang/invoke/VarHandle" ∧ (parseMethodDescriptor yX8_prints.desc).map (fun d => d.parameters.length) = some 2 := ⟨by decide +kernel, by decide +kernel, by decide +kernel⟩
theorem hd_X8_cannotPrint : yX8_cannotPrint.cls ≠ "java/lang/invoke/MethodHandle" ∧ yX8_cannotPrint.cls ≠ "java/lang/invoke/VarHandle" ∧ (parseMethodDescriptor yX8_cannotPrint.desc).map (fun d => d.parameters.length) = some 1 := ⟨by decide +kernel, by decide +kernel, by decide +kernel⟩
theorem hd_X8_printsOne : yX8_printsOne.cls ≠ "java/lang/invoke/MethodHandle" ∧ yX8_printsOne.cls ≠ "java/lang/invoke/VarHandle" ∧ (parseMethodDescriptor yX8_printsOne.desc).map (fun d => d.parameters.length) = some 1 := ⟨by decide +kernel, by decide +kernel, by decide +kernel⟩
theorem hd_X8_print : yX8_print.cls ≠ "java/lang/invoke/MethodHandle" ∧ yX8_print.cls ≠ "java/lang/invoke/VarHandle" ∧ (parseMethodDescriptor yX8_print.desc).map (fun d => d.parameters.length) = some 1 := ⟨by decide +kernel, by decide +kernel, by decide +kernel⟩
theorem hd_X8_open : yX8_open.cls ≠ "java/lang/invoke/MethodHandle" ∧ yX8_open.cls ≠ "java/lang/invoke/VarHandle" ∧ (parseMethodDescriptor yX8_open.desc).map (fun d => d.parameters.length) = some 0 := ⟨by decide +kernel, by decide +kernel, by decide +kernel⟩
theorem hd_X8_changeTo : yX8_changeTo.cls ≠ "java/lang/invoke/MethodHandle" ∧ yX8_changeTo.cls ≠ "java/lang/invoke/VarHandle" ∧ (parseMethodDescriptor yX8_changeTo.desc).map (fun d => d.parameters.length) = some 2 := ⟨by decide +kernel, by decide +kernel, by decide +kernel⟩
theorem hd_X8_with : yX8_with.cls ≠ "java/lang/invoke/MethodHandle" ∧ yX8_with.cls ≠ "java/lang/invoke/VarHandle" ∧ (parseMethodDescriptor yX8_with.desc).map (fun d => d.parameters.length) = some 3 := ⟨by decide +kernel, by decide +kernel, by decide +kernel⟩
theorem hd_X8_lay : yX8_lay.cls ≠ "java/lang/invoke/MethodHandle" ∧ yX8_lay.cls ≠ "java/lang/invoke/VarHandle" ∧ (parseMethodDescriptor yX8_lay.desc).map (fun d => d.parameters.length) = some 0 := ⟨by decide +kernel, by decide +kernel, by decide +kernel⟩
theorem hd_X8_laysOrder : yX8_laysOrder.cls ≠ "java/lang/invoke/MethodHandle" ∧ yX8_laysOrder.cls ≠ "java/lang/invoke/VarHandle" ∧ (parseMethodDescriptor yX8_laysOrder.desc).map (fun d => d.parameters.length) = some 0 := ⟨by decide +kernel, by decide +kernel, by decide +kernel⟩
theorem hd_X8_minutesOfBest : yX8_minutesOfBest.cls ≠ "java/lang/invoke/MethodHandle" ∧ yX8_minutesOfBest.cls ≠ "java/lang/invoke/VarHandle" ∧ (parseMethodDescriptor yX8_minutesOfBest.desc).map (fun d => d.parameters.length) = some 0 := ⟨by decide +kernel, by decide +kernel, by decide +kernel⟩
theorem hd_X8_changeMinutes : yX8_changeMinutes.cls ≠ "java/lang/invoke/MethodHandle" ∧ yX8_changeMinutes.cls ≠ "java/lang/invoke/VarHandle" ∧ (parseMethodDescriptor yX8_changeMinutes.desc).map (fun d => d.parameters.length) = some 2 := ⟨by decide +kernel, by decide +kernel, by decide +kernel⟩
theorem hd_X8_pressColour : yX8_pressColour.cls ≠ "java/lang/invoke/MethodHandle" ∧ yX8_pressColour.cls ≠ "java/lang/invoke/VarHandle" ∧ (parseMethodDescriptor yX8_pressColour.desc).map (fun d => d.parameters.length) = some 0 := ⟨by decide +kernel, by decide +kernel, by decide +kernel⟩
theorem hd_X8_fewestMinutes : yX8_fewestMinutes.cls ≠ "java/lang/invoke/MethodHandle" ∧ yX8_fewestMinutes.cls ≠ "java/lang/invoke/VarHandle" ∧ (parseMethodDescriptor yX8_fewestMinutes.desc).map (fun d => d.parameters.length) = some 0 := ⟨by decide +kernel, by decide +kernel, by decide +kernel⟩
theorem hd_X8_minutesByOrders : yX8_minutesByOrders.cls ≠ "java/lang/invoke/MethodHandle" ∧ yX8_minutesByOrders.cls ≠ "java/lang/invoke/VarHandle" ∧ (parseMethodDescriptor yX8_minutesByOrders.desc).map (fun d => d.parameters.length) = some 0 := ⟨by decide +kernel, by decide +kernel, by decide +kernel⟩
theorem hd_X8_editionAt : yX8_editionAt.cls ≠ "java/lang/invoke/MethodHandle" ∧ yX8_editionAt.cls ≠ "java/lang/invoke/VarHandle" ∧ (parseMethodDescriptor yX8_editionAt.desc).map (fun d => d.parameters.length) = some 1 := ⟨by decide +kernel, by decide +kernel, by decide +kernel⟩
theorem hd_X8_nextShare : yX8_nextShare.cls ≠ "java/lang/invoke/MethodHandle" ∧ yX8_nextShare.cls ≠ "java/lang/invoke/VarHandle" ∧ (parseMethodDescriptor yX8_nextShare.desc).map (fun d => d.parameters.length) = some 0 := ⟨by decide +kernel, by decide +kernel, by decide +kernel⟩
theorem hd_X8_share : yX8_share.cls ≠ "java/lang/invoke/MethodHandle" ∧ yX8_share.cls ≠ "java/lang/invoke/VarHandle" ∧ (parseMethodDescriptor yX8_share.desc).map (fun d => d.parameters.length) = some 0 := ⟨by decide +kernel, by decide +kernel, by decide +kernel⟩
theorem hd_X8_sharing : yX8_sharing.cls ≠ "java/lang/invoke/MethodHandle" ∧ yX8_sharing.cls ≠ "java/lang/invoke/VarHandle" ∧ (parseMethodDescriptor yX8_sharing.desc).map (fun d => d.parameters.length) = some 1 := ⟨by decide +kernel, by decide +kernel, by decide +kernel⟩
theorem hd_X8_shareOf : yX8_shareOf.cls ≠ "java/lang/invoke/MethodHandle" ∧ yX8_shareOf.cls ≠ "java/lang/invoke/VarHandle" ∧ (parseMethodDescriptor yX8_shareOf.desc).map (fun d => d.parameters.length) = some 1 := ⟨by decide +kernel, by decide +kernel, by decide +kernel⟩
theorem hd_X8_shareByLevel : yX8_shareByLevel.cls ≠ "java/lang/invoke/MethodHandle" ∧ yX8_shareByLevel.cls ≠ "java/lang/invoke/VarHandle" ∧ (parseMethodDescriptor yX8_shareByLevel.desc).map (fun d => d.parameters.length) = some 1 := ⟨by decide +kernel, by decide +kernel, by decide +kernel⟩
theorem hd_X8_printsAll : yX8_printsAll.cls ≠ "java/lang/invoke/MethodHandle" ∧ yX8_printsAll.cls ≠ "java/lang/invoke/VarHandle" ∧ (parseMethodDescriptor yX8_printsAll.desc).map (fun d => d.parameters.length) = some 0 := ⟨by decide +kernel, by decide +kernel, by decide +kernel⟩
theorem hd_X8_printAll : yX8_printAll.cls ≠ "java/lang/invoke/MethodHandle" ∧ yX8_printAll.cls ≠ "java/lang/invoke/VarHandle" ∧ (parseMethodDescriptor yX8_printAll.desc).map (fun d => d.parameters.length) = some 0 := ⟨by decide +kernel, by decide +kernel, by decide +kernel⟩
theorem hd_X8_editionCount : yX8_editionCount.cls ≠ "java/lang/invoke/MethodHandle" ∧ yX8_editionCount.cls ≠ "java/lang/invoke/VarHandle" ∧ (parseMethodDescriptor yX8_editionCount.desc).map (fun d => d.parameters.length) = some 0 := ⟨by decide +kernel, by decide +kernel, by decide +kernel⟩
theorem hd_X8_of : yX8_of.cls ≠ "java/lang/invoke/MethodHandle" ∧ yX8_of.cls ≠ "java/lang/invoke/VarHandle" ∧ (parseMethodDescriptor yX8_of.desc).map (fun d => d.parameters.length) = some 2 := ⟨by decide +kernel, by decide +kernel, by decide +kernel⟩
theorem hd_X8_colourOf : yX8_colourOf.cls ≠ "java/lang/invoke/MethodHandle" ∧ yX8_colourOf.cls ≠ "java/lang/invoke/VarHandle" ∧ (parseMethodDescriptor yX8_colourOf.desc).map (fun d => d.parameters.length) = some 1 := ⟨by decide +kernel, by decide +kernel, by decide +kernel⟩
theorem hd_X8_runOf : yX8_runOf.cls ≠ "java/lang/invoke/MethodHandle" ∧ yX8_runOf.cls ≠ "java/lang/invoke/VarHandle" ∧ (parseMethodDescriptor yX8_runOf.desc).map (fun d => d.parameters.length) = some 1 := ⟨by decide +kernel, by decide +kernel, by decide +kernel⟩
theorem hd_X8_printedOf : yX8_printedOf.cls ≠ "java/lang/invoke/MethodHandle" ∧ yX8_printedOf.cls ≠ "java/lang/invoke/VarHandle" ∧ (parseMethodDescriptor yX8_printedOf.desc).map (fun d => d.parameters.length) = some 1 := ⟨by decide +kernel, by decide +kernel, by decide +kernel⟩
theorem hd_X8_isComplete : yX8_isComplete.cls ≠ "java/lang/invoke/MethodHandle" ∧ yX8_isComplete.cls ≠ "java/lang/invoke/VarHandle" ∧ (parseMethodDescriptor yX8_isComplete.desc).map (fun d => d.parameters.length) = some 1 := ⟨by decide +kernel, by decide +kernel, by decide +kernel⟩
theorem hd_X8_editionByMissing : yX8_editionByMissing.cls ≠ "java/lang/invoke/MethodHandle" ∧ yX8_editionByMissing.cls ≠ "java/lang/invoke/VarHandle" ∧ (parseMethodDescriptor yX8_editionByMissing.desc).map (fun d => d.parameters.length) = some 1 := ⟨by decide +kernel, by decide +kernel, by decide +kernel⟩
theorem hd_X8_p : yX8_p.cls ≠ "java/lang/invoke/MethodHandle" ∧ yX8_p.cls ≠ "java/lang/invoke/VarHandle" ∧ (parseMethodDescriptor yX8_p.desc).map (fun d => d.parameters.length) = some 2 := ⟨by decide +kernel, by decide +kernel, by decide +kernel⟩
theorem hd_X8_isProof : yX8_isProof.cls ≠ "java/lang/invoke/MethodHandle" ∧ yX8_isProof.cls ≠ "java/lang/invoke/VarHandle" ∧ (parseMethodDescriptor yX8_isProof.desc).map (fun d => d.parameters.length) = some 1 := ⟨by decide +kernel, by decide +kernel, by decide +kernel⟩
theorem hd_X8_cannotProve : yX8_cannotProve.cls ≠ "java/lang/invoke/MethodHandle" ∧ yX8_cannotProve.cls ≠ "java/lang/invoke/VarHandle" ∧ (parseMethodDescriptor yX8_cannotProve.desc).map (fun d => d.parameters.length) = some 1 := ⟨by decide +kernel, by decide +kernel, by decide +kernel⟩
theorem hd_X8_proves : yX8_proves.cls ≠ "java/lang/invoke/MethodHandle" ∧ yX8_proves.cls ≠ "java/lang/invoke/VarHandle" ∧ (parseMethodDescriptor yX8_proves.desc).map (fun d => d.parameters.length) = some 1 := ⟨by decide +kernel, by decide +kernel, by decide +kernel⟩
theorem hd_X8_addProof : yX8_addProof.cls ≠ "java/lang/invoke/MethodHandle" ∧ yX8_addProof.cls ≠ "java/lang/invoke/VarHandle" ∧ (parseMethodDescriptor yX8_addProof.desc).map (fun d => d.parameters.length) = some 1 := ⟨by decide +kernel, by decide +kernel, by decide +kernel⟩
theorem hd_X8_drops : yX8_drops.cls ≠ "java/lang/invoke/MethodHandle" ∧ yX8_drops.cls ≠ "java/lang/invoke/VarHandle" ∧ (parseMethodDescriptor yX8_drops.desc).map (fun d => d.parameters.length) = some 1 := ⟨by decide +kernel, by decide +kernel, by decide +kernel⟩
theorem hd_X8_dropProof : yX8_dropProof.cls ≠ "java/lang/invoke/MethodHandle" ∧ yX8_dropProof.cls ≠ "java/lang/invoke/VarHandle" ∧ (parseMethodDescriptor yX8_dropProof.desc).map (fun d => d.parameters.length) = some 1 := ⟨by decide +kernel, by decide +kernel, by decide +kernel⟩
theorem hd_X8_proofCount : yX8_proofCount.cls ≠ "java/lang/invoke/MethodHandle" ∧ yX8_proofCount.cls ≠ "java/lang/invoke/VarHandle" ∧ (parseMethodDescriptor yX8_proofCount.desc).map (fun d => d.parameters.length) = some 0 := ⟨by decide +kernel, by decide +kernel, by decide +kernel⟩
theorem hd_X8_marksOf : yX8_marksOf.cls ≠ "java/lang/invoke/MethodHandle" ∧ yX8_marksOf.cls ≠ "java/lang/invoke/VarHandle" ∧ (parseMethodDescriptor yX8_marksOf.desc).map (fun d => d.parameters.length) = some 1 := ⟨by decide +kernel, by decide +kernel, by decide +kernel⟩
theorem hd_X8_hourOf : yX8_hourOf.cls ≠ "java/lang/invoke/MethodHandle" ∧ yX8_hourOf.cls ≠ "java/lang/invoke/VarHandle" ∧ (parseMethodDescriptor yX8_hourOf.desc).map (fun d => d.parameters.length) = some 1 := ⟨by decide +kernel, by decide +kernel, by decide +kernel⟩
theorem hd_X8_rises : yX8_rises.cls ≠ "java/lang/invoke/MethodHandle" ∧ yX8_rises.cls ≠ "java/lang/invoke/VarHandle" ∧ (parseMethodDescriptor yX8_rises.desc).map (fun d => d.parameters.length) = some 0 := ⟨by decide +kernel, by decide +kernel, by decide +kernel⟩
theorem hd_X8_longestRise : yX8_longestRise.cls ≠ "java/lang/invoke/MethodHandle" ∧ yX8_longestRise.cls ≠ "java/lang/invoke/VarHandle" ∧ (parseMethodDescriptor yX8_longestRise.desc).map (fun d => d.parameters.length) = some 0 := ⟨by decide +kernel, by decide +kernel, by decide +kernel⟩
theorem hd_X8_riseByEnds : yX8_riseByEnds.cls ≠ "java/lang/invoke/MethodHandle" ∧ yX8_riseByEnds.cls ≠ "java/lang/invoke/VarHandle" ∧ (parseMethodDescriptor yX8_riseByEnds.desc).map (fun d => d.parameters.length) = some 0 := ⟨by decide +kernel, by decide +kernel, by decide +kernel⟩
theorem hd_X8_riseCount : yX8_riseCount.cls ≠ "java/lang/invoke/MethodHandle" ∧ yX8_riseCount.cls ≠ "java/lang/invoke/VarHandle" ∧ (parseMethodDescriptor yX8_riseCount.desc).map (fun d => d.parameters.length) = some 0 := ⟨by decide +kernel, by decide +kernel, by decide +kernel⟩
theorem hd_X8_minutes : yX8_minutes.cls ≠ "java/lang/invoke/MethodHandle" ∧ yX8_minutes.cls ≠ "java/lang/invoke/VarHandle" ∧ (parseMethodDescriptor yX8_minutes.desc).map (fun d => d.parameters.length) = some 0 := ⟨by decide +kernel, by decide +kernel, by decide +kernel⟩
theorem hd_X8_poured : yX8_poured.cls ≠ "java/lang/invoke/MethodHandle" ∧ yX8_poured.cls ≠ "java/lang/invoke/VarHandle" ∧ (parseMethodDescriptor yX8_poured.desc).map (fun d => d.parameters.length) = some 0 := ⟨by decide +kernel, by decide +kernel, by decide +kernel⟩
theorem hd_X8_used : yX8_used.cls ≠ "java/lang/invoke/MethodHandle" ∧ yX8_used.cls ≠ "java/lang/invoke/VarHandle" ∧ (parseMethodDescriptor yX8_used.desc).map (fun d => d.parameters.length) = some 0 := ⟨by decide +kernel, by decide +kernel, by decide +kernel⟩
theorem hd_X8_faded : yX8_faded.cls ≠ "java/lang/invoke/MethodHandle" ∧ yX8_faded.cls ≠ "java/lang/invoke/VarHandle" ∧ (parseMethodDescriptor yX8_faded.desc).map (fun d => d.parameters.length) = some 0 := ⟨by decide +kernel, by decide +kernel, by decide +kernel⟩
theorem hd_X8_inkInWells : yX8_inkInWells.cls ≠ "java/lang/invoke/MethodHandle" ∧ yX8_inkInWells.cls ≠ "java/lang/invoke/VarHandle" ∧ (parseMethodDescriptor yX8_inkInWells.desc).map (fun d => d.parameters.length) = some 0 := ⟨by decide +kernel, by decide +kernel, by decide +kernel⟩
theorem hd_X8_meanRun : yX8_meanRun.cls ≠ "java/lang/invoke/MethodHandle" ∧ yX8_meanRun.cls ≠ "java/lang/invoke/VarHandle" ∧ (parseMethodDescriptor yX8_meanRun.desc).map (fun d => d.parameters.length) = some 0 := ⟨by decide +kernel, by decide +kernel, by decide +kernel⟩
theorem hd_X8_fadedShare : yX8_fadedShare.cls ≠ "java/lang/invoke/MethodHandle" ∧ yX8_fadedShare.cls ≠ "java/lang/invoke/VarHandle" ∧ (parseMethodDescriptor yX8_fadedShare.desc).map (fun d => d.parameters.length) = some 0 := ⟨by decide +kernel, by decide +kernel, by decide +kernel⟩
theorem hd_X8_isConsistent : yX8_isConsistent.cls ≠ "java/lang/invoke/MethodHandle" ∧ yX8_isConsistent.cls ≠ "java/lang/invoke/VarHandle" ∧ (parseMethodDescriptor yX8_isConsistent.desc).map (fun d => d.parameters.length) = some 0 := ⟨by decide +kernel, by decide +kernel, by decide +kernel⟩
theorem hd_X8_write : yX8_write.cls ≠ "java/lang/invoke/MethodHandle" ∧ yX8_write.cls ≠ "java/lang/invoke/VarHandle" ∧ (parseMethodDescriptor yX8_write.desc).map (fun d => d.parameters.length) = some 1 := ⟨by decide +kernel, by decide +kernel, by decide +kernel⟩
theorem hd_X8_writeNumber : yX8_writeNumber.cls ≠ "java/lang/invoke/MethodHandle" ∧ yX8_writeNumber.cls ≠ "java/lang/invoke/VarHandle" ∧ (parseMethodDescriptor yX8_writeNumber.desc).map (fun d => d.parameters.length) = some 1 := ⟨by decide +kernel, by decide +kernel, by decide +kernel⟩
theorem hd_X8_writeEdition : yX8_writeEdition.cls ≠ "java/lang/invoke/MethodHandle" ∧ yX8_writeEdition.cls ≠ "java/lang/invoke/VarHandle" ∧ (parseMethodDescriptor yX8_writeEdition.desc).map (fun d => d.parameters.length) = some 1 := ⟨by decide +kernel, by decide +kernel, by decide +kernel⟩
theorem hd_X8_writeWells : yX8_writeWells.cls ≠ "java/lang/invoke/MethodHandle" ∧ yX8_writeWells.cls ≠ "java/lang/invoke/VarHandle" ∧ (parseMethodDescriptor yX8_writeWells.desc).map (fun d => d.parameters.length) = some 0 := ⟨by decide +kernel, by decide +kernel, by decide +kernel⟩
theorem hd_X8_lineAt : yX8_lineAt.cls ≠ "java/lang/invoke/MethodHandle" ∧ yX8_lineAt.cls ≠ "java/lang/invoke/VarHandle" ∧ (parseMethodDescriptor yX8_lineAt.desc).map (fun d => d.parameters.length) = some 1 := ⟨by decide +kernel, by decide +kernel, by decide +kernel⟩
theorem hd_X8_type : yX8_type.cls ≠ "java/lang/invoke/MethodHandle" ∧ yX8_type.cls ≠ "java/lang/invoke/VarHandle" ∧ (parseMethodDescriptor yX8_type.desc).map (fun d => d.parameters.length) = some 1 := ⟨by decide +kernel, by decide +kernel, by decide +kernel⟩
theorem hd_X8_mark : yX8_mark.cls ≠ "java/lang/invoke/MethodHandle" ∧ yX8_mark.cls ≠ "java/lang/invoke/VarHandle" ∧ (parseMethodDescriptor yX8_mark.desc).map (fun d => d.parameters.length) = some 0 := ⟨by decide +kernel, by decide +kernel, by decide +kernel⟩
theorem hd_X8_number : yX8_number.cls ≠ "java/lang/invoke/MethodHandle" ∧ yX8_number.cls ≠ "java/lang/invoke/VarHandle" ∧ (parseMethodDescriptor yX8_number.desc).map (fun d => d.parameters.length) = some 1 := ⟨by decide +kernel, by decide +kernel, by decide +kernel⟩
theorem hd_X8_pick : yX8_pick.cls ≠ "java/lang/invoke/MethodHandle" ∧ yX8_pick.cls ≠ "java/lang/invoke/VarHandle" ∧ (parseMethodDescriptor yX8_pick.desc).map (fun d => d.parameters.length) = some 8 := ⟨by decide +kernel, by decide +kernel, by decide +kernel⟩
theorem hd_X8_spelled : yX8_spelled.cls ≠ "java/lang/invoke/MethodHandle" ∧ yX8_spelled.cls ≠ "java/lang/invoke/VarHandle" ∧ (parseMethodDescriptor yX8_spelled.desc).map (fun d => d.parameters.length) = some 2 := ⟨by decide +kernel, by decide +kernel, by decide +kernel⟩
theorem hd_X8_word : yX8_word.cls ≠ "java/lang/invoke/MethodHandle" ∧ yX8_word.cls ≠ "java/lang/invoke/VarHandle" ∧ (parseMethodDescriptor yX8_word.desc).map (fun d => d.parameters.length) = some 0 := ⟨by decide +kernel, by decide +kernel, by decide +kernel⟩
theorem hd_X8_firstDigits : yX8_firstDigits.cls ≠ "java/lang/invoke/MethodHandle" ∧ yX8_firstDigits.cls ≠ "java/lang/invoke/VarHandle" ∧ (parseMethodDescriptor yX8_firstDigits.desc).map (fun d => d.parameters.length) = some 1 := ⟨by decide +kernel, by decide +kernel, by decide +kernel⟩
theorem hd_X8_command : yX8_command.cls ≠ "java/lang/invoke/MethodHandle" ∧ yX8_command.cls ≠ "java/lang/invoke/VarHandle" ∧ (parseMethodDescriptor yX8_command.desc).map (fun d => d.parameters.length) = some 0 := ⟨by decide +kernel, by decide +kernel, by decide +kernel⟩
theorem hd_X8_parse : yX8_parse.cls ≠ "java/lang/invoke/MethodHandle" ∧ yX8_parse.cls ≠ "java/lang/invoke/VarHandle" ∧ (parseMethodDescriptor yX8_parse.desc).map (fun d => d.parameters.length) = some 0 := ⟨by decide +kernel, by decide +kernel, by decide +kernel⟩
theorem hd_X8_why : yX8_why.cls ≠ "java/lang/invoke/MethodHandle" ∧ yX8_why.cls ≠ "java/lang/invoke/VarHandle" ∧ (parseMethodDescriptor yX8_why.desc).map (fun d => d.parameters.length) = some 3 := ⟨by decide +kernel, by decide +kernel, by decide +kernel⟩
theorem hd_X8_does : yX8_does.cls ≠ "java/lang/invoke/MethodHandle" ∧ yX8_does.cls ≠ "java/lang/invoke/VarHandle" ∧ (parseMethodDescriptor yX8_does.desc).map (fun d => d.parameters.length) = some 3 := ⟨by decide +kernel, by decide +kernel, by decide +kernel⟩
theorem hd_X8_execute : yX8_execute.cls ≠ "java/lang/invoke/MethodHandle" ∧ yX8_execute.cls ≠ "java/lang/invoke/VarHandle" ∧ (parseMethodDescriptor yX8_execute.desc).map (fun d => d.parameters.length) = some 0 := ⟨by decide +kernel, by decide +kernel, by decide +kernel⟩
theorem hd_X8_present : yX8_present.cls ≠ "java/lang/invoke/MethodHandle" ∧ yX8_present.cls ≠ "java/lang/invoke/VarHandle" ∧ (parseMethodDescriptor yX8_present.desc).map (fun d => d.parameters.length) = some 1 := ⟨by decide +kernel, by decide +kernel, by decide +kernel⟩
theorem hd_X8_errorPosition : yX8_errorPosition.cls ≠ "java/lang/invoke/MethodHandle" ∧ yX8_errorPosition.cls ≠ "java/lang/invoke/VarHandle" ∧ (parseMethodDescriptor yX8_errorPosition.desc).map (fun d => d.parameters.length) = some 0 := ⟨by decide +kernel, by decide +kernel, by decide +kernel⟩
theorem hd_X8_failedCommand : yX8_failedCommand.cls ≠ "java/lang/invoke/MethodHandle" ∧ yX8_failedCommand.cls ≠ "java/lang/invoke/VarHandle" ∧ (parseMethodDescriptor yX8_failedCommand.desc).map (fun d => d.parameters.length) = some 0 := ⟨by decide +kernel, by decide +kernel, by decide +kernel⟩
theorem hd_X8_undo : yX8_undo.cls ≠ "java/lang/invoke/MethodHandle" ∧ yX8_undo.cls ≠ "java/lang/invoke/VarHandle" ∧ (parseMethodDescriptor yX8_undo.desc).map (fun d => d.parameters.length) = some 0 := ⟨by decide +kernel, by decide +kernel, by decide +kernel⟩
theorem hd_X8_save : yX8_save.cls ≠ "java/lang/invoke/MethodHandle" ∧ yX8_save.cls ≠ "java/lang/invoke/VarHandle" ∧ (parseMethodDescriptor yX8_save.desc).map (fun d => d.parameters.length) = some 0 := ⟨by decide +kernel, by decide +kernel, by decide +kernel⟩
theorem hd_X8_restore : yX8_restore.cls ≠ "java/lang/invoke/MethodHandle" ∧ yX8_restore.cls ≠ "java/lang/invoke/VarHandle" ∧ (parseMethodDescriptor yX8_restore.desc).map (fun d => d.parameters.length) = some 0 := ⟨by decide +kernel, by decide +kernel, by decide +kernel⟩
theorem hd_J5_init_d00df : yJ5_init_d00df.cls ≠ "java/lang/invoke/MethodHandle" ∧ yJ5_init_d00df.cls ≠ "java/lang/invoke/VarHandle" ∧ (parseMethodDescriptor yJ5_init_d00df.desc).map (fun d => d.parameters.length) = some 1 := ⟨by decide +kernel, by decide +kernel, by decide +kernel⟩
theorem hd_J5_length_8abf5 : yJ5_length_8abf5.cls ≠ "java/lang/invoke/MethodHandle" ∧ yJ5_length_8abf5.cls ≠ "java/lang/invoke/VarHandle" ∧ (parseMethodDescriptor yJ5_length_8abf5.desc).map (fun d => d.parameters.length) = some 0 := ⟨by decide +kernel, by decide +kernel, by decide +kernel⟩
theorem hd_J5_ensureCapacityInternal_d00df : yJ5_ensureCapacityInternal_d00df.cls ≠ "java/lang/invoke/MethodHandle" ∧ yJ5_ensureCapacityInternal_d00df.cls ≠ "java/lang/invoke/VarHandle" ∧ (parseMethodDescriptor yJ5_ensureCapacityInternal_d00df.desc).map (fun d => d.parameters.length) = some 1 := ⟨by decide +kernel, by decide +kernel, by decide +kernel⟩
theorem hd_J5_newCapacity_0f7a4 : yJ5_newCapacity_0f7a4.cls ≠ "java/lang/invoke/MethodHandle" ∧ yJ5_newCapacity_0f7a4.cls ≠ "java/lang/invoke/VarHandle" ∧ (parseMethodDescriptor yJ5_newCapacity_0f7a4.desc).map (fun d => d.parameters.length) = some 1 := ⟨by decide +kernel, by decide +kernel, by decide +kernel⟩
theorem hd_J5_inflate_da8c8 : yJ5_inflate_da8c8.cls ≠ "java/lang/invoke/MethodHandle" ∧ yJ5_inflate_da8c8.cls ≠ "java/lang/invoke/VarHandle" ∧ (parseMethodDescriptor yJ5_inflate_da8c8.desc).map (fun d => d.parameters.length) = some 0 := ⟨by decide +kernel, by decide +kernel, by decide +kernel⟩
theorem hd_J5_setLength_d00df : yJ5_setLength_d00df.cls ≠ "java/lang/invoke/MethodHandle" ∧ yJ5_setLength_d00df.cls ≠ "java/lang/invoke/VarHandle" ∧ (parseMethodDescriptor yJ5_setLength_d00df.desc).map (fun d => d.parameters.length) = some 1 := ⟨by decide +kernel, by decide +kernel, by decide +kernel⟩
theorem hd_J5_charAt_5068e : yJ5_charAt_5068e.cls ≠ "java/lang/invoke/MethodHandle" ∧ yJ5_charAt_5068e.cls ≠ "java/lang/invoke/VarHandle" ∧ (parseMethodDescriptor yJ5_charAt_5068e.desc).map (fun d => d.parameters.length) = some 1 := ⟨by decide +kernel, by decide +kernel, by decide +kernel⟩
theorem hd_J5_append_cf1ce : yJ5_append_cf1ce.cls ≠ "java/lang/invoke/MethodHandle" ∧ yJ5_append_cf1ce.cls ≠ "java/lang/invoke/VarHandle" ∧ (parseMethodDescriptor yJ5_append_cf1ce.desc).map (fun d => d.parameters.length) = some 1 := ⟨by decide +kernel, by decide +kernel, by decide +kernel⟩
theorem hd_J5_appendNull_278bc : yJ5_appendNull_278bc.cls ≠ "java/lang/invoke/MethodHandle" ∧ yJ5_appendNull_278bc.cls ≠ "java/lang/invoke/VarHandle" ∧ (parseMethodDescriptor yJ5_appendNull_278bc.desc).map (fun d => d.parameters.length) = some 0 := ⟨by decide +kernel, by decide +kernel, by decide +kernel⟩
theorem hd_J5_append_3fe6f : yJ5_append_3fe6f.cls ≠ "java/lang/invoke/MethodHandle" ∧ yJ5_append_3fe6f.cls ≠ "java/lang/invoke/VarHandle" ∧ (parseMethodDescriptor yJ5_append_3fe6f.desc).map (fun d => d.parameters.length) = some 1 := ⟨by decide +kernel, by decide +kernel, by decide +kernel⟩
theorem hd_J5_append_c97b9 : yJ5_append_c97b9.cls ≠ "java/lang/invoke/MethodHandle" ∧ yJ5_append_c97b9.cls ≠ "java/lang/invoke/VarHandle" ∧ (parseMethodDescriptor yJ5_append_c97b9.desc).map (fun d => d.parameters.length) = some 1 := ⟨by decide +kernel, by decide +kernel, by decide +kernel⟩
theorem hd_J5_getValue_6d5f1 : yJ5_getValue_6d5f1.cls ≠ "java/lang/invoke/MethodHandle" ∧ yJ5_getValue_6d5f1.cls ≠ "java/lang/invoke/VarHandle" ∧ (parseMethodDescriptor yJ5_getValue_6d5f1.desc).map (fun d => d.parameters.length) = some 0 := ⟨by decide +kernel, by decide +kernel, by decide +kernel⟩
theorem hd_J5_isLatin1_aae02 : yJ5_isLatin1_aae02.cls ≠ "java/lang/invoke/MethodHandle" ∧ yJ5_isLatin1_aae02.cls ≠ "java/lang/invoke/VarHandle" ∧ (parseMethodDescriptor yJ5_isLatin1_aae02.desc).map (fun d => d.parameters.length) = some 0 := ⟨by decide +kernel, by decide +kernel, by decide +kernel⟩
theorem hd_J5_inflateIfNeededFor_a7421 : yJ5_inflateIfNeededFor_a7421.cls ≠ "java/lang/invoke/MethodHandle" ∧ yJ5_inflateIfNeededFor_a7421.cls ≠ "java/lang/invoke/VarHandle" ∧ (parseMethodDescriptor yJ5_inflateIfNeededFor_a7421.desc).map (fun d => d.parameters.length) = some 1 := ⟨by decide +kernel, by decide +kernel, by decide +kernel⟩
theorem hd_J5_putStringAt_47b60 : yJ5_putStringAt_47b60.cls ≠ "java/lang/invoke/MethodHandle" ∧ yJ5_putStringAt_47b60.cls ≠ "java/lang/invoke/VarHandle" ∧ (parseMethodDescriptor yJ5_putStringAt_47b60.desc).map (fun d => d.parameters.length) = some 2 := ⟨by decide +kernel, by decide +kernel, by decide +kernel⟩
theorem hd_Jx00060_init_a7421 : yJx00060_init_a7421.cls ≠ "java/lang/invoke/MethodHandle" ∧ yJx00060_init_a7421.cls ≠ "java/lang/invoke/VarHandle" ∧ (parseMethodDescriptor yJx00060_init_a7421.desc).map (fun d => d.parameters.length) = some 1 := ⟨by decide +kernel, by decide +kernel, by decide +kernel⟩
theorem hd_Jx00060_init_d00df : yJx00060_init_d00df.cls ≠ "java/lang/invoke/MethodHandle" ∧ yJx00060_init_d00df.cls ≠ "java/lang/invoke/VarHandle" ∧ (parseMethodDescriptor yJx00060_init_d00df.desc).map (fun d => d.parameters.length) = some 1 := ⟨by decide +kernel, by decide +kernel, by decide +kernel⟩
theorem hd_J6_getChars_ba4f3 : yJ6_getChars_ba4f3.cls ≠ "java/lang/invoke/MethodHandle" ∧ yJ6_getChars_ba4f3.cls ≠ "java/lang/invoke/VarHandle" ∧ (parseMethodDescriptor yJ6_getChars_ba4f3.desc).map (fun d => d.parameters.length) = some 3 := ⟨by decide +kernel, by decide +kernel, by decide +kernel⟩
theorem hd_J6_stringSize_0f7a4 : yJ6_stringSize_0f7a4.cls ≠ "java/lang/invoke/MethodHandle" ∧ yJ6_stringSize_0f7a4.cls ≠ "java/lang/invoke/VarHandle" ∧ (parseMethodDescriptor yJ6_stringSize_0f7a4.desc).map (fun d => d.parameters.length) = some 1 := ⟨by decide +kernel, by decide +kernel, by decide +kernel⟩
theorem hd_J9_max_7cf53 : yJ9_max_7cf53.cls ≠ "java/lang/invoke/MethodHandle" ∧ yJ9_max_7cf53.cls ≠ "java/lang/invoke/VarHandle" ∧ (parseMethodDescriptor yJ9_max_7cf53.desc).map (fun d => d.parameters.length) = some 2 := ⟨by decide +kernel, by decide +kernel, by decide +kernel⟩
theorem hd_J9_min_7cf53 : yJ9_min_7cf53.cls ≠ "java/lang/invoke/MethodHandle" ∧ yJ9_min_7cf53.cls ≠ "java/lang/invoke/VarHandle" ∧ (parseMethodDescriptor yJ9_min_7cf53.desc).map (fun d => d.parameters.length) = some 2 := ⟨by decide +kernel, by decide +kernel, by decide +kernel⟩
theorem hd_J0_init_81219 : yJ0_init_81219.cls ≠ "java/lang/invoke/MethodHandle" ∧ yJ0_init_81219.cls ≠ "java/lang/invoke/VarHandle" ∧ (parseMethodDescriptor yJ0_init_81219.desc).map (fun d => d.parameters.length) = some 1 := ⟨by decide +kernel, by decide +kernel, by decide +kernel⟩
theorem hd_J0_length_8abf5 : yJ0_length_8abf5.cls ≠ "java/lang/invoke/MethodHandle" ∧ yJ0_length_8abf5.cls ≠ "java/lang/invoke/VarHandle" ∧ (parseMethodDescriptor yJ0_length_8abf5.desc).map (fun d => d.parameters.length) = some 0 := ⟨by decide +kernel, by decide +kernel, by decide +kernel⟩
theorem hd_J0_charAt_5068e : yJ0_charAt_5068e.cls ≠ "java/lang/invoke/MethodHandle" ∧ yJ0_charAt_5068e.cls ≠ "java/lang/invoke/VarHandle" ∧ (parseMethodDescriptor yJ0_charAt_5068e.desc).map (fun d => d.parameters.length) = some 1 := ⟨by decide +kernel, by decide +kernel, by decide +kernel⟩
theorem hd_J0_getBytes_840e7 : yJ0_getBytes_840e7.cls ≠ "java/lang/invoke/MethodHandle" ∧ yJ0_getBytes_840e7.cls ≠ "java/lang/invoke/VarHandle" ∧ (parseMethodDescriptor yJ0_getBytes_840e7.desc).map (fun d => d.parameters.length) = some 3 := ⟨by decide +kernel, by decide +kernel, by decide +kernel⟩
theorem hd_J0_init_db425 : yJ0_init_db425.cls ≠ "java/lang/invoke/MethodHandle" ∧ yJ0_init_db425.cls ≠ "java/lang/invoke/VarHandle" ∧ (parseMethodDescriptor yJ0_init_db425.desc).map (fun d => d.parameters.length) = some 2 := ⟨by decide +kernel, by decide +kernel, by decide +kernel⟩
theorem hd_J0_coder_7d493 : yJ0_coder_7d493.cls ≠ "java/lang/invoke/MethodHandle" ∧ yJ0_coder_7d493.cls ≠ "java/lang/invoke/VarHandle" ∧ (parseMethodDescriptor yJ0_coder_7d493.desc).map (fun d => d.parameters.length) = some 0 := ⟨by decide +kernel, by decide +kernel, by decide +kernel⟩
theorem hd_J0_isLatin1_aae02 : yJ0_isLatin1_aae02.cls ≠ "java/lang/invoke/MethodHandle" ∧ yJ0_isLatin1_aae02.cls ≠ "java/lang/invoke/VarHandle" ∧ (parseMethodDescriptor yJ0_isLatin1_aae02.desc).map (fun d => d.parameters.length) = some 0 := ⟨by decide +kernel, by decide +kernel, by decide +kernel⟩
theorem hd_J0_checkIndex_df160 : yJ0_checkIndex_df160.cls ≠ "java/lang/invoke/MethodHandle" ∧ yJ0_checkIndex_df160.cls ≠ "java/lang/invoke/VarHandle" ∧ (parseMethodDescriptor yJ0_checkIndex_df160.desc).map (fun d => d.parameters.length) = some 2 := ⟨by decide +kernel, by decide +kernel, by decide +kernel⟩
theorem hd_J0_checkBoundsOffCount_cabcc : yJ0_checkBoundsOffCount_cabcc.cls ≠ "java/lang/invoke/MethodHandle" ∧ yJ0_checkBoundsOffCount_cabcc.cls ≠ "java/lang/invoke/VarHandle" ∧ (parseMethodDescriptor yJ0_checkBoundsOffCount_cabcc.desc).map (fun d => d.parameters.length) = some 3 := ⟨by decide +kernel, by decide +kernel, by decide +kernel⟩
theorem hd_J0_checkBoundsBeginEnd_23922 : yJ0_checkBoundsBeginEnd_23922.cls ≠ "java/lang/invoke/MethodHandle" ∧ yJ0_checkBoundsBeginEnd_23922.cls ≠ "java/lang/invoke/VarHandle" ∧ (parseMethodDescriptor yJ0_checkBoundsBeginEnd_23922.desc).map (fun d => d.parameters.length) = some 3 := ⟨by decide +kernel, by decide +kernel, by decide +kernel⟩
theorem hd_J4_init_da8c8 : yJ4_init_da8c8.cls ≠ "java/lang/invoke/MethodHandle" ∧ yJ4_init_da8c8.cls ≠ "java/lang/invoke/VarHandle" ∧ (parseMethodDescriptor yJ4_init_da8c8.desc).map (fun d => d.parameters.length) = some 0 := ⟨by decide +kernel, by decide +kernel, by decide +kernel⟩
theorem hd_J4_append_15ec4 : yJ4_append_15ec4.cls ≠ "java/lang/invoke/MethodHandle" ∧ yJ4_append_15ec4.cls ≠ "java/lang/invoke/VarHandle" ∧ (parseMethodDescriptor yJ4_append_15ec4.desc).map (fun d => d.parameters.length) = some 1 := ⟨by decide +kernel, by decide +kernel, by decide +kernel⟩
theorem hd_J4_append_cf468 : yJ4_append_cf468.cls ≠ "java/lang/invoke/MethodHandle" ∧ yJ4_append_cf468.cls ≠ "java/lang/invoke/VarHandle" ∧ (parseMethodDescriptor yJ4_append_cf468.desc).map (fun d => d.parameters.length) = some 1 := ⟨by decide +kernel, by decide +kernel, by decide +kernel⟩
theorem hd_J4_append_bf812 : yJ4_append_bf812.cls ≠ "java/lang/invoke/MethodHandle" ∧ yJ4_append_bf812.cls ≠ "java/lang/invoke/VarHandle" ∧ (parseMethodDescriptor yJ4_append_bf812.desc).map (fun d => d.parameters.length) = some 1 := ⟨by decide +kernel, by decide +kernel, by decide +kernel⟩
theorem hd_J4_toString_0e30d : yJ4_toString_0e30d.cls ≠ "java/lang/invoke/MethodHandle" ∧ yJ4_toString_0e30d.cls ≠ "java/lang/invoke/VarHandle" ∧ (parseMethodDescriptor yJ4_toString_0e30d.desc).map (fun d => d.parameters.length) = some 0 := ⟨by decide +kernel, by decide +kernel, by decide +kernel⟩
theorem hd_J4_charAt_5068e : yJ4_charAt_5068e.cls ≠ "java/lang/invoke/MethodHandle" ∧ yJ4_charAt_5068e.cls ≠ "java/lang/invoke/VarHandle" ∧ (parseMethodDescriptor yJ4_charAt_5068e.desc).map (fun d => d.parameters.length) = some 1 := ⟨by decide +kernel, by decide +kernel, by decide +kernel⟩
theorem hd_J4_setLength_d00df : yJ4_setLength_d00df.cls ≠ "java/lang/invoke/MethodHandle" ∧ yJ4_setLength_d00df.cls ≠ "java/lang/invoke/VarHandle" ∧ (parseMethodDescriptor yJ4_setLength_d00df.desc).map (fun d => d.parameters.length) = some 1 := ⟨by decide +kernel, by decide +kernel, by decide +kernel⟩
theorem hd_J4_length_8abf5 : yJ4_length_8abf5.cls ≠ "java/lang/invoke/MethodHandle" ∧ yJ4_length_8abf5.cls ≠ "java/lang/invoke/VarHandle" ∧ (parseMethodDescriptor yJ4_length_8abf5.desc).map (fun d => d.parameters.length) = some 0 := ⟨by decide +kernel, by decide +kernel, by decide +kernel⟩
theorem hd_Jx7c733_init_d00df : yJx7c733_init_d00df.cls ≠ "java/lang/invoke/MethodHandle" ∧ yJx7c733_init_d00df.cls ≠ "java/lang/invoke/VarHandle" ∧ (parseMethodDescriptor yJx7c733_init_d00df.desc).map (fun d => d.parameters.length) = some 1 := ⟨by decide +kernel, by decide +kernel, by decide +kernel⟩
theorem hd_J1_charAt_3b067 : yJ1_charAt_3b067.cls ≠ "java/lang/invoke/MethodHandle" ∧ yJ1_charAt_3b067.cls ≠ "java/lang/invoke/VarHandle" ∧ (parseMethodDescriptor yJ1_charAt_3b067.desc).map (fun d => d.parameters.length) = some 2 := ⟨by decide +kernel, by decide +kernel, by decide +kernel⟩
theorem hd_J1_canEncode_fc78d : yJ1_canEncode_fc78d.cls ≠ "java/lang/invoke/MethodHandle" ∧ yJ1_canEncode_fc78d.cls ≠ "java/lang/invoke/VarHandle" ∧ (parseMethodDescriptor yJ1_canEncode_fc78d.desc).map (fun d => d.parameters.length) = some 1 := ⟨by decide +kernel, by decide +kernel, by decide +kernel⟩
theorem hd_J1_fillNull_b72d1 : yJ1_fillNull_b72d1.cls ≠ "java/lang/invoke/MethodHandle" ∧ yJ1_fillNull_b72d1.cls ≠ "java/lang/invoke/VarHandle" ∧ (parseMethodDescriptor yJ1_fillNull_b72d1.desc).map (fun d => d.parameters.length) = some 3 := ⟨by decide +kernel, by decide +kernel, by decide +kernel⟩
theorem hd_J1_inflate_0e8fd : yJ1_inflate_0e8fd.cls ≠ "java/lang/invoke/MethodHandle" ∧ yJ1_inflate_0e8fd.cls ≠ "java/lang/invoke/VarHandle" ∧ (parseMethodDescriptor yJ1_inflate_0e8fd.desc).map (fun d => d.parameters.length) = some 5 := ⟨by decide +kernel, by decide +kernel, by decide +kernel⟩
theorem hd_J2_newBytesFor_77867 : yJ2_newBytesFor_77867.cls ≠ "java/lang/invoke/MethodHandle" ∧ yJ2_newBytesFor_77867.cls ≠ "java/lang/invoke/VarHandle" ∧ (parseMethodDescriptor yJ2_newBytesFor_77867.desc).map (fun d => d.parameters.length) = some 1 := ⟨by decide +kernel, by decide +kernel, by decide +kernel⟩
theorem hd_J2_newBytesLength_0f7a4 : yJ2_newBytesLength_0f7a4.cls ≠ "java/lang/invoke/MethodHandle" ∧ yJ2_newBytesLength_0f7a4.cls ≠ "java/lang/invoke/VarHandle" ∧ (parseMethodDescriptor yJ2_newBytesLength_0f7a4.desc).map (fun d => d.parameters.length) = some 1 := ⟨by decide +kernel, by decide +kernel, by decide +kernel⟩
theorem hd_J2_putChar_b72d1 : yJ2_putChar_b72d1.cls ≠ "java/lang/invoke/MethodHandle" ∧ yJ2_putChar_b72d1.cls ≠ "java/lang/invoke/VarHandle" ∧ (parseMethodDescriptor yJ2_putChar_b72d1.desc).map (fun d => d.parameters.length) = some 3 := ⟨by decide +kernel, by decide +kernel, by decide +kernel⟩
theorem hd_J2_getChar_3b067 : yJ2_getChar_3b067.cls ≠ "java/lang/invoke/MethodHandle" ∧ yJ2_getChar_3b067.cls ≠ "java/lang/invoke/VarHandle" ∧ (parseMethodDescriptor yJ2_getChar_3b067.desc).map (fun d => d.parameters.length) = some 2 := ⟨by decide +kernel, by decide +kernel, by decide +kernel⟩
theorem hd_J2_length_9d52b : yJ2_length_9d52b.cls ≠ "java/lang/invoke/MethodHandle" ∧ yJ2_length_9d52b.cls ≠ "java/lang/invoke/VarHandle" ∧ (parseMethodDescriptor yJ2_length_9d52b.desc).map (fun d => d.parameters.length) = some 1 := ⟨by decide +kernel, by decide +kernel, by decide +kernel⟩
theorem hd_J2_coderFromArrayLen_85cad : yJ2_coderFromArrayLen_85cad.cls ≠ "java/lang/invoke/MethodHandle" ∧ yJ2_coderFromArrayLen_85cad.cls ≠ "java/lang/invoke/VarHandle" ∧ (parseMethodDescriptor yJ2_coderFromArrayLen_85cad.desc).map (fun d => d.parameters.length) = some 2 := ⟨by decide +kernel, by decide +kernel, by decide +kernel⟩
theorem hd_J2_compress_39247 : yJ2_compress_39247.cls ≠ "java/lang/invoke/MethodHandle" ∧ yJ2_compress_39247.cls ≠ "java/lang/invoke/VarHandle" ∧ (parseMethodDescriptor yJ2_compress_39247.desc).map (fun d => d.parameters.length) = some 3 := ⟨by decide +kernel, by decide +kernel, by decide +kernel⟩
theorem hd_J2_compress_5af95 : yJ2_compress_5af95.cls ≠ "java/lang/invoke/MethodHandle" ∧ yJ2_compress_5af95.cls ≠ "java/lang/invoke/VarHandle" ∧ (parseMethodDescriptor yJ2_compress_5af95.desc).map (fun d => d.parameters.length) = some 5 := ⟨by decide +kernel, by decide +kernel, by decide +kernel⟩
theorem hd_J2_fillNull_b72d1 : yJ2_fillNull_b72d1.cls ≠ "java/lang/invoke/MethodHandle" ∧ yJ2_fillNull_b72d1.cls ≠ "java/lang/invoke/VarHandle" ∧ (parseMethodDescriptor yJ2_fillNull_b72d1.desc).map (fun d => d.parameters.length) = some 3 := ⟨by decide +kernel, by decide +kernel, by decide +kernel⟩
theorem hd_J2_putCharSB_b72d1 : yJ2_putCharSB_b72d1.cls ≠ "java/lang/invoke/MethodHandle" ∧ yJ2_putCharSB_b72d1.cls ≠ "java/lang/invoke/VarHandle" ∧ (parseMethodDescriptor yJ2_putCharSB_b72d1.desc).map (fun d => d.parameters.length) = some 3 := ⟨by decide +kernel, by decide +kernel, by decide +kernel⟩
theorem hd_J2_getChars_46870 : yJ2_getChars_46870.cls ≠ "java/lang/invoke/MethodHandle" ∧ yJ2_getChars_46870.cls ≠ "java/lang/invoke/VarHandle" ∧ (parseMethodDescriptor yJ2_getChars_46870.desc).map (fun d => d.parameters.length) = some 4 := ⟨by decide +kernel, by decide +kernel, by decide +kernel⟩
theorem hd_J2_putCharsAt_cd4e5 : yJ2_putCharsAt_cd4e5.cls ≠ "java/lang/invoke/MethodHandle" ∧ yJ2_putCharsAt_cd4e5.cls ≠ "java/lang/invoke/VarHandle" ∧ (parseMethodDescriptor yJ2_putCharsAt_cd4e5.desc).map (fun d => d.parameters.length) = some 6 := ⟨by decide +kernel, by decide +kernel, by decide +kernel⟩
theorem hd_J2_charAt_3b067 : yJ2_charAt_3b067.cls ≠ "java/lang/invoke/MethodHandle" ∧ yJ2_charAt_3b067.cls ≠ "java/lang/invoke/VarHandle" ∧ (parseMethodDescriptor yJ2_charAt_3b067.desc).map (fun d => d.parameters.length) = some 2 := ⟨by decide +kernel, by decide +kernel, by decide +kernel⟩
theorem hd_J2_inflate_0e8fd : yJ2_inflate_0e8fd.cls ≠ "java/lang/invoke/MethodHandle" ∧ yJ2_inflate_0e8fd.cls ≠ "java/lang/invoke/VarHandle" ∧ (parseMethodDescriptor yJ2_inflate_0e8fd.desc).map (fun d => d.parameters.length) = some 5 := ⟨by decide +kernel, by decide +kernel, by decide +kernel⟩
theorem hd_J2_getChars_ba4f3 : yJ2_getChars_ba4f3.cls ≠ "java/lang/invoke/MethodHandle" ∧ yJ2_getChars_ba4f3.cls ≠ "java/lang/invoke/VarHandle" ∧ (parseMethodDescriptor yJ2_getChars_ba4f3.desc).map (fun d => d.parameters.length) = some 3 := ⟨by decide +kernel, by decide +kernel, by decide +kernel⟩
theorem hd_J2_checkIndex_2214a : yJ2_checkIndex_2214a.cls ≠ "java/lang/invoke/MethodHandle" ∧ yJ2_checkIndex_2214a.cls ≠ "java/lang/invoke/VarHandle" ∧ (parseMethodDescriptor yJ2_checkIndex_2214a.desc).map (fun d => d.parameters.length) = some 2 := ⟨by decide +kernel, by decide +kernel, by decide +kernel⟩
theorem hd_J2_checkBoundsBeginEnd_d044e : yJ2_checkBoundsBeginEnd_d044e.cls ≠ "java/lang/invoke/MethodHandle" ∧ yJ2_checkBoundsBeginEnd_d044e.cls ≠ "java/lang/invoke/VarHandle" ∧ (parseMethodDescriptor yJ2_checkBoundsBeginEnd_d044e.desc).map (fun d => d.parameters.length) = some 3 := ⟨by decide +kernel, by decide +kernel, by decide +kernel⟩
theorem hd_J2_checkBoundsOffCount_d044e : yJ2_checkBoundsOffCount_d044e.cls ≠ "java/lang/invoke/MethodHandle" ∧ yJ2_checkBoundsOffCount_d044e.cls ≠ "java/lang/invoke/VarHandle" ∧ (parseMethodDescriptor yJ2_checkBoundsOffCount_d044e.desc).map (fun d => d.parameters.length) = some 3 := ⟨by decide +kernel, by decide +kernel, by decide +kernel⟩
theorem hd_J7_rangeCheck_23922 : yJ7_rangeCheck_23922.cls ≠ "java/lang/invoke/MethodHandle" ∧ yJ7_rangeCheck_23922.cls ≠ "java/lang/invoke/VarHandle" ∧ (parseMethodDescriptor yJ7_rangeCheck_23922.desc).map (fun d => d.parameters.length) = some 3 := ⟨by decide +kernel, by decide +kernel, by decide +kernel⟩
theorem hd_J7_fill_eb02e : yJ7_fill_eb02e.cls ≠ "java/lang/invoke/MethodHandle" ∧ yJ7_fill_eb02e.cls ≠ "java/lang/invoke/VarHandle" ∧ (parseMethodDescriptor yJ7_fill_eb02e.desc).map (fun d => d.parameters.length) = some 4 := ⟨by decide +kernel, by decide +kernel, by decide +kernel⟩
theorem hd_J7_copyOf_9075b : yJ7_copyOf_9075b.cls ≠ "java/lang/invoke/MethodHandle" ∧ yJ7_copyOf_9075b.cls ≠ "java/lang/invoke/VarHandle" ∧ (parseMethodDescriptor yJ7_copyOf_9075b.desc).map (fun d => d.parameters.length) = some 2 := ⟨by decide +kernel, by decide +kernel, by decide +kernel⟩
theorem hd_J7_checkLength_df160 : yJ7_checkLength_df160.cls ≠ "java/lang/invoke/MethodHandle" ∧ yJ7_checkLength_df160.cls ≠ "java/lang/invoke/VarHandle" ∧ (parseMethodDescriptor yJ7_checkLength_df160.desc).map (fun d => d.parameters.length) = some 2 := ⟨by decide +kernel, by decide +kernel, by decide +kernel⟩
theorem hd_J7_copyOfRange_39247 : yJ7_copyOfRange_39247.cls ≠ "java/lang/invoke/MethodHandle" ∧ yJ7_copyOfRange_39247.cls ≠ "java/lang/invoke/VarHandle" ∧ (parseMethodDescriptor yJ7_copyOfRange_39247.desc).map (fun d => d.parameters.length) = some 3 := ⟨by decide +kernel, by decide +kernel, by decide +kernel⟩
theorem hd_J7_copyOfRangeByte_39247 : yJ7_copyOfRangeByte_39247.cls ≠ "java/lang/invoke/MethodHandle" ∧ yJ7_copyOfRangeByte_39247.cls ≠ "java/lang/invoke/VarHandle" ∧ (parseMethodDescriptor yJ7_copyOfRangeByte_39247.desc).map (fun d => d.parameters.length) = some 3 := ⟨by decide +kernel, by decide +kernel, by decide +kernel⟩
theorem hd_J8_newLength_cabcc : yJ8_newLength_cabcc.cls ≠ "java/lang/invoke/MethodHandle" ∧ yJ8_newLength_cabcc.cls ≠ "java/lang/invoke/VarHandle" ∧ (parseMethodDescriptor yJ8_newLength_cabcc.desc).map (fun d => d.parameters.length) = some 3 := ⟨by decide +kernel, by decide +kernel, by decide +kernel⟩
theorem hd_J8_hugeLength_7cf53 : yJ8_hugeLength_7cf53.cls ≠ "java/lang/invoke/MethodHandle" ∧ yJ8_hugeLength_7cf53.cls ≠ "java/lang/invoke/VarHandle" ∧ (parseMethodDescriptor yJ8_hugeLength_7cf53.desc).map (fun d => d.parameters.length) = some 2 := ⟨by decide +kernel, by decide +kernel, by decide +kernel⟩
theorem hd_J3_checkIndex_8e157 : yJ3_checkIndex_8e157.cls ≠ "java/lang/invoke/MethodHandle" ∧ yJ3_checkIndex_8e157.cls ≠ "java/lang/invoke/VarHandle" ∧ (parseMethodDescriptor yJ3_checkIndex_8e157.desc).map (fun d => d.parameters.length) = some 3 := ⟨by decide +kernel, by decide +kernel, by decide +kernel⟩
theorem hd_J3_checkFromToIndex_8c36e : yJ3_checkFromToIndex_8c36e.cls ≠ "java/lang/invoke/MethodHandle" ∧ yJ3_checkFromToIndex_8c36e.cls ≠ "java/lang/invoke/VarHandle" ∧ (parseMethodDescriptor yJ3_checkFromToIndex_8c36e.desc).map (fun d => d.parameters.length) = some 4 := ⟨by decide +kernel, by decide +kernel, by decide +kernel⟩
theorem hd_J3_checkFromIndexSize_8c36e : yJ3_checkFromIndexSize_8c36e.cls ≠ "java/lang/invoke/MethodHandle" ∧ yJ3_checkFromIndexSize_8c36e.cls ≠ "java/lang/invoke/VarHandle" ∧ (parseMethodDescriptor yJ3_checkFromIndexSize_8c36e.desc).map (fun d => d.parameters.length) = some 4 := ⟨by decide +kernel, by decide +kernel, by decide +kernel⟩
theorem hd_L_addInk : yL_addInk.cls ≠ "java/lang/invoke/MethodHandle" ∧ yL_addInk.cls ≠ "java/lang/invoke/VarHandle" ∧ (parseMethodDescriptor yL_addInk.desc).map (fun d => d.parameters.length) = some 4 := ⟨by decide +kernel, by decide +kernel, by decide +kernel⟩
theorem hd_L_addPaper : yL_addPaper.cls ≠ "java/lang/invoke/MethodHandle" ∧ yL_addPaper.cls ≠ "java/lang/invoke/VarHandle" ∧ (parseMethodDescriptor yL_addPaper.desc).map (fun d => d.parameters.length) = some 3 := ⟨by decide +kernel, by decide +kernel, by decide +kernel⟩
theorem hd_L_pass : yL_pass.cls ≠ "java/lang/invoke/MethodHandle" ∧ yL_pass.cls ≠ "java/lang/invoke/VarHandle" ∧ (parseMethodDescriptor yL_pass.desc).map (fun d => d.parameters.length) = some 3 := ⟨by decide +kernel, by decide +kernel, by decide +kernel⟩
theorem hd_L_ink : yL_ink.cls ≠ "java/lang/invoke/MethodHandle" ∧ yL_ink.cls ≠ "java/lang/invoke/VarHandle" ∧ (parseMethodDescriptor yL_ink.desc).map (fun d => d.parameters.length) = some 3 := ⟨by decide +kernel, by decide +kernel, by decide +kernel⟩
theorem hd_L_inkAfter : yL_inkAfter.cls ≠ "java/lang/invoke/MethodHandle" ∧ yL_inkAfter.cls ≠ "java/lang/invoke/VarHandle" ∧ (parseMethodDescriptor yL_inkAfter.desc).map (fun d => d.parameters.length) = some 4 := ⟨by decide +kernel, by decide +kernel, by decide +kernel⟩
theorem hd_L_inkByHalvings : yL_inkByHalvings.cls ≠ "java/lang/invoke/MethodHandle" ∧ yL_inkByHalvings.cls ≠ "java/lang/invoke/VarHandle" ∧ (parseMethodDescriptor yL_inkByHalvings.desc).map (fun d => d.parameters.length) = some 4 := ⟨by decide +kernel, by decide +kernel, by decide +kernel⟩
theorem hd_L_hoursUntilLess : yL_hoursUntilLess.cls ≠ "java/lang/invoke/MethodHandle" ∧ yL_hoursUntilLess.cls ≠ "java/lang/invoke/VarHandle" ∧ (parseMethodDescriptor yL_hoursUntilLess.desc).map (fun d => d.parameters.length) = some 4 := ⟨by decide +kernel, by decide +kernel, by decide +kernel⟩
theorem hd_L_addEdition : yL_addEdition.cls ≠ "java/lang/invoke/MethodHandle" ∧ yL_addEdition.cls ≠ "java/lang/invoke/VarHandle" ∧ (parseMethodDescriptor yL_addEdition.desc).map (fun d => d.parameters.length) = some 4 := ⟨by decide +kernel, by decide +kernel, by decide +kernel⟩
theorem hd_L_removeEdition : yL_removeEdition.cls ≠ "java/lang/invoke/MethodHandle" ∧ yL_removeEdition.cls ≠ "java/lang/invoke/VarHandle" ∧ (parseMethodDescriptor yL_removeEdition.desc).map (fun d => d.parameters.length) = some 3 := ⟨by decide +kernel, by decide +kernel, by decide +kernel⟩
theorem hd_L_print : yL_print.cls ≠ "java/lang/invoke/MethodHandle" ∧ yL_print.cls ≠ "java/lang/invoke/VarHandle" ∧ (parseMethodDescriptor yL_print.desc).map (fun d => d.parameters.length) = some 3 := ⟨by decide +kernel, by decide +kernel, by decide +kernel⟩
theorem hd_L_colourOf : yL_colourOf.cls ≠ "java/lang/invoke/MethodHandle" ∧ yL_colourOf.cls ≠ "java/lang/invoke/VarHandle" ∧ (parseMethodDescriptor yL_colourOf.desc).map (fun d => d.parameters.length) = some 3 := ⟨by decide +kernel, by decide +kernel, by decide +kernel⟩
theorem hd_L_runOf : yL_runOf.cls ≠ "java/lang/invoke/MethodHandle" ∧ yL_runOf.cls ≠ "java/lang/invoke/VarHandle" ∧ (parseMethodDescriptor yL_runOf.desc).map (fun d => d.parameters.length) = some 3 := ⟨by decide +kernel, by decide +kernel, by decide +kernel⟩
theorem hd_L_printedOf : yL_printedOf.cls ≠ "java/lang/invoke/MethodHandle" ∧ yL_printedOf.cls ≠ "java/lang/invoke/VarHandle" ∧ (parseMethodDescriptor yL_printedOf.desc).map (fun d => d.parameters.length) = some 3 := ⟨by decide +kernel, by decide +kernel, by decide +kernel⟩
theorem hd_L_isComplete : yL_isComplete.cls ≠ "java/lang/invoke/MethodHandle" ∧ yL_isComplete.cls ≠ "java/lang/invoke/VarHandle" ∧ (parseMethodDescriptor yL_isComplete.desc).map (fun d => d.parameters.length) = some 3 := ⟨by decide +kernel, by decide +kernel, by decide +kernel⟩
theorem hd_L_changeMinutes : yL_changeMinutes.cls ≠ "java/lang/invoke/MethodHandle" ∧ yL_changeMinutes.cls ≠ "java/lang/invoke/VarHandle" ∧ (parseMethodDescriptor yL_changeMinutes.desc).map (fun d => d.parameters.length) = some 4 := ⟨by decide +kernel, by decide +kernel, by decide +kernel⟩
theorem hd_L_editionAt : yL_editionAt.cls ≠ "java/lang/invoke/MethodHandle" ∧ yL_editionAt.cls ≠ "java/lang/invoke/VarHandle" ∧ (parseMethodDescriptor yL_editionAt.desc).map (fun d => d.parameters.length) = some 3 := ⟨by decide +kernel, by decide +kernel, by decide +kernel⟩
theorem hd_L_shareOf : yL_shareOf.cls ≠ "java/lang/invoke/MethodHandle" ∧ yL_shareOf.cls ≠ "java/lang/invoke/VarHandle" ∧ (parseMethodDescriptor yL_shareOf.desc).map (fun d => d.parameters.length) = some 3 := ⟨by decide +kernel, by decide +kernel, by decide +kernel⟩
theorem hd_L_shareByLevel : yL_shareByLevel.cls ≠ "java/lang/invoke/MethodHandle" ∧ yL_shareByLevel.cls ≠ "java/lang/invoke/VarHandle" ∧ (parseMethodDescriptor yL_shareByLevel.desc).map (fun d => d.parameters.length) = some 3 := ⟨by decide +kernel, by decide +kernel, by decide +kernel⟩
theorem hd_L_editionByMissing : yL_editionByMissing.cls ≠ "java/lang/invoke/MethodHandle" ∧ yL_editionByMissing.cls ≠ "java/lang/invoke/VarHandle" ∧ (parseMethodDescriptor yL_editionByMissing.desc).map (fun d => d.parameters.length) = some 3 := ⟨by decide +kernel, by decide +kernel, by decide +kernel⟩
theorem hd_L_addProof : yL_addProof.cls ≠ "java/lang/invoke/MethodHandle" ∧ yL_addProof.cls ≠ "java/lang/invoke/VarHandle" ∧ (parseMethodDescriptor yL_addProof.desc).map (fun d => d.parameters.length) = some 3 := ⟨by decide +kernel, by decide +kernel, by decide +kernel⟩
theorem hd_L_dropProof : yL_dropProof.cls ≠ "java/lang/invoke/MethodHandle" ∧ yL_dropProof.cls ≠ "java/lang/invoke/VarHandle" ∧ (parseMethodDescriptor yL_dropProof.desc).map (fun d => d.parameters.length) = some 3 := ⟨by decide +kernel, by decide +kernel, by decide +kernel⟩
theorem hd_L_marksOf : yL_marksOf.cls ≠ "java/lang/invoke/MethodHandle" ∧ yL_marksOf.cls ≠ "java/lang/invoke/VarHandle" ∧ (parseMethodDescriptor yL_marksOf.desc).map (fun d => d.parameters.length) = some 3 := ⟨by decide +kernel, by decide +kernel, by decide +kernel⟩
theorem hd_L_hourOf : yL_hourOf.cls ≠ "java/lang/invoke/MethodHandle" ∧ yL_hourOf.cls ≠ "java/lang/invoke/VarHandle" ∧ (parseMethodDescriptor yL_hourOf.desc).map (fun d => d.parameters.length) = some 3 := ⟨by decide +kernel, by decide +kernel, by decide +kernel⟩
theorem hd_L_meanRun : yL_meanRun.cls ≠ "java/lang/invoke/MethodHandle" ∧ yL_meanRun.cls ≠ "java/lang/invoke/VarHandle" ∧ (parseMethodDescriptor yL_meanRun.desc).map (fun d => d.parameters.length) = some 2 := ⟨by decide +kernel, by decide +kernel, by decide +kernel⟩
theorem hd_L_fadedShare : yL_fadedShare.cls ≠ "java/lang/invoke/MethodHandle" ∧ yL_fadedShare.cls ≠ "java/lang/invoke/VarHandle" ∧ (parseMethodDescriptor yL_fadedShare.desc).map (fun d => d.parameters.length) = some 2 := ⟨by decide +kernel, by decide +kernel, by decide +kernel⟩
theorem hd_L_writeEdition : yL_writeEdition.cls ≠ "java/lang/invoke/MethodHandle" ∧ yL_writeEdition.cls ≠ "java/lang/invoke/VarHandle" ∧ (parseMethodDescriptor yL_writeEdition.desc).map (fun d => d.parameters.length) = some 3 := ⟨by decide +kernel, by decide +kernel, by decide +kernel⟩
theorem hd_L_lineAt : yL_lineAt.cls ≠ "java/lang/invoke/MethodHandle" ∧ yL_lineAt.cls ≠ "java/lang/invoke/VarHandle" ∧ (parseMethodDescriptor yL_lineAt.desc).map (fun d => d.parameters.length) = some 3 := ⟨by decide +kernel, by decide +kernel, by decide +kernel⟩
theorem hd_L_type : yL_type.cls ≠ "java/lang/invoke/MethodHandle" ∧ yL_type.cls ≠ "java/lang/invoke/VarHandle" ∧ (parseMethodDescriptor yL_type.desc).map (fun d => d.parameters.length) = some 3 := ⟨by decide +kernel, by decide +kernel, by decide +kernel⟩
theorem hd_L_execute : yL_execute.cls ≠ "java/lang/invoke/MethodHandle" ∧ yL_execute.cls ≠ "java/lang/invoke/VarHandle" ∧ (parseMethodDescriptor yL_execute.desc).map (fun d => d.parameters.length) = some 2 := ⟨by decide +kernel, by decide +kernel, by decide +kernel⟩
theorem hd_L_errorPosition : yL_errorPosition.cls ≠ "java/lang/invoke/MethodHandle" ∧ yL_errorPosition.cls ≠ "java/lang/invoke/VarHandle" ∧ (parseMethodDescriptor yL_errorPosition.desc).map (fun d => d.parameters.length) = some 2 := ⟨by decide +kernel, by decide +kernel, by decide +kernel⟩
theorem hd_L_failedCommand : yL_failedCommand.cls ≠ "java/lang/invoke/MethodHandle" ∧ yL_failedCommand.cls ≠ "java/lang/invoke/VarHandle" ∧ (parseMethodDescriptor yL_failedCommand.desc).map (fun d => d.parameters.length) = some 2 := ⟨by decide +kernel, by decide +kernel, by decide +kernel⟩
theorem hd_L_undo : yL_undo.cls ≠ "java/lang/invoke/MethodHandle" ∧ yL_undo.cls ≠ "java/lang/invoke/VarHandle" ∧ (parseMethodDescriptor yL_undo.desc).map (fun d => d.parameters.length) = some 2 := ⟨by decide +kernel, by decide +kernel, by decide +kernel⟩
theorem hd_L_restore : yL_restore.cls ≠ "java/lang/invoke/MethodHandle" ∧ yL_restore.cls ≠ "java/lang/invoke/VarHandle" ∧ (parseMethodDescriptor yL_restore.desc).map (fun d => d.parameters.length) = some 2 := ⟨by decide +kernel, by decide +kernel, by decide +kernel⟩
def jmask : List Bool → List (Nat × Int) → List (Nat × Int)
  | b :: m, v :: l => (match b with | true => (9, 0) | false => v) :: jmask m l
  | _, l => l
theorem jmask_len : ∀ (m : List Bool) (l : List (Nat × Int)), (jmask m l).length = l.length
  | [], l => by unfold jmask; rfl
  | _ :: _, [] => rfl
  | b :: m, v :: l => by
    show (jmask m l).length + 1 = l.length + 1
    rw [jmask_len m l]
theorem jmask_at : ∀ (m : List Bool) (l : List (Nat × Int)) (i : Nat) (v : Nat × Int), (jmask m l)[i]? = some v → v.1 ≠ 9 → l[i]? = some v
  | [], l, i, v, h, _ => by unfold jmask at h; exact h
  | _ :: _, [], i, v, h, _ => h
  | b :: m, u :: l, 0, v, h, h9 => by
    cases b with
    | true =>
      have : v = (9, 0) := (Option.some.inj h).symm
      rw [this] at h9; exact absurd rfl h9
    | false => exact h
  | b :: m, u :: l, i + 1, v, h, h9 => by
    have h2 : (jmask m l)[i]? = some v := h
    have := jmask_at m l i v h2 h9
    simpa using this
theorem jw {X : ia_X} {cells slots pc : Nat} {ls ls' st : List (Nat × Int)} {Z : ia_Z} {V : ia_H} (m : List Bool) (e : jmask m ls = ls') (kk : ia_G X cells slots pc ls' st Z V) : ia_G X cells slots pc ls st Z V := by
  intro H locs ad lsA r1 r2 r3 r4 r5 r6 r7 r8
  subst e
  refine kk H locs ad lsA r1 r2 r3 r4 ⟨r5.1, r5.2.1, fun q hq => r5.2.2 q ?_⟩ (by rw [jmask_len]; exact r6) ?_ r8
  · obtain ⟨v, hv, h9, e2⟩ := ia_L_mem.mp hq
    exact ia_L_mem.mpr ⟨v, jmask_at m ls q.1 v hv h9, h9, e2⟩
  · intro v hv
    obtain ⟨i, hi⟩ := List.getElem?_of_mem hv
    by_cases h9 : v.1 = 9
    · intro h4; rw [h9] at h4; exact absurd h4 (by decide)
    · exact r7 v (List.mem_of_getElem? (jmask_at m ls i v hi h9))
