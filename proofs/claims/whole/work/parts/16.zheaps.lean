/-! the cells of the two objects -/
abbrev zRw : Type := (Nat → Nat) × (Nat → Option Nat) × (Nat → Nat → Int32)
/-- a tape: size, fault, its place, letters, next, number -/
abbrev zTp : Type := Nat × Nat × Nat × (Nat → Nat) × Nat × Nat
abbrev zLk : Type := zL × (Nat → Nat) × (Nat → Nat)
/-- kept, oldest, pages -/
abbrev zPy : Type := Nat × Nat × (Nat → Nat)
/-- number, faith, waited, begun, bodies -/
abbrev zAs : Type := Nat × Nat × Nat × Nat × (Nat → Nat)
abbrev zCS : Type := zRw × zTp × zLk × zLk × (zLk × zLk) × zPy × zAs × (Nat × Nat)
/-- the class's cells -/
def hC (c : zCS) : List zE :=
    [zO 10 [.ref 1, .ref 13, .ref 15, .ref 23, .ref 31, .ref 48, .ref 50, .int (nI (c.2.2.2.2.2.2.2.1)), .int (nI (c.2.2.2.2.2.2.2.2))],
     zO 8 [.ref 2, .ref 3, .ref 4], zR 4 [.ref 5, .ref 6, .ref 7, .ref 8, .ref 9, .ref 10, .ref 11, .ref 12], zN 8 (c.1.1), zI 8 (fun j => tI ((c.1.2.1) j)), zI 40 ((c.1.2.2) 0), zI 40 ((c.1.2.2) 1), zI 40 ((c.1.2.2) 2), zI 40 ((c.1.2.2) 3), zI 40 ((c.1.2.2) 4), zI 40 ((c.1.2.2) 5), zI 40 ((c.1.2.2) 6), zI 40 ((c.1.2.2) 7),
     zO 9 [.int (nI (c.2.1.1)), .int (nI (c.2.1.2.1)), .int (nI (c.2.1.2.2.1)), .ref 14, .int (nI (c.2.1.2.2.2.2.1)), .int (nI (c.2.1.2.2.2.2.2))], zN 100 (c.2.1.2.2.2.1),
     zO 4 [.int (nI (lS (c.2.2.1.1))), .int (nI (lB (c.2.2.1.1))), .int (nI (lP (c.2.2.1.1))), .int (nI (lM (c.2.2.1.1))), .ref 16, .ref 17, .ref 18, .ref 19, .ref 20, .ref 52, .ref 21, .ref 22], zN 6 (lK (c.2.2.1.1)), zN 6 (lA (c.2.2.1.1)), zN 6 (lF (c.2.2.1.1)), zN 6 (lW (c.2.2.1.1)), zN 6 (lT (c.2.2.1.1)), zN 8 (c.2.2.1.2.1), zN 8 (c.2.2.1.2.2),
     zO 4 [.int (nI (lS (c.2.2.2.1.1))), .int (nI (lB (c.2.2.2.1.1))), .int (nI (lP (c.2.2.2.1.1))), .int (nI (lM (c.2.2.2.1.1))), .ref 24, .ref 25, .ref 26, .ref 27, .ref 28, .ref 52, .ref 29, .ref 30], zN 6 (lK (c.2.2.2.1.1)), zN 6 (lA (c.2.2.2.1.1)), zN 6 (lF (c.2.2.2.1.1)), zN 6 (lW (c.2.2.2.1.1)), zN 6 (lT (c.2.2.2.1.1)), zN 8 (c.2.2.2.1.2.1), zN 8 (c.2.2.2.1.2.2),
     zR 2 [.ref 32, .ref 40],
     zO 4 [.int (nI (lS (c.2.2.2.2.1.1.1))), .int (nI (lB (c.2.2.2.2.1.1.1))), .int (nI (lP (c.2.2.2.2.1.1.1))), .int (nI (lM (c.2.2.2.2.1.1.1))), .ref 33, .ref 34, .ref 35, .ref 36, .ref 37, .ref 52, .ref 38, .ref 39], zN 6 (lK (c.2.2.2.2.1.1.1)), zN 6 (lA (c.2.2.2.2.1.1.1)), zN 6 (lF (c.2.2.2.2.1.1.1)), zN 6 (lW (c.2.2.2.2.1.1.1)), zN 6 (lT (c.2.2.2.2.1.1.1)), zN 8 (c.2.2.2.2.1.1.2.1), zN 8 (c.2.2.2.2.1.1.2.2),
     zO 4 [.int (nI (lS (c.2.2.2.2.1.2.1))), .int (nI (lB (c.2.2.2.2.1.2.1))), .int (nI (lP (c.2.2.2.2.1.2.1))), .int (nI (lM (c.2.2.2.2.1.2.1))), .ref 41, .ref 42, .ref 43, .ref 44, .ref 45, .ref 52, .ref 46, .ref 47], zN 6 (lK (c.2.2.2.2.1.2.1)), zN 6 (lA (c.2.2.2.2.1.2.1)), zN 6 (lF (c.2.2.2.2.1.2.1)), zN 6 (lW (c.2.2.2.2.1.2.1)), zN 6 (lT (c.2.2.2.2.1.2.1)), zN 8 (c.2.2.2.2.1.2.2.1), zN 8 (c.2.2.2.2.1.2.2.2),
     zO 5 [.int (nI (c.2.2.2.2.2.1.1)), .int (nI (c.2.2.2.2.2.1.2.1)), .ref 49], zN 600 (c.2.2.2.2.2.1.2.2),
     zO 0 [.int (nI (c.2.2.2.2.2.2.1.1)), .int (nI (c.2.2.2.2.2.2.1.2.1)), .int (nI (c.2.2.2.2.2.2.1.2.2.1)), .int (nI (c.2.2.2.2.2.2.1.2.2.2.1)), .ref 51], zN 16 (c.2.2.2.2.2.2.1.2.2.2.2),
     zR 3 [.ref 53, .ref 54, .ref 55, .ref 56, .ref 57], zO 6 [], zO 2 [], zO 3 [], zO 1 [], zO 7 []]
abbrev gLn : List Nat := [15, 16, 17, 18, 19, 20, 21, 22, 52, 53, 54, 55, 56, 57]
abbrev gPl : List Nat := [23, 24, 25, 26, 27, 28, 29, 30, 52, 53, 54, 55, 56, 57]
theorem sub_Ln (r : zRw) (t : zTp) (L : zL) (cr ho : Nat → Nat) (p : zLk) (i : zLk × zLk) (y : zPy) (a : zAs) (f : Nat × Nat) : zsub (hC (r, t, (L, cr, ho), p, i, y, a, f)) gLn (hLc L cr ho) := rfl
theorem sub_Pl (r : zRw) (t : zTp) (l : zLk) (P : zL) (pr po : Nat → Nat) (i : zLk × zLk) (y : zPy) (a : zAs) (f : Nat × Nat) : zsub (hC (r, t, l, (P, pr, po), i, y, a, f)) gPl (hLc P pr po) := rfl
theorem pt_Ln (r : zRw) (t : zTp) (l : zLk) (L : zL) (cr ho : Nat → Nat) (p : zLk) (i : zLk × zLk) (y : zPy) (a : zAs) (f : Nat × Nat) : zpt (hC (r, t, l, p, i, y, a, f)) gLn (hLc L cr ho) = hC (r, t, (L, cr, ho), p, i, y, a, f) := rfl
theorem pt_Pl (r : zRw) (t : zTp) (l p : zLk) (P : zL) (pr po : Nat → Nat) (i : zLk × zLk) (y : zPy) (a : zAs) (f : Nat × Nat) : zpt (hC (r, t, l, p, i, y, a, f)) gPl (hLc P pr po) = hC (r, t, l, (P, pr, po), i, y, a, f) := rfl
