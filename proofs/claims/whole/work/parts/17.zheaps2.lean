/-! the class's cells one by one, and writes to them -/
def hLc2 (L : zL) (cr ho : Nat → Nat) (L' : zL) (cr' ho' : Nat → Nat) : List zE := hLc L cr ho ++ [zO 4 [.int (nI (lS L')), .int (nI (lB L')), .int (nI (lP L')), .int (nI (lM L')), .ref 15, .ref 16, .ref 17, .ref 18, .ref 19, .ref 8, .ref 20, .ref 21], zN 6 (lK L'), zN 6 (lA L'), zN 6 (lF L'), zN 6 (lW L'), zN 6 (lT L'), zN 8 cr', zN 8 ho']
theorem zpt_upd {h u : List zE} {g : List Nat} (hn : g.Nodup) (hul : u.length = g.length) (k i : Nat) (hk : g[k]? = some i) (e : zE) : zpt h g (u.set k e) = (zpt h g u).set i (zrn (zpi g) e) := by
  have hkl : k < u.length := by rw [hul]; exact (List.getElem?_eq_some_iff.mp hk).1
  apply List.ext_getElem?
  intro j
  rw [List.getElem?_set]
  by_cases hj : j < h.length
  · by_cases hij : i = j
    · subst hij
      rw [if_pos rfl, if_pos (by unfold zpt; rw [zpt0_len]; exact hj)]
      exact zpt0_in g h _ k i _ hn hk (by rw [List.map_set, List.getElem?_set_self (by rw [List.length_map]; exact hkl)]) hj
    · rw [if_neg hij]
      by_cases hm : j ∈ g
      · obtain ⟨m, hm1, hm2⟩ := List.mem_iff_getElem.mp hm
        have hgm : g[m]? = some j := by rw [List.getElem?_eq_getElem hm1, hm2]
        have hmu : m < u.length := by rw [hul]; exact hm1
        have hne : k ≠ m := fun q => by subst q; rw [hk] at hgm; exact hij (Option.some.inj hgm)
        have h1 : (u.map (zrn (zpi g)))[m]? = some (zrn (zpi g) u[m]) := by rw [List.getElem?_map, List.getElem?_eq_getElem hmu]; rfl
        have h2 : ((u.set k e).map (zrn (zpi g)))[m]? = some (zrn (zpi g) u[m]) := by rw [List.map_set, List.getElem?_set_ne hne]; exact h1
        unfold zpt
        rw [zpt0_in g h _ m j _ hn hgm h2 hj, zpt0_in g h _ m j _ hn hgm h1 hj]
      · unfold zpt
        rw [zpt0_out g h _ j hm, zpt0_out g h _ j hm]
  · have l1 : (zpt h g (u.set k e)).length = h.length := zpt0_len _ _ _
    have l2 : (zpt h g u).length = h.length := zpt0_len _ _ _
    rw [List.getElem?_eq_none (by omega)]
    split
    · rw [if_neg (by omega)]
    · rw [List.getElem?_eq_none (by omega)]
theorem hC_0 {r : zRw} {t : zTp} {l : zLk} {p : zLk} {i : zLk × zLk} {y : zPy} {a : zAs} {f1 f2 : Nat} : (hC (r, t, l, p, i, y, a, (f1, f2)))[0]? = some (zO 10 [.ref 1, .ref 13, .ref 15, .ref 23, .ref 31, .ref 48, .ref 50, .int (nI f1), .int (nI f2)]) := rfl
theorem hC_1 {r : zRw} {t : zTp} {l : zLk} {p : zLk} {i : zLk × zLk} {y : zPy} {a : zAs} {f : Nat × Nat} : (hC (r, t, l, p, i, y, a, f))[1]? = some (zO 8 [.ref 2, .ref 3, .ref 4]) := rfl
theorem hC_13 {r : zRw} {l : zLk} {p : zLk} {i : zLk × zLk} {y : zPy} {a : zAs} {f : Nat × Nat} {t1 t2 t3 t5 t6 : Nat} {t4 : Nat → Nat} : (hC (r, (t1, t2, t3, t4, t5, t6), l, p, i, y, a, f))[13]? = some (zO 9 [.int (nI t1), .int (nI t2), .int (nI t3), .ref 14, .int (nI t5), .int (nI t6)]) := rfl
theorem hC_31 {r : zRw} {t : zTp} {l : zLk} {p : zLk} {i : zLk × zLk} {y : zPy} {a : zAs} {f : Nat × Nat} : (hC (r, t, l, p, i, y, a, f))[31]? = some (zR 2 [.ref 32, .ref 40]) := rfl
theorem hC_48 {r : zRw} {t : zTp} {l : zLk} {p : zLk} {i : zLk × zLk} {a : zAs} {f : Nat × Nat} {y1 y2 : Nat} {y3 : Nat → Nat} : (hC (r, t, l, p, i, (y1, y2, y3), a, f))[48]? = some (zO 5 [.int (nI y1), .int (nI y2), .ref 49]) := rfl
theorem hC_50 {r : zRw} {t : zTp} {l : zLk} {p : zLk} {i : zLk × zLk} {y : zPy} {f : Nat × Nat} {a1 a2 a3 a4 : Nat} {a5 : Nat → Nat} : (hC (r, t, l, p, i, y, (a1, a2, a3, a4, a5), f))[50]? = some (zO 0 [.int (nI a1), .int (nI a2), .int (nI a3), .int (nI a4), .ref 51]) := rfl
theorem hC_15 {r : zRw} {t : zTp} {p : zLk} {i : zLk × zLk} {y : zPy} {a : zAs} {f : Nat × Nat} {L : zL} {cr ho : Nat → Nat}  : (hC (r, t, (L, cr, ho), p, i, y, a, f))[15]? = some (zO 4 [.int (nI (lS L)), .int (nI (lB L)), .int (nI (lP L)), .int (nI (lM L)), .ref 16, .ref 17, .ref 18, .ref 19, .ref 20, .ref 52, .ref 21, .ref 22]) := rfl
theorem hC_16 {r : zRw} {t : zTp} {p : zLk} {i : zLk × zLk} {y : zPy} {a : zAs} {f : Nat × Nat} {L : zL} {cr ho : Nat → Nat}  : (hC (r, t, (L, cr, ho), p, i, y, a, f))[16]? = some (zN 6 (lK L)) := rfl
theorem hC_17 {r : zRw} {t : zTp} {p : zLk} {i : zLk × zLk} {y : zPy} {a : zAs} {f : Nat × Nat} {L : zL} {cr ho : Nat → Nat}  : (hC (r, t, (L, cr, ho), p, i, y, a, f))[17]? = some (zN 6 (lA L)) := rfl
theorem hC_18 {r : zRw} {t : zTp} {p : zLk} {i : zLk × zLk} {y : zPy} {a : zAs} {f : Nat × Nat} {L : zL} {cr ho : Nat → Nat}  : (hC (r, t, (L, cr, ho), p, i, y, a, f))[18]? = some (zN 6 (lF L)) := rfl
theorem hC_19 {r : zRw} {t : zTp} {p : zLk} {i : zLk × zLk} {y : zPy} {a : zAs} {f : Nat × Nat} {L : zL} {cr ho : Nat → Nat}  : (hC (r, t, (L, cr, ho), p, i, y, a, f))[19]? = some (zN 6 (lW L)) := rfl
theorem hC_20 {r : zRw} {t : zTp} {p : zLk} {i : zLk × zLk} {y : zPy} {a : zAs} {f : Nat × Nat} {L : zL} {cr ho : Nat → Nat}  : (hC (r, t, (L, cr, ho), p, i, y, a, f))[20]? = some (zN 6 (lT L)) := rfl
theorem hC_23 {r : zRw} {t : zTp} {l : zLk} {i : zLk × zLk} {y : zPy} {a : zAs} {f : Nat × Nat} {L : zL} {cr ho : Nat → Nat}  : (hC (r, t, l, (L, cr, ho), i, y, a, f))[23]? = some (zO 4 [.int (nI (lS L)), .int (nI (lB L)), .int (nI (lP L)), .int (nI (lM L)), .ref 24, .ref 25, .ref 26, .ref 27, .ref 28, .ref 52, .ref 29, .ref 30]) := rfl
theorem hC_24 {r : zRw} {t : zTp} {l : zLk} {i : zLk × zLk} {y : zPy} {a : zAs} {f : Nat × Nat} {L : zL} {cr ho : Nat → Nat}  : (hC (r, t, l, (L, cr, ho), i, y, a, f))[24]? = some (zN 6 (lK L)) := rfl
theorem hC_25 {r : zRw} {t : zTp} {l : zLk} {i : zLk × zLk} {y : zPy} {a : zAs} {f : Nat × Nat} {L : zL} {cr ho : Nat → Nat}  : (hC (r, t, l, (L, cr, ho), i, y, a, f))[25]? = some (zN 6 (lA L)) := rfl
theorem hC_26 {r : zRw} {t : zTp} {l : zLk} {i : zLk × zLk} {y : zPy} {a : zAs} {f : Nat × Nat} {L : zL} {cr ho : Nat → Nat}  : (hC (r, t, l, (L, cr, ho), i, y, a, f))[26]? = some (zN 6 (lF L)) := rfl
theorem hC_27 {r : zRw} {t : zTp} {l : zLk} {i : zLk × zLk} {y : zPy} {a : zAs} {f : Nat × Nat} {L : zL} {cr ho : Nat → Nat}  : (hC (r, t, l, (L, cr, ho), i, y, a, f))[27]? = some (zN 6 (lW L)) := rfl
theorem hC_28 {r : zRw} {t : zTp} {l : zLk} {i : zLk × zLk} {y : zPy} {a : zAs} {f : Nat × Nat} {L : zL} {cr ho : Nat → Nat}  : (hC (r, t, l, (L, cr, ho), i, y, a, f))[28]? = some (zN 6 (lT L)) := rfl
theorem hC_32 {r : zRw} {t : zTp} {l : zLk} {p : zLk} {y : zPy} {a : zAs} {f : Nat × Nat} {L : zL} {cr ho : Nat → Nat}  {j : zLk} : (hC (r, t, l, p, ((L, cr, ho), j), y, a, f))[32]? = some (zO 4 [.int (nI (lS L)), .int (nI (lB L)), .int (nI (lP L)), .int (nI (lM L)), .ref 33, .ref 34, .ref 35, .ref 36, .ref 37, .ref 52, .ref 38, .ref 39]) := rfl
theorem hC_40 {r : zRw} {t : zTp} {l : zLk} {p : zLk} {y : zPy} {a : zAs} {f : Nat × Nat} {L : zL} {cr ho : Nat → Nat}  {j : zLk} : (hC (r, t, l, p, (j, (L, cr, ho)), y, a, f))[40]? = some (zO 4 [.int (nI (lS L)), .int (nI (lB L)), .int (nI (lP L)), .int (nI (lM L)), .ref 41, .ref 42, .ref 43, .ref 44, .ref 45, .ref 52, .ref 46, .ref 47]) := rfl
theorem hS_0_a {r : zRw} {t : zTp} {l : zLk} {p : zLk} {i : zLk × zLk} {y : zPy} {a : zAs} {f1 f2 v : Nat} : (hC (r, t, l, p, i, y, a, (f1, f2))).set 0 (zO 10 [.ref 1, .ref 13, .ref 15, .ref 23, .ref 31, .ref 48, .ref 50, .int (nI v), .int (nI f2)]) = hC (r, t, l, p, i, y, a, (v, f2)) := rfl
theorem hS_0_b {r : zRw} {t : zTp} {l : zLk} {p : zLk} {i : zLk × zLk} {y : zPy} {a : zAs} {f1 f2 v : Nat} : (hC (r, t, l, p, i, y, a, (f1, f2))).set 0 (zO 10 [.ref 1, .ref 13, .ref 15, .ref 23, .ref 31, .ref 48, .ref 50, .int (nI f1), .int (nI v)]) = hC (r, t, l, p, i, y, a, (f1, v)) := rfl
theorem hS_13 {r : zRw} {l : zLk} {p : zLk} {i : zLk × zLk} {y : zPy} {a : zAs} {f : Nat × Nat} {t1 t2 t3 t5 t6 v : Nat} {t4 : Nat → Nat} : (hC (r, (t1, t2, t3, t4, t5, t6), l, p, i, y, a, f)).set 13 (zO 9 [.int (nI v), .int (nI t2), .int (nI t3), .ref 14, .int (nI t5), .int (nI t6)]) = hC (r, (v, t2, t3, t4, t5, t6), l, p, i, y, a, f) := rfl
theorem hS_24 {r : zRw} {t : zTp} {l : zLk} {i : zLk × zLk} {y : zPy} {a : zAs} {f : Nat × Nat} {L : zL} {cr ho : Nat → Nat}  {g : Nat → Nat} : (hC (r, t, l, (L, cr, ho), i, y, a, f)).set 24 (zN 6 g) = hC (r, t, l, ((L.1, g, lA L, lF L, lW L, lT L), cr, ho), i, y, a, f) := rfl
theorem hS_26 {r : zRw} {t : zTp} {l : zLk} {i : zLk × zLk} {y : zPy} {a : zAs} {f : Nat × Nat} {L : zL} {cr ho : Nat → Nat}  {g : Nat → Nat} : (hC (r, t, l, (L, cr, ho), i, y, a, f)).set 26 (zN 6 g) = hC (r, t, l, ((L.1, lK L, lA L, g, lW L, lT L), cr, ho), i, y, a, f) := rfl
theorem hS_18 {r : zRw} {t : zTp} {p : zLk} {i : zLk × zLk} {y : zPy} {a : zAs} {f : Nat × Nat} {L : zL} {cr ho : Nat → Nat}  {g : Nat → Nat} : (hC (r, t, (L, cr, ho), p, i, y, a, f)).set 18 (zN 6 g) = hC (r, t, ((L.1, lK L, lA L, g, lW L, lT L), cr, ho), p, i, y, a, f) := rfl
theorem hS_19 {r : zRw} {t : zTp} {p : zLk} {i : zLk × zLk} {y : zPy} {a : zAs} {f : Nat × Nat} {L : zL} {cr ho : Nat → Nat}  {g : Nat → Nat} : (hC (r, t, (L, cr, ho), p, i, y, a, f)).set 19 (zN 6 g) = hC (r, t, ((L.1, lK L, lA L, lF L, g, lT L), cr, ho), p, i, y, a, f) := rfl
theorem hS_23 {r : zRw} {t : zTp} {l : zLk} {i : zLk × zLk} {y : zPy} {a : zAs} {f : Nat × Nat} {L : zL} {cr ho : Nat → Nat}  {v : Nat} : (hC (r, t, l, (L, cr, ho), i, y, a, f)).set 23 (zO 4 [.int (nI (lS L)), .int (nI v), .int (nI (lP L)), .int (nI (lM L)), .ref 24, .ref 25, .ref 26, .ref 27, .ref 28, .ref 52, .ref 29, .ref 30]) = hC (r, t, l, (lsB L v, cr, ho), i, y, a, f) := rfl
abbrev gPL : List Nat := [23, 24, 25, 26, 27, 28, 29, 30, 52, 53, 54, 55, 56, 57, 15, 16, 17, 18, 19, 20, 21, 22]
theorem sub_PL {r : zRw} {t : zTp} {i : zLk × zLk} {y : zPy} {a : zAs} {f : Nat × Nat} {P L : zL} {pr po cr ho : Nat → Nat} : zsub (hC (r, t, (L, cr, ho), (P, pr, po), i, y, a, f)) gPL (hLc2 P pr po L cr ho) := rfl
theorem pt_PL {r : zRw} {t : zTp} {i : zLk × zLk} {y : zPy} {a : zAs} {f : Nat × Nat} {P L : zL} {pr po cr ho : Nat → Nat} : zpt (hC (r, t, (L, cr, ho), (P, pr, po), i, y, a, f)) gPL (hLc2 L pr po L cr ho) = hC (r, t, (L, cr, ho), (L, pr, po), i, y, a, f) := by
  have e : hLc2 L pr po L cr ho = ((((((hLc2 P pr po L cr ho).set 0 (zO 4 [.int (nI (lS L)), .int (nI (lB L)), .int (nI (lP L)), .int (nI (lM L)), .ref 1, .ref 2, .ref 3, .ref 4, .ref 5, .ref 8, .ref 6, .ref 7])).set 1 (zN 6 (lK L))).set 2 (zN 6 (lA L))).set 3 (zN 6 (lF L))).set 4 (zN 6 (lW L))).set 5 (zN 6 (lT L)) := rfl
  rw [e, zpt_upd (by decide) rfl 5 28 rfl, zpt_upd (by decide) rfl 4 27 rfl, zpt_upd (by decide) rfl 3 26 rfl, zpt_upd (by decide) rfl 2 25 rfl, zpt_upd (by decide) rfl 1 24 rfl, zpt_upd (by decide) rfl 0 23 rfl, zpt_same sub_PL]
  rfl
abbrev gLP : List Nat := [15, 16, 17, 18, 19, 20, 21, 22, 52, 53, 54, 55, 56, 57, 23, 24, 25, 26, 27, 28, 29, 30]
theorem sub_LP {r : zRw} {t : zTp} {i : zLk × zLk} {y : zPy} {a : zAs} {f : Nat × Nat} {P L : zL} {pr po cr ho : Nat → Nat} : zsub (hC (r, t, (P, pr, po), (L, cr, ho), i, y, a, f)) gLP (hLc2 P pr po L cr ho) := rfl
theorem pt_LP {r : zRw} {t : zTp} {i : zLk × zLk} {y : zPy} {a : zAs} {f : Nat × Nat} {P L : zL} {pr po cr ho : Nat → Nat} : zpt (hC (r, t, (P, pr, po), (L, cr, ho), i, y, a, f)) gLP (hLc2 L pr po L cr ho) = hC (r, t, (L, pr, po), (L, cr, ho), i, y, a, f) := by
  have e : hLc2 L pr po L cr ho = ((((((hLc2 P pr po L cr ho).set 0 (zO 4 [.int (nI (lS L)), .int (nI (lB L)), .int (nI (lP L)), .int (nI (lM L)), .ref 1, .ref 2, .ref 3, .ref 4, .ref 5, .ref 8, .ref 6, .ref 7])).set 1 (zN 6 (lK L))).set 2 (zN 6 (lA L))).set 3 (zN 6 (lF L))).set 4 (zN 6 (lW L))).set 5 (zN 6 (lT L)) := rfl
  rw [e, zpt_upd (by decide) rfl 5 20 rfl, zpt_upd (by decide) rfl 4 19 rfl, zpt_upd (by decide) rfl 3 18 rfl, zpt_upd (by decide) rfl 2 17 rfl, zpt_upd (by decide) rfl 1 16 rfl, zpt_upd (by decide) rfl 0 15 rfl, zpt_same sub_LP]
  rfl
abbrev gIL : List Nat := [32, 33, 34, 35, 36, 37, 38, 39, 52, 53, 54, 55, 56, 57, 15, 16, 17, 18, 19, 20, 21, 22]
theorem sub_IL {r : zRw} {t : zTp} {p : zLk} {y : zPy} {a : zAs} {f : Nat × Nat} {P L : zL} {pr po cr ho : Nat → Nat} {j : zLk} : zsub (hC (r, t, (L, cr, ho), p, ((P, pr, po), j), y, a, f)) gIL (hLc2 P pr po L cr ho) := rfl
theorem pt_IL {r : zRw} {t : zTp} {p : zLk} {y : zPy} {a : zAs} {f : Nat × Nat} {P L : zL} {pr po cr ho : Nat → Nat} {j : zLk} : zpt (hC (r, t, (L, cr, ho), p, ((P, pr, po), j), y, a, f)) gIL (hLc2 L pr po L cr ho) = hC (r, t, (L, cr, ho), p, ((L, pr, po), j), y, a, f) := by
  have e : hLc2 L pr po L cr ho = ((((((hLc2 P pr po L cr ho).set 0 (zO 4 [.int (nI (lS L)), .int (nI (lB L)), .int (nI (lP L)), .int (nI (lM L)), .ref 1, .ref 2, .ref 3, .ref 4, .ref 5, .ref 8, .ref 6, .ref 7])).set 1 (zN 6 (lK L))).set 2 (zN 6 (lA L))).set 3 (zN 6 (lF L))).set 4 (zN 6 (lW L))).set 5 (zN 6 (lT L)) := rfl
  rw [e, zpt_upd (by decide) rfl 5 37 rfl, zpt_upd (by decide) rfl 4 36 rfl, zpt_upd (by decide) rfl 3 35 rfl, zpt_upd (by decide) rfl 2 34 rfl, zpt_upd (by decide) rfl 1 33 rfl, zpt_upd (by decide) rfl 0 32 rfl, zpt_same sub_IL]
  rfl
abbrev gJL : List Nat := [40, 41, 42, 43, 44, 45, 46, 47, 52, 53, 54, 55, 56, 57, 15, 16, 17, 18, 19, 20, 21, 22]
theorem sub_JL {r : zRw} {t : zTp} {p : zLk} {y : zPy} {a : zAs} {f : Nat × Nat} {P L : zL} {pr po cr ho : Nat → Nat} {j : zLk} : zsub (hC (r, t, (L, cr, ho), p, (j, (P, pr, po)), y, a, f)) gJL (hLc2 P pr po L cr ho) := rfl
theorem pt_JL {r : zRw} {t : zTp} {p : zLk} {y : zPy} {a : zAs} {f : Nat × Nat} {P L : zL} {pr po cr ho : Nat → Nat} {j : zLk} : zpt (hC (r, t, (L, cr, ho), p, (j, (P, pr, po)), y, a, f)) gJL (hLc2 L pr po L cr ho) = hC (r, t, (L, cr, ho), p, (j, (L, pr, po)), y, a, f) := by
  have e : hLc2 L pr po L cr ho = ((((((hLc2 P pr po L cr ho).set 0 (zO 4 [.int (nI (lS L)), .int (nI (lB L)), .int (nI (lP L)), .int (nI (lM L)), .ref 1, .ref 2, .ref 3, .ref 4, .ref 5, .ref 8, .ref 6, .ref 7])).set 1 (zN 6 (lK L))).set 2 (zN 6 (lA L))).set 3 (zN 6 (lF L))).set 4 (zN 6 (lW L))).set 5 (zN 6 (lT L)) := rfl
  rw [e, zpt_upd (by decide) rfl 5 45 rfl, zpt_upd (by decide) rfl 4 44 rfl, zpt_upd (by decide) rfl 3 43 rfl, zpt_upd (by decide) rfl 2 42 rfl, zpt_upd (by decide) rfl 1 41 rfl, zpt_upd (by decide) rfl 0 40 rfl, zpt_same sub_JL]
  rfl
abbrev gLI : List Nat := [15, 16, 17, 18, 19, 20, 21, 22, 52, 53, 54, 55, 56, 57, 32, 33, 34, 35, 36, 37, 38, 39]
theorem sub_LI {r : zRw} {t : zTp} {p : zLk} {y : zPy} {a : zAs} {f : Nat × Nat} {P L : zL} {pr po cr ho : Nat → Nat} {j : zLk} : zsub (hC (r, t, (P, pr, po), p, ((L, cr, ho), j), y, a, f)) gLI (hLc2 P pr po L cr ho) := rfl
theorem pt_LI {r : zRw} {t : zTp} {p : zLk} {y : zPy} {a : zAs} {f : Nat × Nat} {P L : zL} {pr po cr ho : Nat → Nat} {j : zLk} : zpt (hC (r, t, (P, pr, po), p, ((L, cr, ho), j), y, a, f)) gLI (hLc2 L pr po L cr ho) = hC (r, t, (L, pr, po), p, ((L, cr, ho), j), y, a, f) := by
  have e : hLc2 L pr po L cr ho = ((((((hLc2 P pr po L cr ho).set 0 (zO 4 [.int (nI (lS L)), .int (nI (lB L)), .int (nI (lP L)), .int (nI (lM L)), .ref 1, .ref 2, .ref 3, .ref 4, .ref 5, .ref 8, .ref 6, .ref 7])).set 1 (zN 6 (lK L))).set 2 (zN 6 (lA L))).set 3 (zN 6 (lF L))).set 4 (zN 6 (lW L))).set 5 (zN 6 (lT L)) := rfl
  rw [e, zpt_upd (by decide) rfl 5 20 rfl, zpt_upd (by decide) rfl 4 19 rfl, zpt_upd (by decide) rfl 3 18 rfl, zpt_upd (by decide) rfl 2 17 rfl, zpt_upd (by decide) rfl 1 16 rfl, zpt_upd (by decide) rfl 0 15 rfl, zpt_same sub_LI]
  rfl
abbrev gLJ : List Nat := [15, 16, 17, 18, 19, 20, 21, 22, 52, 53, 54, 55, 56, 57, 40, 41, 42, 43, 44, 45, 46, 47]
theorem sub_LJ {r : zRw} {t : zTp} {p : zLk} {y : zPy} {a : zAs} {f : Nat × Nat} {P L : zL} {pr po cr ho : Nat → Nat} {j : zLk} : zsub (hC (r, t, (P, pr, po), p, (j, (L, cr, ho)), y, a, f)) gLJ (hLc2 P pr po L cr ho) := rfl
theorem pt_LJ {r : zRw} {t : zTp} {p : zLk} {y : zPy} {a : zAs} {f : Nat × Nat} {P L : zL} {pr po cr ho : Nat → Nat} {j : zLk} : zpt (hC (r, t, (P, pr, po), p, (j, (L, cr, ho)), y, a, f)) gLJ (hLc2 L pr po L cr ho) = hC (r, t, (L, pr, po), p, (j, (L, cr, ho)), y, a, f) := by
  have e : hLc2 L pr po L cr ho = ((((((hLc2 P pr po L cr ho).set 0 (zO 4 [.int (nI (lS L)), .int (nI (lB L)), .int (nI (lP L)), .int (nI (lM L)), .ref 1, .ref 2, .ref 3, .ref 4, .ref 5, .ref 8, .ref 6, .ref 7])).set 1 (zN 6 (lK L))).set 2 (zN 6 (lA L))).set 3 (zN 6 (lF L))).set 4 (zN 6 (lW L))).set 5 (zN 6 (lT L)) := rfl
  rw [e, zpt_upd (by decide) rfl 5 20 rfl, zpt_upd (by decide) rfl 4 19 rfl, zpt_upd (by decide) rfl 3 18 rfl, zpt_upd (by decide) rfl 2 17 rfl, zpt_upd (by decide) rfl 1 16 rfl, zpt_upd (by decide) rfl 0 15 rfl, zpt_same sub_LJ]
  rfl
