/-! the past of the class, and its acts -/
def hPa (y : zPy) (L : zL) (cr ho : Nat → Nat) : List zE := [zO 5 [.int (nI y.1), .int (nI y.2.1), .ref 1], zN 600 y.2.2, zO 4 [.int (nI (lS L)), .int (nI (lB L)), .int (nI (lP L)), .int (nI (lM L)), .ref 3, .ref 4, .ref 5, .ref 6, .ref 7, .ref 52, .ref 8, .ref 9], zN 6 (lK L), zN 6 (lA L), zN 6 (lF L), zN 6 (lW L), zN 6 (lT L), zN 8 cr, zN 8 ho]
abbrev gPa : List Nat := [48, 49, 15, 16, 17, 18, 19, 20, 21, 22]
theorem sub_Pa {r : zRw} {t : zTp} {L : zL} {cr ho : Nat → Nat} {p : zLk} {i : zLk × zLk} {y : zPy} {a : zAs} {f : Nat × Nat} : zsub (hC (r, t, (L, cr, ho), p, i, y, a, f)) gPa (hPa y L cr ho) := rfl
theorem pt_Pa {r : zRw} {t : zTp} {l : zLk} {L : zL} {cr ho : Nat → Nat} {p : zLk} {i : zLk × zLk} {y y' : zPy} {a : zAs} {f : Nat × Nat} : zpt (hC (r, t, l, p, i, y, a, f)) gPa (hPa y' L cr ho) = hC (r, t, (L, cr, ho), p, i, y', a, f) := rfl
/-- the page b holds the line L -/
def zKg (b : Nat) (L : zL) (pg : Nat → Nat) : Nat → Nat := fun x => if x < b then pg x else if x = b then lM L else if x < b + 7 then lA L (x - (b + 1)) else if x < b + 13 then lF L (x - (b + 7)) else if x < b + 19 then lW L (x - (b + 13)) else if x < b + 25 then lT L (x - (b + 19)) else pg x
theorem zKg_ok (b : Nat) (L : zL) (pg : Nat → Nat) (j : Nat) : va_cpy (fun j => nI (lT L j)) (va_cpy (fun j => nI (lW L j)) (va_cpy (fun j => nI (lF L j)) (va_cpy (fun j => nI (lA L j)) (fun j => nI (zup pg b (lM L) j)) 0 (b + 1) 6) 0 (b + 1 + 6) 6) 0 (b + 1 + 12) 6) 0 (b + 1 + 18) 6 j = nI (zKg b L pg j) := by
  simp only [va_cpy, zKg, zup]
  repeat' split
  all_goals first | (exfalso; omega) | rfl | (congr 2; omega)
def zKo (k o : Nat) : Nat × Nat := if k = 24 then (23, (o + 1) % 24) else (k, o)
def zKp (y : zPy) (L : zL) : zPy := ((zKo y.1 y.2.1).1 + 1, (zKo y.1 y.2.1).2, zKg (((zKo y.1 y.2.1).2 + (zKo y.1 y.2.1).1) % 24 * 25) L y.2.2)
theorem zKo_a {k o : Nat} (h : ¬ k = 24) : zKo k o = (k, o) := if_neg h
theorem zKo_b {k o : Nat} (h : k = 24) : zKo k o = (23, (o + 1) % 24) := if_pos h
theorem zKo_ok {k o : Nat} (hk : k ≤ 24) (ho : o < 24) : (zKo k o).1 < 24 ∧ (zKo k o).2 < 24 := by
  by_cases h : k = 24
  · rw [zKo_b h]; exact ⟨show (23 : Nat) < 24 by decide, Nat.mod_lt _ (by decide)⟩
  · rw [zKo_a h]; exact ⟨by show k < 24; omega, ho⟩
def zYok (y : zPy) : Prop := y.1 ≤ 24 ∧ y.2.1 < 24
theorem zKp_ok {y : zPy} (L : zL) (h : zYok y) : zYok (zKp y L) ∧ 0 < (zKp y L).1 := by
  have := zKo_ok h.1 h.2
  exact ⟨⟨by show _ + 1 ≤ 24; omega, this.2⟩, Nat.succ_pos _⟩
/-- the line of a page -/
def zPl (L : zL) (y : zPy) (k : Nat) : zL := ((lS L, lB L, lP L, y.2.2 ((y.2.1 + k) % 24 * 25)), lK L, fun q => y.2.2 ((y.2.1 + k) % 24 * 25 + 1 + q), fun q => y.2.2 ((y.2.1 + k) % 24 * 25 + 1 + 6 + q), fun q => y.2.2 ((y.2.1 + k) % 24 * 25 + 1 + 12 + q), fun q => y.2.2 ((y.2.1 + k) % 24 * 25 + 1 + 18 + q))
set_option maxHeartbeats 4000000 in
set_option maxRecDepth 100000 in
theorem qX5_pageOf (y : zPy) (L : zL) (cr ho : Nat → Nat) (hy : zYok y) (k : Nat) (hk : k ≤ 24) : zMi mX5_pageOf 0 ([.ref 0, .int (nI k)]) (hPa y L cr ho) (fun z u => z = nI ((y.2.1 + k) % 24 * 25) ∧ u = hPa y L cr ho) := by
  refine zMi.of (by decide) (Nat.le_of_ble_eq_true rfl) (fun x hx hF => ?_)
  obtain ⟨y1, y2⟩ := id hy
  refine z_aload_n hx dX5_pageOf_0 rfl ?_
  refine z_get hx dX5_pageOf_1 fX5_19 rfl rfl ?_
  refine z_iload_n hx dX5_pageOf_4 rfl ?_
  first | refine z_iaddN hx dX5_pageOf_5 ?_ | refine z_iadd hx dX5_pageOf_5 ?_
  refine z_bipush (v := nI 24) hx dX5_pageOf_6 (by decide) ?_
  refine z_iremN hx dX5_pageOf_8 (by omega) (by omega) (by omega) ?_
  refine z_bipush (v := nI 25) hx dX5_pageOf_9 (by decide) ?_
  first | refine z_imulN hx dX5_pageOf_11 ?_ | refine z_imul hx dX5_pageOf_11 ?_
  exact z_iret hx hF dX5_pageOf_12 rfl rfl ⟨rfl, rfl⟩

set_option maxHeartbeats 4000000 in
set_option maxRecDepth 100000 in
theorem qX5_forget (y : zPy) (L : zL) (cr ho : Nat → Nat) : zMv mX5_forget 0 ([.ref 0]) (hPa y L cr ho) (fun u => u = hPa (0, y.2.1, y.2.2) L cr ho) := by
  refine zMv.of (by decide) (Nat.le_of_ble_eq_true rfl) (fun x hx hF => ?_)
  refine z_aload_n hx dX5_forget_0 rfl ?_
  refine z_iconst (v := nI 0) hx dX5_forget_1 (by decide) ?_
  refine z_puti hx dX5_forget_2 pX5_15 rfl (Nat.le_of_ble_eq_true rfl) ?_
  exact z_vret hx hF dX5_forget_5 rfl rfl rfl

set_option maxHeartbeats 4000000 in
set_option maxRecDepth 100000 in
theorem qX5_keep (y : zPy) (L : zL) (cr ho : Nat → Nat) (hy : zYok y) : zMv mX5_keep 1 ([.ref 0, .ref 2]) (hPa y L cr ho) (fun u => u = hPa (zKp y L) L cr ho) := by
  refine zMv.of (by decide) (Nat.le_of_ble_eq_true rfl) (fun x hx hF => ?_)
  obtain ⟨y1, y2⟩ := id hy
  have loop32 : ∀ (k o : Nat), k < 24 → o < 24 → zKo y.1 y.2.1 = (k, o) →  zV x 32 [some (.ref 0), some (.ref 2), none] ([]) (hPa (k, o, y.2.2) L cr ho) := by
    intro k o hk ho9 hz
    refine z_aload_n hx dX5_keep_32 rfl ?_
    refine z_aload_n hx dX5_keep_33 rfl ?_
    refine z_get hx dX5_keep_34 fX5_15 rfl rfl ?_
    refine z_callivF hx (qX5_pageOf (k, o, y.2.2) L cr ho ⟨by show _ ≤ 24; omega, by show _ < 24; omega⟩ (k) (by omega)) dX5_keep_37 sX5_22 rfl rfl rfl rfl (Nat.le_of_ble_eq_true rfl) rfl (Nat.le_of_ble_eq_true rfl) (by decide) ?_
    refine z_istore_n hx dX5_keep_40 (Nat.le_of_ble_eq_true rfl) rfl ?_
    refine z_aload_n hx dX5_keep_41 rfl ?_
    refine z_get hx dX5_keep_42 fX5_11 rfl rfl ?_
    refine z_iload_n hx dX5_keep_45 rfl ?_
    refine z_aload_n hx dX5_keep_46 rfl ?_
    refine z_get hx dX5_keep_47 fX5_26 rfl rfl ?_
    first | refine z_iastN hx dX5_keep_50 rfl (by decide) (by omega) ?_ | refine z_iastJ hx dX5_keep_50 rfl (by decide) (by omega) ?_
    refine z_aload_n hx dX5_keep_51 rfl ?_
    refine z_get hx dX5_keep_52 fX5_31 rfl rfl ?_
    refine z_iconst (v := nI 0) hx dX5_keep_55 (by decide) ?_
    refine z_aload_n hx dX5_keep_56 rfl ?_
    refine z_get hx dX5_keep_57 fX5_11 rfl rfl ?_
    refine z_iload_n hx dX5_keep_60 rfl ?_
    refine z_iconst (v := nI 1) hx dX5_keep_61 (by decide) ?_
    first | refine z_iaddN hx dX5_keep_62 ?_ | refine z_iadd hx dX5_keep_62 ?_
    refine z_bipush (v := nI 6) hx dX5_keep_63 (by decide) ?_
    refine z_acopy hx dX5_keep_65 aX5_34 rfl rfl (by decide) (by decide) (by omega) (by omega) rfl (by decide) (Nat.le_of_ble_eq_true rfl) ?_
    refine z_aload_n hx dX5_keep_68 rfl ?_
    refine z_get hx dX5_keep_69 fX5_40 rfl rfl ?_
    refine z_iconst (v := nI 0) hx dX5_keep_72 (by decide) ?_
    refine z_aload_n hx dX5_keep_73 rfl ?_
    refine z_get hx dX5_keep_74 fX5_11 rfl rfl ?_
    refine z_iload_n hx dX5_keep_77 rfl ?_
    refine z_iconst (v := nI 1) hx dX5_keep_78 (by decide) ?_
    first | refine z_iaddN hx dX5_keep_79 ?_ | refine z_iadd hx dX5_keep_79 ?_
    refine z_bipush (v := nI 6) hx dX5_keep_80 (by decide) ?_
    first | refine z_iaddN hx dX5_keep_82 ?_ | refine z_iadd hx dX5_keep_82 ?_
    refine z_bipush (v := nI 6) hx dX5_keep_83 (by decide) ?_
    refine z_acopy hx dX5_keep_85 aX5_34 rfl rfl (by decide) (by decide) (by omega) (by omega) rfl (by decide) (Nat.le_of_ble_eq_true rfl) ?_
    refine z_aload_n hx dX5_keep_88 rfl ?_
    refine z_get hx dX5_keep_89 fX5_43 rfl rfl ?_
    refine z_iconst (v := nI 0) hx dX5_keep_92 (by decide) ?_
    refine z_aload_n hx dX5_keep_93 rfl ?_
    refine z_get hx dX5_keep_94 fX5_11 rfl rfl ?_
    refine z_iload_n hx dX5_keep_97 rfl ?_
    refine z_iconst (v := nI 1) hx dX5_keep_98 (by decide) ?_
    first | refine z_iaddN hx dX5_keep_99 ?_ | refine z_iadd hx dX5_keep_99 ?_
    refine z_bipush (v := nI 12) hx dX5_keep_100 (by decide) ?_
    first | refine z_iaddN hx dX5_keep_102 ?_ | refine z_iadd hx dX5_keep_102 ?_
    refine z_bipush (v := nI 6) hx dX5_keep_103 (by decide) ?_
    refine z_acopy hx dX5_keep_105 aX5_34 rfl rfl (by decide) (by decide) (by omega) (by omega) rfl (by decide) (Nat.le_of_ble_eq_true rfl) ?_
    refine z_aload_n hx dX5_keep_108 rfl ?_
    refine z_get hx dX5_keep_109 fX5_46 rfl rfl ?_
    refine z_iconst (v := nI 0) hx dX5_keep_112 (by decide) ?_
    refine z_aload_n hx dX5_keep_113 rfl ?_
    refine z_get hx dX5_keep_114 fX5_11 rfl rfl ?_
    refine z_iload_n hx dX5_keep_117 rfl ?_
    refine z_iconst (v := nI 1) hx dX5_keep_118 (by decide) ?_
    first | refine z_iaddN hx dX5_keep_119 ?_ | refine z_iadd hx dX5_keep_119 ?_
    refine z_bipush (v := nI 18) hx dX5_keep_120 (by decide) ?_
    first | refine z_iaddN hx dX5_keep_122 ?_ | refine z_iadd hx dX5_keep_122 ?_
    refine z_bipush (v := nI 6) hx dX5_keep_123 (by decide) ?_
    refine z_acopy hx dX5_keep_125 aX5_34 rfl rfl (by decide) (by decide) (by omega) (by omega) rfl (by decide) (Nat.le_of_ble_eq_true rfl) ?_
    refine z_cell (q := 1) (fun j => nI (zKg ((o + k) % 24 * 25) L y.2.2 j)) rfl (fun j hj => zKg_ok _ L y.2.2 j) ?_
    refine z_heap (show _ = hPa (k, o, zKg ((o + k) % 24 * 25) L y.2.2) L cr ho from rfl) ?_
    refine z_aload_n hx dX5_keep_128 rfl ?_
    refine z_dup hx dX5_keep_129 rfl ?_
    refine z_get hx dX5_keep_130 fX5_15 rfl rfl ?_
    refine z_iconst (v := nI 1) hx dX5_keep_133 (by decide) ?_
    first | refine z_iaddN hx dX5_keep_134 ?_ | refine z_iadd hx dX5_keep_134 ?_
    refine z_puti hx dX5_keep_135 pX5_15 rfl (Nat.le_of_ble_eq_true rfl) ?_
    exact z_vret hx hF dX5_keep_138 rfl rfl (by unfold zKp; rw [hz]; rfl)
  refine z_aload_n hx dX5_keep_0 rfl ?_
  refine z_get hx dX5_keep_1 fX5_15 rfl rfl ?_
  refine z_bipush (v := nI 24) hx dX5_keep_4 (by decide) ?_
  first | refine z_icmp_neN (tgt := 32) hx dX5_keep_6 (by decide) (by omega) (by omega) (fun zc6 => ?_) (fun zc6 => ?_) | refine z_icmp_ne (tgt := 32) hx dX5_keep_6 (by decide) (fun zc6 => ?_) (fun zc6 => ?_)
  · skip
    first | exact loop32 y.1 y.2.1 (by omega) (by omega) (zKo_a zc6) | exact z_heap (show _ = hPa (23, (y.2.1 + 1) % 24, y.2.2) L cr ho by rw [show (23 : Nat) = y.1 - 1 by omega]; rfl) (loop32 23 ((y.2.1 + 1) % 24) (by omega) (by omega) (zKo_b zc6))
  · skip
    refine z_aload_n hx dX5_keep_9 rfl ?_
    refine z_aload_n hx dX5_keep_10 rfl ?_
    refine z_get hx dX5_keep_11 fX5_19 rfl rfl ?_
    refine z_iconst (v := nI 1) hx dX5_keep_14 (by decide) ?_
    first | refine z_iaddN hx dX5_keep_15 ?_ | refine z_iadd hx dX5_keep_15 ?_
    refine z_bipush (v := nI 24) hx dX5_keep_16 (by decide) ?_
    refine z_iremN hx dX5_keep_18 (by omega) (by omega) (by omega) ?_
    refine z_puti hx dX5_keep_19 pX5_19 rfl (Nat.le_of_ble_eq_true rfl) ?_
    refine z_aload_n hx dX5_keep_22 rfl ?_
    refine z_dup hx dX5_keep_23 rfl ?_
    refine z_get hx dX5_keep_24 fX5_15 rfl rfl ?_
    refine z_iconst (v := nI 1) hx dX5_keep_27 (by decide) ?_
    first | refine z_isubN hx dX5_keep_28 (by omega) ?_ | refine z_isub hx dX5_keep_28 ?_
    refine z_puti hx dX5_keep_29 pX5_15 rfl (Nat.le_of_ble_eq_true rfl) ?_
    first | exact loop32 y.1 y.2.1 (by omega) (by omega) (zKo_a zc6) | exact z_heap (show _ = hPa (23, (y.2.1 + 1) % 24, y.2.2) L cr ho by rw [show (23 : Nat) = y.1 - 1 by omega]; rfl) (loop32 23 ((y.2.1 + 1) % 24) (by omega) (by omega) (zKo_b zc6))

set_option maxHeartbeats 4000000 in
set_option maxRecDepth 100000 in
theorem qX5_takeBack (y : zPy) (L : zL) (cr ho : Nat → Nat) (hy : zYok y) (hk0 : 0 < y.1) : zMv mX5_takeBack 1 ([.ref 0, .ref 2]) (hPa y L cr ho) (fun u => u = hPa (y.1 - 1, y.2.1, y.2.2) (zPl L y (y.1 - 1)) cr ho) := by
  refine zMv.of (by decide) (Nat.le_of_ble_eq_true rfl) (fun x hx hF => ?_)
  obtain ⟨y1, y2⟩ := id hy
  refine z_aload_n hx dX5_takeBack_0 rfl ?_
  refine z_get hx dX5_takeBack_1 fX5_15 rfl rfl ?_
  first | refine z_if_leN (tgt := 113) hx dX5_takeBack_4 (by decide) (by omega) (fun zc4 => ?_) (fun zc4 => ?_) | refine z_if_le (tgt := 113) hx dX5_takeBack_4 (by decide) (fun zc4 => ?_) (fun zc4 => ?_)
  · skip
    exfalso; omega
  · skip
    refine z_aload_n hx dX5_takeBack_7 rfl ?_
    refine z_dup hx dX5_takeBack_8 rfl ?_
    refine z_get hx dX5_takeBack_9 fX5_15 rfl rfl ?_
    refine z_iconst (v := nI 1) hx dX5_takeBack_12 (by decide) ?_
    first | refine z_isubN hx dX5_takeBack_13 (by omega) ?_ | refine z_isub hx dX5_takeBack_13 ?_
    refine z_puti hx dX5_takeBack_14 pX5_15 rfl (Nat.le_of_ble_eq_true rfl) ?_
    refine z_heap (show _ = hPa (y.1 - 1, y.2.1, y.2.2) L cr ho from rfl) ?_
    refine z_aload_n hx dX5_takeBack_17 rfl ?_
    refine z_aload_n hx dX5_takeBack_18 rfl ?_
    refine z_get hx dX5_takeBack_19 fX5_15 rfl rfl ?_
    refine z_callivF hx (qX5_pageOf (y.1 - 1, y.2.1, y.2.2) L cr ho ⟨by show _ ≤ 24; omega, by show _ < 24; omega⟩ (y.1 - 1) (by omega)) dX5_takeBack_22 sX5_22 rfl rfl rfl rfl (Nat.le_of_ble_eq_true rfl) rfl (Nat.le_of_ble_eq_true rfl) (by decide) ?_
    refine z_istore_n hx dX5_takeBack_25 (Nat.le_of_ble_eq_true rfl) rfl ?_
    refine z_aload_n hx dX5_takeBack_26 rfl ?_
    refine z_aload_n hx dX5_takeBack_27 rfl ?_
    refine z_get hx dX5_takeBack_28 fX5_11 rfl rfl ?_
    refine z_iload_n hx dX5_takeBack_31 rfl ?_
    refine z_ialdJ hx dX5_takeBack_32 rfl (by decide) (by omega) ?_
    refine z_puti hx dX5_takeBack_33 pX5_26 rfl (Nat.le_of_ble_eq_true rfl) ?_
    refine z_aload_n hx dX5_takeBack_36 rfl ?_
    refine z_get hx dX5_takeBack_37 fX5_11 rfl rfl ?_
    refine z_iload_n hx dX5_takeBack_40 rfl ?_
    refine z_iconst (v := nI 1) hx dX5_takeBack_41 (by decide) ?_
    first | refine z_iaddN hx dX5_takeBack_42 ?_ | refine z_iadd hx dX5_takeBack_42 ?_
    refine z_aload_n hx dX5_takeBack_43 rfl ?_
    refine z_get hx dX5_takeBack_44 fX5_31 rfl rfl ?_
    refine z_iconst (v := nI 0) hx dX5_takeBack_47 (by decide) ?_
    refine z_bipush (v := nI 6) hx dX5_takeBack_48 (by decide) ?_
    refine z_acopy hx dX5_takeBack_50 aX5_34 rfl rfl (by decide) (by decide) (by omega) (by omega) rfl (by decide) (Nat.le_of_ble_eq_true rfl) ?_
    refine z_cell (q := 4) (fun j => nI (y.2.2 ((y.2.1 + (y.1 - 1)) % 24 * 25 + 1 + j))) rfl (fun j hj => by unfold va_cpy; rw [if_pos (by omega)]; rfl) ?_
    refine z_aload_n hx dX5_takeBack_53 rfl ?_
    refine z_get hx dX5_takeBack_54 fX5_11 rfl rfl ?_
    refine z_iload_n hx dX5_takeBack_57 rfl ?_
    refine z_iconst (v := nI 1) hx dX5_takeBack_58 (by decide) ?_
    first | refine z_iaddN hx dX5_takeBack_59 ?_ | refine z_iadd hx dX5_takeBack_59 ?_
    refine z_bipush (v := nI 6) hx dX5_takeBack_60 (by decide) ?_
    first | refine z_iaddN hx dX5_takeBack_62 ?_ | refine z_iadd hx dX5_takeBack_62 ?_
    refine z_aload_n hx dX5_takeBack_63 rfl ?_
    refine z_get hx dX5_takeBack_64 fX5_40 rfl rfl ?_
    refine z_iconst (v := nI 0) hx dX5_takeBack_67 (by decide) ?_
    refine z_bipush (v := nI 6) hx dX5_takeBack_68 (by decide) ?_
    refine z_acopy hx dX5_takeBack_70 aX5_34 rfl rfl (by decide) (by decide) (by omega) (by omega) rfl (by decide) (Nat.le_of_ble_eq_true rfl) ?_
    refine z_cell (q := 5) (fun j => nI (y.2.2 ((y.2.1 + (y.1 - 1)) % 24 * 25 + 1 + 6 + j))) rfl (fun j hj => by unfold va_cpy; rw [if_pos (by omega)]; rfl) ?_
    refine z_aload_n hx dX5_takeBack_73 rfl ?_
    refine z_get hx dX5_takeBack_74 fX5_11 rfl rfl ?_
    refine z_iload_n hx dX5_takeBack_77 rfl ?_
    refine z_iconst (v := nI 1) hx dX5_takeBack_78 (by decide) ?_
    first | refine z_iaddN hx dX5_takeBack_79 ?_ | refine z_iadd hx dX5_takeBack_79 ?_
    refine z_bipush (v := nI 12) hx dX5_takeBack_80 (by decide) ?_
    first | refine z_iaddN hx dX5_takeBack_82 ?_ | refine z_iadd hx dX5_takeBack_82 ?_
    refine z_aload_n hx dX5_takeBack_83 rfl ?_
    refine z_get hx dX5_takeBack_84 fX5_43 rfl rfl ?_
    refine z_iconst (v := nI 0) hx dX5_takeBack_87 (by decide) ?_
    refine z_bipush (v := nI 6) hx dX5_takeBack_88 (by decide) ?_
    refine z_acopy hx dX5_takeBack_90 aX5_34 rfl rfl (by decide) (by decide) (by omega) (by omega) rfl (by decide) (Nat.le_of_ble_eq_true rfl) ?_
    refine z_cell (q := 6) (fun j => nI (y.2.2 ((y.2.1 + (y.1 - 1)) % 24 * 25 + 1 + 12 + j))) rfl (fun j hj => by unfold va_cpy; rw [if_pos (by omega)]; rfl) ?_
    refine z_aload_n hx dX5_takeBack_93 rfl ?_
    refine z_get hx dX5_takeBack_94 fX5_11 rfl rfl ?_
    refine z_iload_n hx dX5_takeBack_97 rfl ?_
    refine z_iconst (v := nI 1) hx dX5_takeBack_98 (by decide) ?_
    first | refine z_iaddN hx dX5_takeBack_99 ?_ | refine z_iadd hx dX5_takeBack_99 ?_
    refine z_bipush (v := nI 18) hx dX5_takeBack_100 (by decide) ?_
    first | refine z_iaddN hx dX5_takeBack_102 ?_ | refine z_iadd hx dX5_takeBack_102 ?_
    refine z_aload_n hx dX5_takeBack_103 rfl ?_
    refine z_get hx dX5_takeBack_104 fX5_46 rfl rfl ?_
    refine z_iconst (v := nI 0) hx dX5_takeBack_107 (by decide) ?_
    refine z_bipush (v := nI 6) hx dX5_takeBack_108 (by decide) ?_
    refine z_acopy hx dX5_takeBack_110 aX5_34 rfl rfl (by decide) (by decide) (by omega) (by omega) rfl (by decide) (Nat.le_of_ble_eq_true rfl) ?_
    refine z_cell (q := 7) (fun j => nI (y.2.2 ((y.2.1 + (y.1 - 1)) % 24 * 25 + 1 + 18 + j))) rfl (fun j hj => by unfold va_cpy; rw [if_pos (by omega)]; rfl) ?_
    exact z_vret hx hF dX5_takeBack_113 rfl rfl rfl

/-- minutes: the answer, how many pass -/
noncomputable def aMin (L : zL) (v : Int32) : Int32 × Nat := zIG (0 < lS L) (zIG (inR 1 24 v) (zIG (lM L + zNat v ≤ 999) (nI (zTh (zIt L 0 (zNat v)) (lP L)), zNat v) (-1000003, 0)) (-1000001, 0)) (-1000002, 0)
noncomputable def zKi (L : zL) (y : zPy) : Nat → zPy
  | 0 => y
  | d + 1 => zKp (zKi L y d) (zIt L 0 d)
theorem zKi_ok {y : zPy} (L : zL) (h : zYok y) : ∀ d, zYok (zKi L y d)
  | 0 => h
  | d + 1 => (zKp_ok _ (zKi_ok L h d)).1
def zNx (L : zL) (v w : Int32) : Int32 := nI (lA L (zNat v)) + (if w = nI 1 then nI 1 else -1)
/-- an act: the answer, and the line if it was done -/
noncomputable def aWlk (L : zL) (v w : Int32) : Int32 × Option zL := zIG (inP (lP L) v ∧ inR 0 1 w) (zIG (inP (lS L) (zNx L v w)) (zNx L v w, some (lsT (lsA L (zNat v) (zNat (zNx L v w))) (zNat v) 0)) (-1000002, none)) (-1000001, none)
noncomputable def aPre (L : zL) (v w : Int32) : Int32 × Option zL := zIG (inP (lP L) v ∧ inR 0 20 w) (nI (lF L (zNat v)), some (lsF L (zNat v) (zNat w))) (-1000001, none)
noncomputable def aWsh (L : zL) (v w : Int32) : Int32 × Option zL := zIG (inP (lP L) v ∧ inP (lS L) w) (nI (lW L (zNat v)), some (lsW L (zNat v) (zNat w))) (-1000001, none)
def zOl (o : Option zL) (L : zL) : zL := match o with | none => L | some M => M
def zOy (o : Option zL) (y : zPy) (L : zL) : zPy := match o with | none => y | some _ => zKp y L
/-- images -/
noncomputable def aImg (L : zL) (v : Int32) : Int32 × Option Nat := zIG (inR 0 1 v) (zIG (0 < lS L) (nI 1, some (zNat v)) (-1000002, none)) (-1000001, none)
def zOi (o : Option Nat) (L : zL) (i : zLk × zLk) : zLk × zLk := match o with | none => i | some 0 => ((L, i.1.2), i.2) | some (_ + 1) => (i.1, (L, i.2.2))
def zIm (i : zLk × zLk) (k : Nat) : zL := if k = 0 then i.1.1 else i.2.1
noncomputable def aRst (i : zLk × zLk) (v : Int32) : Int32 × Option zL := zIG (inR 0 1 v) (zIG (lS (zIm i (zNat v)) = 0) (-1000002, none) (nI 1, some (zIm i (zNat v)))) (-1000001, none)
def zOf (o : Option zL) (y : zPy) : zPy := match o with | none => y | some _ => (0, y.2.1, y.2.2)
set_option maxHeartbeats 4000000 in
set_option maxRecDepth 100000 in
theorem qX11_minutes (r : zRw) (t : zTp) (L : zL) (cr ho : Nat → Nat) (p : zLk) (i : zLk × zLk) (y : zPy) (a : zAs) (f : Nat × Nat) (hw : zWf L) (hm : lM L ≤ 1000) (hy : zYok y) (v : Int32) : zMi mX11_minutes 6 ([.ref 0, .int v]) (hC (r, t, (L, cr, ho), p, i, y, a, f)) (fun z u => ∃ d9 cr ho, (z, d9) = aMin L v ∧ u = hC (r, t, (zIt L 0 d9, cr, ho), p, i, zKi L y d9, a, f)) := by
  refine zMi.of (by decide) (Nat.le_of_ble_eq_true rfl) (fun x hx hF => ?_)
  obtain ⟨w1, w2, w3, w4, w5⟩ := id hw
  have hloop : ∀ (hS9 : 0 < lS L) (ze : Nat) (zh1 : 1 ≤ ze) (zhe : ze ≤ 24) (zc35 : lM L + ze ≤ 999) (hF : zFi x (hC (r, t, (L, cr, ho), p, i, y, a, f)).length (fun z u => ∃ d9 cr ho, (z, d9) = aMin L (nI ze) ∧ u = hC (r, t, (zIt L 0 d9, cr, ho), p, i, zKi L y d9, a, f))) (n43 d : Nat) (cr ho : Nat → Nat), ze - d = n43 → d ≤ ze → zV x 43 [some (.ref 0), some (.int (nI ze)), some (.int (nI d))] [] (hC (r, t, (zIt L 0 d, cr, ho), p, i, zKi L y d, a, f)) := by
    intro hS9 ze zh1 zhe zc35 hF n43
    have hne : zNat (nI ze) = ze := zNat_nI (by omega)
    induction n43 using Nat.strongRecOn with
    | ind n43 ih =>
      intro d cr ho hn hd
      have w := zWf_it hw 0 d (by omega)
      have hq9 := zIt_P L 0 d
      have hyd := zKi_ok L hy d
      refine z_iload_n hx dX11_minutes_43 rfl ?_
      refine z_iload_n hx dX11_minutes_44 rfl ?_
      first | refine z_icmp_geN (tgt := 74) hx dX11_minutes_45 (by decide) (by omega) (by omega) (fun zc45 => ?_) (fun zc45 => ?_) | refine z_icmp_ge (tgt := 74) hx dX11_minutes_45 (by decide) (fun zc45 => ?_) (fun zc45 => ?_)
      · skip
        refine z_aload_n hx dX11_minutes_74 rfl ?_
        refine z_get hx dX11_minutes_75 fX11_45 hC_0 rfl ?_
        refine z_callivP hx gLn (qX4_thereBits (zIt L 0 d) cr ho w) dX11_minutes_78 sX11_157 rfl rfl (sub_Ln _ _ _ _ _ _ _ _ _ _) rfl rfl (by decide) (by decide) rfl (Nat.le_of_ble_eq_true rfl) (by decide) ?_
        exact z_iret hx hF dX11_minutes_81 rfl rfl ⟨d, _, _, by unfold aMin; first | (rw [zIG_t hS9, zIG_t (c := inR 1 24 _) ⟨ze, zh1, zhe, rfl⟩, hne, zIG_t zc35, hq9.1, show ze = d by omega]) | exact zzz_open, rfl⟩
      · skip
        refine z_aload_n hx dX11_minutes_48 rfl ?_
        refine z_get hx dX11_minutes_49 fX11_59 hC_0 rfl ?_
        refine z_aload_n hx dX11_minutes_52 rfl ?_
        refine z_get hx dX11_minutes_53 fX11_45 hC_0 rfl ?_
        refine z_callvvE hx gPa (qX5_keep (zKi L y d) (zIt L 0 d) cr ho (hyd)) dX11_minutes_56 sX11_151 rfl rfl sub_Pa rfl rfl (by decide) (by decide) rfl (Nat.le_of_ble_eq_true rfl) (by decide) ?_
        refine z_heap pt_Pa ?_
        refine z_aload_n hx dX11_minutes_59 rfl ?_
        refine z_get hx dX11_minutes_60 fX11_45 hC_0 rfl ?_
        refine z_iconst (v := nI 0) hx dX11_minutes_63 (by decide) ?_
        refine z_callivE hx gLn (qX4_pass (zIt L 0 d) cr ho (w) 0 (by omega)) dX11_minutes_64 sX11_154 rfl rfl (sub_Ln _ _ _ _ _ _ _ _ _ _) rfl rfl (by decide) (by decide) rfl (Nat.le_of_ble_eq_true rfl) (by decide) ?_
        refine z_heap (pt_Ln _ _ _ _ _ _ _ _ _ _ _) ?_
        refine z_heap (show _ = hC (r, t, (zIt L 0 (d + 1), zCn (zIt L 0 d) (lP (zIt L 0 d)), zHs (zIt L 0 d) 0), p, i, zKi L y (d + 1), a, f) from rfl) ?_
        refine z_pop hx dX11_minutes_67 rfl ?_
        first | refine z_iincN (z := 1) hx dX11_minutes_68 rfl rfl ?_ | refine z_iinc hx dX11_minutes_68 rfl rfl rfl ?_
        refine z_goto (tgt := 43) hx dX11_minutes_71 (by decide) ?_
        exact ih _ (by omega) (d + 1) _ _ rfl (by omega)
  refine z_aload_n hx dX11_minutes_0 rfl ?_
  refine z_callivF hx (qX11_hasLine r t p i y a f L cr ho hw) dX11_minutes_1 sX11_143 hC_0 rfl rfl rfl (Nat.le_of_ble_eq_true rfl) rfl (Nat.le_of_ble_eq_true rfl) (by decide) ?_
  first | refine z_if_neB (tgt := 10) hx dX11_minutes_4 (by decide) (fun zc4 => ?_) (fun zc4 => ?_) | refine z_if_neN (tgt := 10) hx dX11_minutes_4 (by decide) (by omega) (fun zc4 => ?_) (fun zc4 => ?_) | refine z_if_ne (tgt := 10) hx dX11_minutes_4 (by decide) (fun zc4 => ?_) (fun zc4 => ?_)
  · skip
    refine z_iload_n hx dX11_minutes_10 rfl ?_
    refine z_iconst (v := nI 1) hx dX11_minutes_11 (by decide) ?_
    refine z_bipush (v := nI 24) hx dX11_minutes_12 (by decide) ?_
    refine z_callisP hx [] (qX11_isWithinN _ _ _ (by decide)) dX11_minutes_14 sX11_74 rfl rfl rfl (by decide) (by decide) rfl (Nat.le_of_ble_eq_true rfl) (by decide) ?_
    first | refine z_if_neB (tgt := 23) hx dX11_minutes_17 (by decide) (fun zc17 => ?_) (fun zc17 => ?_) | refine z_if_neN (tgt := 23) hx dX11_minutes_17 (by decide) (by omega) (fun zc17 => ?_) (fun zc17 => ?_) | refine z_if_ne (tgt := 23) hx dX11_minutes_17 (by decide) (fun zc17 => ?_) (fun zc17 => ?_)
    · skip
      obtain ⟨ze, zh1, zhe, rfl⟩ := zc17
      have hne : zNat (nI ze) = ze := zNat_nI (by omega)
      refine z_aload_n hx dX11_minutes_23 rfl ?_
      refine z_get hx dX11_minutes_24 fX11_45 hC_0 rfl ?_
      refine z_get hx dX11_minutes_27 fX11_148 hC_15 rfl ?_
      refine z_iload_n hx dX11_minutes_30 rfl ?_
      first | refine z_iaddN hx dX11_minutes_31 ?_ | refine z_iadd hx dX11_minutes_31 ?_
      refine z_sipush (v := nI 999) hx dX11_minutes_32 (by decide) ?_
      first | refine z_icmp_leN (tgt := 41) hx dX11_minutes_35 (by decide) (by omega) (by omega) (fun zc35 => ?_) (fun zc35 => ?_) | refine z_icmp_le (tgt := 41) hx dX11_minutes_35 (by decide) (fun zc35 => ?_) (fun zc35 => ?_)
      · skip
        refine z_iconst (v := nI 0) hx dX11_minutes_41 (by decide) ?_
        refine z_istore_n hx dX11_minutes_42 (Nat.le_of_ble_eq_true rfl) rfl ?_
        exact hloop zc4 ze zh1 zhe zc35 hF _ 0 cr ho rfl (by omega)
      · skip
        refine z_ldc hx dX11_minutes_38 kX11_115 ?_
        exact z_iret hx hF dX11_minutes_40 rfl rfl ⟨0, _, _, by unfold aMin; first | (rw [zIG_f zc4]) | (rw [zIG_t zc4, zIG_f (c := inR 1 24 v) zc17]) | (rw [zIG_t zc4, zIG_t (c := inR 1 24 _) ⟨ze, zh1, zhe, rfl⟩, zIG_f (by rw [hne]; omega)]) | exact zzz_open, rfl⟩
    · skip
      refine z_ldc hx dX11_minutes_20 kX11_78 ?_
      exact z_iret hx hF dX11_minutes_22 rfl rfl ⟨0, _, _, by unfold aMin; first | (rw [zIG_f zc4]) | (rw [zIG_t zc4, zIG_f (c := inR 1 24 v) zc17]) | (rw [zIG_t zc4, zIG_t (c := inR 1 24 _) ⟨ze, zh1, zhe, rfl⟩, zIG_f (by rw [hne]; omega)]) | exact zzz_open, rfl⟩
  · skip
    refine z_ldc hx dX11_minutes_7 kX11_147 ?_
    exact z_iret hx hF dX11_minutes_9 rfl rfl ⟨0, _, _, by unfold aMin; first | (rw [zIG_f zc4]) | (rw [zIG_t zc4, zIG_f (c := inR 1 24 v) zc17]) | (rw [zIG_t zc4, zIG_t (c := inR 1 24 _) ⟨ze, zh1, zhe, rfl⟩, zIG_f (by rw [hne]; omega)]) | exact zzz_open, rfl⟩

set_option maxHeartbeats 4000000 in
set_option maxRecDepth 100000 in
theorem qX11_walk (r : zRw) (t : zTp) (L : zL) (cr ho : Nat → Nat) (p : zLk) (i : zLk × zLk) (y : zPy) (a : zAs) (f : Nat × Nat) (hw : zWf L) (hm : lM L ≤ 1000) (hy : zYok y) (v w : Int32) : zMi mX11_walk 3 ([.ref 0, .int v, .int w]) (hC (r, t, (L, cr, ho), p, i, y, a, f)) (fun z u => ∃ o9, (z, o9) = aWlk L v w ∧ u = hC (r, t, (zOl o9 L, cr, ho), p, i, zOy o9 y L, a, f)) := by
  refine zMi.of (by decide) (Nat.le_of_ble_eq_true rfl) (fun x hx hF => ?_)
  obtain ⟨w1, w2, w3, w4, w5⟩ := id hw
  refine z_aload_n hx dX11_walk_0 rfl ?_
  refine z_iload_n hx dX11_walk_1 rfl ?_
  refine z_callivF hx (qX11_isPerson r t p i y a f L cr ho hw _) dX11_walk_2 sX11_161 hC_0 rfl rfl rfl (Nat.le_of_ble_eq_true rfl) rfl (Nat.le_of_ble_eq_true rfl) (by decide) ?_
  first | refine z_if_eqB (tgt := 17) hx dX11_walk_5 (by decide) (fun zc5 => ?_) (fun zc5 => ?_) | refine z_if_eqN (tgt := 17) hx dX11_walk_5 (by decide) (by omega) (fun zc5 => ?_) (fun zc5 => ?_) | refine z_if_eq (tgt := 17) hx dX11_walk_5 (by decide) (fun zc5 => ?_) (fun zc5 => ?_)
  · skip
    refine z_ldc hx dX11_walk_17 kX11_78 ?_
    exact z_iret hx hF dX11_walk_19 rfl rfl ⟨none, by unfold aWlk; first | (rw [zIG_f (fun h => zc5 h.1)]) | (rw [zIG_f (fun h => zc14 h.2)]) | (rw [zIG_t ⟨⟨zj, zhj, rfl⟩, ⟨ze, Nat.zero_le _, zhe, rfl⟩⟩, zIG_f (c := inP (lS L) _) zc46]) | (rw [zIG_t ⟨⟨zj, zhj, rfl⟩, ⟨ze, Nat.zero_le _, zhe, rfl⟩⟩, zIG_t (c := inP (lS L) _) zc46, hnx, hnj, hnk]) | exact zzz_open, rfl⟩
  · skip
    obtain ⟨zj, zhj, rfl⟩ := zc5
    have w6 := w5 zj zhj
    have hnj : zNat (nI zj) = zj := zNat_nI (by omega)
    refine z_iload_n hx dX11_walk_8 rfl ?_
    refine z_iconst (v := nI 0) hx dX11_walk_9 (by decide) ?_
    refine z_iconst (v := nI 1) hx dX11_walk_10 (by decide) ?_
    refine z_callisP hx [] (qX11_isWithinN _ _ _ (by decide)) dX11_walk_11 sX11_74 rfl rfl rfl (by decide) (by decide) rfl (Nat.le_of_ble_eq_true rfl) (by decide) ?_
    first | refine z_if_neB (tgt := 20) hx dX11_walk_14 (by decide) (fun zc14 => ?_) (fun zc14 => ?_) | refine z_if_neN (tgt := 20) hx dX11_walk_14 (by decide) (by omega) (fun zc14 => ?_) (fun zc14 => ?_) | refine z_if_ne (tgt := 20) hx dX11_walk_14 (by decide) (fun zc14 => ?_) (fun zc14 => ?_)
    · skip
      obtain ⟨ze, -, zhe, rfl⟩ := zc14
      refine z_aload_n hx dX11_walk_20 rfl ?_
      refine z_get hx dX11_walk_21 fX11_45 hC_0 rfl ?_
      refine z_get hx dX11_walk_24 fX11_164 hC_15 rfl ?_
      refine z_iload_n hx dX11_walk_27 rfl ?_
      refine z_ialdJ hx dX11_walk_28 hC_17 (by decide) (by omega) ?_
      refine z_iload_n hx dX11_walk_29 rfl ?_
      refine z_iconst (v := nI 1) hx dX11_walk_30 (by decide) ?_
      first | refine z_icmp_neN (tgt := 38) hx dX11_walk_31 (by decide) (by omega) (by omega) (fun zc31 => ?_) (fun zc31 => ?_) | refine z_icmp_ne (tgt := 38) hx dX11_walk_31 (by decide) (fun zc31 => ?_) (fun zc31 => ?_)
      · skip
        refine z_iconst (v := (-1)) hx dX11_walk_38 (by decide) ?_
        refine z_iadd hx dX11_walk_39 ?_
        first | refine z_top (b := zNx L (nI zj) (nI ze)) (by unfold zNx; rw [hnj, if_pos (by rw [zc31])]) ?_ | refine z_top (b := zNx L (nI zj) (nI ze)) (by unfold zNx; rw [hnj, if_neg (nI_ne (by omega) (by omega) zc31)]) ?_
        refine z_istore_n hx dX11_walk_40 (Nat.le_of_ble_eq_true rfl) rfl ?_
        refine z_aload_n hx dX11_walk_41 rfl ?_
        refine z_iload_n hx dX11_walk_42 rfl ?_
        refine z_callivF hx (qX11_isStop r t p i y a f L cr ho hw _) dX11_walk_43 sX11_168 hC_0 rfl rfl rfl (Nat.le_of_ble_eq_true rfl) rfl (Nat.le_of_ble_eq_true rfl) (by decide) ?_
        first | refine z_if_neB (tgt := 52) hx dX11_walk_46 (by decide) (fun zc46 => ?_) (fun zc46 => ?_) | refine z_if_neN (tgt := 52) hx dX11_walk_46 (by decide) (by omega) (fun zc46 => ?_) (fun zc46 => ?_) | refine z_if_ne (tgt := 52) hx dX11_walk_46 (by decide) (fun zc46 => ?_) (fun zc46 => ?_)
        · skip
          obtain ⟨zk, zhk, hnx⟩ := id zc46
          have hnk : zNat (nI zk) = zk := zNat_nI (by omega)
          rw [hnx]
          refine z_aload_n hx dX11_walk_52 rfl ?_
          refine z_get hx dX11_walk_53 fX11_59 hC_0 rfl ?_
          refine z_aload_n hx dX11_walk_56 rfl ?_
          refine z_get hx dX11_walk_57 fX11_45 hC_0 rfl ?_
          refine z_callvvE hx gPa (qX5_keep (y) (L) cr ho (hy)) dX11_walk_60 sX11_151 rfl rfl sub_Pa rfl rfl (by decide) (by decide) rfl (Nat.le_of_ble_eq_true rfl) (by decide) ?_
          refine z_heap pt_Pa ?_
          refine z_aload_n hx dX11_walk_63 rfl ?_
          refine z_get hx dX11_walk_64 fX11_45 hC_0 rfl ?_
          refine z_iload_n hx dX11_walk_67 rfl ?_
          refine z_iload_n hx dX11_walk_68 rfl ?_
          refine z_callvvE hx gLn (qX4_moveTo L cr ho zj zk (by omega)) dX11_walk_69 sX11_171 rfl rfl (sub_Ln _ _ _ _ _ _ _ _ _ _) rfl rfl (by decide) (by decide) rfl (Nat.le_of_ble_eq_true rfl) (by decide) ?_
          refine z_heap (pt_Ln _ _ _ _ _ _ _ _ _ _ _) ?_
          refine z_iload_n hx dX11_walk_72 rfl ?_
          exact z_iret hx hF dX11_walk_73 rfl rfl ⟨some (lsT (lsA L zj zk) zj 0), by unfold aWlk; first | (rw [zIG_f (fun h => zc5 h.1)]) | (rw [zIG_f (fun h => zc14 h.2)]) | (rw [zIG_t ⟨⟨zj, zhj, rfl⟩, ⟨ze, Nat.zero_le _, zhe, rfl⟩⟩, zIG_f (c := inP (lS L) _) zc46]) | (rw [zIG_t ⟨⟨zj, zhj, rfl⟩, ⟨ze, Nat.zero_le _, zhe, rfl⟩⟩, zIG_t (c := inP (lS L) _) zc46, hnx, hnj, hnk]) | exact zzz_open, rfl⟩
        · skip
          refine z_ldc hx dX11_walk_49 kX11_147 ?_
          exact z_iret hx hF dX11_walk_51 rfl rfl ⟨none, by unfold aWlk; first | (rw [zIG_f (fun h => zc5 h.1)]) | (rw [zIG_f (fun h => zc14 h.2)]) | (rw [zIG_t ⟨⟨zj, zhj, rfl⟩, ⟨ze, Nat.zero_le _, zhe, rfl⟩⟩, zIG_f (c := inP (lS L) _) zc46]) | (rw [zIG_t ⟨⟨zj, zhj, rfl⟩, ⟨ze, Nat.zero_le _, zhe, rfl⟩⟩, zIG_t (c := inP (lS L) _) zc46, hnx, hnj, hnk]) | exact zzz_open, rfl⟩
      · skip
        refine z_iconst (v := nI 1) hx dX11_walk_34 (by decide) ?_
        refine z_goto (tgt := 39) hx dX11_walk_35 (by decide) ?_
        refine z_iadd hx dX11_walk_39 ?_
        first | refine z_top (b := zNx L (nI zj) (nI ze)) (by unfold zNx; rw [hnj, if_pos (by rw [zc31])]) ?_ | refine z_top (b := zNx L (nI zj) (nI ze)) (by unfold zNx; rw [hnj, if_neg (nI_ne (by omega) (by omega) zc31)]) ?_
        refine z_istore_n hx dX11_walk_40 (Nat.le_of_ble_eq_true rfl) rfl ?_
        refine z_aload_n hx dX11_walk_41 rfl ?_
        refine z_iload_n hx dX11_walk_42 rfl ?_
        refine z_callivF hx (qX11_isStop r t p i y a f L cr ho hw _) dX11_walk_43 sX11_168 hC_0 rfl rfl rfl (Nat.le_of_ble_eq_true rfl) rfl (Nat.le_of_ble_eq_true rfl) (by decide) ?_
        first | refine z_if_neB (tgt := 52) hx dX11_walk_46 (by decide) (fun zc46 => ?_) (fun zc46 => ?_) | refine z_if_neN (tgt := 52) hx dX11_walk_46 (by decide) (by omega) (fun zc46 => ?_) (fun zc46 => ?_) | refine z_if_ne (tgt := 52) hx dX11_walk_46 (by decide) (fun zc46 => ?_) (fun zc46 => ?_)
        · skip
          obtain ⟨zk, zhk, hnx⟩ := id zc46
          have hnk : zNat (nI zk) = zk := zNat_nI (by omega)
          rw [hnx]
          refine z_aload_n hx dX11_walk_52 rfl ?_
          refine z_get hx dX11_walk_53 fX11_59 hC_0 rfl ?_
          refine z_aload_n hx dX11_walk_56 rfl ?_
          refine z_get hx dX11_walk_57 fX11_45 hC_0 rfl ?_
          refine z_callvvE hx gPa (qX5_keep (y) (L) cr ho (hy)) dX11_walk_60 sX11_151 rfl rfl sub_Pa rfl rfl (by decide) (by decide) rfl (Nat.le_of_ble_eq_true rfl) (by decide) ?_
          refine z_heap pt_Pa ?_
          refine z_aload_n hx dX11_walk_63 rfl ?_
          refine z_get hx dX11_walk_64 fX11_45 hC_0 rfl ?_
          refine z_iload_n hx dX11_walk_67 rfl ?_
          refine z_iload_n hx dX11_walk_68 rfl ?_
          refine z_callvvE hx gLn (qX4_moveTo L cr ho zj zk (by omega)) dX11_walk_69 sX11_171 rfl rfl (sub_Ln _ _ _ _ _ _ _ _ _ _) rfl rfl (by decide) (by decide) rfl (Nat.le_of_ble_eq_true rfl) (by decide) ?_
          refine z_heap (pt_Ln _ _ _ _ _ _ _ _ _ _ _) ?_
          refine z_iload_n hx dX11_walk_72 rfl ?_
          exact z_iret hx hF dX11_walk_73 rfl rfl ⟨some (lsT (lsA L zj zk) zj 0), by unfold aWlk; first | (rw [zIG_f (fun h => zc5 h.1)]) | (rw [zIG_f (fun h => zc14 h.2)]) | (rw [zIG_t ⟨⟨zj, zhj, rfl⟩, ⟨ze, Nat.zero_le _, zhe, rfl⟩⟩, zIG_f (c := inP (lS L) _) zc46]) | (rw [zIG_t ⟨⟨zj, zhj, rfl⟩, ⟨ze, Nat.zero_le _, zhe, rfl⟩⟩, zIG_t (c := inP (lS L) _) zc46, hnx, hnj, hnk]) | exact zzz_open, rfl⟩
        · skip
          refine z_ldc hx dX11_walk_49 kX11_147 ?_
          exact z_iret hx hF dX11_walk_51 rfl rfl ⟨none, by unfold aWlk; first | (rw [zIG_f (fun h => zc5 h.1)]) | (rw [zIG_f (fun h => zc14 h.2)]) | (rw [zIG_t ⟨⟨zj, zhj, rfl⟩, ⟨ze, Nat.zero_le _, zhe, rfl⟩⟩, zIG_f (c := inP (lS L) _) zc46]) | (rw [zIG_t ⟨⟨zj, zhj, rfl⟩, ⟨ze, Nat.zero_le _, zhe, rfl⟩⟩, zIG_t (c := inP (lS L) _) zc46, hnx, hnj, hnk]) | exact zzz_open, rfl⟩
    · skip
      refine z_ldc hx dX11_walk_17 kX11_78 ?_
      exact z_iret hx hF dX11_walk_19 rfl rfl ⟨none, by unfold aWlk; first | (rw [zIG_f (fun h => zc5 h.1)]) | (rw [zIG_f (fun h => zc14 h.2)]) | (rw [zIG_t ⟨⟨zj, zhj, rfl⟩, ⟨ze, Nat.zero_le _, zhe, rfl⟩⟩, zIG_f (c := inP (lS L) _) zc46]) | (rw [zIG_t ⟨⟨zj, zhj, rfl⟩, ⟨ze, Nat.zero_le _, zhe, rfl⟩⟩, zIG_t (c := inP (lS L) _) zc46, hnx, hnj, hnk]) | exact zzz_open, rfl⟩

set_option maxHeartbeats 4000000 in
set_option maxRecDepth 100000 in
theorem qX11_preach (r : zRw) (t : zTp) (L : zL) (cr ho : Nat → Nat) (p : zLk) (i : zLk × zLk) (y : zPy) (a : zAs) (f : Nat × Nat) (hw : zWf L) (hm : lM L ≤ 1000) (hy : zYok y) (v w : Int32) : zMi mX11_preach 3 ([.ref 0, .int v, .int w]) (hC (r, t, (L, cr, ho), p, i, y, a, f)) (fun z u => ∃ o9, (z, o9) = aPre L v w ∧ u = hC (r, t, (zOl o9 L, cr, ho), p, i, zOy o9 y L, a, f)) := by
  refine zMi.of (by decide) (Nat.le_of_ble_eq_true rfl) (fun x hx hF => ?_)
  obtain ⟨w1, w2, w3, w4, w5⟩ := id hw
  refine z_aload_n hx dX11_preach_0 rfl ?_
  refine z_iload_n hx dX11_preach_1 rfl ?_
  refine z_callivF hx (qX11_isPerson r t p i y a f L cr ho hw _) dX11_preach_2 sX11_161 hC_0 rfl rfl rfl (Nat.le_of_ble_eq_true rfl) rfl (Nat.le_of_ble_eq_true rfl) (by decide) ?_
  first | refine z_if_eqB (tgt := 18) hx dX11_preach_5 (by decide) (fun zc5 => ?_) (fun zc5 => ?_) | refine z_if_eqN (tgt := 18) hx dX11_preach_5 (by decide) (by omega) (fun zc5 => ?_) (fun zc5 => ?_) | refine z_if_eq (tgt := 18) hx dX11_preach_5 (by decide) (fun zc5 => ?_) (fun zc5 => ?_)
  · skip
    refine z_ldc hx dX11_preach_18 kX11_78 ?_
    exact z_iret hx hF dX11_preach_20 rfl rfl ⟨none, by unfold aPre; first | (rw [zIG_f (fun h => zc5 h.1)]) | (rw [zIG_f (fun h => zc15 h.2)]) | (rw [zIG_t ⟨⟨zj, zhj, rfl⟩, ⟨ze, Nat.zero_le _, zhe, rfl⟩⟩, hnj, hne]) | exact zzz_open, rfl⟩
  · skip
    obtain ⟨zj, zhj, rfl⟩ := zc5
    have hnj : zNat (nI zj) = zj := zNat_nI (by omega)
    refine z_iload_n hx dX11_preach_8 rfl ?_
    refine z_iconst (v := nI 0) hx dX11_preach_9 (by decide) ?_
    refine z_bipush (v := nI 20) hx dX11_preach_10 (by decide) ?_
    refine z_callisP hx [] (qX11_isWithinN _ _ _ (by decide)) dX11_preach_12 sX11_74 rfl rfl rfl (by decide) (by decide) rfl (Nat.le_of_ble_eq_true rfl) (by decide) ?_
    first | refine z_if_neB (tgt := 21) hx dX11_preach_15 (by decide) (fun zc15 => ?_) (fun zc15 => ?_) | refine z_if_neN (tgt := 21) hx dX11_preach_15 (by decide) (by omega) (fun zc15 => ?_) (fun zc15 => ?_) | refine z_if_ne (tgt := 21) hx dX11_preach_15 (by decide) (fun zc15 => ?_) (fun zc15 => ?_)
    · skip
      obtain ⟨ze, -, zhe, rfl⟩ := zc15
      have hne : zNat (nI ze) = ze := zNat_nI (by omega)
      refine z_aload_n hx dX11_preach_21 rfl ?_
      refine z_get hx dX11_preach_22 fX11_59 hC_0 rfl ?_
      refine z_aload_n hx dX11_preach_25 rfl ?_
      refine z_get hx dX11_preach_26 fX11_45 hC_0 rfl ?_
      refine z_callvvE hx gPa (qX5_keep (y) (L) cr ho (hy)) dX11_preach_29 sX11_151 rfl rfl sub_Pa rfl rfl (by decide) (by decide) rfl (Nat.le_of_ble_eq_true rfl) (by decide) ?_
      refine z_heap pt_Pa ?_
      refine z_aload_n hx dX11_preach_32 rfl ?_
      refine z_get hx dX11_preach_33 fX11_45 hC_0 rfl ?_
      refine z_get hx dX11_preach_36 fX11_175 hC_15 rfl ?_
      refine z_iload_n hx dX11_preach_39 rfl ?_
      refine z_ialdJ hx dX11_preach_40 hC_18 (by decide) (by omega) ?_
      refine z_istore_n hx dX11_preach_41 (Nat.le_of_ble_eq_true rfl) rfl ?_
      refine z_aload_n hx dX11_preach_42 rfl ?_
      refine z_get hx dX11_preach_43 fX11_45 hC_0 rfl ?_
      refine z_get hx dX11_preach_46 fX11_175 hC_15 rfl ?_
      refine z_iload_n hx dX11_preach_49 rfl ?_
      refine z_iload_n hx dX11_preach_50 rfl ?_
      refine z_iastN hx dX11_preach_51 hC_18 (by decide) (by omega) ?_
      refine z_heap hS_18 ?_
      refine z_iload_n hx dX11_preach_52 rfl ?_
      exact z_iret hx hF dX11_preach_53 rfl rfl ⟨some (lsF L zj ze), by unfold aPre; first | (rw [zIG_f (fun h => zc5 h.1)]) | (rw [zIG_f (fun h => zc15 h.2)]) | (rw [zIG_t ⟨⟨zj, zhj, rfl⟩, ⟨ze, Nat.zero_le _, zhe, rfl⟩⟩, hnj, hne]) | exact zzz_open, rfl⟩
    · skip
      refine z_ldc hx dX11_preach_18 kX11_78 ?_
      exact z_iret hx hF dX11_preach_20 rfl rfl ⟨none, by unfold aPre; first | (rw [zIG_f (fun h => zc5 h.1)]) | (rw [zIG_f (fun h => zc15 h.2)]) | (rw [zIG_t ⟨⟨zj, zhj, rfl⟩, ⟨ze, Nat.zero_le _, zhe, rfl⟩⟩, hnj, hne]) | exact zzz_open, rfl⟩

set_option maxHeartbeats 4000000 in
set_option maxRecDepth 100000 in
theorem qX11_wish (r : zRw) (t : zTp) (L : zL) (cr ho : Nat → Nat) (p : zLk) (i : zLk × zLk) (y : zPy) (a : zAs) (f : Nat × Nat) (hw : zWf L) (hm : lM L ≤ 1000) (hy : zYok y) (v w : Int32) : zMi mX11_wish 3 ([.ref 0, .int v, .int w]) (hC (r, t, (L, cr, ho), p, i, y, a, f)) (fun z u => ∃ o9, (z, o9) = aWsh L v w ∧ u = hC (r, t, (zOl o9 L, cr, ho), p, i, zOy o9 y L, a, f)) := by
  refine zMi.of (by decide) (Nat.le_of_ble_eq_true rfl) (fun x hx hF => ?_)
  obtain ⟨w1, w2, w3, w4, w5⟩ := id hw
  refine z_aload_n hx dX11_wish_0 rfl ?_
  refine z_iload_n hx dX11_wish_1 rfl ?_
  refine z_callivF hx (qX11_isPerson r t p i y a f L cr ho hw _) dX11_wish_2 sX11_161 hC_0 rfl rfl rfl (Nat.le_of_ble_eq_true rfl) rfl (Nat.le_of_ble_eq_true rfl) (by decide) ?_
  first | refine z_if_eqB (tgt := 16) hx dX11_wish_5 (by decide) (fun zc5 => ?_) (fun zc5 => ?_) | refine z_if_eqN (tgt := 16) hx dX11_wish_5 (by decide) (by omega) (fun zc5 => ?_) (fun zc5 => ?_) | refine z_if_eq (tgt := 16) hx dX11_wish_5 (by decide) (fun zc5 => ?_) (fun zc5 => ?_)
  · skip
    refine z_ldc hx dX11_wish_16 kX11_78 ?_
    exact z_iret hx hF dX11_wish_18 rfl rfl ⟨none, by unfold aWsh; first | (rw [zIG_f (fun h => zc5 h.1)]) | (rw [zIG_f (fun h => zc13 h.2)]) | (rw [zIG_t ⟨⟨zj, zhj, rfl⟩, ⟨ze, zhe, rfl⟩⟩, hnj, hne]) | exact zzz_open, rfl⟩
  · skip
    obtain ⟨zj, zhj, rfl⟩ := zc5
    have hnj : zNat (nI zj) = zj := zNat_nI (by omega)
    refine z_aload_n hx dX11_wish_8 rfl ?_
    refine z_iload_n hx dX11_wish_9 rfl ?_
    refine z_callivF hx (qX11_isStop r t p i y a f L cr ho hw _) dX11_wish_10 sX11_168 hC_0 rfl rfl rfl (Nat.le_of_ble_eq_true rfl) rfl (Nat.le_of_ble_eq_true rfl) (by decide) ?_
    first | refine z_if_neB (tgt := 19) hx dX11_wish_13 (by decide) (fun zc13 => ?_) (fun zc13 => ?_) | refine z_if_neN (tgt := 19) hx dX11_wish_13 (by decide) (by omega) (fun zc13 => ?_) (fun zc13 => ?_) | refine z_if_ne (tgt := 19) hx dX11_wish_13 (by decide) (fun zc13 => ?_) (fun zc13 => ?_)
    · skip
      obtain ⟨ze, zhe, rfl⟩ := zc13
      have hne : zNat (nI ze) = ze := zNat_nI (by omega)
      refine z_aload_n hx dX11_wish_19 rfl ?_
      refine z_get hx dX11_wish_20 fX11_59 hC_0 rfl ?_
      refine z_aload_n hx dX11_wish_23 rfl ?_
      refine z_get hx dX11_wish_24 fX11_45 hC_0 rfl ?_
      refine z_callvvE hx gPa (qX5_keep (y) (L) cr ho (hy)) dX11_wish_27 sX11_151 rfl rfl sub_Pa rfl rfl (by decide) (by decide) rfl (Nat.le_of_ble_eq_true rfl) (by decide) ?_
      refine z_heap pt_Pa ?_
      refine z_aload_n hx dX11_wish_30 rfl ?_
      refine z_get hx dX11_wish_31 fX11_45 hC_0 rfl ?_
      refine z_get hx dX11_wish_34 fX11_178 hC_15 rfl ?_
      refine z_iload_n hx dX11_wish_37 rfl ?_
      refine z_ialdJ hx dX11_wish_38 hC_19 (by decide) (by omega) ?_
      refine z_istore_n hx dX11_wish_39 (Nat.le_of_ble_eq_true rfl) rfl ?_
      refine z_aload_n hx dX11_wish_40 rfl ?_
      refine z_get hx dX11_wish_41 fX11_45 hC_0 rfl ?_
      refine z_get hx dX11_wish_44 fX11_178 hC_15 rfl ?_
      refine z_iload_n hx dX11_wish_47 rfl ?_
      refine z_iload_n hx dX11_wish_48 rfl ?_
      refine z_iastN hx dX11_wish_49 hC_19 (by decide) (by omega) ?_
      refine z_heap hS_19 ?_
      refine z_iload_n hx dX11_wish_50 rfl ?_
      exact z_iret hx hF dX11_wish_51 rfl rfl ⟨some (lsW L zj ze), by unfold aWsh; first | (rw [zIG_f (fun h => zc5 h.1)]) | (rw [zIG_f (fun h => zc13 h.2)]) | (rw [zIG_t ⟨⟨zj, zhj, rfl⟩, ⟨ze, zhe, rfl⟩⟩, hnj, hne]) | exact zzz_open, rfl⟩
    · skip
      refine z_ldc hx dX11_wish_16 kX11_78 ?_
      exact z_iret hx hF dX11_wish_18 rfl rfl ⟨none, by unfold aWsh; first | (rw [zIG_f (fun h => zc5 h.1)]) | (rw [zIG_f (fun h => zc13 h.2)]) | (rw [zIG_t ⟨⟨zj, zhj, rfl⟩, ⟨ze, zhe, rfl⟩⟩, hnj, hne]) | exact zzz_open, rfl⟩

set_option maxHeartbeats 4000000 in
set_option maxRecDepth 100000 in
theorem qX11_undo (r : zRw) (t : zTp) (L : zL) (cr ho : Nat → Nat) (p : zLk) (i : zLk × zLk) (yk yo : Nat) (pg : Nat → Nat) (a : zAs) (f : Nat × Nat) (hw : zWf L) (hm : lM L ≤ 1000) (hy : zYok (yk, yo, pg))  : zMi mX11_undo 2 ([.ref 0]) (hC (r, t, (L, cr, ho), p, i, (yk, yo, pg), a, f)) (fun z u => (yk = 0 → z = -1000002 ∧ u = hC (r, t, (L, cr, ho), p, i, (yk, yo, pg), a, f)) ∧ (0 < yk → z = nI (yk - 1) ∧ u = hC (r, t, (zPl L (yk, yo, pg) (yk - 1), cr, ho), p, i, (yk - 1, yo, pg), a, f))) := by
  refine zMi.of (by decide) (Nat.le_of_ble_eq_true rfl) (fun x hx hF => ?_)
  obtain ⟨w1, w2, w3, w4, w5⟩ := id hw
  have y1 : yk ≤ 24 := hy.1
  refine z_aload_n hx dX11_undo_0 rfl ?_
  refine z_get hx dX11_undo_1 fX11_59 hC_0 rfl ?_
  refine z_get hx dX11_undo_4 fX11_181 hC_48 rfl ?_
  first | refine z_if_neB (tgt := 13) hx dX11_undo_7 (by decide) (fun zc7 => ?_) (fun zc7 => ?_) | refine z_if_neN (tgt := 13) hx dX11_undo_7 (by decide) (by omega) (fun zc7 => ?_) (fun zc7 => ?_) | refine z_if_ne (tgt := 13) hx dX11_undo_7 (by decide) (fun zc7 => ?_) (fun zc7 => ?_)
  · skip
    refine z_aload_n hx dX11_undo_13 rfl ?_
    refine z_get hx dX11_undo_14 fX11_59 hC_0 rfl ?_
    refine z_aload_n hx dX11_undo_17 rfl ?_
    refine z_get hx dX11_undo_18 fX11_45 hC_0 rfl ?_
    refine z_callvvE hx gPa (qX5_takeBack (yk, yo, pg) L cr ho hy zc7) dX11_undo_21 sX11_184 rfl rfl sub_Pa rfl rfl (by decide) (by decide) rfl (Nat.le_of_ble_eq_true rfl) (by decide) ?_
    refine z_heap pt_Pa ?_
    refine z_aload_n hx dX11_undo_24 rfl ?_
    refine z_get hx dX11_undo_25 fX11_59 hC_0 rfl ?_
    refine z_get hx dX11_undo_28 fX11_181 hC_48 rfl ?_
    exact z_iret hx hF dX11_undo_31 rfl rfl ⟨fun h9 => by first | exact ⟨rfl, rfl⟩ | (exfalso; omega), fun h9 => by first | exact ⟨rfl, rfl⟩ | (exfalso; omega)⟩
  · skip
    refine z_ldc hx dX11_undo_10 kX11_147 ?_
    exact z_iret hx hF dX11_undo_12 rfl rfl ⟨fun h9 => by first | exact ⟨rfl, rfl⟩ | (exfalso; omega), fun h9 => by first | exact ⟨rfl, rfl⟩ | (exfalso; omega)⟩

set_option maxHeartbeats 4000000 in
set_option maxRecDepth 100000 in
theorem qX11_image (r : zRw) (t : zTp) (L : zL) (cr ho : Nat → Nat) (p : zLk) (I : zL) (ir io : Nat → Nat) (Q : zL) (jr jo : Nat → Nat) (y : zPy) (a : zAs) (f : Nat × Nat) (hw : zWf L) (hm : lM L ≤ 1000) (hy : zYok y) (v : Int32) : zMi mX11_image 2 ([.ref 0, .int v]) (hC (r, t, (L, cr, ho), p, ((I, ir, io), (Q, jr, jo)), y, a, f)) (fun z u => ∃ o9, (z, o9) = aImg L v ∧ u = hC (r, t, (L, cr, ho), p, zOi o9 L ((I, ir, io), (Q, jr, jo)), y, a, f)) := by
  refine zMi.of (by decide) (Nat.le_of_ble_eq_true rfl) (fun x hx hF => ?_)
  obtain ⟨w1, w2, w3, w4, w5⟩ := id hw
  refine z_iload_n hx dX11_image_0 rfl ?_
  refine z_iconst (v := nI 0) hx dX11_image_1 (by decide) ?_
  refine z_iconst (v := nI 1) hx dX11_image_2 (by decide) ?_
  refine z_callisP hx [] (qX11_isWithinN _ _ _ (by decide)) dX11_image_3 sX11_74 rfl rfl rfl (by decide) (by decide) rfl (Nat.le_of_ble_eq_true rfl) (by decide) ?_
  first | refine z_if_neB (tgt := 12) hx dX11_image_6 (by decide) (fun zc6 => ?_) (fun zc6 => ?_) | refine z_if_neN (tgt := 12) hx dX11_image_6 (by decide) (by omega) (fun zc6 => ?_) (fun zc6 => ?_) | refine z_if_ne (tgt := 12) hx dX11_image_6 (by decide) (fun zc6 => ?_) (fun zc6 => ?_)
  · skip
    obtain ⟨ze, -, zhe, rfl⟩ := zc6
    refine z_aload_n hx dX11_image_12 rfl ?_
    refine z_callivF hx (qX11_hasLine r t p ((I, ir, io), (Q, jr, jo)) y a f L cr ho hw) dX11_image_13 sX11_143 hC_0 rfl rfl rfl (Nat.le_of_ble_eq_true rfl) rfl (Nat.le_of_ble_eq_true rfl) (by decide) ?_
    first | refine z_if_neB (tgt := 22) hx dX11_image_16 (by decide) (fun zc16 => ?_) (fun zc16 => ?_) | refine z_if_neN (tgt := 22) hx dX11_image_16 (by decide) (by omega) (fun zc16 => ?_) (fun zc16 => ?_) | refine z_if_ne (tgt := 22) hx dX11_image_16 (by decide) (fun zc16 => ?_) (fun zc16 => ?_)
    · skip
      refine z_aload_n hx dX11_image_22 rfl ?_
      refine z_get hx dX11_image_23 fX11_52 hC_0 rfl ?_
      refine z_iload_n hx dX11_image_26 rfl ?_
      rcases (show ze = 0 ∨ ze = 1 by omega) with rfl | rfl
      · skip
        refine z_aald hx dX11_image_27 hC_31 (fun _ => rfl) (by decide) (by decide) rfl ?_
        refine z_aload_n hx dX11_image_28 rfl ?_
        refine z_get hx dX11_image_29 fX11_45 hC_0 rfl ?_
        first
        | (refine z_callvvE hx gIL (qX4_become _ _ _ _ _ _) dX11_image_32 sX11_133 rfl rfl sub_IL rfl rfl (by decide) (by decide) rfl (Nat.le_of_ble_eq_true rfl) (by decide) ?_; refine z_heap pt_IL ?_)
        | (refine z_callvvE hx gJL (qX4_become _ _ _ _ _ _) dX11_image_32 sX11_133 rfl rfl sub_JL rfl rfl (by decide) (by decide) rfl (Nat.le_of_ble_eq_true rfl) (by decide) ?_; refine z_heap pt_JL ?_)
        refine z_iconst (v := nI 1) hx dX11_image_35 (by decide) ?_
        first | exact z_iret hx hF dX11_image_36 rfl rfl ⟨some 0, by unfold aImg; rw [zIG_t (c := inR 0 1 _) ⟨0, by decide, by decide, rfl⟩, zIG_t zc16]; rfl, rfl⟩ | exact z_iret hx hF dX11_image_36 rfl rfl ⟨some 1, by unfold aImg; rw [zIG_t (c := inR 0 1 _) ⟨1, by decide, by decide, rfl⟩, zIG_t zc16]; rfl, rfl⟩
      · skip
        refine z_aald hx dX11_image_27 hC_31 (fun _ => rfl) (by decide) (by decide) rfl ?_
        refine z_aload_n hx dX11_image_28 rfl ?_
        refine z_get hx dX11_image_29 fX11_45 hC_0 rfl ?_
        first
        | (refine z_callvvE hx gIL (qX4_become _ _ _ _ _ _) dX11_image_32 sX11_133 rfl rfl sub_IL rfl rfl (by decide) (by decide) rfl (Nat.le_of_ble_eq_true rfl) (by decide) ?_; refine z_heap pt_IL ?_)
        | (refine z_callvvE hx gJL (qX4_become _ _ _ _ _ _) dX11_image_32 sX11_133 rfl rfl sub_JL rfl rfl (by decide) (by decide) rfl (Nat.le_of_ble_eq_true rfl) (by decide) ?_; refine z_heap pt_JL ?_)
        refine z_iconst (v := nI 1) hx dX11_image_35 (by decide) ?_
        first | exact z_iret hx hF dX11_image_36 rfl rfl ⟨some 0, by unfold aImg; rw [zIG_t (c := inR 0 1 _) ⟨0, by decide, by decide, rfl⟩, zIG_t zc16]; rfl, rfl⟩ | exact z_iret hx hF dX11_image_36 rfl rfl ⟨some 1, by unfold aImg; rw [zIG_t (c := inR 0 1 _) ⟨1, by decide, by decide, rfl⟩, zIG_t zc16]; rfl, rfl⟩
    · skip
      refine z_ldc hx dX11_image_19 kX11_147 ?_
      exact z_iret hx hF dX11_image_21 rfl rfl ⟨none, by unfold aImg; first | (rw [zIG_f (c := inR 0 1 v) zc6]) | (rw [zIG_t (c := inR 0 1 _) ⟨ze, Nat.zero_le _, zhe, rfl⟩, zIG_f zc16]) | exact zzz_open, rfl⟩
  · skip
    refine z_ldc hx dX11_image_9 kX11_78 ?_
    exact z_iret hx hF dX11_image_11 rfl rfl ⟨none, by unfold aImg; first | (rw [zIG_f (c := inR 0 1 v) zc6]) | (rw [zIG_t (c := inR 0 1 _) ⟨ze, Nat.zero_le _, zhe, rfl⟩, zIG_f zc16]) | exact zzz_open, rfl⟩

set_option maxHeartbeats 4000000 in
set_option maxRecDepth 100000 in
theorem qX11_restore (r : zRw) (t : zTp) (L : zL) (cr ho : Nat → Nat) (p : zLk) (I : zL) (ir io : Nat → Nat) (Q : zL) (jr jo : Nat → Nat) (y : zPy) (a : zAs) (f : Nat × Nat) (hw : zWf L) (hm : lM L ≤ 1000) (hy : zYok y) (v : Int32) (hS1 : lS I < 100) (hS2 : lS Q < 100) : zMi mX11_restore 2 ([.ref 0, .int v]) (hC (r, t, (L, cr, ho), p, ((I, ir, io), (Q, jr, jo)), y, a, f)) (fun z u => ∃ o9, (z, o9) = aRst ((I, ir, io), (Q, jr, jo)) v ∧ u = hC (r, t, (zOl o9 L, cr, ho), p, ((I, ir, io), (Q, jr, jo)), zOf o9 y, a, f)) := by
  refine zMi.of (by decide) (Nat.le_of_ble_eq_true rfl) (fun x hx hF => ?_)
  obtain ⟨w1, w2, w3, w4, w5⟩ := id hw
  refine z_iload_n hx dX11_restore_0 rfl ?_
  refine z_iconst (v := nI 0) hx dX11_restore_1 (by decide) ?_
  refine z_iconst (v := nI 1) hx dX11_restore_2 (by decide) ?_
  refine z_callisP hx [] (qX11_isWithinN _ _ _ (by decide)) dX11_restore_3 sX11_74 rfl rfl rfl (by decide) (by decide) rfl (Nat.le_of_ble_eq_true rfl) (by decide) ?_
  first | refine z_if_neB (tgt := 12) hx dX11_restore_6 (by decide) (fun zc6 => ?_) (fun zc6 => ?_) | refine z_if_neN (tgt := 12) hx dX11_restore_6 (by decide) (by omega) (fun zc6 => ?_) (fun zc6 => ?_) | refine z_if_ne (tgt := 12) hx dX11_restore_6 (by decide) (fun zc6 => ?_) (fun zc6 => ?_)
  · skip
    obtain ⟨ze, -, zhe, rfl⟩ := zc6
    refine z_aload_n hx dX11_restore_12 rfl ?_
    refine z_get hx dX11_restore_13 fX11_52 hC_0 rfl ?_
    refine z_iload_n hx dX11_restore_16 rfl ?_
    rcases (show ze = 0 ∨ ze = 1 by omega) with rfl | rfl
    · skip
      refine z_aald hx dX11_restore_17 hC_31 (fun _ => rfl) (by decide) (by decide) rfl ?_
      first | refine z_get hx dX11_restore_18 fX11_219 hC_32 rfl ?_ | refine z_get hx dX11_restore_18 fX11_219 hC_40 rfl ?_
      first | refine z_if_neB (tgt := 27) hx dX11_restore_21 (by decide) (fun zc21 => ?_) (fun zc21 => ?_) | refine z_if_neN (tgt := 27) hx dX11_restore_21 (by decide) (by omega) (fun zc21 => ?_) (fun zc21 => ?_) | refine z_if_ne (tgt := 27) hx dX11_restore_21 (by decide) (fun zc21 => ?_) (fun zc21 => ?_)
      · skip
        refine z_aload_n hx dX11_restore_27 rfl ?_
        refine z_get hx dX11_restore_28 fX11_45 hC_0 rfl ?_
        refine z_aload_n hx dX11_restore_31 rfl ?_
        refine z_get hx dX11_restore_32 fX11_52 hC_0 rfl ?_
        refine z_iload_n hx dX11_restore_35 rfl ?_
        refine z_aald hx dX11_restore_36 hC_31 (fun _ => rfl) (by decide) (by decide) rfl ?_
        first
        | (refine z_callvvE hx gLI (qX4_become _ _ _ _ _ _) dX11_restore_37 sX11_133 rfl rfl sub_LI rfl rfl (by decide) (by decide) rfl (Nat.le_of_ble_eq_true rfl) (by decide) ?_; refine z_heap pt_LI ?_)
        | (refine z_callvvE hx gLJ (qX4_become _ _ _ _ _ _) dX11_restore_37 sX11_133 rfl rfl sub_LJ rfl rfl (by decide) (by decide) rfl (Nat.le_of_ble_eq_true rfl) (by decide) ?_; refine z_heap pt_LJ ?_)
        refine z_aload_n hx dX11_restore_40 rfl ?_
        refine z_get hx dX11_restore_41 fX11_59 hC_0 rfl ?_
        refine z_callvvE hx gPa (qX5_forget y _ cr ho) dX11_restore_44 sX11_137 rfl rfl sub_Pa rfl rfl (by decide) (by decide) rfl (Nat.le_of_ble_eq_true rfl) (by decide) ?_
        refine z_heap pt_Pa ?_
        refine z_iconst (v := nI 1) hx dX11_restore_47 (by decide) ?_
        first | exact z_iret hx hF dX11_restore_48 rfl rfl ⟨some I, by unfold aRst; rw [zIG_t (c := inR 0 1 _) ⟨0, by decide, by decide, rfl⟩, zIG_f (show ¬ lS (zIm ((I, ir, io), (Q, jr, jo)) (zNat (nI 0))) = 0 from Nat.ne_of_gt zc21)]; rfl, rfl⟩ | exact z_iret hx hF dX11_restore_48 rfl rfl ⟨some Q, by unfold aRst; rw [zIG_t (c := inR 0 1 _) ⟨1, by decide, by decide, rfl⟩, zIG_f (show ¬ lS (zIm ((I, ir, io), (Q, jr, jo)) (zNat (nI 1))) = 0 from Nat.ne_of_gt zc21)]; rfl, rfl⟩
      · skip
        refine z_ldc hx dX11_restore_24 kX11_147 ?_
        first | exact z_iret hx hF dX11_restore_26 rfl rfl ⟨none, by unfold aRst; rw [zIG_t (c := inR 0 1 _) ⟨0, by decide, by decide, rfl⟩, zIG_t (show lS (zIm ((I, ir, io), (Q, jr, jo)) (zNat (nI 0))) = 0 from zc21)], rfl⟩ | exact z_iret hx hF dX11_restore_26 rfl rfl ⟨none, by unfold aRst; rw [zIG_t (c := inR 0 1 _) ⟨1, by decide, by decide, rfl⟩, zIG_t (show lS (zIm ((I, ir, io), (Q, jr, jo)) (zNat (nI 1))) = 0 from zc21)], rfl⟩
    · skip
      refine z_aald hx dX11_restore_17 hC_31 (fun _ => rfl) (by decide) (by decide) rfl ?_
      first | refine z_get hx dX11_restore_18 fX11_219 hC_32 rfl ?_ | refine z_get hx dX11_restore_18 fX11_219 hC_40 rfl ?_
      first | refine z_if_neB (tgt := 27) hx dX11_restore_21 (by decide) (fun zc21 => ?_) (fun zc21 => ?_) | refine z_if_neN (tgt := 27) hx dX11_restore_21 (by decide) (by omega) (fun zc21 => ?_) (fun zc21 => ?_) | refine z_if_ne (tgt := 27) hx dX11_restore_21 (by decide) (fun zc21 => ?_) (fun zc21 => ?_)
      · skip
        refine z_aload_n hx dX11_restore_27 rfl ?_
        refine z_get hx dX11_restore_28 fX11_45 hC_0 rfl ?_
        refine z_aload_n hx dX11_restore_31 rfl ?_
        refine z_get hx dX11_restore_32 fX11_52 hC_0 rfl ?_
        refine z_iload_n hx dX11_restore_35 rfl ?_
        refine z_aald hx dX11_restore_36 hC_31 (fun _ => rfl) (by decide) (by decide) rfl ?_
        first
        | (refine z_callvvE hx gLI (qX4_become _ _ _ _ _ _) dX11_restore_37 sX11_133 rfl rfl sub_LI rfl rfl (by decide) (by decide) rfl (Nat.le_of_ble_eq_true rfl) (by decide) ?_; refine z_heap pt_LI ?_)
        | (refine z_callvvE hx gLJ (qX4_become _ _ _ _ _ _) dX11_restore_37 sX11_133 rfl rfl sub_LJ rfl rfl (by decide) (by decide) rfl (Nat.le_of_ble_eq_true rfl) (by decide) ?_; refine z_heap pt_LJ ?_)
        refine z_aload_n hx dX11_restore_40 rfl ?_
        refine z_get hx dX11_restore_41 fX11_59 hC_0 rfl ?_
        refine z_callvvE hx gPa (qX5_forget y _ cr ho) dX11_restore_44 sX11_137 rfl rfl sub_Pa rfl rfl (by decide) (by decide) rfl (Nat.le_of_ble_eq_true rfl) (by decide) ?_
        refine z_heap pt_Pa ?_
        refine z_iconst (v := nI 1) hx dX11_restore_47 (by decide) ?_
        first | exact z_iret hx hF dX11_restore_48 rfl rfl ⟨some I, by unfold aRst; rw [zIG_t (c := inR 0 1 _) ⟨0, by decide, by decide, rfl⟩, zIG_f (show ¬ lS (zIm ((I, ir, io), (Q, jr, jo)) (zNat (nI 0))) = 0 from Nat.ne_of_gt zc21)]; rfl, rfl⟩ | exact z_iret hx hF dX11_restore_48 rfl rfl ⟨some Q, by unfold aRst; rw [zIG_t (c := inR 0 1 _) ⟨1, by decide, by decide, rfl⟩, zIG_f (show ¬ lS (zIm ((I, ir, io), (Q, jr, jo)) (zNat (nI 1))) = 0 from Nat.ne_of_gt zc21)]; rfl, rfl⟩
      · skip
        refine z_ldc hx dX11_restore_24 kX11_147 ?_
        first | exact z_iret hx hF dX11_restore_26 rfl rfl ⟨none, by unfold aRst; rw [zIG_t (c := inR 0 1 _) ⟨0, by decide, by decide, rfl⟩, zIG_t (show lS (zIm ((I, ir, io), (Q, jr, jo)) (zNat (nI 0))) = 0 from zc21)], rfl⟩ | exact z_iret hx hF dX11_restore_26 rfl rfl ⟨none, by unfold aRst; rw [zIG_t (c := inR 0 1 _) ⟨1, by decide, by decide, rfl⟩, zIG_t (show lS (zIm ((I, ir, io), (Q, jr, jo)) (zNat (nI 1))) = 0 from zc21)], rfl⟩
  · skip
    refine z_ldc hx dX11_restore_9 kX11_78 ?_
    exact z_iret hx hF dX11_restore_11 rfl rfl ⟨none, by unfold aRst; first | (rw [zIG_f (c := inR 0 1 v) zc6]) | exact zzz_open, rfl⟩

