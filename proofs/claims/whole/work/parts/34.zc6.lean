/-! rows: what the calls answer, and the rows behind them -/
noncomputable def zIG {α : Type} (c : Prop) (a b : α) : α := @ite α c (Classical.propDecidable c) a b
theorem zIG_t {α : Type} {c : Prop} {a b : α} (h : c) : zIG c a b = a := by unfold zIG; rw [if_pos h]
theorem zIG_f {α : Type} {c : Prop} {a b : α} (h : ¬ c) : zIG c a b = b := by unfold zIG; rw [if_neg h]
/-- the finding of a part of a row -/
noncomputable def zFnd (s : Option Nat) (i n : Int32) : Nat := match s with
  | none => 1
  | some s => zIf (zPart s i n) 0 2
theorem zFnd_le (s : Option Nat) (i n : Int32) : zFnd s i n ≤ 2 := by
  cases s with
  | none => exact (by decide : 1 ≤ 2)
  | some s =>
    show zIf _ 0 2 ≤ 2
    by_cases h : zPart s i n
    · rw [zIf_t h]; omega
    · rw [zIf_f h]; omega
theorem zFnd_0 {s : Option Nat} {i n : Int32} (h : zFnd s i n = 0) : ∃ m, s = some m ∧ zPart m i n := by
  cases s with
  | none => exact absurd h (show ¬ (1 : Nat) = 0 by decide)
  | some s =>
    by_cases hp : zPart s i n
    · exact ⟨s, rfl, hp⟩
    · have : zIf (zPart s i n) 0 2 = 0 := h
      rw [zIf_f hp] at this
      exact absurd this (by decide)
theorem qX8_fnd (la : Nat → Nat) (sz : Nat → Option Nat) (it : Nat → Nat → Int32) (hs : zRok sz) (j : Nat) (hj : j < 8) (i n : Int32) : zMiE mX8_findingOf 1 [.ref 0, .int (nI j), .int i, .int n] (hSh la sz it) (nI (zFnd (sz j) i n)) (hSh la sz it) := by
  cases h : sz j with
  | none => exact qX8_findingOf_m la sz it hs j hj h i n
  | some s =>
    have e : (fun (z : Int32) (u : List zE) => (zPart s i n → z = nI 0) ∧ (¬ zPart s i n → z = nI 2) ∧ u = hSh la sz it) = fun z u => z = nI (zFnd (some s) i n) ∧ u = hSh la sz it := by
      funext z u
      refine propext ⟨fun q => ⟨?_, q.2.2⟩, fun q => ⟨fun hp => ?_, fun hp => ?_, q.2⟩⟩
      · show z = nI (zIf (zPart s i n) 0 2)
        by_cases hp : zPart s i n
        · rw [zIf_t hp]; exact q.1 hp
        · rw [zIf_f hp]; exact q.2.1 hp
      · rw [q.1]; show nI (zIf (zPart s i n) 0 2) = _; rw [zIf_t hp]
      · rw [q.1]; show nI (zIf (zPart s i n) 0 2) = _; rw [zIf_f hp]
    have h2 := qX8_findingOf la sz it hs j s hj h i n
    rw [e] at h2
    exact h2
/-- the finding of a move -/
noncomputable def zFnm (la : Nat → Nat) (sz : Nat → Option Nat) (a b : Nat) (i j n : Int32) : Nat := match sz a, sz b with
  | some s1, some s2 => if la a ≠ la b then 5 else zIf (zPart s1 i n ∧ zPart s2 j n) 0 2
  | _, _ => 1
theorem zFnm_le (la : Nat → Nat) (sz : Nat → Option Nat) (a b : Nat) (i j n : Int32) : zFnm la sz a b i j n ≤ 5 := by
  unfold zFnm
  cases sz a <;> cases sz b <;> first | exact (by decide : 1 ≤ 5) | skip
  rename_i s1 s2
  show (if _ then _ else _) ≤ 5
  split
  · omega
  · by_cases h : zPart s1 i n ∧ zPart s2 j n
    · rw [zIf_t h]; omega
    · rw [zIf_f h]; omega
theorem zFnm_0 {la : Nat → Nat} {sz : Nat → Option Nat} {a b : Nat} {i j n : Int32} (h : zFnm la sz a b i j n = 0) : ∃ s1 s2, sz a = some s1 ∧ sz b = some s2 ∧ la a = la b ∧ zPart s1 i n ∧ zPart s2 j n := by
  unfold zFnm at h
  cases h1 : sz a with
  | none => rw [h1] at h; exact absurd h (show ¬ (1 : Nat) = 0 by decide)
  | some s1 =>
    cases h2 : sz b with
    | none => rw [h1, h2] at h; exact absurd h (show ¬ (1 : Nat) = 0 by decide)
    | some s2 =>
      rw [h1, h2] at h
      have h : (if la a ≠ la b then 5 else zIf (zPart s1 i n ∧ zPart s2 j n) 0 2) = 0 := h
      by_cases hl : la a = la b
      · rw [if_neg (fun q => q hl)] at h
        by_cases hp : zPart s1 i n ∧ zPart s2 j n
        · exact ⟨s1, s2, rfl, rfl, hl, hp.1, hp.2⟩
        · rw [zIf_f hp] at h; exact absurd h (by decide)
      · rw [if_pos hl] at h; exact absurd h (by decide)
theorem qX8_fnm (la : Nat → Nat) (sz : Nat → Option Nat) (it : Nat → Nat → Int32) (hs : zRok sz) (hla : ∀ j, la j ≤ 2) (a b : Nat) (ha : a < 8) (hb : b < 8) (i j n : Int32) : zMiE mX8_findingOfMove 1 [.ref 0, .int (nI a), .int i, .int (nI b), .int j, .int n] (hSh la sz it) (nI (zFnm la sz a b i j n)) (hSh la sz it) := by
  cases h1 : sz a with
  | none =>
    have := qX8_findingOfMove_m la sz it hs hla a b ha hb i j n (Or.inl h1)
    have e : zFnm la sz a b i j n = 1 := by unfold zFnm; rw [h1]
    rw [e]; exact this
  | some s1 =>
    cases h2 : sz b with
    | none =>
      have := qX8_findingOfMove_m la sz it hs hla a b ha hb i j n (Or.inr h2)
      have e : zFnm la sz a b i j n = 1 := by unfold zFnm; rw [h1, h2]
      rw [e]; exact this
    | some s2 =>
      have := qX8_findingOfMove la sz it hs hla a b ha hb i j n s1 s2 h1 h2
      have e : (if la a ≠ la b then nI 5 else zII (zPart s1 i n ∧ zPart s2 j n) (nI 0) (nI 2)) = nI (zFnm la sz a b i j n) := by
        unfold zFnm
        rw [h1, h2]
        show _ = nI (if _ then _ else _)
        by_cases hl : la a = la b
        · rw [if_neg (fun q => q hl), if_neg (fun q => q hl)]
          by_cases hp : zPart s1 i n ∧ zPart s2 j n
          · rw [zII_t hp, zIf_t hp]
          · rw [zII_f hp, zIf_f hp]
        · rw [if_pos hl, if_pos hl]
      rw [e] at this
      exact this
abbrev zAn : Type := Int32 × zRw × Nat
noncomputable def aRow (R : zRw) (s : Nat) (v w x : Int32) : zAn := zIG (inR 0 7 v ∧ inR 0 2 w ∧ x ≤ nI 40) (zIG (x < 0) (-1000010 - nI 4, R, 4) (x, (zup R.1 (zNat v) (zNat w), zuo R.2.1 (zNat v) (some (zNat x)), zuo R.2.2 (zNat v) (fun _ => 0)), 0)) (-1000001, R, s)
noncomputable def aSet (R : zRw) (s : Nat) (v i x : Int32) : zAn := zIG (inR 0 7 v) (zIG (zFnd (R.2.1 (zNat v)) i (nI 1) = 0) (zCut (R.1 (zNat v)) x, (R.1, R.2.1, zuo R.2.2 (zNat v) (upd (R.2.2 (zNat v)) (zNat i) (zCut (R.1 (zNat v)) x))), 0) (-1000010 - nI (zFnd (R.2.1 (zNat v)) i (nI 1)), R, zFnd (R.2.1 (zNat v)) i (nI 1))) (-1000001, R, s)
noncomputable def aCopy (R : zRw) (s : Nat) (v i w j n : Int32) : zAn := zIG (inR 0 7 v ∧ inR 0 7 w) (zIG (zFnm R.1 R.2.1 (zNat v) (zNat w) i j n = 0) (n, (R.1, R.2.1, zuo R.2.2 (zNat w) (va_cpy (R.2.2 (zNat v)) (R.2.2 (zNat w)) (zNat i) (zNat j) (zNat n))), 0) (-1000010 - nI (zFnm R.1 R.2.1 (zNat v) (zNat w) i j n), R, zFnm R.1 R.2.1 (zNat v) (zNat w) i j n)) (-1000001, R, s)
noncomputable def aDrop (R : zRw) (s : Nat) (v : Int32) : zAn := zIG (inR 0 7 v) (zIG (R.2.1 (zNat v) = none) (-1000010 - nI 1, R, 1) (tI (R.2.1 (zNat v)), (R.1, zuo R.2.1 (zNat v) none, R.2.2), 0)) (-1000001, R, s)
theorem z_nn {x : Int32} {b : Nat} (h1 : x ≤ nI b) (h2 : ¬ x < 0) (hb : b < 2147483648) : ∃ j, j ≤ b ∧ x = nI j := by
  obtain ⟨j, -, h3, h4⟩ := (zinN2 (a := 0) hb (by omega)).mp ⟨Int32.not_lt.mp h2, h1⟩
  exact ⟨j, h3, h4⟩
set_option maxHeartbeats 4000000 in
set_option maxRecDepth 100000 in
theorem qX11_row (la : Nat → Nat) (sz : Nat → Option Nat) (it : Nat → Nat → Int32) (t : zTp) (l p : zLk) (i : zLk × zLk) (y : zPy) (a : zAs) (f1 f2 : Nat) (hs : zRok sz) (hla : ∀ j, la j ≤ 2) (v w x9 : Int32) : zMi mX11_row 2 ([.ref 0, .int v, .int w, .int x9]) (hC ((la, sz, it), t, l, p, i, y, a, (f1, f2))) (fun z u => ∃ R9 s9, (z, R9, s9) = aRow (la, sz, it) f2 v w x9 ∧ u = hC (R9, t, l, p, i, y, a, (f1, s9))) := by
  refine zMi.of (by decide) (Nat.le_of_ble_eq_true rfl) (fun x hx hF => ?_)
  refine z_iload_n hx dX11_row_0 rfl ?_
  refine z_callisP hx [] (qX11_isRow _) dX11_row_1 sX11_70 rfl rfl rfl (by decide) (by decide) rfl (Nat.le_of_ble_eq_true rfl) (by decide) ?_
  first | refine z_if_eqB (tgt := 22) hx dX11_row_4 (by decide) (fun zc4 => ?_) (fun zc4 => ?_) | refine z_if_eqN (tgt := 22) hx dX11_row_4 (by decide) (by omega) (fun zc4 => ?_) (fun zc4 => ?_) | refine z_if_eq (tgt := 22) hx dX11_row_4 (by decide) (fun zc4 => ?_) (fun zc4 => ?_)
  · skip
    refine z_ldc hx dX11_row_22 kX11_78 ?_
    exact z_iret hx hF dX11_row_24 rfl rfl ⟨_, _, by unfold aRow; first | (rw [zIG_f (fun h => zc4 h.1)]) | (rw [zIG_f (fun h => zc13 h.2.1)]) | (rw [zIG_f (fun h => zc19 h.2.2)]) | (rw [zIG_t ⟨⟨zj, Nat.zero_le _, zhj, rfl⟩, ⟨ze, Nat.zero_le _, zhe, rfl⟩, zc19⟩, zIG_t (Int32.not_le.mp zc26)]) | (rw [zIG_t ⟨⟨zj, Nat.zero_le _, zhj, rfl⟩, ⟨ze, Nat.zero_le _, zhe, rfl⟩, zc19⟩, zIG_f (Int32.not_lt.mpr zc26), zNat_nI (by omega), zNat_nI (by omega), zNat_nI (by omega)]) | exact zzz_open, rfl⟩
  · skip
    obtain ⟨zj, -, zhj, rfl⟩ := zc4
    refine z_iload_n hx dX11_row_7 rfl ?_
    refine z_iconst (v := nI 0) hx dX11_row_8 (by decide) ?_
    refine z_iconst (v := nI 2) hx dX11_row_9 (by decide) ?_
    refine z_callisP hx [] (qX11_isWithinN _ _ _ (by decide)) dX11_row_10 sX11_74 rfl rfl rfl (by decide) (by decide) rfl (Nat.le_of_ble_eq_true rfl) (by decide) ?_
    first | refine z_if_eqB (tgt := 22) hx dX11_row_13 (by decide) (fun zc13 => ?_) (fun zc13 => ?_) | refine z_if_eqN (tgt := 22) hx dX11_row_13 (by decide) (by omega) (fun zc13 => ?_) (fun zc13 => ?_) | refine z_if_eq (tgt := 22) hx dX11_row_13 (by decide) (fun zc13 => ?_) (fun zc13 => ?_)
    · skip
      refine z_ldc hx dX11_row_22 kX11_78 ?_
      exact z_iret hx hF dX11_row_24 rfl rfl ⟨_, _, by unfold aRow; first | (rw [zIG_f (fun h => zc4 h.1)]) | (rw [zIG_f (fun h => zc13 h.2.1)]) | (rw [zIG_f (fun h => zc19 h.2.2)]) | (rw [zIG_t ⟨⟨zj, Nat.zero_le _, zhj, rfl⟩, ⟨ze, Nat.zero_le _, zhe, rfl⟩, zc19⟩, zIG_t (Int32.not_le.mp zc26)]) | (rw [zIG_t ⟨⟨zj, Nat.zero_le _, zhj, rfl⟩, ⟨ze, Nat.zero_le _, zhe, rfl⟩, zc19⟩, zIG_f (Int32.not_lt.mpr zc26), zNat_nI (by omega), zNat_nI (by omega), zNat_nI (by omega)]) | exact zzz_open, rfl⟩
    · skip
      obtain ⟨ze, -, zhe, rfl⟩ := zc13
      refine z_iload_n hx dX11_row_16 rfl ?_
      refine z_bipush (v := nI 40) hx dX11_row_17 (by decide) ?_
      refine z_icmp_le (tgt := 25) hx dX11_row_19 (by decide) (fun zc19 => ?_) (fun zc19 => ?_)
      · skip
        refine z_iload_n hx dX11_row_25 rfl ?_
        refine z_if_ge (tgt := 35) hx dX11_row_26 (by decide) (fun zc26 => ?_) (fun zc26 => ?_)
        · skip
          obtain ⟨zx, zhx, rfl⟩ := z_nn zc19 (Int32.not_lt.mpr zc26) (by decide)
          refine z_aload_n hx dX11_row_35 rfl ?_
          refine z_get hx dX11_row_36 fX11_27 hC_0 rfl ?_
          refine z_iload_n hx dX11_row_39 rfl ?_
          refine z_iload_n hx dX11_row_40 rfl ?_
          refine z_iload_n hx dX11_row_41 rfl ?_
          refine z_callvvE hx gSh (qX8_make la sz it zj ze zx (by omega)) dX11_row_42 sX11_83 rfl rfl sub_Sh rfl rfl (by decide) (by decide) rfl (Nat.le_of_ble_eq_true rfl) (by decide) ?_
          refine z_heap pt_Sh ?_
          refine z_aload_n hx dX11_row_45 rfl ?_
          refine z_iload_n hx dX11_row_46 rfl ?_
          refine z_callivF hx (qX11_foundNothing (zup la zj ze, zuo sz zj (some zx), zuo it zj (fun _ => 0)) t l p i y a f1 f2 (nI zx)) dX11_row_47 sX11_87 hC_0 rfl rfl rfl (Nat.le_of_ble_eq_true rfl) rfl (Nat.le_of_ble_eq_true rfl) (by decide) ?_
          exact z_iret hx hF dX11_row_50 rfl rfl ⟨_, _, by unfold aRow; first | (rw [zIG_f (fun h => zc4 h.1)]) | (rw [zIG_f (fun h => zc13 h.2.1)]) | (rw [zIG_f (fun h => zc19 h.2.2)]) | (rw [zIG_t ⟨⟨zj, Nat.zero_le _, zhj, rfl⟩, ⟨ze, Nat.zero_le _, zhe, rfl⟩, zc19⟩, zIG_t (Int32.not_le.mp zc26)]) | (rw [zIG_t ⟨⟨zj, Nat.zero_le _, zhj, rfl⟩, ⟨ze, Nat.zero_le _, zhe, rfl⟩, zc19⟩, zIG_f (Int32.not_lt.mpr zc26), zNat_nI (by omega), zNat_nI (by omega), zNat_nI (by omega)]) | exact zzz_open, rfl⟩
        · skip
          refine z_aload_n hx dX11_row_29 rfl ?_
          refine z_iconst (v := nI 4) hx dX11_row_30 (by decide) ?_
          refine z_callivF hx (qX11_found (la, sz, it) t l p i y a f1 f2 (4) (by omega)) dX11_row_31 sX11_79 hC_0 rfl rfl rfl (Nat.le_of_ble_eq_true rfl) rfl (Nat.le_of_ble_eq_true rfl) (by decide) ?_
          exact z_iret hx hF dX11_row_34 rfl rfl ⟨_, _, by unfold aRow; first | (rw [zIG_f (fun h => zc4 h.1)]) | (rw [zIG_f (fun h => zc13 h.2.1)]) | (rw [zIG_f (fun h => zc19 h.2.2)]) | (rw [zIG_t ⟨⟨zj, Nat.zero_le _, zhj, rfl⟩, ⟨ze, Nat.zero_le _, zhe, rfl⟩, zc19⟩, zIG_t (Int32.not_le.mp zc26)]) | (rw [zIG_t ⟨⟨zj, Nat.zero_le _, zhj, rfl⟩, ⟨ze, Nat.zero_le _, zhe, rfl⟩, zc19⟩, zIG_f (Int32.not_lt.mpr zc26), zNat_nI (by omega), zNat_nI (by omega), zNat_nI (by omega)]) | exact zzz_open, rfl⟩
      · skip
        refine z_ldc hx dX11_row_22 kX11_78 ?_
        exact z_iret hx hF dX11_row_24 rfl rfl ⟨_, _, by unfold aRow; first | (rw [zIG_f (fun h => zc4 h.1)]) | (rw [zIG_f (fun h => zc13 h.2.1)]) | (rw [zIG_f (fun h => zc19 h.2.2)]) | (rw [zIG_t ⟨⟨zj, Nat.zero_le _, zhj, rfl⟩, ⟨ze, Nat.zero_le _, zhe, rfl⟩, zc19⟩, zIG_t (Int32.not_le.mp zc26)]) | (rw [zIG_t ⟨⟨zj, Nat.zero_le _, zhj, rfl⟩, ⟨ze, Nat.zero_le _, zhe, rfl⟩, zc19⟩, zIG_f (Int32.not_lt.mpr zc26), zNat_nI (by omega), zNat_nI (by omega), zNat_nI (by omega)]) | exact zzz_open, rfl⟩

set_option maxHeartbeats 4000000 in
set_option maxRecDepth 100000 in
theorem qX11_set (la : Nat → Nat) (sz : Nat → Option Nat) (it : Nat → Nat → Int32) (t : zTp) (l p : zLk) (i : zLk × zLk) (y : zPy) (a : zAs) (f1 f2 : Nat) (hs : zRok sz) (hla : ∀ j, la j ≤ 2) (v w x9 : Int32) : zMi mX11_set 2 ([.ref 0, .int v, .int w, .int x9]) (hC ((la, sz, it), t, l, p, i, y, a, (f1, f2))) (fun z u => ∃ R9 s9, (z, R9, s9) = aSet (la, sz, it) f2 v w x9 ∧ u = hC (R9, t, l, p, i, y, a, (f1, s9))) := by
  refine zMi.of (by decide) (Nat.le_of_ble_eq_true rfl) (fun x hx hF => ?_)
  refine z_iload_n hx dX11_set_0 rfl ?_
  refine z_callisP hx [] (qX11_isRow _) dX11_set_1 sX11_70 rfl rfl rfl (by decide) (by decide) rfl (Nat.le_of_ble_eq_true rfl) (by decide) ?_
  first | refine z_if_neB (tgt := 10) hx dX11_set_4 (by decide) (fun zc4 => ?_) (fun zc4 => ?_) | refine z_if_neN (tgt := 10) hx dX11_set_4 (by decide) (by omega) (fun zc4 => ?_) (fun zc4 => ?_) | refine z_if_ne (tgt := 10) hx dX11_set_4 (by decide) (fun zc4 => ?_) (fun zc4 => ?_)
  · skip
    obtain ⟨zj, -, zhj, rfl⟩ := zc4
    have hfd := zFnd_le (sz zj) w (nI 1)
    have hnj : zNat (nI zj) = zj := zNat_nI (by omega)
    refine z_aload_n hx dX11_set_10 rfl ?_
    refine z_get hx dX11_set_11 fX11_27 hC_0 rfl ?_
    refine z_iload_n hx dX11_set_14 rfl ?_
    refine z_iload_n hx dX11_set_15 rfl ?_
    refine z_iconst (v := nI 1) hx dX11_set_16 (by decide) ?_
    refine z_callivP hx gSh (qX8_fnd la sz it hs zj (by omega) w (nI 1)) dX11_set_17 sX11_90 rfl rfl sub_Sh rfl rfl (by decide) (by decide) rfl (Nat.le_of_ble_eq_true rfl) (by decide) ?_
    refine z_istore hx dX11_set_20 (Nat.le_of_ble_eq_true rfl) rfl ?_
    refine z_iload hx dX11_set_22 rfl ?_
    first | refine z_if_eqB (tgt := 34) hx dX11_set_24 (by decide) (fun zc24 => ?_) (fun zc24 => ?_) | refine z_if_eqN (tgt := 34) hx dX11_set_24 (by decide) (by omega) (fun zc24 => ?_) (fun zc24 => ?_) | refine z_if_eq (tgt := 34) hx dX11_set_24 (by decide) (fun zc24 => ?_) (fun zc24 => ?_)
    · skip
      obtain ⟨zm, hm1, ka, kb, rfl, hb1, hab⟩ := zFnd_0 zc24
      have h40 := hs _ _ hm1
      have hb2 : kb = 1 := ((nI_eq (by omega) (by omega)).mp hb1).symm
      have hla2 := hla zj
      refine z_aload_n hx dX11_set_34 rfl ?_
      refine z_aload_n hx dX11_set_35 rfl ?_
      refine z_get hx dX11_set_36 fX11_27 hC_0 rfl ?_
      refine z_iload_n hx dX11_set_39 rfl ?_
      refine z_iload_n hx dX11_set_40 rfl ?_
      refine z_iload_n hx dX11_set_41 rfl ?_
      refine z_callivE hx gSh (qX8_put la sz it zj ka (by omega) (by omega) (by omega) x9) dX11_set_42 sX11_94 rfl rfl sub_Sh rfl rfl (by decide) (by decide) rfl (Nat.le_of_ble_eq_true rfl) (by decide) ?_
      refine z_heap pt_Sh ?_
      refine z_callivF hx (qX11_foundNothing (la, sz, zuo it zj (upd (it zj) ka (zCut (la zj) x9))) t l p i y a f1 f2 _) dX11_set_45 sX11_87 hC_0 rfl rfl rfl (Nat.le_of_ble_eq_true rfl) rfl (Nat.le_of_ble_eq_true rfl) (by decide) ?_
      exact z_iret hx hF dX11_set_48 rfl rfl ⟨_, _, by unfold aSet; first | (rw [zIG_f (c := inR 0 7 v) zc4]) | (rw [zIG_t ⟨zj, Nat.zero_le _, zhj, rfl⟩, hnj, zIG_t zc24, zNat_nI (by omega)]) | (rw [zIG_t ⟨zj, Nat.zero_le _, zhj, rfl⟩, hnj, zIG_f (Nat.ne_of_gt zc24)]) | exact zzz_open, rfl⟩
    · skip
      refine z_aload_n hx dX11_set_27 rfl ?_
      refine z_iload hx dX11_set_28 rfl ?_
      refine z_callivF hx (qX11_found (la, sz, it) t l p i y a f1 f2 (zFnd (sz zj) w (nI 1)) (by omega)) dX11_set_30 sX11_79 hC_0 rfl rfl rfl (Nat.le_of_ble_eq_true rfl) rfl (Nat.le_of_ble_eq_true rfl) (by decide) ?_
      exact z_iret hx hF dX11_set_33 rfl rfl ⟨_, _, by unfold aSet; first | (rw [zIG_f (c := inR 0 7 v) zc4]) | (rw [zIG_t ⟨zj, Nat.zero_le _, zhj, rfl⟩, hnj, zIG_t zc24, zNat_nI (by omega)]) | (rw [zIG_t ⟨zj, Nat.zero_le _, zhj, rfl⟩, hnj, zIG_f (Nat.ne_of_gt zc24)]) | exact zzz_open, rfl⟩
  · skip
    refine z_ldc hx dX11_set_7 kX11_78 ?_
    exact z_iret hx hF dX11_set_9 rfl rfl ⟨_, _, by unfold aSet; first | (rw [zIG_f (c := inR 0 7 v) zc4]) | (rw [zIG_t ⟨zj, Nat.zero_le _, zhj, rfl⟩, hnj, zIG_t zc24, zNat_nI (by omega)]) | (rw [zIG_t ⟨zj, Nat.zero_le _, zhj, rfl⟩, hnj, zIG_f (Nat.ne_of_gt zc24)]) | exact zzz_open, rfl⟩

set_option maxHeartbeats 4000000 in
set_option maxRecDepth 100000 in
theorem qX11_copy (la : Nat → Nat) (sz : Nat → Option Nat) (it : Nat → Nat → Int32) (t : zTp) (l p : zLk) (i : zLk × zLk) (y : zPy) (a : zAs) (f1 f2 : Nat) (hs : zRok sz) (hla : ∀ j, la j ≤ 2) (v i9 w j9 x9 : Int32) : zMi mX11_copy 2 ([.ref 0, .int v, .int i9, .int w, .int j9, .int x9]) (hC ((la, sz, it), t, l, p, i, y, a, (f1, f2))) (fun z u => ∃ R9 s9, (z, R9, s9) = aCopy (la, sz, it) f2 v i9 w j9 x9 ∧ u = hC (R9, t, l, p, i, y, a, (f1, s9))) := by
  refine zMi.of (by decide) (Nat.le_of_ble_eq_true rfl) (fun x hx hF => ?_)
  refine z_iload_n hx dX11_copy_0 rfl ?_
  refine z_callisP hx [] (qX11_isRow _) dX11_copy_1 sX11_70 rfl rfl rfl (by decide) (by decide) rfl (Nat.le_of_ble_eq_true rfl) (by decide) ?_
  first | refine z_if_eqB (tgt := 14) hx dX11_copy_4 (by decide) (fun zc4 => ?_) (fun zc4 => ?_) | refine z_if_eqN (tgt := 14) hx dX11_copy_4 (by decide) (by omega) (fun zc4 => ?_) (fun zc4 => ?_) | refine z_if_eq (tgt := 14) hx dX11_copy_4 (by decide) (fun zc4 => ?_) (fun zc4 => ?_)
  · skip
    refine z_ldc hx dX11_copy_14 kX11_78 ?_
    exact z_iret hx hF dX11_copy_16 rfl rfl ⟨_, _, by unfold aCopy; first | (rw [zIG_f (fun h => zc4 h.1)]) | (rw [zIG_f (fun h => zc11 h.2)]) | (rw [zIG_t ⟨⟨zj, Nat.zero_le _, zhj, rfl⟩, ⟨ze, Nat.zero_le _, zhe, rfl⟩⟩, hnj, hne, zIG_t zc35, zNat_nI (by omega), zNat_nI (by omega), zNat_nI (by omega)]) | (rw [zIG_t ⟨⟨zj, Nat.zero_le _, zhj, rfl⟩, ⟨ze, Nat.zero_le _, zhe, rfl⟩⟩, hnj, hne, zIG_f (Nat.ne_of_gt zc35)]) | exact zzz_open, rfl⟩
  · skip
    obtain ⟨zj, -, zhj, rfl⟩ := zc4
    refine z_iload_n hx dX11_copy_7 rfl ?_
    refine z_callisP hx [] (qX11_isRow _) dX11_copy_8 sX11_70 rfl rfl rfl (by decide) (by decide) rfl (Nat.le_of_ble_eq_true rfl) (by decide) ?_
    first | refine z_if_neB (tgt := 17) hx dX11_copy_11 (by decide) (fun zc11 => ?_) (fun zc11 => ?_) | refine z_if_neN (tgt := 17) hx dX11_copy_11 (by decide) (by omega) (fun zc11 => ?_) (fun zc11 => ?_) | refine z_if_ne (tgt := 17) hx dX11_copy_11 (by decide) (fun zc11 => ?_) (fun zc11 => ?_)
    · skip
      obtain ⟨ze, -, zhe, rfl⟩ := zc11
      have hfd := zFnm_le la sz zj ze i9 j9 x9
      have hnj : zNat (nI zj) = zj := zNat_nI (by omega)
      have hne : zNat (nI ze) = ze := zNat_nI (by omega)
      refine z_aload_n hx dX11_copy_17 rfl ?_
      refine z_get hx dX11_copy_18 fX11_27 hC_0 rfl ?_
      refine z_iload_n hx dX11_copy_21 rfl ?_
      refine z_iload_n hx dX11_copy_22 rfl ?_
      refine z_iload_n hx dX11_copy_23 rfl ?_
      refine z_iload hx dX11_copy_24 rfl ?_
      refine z_iload hx dX11_copy_26 rfl ?_
      refine z_callivP hx gSh (qX8_fnm la sz it hs hla zj ze (by omega) (by omega) i9 j9 x9) dX11_copy_28 sX11_97 rfl rfl sub_Sh rfl rfl (by decide) (by decide) rfl (Nat.le_of_ble_eq_true rfl) (by decide) ?_
      refine z_istore hx dX11_copy_31 (Nat.le_of_ble_eq_true rfl) rfl ?_
      refine z_iload hx dX11_copy_33 rfl ?_
      first | refine z_if_eqB (tgt := 45) hx dX11_copy_35 (by decide) (fun zc35 => ?_) (fun zc35 => ?_) | refine z_if_eqN (tgt := 45) hx dX11_copy_35 (by decide) (by omega) (fun zc35 => ?_) (fun zc35 => ?_) | refine z_if_eq (tgt := 45) hx dX11_copy_35 (by decide) (fun zc35 => ?_) (fun zc35 => ?_)
      · skip
        obtain ⟨s1, s2, hz1, hz2, hl9, ⟨ka, kb, rfl, rfl, hab⟩, ⟨kc, kd, rfl, hd1, hcd⟩⟩ := zFnm_0 zc35
        have h40 := hs _ _ hz1
        have h41 := hs _ _ hz2
        have hd2 : kd = kb := ((nI_eq (by omega) (by omega)).mp hd1).symm
        subst hd2
        refine z_aload_n hx dX11_copy_45 rfl ?_
        refine z_get hx dX11_copy_46 fX11_27 hC_0 rfl ?_
        refine z_iload_n hx dX11_copy_49 rfl ?_
        refine z_iload_n hx dX11_copy_50 rfl ?_
        refine z_iload_n hx dX11_copy_51 rfl ?_
        refine z_iload hx dX11_copy_52 rfl ?_
        refine z_iload hx dX11_copy_54 rfl ?_
        refine z_callvvE hx gSh (qX8_move la sz it zj ka ze kc kd (by omega) (by omega) (by omega) (by omega)) dX11_copy_56 sX11_101 rfl rfl sub_Sh rfl rfl (by decide) (by decide) rfl (Nat.le_of_ble_eq_true rfl) (by decide) ?_
        refine z_heap pt_Sh ?_
        refine z_aload_n hx dX11_copy_59 rfl ?_
        refine z_iload hx dX11_copy_60 rfl ?_
        refine z_callivF hx (qX11_foundNothing (la, sz, zuo it ze (va_cpy (it zj) (it ze) ka kc kd)) t l p i y a f1 f2 _) dX11_copy_62 sX11_87 hC_0 rfl rfl rfl (Nat.le_of_ble_eq_true rfl) rfl (Nat.le_of_ble_eq_true rfl) (by decide) ?_
        exact z_iret hx hF dX11_copy_65 rfl rfl ⟨_, _, by unfold aCopy; first | (rw [zIG_f (fun h => zc4 h.1)]) | (rw [zIG_f (fun h => zc11 h.2)]) | (rw [zIG_t ⟨⟨zj, Nat.zero_le _, zhj, rfl⟩, ⟨ze, Nat.zero_le _, zhe, rfl⟩⟩, hnj, hne, zIG_t zc35, zNat_nI (by omega), zNat_nI (by omega), zNat_nI (by omega)]) | (rw [zIG_t ⟨⟨zj, Nat.zero_le _, zhj, rfl⟩, ⟨ze, Nat.zero_le _, zhe, rfl⟩⟩, hnj, hne, zIG_f (Nat.ne_of_gt zc35)]) | exact zzz_open, rfl⟩
      · skip
        refine z_aload_n hx dX11_copy_38 rfl ?_
        refine z_iload hx dX11_copy_39 rfl ?_
        refine z_callivF hx (qX11_found (la, sz, it) t l p i y a f1 f2 (zFnm la sz zj ze i9 j9 x9) (by omega)) dX11_copy_41 sX11_79 hC_0 rfl rfl rfl (Nat.le_of_ble_eq_true rfl) rfl (Nat.le_of_ble_eq_true rfl) (by decide) ?_
        exact z_iret hx hF dX11_copy_44 rfl rfl ⟨_, _, by unfold aCopy; first | (rw [zIG_f (fun h => zc4 h.1)]) | (rw [zIG_f (fun h => zc11 h.2)]) | (rw [zIG_t ⟨⟨zj, Nat.zero_le _, zhj, rfl⟩, ⟨ze, Nat.zero_le _, zhe, rfl⟩⟩, hnj, hne, zIG_t zc35, zNat_nI (by omega), zNat_nI (by omega), zNat_nI (by omega)]) | (rw [zIG_t ⟨⟨zj, Nat.zero_le _, zhj, rfl⟩, ⟨ze, Nat.zero_le _, zhe, rfl⟩⟩, hnj, hne, zIG_f (Nat.ne_of_gt zc35)]) | exact zzz_open, rfl⟩
    · skip
      refine z_ldc hx dX11_copy_14 kX11_78 ?_
      exact z_iret hx hF dX11_copy_16 rfl rfl ⟨_, _, by unfold aCopy; first | (rw [zIG_f (fun h => zc4 h.1)]) | (rw [zIG_f (fun h => zc11 h.2)]) | (rw [zIG_t ⟨⟨zj, Nat.zero_le _, zhj, rfl⟩, ⟨ze, Nat.zero_le _, zhe, rfl⟩⟩, hnj, hne, zIG_t zc35, zNat_nI (by omega), zNat_nI (by omega), zNat_nI (by omega)]) | (rw [zIG_t ⟨⟨zj, Nat.zero_le _, zhj, rfl⟩, ⟨ze, Nat.zero_le _, zhe, rfl⟩⟩, hnj, hne, zIG_f (Nat.ne_of_gt zc35)]) | exact zzz_open, rfl⟩

set_option maxHeartbeats 4000000 in
set_option maxRecDepth 100000 in
theorem qX11_drop (la : Nat → Nat) (sz : Nat → Option Nat) (it : Nat → Nat → Int32) (t : zTp) (l p : zLk) (i : zLk × zLk) (y : zPy) (a : zAs) (f1 f2 : Nat) (hs : zRok sz) (hla : ∀ j, la j ≤ 2) (v : Int32) : zMi mX11_drop 2 ([.ref 0, .int v]) (hC ((la, sz, it), t, l, p, i, y, a, (f1, f2))) (fun z u => ∃ R9 s9, (z, R9, s9) = aDrop (la, sz, it) f2 v ∧ u = hC (R9, t, l, p, i, y, a, (f1, s9))) := by
  refine zMi.of (by decide) (Nat.le_of_ble_eq_true rfl) (fun x hx hF => ?_)
  refine z_iload_n hx dX11_drop_0 rfl ?_
  refine z_callisP hx [] (qX11_isRow _) dX11_drop_1 sX11_70 rfl rfl rfl (by decide) (by decide) rfl (Nat.le_of_ble_eq_true rfl) (by decide) ?_
  first | refine z_if_neB (tgt := 10) hx dX11_drop_4 (by decide) (fun zc4 => ?_) (fun zc4 => ?_) | refine z_if_neN (tgt := 10) hx dX11_drop_4 (by decide) (by omega) (fun zc4 => ?_) (fun zc4 => ?_) | refine z_if_ne (tgt := 10) hx dX11_drop_4 (by decide) (fun zc4 => ?_) (fun zc4 => ?_)
  · skip
    obtain ⟨zj, -, zhj, rfl⟩ := zc4
    have hnj : zNat (nI zj) = zj := zNat_nI (by omega)
    refine z_aload_n hx dX11_drop_10 rfl ?_
    refine z_get hx dX11_drop_11 fX11_27 hC_0 rfl ?_
    refine z_iload_n hx dX11_drop_14 rfl ?_
    refine z_callivP hx gSh (qX8_isMissing la sz it hs zj (by omega)) dX11_drop_15 sX11_105 rfl rfl sub_Sh rfl rfl (by decide) (by decide) rfl (Nat.le_of_ble_eq_true rfl) (by decide) ?_
    first | refine z_if_eqB (tgt := 27) hx dX11_drop_18 (by decide) (fun zc18 => ?_) (fun zc18 => ?_) | refine z_if_eqN (tgt := 27) hx dX11_drop_18 (by decide) (by omega) (fun zc18 => ?_) (fun zc18 => ?_) | refine z_if_eq (tgt := 27) hx dX11_drop_18 (by decide) (fun zc18 => ?_) (fun zc18 => ?_)
    · skip
      refine z_aload_n hx dX11_drop_27 rfl ?_
      refine z_aload_n hx dX11_drop_28 rfl ?_
      refine z_get hx dX11_drop_29 fX11_27 hC_0 rfl ?_
      refine z_iload_n hx dX11_drop_32 rfl ?_
      refine z_callivE hx gSh (qX8_remove la sz it zj (by omega)) dX11_drop_33 sX11_108 rfl rfl sub_Sh rfl rfl (by decide) (by decide) rfl (Nat.le_of_ble_eq_true rfl) (by decide) ?_
      refine z_heap pt_Sh ?_
      refine z_callivF hx (qX11_foundNothing (la, zuo sz zj none, it) t l p i y a f1 f2 _) dX11_drop_36 sX11_87 hC_0 rfl rfl rfl (Nat.le_of_ble_eq_true rfl) rfl (Nat.le_of_ble_eq_true rfl) (by decide) ?_
      exact z_iret hx hF dX11_drop_39 rfl rfl ⟨_, _, by unfold aDrop; first | (rw [zIG_f (c := inR 0 7 v) zc4]) | (rw [zIG_t ⟨zj, Nat.zero_le _, zhj, rfl⟩, hnj, zIG_t zc18]) | (rw [zIG_t ⟨zj, Nat.zero_le _, zhj, rfl⟩, hnj, zIG_f zc18]) | exact zzz_open, rfl⟩
    · skip
      refine z_aload_n hx dX11_drop_21 rfl ?_
      refine z_iconst (v := nI 1) hx dX11_drop_22 (by decide) ?_
      refine z_callivF hx (qX11_found (la, sz, it) t l p i y a f1 f2 (1) (by omega)) dX11_drop_23 sX11_79 hC_0 rfl rfl rfl (Nat.le_of_ble_eq_true rfl) rfl (Nat.le_of_ble_eq_true rfl) (by decide) ?_
      exact z_iret hx hF dX11_drop_26 rfl rfl ⟨_, _, by unfold aDrop; first | (rw [zIG_f (c := inR 0 7 v) zc4]) | (rw [zIG_t ⟨zj, Nat.zero_le _, zhj, rfl⟩, hnj, zIG_t zc18]) | (rw [zIG_t ⟨zj, Nat.zero_le _, zhj, rfl⟩, hnj, zIG_f zc18]) | exact zzz_open, rfl⟩
  · skip
    refine z_ldc hx dX11_drop_7 kX11_78 ?_
    exact z_iret hx hF dX11_drop_9 rfl rfl ⟨_, _, by unfold aDrop; first | (rw [zIG_f (c := inR 0 7 v) zc4]) | (rw [zIG_t ⟨zj, Nat.zero_le _, zhj, rfl⟩, hnj, zIG_t zc18]) | (rw [zIG_t ⟨zj, Nat.zero_le _, zhj, rfl⟩, hnj, zIG_f zc18]) | exact zzz_open, rfl⟩

