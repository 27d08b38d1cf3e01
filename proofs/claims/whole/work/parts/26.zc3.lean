/-! the class's answers -/
def inP (p : Nat) (v : Int32) : Prop := ∃ j, j < p ∧ v = nI j
def inR (a b : Nat) (v : Int32) : Prop := ∃ j, a ≤ j ∧ j ≤ b ∧ v = nI j
/-- cells of the class whose meaning is told, its scratch aside -/
def hCx (r : zRw) (t : zTp) (L : zL) (i : zLk × zLk) (y : zPy) (a : zAs) (f : Nat × Nat) (u : List zE) : Prop := ∃ cr ho p, u = hC (r, t, (L, cr, ho), p, i, y, a, f)
abbrev zNat (v : Int32) : Nat := v.toNatClampNeg
theorem zNat_nI {n : Nat} (h : n < 2147483648) : zNat (nI n) = n := nI_cl h
noncomputable def aWhere (L : zL) (v w : Int32) : Int32 := zII (inP (lP L) v ∧ inR 0 60 w) (nI (lA (zIt L 0 (zNat w)) (zNat v))) (-1000001)
noncomputable def aTram (L : zL) (w : Int32) : Int32 := zII (0 < lS L) (zII (inR 0 60 w) (tN (zTr (zIt L 0 (zNat w)) 0)) (-1000001)) (-1000002)
noncomputable def aThere (L : zL) (w : Int32) : Int32 := zII (0 < lS L) (zII (inR 0 60 w) (nI (zTh (zIt L 0 (zNat w)) (lP L))) (-1000001)) (-1000002)
noncomputable def aWhen (L : zL) (v : Int32) : Int32 := zII (inP (lP L) v) (tN (zFs (zAl L 0 (2 ^ zNat v)) 0 60)) (-1000001)
noncomputable def aAll (L : zL) : Int32 := zII (0 < lS L) (tN (zFs (zAl L 0 (2 ^ lP L - 1)) 0 60)) (-1000002)
noncomputable def aNever (L : zL) : Int32 := zII (0 < lS L) (nI (2 ^ lP L - 1 - zTh (zIt L 0 60) (lP L))) (-1000002)
noncomputable def aHold (L : zL) : Int32 := zII (0 < lS L) (nI (zHd L (lS L))) (-1000002)
noncomputable def aPerson (L : zL) (v w : Int32) : Int32 := zII (inP (lP L) v ∧ inR 0 4 w) (if w = nI 0 then nI (lA L (zNat v)) else if w = nI 1 then nI (lF L (zNat v)) else if w = nI 2 then nI (lW L (zNat v)) else if w = nI 3 then nI (lT L (zNat v)) else nI (zHp L (zNat v))) (-1000001)
noncomputable def aStop (L : zL) (v w : Int32) : Int32 := zII (inP (lS L) v ∧ inR 0 1 w) (if w = nI 0 then nI (zHs L 0 (zNat v)) else nI (zWh L (zNat v) (lP L))) (-1000001)
noncomputable def aKind (L : zL) (v : Int32) : Int32 := zII (inP (lP L) v) (nI (lK L (zNat v))) (-1000001)
theorem tI_tN {x : Option Nat} (h : ∀ j, x = some j → j < 1000) : (tI x = -1 → tN x = -1000000) ∧ (¬ tI x = -1 → tI x = tN x) := by
  cases x with
  | none => exact ⟨fun _ => rfl, fun e => absurd rfl e⟩
  | some j =>
    have := h j rfl
    refine ⟨fun e => ?_, fun _ => rfl⟩
    have h2 := congrArg Int32.toInt e
    have h3 : (tI (some j)).toInt = j := nI_toInt (by omega)
    have h4 : (-1 : Int32).toInt = -1 := by decide
    omega
theorem znot : ∀ p, p < 7 → ∀ x, x < 64 → x < 2 ^ p → nI (2 ^ p - 1) &&& (nI x ^^^ (-1)) = nI (2 ^ p - 1 - x) := by decide +kernel
set_option maxHeartbeats 4000000 in
set_option maxRecDepth 100000 in
theorem qX11_where (r : zRw) (t : zTp) (L : zL) (cr ho : Nat → Nat) (P : zL) (pr po : Nat → Nat) (i : zLk × zLk) (y : zPy) (a : zAs) (f : Nat × Nat) (hw : zWf L) (hm : lM L ≤ 1000) (v w : Int32) : zMi mX11_where 6 ([.ref 0, .int v, .int w]) (hC (r, t, (L, cr, ho), (P, pr, po), i, y, a, f)) (fun z u => z = aWhere L v w ∧ hCx r t L i y a f u) := by
  refine zMi.of (by decide) (Nat.le_of_ble_eq_true rfl) (fun x hx hF => ?_)
  obtain ⟨w1, w2, w3, w4, w5⟩ := id hw
  refine z_aload_n hx dX11_where_0 rfl ?_
  refine z_iload_n hx dX11_where_1 rfl ?_
  refine z_callivF hx (qX11_isPerson r t (P, pr, po) i y a f L cr ho hw _) dX11_where_2 sX11_161 hC_0 rfl rfl rfl (Nat.le_of_ble_eq_true rfl) rfl (Nat.le_of_ble_eq_true rfl) (by decide) ?_
  first | refine z_if_eqB (tgt := 18) hx dX11_where_5 (by decide) (fun zc5 => ?_) (fun zc5 => ?_) | refine z_if_eqN (tgt := 18) hx dX11_where_5 (by decide) (by omega) (fun zc5 => ?_) (fun zc5 => ?_) | refine z_if_eq (tgt := 18) hx dX11_where_5 (by decide) (fun zc5 => ?_) (fun zc5 => ?_)
  · skip
    refine z_ldc hx dX11_where_18 kX11_78 ?_
    exact z_iret hx hF dX11_where_20 rfl rfl ⟨by unfold aWhere; first | rw [zII_t ⟨⟨zj, zhj, rfl⟩, ⟨ze, Nat.zero_le _, zhe, rfl⟩⟩, zNat_nI (by omega), zNat_nI (by omega)] | rw [zII_f (fun h => zc5 h.1)] | rw [zII_f (fun h => zc15 h.2)] | exact zzz_open, _, _, _, rfl⟩
  · skip
    obtain ⟨zj, zhj, rfl⟩ := zc5
    refine z_iload_n hx dX11_where_8 rfl ?_
    refine z_iconst (v := nI 0) hx dX11_where_9 (by decide) ?_
    refine z_bipush (v := nI 60) hx dX11_where_10 (by decide) ?_
    refine z_callisP hx [] (qX11_isWithinN _ _ _ (by decide)) dX11_where_12 sX11_74 rfl rfl rfl (by decide) (by decide) rfl (Nat.le_of_ble_eq_true rfl) (by decide) ?_
    first | refine z_if_neB (tgt := 21) hx dX11_where_15 (by decide) (fun zc15 => ?_) (fun zc15 => ?_) | refine z_if_neN (tgt := 21) hx dX11_where_15 (by decide) (by omega) (fun zc15 => ?_) (fun zc15 => ?_) | refine z_if_ne (tgt := 21) hx dX11_where_15 (by decide) (fun zc15 => ?_) (fun zc15 => ?_)
    · skip
      obtain ⟨ze, -, zhe, rfl⟩ := zc15
      refine z_aload_n hx dX11_where_21 rfl ?_
      refine z_iload_n hx dX11_where_22 rfl ?_
      refine z_callvvG hx (qX11_playFor r t i y a f L cr ho P pr po hw hm ze zhe) dX11_where_23 sX11_199 hC_0 rfl rfl rfl (Nat.le_of_ble_eq_true rfl) rfl (Nat.le_of_ble_eq_true rfl) (by decide) (fun u23 l23 q23 => ?_)
      obtain ⟨pr9, po9, rfl⟩ := q23
      refine z_aload_n hx dX11_where_26 rfl ?_
      refine z_get hx dX11_where_27 fX11_49 hC_0 rfl ?_
      refine z_get hx dX11_where_30 fX11_164 hC_23 rfl ?_
      refine z_iload_n hx dX11_where_33 rfl ?_
      refine z_ialdJ hx dX11_where_34 hC_25 (by decide) (by omega) ?_
      exact z_iret hx hF dX11_where_35 rfl rfl ⟨by unfold aWhere; first | rw [zII_t ⟨⟨zj, zhj, rfl⟩, ⟨ze, Nat.zero_le _, zhe, rfl⟩⟩, zNat_nI (by omega), zNat_nI (by omega)] | rw [zII_f (fun h => zc5 h.1)] | rw [zII_f (fun h => zc15 h.2)] | exact zzz_open, _, _, _, rfl⟩
    · skip
      refine z_ldc hx dX11_where_18 kX11_78 ?_
      exact z_iret hx hF dX11_where_20 rfl rfl ⟨by unfold aWhere; first | rw [zII_t ⟨⟨zj, zhj, rfl⟩, ⟨ze, Nat.zero_le _, zhe, rfl⟩⟩, zNat_nI (by omega), zNat_nI (by omega)] | rw [zII_f (fun h => zc5 h.1)] | rw [zII_f (fun h => zc15 h.2)] | exact zzz_open, _, _, _, rfl⟩

set_option maxHeartbeats 4000000 in
set_option maxRecDepth 100000 in
theorem qX11_tram (r : zRw) (t : zTp) (L : zL) (cr ho : Nat → Nat) (P : zL) (pr po : Nat → Nat) (i : zLk × zLk) (y : zPy) (a : zAs) (f : Nat × Nat) (hw : zWf L) (hm : lM L ≤ 1000) (w : Int32) : zMi mX11_tram 6 ([.ref 0, .int w]) (hC (r, t, (L, cr, ho), (P, pr, po), i, y, a, f)) (fun z u => z = aTram L w ∧ hCx r t L i y a f u) := by
  refine zMi.of (by decide) (Nat.le_of_ble_eq_true rfl) (fun x hx hF => ?_)
  obtain ⟨w1, w2, w3, w4, w5⟩ := id hw
  refine z_aload_n hx dX11_tram_0 rfl ?_
  refine z_callivF hx (qX11_hasLine r t (P, pr, po) i y a f L cr ho hw) dX11_tram_1 sX11_143 hC_0 rfl rfl rfl (Nat.le_of_ble_eq_true rfl) rfl (Nat.le_of_ble_eq_true rfl) (by decide) ?_
  first | refine z_if_neB (tgt := 10) hx dX11_tram_4 (by decide) (fun zc4 => ?_) (fun zc4 => ?_) | refine z_if_neN (tgt := 10) hx dX11_tram_4 (by decide) (by omega) (fun zc4 => ?_) (fun zc4 => ?_) | refine z_if_ne (tgt := 10) hx dX11_tram_4 (by decide) (fun zc4 => ?_) (fun zc4 => ?_)
  · skip
    refine z_iload_n hx dX11_tram_10 rfl ?_
    refine z_iconst (v := nI 0) hx dX11_tram_11 (by decide) ?_
    refine z_bipush (v := nI 60) hx dX11_tram_12 (by decide) ?_
    refine z_callisP hx [] (qX11_isWithinN _ _ _ (by decide)) dX11_tram_14 sX11_74 rfl rfl rfl (by decide) (by decide) rfl (Nat.le_of_ble_eq_true rfl) (by decide) ?_
    first | refine z_if_neB (tgt := 23) hx dX11_tram_17 (by decide) (fun zc17 => ?_) (fun zc17 => ?_) | refine z_if_neN (tgt := 23) hx dX11_tram_17 (by decide) (by omega) (fun zc17 => ?_) (fun zc17 => ?_) | refine z_if_ne (tgt := 23) hx dX11_tram_17 (by decide) (fun zc17 => ?_) (fun zc17 => ?_)
    · skip
      obtain ⟨ze, -, zhe, rfl⟩ := zc17
      refine z_aload_n hx dX11_tram_23 rfl ?_
      refine z_iload_n hx dX11_tram_24 rfl ?_
      refine z_callvvG hx (qX11_playFor r t i y a f L cr ho P pr po hw hm ze zhe) dX11_tram_25 sX11_199 hC_0 rfl rfl rfl (Nat.le_of_ble_eq_true rfl) rfl (Nat.le_of_ble_eq_true rfl) (by decide) (fun u25 l25 q25 => ?_)
      obtain ⟨pr9, po9, rfl⟩ := q25
      refine z_aload_n hx dX11_tram_28 rfl ?_
      refine z_get hx dX11_tram_29 fX11_49 hC_0 rfl ?_
      refine z_iconst (v := nI 0) hx dX11_tram_32 (by decide) ?_
      refine z_callivE hx gPl (qX4_tramWithout (zIt L 0 ze) pr9 po9 (zWf_it hw 0 ze (by omega)) 0 (by omega)) dX11_tram_33 sX11_202 rfl rfl (sub_Pl _ _ _ _ _ _ _ _ _ _) rfl rfl (by decide) (by decide) rfl (Nat.le_of_ble_eq_true rfl) (by decide) ?_
      refine z_heap (pt_Pl _ _ _ _ _ _ _ _ _ _ _) ?_
      refine z_istore_n hx dX11_tram_36 (Nat.le_of_ble_eq_true rfl) rfl ?_
      have hq9 := zIt_P L 0 ze
      have htt := tI_tN (x := zTr (zIt L 0 ze) 0) (fun zj zhj => by have := zTr_lt zhj; omega)
      refine z_iload_n hx dX11_tram_37 rfl ?_
      refine z_iconst (v := (-1)) hx dX11_tram_38 (by decide) ?_
      refine z_icmp_ne (tgt := 47) hx dX11_tram_39 (by decide) (fun zc39 => ?_) (fun zc39 => ?_)
      · skip
        refine z_iload_n hx dX11_tram_47 rfl ?_
        exact z_iret hx hF dX11_tram_48 rfl rfl ⟨by unfold aTram; first | rw [zII_f zc4] | rw [zII_t zc4, zII_f (c := inR 0 60 w) zc17] | rw [zII_t zc4, zII_t ⟨ze, Nat.zero_le _, zhe, rfl⟩, zNat_nI (by omega), htt.1 zc39] | rw [zII_t zc4, zII_t ⟨ze, Nat.zero_le _, zhe, rfl⟩, zNat_nI (by omega), htt.2 zc39] | exact zzz_open, _, _, _, rfl⟩
      · skip
        refine z_ldc hx dX11_tram_42 kX11_205 ?_
        refine z_goto (tgt := 48) hx dX11_tram_44 (by decide) ?_
        exact z_iret hx hF dX11_tram_48 rfl rfl ⟨by unfold aTram; first | rw [zII_f zc4] | rw [zII_t zc4, zII_f (c := inR 0 60 w) zc17] | rw [zII_t zc4, zII_t ⟨ze, Nat.zero_le _, zhe, rfl⟩, zNat_nI (by omega), htt.1 zc39] | rw [zII_t zc4, zII_t ⟨ze, Nat.zero_le _, zhe, rfl⟩, zNat_nI (by omega), htt.2 zc39] | exact zzz_open, _, _, _, rfl⟩
    · skip
      refine z_ldc hx dX11_tram_20 kX11_78 ?_
      exact z_iret hx hF dX11_tram_22 rfl rfl ⟨by unfold aTram; first | rw [zII_f zc4] | rw [zII_t zc4, zII_f (c := inR 0 60 w) zc17] | rw [zII_t zc4, zII_t ⟨ze, Nat.zero_le _, zhe, rfl⟩, zNat_nI (by omega), htt.1 zc39] | rw [zII_t zc4, zII_t ⟨ze, Nat.zero_le _, zhe, rfl⟩, zNat_nI (by omega), htt.2 zc39] | exact zzz_open, _, _, _, rfl⟩
  · skip
    refine z_ldc hx dX11_tram_7 kX11_147 ?_
    exact z_iret hx hF dX11_tram_9 rfl rfl ⟨by unfold aTram; first | rw [zII_f zc4] | rw [zII_t zc4, zII_f (c := inR 0 60 w) zc17] | rw [zII_t zc4, zII_t ⟨ze, Nat.zero_le _, zhe, rfl⟩, zNat_nI (by omega), htt.1 zc39] | rw [zII_t zc4, zII_t ⟨ze, Nat.zero_le _, zhe, rfl⟩, zNat_nI (by omega), htt.2 zc39] | exact zzz_open, _, _, _, rfl⟩

set_option maxHeartbeats 4000000 in
set_option maxRecDepth 100000 in
theorem qX11_there (r : zRw) (t : zTp) (L : zL) (cr ho : Nat → Nat) (P : zL) (pr po : Nat → Nat) (i : zLk × zLk) (y : zPy) (a : zAs) (f : Nat × Nat) (hw : zWf L) (hm : lM L ≤ 1000) (w : Int32) : zMi mX11_there 6 ([.ref 0, .int w]) (hC (r, t, (L, cr, ho), (P, pr, po), i, y, a, f)) (fun z u => z = aThere L w ∧ hCx r t L i y a f u) := by
  refine zMi.of (by decide) (Nat.le_of_ble_eq_true rfl) (fun x hx hF => ?_)
  obtain ⟨w1, w2, w3, w4, w5⟩ := id hw
  refine z_aload_n hx dX11_there_0 rfl ?_
  refine z_callivF hx (qX11_hasLine r t (P, pr, po) i y a f L cr ho hw) dX11_there_1 sX11_143 hC_0 rfl rfl rfl (Nat.le_of_ble_eq_true rfl) rfl (Nat.le_of_ble_eq_true rfl) (by decide) ?_
  first | refine z_if_neB (tgt := 10) hx dX11_there_4 (by decide) (fun zc4 => ?_) (fun zc4 => ?_) | refine z_if_neN (tgt := 10) hx dX11_there_4 (by decide) (by omega) (fun zc4 => ?_) (fun zc4 => ?_) | refine z_if_ne (tgt := 10) hx dX11_there_4 (by decide) (fun zc4 => ?_) (fun zc4 => ?_)
  · skip
    refine z_iload_n hx dX11_there_10 rfl ?_
    refine z_iconst (v := nI 0) hx dX11_there_11 (by decide) ?_
    refine z_bipush (v := nI 60) hx dX11_there_12 (by decide) ?_
    refine z_callisP hx [] (qX11_isWithinN _ _ _ (by decide)) dX11_there_14 sX11_74 rfl rfl rfl (by decide) (by decide) rfl (Nat.le_of_ble_eq_true rfl) (by decide) ?_
    first | refine z_if_neB (tgt := 23) hx dX11_there_17 (by decide) (fun zc17 => ?_) (fun zc17 => ?_) | refine z_if_neN (tgt := 23) hx dX11_there_17 (by decide) (by omega) (fun zc17 => ?_) (fun zc17 => ?_) | refine z_if_ne (tgt := 23) hx dX11_there_17 (by decide) (fun zc17 => ?_) (fun zc17 => ?_)
    · skip
      obtain ⟨ze, -, zhe, rfl⟩ := zc17
      have hq9 := zIt_P L 0 ze
      refine z_aload_n hx dX11_there_23 rfl ?_
      refine z_iload_n hx dX11_there_24 rfl ?_
      refine z_callvvG hx (qX11_playFor r t i y a f L cr ho P pr po hw hm ze zhe) dX11_there_25 sX11_199 hC_0 rfl rfl rfl (Nat.le_of_ble_eq_true rfl) rfl (Nat.le_of_ble_eq_true rfl) (by decide) (fun u25 l25 q25 => ?_)
      obtain ⟨pr9, po9, rfl⟩ := q25
      refine z_aload_n hx dX11_there_28 rfl ?_
      refine z_get hx dX11_there_29 fX11_49 hC_0 rfl ?_
      refine z_callivP hx gPl (qX4_thereBits (zIt L 0 ze) pr9 po9 (zWf_it hw 0 ze (by omega))) dX11_there_32 sX11_157 rfl rfl (sub_Pl _ _ _ _ _ _ _ _ _ _) rfl rfl (by decide) (by decide) rfl (Nat.le_of_ble_eq_true rfl) (by decide) ?_
      exact z_iret hx hF dX11_there_35 rfl rfl ⟨by unfold aThere; first | rw [zII_f zc4] | rw [zII_t zc4, zII_f (c := inR 0 60 w) zc17] | rw [zII_t zc4, zII_t ⟨ze, Nat.zero_le _, zhe, rfl⟩, zNat_nI (by omega), hq9.1] | exact zzz_open, _, _, _, rfl⟩
    · skip
      refine z_ldc hx dX11_there_20 kX11_78 ?_
      exact z_iret hx hF dX11_there_22 rfl rfl ⟨by unfold aThere; first | rw [zII_f zc4] | rw [zII_t zc4, zII_f (c := inR 0 60 w) zc17] | rw [zII_t zc4, zII_t ⟨ze, Nat.zero_le _, zhe, rfl⟩, zNat_nI (by omega), hq9.1] | exact zzz_open, _, _, _, rfl⟩
  · skip
    refine z_ldc hx dX11_there_7 kX11_147 ?_
    exact z_iret hx hF dX11_there_9 rfl rfl ⟨by unfold aThere; first | rw [zII_f zc4] | rw [zII_t zc4, zII_f (c := inR 0 60 w) zc17] | rw [zII_t zc4, zII_t ⟨ze, Nat.zero_le _, zhe, rfl⟩, zNat_nI (by omega), hq9.1] | exact zzz_open, _, _, _, rfl⟩

set_option maxHeartbeats 4000000 in
set_option maxRecDepth 100000 in
theorem qX11_when (r : zRw) (t : zTp) (L : zL) (cr ho : Nat → Nat) (P : zL) (pr po : Nat → Nat) (i : zLk × zLk) (y : zPy) (a : zAs) (f : Nat × Nat) (hw : zWf L) (hm : lM L ≤ 1000) (v : Int32) : zMi mX11_when 6 ([.ref 0, .int v]) (hC (r, t, (L, cr, ho), (P, pr, po), i, y, a, f)) (fun z u => z = aWhen L v ∧ hCx r t L i y a f u) := by
  refine zMi.of (by decide) (Nat.le_of_ble_eq_true rfl) (fun x hx hF => ?_)
  obtain ⟨w1, w2, w3, w4, w5⟩ := id hw
  refine z_aload_n hx dX11_when_0 rfl ?_
  refine z_iload_n hx dX11_when_1 rfl ?_
  refine z_callivF hx (qX11_isPerson r t (P, pr, po) i y a f L cr ho hw _) dX11_when_2 sX11_161 hC_0 rfl rfl rfl (Nat.le_of_ble_eq_true rfl) rfl (Nat.le_of_ble_eq_true rfl) (by decide) ?_
  first | refine z_if_neB (tgt := 11) hx dX11_when_5 (by decide) (fun zc5 => ?_) (fun zc5 => ?_) | refine z_if_neN (tgt := 11) hx dX11_when_5 (by decide) (by omega) (fun zc5 => ?_) (fun zc5 => ?_) | refine z_if_ne (tgt := 11) hx dX11_when_5 (by decide) (fun zc5 => ?_) (fun zc5 => ?_)
  · skip
    obtain ⟨zj, zhj, rfl⟩ := zc5
    have h2 : 2 ^ zj ≤ 2 ^ 5 := Nat.pow_le_pow_right (by decide) (by omega)
    refine z_aload_n hx dX11_when_11 rfl ?_
    refine z_get hx dX11_when_12 fX11_49 hC_0 rfl ?_
    refine z_aload_n hx dX11_when_15 rfl ?_
    refine z_get hx dX11_when_16 fX11_45 hC_0 rfl ?_
    refine z_callvvE hx gPL (qX4_become P pr po L cr ho) dX11_when_19 sX11_133 rfl rfl sub_PL rfl rfl (by decide) (by decide) rfl (Nat.le_of_ble_eq_true rfl) (by decide) ?_
    refine z_heap pt_PL ?_
    refine z_aload_n hx dX11_when_22 rfl ?_
    refine z_iconst (v := nI 1) hx dX11_when_23 (by decide) ?_
    refine z_iload_n hx dX11_when_24 rfl ?_
    first | refine z_ishl1 hx dX11_when_25 (by omega) ?_ | refine z_ishlN hx dX11_when_25 (by omega) ?_ | refine z_ishl hx dX11_when_25 ?_
    refine z_iconst (v := nI 0) hx dX11_when_26 (by decide) ?_
    refine z_bipush (v := nI 60) hx dX11_when_27 (by decide) ?_
    refine z_callivG hx (qX11_playTill r t (L, cr, ho) i y a f L pr po hw hm (2 ^ zj) 0 60 (by omega) (by omega) (by omega)) dX11_when_29 sX11_206 hC_0 rfl rfl rfl (Nat.le_of_ble_eq_true rfl) rfl (Nat.le_of_ble_eq_true rfl) (by decide) (fun r29 u29 l29 q29 => ?_)
    obtain ⟨rfl, p9, rfl⟩ := q29
    exact z_iret hx hF dX11_when_32 rfl rfl ⟨by unfold aWhen; first | rw [zII_f (c := inP (lP L) v) zc5] | rw [zII_t ⟨zj, zhj, rfl⟩, zNat_nI (by omega)] | exact zzz_open, _, _, _, rfl⟩
  · skip
    refine z_ldc hx dX11_when_8 kX11_78 ?_
    exact z_iret hx hF dX11_when_10 rfl rfl ⟨by unfold aWhen; first | rw [zII_f (c := inP (lP L) v) zc5] | rw [zII_t ⟨zj, zhj, rfl⟩, zNat_nI (by omega)] | exact zzz_open, _, _, _, rfl⟩

set_option maxHeartbeats 4000000 in
set_option maxRecDepth 100000 in
theorem qX11_all (r : zRw) (t : zTp) (L : zL) (cr ho : Nat → Nat) (P : zL) (pr po : Nat → Nat) (i : zLk × zLk) (y : zPy) (a : zAs) (f : Nat × Nat) (hw : zWf L) (hm : lM L ≤ 1000)  : zMi mX11_all 6 ([.ref 0]) (hC (r, t, (L, cr, ho), (P, pr, po), i, y, a, f)) (fun z u => z = aAll L ∧ hCx r t L i y a f u) := by
  refine zMi.of (by decide) (Nat.le_of_ble_eq_true rfl) (fun x hx hF => ?_)
  obtain ⟨w1, w2, w3, w4, w5⟩ := id hw
  have h2 : 2 ^ lP L ≤ 2 ^ 6 := Nat.pow_le_pow_right (by decide) w3
  refine z_aload_n hx dX11_all_0 rfl ?_
  refine z_callivF hx (qX11_hasLine r t (P, pr, po) i y a f L cr ho hw) dX11_all_1 sX11_143 hC_0 rfl rfl rfl (Nat.le_of_ble_eq_true rfl) rfl (Nat.le_of_ble_eq_true rfl) (by decide) ?_
  first | refine z_if_neB (tgt := 10) hx dX11_all_4 (by decide) (fun zc4 => ?_) (fun zc4 => ?_) | refine z_if_neN (tgt := 10) hx dX11_all_4 (by decide) (by omega) (fun zc4 => ?_) (fun zc4 => ?_) | refine z_if_ne (tgt := 10) hx dX11_all_4 (by decide) (fun zc4 => ?_) (fun zc4 => ?_)
  · skip
    refine z_aload_n hx dX11_all_10 rfl ?_
    refine z_get hx dX11_all_11 fX11_49 hC_0 rfl ?_
    refine z_aload_n hx dX11_all_14 rfl ?_
    refine z_get hx dX11_all_15 fX11_45 hC_0 rfl ?_
    refine z_callvvE hx gPL (qX4_become P pr po L cr ho) dX11_all_18 sX11_133 rfl rfl sub_PL rfl rfl (by decide) (by decide) rfl (Nat.le_of_ble_eq_true rfl) (by decide) ?_
    refine z_heap pt_PL ?_
    refine z_aload_n hx dX11_all_21 rfl ?_
    refine z_aload_n hx dX11_all_22 rfl ?_
    refine z_get hx dX11_all_23 fX11_45 hC_0 rfl ?_
    refine z_callivP hx gLn (qX4_everybody L cr ho hw) dX11_all_26 sX11_209 rfl rfl (sub_Ln _ _ _ _ _ _ _ _ _ _) rfl rfl (by decide) (by decide) rfl (Nat.le_of_ble_eq_true rfl) (by decide) ?_
    refine z_iconst (v := nI 0) hx dX11_all_29 (by decide) ?_
    refine z_bipush (v := nI 60) hx dX11_all_30 (by decide) ?_
    refine z_callivG hx (qX11_playTill r t (L, cr, ho) i y a f L pr po hw hm (2 ^ lP L - 1) 0 60 (by omega) (by omega) (by omega)) dX11_all_32 sX11_206 hC_0 rfl rfl rfl (Nat.le_of_ble_eq_true rfl) rfl (Nat.le_of_ble_eq_true rfl) (by decide) (fun r32 u32 l32 q32 => ?_)
    obtain ⟨rfl, p9, rfl⟩ := q32
    exact z_iret hx hF dX11_all_35 rfl rfl ⟨by unfold aAll; first | rw [zII_f zc4] | rw [zII_t zc4] | exact zzz_open, _, _, _, rfl⟩
  · skip
    refine z_ldc hx dX11_all_7 kX11_147 ?_
    exact z_iret hx hF dX11_all_9 rfl rfl ⟨by unfold aAll; first | rw [zII_f zc4] | rw [zII_t zc4] | exact zzz_open, _, _, _, rfl⟩

set_option maxHeartbeats 4000000 in
set_option maxRecDepth 100000 in
theorem qX11_never (r : zRw) (t : zTp) (L : zL) (cr ho : Nat → Nat) (P : zL) (pr po : Nat → Nat) (i : zLk × zLk) (y : zPy) (a : zAs) (f : Nat × Nat) (hw : zWf L) (hm : lM L ≤ 1000)  : zMi mX11_never 6 ([.ref 0]) (hC (r, t, (L, cr, ho), (P, pr, po), i, y, a, f)) (fun z u => z = aNever L ∧ hCx r t L i y a f u) := by
  refine zMi.of (by decide) (Nat.le_of_ble_eq_true rfl) (fun x hx hF => ?_)
  obtain ⟨w1, w2, w3, w4, w5⟩ := id hw
  have h2 : 2 ^ lP L ≤ 2 ^ 6 := Nat.pow_le_pow_right (by decide) w3
  have h3 := zTh_lt (zIt L 0 60) (lP L)
  have hq9 := zIt_P L 0 60
  refine z_aload_n hx dX11_never_0 rfl ?_
  refine z_callivF hx (qX11_hasLine r t (P, pr, po) i y a f L cr ho hw) dX11_never_1 sX11_143 hC_0 rfl rfl rfl (Nat.le_of_ble_eq_true rfl) rfl (Nat.le_of_ble_eq_true rfl) (by decide) ?_
  first | refine z_if_neB (tgt := 10) hx dX11_never_4 (by decide) (fun zc4 => ?_) (fun zc4 => ?_) | refine z_if_neN (tgt := 10) hx dX11_never_4 (by decide) (by omega) (fun zc4 => ?_) (fun zc4 => ?_) | refine z_if_ne (tgt := 10) hx dX11_never_4 (by decide) (fun zc4 => ?_) (fun zc4 => ?_)
  · skip
    refine z_aload_n hx dX11_never_10 rfl ?_
    refine z_bipush (v := nI 60) hx dX11_never_11 (by decide) ?_
    refine z_callvvG hx (qX11_playFor r t i y a f L cr ho P pr po hw hm 60 (by omega)) dX11_never_13 sX11_199 hC_0 rfl rfl rfl (Nat.le_of_ble_eq_true rfl) rfl (Nat.le_of_ble_eq_true rfl) (by decide) (fun u13 l13 q13 => ?_)
    obtain ⟨pr9, po9, rfl⟩ := q13
    refine z_aload_n hx dX11_never_16 rfl ?_
    refine z_get hx dX11_never_17 fX11_45 hC_0 rfl ?_
    refine z_callivP hx gLn (qX4_everybody L cr ho hw) dX11_never_20 sX11_209 rfl rfl (sub_Ln _ _ _ _ _ _ _ _ _ _) rfl rfl (by decide) (by decide) rfl (Nat.le_of_ble_eq_true rfl) (by decide) ?_
    refine z_aload_n hx dX11_never_23 rfl ?_
    refine z_get hx dX11_never_24 fX11_49 hC_0 rfl ?_
    refine z_callivP hx gPl (qX4_thereBits (zIt L 0 60) pr9 po9 (zWf_it hw 0 60 (by omega))) dX11_never_27 sX11_157 rfl rfl (sub_Pl _ _ _ _ _ _ _ _ _ _) rfl rfl (by decide) (by decide) rfl (Nat.le_of_ble_eq_true rfl) (by decide) ?_
    refine z_iconst (v := -1) hx dX11_never_30 (by decide) ?_
    refine z_ixor hx dX11_never_31 ?_
    refine z_iand hx dX11_never_32 ?_
    exact z_iret hx hF dX11_never_33 rfl rfl ⟨by unfold aNever; first | rw [zII_f zc4] | rw [zII_t zc4, hq9.1, znot (lP L) (by omega) _ (by omega) h3] | exact zzz_open, _, _, _, rfl⟩
  · skip
    refine z_ldc hx dX11_never_7 kX11_147 ?_
    exact z_iret hx hF dX11_never_9 rfl rfl ⟨by unfold aNever; first | rw [zII_f zc4] | rw [zII_t zc4, hq9.1, znot (lP L) (by omega) _ (by omega) h3] | exact zzz_open, _, _, _, rfl⟩

set_option maxHeartbeats 4000000 in
set_option maxRecDepth 100000 in
theorem qX11_holding (r : zRw) (t : zTp) (L : zL) (cr ho : Nat → Nat) (P : zL) (pr po : Nat → Nat) (i : zLk × zLk) (y : zPy) (a : zAs) (f : Nat × Nat) (hw : zWf L) (hm : lM L ≤ 1000)  : zMi mX11_holding 5 ([.ref 0]) (hC (r, t, (L, cr, ho), (P, pr, po), i, y, a, f)) (fun z u => z = aHold L ∧ hCx r t L i y a f u) := by
  refine zMi.of (by decide) (Nat.le_of_ble_eq_true rfl) (fun x hx hF => ?_)
  obtain ⟨w1, w2, w3, w4, w5⟩ := id hw
  refine z_aload_n hx dX11_holding_0 rfl ?_
  refine z_callivF hx (qX11_hasLine r t (P, pr, po) i y a f L cr ho hw) dX11_holding_1 sX11_143 hC_0 rfl rfl rfl (Nat.le_of_ble_eq_true rfl) rfl (Nat.le_of_ble_eq_true rfl) (by decide) ?_
  first | refine z_if_neB (tgt := 10) hx dX11_holding_4 (by decide) (fun zc4 => ?_) (fun zc4 => ?_) | refine z_if_neN (tgt := 10) hx dX11_holding_4 (by decide) (by omega) (fun zc4 => ?_) (fun zc4 => ?_) | refine z_if_ne (tgt := 10) hx dX11_holding_4 (by decide) (fun zc4 => ?_) (fun zc4 => ?_)
  · skip
    refine z_aload_n hx dX11_holding_10 rfl ?_
    refine z_get hx dX11_holding_11 fX11_45 hC_0 rfl ?_
    refine z_callivE hx gLn (qX4_holdingBits L cr ho hw) dX11_holding_14 sX11_212 rfl rfl (sub_Ln _ _ _ _ _ _ _ _ _ _) rfl rfl (by decide) (by decide) rfl (Nat.le_of_ble_eq_true rfl) (by decide) ?_
    refine z_heap (pt_Ln _ _ _ _ _ _ _ _ _ _ _) ?_
    exact z_iret hx hF dX11_holding_17 rfl rfl ⟨by unfold aHold; first | rw [zII_f zc4] | rw [zII_t zc4] | exact zzz_open, _, _, _, rfl⟩
  · skip
    refine z_ldc hx dX11_holding_7 kX11_147 ?_
    exact z_iret hx hF dX11_holding_9 rfl rfl ⟨by unfold aHold; first | rw [zII_f zc4] | rw [zII_t zc4] | exact zzz_open, _, _, _, rfl⟩

set_option maxHeartbeats 4000000 in
set_option maxRecDepth 100000 in
theorem qX11_kind (r : zRw) (t : zTp) (L : zL) (cr ho : Nat → Nat) (P : zL) (pr po : Nat → Nat) (i : zLk × zLk) (y : zPy) (a : zAs) (f : Nat × Nat) (hw : zWf L) (hm : lM L ≤ 1000) (v : Int32) : zMi mX11_kind 2 ([.ref 0, .int v]) (hC (r, t, (L, cr, ho), (P, pr, po), i, y, a, f)) (fun z u => z = aKind L v ∧ hCx r t L i y a f u) := by
  refine zMi.of (by decide) (Nat.le_of_ble_eq_true rfl) (fun x hx hF => ?_)
  obtain ⟨w1, w2, w3, w4, w5⟩ := id hw
  refine z_aload_n hx dX11_kind_0 rfl ?_
  refine z_iload_n hx dX11_kind_1 rfl ?_
  refine z_callivF hx (qX11_isPerson r t (P, pr, po) i y a f L cr ho hw _) dX11_kind_2 sX11_161 hC_0 rfl rfl rfl (Nat.le_of_ble_eq_true rfl) rfl (Nat.le_of_ble_eq_true rfl) (by decide) ?_
  first | refine z_if_neB (tgt := 11) hx dX11_kind_5 (by decide) (fun zc5 => ?_) (fun zc5 => ?_) | refine z_if_neN (tgt := 11) hx dX11_kind_5 (by decide) (by omega) (fun zc5 => ?_) (fun zc5 => ?_) | refine z_if_ne (tgt := 11) hx dX11_kind_5 (by decide) (fun zc5 => ?_) (fun zc5 => ?_)
  · skip
    obtain ⟨zj, zhj, rfl⟩ := zc5
    refine z_aload_n hx dX11_kind_11 rfl ?_
    refine z_get hx dX11_kind_12 fX11_45 hC_0 rfl ?_
    refine z_get hx dX11_kind_15 fX11_253 hC_15 rfl ?_
    refine z_iload_n hx dX11_kind_18 rfl ?_
    refine z_ialdJ hx dX11_kind_19 hC_16 (by decide) (by omega) ?_
    exact z_iret hx hF dX11_kind_20 rfl rfl ⟨by unfold aKind; first | rw [zII_f (c := inP (lP L) v) zc5] | rw [zII_t ⟨zj, zhj, rfl⟩, zNat_nI (by omega)] | exact zzz_open, _, _, _, rfl⟩
  · skip
    refine z_ldc hx dX11_kind_8 kX11_78 ?_
    exact z_iret hx hF dX11_kind_10 rfl rfl ⟨by unfold aKind; first | rw [zII_f (c := inP (lP L) v) zc5] | rw [zII_t ⟨zj, zhj, rfl⟩, zNat_nI (by omega)] | exact zzz_open, _, _, _, rfl⟩

set_option maxHeartbeats 4000000 in
set_option maxRecDepth 100000 in
theorem qX11_stop (r : zRw) (t : zTp) (L : zL) (cr ho : Nat → Nat) (P : zL) (pr po : Nat → Nat) (i : zLk × zLk) (y : zPy) (a : zAs) (f : Nat × Nat) (hw : zWf L) (hm : lM L ≤ 1000) (v w : Int32) : zMi mX11_stop 5 ([.ref 0, .int v, .int w]) (hC (r, t, (L, cr, ho), (P, pr, po), i, y, a, f)) (fun z u => z = aStop L v w ∧ hCx r t L i y a f u) := by
  refine zMi.of (by decide) (Nat.le_of_ble_eq_true rfl) (fun x hx hF => ?_)
  obtain ⟨w1, w2, w3, w4, w5⟩ := id hw
  refine z_aload_n hx dX11_stop_0 rfl ?_
  refine z_iload_n hx dX11_stop_1 rfl ?_
  refine z_callivF hx (qX11_isStop r t (P, pr, po) i y a f L cr ho hw _) dX11_stop_2 sX11_168 hC_0 rfl rfl rfl (Nat.le_of_ble_eq_true rfl) rfl (Nat.le_of_ble_eq_true rfl) (by decide) ?_
  first | refine z_if_eqB (tgt := 17) hx dX11_stop_5 (by decide) (fun zc5 => ?_) (fun zc5 => ?_) | refine z_if_eqN (tgt := 17) hx dX11_stop_5 (by decide) (by omega) (fun zc5 => ?_) (fun zc5 => ?_) | refine z_if_eq (tgt := 17) hx dX11_stop_5 (by decide) (fun zc5 => ?_) (fun zc5 => ?_)
  · skip
    refine z_ldc hx dX11_stop_17 kX11_78 ?_
    exact z_iret hx hF dX11_stop_19 rfl rfl ⟨by unfold aStop; first | rw [zII_f (fun h => zc5 h.1)] | rw [zII_f (fun h => zc14 h.2)] | rw [zII_t ⟨⟨zj, zhj, rfl⟩, ⟨ze, Nat.zero_le _, zhe, rfl⟩⟩, zNat_nI (by omega), if_pos (by rw [show ze = 0 by omega])] | rw [zII_t ⟨⟨zj, zhj, rfl⟩, ⟨ze, Nat.zero_le _, zhe, rfl⟩⟩, zNat_nI (by omega), if_neg (fun h => by have := (nI_eq (by omega) (by omega)).mp h; omega)] | exact zzz_open, _, _, _, rfl⟩
  · skip
    obtain ⟨zj, zhj, rfl⟩ := zc5
    refine z_iload_n hx dX11_stop_8 rfl ?_
    refine z_iconst (v := nI 0) hx dX11_stop_9 (by decide) ?_
    refine z_iconst (v := nI 1) hx dX11_stop_10 (by decide) ?_
    refine z_callisP hx [] (qX11_isWithinN _ _ _ (by decide)) dX11_stop_11 sX11_74 rfl rfl rfl (by decide) (by decide) rfl (Nat.le_of_ble_eq_true rfl) (by decide) ?_
    first | refine z_if_neB (tgt := 20) hx dX11_stop_14 (by decide) (fun zc14 => ?_) (fun zc14 => ?_) | refine z_if_neN (tgt := 20) hx dX11_stop_14 (by decide) (by omega) (fun zc14 => ?_) (fun zc14 => ?_) | refine z_if_ne (tgt := 20) hx dX11_stop_14 (by decide) (fun zc14 => ?_) (fun zc14 => ?_)
    · skip
      obtain ⟨ze, -, zhe, rfl⟩ := zc14
      refine z_iload_n hx dX11_stop_20 rfl ?_
      first | refine z_if_neB (tgt := 35) hx dX11_stop_21 (by decide) (fun zc21 => ?_) (fun zc21 => ?_) | refine z_if_neN (tgt := 35) hx dX11_stop_21 (by decide) (by omega) (fun zc21 => ?_) (fun zc21 => ?_) | refine z_if_ne (tgt := 35) hx dX11_stop_21 (by decide) (fun zc21 => ?_) (fun zc21 => ?_)
      · skip
        refine z_aload_n hx dX11_stop_35 rfl ?_
        refine z_get hx dX11_stop_36 fX11_45 hC_0 rfl ?_
        refine z_iload_n hx dX11_stop_39 rfl ?_
        refine z_callivP hx gLn (qX4_whoIsAt L cr ho hw zj (by omega)) dX11_stop_40 sX11_196 rfl rfl (sub_Ln _ _ _ _ _ _ _ _ _ _) rfl rfl (by decide) (by decide) rfl (Nat.le_of_ble_eq_true rfl) (by decide) ?_
        exact z_iret hx hF dX11_stop_43 rfl rfl ⟨by unfold aStop; first | rw [zII_f (fun h => zc5 h.1)] | rw [zII_f (fun h => zc14 h.2)] | rw [zII_t ⟨⟨zj, zhj, rfl⟩, ⟨ze, Nat.zero_le _, zhe, rfl⟩⟩, zNat_nI (by omega), if_pos (by rw [show ze = 0 by omega])] | rw [zII_t ⟨⟨zj, zhj, rfl⟩, ⟨ze, Nat.zero_le _, zhe, rfl⟩⟩, zNat_nI (by omega), if_neg (fun h => by have := (nI_eq (by omega) (by omega)).mp h; omega)] | exact zzz_open, _, _, _, rfl⟩
      · skip
        refine z_aload_n hx dX11_stop_24 rfl ?_
        refine z_get hx dX11_stop_25 fX11_45 hC_0 rfl ?_
        refine z_iload_n hx dX11_stop_28 rfl ?_
        refine z_callivE hx gLn (qX4_hopeAt L cr ho hw zj (by omega)) dX11_stop_29 sX11_193 rfl rfl (sub_Ln _ _ _ _ _ _ _ _ _ _) rfl rfl (by decide) (by decide) rfl (Nat.le_of_ble_eq_true rfl) (by decide) ?_
        refine z_heap (pt_Ln _ _ _ _ _ _ _ _ _ _ _) ?_
        refine z_goto (tgt := 43) hx dX11_stop_32 (by decide) ?_
        exact z_iret hx hF dX11_stop_43 rfl rfl ⟨by unfold aStop; first | rw [zII_f (fun h => zc5 h.1)] | rw [zII_f (fun h => zc14 h.2)] | rw [zII_t ⟨⟨zj, zhj, rfl⟩, ⟨ze, Nat.zero_le _, zhe, rfl⟩⟩, zNat_nI (by omega), if_pos (by rw [show ze = 0 by omega])] | rw [zII_t ⟨⟨zj, zhj, rfl⟩, ⟨ze, Nat.zero_le _, zhe, rfl⟩⟩, zNat_nI (by omega), if_neg (fun h => by have := (nI_eq (by omega) (by omega)).mp h; omega)] | exact zzz_open, _, _, _, rfl⟩
    · skip
      refine z_ldc hx dX11_stop_17 kX11_78 ?_
      exact z_iret hx hF dX11_stop_19 rfl rfl ⟨by unfold aStop; first | rw [zII_f (fun h => zc5 h.1)] | rw [zII_f (fun h => zc14 h.2)] | rw [zII_t ⟨⟨zj, zhj, rfl⟩, ⟨ze, Nat.zero_le _, zhe, rfl⟩⟩, zNat_nI (by omega), if_pos (by rw [show ze = 0 by omega])] | rw [zII_t ⟨⟨zj, zhj, rfl⟩, ⟨ze, Nat.zero_le _, zhe, rfl⟩⟩, zNat_nI (by omega), if_neg (fun h => by have := (nI_eq (by omega) (by omega)).mp h; omega)] | exact zzz_open, _, _, _, rfl⟩

theorem zsw4 (w : Int32) : w = nI 0 ∨ w = nI 1 ∨ w = nI 2 ∨ w = nI 3 ∨ w = nI 4 ∨ (¬ inR 0 4 w ∧ (w.toInt < 0 ∨ 4 < w.toInt)) := by
  by_cases h : inR 0 4 w
  · obtain ⟨k, -, hk, rfl⟩ := h
    rcases (show k = 0 ∨ k = 1 ∨ k = 2 ∨ k = 3 ∨ k = 4 by omega) with rfl | rfl | rfl | rfl | rfl
    · exact Or.inl rfl
    · exact Or.inr (Or.inl rfl)
    · exact Or.inr (Or.inr (Or.inl rfl))
    · exact Or.inr (Or.inr (Or.inr (Or.inl rfl)))
    · exact Or.inr (Or.inr (Or.inr (Or.inr (Or.inl rfl))))
  · refine Or.inr (Or.inr (Or.inr (Or.inr (Or.inr ⟨h, ?_⟩))))
    have h2 : ¬ (nI 0 ≤ w ∧ w ≤ nI 4) := fun q => h ((zinN2 (by decide) (by decide)).mp q)
    rw [Int32.le_iff_toInt_le, Int32.le_iff_toInt_le, nI_toInt (by decide), nI_toInt (by decide)] at h2
    omega
set_option maxHeartbeats 4000000 in
set_option maxRecDepth 100000 in
theorem qX11_person (r : zRw) (t : zTp) (L : zL) (cr ho : Nat → Nat) (P : zL) (pr po : Nat → Nat) (i : zLk × zLk) (y : zPy) (a : zAs) (f : Nat × Nat) (hw : zWf L) (hm : lM L ≤ 1000) (v w : Int32) : zMi mX11_person 3 ([.ref 0, .int v, .int w]) (hC (r, t, (L, cr, ho), (P, pr, po), i, y, a, f)) (fun z u => z = aPerson L v w ∧ hCx r t L i y a f u) := by
  refine zMi.of (by decide) (Nat.le_of_ble_eq_true rfl) (fun x hx hF => ?_)
  obtain ⟨w1, w2, w3, w4, w5⟩ := id hw
  refine z_aload_n hx dX11_person_0 rfl ?_
  refine z_iload_n hx dX11_person_1 rfl ?_
  refine z_callivF hx (qX11_isPerson r t (P, pr, po) i y a f L cr ho hw _) dX11_person_2 sX11_161 hC_0 rfl rfl rfl (Nat.le_of_ble_eq_true rfl) rfl (Nat.le_of_ble_eq_true rfl) (by decide) ?_
  first | refine z_if_neB (tgt := 11) hx dX11_person_5 (by decide) (fun zc5 => ?_) (fun zc5 => ?_) | refine z_if_neN (tgt := 11) hx dX11_person_5 (by decide) (by omega) (fun zc5 => ?_) (fun zc5 => ?_) | refine z_if_ne (tgt := 11) hx dX11_person_5 (by decide) (fun zc5 => ?_) (fun zc5 => ?_)
  · skip
    obtain ⟨zj, zhj, rfl⟩ := zc5
    have w6 := w5 zj zhj
    refine z_iload_n hx dX11_person_11 rfl ?_
    rcases zsw4 w with rfl | rfl | rfl | rfl | rfl | zsn
    · skip
      refine z_tableIn (off := 36) (tgt := 48) hx dX11_person_12 (by decide) (by decide) rfl (by decide) ?_
      refine z_aload_n hx dX11_person_48 rfl ?_
      refine z_get hx dX11_person_49 fX11_45 hC_0 rfl ?_
      refine z_get hx dX11_person_52 fX11_164 hC_15 rfl ?_
      refine z_iload_n hx dX11_person_55 rfl ?_
      refine z_ialdJ hx dX11_person_56 hC_17 (by decide) (by omega) ?_
      exact z_iret hx hF dX11_person_57 rfl rfl ⟨by unfold aPerson; first | rw [zII_f (fun h => zc5 h.1)] | rw [zII_f (fun h => zsn.1 h.2)] | (rw [zII_t ⟨⟨zj, zhj, rfl⟩, ⟨0, by decide, by decide, rfl⟩⟩, zNat_nI (by omega)]; rfl) | (rw [zII_t ⟨⟨zj, zhj, rfl⟩, ⟨1, by decide, by decide, rfl⟩⟩, zNat_nI (by omega)]; rfl) | (rw [zII_t ⟨⟨zj, zhj, rfl⟩, ⟨2, by decide, by decide, rfl⟩⟩, zNat_nI (by omega)]; rfl) | (rw [zII_t ⟨⟨zj, zhj, rfl⟩, ⟨3, by decide, by decide, rfl⟩⟩, zNat_nI (by omega)]; rfl) | (rw [zII_t ⟨⟨zj, zhj, rfl⟩, ⟨4, by decide, by decide, rfl⟩⟩, zNat_nI (by omega)]; rfl) | exact zzz_open, _, _, _, rfl⟩
    · skip
      refine z_tableIn (off := 46) (tgt := 58) hx dX11_person_12 (by decide) (by decide) rfl (by decide) ?_
      refine z_aload_n hx dX11_person_58 rfl ?_
      refine z_get hx dX11_person_59 fX11_45 hC_0 rfl ?_
      refine z_get hx dX11_person_62 fX11_175 hC_15 rfl ?_
      refine z_iload_n hx dX11_person_65 rfl ?_
      refine z_ialdJ hx dX11_person_66 hC_18 (by decide) (by omega) ?_
      exact z_iret hx hF dX11_person_67 rfl rfl ⟨by unfold aPerson; first | rw [zII_f (fun h => zc5 h.1)] | rw [zII_f (fun h => zsn.1 h.2)] | (rw [zII_t ⟨⟨zj, zhj, rfl⟩, ⟨0, by decide, by decide, rfl⟩⟩, zNat_nI (by omega)]; rfl) | (rw [zII_t ⟨⟨zj, zhj, rfl⟩, ⟨1, by decide, by decide, rfl⟩⟩, zNat_nI (by omega)]; rfl) | (rw [zII_t ⟨⟨zj, zhj, rfl⟩, ⟨2, by decide, by decide, rfl⟩⟩, zNat_nI (by omega)]; rfl) | (rw [zII_t ⟨⟨zj, zhj, rfl⟩, ⟨3, by decide, by decide, rfl⟩⟩, zNat_nI (by omega)]; rfl) | (rw [zII_t ⟨⟨zj, zhj, rfl⟩, ⟨4, by decide, by decide, rfl⟩⟩, zNat_nI (by omega)]; rfl) | exact zzz_open, _, _, _, rfl⟩
    · skip
      refine z_tableIn (off := 56) (tgt := 68) hx dX11_person_12 (by decide) (by decide) rfl (by decide) ?_
      refine z_aload_n hx dX11_person_68 rfl ?_
      refine z_get hx dX11_person_69 fX11_45 hC_0 rfl ?_
      refine z_get hx dX11_person_72 fX11_178 hC_15 rfl ?_
      refine z_iload_n hx dX11_person_75 rfl ?_
      refine z_ialdJ hx dX11_person_76 hC_19 (by decide) (by omega) ?_
      exact z_iret hx hF dX11_person_77 rfl rfl ⟨by unfold aPerson; first | rw [zII_f (fun h => zc5 h.1)] | rw [zII_f (fun h => zsn.1 h.2)] | (rw [zII_t ⟨⟨zj, zhj, rfl⟩, ⟨0, by decide, by decide, rfl⟩⟩, zNat_nI (by omega)]; rfl) | (rw [zII_t ⟨⟨zj, zhj, rfl⟩, ⟨1, by decide, by decide, rfl⟩⟩, zNat_nI (by omega)]; rfl) | (rw [zII_t ⟨⟨zj, zhj, rfl⟩, ⟨2, by decide, by decide, rfl⟩⟩, zNat_nI (by omega)]; rfl) | (rw [zII_t ⟨⟨zj, zhj, rfl⟩, ⟨3, by decide, by decide, rfl⟩⟩, zNat_nI (by omega)]; rfl) | (rw [zII_t ⟨⟨zj, zhj, rfl⟩, ⟨4, by decide, by decide, rfl⟩⟩, zNat_nI (by omega)]; rfl) | exact zzz_open, _, _, _, rfl⟩
    · skip
      refine z_tableIn (off := 66) (tgt := 78) hx dX11_person_12 (by decide) (by decide) rfl (by decide) ?_
      refine z_aload_n hx dX11_person_78 rfl ?_
      refine z_get hx dX11_person_79 fX11_45 hC_0 rfl ?_
      refine z_get hx dX11_person_82 fX11_187 hC_15 rfl ?_
      refine z_iload_n hx dX11_person_85 rfl ?_
      refine z_ialdJ hx dX11_person_86 hC_20 (by decide) (by omega) ?_
      exact z_iret hx hF dX11_person_87 rfl rfl ⟨by unfold aPerson; first | rw [zII_f (fun h => zc5 h.1)] | rw [zII_f (fun h => zsn.1 h.2)] | (rw [zII_t ⟨⟨zj, zhj, rfl⟩, ⟨0, by decide, by decide, rfl⟩⟩, zNat_nI (by omega)]; rfl) | (rw [zII_t ⟨⟨zj, zhj, rfl⟩, ⟨1, by decide, by decide, rfl⟩⟩, zNat_nI (by omega)]; rfl) | (rw [zII_t ⟨⟨zj, zhj, rfl⟩, ⟨2, by decide, by decide, rfl⟩⟩, zNat_nI (by omega)]; rfl) | (rw [zII_t ⟨⟨zj, zhj, rfl⟩, ⟨3, by decide, by decide, rfl⟩⟩, zNat_nI (by omega)]; rfl) | (rw [zII_t ⟨⟨zj, zhj, rfl⟩, ⟨4, by decide, by decide, rfl⟩⟩, zNat_nI (by omega)]; rfl) | exact zzz_open, _, _, _, rfl⟩
    · skip
      refine z_tableIn (off := 76) (tgt := 88) hx dX11_person_12 (by decide) (by decide) rfl (by decide) ?_
      refine z_aload_n hx dX11_person_88 rfl ?_
      refine z_get hx dX11_person_89 fX11_45 hC_0 rfl ?_
      refine z_iload_n hx dX11_person_92 rfl ?_
      refine z_callivP hx gLn (qX4_hopeOf L cr ho hw zj zhj) dX11_person_93 sX11_190 rfl rfl (sub_Ln _ _ _ _ _ _ _ _ _ _) rfl rfl (by decide) (by decide) rfl (Nat.le_of_ble_eq_true rfl) (by decide) ?_
      exact z_iret hx hF dX11_person_96 rfl rfl ⟨by unfold aPerson; first | rw [zII_f (fun h => zc5 h.1)] | rw [zII_f (fun h => zsn.1 h.2)] | (rw [zII_t ⟨⟨zj, zhj, rfl⟩, ⟨0, by decide, by decide, rfl⟩⟩, zNat_nI (by omega)]; rfl) | (rw [zII_t ⟨⟨zj, zhj, rfl⟩, ⟨1, by decide, by decide, rfl⟩⟩, zNat_nI (by omega)]; rfl) | (rw [zII_t ⟨⟨zj, zhj, rfl⟩, ⟨2, by decide, by decide, rfl⟩⟩, zNat_nI (by omega)]; rfl) | (rw [zII_t ⟨⟨zj, zhj, rfl⟩, ⟨3, by decide, by decide, rfl⟩⟩, zNat_nI (by omega)]; rfl) | (rw [zII_t ⟨⟨zj, zhj, rfl⟩, ⟨4, by decide, by decide, rfl⟩⟩, zNat_nI (by omega)]; rfl) | exact zzz_open, _, _, _, rfl⟩
    · skip
      refine z_tableOut (tgt := 97) hx dX11_person_12 zsn.2 (by decide) ?_
      refine z_ldc hx dX11_person_97 kX11_78 ?_
      exact z_iret hx hF dX11_person_99 rfl rfl ⟨by unfold aPerson; first | rw [zII_f (fun h => zc5 h.1)] | rw [zII_f (fun h => zsn.1 h.2)] | (rw [zII_t ⟨⟨zj, zhj, rfl⟩, ⟨0, by decide, by decide, rfl⟩⟩, zNat_nI (by omega)]; rfl) | (rw [zII_t ⟨⟨zj, zhj, rfl⟩, ⟨1, by decide, by decide, rfl⟩⟩, zNat_nI (by omega)]; rfl) | (rw [zII_t ⟨⟨zj, zhj, rfl⟩, ⟨2, by decide, by decide, rfl⟩⟩, zNat_nI (by omega)]; rfl) | (rw [zII_t ⟨⟨zj, zhj, rfl⟩, ⟨3, by decide, by decide, rfl⟩⟩, zNat_nI (by omega)]; rfl) | (rw [zII_t ⟨⟨zj, zhj, rfl⟩, ⟨4, by decide, by decide, rfl⟩⟩, zNat_nI (by omega)]; rfl) | exact zzz_open, _, _, _, rfl⟩
  · skip
    refine z_ldc hx dX11_person_8 kX11_78 ?_
    exact z_iret hx hF dX11_person_10 rfl rfl ⟨by unfold aPerson; first | rw [zII_f (fun h => zc5 h.1)] | rw [zII_f (fun h => zsn.1 h.2)] | (rw [zII_t ⟨⟨zj, zhj, rfl⟩, ⟨0, by decide, by decide, rfl⟩⟩, zNat_nI (by omega)]; rfl) | (rw [zII_t ⟨⟨zj, zhj, rfl⟩, ⟨1, by decide, by decide, rfl⟩⟩, zNat_nI (by omega)]; rfl) | (rw [zII_t ⟨⟨zj, zhj, rfl⟩, ⟨2, by decide, by decide, rfl⟩⟩, zNat_nI (by omega)]; rfl) | (rw [zII_t ⟨⟨zj, zhj, rfl⟩, ⟨3, by decide, by decide, rfl⟩⟩, zNat_nI (by omega)]; rfl) | (rw [zII_t ⟨⟨zj, zhj, rfl⟩, ⟨4, by decide, by decide, rfl⟩⟩, zNat_nI (by omega)]; rfl) | exact zzz_open, _, _, _, rfl⟩

