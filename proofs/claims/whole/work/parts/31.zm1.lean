/-! the reference's cells -/
/-- lane, many, items, spare, status -/
abbrev zMR : Type := (Nat → Int32) × (Nat → Nat) × (Nat → Int32) × (Nat → Int32) × Nat
/-- tape, taped, faultKind, faultPlace, at, start, token, value -/
abbrev zMT : Type := (Nat → Nat) × Nat × Nat × Int32 × Nat × Nat × Nat × Int32
/-- past, acts, images, kept -/
abbrev zMY : Type := (Nat → Nat) × Nat × (Nat → Nat) × (Nat → Int32)
/-- trace, traced -/
abbrev zMA : Type := (Nat → Nat) × Nat
def hM (r : zMR) (t : zMT) (L : zL) (dr tr : Nat → Nat) (y : zMY) (a : zMA) : List zE :=
  [zO 11 [.ref 1, .ref 2, .ref 3, .ref 4, .int (nI r.2.2.2.2), .ref 5, .int (nI t.2.1), .int (nI t.2.2.1), .int t.2.2.2.1, .int (nI t.2.2.2.2.1), .int (nI t.2.2.2.2.2.1), .int (nI t.2.2.2.2.2.2.1), .int t.2.2.2.2.2.2.2, .ref 6, .ref 7, .ref 8, .ref 9, .int (nI y.2.1), .ref 10, .ref 11, .ref 12, .int (nI a.2)],
   zI 8 r.1, zN 8 r.2.1, zI 320 r.2.2.1, zI 40 r.2.2.2.1, zN 100 t.1, zN 34 (fl L), zN 34 dr, zN 34 tr, zN 816 y.1, zN 68 y.2.2.1, zZ 2 y.2.2.2, zN 16 a.1]
/-- its cells, the scratch aside -/
def hMx (r : zMR) (t : zMT) (L : zL) (y : zMY) (a : zMA) (u : List zE) : Prop := ∃ sp dr tr, u = hM (r.1, r.2.1, r.2.2.1, sp, r.2.2.2.2) t L dr tr y a
theorem hMx_i (r : zMR) (t : zMT) (L : zL) (dr tr : Nat → Nat) (y : zMY) (a : zMA) : hMx r t L y a (hM r t L dr tr y a) := ⟨r.2.2.2.1, dr, tr, rfl⟩
set_option maxHeartbeats 4000000 in
set_option maxRecDepth 100000 in
theorem qX12_isFar (v : Int32) : zMi mX12_isFar 1 ([.int v]) ([]) (fun z u => z = bP (∃ j, 0 ≤ j ∧ j ≤ 60 ∧ v = nI j) ∧ u = []) := by
  refine zMi.of (by decide) (Nat.le_of_ble_eq_true rfl) (fun x hx hF => ?_)
  refine z_iload_n hx dX12_isFar_0 rfl ?_
  refine z_iconst (v := nI 0) hx dX12_isFar_1 (by decide) ?_
  refine z_bipush (v := nI 60) hx dX12_isFar_2 (by decide) ?_
  refine z_callisP hx [] (qX12_inN _ _ _ (by decide)) dX12_isFar_4 sX12_53 rfl rfl rfl (by decide) (by decide) rfl (Nat.le_of_ble_eq_true rfl) (by decide) ?_
  exact z_zret hx hF dX12_isFar_7 rfl (by first | exact bP_nar _ | rfl) rfl ⟨rfl, rfl⟩

set_option maxHeartbeats 4000000 in
set_option maxRecDepth 100000 in
theorem qX12_isRow (v : Int32) : zMi mX12_isRow 1 ([.int v]) ([]) (fun z u => z = bP (∃ j, 0 ≤ j ∧ j ≤ 7 ∧ v = nI j) ∧ u = []) := by
  refine zMi.of (by decide) (Nat.le_of_ble_eq_true rfl) (fun x hx hF => ?_)
  refine z_iload_n hx dX12_isRow_0 rfl ?_
  refine z_iconst (v := nI 0) hx dX12_isRow_1 (by decide) ?_
  refine z_bipush (v := nI 7) hx dX12_isRow_2 (by decide) ?_
  refine z_callisP hx [] (qX12_inN _ _ _ (by decide)) dX12_isRow_4 sX12_53 rfl rfl rfl (by decide) (by decide) rfl (Nat.le_of_ble_eq_true rfl) (by decide) ?_
  exact z_zret hx hF dX12_isRow_7 rfl (by first | exact bP_nar _ | rfl) rfl ⟨rfl, rfl⟩

set_option maxHeartbeats 4000000 in
set_option maxRecDepth 100000 in
theorem qX12_isLine (r : zMR) (t : zMT) (L : zL) (dr tr : Nat → Nat) (y : zMY) (a : zMA) (hw : zWf L) : zMi mX12_isLine 1 ([.ref 0]) (hM r t L dr tr y a) (fun z u => z = bP (0 < lS L) ∧ u = hM r t L dr tr y a) := by
  refine zMi.of (by decide) (Nat.le_of_ble_eq_true rfl) (fun x hx hF => ?_)
  obtain ⟨w1, w2, w3, w4, w5⟩ := id hw
  refine z_aload_n hx dX12_isLine_0 rfl ?_
  refine z_get hx dX12_isLine_1 fX12_25 rfl rfl ?_
  refine z_iconst (v := nI 0) hx dX12_isLine_4 (by decide) ?_
  refine z_ialdJ hx dX12_isLine_5 rfl (by decide) (by omega) ?_
  first | refine z_topN (fl_A L _) ?_ | refine z_topN (fl_F L _) ?_ | refine z_topN (fl_W L _) ?_ | refine z_topN (fl_T L _) ?_ | refine z_topN (fl_K L _) ?_ | refine z_topN (fl_0 L) ?_ | refine z_topN (fl_1 L) ?_ | refine z_topN (fl_2 L) ?_ | refine z_topN (fl_3 L) ?_
  first | refine z_if_leN (tgt := 13) hx dX12_isLine_6 (by decide) (by omega) (fun zc6 => ?_) (fun zc6 => ?_) | refine z_if_le (tgt := 13) hx dX12_isLine_6 (by decide) (fun zc6 => ?_) (fun zc6 => ?_)
  · skip
    refine z_iconst (v := nI 0) hx dX12_isLine_13 (by decide) ?_
    exact z_zret hx hF dX12_isLine_14 rfl (by first | exact bP_nar _ | rfl) rfl ⟨by first | exact (bP_t (by omega)).symm | exact (bP_f (by omega)).symm, rfl⟩
  · skip
    refine z_iconst (v := nI 1) hx dX12_isLine_9 (by decide) ?_
    refine z_goto (tgt := 14) hx dX12_isLine_10 (by decide) ?_
    exact z_zret hx hF dX12_isLine_14 rfl (by first | exact bP_nar _ | rfl) rfl ⟨by first | exact (bP_t (by omega)).symm | exact (bP_f (by omega)).symm, rfl⟩

set_option maxHeartbeats 4000000 in
set_option maxRecDepth 100000 in
theorem qX12_isPerson (r : zMR) (t : zMT) (L : zL) (dr tr : Nat → Nat) (y : zMY) (a : zMA) (hw : zWf L) (v : Int32) : zMi mX12_isPerson 1 ([.ref 0, .int v]) (hM r t L dr tr y a) (fun z u => z = bP (∃ j, j < lP L ∧ v = nI j) ∧ u = hM r t L dr tr y a) := by
  refine zMi.of (by decide) (Nat.le_of_ble_eq_true rfl) (fun x hx hF => ?_)
  obtain ⟨w1, w2, w3, w4, w5⟩ := id hw
  refine z_iload_n hx dX12_isPerson_0 rfl ?_
  refine z_iconst (v := nI 0) hx dX12_isPerson_1 (by decide) ?_
  refine z_aload_n hx dX12_isPerson_2 rfl ?_
  refine z_get hx dX12_isPerson_3 fX12_25 rfl rfl ?_
  refine z_iconst (v := nI 3) hx dX12_isPerson_6 (by decide) ?_
  refine z_ialdJ hx dX12_isPerson_7 rfl (by decide) (by omega) ?_
  first | refine z_topN (fl_A L _) ?_ | refine z_topN (fl_F L _) ?_ | refine z_topN (fl_W L _) ?_ | refine z_topN (fl_T L _) ?_ | refine z_topN (fl_K L _) ?_ | refine z_topN (fl_0 L) ?_ | refine z_topN (fl_1 L) ?_ | refine z_topN (fl_2 L) ?_ | refine z_topN (fl_3 L) ?_
  refine z_iconst (v := nI 1) hx dX12_isPerson_8 (by decide) ?_
  refine z_isub hx dX12_isPerson_9 ?_
  refine z_callisP hx [] (qX12_inP _ _ (by omega)) dX12_isPerson_10 sX12_53 rfl rfl rfl (by decide) (by decide) rfl (Nat.le_of_ble_eq_true rfl) (by decide) ?_
  exact z_zret hx hF dX12_isPerson_13 rfl (by first | exact bP_nar _ | rfl) rfl ⟨rfl, rfl⟩

set_option maxHeartbeats 4000000 in
set_option maxRecDepth 100000 in
theorem qX12_isStop (r : zMR) (t : zMT) (L : zL) (dr tr : Nat → Nat) (y : zMY) (a : zMA) (hw : zWf L) (v : Int32) : zMi mX12_isStop 1 ([.ref 0, .int v]) (hM r t L dr tr y a) (fun z u => z = bP (∃ j, j < lS L ∧ v = nI j) ∧ u = hM r t L dr tr y a) := by
  refine zMi.of (by decide) (Nat.le_of_ble_eq_true rfl) (fun x hx hF => ?_)
  obtain ⟨w1, w2, w3, w4, w5⟩ := id hw
  refine z_iload_n hx dX12_isStop_0 rfl ?_
  refine z_iconst (v := nI 0) hx dX12_isStop_1 (by decide) ?_
  refine z_aload_n hx dX12_isStop_2 rfl ?_
  refine z_get hx dX12_isStop_3 fX12_25 rfl rfl ?_
  refine z_iconst (v := nI 0) hx dX12_isStop_6 (by decide) ?_
  refine z_ialdJ hx dX12_isStop_7 rfl (by decide) (by omega) ?_
  first | refine z_topN (fl_A L _) ?_ | refine z_topN (fl_F L _) ?_ | refine z_topN (fl_W L _) ?_ | refine z_topN (fl_T L _) ?_ | refine z_topN (fl_K L _) ?_ | refine z_topN (fl_0 L) ?_ | refine z_topN (fl_1 L) ?_ | refine z_topN (fl_2 L) ?_ | refine z_topN (fl_3 L) ?_
  refine z_iconst (v := nI 1) hx dX12_isStop_8 (by decide) ?_
  refine z_isub hx dX12_isStop_9 ?_
  refine z_callisP hx [] (qX12_inP _ _ (by omega)) dX12_isStop_10 sX12_53 rfl rfl rfl (by decide) (by decide) rfl (Nat.le_of_ble_eq_true rfl) (by decide) ?_
  exact z_zret hx hF dX12_isStop_13 rfl (by first | exact bP_nar _ | rfl) rfl ⟨rfl, rfl⟩

set_option maxHeartbeats 4000000 in
set_option maxRecDepth 100000 in
theorem qX12_found (r : zMR) (t : zMT) (L : zL) (dr tr : Nat → Nat) (y : zMY) (a : zMA) (v : Nat) : zMi mX12_found 0 ([.ref 0, .int (nI v)]) (hM r t L dr tr y a) (fun z u => z = -1000010 - nI v ∧ u = hM (r.1, r.2.1, r.2.2.1, r.2.2.2.1, v) t L dr tr y a) := by
  refine zMi.of (by decide) (Nat.le_of_ble_eq_true rfl) (fun x hx hF => ?_)
  refine z_aload_n hx dX12_found_0 rfl ?_
  refine z_iload_n hx dX12_found_1 rfl ?_
  refine z_puti hx dX12_found_2 pX12_48 rfl (Nat.le_of_ble_eq_true rfl) ?_
  refine z_ldc hx dX12_found_5 kX12_52 ?_
  refine z_iload_n hx dX12_found_7 rfl ?_
  refine z_isub hx dX12_found_8 ?_
  exact z_iret hx hF dX12_found_9 rfl rfl ⟨rfl, rfl⟩

set_option maxHeartbeats 4000000 in
set_option maxRecDepth 100000 in
theorem qX12_well (r : zMR) (t : zMT) (L : zL) (dr tr : Nat → Nat) (y : zMY) (a : zMA) (v : Int32) : zMi mX12_well 0 ([.ref 0, .int v]) (hM r t L dr tr y a) (fun z u => z = v ∧ u = hM (r.1, r.2.1, r.2.2.1, r.2.2.2.1, 0) t L dr tr y a) := by
  refine zMi.of (by decide) (Nat.le_of_ble_eq_true rfl) (fun x hx hF => ?_)
  refine z_aload_n hx dX12_well_0 rfl ?_
  refine z_iconst (v := nI 0) hx dX12_well_1 (by decide) ?_
  refine z_puti hx dX12_well_2 pX12_48 rfl (Nat.le_of_ble_eq_true rfl) ?_
  refine z_iload_n hx dX12_well_5 rfl ?_
  exact z_iret hx hF dX12_well_6 rfl rfl ⟨rfl, rfl⟩

set_option maxHeartbeats 4000000 in
set_option maxRecDepth 100000 in
theorem qX12_tries (r : zMR) (t : zMT) (L : zL) (dr tr : Nat → Nat) (y : zMY) (a : zMA) (hw : zWf L) (hm : lM L ≤ 1000) (e : Nat) (he : e ≤ 60) : zMv mX12_tries 5 ([.ref 0, .int (nI e)]) (hM r t L dr tr y a) (fun u => u = hM r t L dr (fl (zIt L 0 e)) y a) := by
  refine zMv.of (by decide) (Nat.le_of_ble_eq_true rfl) (fun x hx hF => ?_)
  have loop15 : ∀ (n15 : Nat) (d : Nat), e - d = n15 → d ≤ e → zV x 15 [some (.ref 0), some (.int (nI e)), some (.int (nI d))] ([]) (hM r t L dr (fl (zIt L 0 d)) y a) := by
    intro n15
    induction n15 using Nat.strongRecOn with
    | ind n15 ih =>
      intro d hn hd
      refine z_iload_n hx dX12_tries_15 rfl ?_
      refine z_iload_n hx dX12_tries_16 rfl ?_
      first | refine z_icmp_geN (tgt := 34) hx dX12_tries_17 (by decide) (by omega) (by omega) (fun zc17 => ?_) (fun zc17 => ?_) | refine z_icmp_ge (tgt := 34) hx dX12_tries_17 (by decide) (fun zc17 => ?_) (fun zc17 => ?_)
      · skip
        exact z_vret hx hF dX12_tries_34 rfl rfl (by rw [show d = e by omega])
      · skip
        have w := zWf_it hw 0 d (by omega)
        refine z_aload_n hx dX12_tries_20 rfl ?_
        refine z_get hx dX12_tries_21 fX12_31 rfl rfl ?_
        refine z_iconst (v := nI 0) hx dX12_tries_24 (by decide) ?_
        refine z_callvsE hx [8] (qX12_passes (zIt L 0 d) (w) 0 (by omega)) dX12_tries_25 sX12_163 rfl rfl rfl (by decide) (by decide) rfl (Nat.le_of_ble_eq_true rfl) (by decide) ?_
        refine z_heap (show _ = hM r t L dr (fl (zIt L 0 (d + 1))) y a from rfl) ?_
        first | refine z_iincN (z := 1) hx dX12_tries_28 rfl rfl ?_ | refine z_iinc hx dX12_tries_28 rfl rfl rfl ?_
        refine z_goto (tgt := 15) hx dX12_tries_31 (by decide) ?_
        exact ih _ (by omega) (d + 1) rfl (by omega)
  refine z_aload_n hx dX12_tries_0 rfl ?_
  refine z_get hx dX12_tries_1 fX12_25 rfl rfl ?_
  refine z_iconst (v := nI 0) hx dX12_tries_4 (by decide) ?_
  refine z_aload_n hx dX12_tries_5 rfl ?_
  refine z_get hx dX12_tries_6 fX12_31 rfl rfl ?_
  refine z_iconst (v := nI 0) hx dX12_tries_9 (by decide) ?_
  refine z_callvsE hx [6, 8] (qX12_copies 34 34 (fun j => nI (fl L j)) (fun j => nI (tr j)) 0 0 (by decide) (by decide) (by decide) (by decide)) dX12_tries_10 sX12_128 rfl rfl rfl (by decide) (by decide) rfl (Nat.le_of_ble_eq_true rfl) (by decide) ?_
  refine z_cell (q := 8) (fun j => nI (fl L j)) rfl (fun j hj => by simp [va_cpy, hj]) ?_
  refine z_heap (show _ = hM r t L dr (fl L) y a from rfl) ?_
  refine z_iconst (v := nI 0) hx dX12_tries_13 (by decide) ?_
  refine z_istore_n hx dX12_tries_14 (Nat.le_of_ble_eq_true rfl) rfl ?_
  exact loop15 _ 0 rfl (by omega)

set_option maxHeartbeats 4000000 in
set_option maxRecDepth 100000 in
theorem qX12_behind (r : zMR) (t : zMT) (L : zL) (dr : Nat → Nat) (y : zMY) (a : zMA) (P : zL) (hw : zWf P) (hm : lM P ≤ 1000) (pp e wk : Nat) (hp : pp < 64) (hk : wk < 64) (he : e ≤ 60) : zMi mX12_behind 5 ([.ref 0, .int (nI pp), .int (nI e), .int (nI wk)]) (hM r t L dr (fl P) y a) (fun z u => z = tN (zFs (zAl P wk pp) 0 e) ∧ ∃ tr, u = hM r t L dr tr y a) := by
  refine zMi.of (by decide) (Nat.le_of_ble_eq_true rfl) (fun x hx hF => ?_)
  have loop3 : ∀ (n3 : Nat) (d : Nat), e + 1 - d = n3 → d ≤ e + 1 → (d ≤ e → zFs (zAl P wk pp) d (e - d) = zFs (zAl P wk pp) 0 e) ∧ (e < d → zFs (zAl P wk pp) 0 e = none) → zV x 3 [some (.ref 0), some (.int (nI pp)), some (.int (nI e)), some (.int (nI wk)), some (.int (nI d))] ([]) (hM r t L dr (fl (zIt P wk d)) y a) := by
    intro n3
    induction n3 using Nat.strongRecOn with
    | ind n3 ih =>
      intro d hn hd hf
      have w := zWf_it hw wk d (by omega)
      have q := zIt_P P wk d
      have b1 := zTh_lt (zIt P wk d) (lP (zIt P wk d))
      have b2 : 2 ^ lP (zIt P wk d) ≤ 2 ^ 6 := Nat.pow_le_pow_right (by decide) w.2.2.1
      have b3 : zTh (zIt P wk d) (lP (zIt P wk d)) &&& pp ≤ pp := Nat.and_le_right
      have b4 : zAl P wk pp d ↔ zTh (zIt P wk d) (lP (zIt P wk d)) &&& pp = pp := by unfold zAl; rw [q.1]
      refine z_iload hx dX12_behind_3 rfl ?_
      refine z_iload_n hx dX12_behind_5 rfl ?_
      first | refine z_icmp_gtN (tgt := 39) hx dX12_behind_6 (by decide) (by omega) (by omega) (fun zc6 => ?_) (fun zc6 => ?_) | refine z_icmp_gt (tgt := 39) hx dX12_behind_6 (by decide) (fun zc6 => ?_) (fun zc6 => ?_)
      · skip
        refine z_ldc hx dX12_behind_39 kX12_47 ?_
        exact z_iret hx hF dX12_behind_41 rfl rfl ⟨by first | (rw [← hf.1 (by omega), zFs_t (b4.mpr zc19)]; rfl) | (rw [hf.2 (by omega)]; rfl) | exact zzz_open, _, rfl⟩
      · skip
        refine z_aload_n hx dX12_behind_9 rfl ?_
        refine z_get hx dX12_behind_10 fX12_31 rfl rfl ?_
        refine z_callisP hx [8] (qX12_thereIn (zIt P wk d) (w)) dX12_behind_13 sX12_174 rfl rfl rfl (by decide) (by decide) rfl (Nat.le_of_ble_eq_true rfl) (by decide) ?_
        refine z_iload_n hx dX12_behind_16 rfl ?_
        first | refine z_iandN hx dX12_behind_17 ?_ | refine z_iand hx dX12_behind_17 ?_
        refine z_iload_n hx dX12_behind_18 rfl ?_
        first | refine z_icmp_neN (tgt := 25) hx dX12_behind_19 (by decide) (by omega) (by omega) (fun zc19 => ?_) (fun zc19 => ?_) | refine z_icmp_ne (tgt := 25) hx dX12_behind_19 (by decide) (fun zc19 => ?_) (fun zc19 => ?_)
        · skip
          refine z_aload_n hx dX12_behind_25 rfl ?_
          refine z_get hx dX12_behind_26 fX12_31 rfl rfl ?_
          refine z_iload_n hx dX12_behind_29 rfl ?_
          refine z_callvsE hx [8] (qX12_passes (zIt P wk d) (w) wk (by omega)) dX12_behind_30 sX12_163 rfl rfl rfl (by decide) (by decide) rfl (Nat.le_of_ble_eq_true rfl) (by decide) ?_
          refine z_heap (show _ = hM r t L dr (fl (zIt P wk (d + 1))) y a from rfl) ?_
          first | refine z_iincN (z := 1) hx dX12_behind_33 rfl rfl ?_ | refine z_iinc hx dX12_behind_33 rfl rfl rfl ?_
          refine z_goto (tgt := 3) hx dX12_behind_36 (by decide) ?_
          exact ih _ (by omega) (d + 1) rfl (by omega) ⟨fun h9 => by rw [← hf.1 (by omega), show e - d = (e - (d + 1)) + 1 by omega, zFs_f (fun z => zc19 (b4.mp z))], fun h9 => by rw [← hf.1 (by omega), show e - d = 0 by omega, zFs_0 (fun z => zc19 (b4.mp z))]⟩
        · skip
          refine z_iload hx dX12_behind_22 rfl ?_
          exact z_iret hx hF dX12_behind_24 rfl rfl ⟨by first | (rw [← hf.1 (by omega), zFs_t (b4.mpr zc19)]; rfl) | (rw [hf.2 (by omega)]; rfl) | exact zzz_open, _, rfl⟩
  refine z_iconst (v := nI 0) hx dX12_behind_0 (by decide) ?_
  refine z_istore hx dX12_behind_1 (Nat.le_of_ble_eq_true rfl) rfl ?_
  exact loop3 _ 0 rfl (by omega) ⟨fun _ => rfl, fun h9 => absurd h9 (by omega)⟩

set_option maxHeartbeats 4000000 in
set_option maxRecDepth 100000 in
theorem qX12_kindIn (r : zMR) (t : zMT) (L : zL) (dr tr : Nat → Nat) (y : zMY) (a : zMA) (hw : zWf L) (q : Nat) (hq : q < lP L) : zMi mX12_kindIn 0 ([.ref 0, .int (nI q)]) (hM r t L dr tr y a) (fun z u => z = nI (lK L q) ∧ u = hM r t L dr tr y a) := by
  refine zMi.of (by decide) (Nat.le_of_ble_eq_true rfl) (fun x hx hF => ?_)
  obtain ⟨w1, w2, w3, w4, w5⟩ := id hw
  refine z_aload_n hx dX12_kindIn_0 rfl ?_
  refine z_get hx dX12_kindIn_1 fX12_25 rfl rfl ?_
  refine z_iconst (v := nI 4) hx dX12_kindIn_4 (by decide) ?_
  refine z_iconst (v := nI 5) hx dX12_kindIn_5 (by decide) ?_
  refine z_iload_n hx dX12_kindIn_6 rfl ?_
  first | refine z_imulN hx dX12_kindIn_7 ?_ | refine z_imul hx dX12_kindIn_7 ?_
  first | refine z_iaddN hx dX12_kindIn_8 ?_ | refine z_iadd hx dX12_kindIn_8 ?_
  refine z_ialdJ hx dX12_kindIn_9 rfl (by decide) (by omega) ?_
  first | refine z_topN (fl_A L _) ?_ | refine z_topN (fl_F L _) ?_ | refine z_topN (fl_W L _) ?_ | refine z_topN (fl_T L _) ?_ | refine z_topN (fl_K L _) ?_ | refine z_topN (fl_0 L) ?_ | refine z_topN (fl_1 L) ?_ | refine z_topN (fl_2 L) ?_ | refine z_topN (fl_3 L) ?_
  exact z_iret hx hF dX12_kindIn_10 rfl rfl ⟨rfl, rfl⟩

set_option maxHeartbeats 4000000 in
set_option maxRecDepth 100000 in
theorem qX12_where (r : zMR) (t : zMT) (L : zL) (dr tr : Nat → Nat) (y : zMY) (a : zMA) (hw : zWf L) (hm : lM L ≤ 1000) (v w : Int32) : zMi mX12_where 6 ([.ref 0, .int v, .int w]) (hM r t L dr tr y a) (fun z u => z = aWhere L v w ∧ hMx r t L y a u) := by
  refine zMi.of (by decide) (Nat.le_of_ble_eq_true rfl) (fun x hx hF => ?_)
  obtain ⟨w1, w2, w3, w4, w5⟩ := id hw
  refine z_aload_n hx dX12_where_0 rfl ?_
  refine z_iload_n hx dX12_where_1 rfl ?_
  refine z_callivF hx (qX12_isPerson r t L dr tr y a hw _) dX12_where_2 sX12_178 rfl rfl rfl rfl (Nat.le_of_ble_eq_true rfl) rfl (Nat.le_of_ble_eq_true rfl) (by decide) ?_
  first | refine z_if_eqB (tgt := 15) hx dX12_where_5 (by decide) (fun zc5 => ?_) (fun zc5 => ?_) | refine z_if_eqN (tgt := 15) hx dX12_where_5 (by decide) (by omega) (fun zc5 => ?_) (fun zc5 => ?_) | refine z_if_eq (tgt := 15) hx dX12_where_5 (by decide) (fun zc5 => ?_) (fun zc5 => ?_)
  · skip
    refine z_ldc hx dX12_where_15 kX12_61 ?_
    exact z_iret hx hF dX12_where_17 rfl rfl ⟨by unfold aWhere; first | rw [zII_f (fun h => zc5 h.1)] | rw [zII_f (fun h => zc12 h.2)] | rw [zII_t ⟨⟨zj, zhj, rfl⟩, ⟨ze, Nat.zero_le _, zhe, rfl⟩⟩, zNat_nI (by omega), zNat_nI (by omega)] | exact zzz_open, hMx_i _ _ _ _ _ _ _⟩
  · skip
    obtain ⟨zj, zhj, rfl⟩ := zc5
    refine z_iload_n hx dX12_where_8 rfl ?_
    refine z_callisP hx [] (qX12_isFar _) dX12_where_9 sX12_187 rfl rfl rfl (by decide) (by decide) rfl (Nat.le_of_ble_eq_true rfl) (by decide) ?_
    first | refine z_if_neB (tgt := 18) hx dX12_where_12 (by decide) (fun zc12 => ?_) (fun zc12 => ?_) | refine z_if_neN (tgt := 18) hx dX12_where_12 (by decide) (by omega) (fun zc12 => ?_) (fun zc12 => ?_) | refine z_if_ne (tgt := 18) hx dX12_where_12 (by decide) (fun zc12 => ?_) (fun zc12 => ?_)
    · skip
      obtain ⟨ze, -, zhe, rfl⟩ := zc12
      refine z_aload_n hx dX12_where_18 rfl ?_
      refine z_iload_n hx dX12_where_19 rfl ?_
      refine z_callvvF hx (qX12_tries r t L dr tr y a hw hm ze zhe) dX12_where_20 sX12_190 rfl rfl rfl rfl (Nat.le_of_ble_eq_true rfl) rfl (Nat.le_of_ble_eq_true rfl) (by decide) ?_
      refine z_aload_n hx dX12_where_23 rfl ?_
      refine z_get hx dX12_where_24 fX12_31 rfl rfl ?_
      refine z_iconst (v := nI 4) hx dX12_where_27 (by decide) ?_
      refine z_iconst (v := nI 5) hx dX12_where_28 (by decide) ?_
      refine z_iload_n hx dX12_where_29 rfl ?_
      first | refine z_imulN hx dX12_where_30 ?_ | refine z_imul hx dX12_where_30 ?_
      first | refine z_iaddN hx dX12_where_31 ?_ | refine z_iadd hx dX12_where_31 ?_
      refine z_iconst (v := nI 1) hx dX12_where_32 (by decide) ?_
      first | refine z_iaddN hx dX12_where_33 ?_ | refine z_iadd hx dX12_where_33 ?_
      refine z_ialdJ hx dX12_where_34 rfl (by decide) (by omega) ?_
      refine z_topN (fl_A (zIt L 0 ze) zj) ?_
      exact z_iret hx hF dX12_where_35 rfl rfl ⟨by unfold aWhere; first | rw [zII_f (fun h => zc5 h.1)] | rw [zII_f (fun h => zc12 h.2)] | rw [zII_t ⟨⟨zj, zhj, rfl⟩, ⟨ze, Nat.zero_le _, zhe, rfl⟩⟩, zNat_nI (by omega), zNat_nI (by omega)] | exact zzz_open, hMx_i _ _ _ _ _ _ _⟩
    · skip
      refine z_ldc hx dX12_where_15 kX12_61 ?_
      exact z_iret hx hF dX12_where_17 rfl rfl ⟨by unfold aWhere; first | rw [zII_f (fun h => zc5 h.1)] | rw [zII_f (fun h => zc12 h.2)] | rw [zII_t ⟨⟨zj, zhj, rfl⟩, ⟨ze, Nat.zero_le _, zhe, rfl⟩⟩, zNat_nI (by omega), zNat_nI (by omega)] | exact zzz_open, hMx_i _ _ _ _ _ _ _⟩

set_option maxHeartbeats 4000000 in
set_option maxRecDepth 100000 in
theorem qX12_tram (r : zMR) (t : zMT) (L : zL) (dr tr : Nat → Nat) (y : zMY) (a : zMA) (hw : zWf L) (hm : lM L ≤ 1000) (w : Int32) : zMi mX12_tram 6 ([.ref 0, .int w]) (hM r t L dr tr y a) (fun z u => z = aTram L w ∧ hMx r t L y a u) := by
  refine zMi.of (by decide) (Nat.le_of_ble_eq_true rfl) (fun x hx hF => ?_)
  obtain ⟨w1, w2, w3, w4, w5⟩ := id hw
  refine z_aload_n hx dX12_tram_0 rfl ?_
  refine z_callivF hx (qX12_isLine r t L dr tr y a hw) dX12_tram_1 sX12_167 rfl rfl rfl rfl (Nat.le_of_ble_eq_true rfl) rfl (Nat.le_of_ble_eq_true rfl) (by decide) ?_
  first | refine z_if_neB (tgt := 10) hx dX12_tram_4 (by decide) (fun zc4 => ?_) (fun zc4 => ?_) | refine z_if_neN (tgt := 10) hx dX12_tram_4 (by decide) (by omega) (fun zc4 => ?_) (fun zc4 => ?_) | refine z_if_ne (tgt := 10) hx dX12_tram_4 (by decide) (fun zc4 => ?_) (fun zc4 => ?_)
  · skip
    refine z_iload_n hx dX12_tram_10 rfl ?_
    refine z_callisP hx [] (qX12_isFar _) dX12_tram_11 sX12_187 rfl rfl rfl (by decide) (by decide) rfl (Nat.le_of_ble_eq_true rfl) (by decide) ?_
    first | refine z_if_neB (tgt := 20) hx dX12_tram_14 (by decide) (fun zc14 => ?_) (fun zc14 => ?_) | refine z_if_neN (tgt := 20) hx dX12_tram_14 (by decide) (by omega) (fun zc14 => ?_) (fun zc14 => ?_) | refine z_if_ne (tgt := 20) hx dX12_tram_14 (by decide) (fun zc14 => ?_) (fun zc14 => ?_)
    · skip
      obtain ⟨ze, -, zhe, rfl⟩ := zc14
      refine z_aload_n hx dX12_tram_20 rfl ?_
      refine z_iload_n hx dX12_tram_21 rfl ?_
      refine z_callvvF hx (qX12_tries r t L dr tr y a hw hm ze zhe) dX12_tram_22 sX12_190 rfl rfl rfl rfl (Nat.le_of_ble_eq_true rfl) rfl (Nat.le_of_ble_eq_true rfl) (by decide) ?_
      refine z_aload_n hx dX12_tram_25 rfl ?_
      refine z_get hx dX12_tram_26 fX12_31 rfl rfl ?_
      refine z_iconst (v := nI 0) hx dX12_tram_29 (by decide) ?_
      refine z_callisP hx [8] (qX12_tramBy (zIt L 0 ze) (zWf_it hw 0 ze (by omega)) 0 (by omega)) dX12_tram_30 sX12_160 rfl rfl rfl (by decide) (by decide) rfl (Nat.le_of_ble_eq_true rfl) (by decide) ?_
      exact z_iret hx hF dX12_tram_33 rfl rfl ⟨by unfold aTram; first | rw [zII_f zc4] | rw [zII_t zc4, zII_f (c := inR 0 60 w) zc14] | rw [zII_t zc4, zII_t ⟨ze, Nat.zero_le _, zhe, rfl⟩, zNat_nI (by omega)] | exact zzz_open, hMx_i _ _ _ _ _ _ _⟩
    · skip
      refine z_ldc hx dX12_tram_17 kX12_61 ?_
      exact z_iret hx hF dX12_tram_19 rfl rfl ⟨by unfold aTram; first | rw [zII_f zc4] | rw [zII_t zc4, zII_f (c := inR 0 60 w) zc14] | rw [zII_t zc4, zII_t ⟨ze, Nat.zero_le _, zhe, rfl⟩, zNat_nI (by omega)] | exact zzz_open, hMx_i _ _ _ _ _ _ _⟩
  · skip
    refine z_ldc hx dX12_tram_7 kX12_170 ?_
    exact z_iret hx hF dX12_tram_9 rfl rfl ⟨by unfold aTram; first | rw [zII_f zc4] | rw [zII_t zc4, zII_f (c := inR 0 60 w) zc14] | rw [zII_t zc4, zII_t ⟨ze, Nat.zero_le _, zhe, rfl⟩, zNat_nI (by omega)] | exact zzz_open, hMx_i _ _ _ _ _ _ _⟩

set_option maxHeartbeats 4000000 in
set_option maxRecDepth 100000 in
theorem qX12_there (r : zMR) (t : zMT) (L : zL) (dr tr : Nat → Nat) (y : zMY) (a : zMA) (hw : zWf L) (hm : lM L ≤ 1000) (w : Int32) : zMi mX12_there 6 ([.ref 0, .int w]) (hM r t L dr tr y a) (fun z u => z = aThere L w ∧ hMx r t L y a u) := by
  refine zMi.of (by decide) (Nat.le_of_ble_eq_true rfl) (fun x hx hF => ?_)
  obtain ⟨w1, w2, w3, w4, w5⟩ := id hw
  refine z_aload_n hx dX12_there_0 rfl ?_
  refine z_callivF hx (qX12_isLine r t L dr tr y a hw) dX12_there_1 sX12_167 rfl rfl rfl rfl (Nat.le_of_ble_eq_true rfl) rfl (Nat.le_of_ble_eq_true rfl) (by decide) ?_
  first | refine z_if_neB (tgt := 10) hx dX12_there_4 (by decide) (fun zc4 => ?_) (fun zc4 => ?_) | refine z_if_neN (tgt := 10) hx dX12_there_4 (by decide) (by omega) (fun zc4 => ?_) (fun zc4 => ?_) | refine z_if_ne (tgt := 10) hx dX12_there_4 (by decide) (fun zc4 => ?_) (fun zc4 => ?_)
  · skip
    refine z_iload_n hx dX12_there_10 rfl ?_
    refine z_callisP hx [] (qX12_isFar _) dX12_there_11 sX12_187 rfl rfl rfl (by decide) (by decide) rfl (Nat.le_of_ble_eq_true rfl) (by decide) ?_
    first | refine z_if_neB (tgt := 20) hx dX12_there_14 (by decide) (fun zc14 => ?_) (fun zc14 => ?_) | refine z_if_neN (tgt := 20) hx dX12_there_14 (by decide) (by omega) (fun zc14 => ?_) (fun zc14 => ?_) | refine z_if_ne (tgt := 20) hx dX12_there_14 (by decide) (fun zc14 => ?_) (fun zc14 => ?_)
    · skip
      obtain ⟨ze, -, zhe, rfl⟩ := zc14
      have hq9 := zIt_P L 0 ze
      refine z_aload_n hx dX12_there_20 rfl ?_
      refine z_iload_n hx dX12_there_21 rfl ?_
      refine z_callvvF hx (qX12_tries r t L dr tr y a hw hm ze zhe) dX12_there_22 sX12_190 rfl rfl rfl rfl (Nat.le_of_ble_eq_true rfl) rfl (Nat.le_of_ble_eq_true rfl) (by decide) ?_
      refine z_aload_n hx dX12_there_25 rfl ?_
      refine z_get hx dX12_there_26 fX12_31 rfl rfl ?_
      refine z_callisP hx [8] (qX12_thereIn (zIt L 0 ze) (zWf_it hw 0 ze (by omega))) dX12_there_29 sX12_174 rfl rfl rfl (by decide) (by decide) rfl (Nat.le_of_ble_eq_true rfl) (by decide) ?_
      exact z_iret hx hF dX12_there_32 rfl rfl ⟨by unfold aThere; first | rw [zII_f zc4] | rw [zII_t zc4, zII_f (c := inR 0 60 w) zc14] | rw [zII_t zc4, zII_t ⟨ze, Nat.zero_le _, zhe, rfl⟩, zNat_nI (by omega), hq9.1] | exact zzz_open, hMx_i _ _ _ _ _ _ _⟩
    · skip
      refine z_ldc hx dX12_there_17 kX12_61 ?_
      exact z_iret hx hF dX12_there_19 rfl rfl ⟨by unfold aThere; first | rw [zII_f zc4] | rw [zII_t zc4, zII_f (c := inR 0 60 w) zc14] | rw [zII_t zc4, zII_t ⟨ze, Nat.zero_le _, zhe, rfl⟩, zNat_nI (by omega), hq9.1] | exact zzz_open, hMx_i _ _ _ _ _ _ _⟩
  · skip
    refine z_ldc hx dX12_there_7 kX12_170 ?_
    exact z_iret hx hF dX12_there_9 rfl rfl ⟨by unfold aThere; first | rw [zII_f zc4] | rw [zII_t zc4, zII_f (c := inR 0 60 w) zc14] | rw [zII_t zc4, zII_t ⟨ze, Nat.zero_le _, zhe, rfl⟩, zNat_nI (by omega), hq9.1] | exact zzz_open, hMx_i _ _ _ _ _ _ _⟩

set_option maxHeartbeats 4000000 in
set_option maxRecDepth 100000 in
theorem qX12_when (r : zMR) (t : zMT) (L : zL) (dr tr : Nat → Nat) (y : zMY) (a : zMA) (hw : zWf L) (hm : lM L ≤ 1000) (v : Int32) : zMi mX12_when 6 ([.ref 0, .int v]) (hM r t L dr tr y a) (fun z u => z = aWhen L v ∧ hMx r t L y a u) := by
  refine zMi.of (by decide) (Nat.le_of_ble_eq_true rfl) (fun x hx hF => ?_)
  obtain ⟨w1, w2, w3, w4, w5⟩ := id hw
  refine z_aload_n hx dX12_when_0 rfl ?_
  refine z_iload_n hx dX12_when_1 rfl ?_
  refine z_callivF hx (qX12_isPerson r t L dr tr y a hw _) dX12_when_2 sX12_178 rfl rfl rfl rfl (Nat.le_of_ble_eq_true rfl) rfl (Nat.le_of_ble_eq_true rfl) (by decide) ?_
  first | refine z_if_neB (tgt := 11) hx dX12_when_5 (by decide) (fun zc5 => ?_) (fun zc5 => ?_) | refine z_if_neN (tgt := 11) hx dX12_when_5 (by decide) (by omega) (fun zc5 => ?_) (fun zc5 => ?_) | refine z_if_ne (tgt := 11) hx dX12_when_5 (by decide) (fun zc5 => ?_) (fun zc5 => ?_)
  · skip
    obtain ⟨zj, zhj, rfl⟩ := zc5
    have h2 : 2 ^ zj ≤ 2 ^ 5 := Nat.pow_le_pow_right (by decide) (by omega)
    refine z_aload_n hx dX12_when_11 rfl ?_
    refine z_iconst (v := nI 0) hx dX12_when_12 (by decide) ?_
    refine z_callvvF hx (qX12_tries r t L dr tr y a hw hm 0 (by omega)) dX12_when_13 sX12_190 rfl rfl rfl rfl (Nat.le_of_ble_eq_true rfl) rfl (Nat.le_of_ble_eq_true rfl) (by decide) ?_
    refine z_aload_n hx dX12_when_16 rfl ?_
    refine z_iconst (v := nI 1) hx dX12_when_17 (by decide) ?_
    refine z_iload_n hx dX12_when_18 rfl ?_
    first | refine z_ishl1 hx dX12_when_19 (by omega) ?_ | refine z_ishlN hx dX12_when_19 (by omega) ?_ | refine z_ishl hx dX12_when_19 ?_
    refine z_bipush (v := nI 60) hx dX12_when_20 (by decide) ?_
    refine z_iconst (v := nI 0) hx dX12_when_22 (by decide) ?_
    refine z_callivG hx (qX12_behind r t L dr y a L hw hm (2 ^ zj) 60 0 (by omega) (by omega) (by omega)) dX12_when_23 sX12_194 rfl rfl rfl rfl (Nat.le_of_ble_eq_true rfl) rfl (Nat.le_of_ble_eq_true rfl) (by decide) (fun r23 u23 l23 q23 => ?_)
    obtain ⟨rfl, tr9, rfl⟩ := q23
    exact z_iret hx hF dX12_when_26 rfl rfl ⟨by unfold aWhen; first | rw [zII_f (c := inP (lP L) v) zc5] | rw [zII_t ⟨zj, zhj, rfl⟩, zNat_nI (by omega)] | exact zzz_open, hMx_i _ _ _ _ _ _ _⟩
  · skip
    refine z_ldc hx dX12_when_8 kX12_61 ?_
    exact z_iret hx hF dX12_when_10 rfl rfl ⟨by unfold aWhen; first | rw [zII_f (c := inP (lP L) v) zc5] | rw [zII_t ⟨zj, zhj, rfl⟩, zNat_nI (by omega)] | exact zzz_open, hMx_i _ _ _ _ _ _ _⟩

set_option maxHeartbeats 4000000 in
set_option maxRecDepth 100000 in
theorem qX12_all (r : zMR) (t : zMT) (L : zL) (dr tr : Nat → Nat) (y : zMY) (a : zMA) (hw : zWf L) (hm : lM L ≤ 1000)  : zMi mX12_all 6 ([.ref 0]) (hM r t L dr tr y a) (fun z u => z = aAll L ∧ hMx r t L y a u) := by
  refine zMi.of (by decide) (Nat.le_of_ble_eq_true rfl) (fun x hx hF => ?_)
  obtain ⟨w1, w2, w3, w4, w5⟩ := id hw
  have h2 : 2 ^ lP L ≤ 2 ^ 6 := Nat.pow_le_pow_right (by decide) w3
  refine z_aload_n hx dX12_all_0 rfl ?_
  refine z_callivF hx (qX12_isLine r t L dr tr y a hw) dX12_all_1 sX12_167 rfl rfl rfl rfl (Nat.le_of_ble_eq_true rfl) rfl (Nat.le_of_ble_eq_true rfl) (by decide) ?_
  first | refine z_if_neB (tgt := 10) hx dX12_all_4 (by decide) (fun zc4 => ?_) (fun zc4 => ?_) | refine z_if_neN (tgt := 10) hx dX12_all_4 (by decide) (by omega) (fun zc4 => ?_) (fun zc4 => ?_) | refine z_if_ne (tgt := 10) hx dX12_all_4 (by decide) (fun zc4 => ?_) (fun zc4 => ?_)
  · skip
    refine z_aload_n hx dX12_all_10 rfl ?_
    refine z_iconst (v := nI 0) hx dX12_all_11 (by decide) ?_
    refine z_callvvF hx (qX12_tries r t L dr tr y a hw hm 0 (by omega)) dX12_all_12 sX12_190 rfl rfl rfl rfl (Nat.le_of_ble_eq_true rfl) rfl (Nat.le_of_ble_eq_true rfl) (by decide) ?_
    refine z_aload_n hx dX12_all_15 rfl ?_
    refine z_aload_n hx dX12_all_16 rfl ?_
    refine z_get hx dX12_all_17 fX12_25 rfl rfl ?_
    refine z_callisP hx [6] (qX12_everybody L hw) dX12_all_20 sX12_198 rfl rfl rfl (by decide) (by decide) rfl (Nat.le_of_ble_eq_true rfl) (by decide) ?_
    refine z_bipush (v := nI 60) hx dX12_all_23 (by decide) ?_
    refine z_iconst (v := nI 0) hx dX12_all_25 (by decide) ?_
    refine z_callivG hx (qX12_behind r t L dr y a L hw hm (2 ^ lP L - 1) 60 0 (by omega) (by omega) (by omega)) dX12_all_26 sX12_194 rfl rfl rfl rfl (Nat.le_of_ble_eq_true rfl) rfl (Nat.le_of_ble_eq_true rfl) (by decide) (fun r26 u26 l26 q26 => ?_)
    obtain ⟨rfl, tr9, rfl⟩ := q26
    exact z_iret hx hF dX12_all_29 rfl rfl ⟨by unfold aAll; first | rw [zII_f zc4] | rw [zII_t zc4] | exact zzz_open, hMx_i _ _ _ _ _ _ _⟩
  · skip
    refine z_ldc hx dX12_all_7 kX12_170 ?_
    exact z_iret hx hF dX12_all_9 rfl rfl ⟨by unfold aAll; first | rw [zII_f zc4] | rw [zII_t zc4] | exact zzz_open, hMx_i _ _ _ _ _ _ _⟩

set_option maxHeartbeats 4000000 in
set_option maxRecDepth 100000 in
theorem qX12_kind (r : zMR) (t : zMT) (L : zL) (dr tr : Nat → Nat) (y : zMY) (a : zMA) (hw : zWf L) (hm : lM L ≤ 1000) (v : Int32) : zMi mX12_kind 2 ([.ref 0, .int v]) (hM r t L dr tr y a) (fun z u => z = aKind L v ∧ hMx r t L y a u) := by
  refine zMi.of (by decide) (Nat.le_of_ble_eq_true rfl) (fun x hx hF => ?_)
  obtain ⟨w1, w2, w3, w4, w5⟩ := id hw
  refine z_aload_n hx dX12_kind_0 rfl ?_
  refine z_iload_n hx dX12_kind_1 rfl ?_
  refine z_callivF hx (qX12_isPerson r t L dr tr y a hw _) dX12_kind_2 sX12_178 rfl rfl rfl rfl (Nat.le_of_ble_eq_true rfl) rfl (Nat.le_of_ble_eq_true rfl) (by decide) ?_
  first | refine z_if_eqB (tgt := 16) hx dX12_kind_5 (by decide) (fun zc5 => ?_) (fun zc5 => ?_) | refine z_if_eqN (tgt := 16) hx dX12_kind_5 (by decide) (by omega) (fun zc5 => ?_) (fun zc5 => ?_) | refine z_if_eq (tgt := 16) hx dX12_kind_5 (by decide) (fun zc5 => ?_) (fun zc5 => ?_)
  · skip
    refine z_ldc hx dX12_kind_16 kX12_61 ?_
    exact z_iret hx hF dX12_kind_18 rfl rfl ⟨by unfold aKind; first | rw [zII_f (c := inP (lP L) v) zc5] | rw [zII_t ⟨zj, zhj, rfl⟩, zNat_nI (by omega)] | exact zzz_open, hMx_i _ _ _ _ _ _ _⟩
  · skip
    obtain ⟨zj, zhj, rfl⟩ := zc5
    refine z_aload_n hx dX12_kind_8 rfl ?_
    refine z_iload_n hx dX12_kind_9 rfl ?_
    refine z_callivF hx (qX12_kindIn r t L dr tr y a hw zj zhj) dX12_kind_10 sX12_211 rfl rfl rfl rfl (Nat.le_of_ble_eq_true rfl) rfl (Nat.le_of_ble_eq_true rfl) (by decide) ?_
    refine z_goto (tgt := 18) hx dX12_kind_13 (by decide) ?_
    exact z_iret hx hF dX12_kind_18 rfl rfl ⟨by unfold aKind; first | rw [zII_f (c := inP (lP L) v) zc5] | rw [zII_t ⟨zj, zhj, rfl⟩, zNat_nI (by omega)] | exact zzz_open, hMx_i _ _ _ _ _ _ _⟩

set_option maxHeartbeats 4000000 in
set_option maxRecDepth 100000 in
theorem qX12_stop (r : zMR) (t : zMT) (L : zL) (dr tr : Nat → Nat) (y : zMY) (a : zMA) (hw : zWf L) (hm : lM L ≤ 1000) (v w : Int32) : zMi mX12_stop 5 ([.ref 0, .int v, .int w]) (hM r t L dr tr y a) (fun z u => z = aStop L v w ∧ hMx r t L y a u) := by
  refine zMi.of (by decide) (Nat.le_of_ble_eq_true rfl) (fun x hx hF => ?_)
  obtain ⟨w1, w2, w3, w4, w5⟩ := id hw
  refine z_aload_n hx dX12_stop_0 rfl ?_
  refine z_iload_n hx dX12_stop_1 rfl ?_
  refine z_callivF hx (qX12_isStop r t L dr tr y a hw _) dX12_stop_2 sX12_181 rfl rfl rfl rfl (Nat.le_of_ble_eq_true rfl) rfl (Nat.le_of_ble_eq_true rfl) (by decide) ?_
  first | refine z_if_eqB (tgt := 17) hx dX12_stop_5 (by decide) (fun zc5 => ?_) (fun zc5 => ?_) | refine z_if_eqN (tgt := 17) hx dX12_stop_5 (by decide) (by omega) (fun zc5 => ?_) (fun zc5 => ?_) | refine z_if_eq (tgt := 17) hx dX12_stop_5 (by decide) (fun zc5 => ?_) (fun zc5 => ?_)
  · skip
    refine z_ldc hx dX12_stop_17 kX12_61 ?_
    exact z_iret hx hF dX12_stop_19 rfl rfl ⟨by unfold aStop; first | rw [zII_f (fun h => zc5 h.1)] | rw [zII_f (fun h => zc14 h.2)] | rw [zII_t ⟨⟨zj, zhj, rfl⟩, ⟨ze, Nat.zero_le _, zhe, rfl⟩⟩, zNat_nI (by omega), if_pos (by rw [show ze = 0 by omega])] | rw [zII_t ⟨⟨zj, zhj, rfl⟩, ⟨ze, Nat.zero_le _, zhe, rfl⟩⟩, zNat_nI (by omega), if_neg (fun h => by have := (nI_eq (by omega) (by omega)).mp h; omega)] | exact zzz_open, hMx_i _ _ _ _ _ _ _⟩
  · skip
    obtain ⟨zj, zhj, rfl⟩ := zc5
    refine z_iload_n hx dX12_stop_8 rfl ?_
    refine z_iconst (v := nI 0) hx dX12_stop_9 (by decide) ?_
    refine z_iconst (v := nI 1) hx dX12_stop_10 (by decide) ?_
    refine z_callisP hx [] (qX12_inN _ _ _ (by decide)) dX12_stop_11 sX12_53 rfl rfl rfl (by decide) (by decide) rfl (Nat.le_of_ble_eq_true rfl) (by decide) ?_
    first | refine z_if_neB (tgt := 20) hx dX12_stop_14 (by decide) (fun zc14 => ?_) (fun zc14 => ?_) | refine z_if_neN (tgt := 20) hx dX12_stop_14 (by decide) (by omega) (fun zc14 => ?_) (fun zc14 => ?_) | refine z_if_ne (tgt := 20) hx dX12_stop_14 (by decide) (fun zc14 => ?_) (fun zc14 => ?_)
    · skip
      obtain ⟨ze, -, zhe, rfl⟩ := zc14
      refine z_iload_n hx dX12_stop_20 rfl ?_
      first | refine z_if_neB (tgt := 36) hx dX12_stop_21 (by decide) (fun zc21 => ?_) (fun zc21 => ?_) | refine z_if_neN (tgt := 36) hx dX12_stop_21 (by decide) (by omega) (fun zc21 => ?_) (fun zc21 => ?_) | refine z_if_ne (tgt := 36) hx dX12_stop_21 (by decide) (fun zc21 => ?_) (fun zc21 => ?_)
      · skip
        refine z_aload_n hx dX12_stop_36 rfl ?_
        refine z_get hx dX12_stop_37 fX12_25 rfl rfl ?_
        refine z_iload_n hx dX12_stop_40 rfl ?_
        refine z_callisP hx [6] (qX12_atStop L hw zj (by omega)) dX12_stop_41 sX12_135 rfl rfl rfl (by decide) (by decide) rfl (Nat.le_of_ble_eq_true rfl) (by decide) ?_
        exact z_iret hx hF dX12_stop_44 rfl rfl ⟨by unfold aStop; first | rw [zII_f (fun h => zc5 h.1)] | rw [zII_f (fun h => zc14 h.2)] | rw [zII_t ⟨⟨zj, zhj, rfl⟩, ⟨ze, Nat.zero_le _, zhe, rfl⟩⟩, zNat_nI (by omega), if_pos (by rw [show ze = 0 by omega])] | rw [zII_t ⟨⟨zj, zhj, rfl⟩, ⟨ze, Nat.zero_le _, zhe, rfl⟩⟩, zNat_nI (by omega), if_neg (fun h => by have := (nI_eq (by omega) (by omega)).mp h; omega)] | exact zzz_open, hMx_i _ _ _ _ _ _ _⟩
      · skip
        refine z_aload_n hx dX12_stop_24 rfl ?_
        refine z_get hx dX12_stop_25 fX12_25 rfl rfl ?_
        refine z_iload_n hx dX12_stop_28 rfl ?_
        refine z_iconst (v := nI 0) hx dX12_stop_29 (by decide) ?_
        refine z_callisP hx [6] (qX12_hope L hw zj 0 (by omega) (by omega)) dX12_stop_30 sX12_149 rfl rfl rfl (by decide) (by decide) rfl (Nat.le_of_ble_eq_true rfl) (by decide) ?_
        refine z_goto (tgt := 44) hx dX12_stop_33 (by decide) ?_
        exact z_iret hx hF dX12_stop_44 rfl rfl ⟨by unfold aStop; first | rw [zII_f (fun h => zc5 h.1)] | rw [zII_f (fun h => zc14 h.2)] | rw [zII_t ⟨⟨zj, zhj, rfl⟩, ⟨ze, Nat.zero_le _, zhe, rfl⟩⟩, zNat_nI (by omega), if_pos (by rw [show ze = 0 by omega])] | rw [zII_t ⟨⟨zj, zhj, rfl⟩, ⟨ze, Nat.zero_le _, zhe, rfl⟩⟩, zNat_nI (by omega), if_neg (fun h => by have := (nI_eq (by omega) (by omega)).mp h; omega)] | exact zzz_open, hMx_i _ _ _ _ _ _ _⟩
    · skip
      refine z_ldc hx dX12_stop_17 kX12_61 ?_
      exact z_iret hx hF dX12_stop_19 rfl rfl ⟨by unfold aStop; first | rw [zII_f (fun h => zc5 h.1)] | rw [zII_f (fun h => zc14 h.2)] | rw [zII_t ⟨⟨zj, zhj, rfl⟩, ⟨ze, Nat.zero_le _, zhe, rfl⟩⟩, zNat_nI (by omega), if_pos (by rw [show ze = 0 by omega])] | rw [zII_t ⟨⟨zj, zhj, rfl⟩, ⟨ze, Nat.zero_le _, zhe, rfl⟩⟩, zNat_nI (by omega), if_neg (fun h => by have := (nI_eq (by omega) (by omega)).mp h; omega)] | exact zzz_open, hMx_i _ _ _ _ _ _ _⟩

set_option maxHeartbeats 4000000 in
set_option maxRecDepth 100000 in
theorem qX12_person (r : zMR) (t : zMT) (L : zL) (dr tr : Nat → Nat) (y : zMY) (a : zMA) (hw : zWf L) (hm : lM L ≤ 1000) (v w : Int32) : zMi mX12_person 3 ([.ref 0, .int v, .int w]) (hM r t L dr tr y a) (fun z u => z = aPerson L v w ∧ hMx r t L y a u) := by
  refine zMi.of (by decide) (Nat.le_of_ble_eq_true rfl) (fun x hx hF => ?_)
  obtain ⟨w1, w2, w3, w4, w5⟩ := id hw
  refine z_aload_n hx dX12_person_0 rfl ?_
  refine z_iload_n hx dX12_person_1 rfl ?_
  refine z_callivF hx (qX12_isPerson r t L dr tr y a hw _) dX12_person_2 sX12_178 rfl rfl rfl rfl (Nat.le_of_ble_eq_true rfl) rfl (Nat.le_of_ble_eq_true rfl) (by decide) ?_
  first | refine z_if_eqB (tgt := 17) hx dX12_person_5 (by decide) (fun zc5 => ?_) (fun zc5 => ?_) | refine z_if_eqN (tgt := 17) hx dX12_person_5 (by decide) (by omega) (fun zc5 => ?_) (fun zc5 => ?_) | refine z_if_eq (tgt := 17) hx dX12_person_5 (by decide) (fun zc5 => ?_) (fun zc5 => ?_)
  · skip
    refine z_ldc hx dX12_person_17 kX12_61 ?_
    exact z_iret hx hF dX12_person_19 rfl rfl ⟨by unfold aPerson; first | rw [zII_f (fun h => zc5 h.1)] | rw [zII_f (fun h => zc14 h.2)] | (rw [zII_t ⟨⟨zj, zhj, rfl⟩, ⟨3, by decide, by decide, rfl⟩⟩, zNat_nI (by omega)]; rfl) | exact zzz_open, hMx_i _ _ _ _ _ _ _⟩
  · skip
    obtain ⟨zj, zhj, rfl⟩ := zc5
    have w6 := w5 zj zhj
    refine z_iload_n hx dX12_person_8 rfl ?_
    refine z_iconst (v := nI 0) hx dX12_person_9 (by decide) ?_
    refine z_iconst (v := nI 4) hx dX12_person_10 (by decide) ?_
    refine z_callisP hx [] (qX12_inN _ _ _ (by decide)) dX12_person_11 sX12_53 rfl rfl rfl (by decide) (by decide) rfl (Nat.le_of_ble_eq_true rfl) (by decide) ?_
    first | refine z_if_neB (tgt := 20) hx dX12_person_14 (by decide) (fun zc14 => ?_) (fun zc14 => ?_) | refine z_if_neN (tgt := 20) hx dX12_person_14 (by decide) (by omega) (fun zc14 => ?_) (fun zc14 => ?_) | refine z_if_ne (tgt := 20) hx dX12_person_14 (by decide) (fun zc14 => ?_) (fun zc14 => ?_)
    · skip
      obtain ⟨ze, -, zhe, rfl⟩ := zc14
      refine z_iload_n hx dX12_person_20 rfl ?_
      refine z_iconst (v := nI 4) hx dX12_person_21 (by decide) ?_
      first | refine z_icmp_neN (tgt := 36) hx dX12_person_22 (by decide) (by omega) (by omega) (fun zc22 => ?_) (fun zc22 => ?_) | refine z_icmp_ne (tgt := 36) hx dX12_person_22 (by decide) (fun zc22 => ?_) (fun zc22 => ?_)
      · skip
        refine z_aload_n hx dX12_person_36 rfl ?_
        refine z_get hx dX12_person_37 fX12_25 rfl rfl ?_
        refine z_iconst (v := nI 4) hx dX12_person_40 (by decide) ?_
        refine z_iconst (v := nI 5) hx dX12_person_41 (by decide) ?_
        refine z_iload_n hx dX12_person_42 rfl ?_
        first | refine z_imulN hx dX12_person_43 ?_ | refine z_imul hx dX12_person_43 ?_
        first | refine z_iaddN hx dX12_person_44 ?_ | refine z_iadd hx dX12_person_44 ?_
        refine z_iconst (v := nI 1) hx dX12_person_45 (by decide) ?_
        first | refine z_iaddN hx dX12_person_46 ?_ | refine z_iadd hx dX12_person_46 ?_
        refine z_iload_n hx dX12_person_47 rfl ?_
        first | refine z_iaddN hx dX12_person_48 ?_ | refine z_iadd hx dX12_person_48 ?_
        refine z_ialdJ hx dX12_person_49 rfl (by decide) (by omega) ?_
        rcases (show ze = 0 ∨ ze = 1 ∨ ze = 2 ∨ ze = 3 by omega) with rfl | rfl | rfl | rfl
        · refine z_topN (fl_A L zj) ?_
          exact z_iret hx hF dX12_person_50 rfl rfl ⟨by unfold aPerson; rw [zII_t ⟨⟨zj, zhj, rfl⟩, ⟨0, by decide, by decide, rfl⟩⟩, zNat_nI (by omega)]; rfl, hMx_i _ _ _ _ _ _ _⟩
        · refine z_topN (fl_F L zj) ?_
          exact z_iret hx hF dX12_person_50 rfl rfl ⟨by unfold aPerson; rw [zII_t ⟨⟨zj, zhj, rfl⟩, ⟨1, by decide, by decide, rfl⟩⟩, zNat_nI (by omega)]; rfl, hMx_i _ _ _ _ _ _ _⟩
        · refine z_topN (fl_W L zj) ?_
          exact z_iret hx hF dX12_person_50 rfl rfl ⟨by unfold aPerson; rw [zII_t ⟨⟨zj, zhj, rfl⟩, ⟨2, by decide, by decide, rfl⟩⟩, zNat_nI (by omega)]; rfl, hMx_i _ _ _ _ _ _ _⟩
        · refine z_topN (fl_T L zj) ?_
          exact z_iret hx hF dX12_person_50 rfl rfl ⟨by unfold aPerson; rw [zII_t ⟨⟨zj, zhj, rfl⟩, ⟨3, by decide, by decide, rfl⟩⟩, zNat_nI (by omega)]; rfl, hMx_i _ _ _ _ _ _ _⟩
      · skip
        refine z_aload_n hx dX12_person_25 rfl ?_
        refine z_get hx dX12_person_26 fX12_25 rfl rfl ?_
        refine z_iload_n hx dX12_person_29 rfl ?_
        refine z_callisP hx [6] (qX12_hopes L hw zj zhj) dX12_person_30 sX12_146 rfl rfl rfl (by decide) (by decide) rfl (Nat.le_of_ble_eq_true rfl) (by decide) ?_
        refine z_goto (tgt := 50) hx dX12_person_33 (by decide) ?_
        exact z_iret hx hF dX12_person_50 rfl rfl ⟨by unfold aPerson; rw [show ze = 4 by omega, zII_t ⟨⟨zj, zhj, rfl⟩, ⟨4, by decide, by decide, rfl⟩⟩, zNat_nI (by omega)]; rfl, hMx_i _ _ _ _ _ _ _⟩
    · skip
      refine z_ldc hx dX12_person_17 kX12_61 ?_
      exact z_iret hx hF dX12_person_19 rfl rfl ⟨by unfold aPerson; first | rw [zII_f (fun h => zc5 h.1)] | rw [zII_f (fun h => zc14 h.2)] | (rw [zII_t ⟨⟨zj, zhj, rfl⟩, ⟨3, by decide, by decide, rfl⟩⟩, zNat_nI (by omega)]; rfl) | exact zzz_open, hMx_i _ _ _ _ _ _ _⟩

