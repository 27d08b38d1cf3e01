/-! the reference's acts -/
def zNq (ps : Nat → Nat) (n : Nat) : Nat × (Nat → Nat) := if n = 24 then (23, fun j => if j < 782 then ps (j + 34) else ps j) else (n, ps)
/-- 34 numbers from b on are the line's -/
def zSg (ps : Nat → Nat) (b : Nat) (L : zL) : Nat → Nat := fun j => if b ≤ j ∧ j < b + 34 then fl L (j - b) else ps j
def zNt (ps : Nat → Nat) (n : Nat) (L : zL) : (Nat → Nat) × Nat := (zSg (zNq ps n).2 (34 * (zNq ps n).1) L, (zNq ps n).1 + 1)
theorem zNq_a {ps : Nat → Nat} {n : Nat} (h : ¬ n = 24) : zNq ps n = (n, ps) := if_neg h
theorem zNq_b {ps : Nat → Nat} {n : Nat} (h : n = 24) : zNq ps n = (23, fun j => if j < 782 then ps (j + 34) else ps j) := if_pos h
theorem zSg_ok (ps : Nat → Nat) (b : Nat) (L : zL) (j : Nat) : va_cpy (fun j => nI (fl L j)) (fun j => nI (ps j)) 0 b 34 j = nI (zSg ps b L j) := by
  unfold va_cpy zSg
  by_cases h : b ≤ j ∧ j < b + 34
  · rw [if_pos h, if_pos h, Nat.zero_add]
  · rw [if_neg h, if_neg h]
theorem zNt_ok {ps : Nat → Nat} {n : Nat} (L : zL) (h : n ≤ 24) : (zNt ps n L).2 ≤ 24 := by
  by_cases hn : n = 24
  · show (zNq ps n).1 + 1 ≤ 24; rw [zNq_b hn]; exact Nat.le_refl 24
  · show (zNq ps n).1 + 1 ≤ 24; rw [zNq_a hn]; show n + 1 ≤ 24; omega
theorem zsh_0 (ps : Nat → Nat) : ps = fun j => if j < 0 then ps (j + 34) else ps j := funext fun j => (if_neg (by omega)).symm
theorem zsh_up (ps : Nat → Nat) (k : Nat) : zup (fun j => if j < k then ps (j + 34) else ps j) k (ps (k + 34)) = fun j => if j < k + 1 then ps (j + 34) else ps j := by
  funext j
  unfold zup
  show (if j = k then ps (k + 34) else if j < k then ps (j + 34) else ps j) = if j < k + 1 then ps (j + 34) else ps j
  by_cases h : j = k
  · subst h; rw [if_pos rfl, if_pos (by omega)]
  · rw [if_neg h]
    by_cases h2 : j < k
    · rw [if_pos h2, if_pos (by omega)]
    · rw [if_neg h2, if_neg (by omega)]
set_option maxHeartbeats 4000000 in
set_option maxRecDepth 100000 in
theorem qX12_notes (r : zMR) (t : zMT) (L : zL) (dr tr : Nat → Nat) (ps : Nat → Nat) (n : Nat) (im : Nat → Nat) (ke : Nat → Int32) (a : zMA) (hn24 : n ≤ 24) : zMv mX12_notes 1 ([.ref 0]) (hM r t L dr tr (ps, n, im, ke) a) (fun u => u = hM r t L dr tr ((zNt ps n L).1, (zNt ps n L).2, im, ke) a) := by
  refine zMv.of (by decide) (Nat.le_of_ble_eq_true rfl) (fun x hx hF => ?_)
  have loop49 : ∀ (n9 : Nat) (ps9 : Nat → Nat) (e9 : Option Value), n9 < 24 → zNq ps n = (n9, ps9) →  zV x 49 [some (.ref 0), e9] ([]) (hM r t L dr tr (ps9, n9, im, ke) a) := by
    intro n9 ps9 e9 hn9 hz
    refine z_aload_n hx dX12_notes_49 rfl ?_
    refine z_get hx dX12_notes_50 fX12_25 rfl rfl ?_
    refine z_iconst (v := nI 0) hx dX12_notes_53 (by decide) ?_
    refine z_aload_n hx dX12_notes_54 rfl ?_
    refine z_get hx dX12_notes_55 fX12_34 rfl rfl ?_
    refine z_bipush (v := nI 34) hx dX12_notes_58 (by decide) ?_
    refine z_aload_n hx dX12_notes_60 rfl ?_
    refine z_get hx dX12_notes_61 fX12_132 rfl rfl ?_
    refine z_topN (b := n9) rfl ?_
    first | refine z_imulN hx dX12_notes_64 ?_ | refine z_imul hx dX12_notes_64 ?_
    refine z_callvsE hx [6, 9] (qX12_copies 34 816 (fun j => nI (fl L j)) (fun j => nI (ps9 j)) 0 (34 * n9) (by decide) (by decide) (by omega) (by omega)) dX12_notes_65 sX12_128 rfl rfl rfl (by decide) (by decide) rfl (Nat.le_of_ble_eq_true rfl) (by decide) ?_
    refine z_cell (q := 9) (fun j => nI (zSg ps9 (34 * n9) L j)) rfl (fun j hj => zSg_ok ps9 (34 * n9) L j) ?_
    refine z_heap (show _ = hM r t L dr tr (zSg ps9 (34 * n9) L, n9, im, ke) a from rfl) ?_
    refine z_aload_n hx dX12_notes_68 rfl ?_
    refine z_dup hx dX12_notes_69 rfl ?_
    refine z_get hx dX12_notes_70 fX12_132 rfl rfl ?_
    refine z_topN (b := n9) rfl ?_
    refine z_iconst (v := nI 1) hx dX12_notes_73 (by decide) ?_
    first | refine z_iaddN hx dX12_notes_74 ?_ | refine z_iadd hx dX12_notes_74 ?_
    refine z_puti hx dX12_notes_75 pX12_132 rfl (Nat.le_of_ble_eq_true rfl) ?_
    exact z_vret hx hF dX12_notes_78 rfl rfl (by unfold zNt; rw [hz]; rfl)
  have loop11 : ∀ (n11 : Nat) (k : Nat), 782 - k = n11 → k ≤ 782 → n = 24 → zV x 11 [some (.ref 0), some (.int (nI k))] ([]) (hM r t L dr tr (fun j => if j < k then ps (j + 34) else ps j, n, im, ke) a) := by
    intro n11
    induction n11 using Nat.strongRecOn with
    | ind n11 ih =>
      intro k hn hk h24
      refine z_iload_n hx dX12_notes_11 rfl ?_
      refine z_sipush (v := nI 782) hx dX12_notes_12 (by decide) ?_
      first | refine z_icmp_geN (tgt := 39) hx dX12_notes_15 (by decide) (by omega) (by omega) (fun zc15 => ?_) (fun zc15 => ?_) | refine z_icmp_ge (tgt := 39) hx dX12_notes_15 (by decide) (fun zc15 => ?_) (fun zc15 => ?_)
      · skip
        refine z_aload_n hx dX12_notes_39 rfl ?_
        refine z_dup hx dX12_notes_40 rfl ?_
        refine z_get hx dX12_notes_41 fX12_132 rfl rfl ?_
        refine z_topN (b := n) rfl ?_
        refine z_iconst (v := nI 1) hx dX12_notes_44 (by decide) ?_
        first | refine z_isubN hx dX12_notes_45 (by omega) ?_ | refine z_isub hx dX12_notes_45 ?_
        refine z_puti hx dX12_notes_46 pX12_132 rfl (Nat.le_of_ble_eq_true rfl) ?_
        exact z_heap (show _ = hM r t L dr tr ((fun j => if j < 782 then ps (j + 34) else ps j), 23, im, ke) a by rw [show (23 : Nat) = n - 1 by omega, show k = 782 by omega]; rfl) (loop49 23 (fun j => if j < 782 then ps (j + 34) else ps j) _ (by omega) (zNq_b h24))
      · skip
        refine z_aload_n hx dX12_notes_18 rfl ?_
        refine z_get hx dX12_notes_19 fX12_34 rfl rfl ?_
        refine z_iload_n hx dX12_notes_22 rfl ?_
        refine z_aload_n hx dX12_notes_23 rfl ?_
        refine z_get hx dX12_notes_24 fX12_34 rfl rfl ?_
        refine z_iload_n hx dX12_notes_27 rfl ?_
        refine z_bipush (v := nI 34) hx dX12_notes_28 (by decide) ?_
        first | refine z_iaddN hx dX12_notes_30 ?_ | refine z_iadd hx dX12_notes_30 ?_
        refine z_ialdJ hx dX12_notes_31 rfl (by decide) (by omega) ?_
        refine z_topN (b := ps (k + 34)) (if_neg (by omega)) ?_
        first | refine z_iastN hx dX12_notes_32 rfl (by decide) (by omega) ?_ | refine z_iastJ hx dX12_notes_32 rfl (by decide) (by omega) ?_
        refine z_heap (show _ = hM r t L dr tr ((fun j => if j < k + 1 then ps (j + 34) else ps j), n, im, ke) a by rw [← zsh_up]; rfl) ?_
        first | refine z_iincN (z := 1) hx dX12_notes_33 rfl rfl ?_ | refine z_iinc hx dX12_notes_33 rfl rfl rfl ?_
        refine z_goto (tgt := 11) hx dX12_notes_36 (by decide) ?_
        exact ih _ (by omega) (k + 1) rfl (by omega) h24
  refine z_aload_n hx dX12_notes_0 rfl ?_
  refine z_get hx dX12_notes_1 fX12_132 rfl rfl ?_
  refine z_topN (b := n) rfl ?_
  refine z_bipush (v := nI 24) hx dX12_notes_4 (by decide) ?_
  first | refine z_icmp_neN (tgt := 49) hx dX12_notes_6 (by decide) (by omega) (by omega) (fun zc6 => ?_) (fun zc6 => ?_) | refine z_icmp_ne (tgt := 49) hx dX12_notes_6 (by decide) (fun zc6 => ?_) (fun zc6 => ?_)
  · skip
    first | exact loop49 n ps none (by omega) (zNq_a zc6) | exact zzz_open
  · skip
    refine z_iconst (v := nI 0) hx dX12_notes_9 (by decide) ?_
    refine z_istore_n hx dX12_notes_10 (Nat.le_of_ble_eq_true rfl) rfl ?_
    exact z_heap (congrArg (fun q => hM r t L dr tr (q, n, im, ke) a) (zsh_0 ps)) (loop11 _ 0 rfl (by omega) zc6)

set_option maxHeartbeats 4000000 in
set_option maxRecDepth 100000 in
theorem qX12_puts (r : zMR) (t : zMT) (L : zL) (dr tr : Nat → Nat) (ps : Nat → Nat) (n : Nat) (im : Nat → Nat) (ke : Nat → Int32) (a : zMA) (hn24 : n ≤ 24) (pl v : Nat) (hpl : pl < 34) (M : zL) (hM9 : zup (fl L) pl v = fl M) : zMi mX12_puts 2 ([.ref 0, .int (nI pl), .int (nI v)]) (hM r t L dr tr (ps, n, im, ke) a) (fun z u => z = nI (fl L pl) ∧ u = hM r t M dr tr ((zNt ps n L).1, (zNt ps n L).2, im, ke) a) := by
  refine zMi.of (by decide) (Nat.le_of_ble_eq_true rfl) (fun x hx hF => ?_)
  refine z_aload_n hx dX12_puts_0 rfl ?_
  refine z_callvvF hx (qX12_notes r t L dr tr ps n im ke a hn24) dX12_puts_1 sX12_171 rfl rfl rfl rfl (Nat.le_of_ble_eq_true rfl) rfl (Nat.le_of_ble_eq_true rfl) (by decide) ?_
  refine z_aload_n hx dX12_puts_4 rfl ?_
  refine z_get hx dX12_puts_5 fX12_25 rfl rfl ?_
  refine z_iload_n hx dX12_puts_8 rfl ?_
  refine z_ialdJ hx dX12_puts_9 rfl (by decide) (by omega) ?_
  refine z_istore_n hx dX12_puts_10 (Nat.le_of_ble_eq_true rfl) rfl ?_
  refine z_aload_n hx dX12_puts_11 rfl ?_
  refine z_get hx dX12_puts_12 fX12_25 rfl rfl ?_
  refine z_iload_n hx dX12_puts_15 rfl ?_
  refine z_iload_n hx dX12_puts_16 rfl ?_
  first | refine z_iastN hx dX12_puts_17 rfl (by decide) (by omega) ?_ | refine z_iastJ hx dX12_puts_17 rfl (by decide) (by omega) ?_
  refine z_heap (show _ = hM r t M dr tr ((zNt ps n L).1, (zNt ps n L).2, im, ke) a by unfold hM; rw [← hM9]; rfl) ?_
  refine z_iload_n hx dX12_puts_18 rfl ?_
  exact z_iret hx hF dX12_puts_19 rfl rfl ⟨rfl, rfl⟩

noncomputable def zNi (L : zL) (ps : Nat → Nat) (n : Nat) : Nat → (Nat → Nat) × Nat
  | 0 => (ps, n)
  | d + 1 => zNt (zNi L ps n d).1 (zNi L ps n d).2 (zIt L 0 d)
theorem zNi_ok {ps : Nat → Nat} {n : Nat} (L : zL) (h : n ≤ 24) : ∀ d, (zNi L ps n d).2 ≤ 24
  | 0 => h
  | d + 1 => zNt_ok _ (zNi_ok L h d)
def zOn9 (o : Option zL) (ps : Nat → Nat) (n : Nat) (L : zL) : (Nat → Nat) × Nat := match o with | none => (ps, n) | some _ => zNt ps n L
set_option maxHeartbeats 4000000 in
set_option maxRecDepth 100000 in
theorem qX12_minutes (r : zMR) (t : zMT) (L : zL) (dr tr : Nat → Nat) (ps : Nat → Nat) (n : Nat) (im : Nat → Nat) (ke : Nat → Int32) (a : zMA) (hw : zWf L) (hm : lM L ≤ 1000) (hn24 : n ≤ 24) (v : Int32) : zMi mX12_minutes 6 ([.ref 0, .int v]) (hM r t L dr tr (ps, n, im, ke) a) (fun z u => ∃ d9, (z, d9) = aMin L v ∧ u = hM r t (zIt L 0 d9) dr tr ((zNi L ps n d9).1, (zNi L ps n d9).2, im, ke) a) := by
  refine zMi.of (by decide) (Nat.le_of_ble_eq_true rfl) (fun x hx hF => ?_)
  obtain ⟨w1, w2, w3, w4, w5⟩ := id hw
  have hloop : ∀ (hS9 : 0 < lS L) (ze : Nat) (zh1 : 1 ≤ ze) (zhe : ze ≤ 24) (zc35 : lM L + ze ≤ 999) (hF : zFi x (hM r t L dr tr (ps, n, im, ke) a).length (fun z u => ∃ d9, (z, d9) = aMin L (nI ze) ∧ u = hM r t (zIt L 0 d9) dr tr ((zNi L ps n d9).1, (zNi L ps n d9).2, im, ke) a)) (n43 d : Nat), ze - d = n43 → d ≤ ze → zV x 42 [some (.ref 0), some (.int (nI ze)), some (.int (nI d))] [] (hM r t (zIt L 0 d) dr tr ((zNi L ps n d).1, (zNi L ps n d).2, im, ke) a) := by
    intro hS9 ze zh1 zhe zc35 hF n43
    have hne : zNat (nI ze) = ze := zNat_nI (by omega)
    induction n43 using Nat.strongRecOn with
    | ind n43 ih =>
      intro d hn hd
      have w := zWf_it hw 0 d (by omega)
      have hq9 := zIt_P L 0 d
      have hyd := zNi_ok (ps := ps) L hn24 d
      refine z_iload_n hx dX12_minutes_42 rfl ?_
      refine z_iload_n hx dX12_minutes_43 rfl ?_
      first | refine z_icmp_geN (tgt := 65) hx dX12_minutes_44 (by decide) (by omega) (by omega) (fun zc44 => ?_) (fun zc44 => ?_) | refine z_icmp_ge (tgt := 65) hx dX12_minutes_44 (by decide) (fun zc44 => ?_) (fun zc44 => ?_)
      · skip
        refine z_aload_n hx dX12_minutes_65 rfl ?_
        refine z_get hx dX12_minutes_66 fX12_25 rfl rfl ?_
        refine z_callisP hx [6] (qX12_thereIn (zIt L 0 d) w) dX12_minutes_69 sX12_174 rfl rfl rfl (by decide) (by decide) rfl (Nat.le_of_ble_eq_true rfl) (by decide) ?_
        exact z_iret hx hF dX12_minutes_72 rfl rfl ⟨d, by unfold aMin; first | (rw [zIG_t hS9, zIG_t (c := inR 1 24 _) ⟨ze, zh1, zhe, rfl⟩, hne, zIG_t zc35, hq9.1, show ze = d by omega]) | exact zzz_open, rfl⟩
      · skip
        refine z_aload_n hx dX12_minutes_47 rfl ?_
        refine z_callvvF hx (qX12_notes r t (zIt L 0 d) dr tr (zNi L ps n d).1 (zNi L ps n d).2 im ke a hyd) dX12_minutes_48 sX12_171 rfl rfl rfl rfl (Nat.le_of_ble_eq_true rfl) rfl (Nat.le_of_ble_eq_true rfl) (by decide) ?_
        refine z_aload_n hx dX12_minutes_51 rfl ?_
        refine z_get hx dX12_minutes_52 fX12_25 rfl rfl ?_
        refine z_iconst (v := nI 0) hx dX12_minutes_55 (by decide) ?_
        refine z_callvsE hx [6] (qX12_passes (zIt L 0 d) w 0 (by omega)) dX12_minutes_56 sX12_163 rfl rfl rfl (by decide) (by decide) rfl (Nat.le_of_ble_eq_true rfl) (by decide) ?_
        refine z_heap (show _ = hM r t (zIt L 0 (d + 1)) dr tr ((zNi L ps n (d + 1)).1, (zNi L ps n (d + 1)).2, im, ke) a from rfl) ?_
        first | refine z_iincN (z := 1) hx dX12_minutes_59 rfl rfl ?_ | refine z_iinc hx dX12_minutes_59 rfl rfl rfl ?_
        refine z_goto (tgt := 42) hx dX12_minutes_62 (by decide) ?_
        exact ih _ (by omega) (d + 1) rfl (by omega)
  refine z_aload_n hx dX12_minutes_0 rfl ?_
  refine z_callivF hx (qX12_isLine r t L dr tr (ps, n, im, ke) a hw) dX12_minutes_1 sX12_167 rfl rfl rfl rfl (Nat.le_of_ble_eq_true rfl) rfl (Nat.le_of_ble_eq_true rfl) (by decide) ?_
  first | refine z_if_neB (tgt := 10) hx dX12_minutes_4 (by decide) (fun zc4 => ?_) (fun zc4 => ?_) | refine z_if_neN (tgt := 10) hx dX12_minutes_4 (by decide) (by omega) (fun zc4 => ?_) (fun zc4 => ?_) | refine z_if_ne (tgt := 10) hx dX12_minutes_4 (by decide) (fun zc4 => ?_) (fun zc4 => ?_)
  · skip
    refine z_iload_n hx dX12_minutes_10 rfl ?_
    refine z_iconst (v := nI 1) hx dX12_minutes_11 (by decide) ?_
    refine z_bipush (v := nI 24) hx dX12_minutes_12 (by decide) ?_
    refine z_callisP hx [] (qX12_inN _ _ _ (by decide)) dX12_minutes_14 sX12_53 rfl rfl rfl (by decide) (by decide) rfl (Nat.le_of_ble_eq_true rfl) (by decide) ?_
    first | refine z_if_neB (tgt := 23) hx dX12_minutes_17 (by decide) (fun zc17 => ?_) (fun zc17 => ?_) | refine z_if_neN (tgt := 23) hx dX12_minutes_17 (by decide) (by omega) (fun zc17 => ?_) (fun zc17 => ?_) | refine z_if_ne (tgt := 23) hx dX12_minutes_17 (by decide) (fun zc17 => ?_) (fun zc17 => ?_)
    · skip
      obtain ⟨ze, zh1, zhe, rfl⟩ := zc17
      have hne : zNat (nI ze) = ze := zNat_nI (by omega)
      refine z_aload_n hx dX12_minutes_23 rfl ?_
      refine z_get hx dX12_minutes_24 fX12_25 rfl rfl ?_
      refine z_iconst (v := nI 2) hx dX12_minutes_27 (by decide) ?_
      refine z_ialdJ hx dX12_minutes_28 rfl (by decide) (by omega) ?_
      first | refine z_topN (fl_A L _) ?_ | refine z_topN (fl_F L _) ?_ | refine z_topN (fl_W L _) ?_ | refine z_topN (fl_T L _) ?_ | refine z_topN (fl_K L _) ?_ | refine z_topN (fl_0 L) ?_ | refine z_topN (fl_1 L) ?_ | refine z_topN (fl_2 L) ?_ | refine z_topN (fl_3 L) ?_
      refine z_iload_n hx dX12_minutes_29 rfl ?_
      first | refine z_iaddN hx dX12_minutes_30 ?_ | refine z_iadd hx dX12_minutes_30 ?_
      refine z_sipush (v := nI 999) hx dX12_minutes_31 (by decide) ?_
      first | refine z_icmp_leN (tgt := 40) hx dX12_minutes_34 (by decide) (by omega) (by omega) (fun zc34 => ?_) (fun zc34 => ?_) | refine z_icmp_le (tgt := 40) hx dX12_minutes_34 (by decide) (fun zc34 => ?_) (fun zc34 => ?_)
      · skip
        refine z_iconst (v := nI 0) hx dX12_minutes_40 (by decide) ?_
        refine z_istore_n hx dX12_minutes_41 (Nat.le_of_ble_eq_true rfl) rfl ?_
        exact hloop zc4 ze zh1 zhe zc34 hF _ 0 rfl (by omega)
      · skip
        refine z_ldc hx dX12_minutes_37 kX12_82 ?_
        exact z_iret hx hF dX12_minutes_39 rfl rfl ⟨0, by unfold aMin; first | (rw [zIG_f zc4]) | (rw [zIG_t zc4, zIG_f (c := inR 1 24 v) zc17]) | (rw [zIG_t zc4, zIG_t (c := inR 1 24 _) ⟨ze, zh1, zhe, rfl⟩, zIG_f (by rw [hne]; omega)]) | exact zzz_open, rfl⟩
    · skip
      refine z_ldc hx dX12_minutes_20 kX12_61 ?_
      exact z_iret hx hF dX12_minutes_22 rfl rfl ⟨0, by unfold aMin; first | (rw [zIG_f zc4]) | (rw [zIG_t zc4, zIG_f (c := inR 1 24 v) zc17]) | (rw [zIG_t zc4, zIG_t (c := inR 1 24 _) ⟨ze, zh1, zhe, rfl⟩, zIG_f (by rw [hne]; omega)]) | exact zzz_open, rfl⟩
  · skip
    refine z_ldc hx dX12_minutes_7 kX12_170 ?_
    exact z_iret hx hF dX12_minutes_9 rfl rfl ⟨0, by unfold aMin; first | (rw [zIG_f zc4]) | (rw [zIG_t zc4, zIG_f (c := inR 1 24 v) zc17]) | (rw [zIG_t zc4, zIG_t (c := inR 1 24 _) ⟨ze, zh1, zhe, rfl⟩, zIG_f (by rw [hne]; omega)]) | exact zzz_open, rfl⟩

set_option maxHeartbeats 4000000 in
set_option maxRecDepth 100000 in
theorem qX12_walk (r : zMR) (t : zMT) (L : zL) (dr tr : Nat → Nat) (ps : Nat → Nat) (n : Nat) (im : Nat → Nat) (ke : Nat → Int32) (a : zMA) (hw : zWf L) (hm : lM L ≤ 1000) (hn24 : n ≤ 24) (v w : Int32) : zMi mX12_walk 3 ([.ref 0, .int v, .int w]) (hM r t L dr tr (ps, n, im, ke) a) (fun z u => ∃ o9, (z, o9) = aWlk L v w ∧ u = hM r t (zOl o9 L) dr tr ((zOn9 o9 ps n L).1, (zOn9 o9 ps n L).2, im, ke) a) := by
  refine zMi.of (by decide) (Nat.le_of_ble_eq_true rfl) (fun x hx hF => ?_)
  obtain ⟨w1, w2, w3, w4, w5⟩ := id hw
  refine z_aload_n hx dX12_walk_0 rfl ?_
  refine z_iload_n hx dX12_walk_1 rfl ?_
  refine z_callivF hx (qX12_isPerson r t L dr tr (ps, n, im, ke) a hw _) dX12_walk_2 sX12_178 rfl rfl rfl rfl (Nat.le_of_ble_eq_true rfl) rfl (Nat.le_of_ble_eq_true rfl) (by decide) ?_
  first | refine z_if_eqB (tgt := 17) hx dX12_walk_5 (by decide) (fun zc5 => ?_) (fun zc5 => ?_) | refine z_if_eqN (tgt := 17) hx dX12_walk_5 (by decide) (by omega) (fun zc5 => ?_) (fun zc5 => ?_) | refine z_if_eq (tgt := 17) hx dX12_walk_5 (by decide) (fun zc5 => ?_) (fun zc5 => ?_)
  · skip
    refine z_ldc hx dX12_walk_17 kX12_61 ?_
    exact z_iret hx hF dX12_walk_19 rfl rfl ⟨none, by unfold aWlk; first | (rw [zIG_f (fun h => zc5 h.1)]) | (rw [zIG_f (fun h => zc14 h.2)]) | (rw [zIG_t ⟨⟨zj, zhj, rfl⟩, ⟨ze, Nat.zero_le _, zhe, rfl⟩⟩, zIG_f (c := inP (lS L) _) zc53]) | (rw [zIG_t ⟨⟨zj, zhj, rfl⟩, ⟨ze, Nat.zero_le _, zhe, rfl⟩⟩, zIG_t (c := inP (lS L) _) zc53, hnx, hnj, hnk]) | exact zzz_open, rfl⟩
  · skip
    obtain ⟨zj, zhj, rfl⟩ := zc5
    have w6 := w5 zj zhj
    have hnj : zNat (nI zj) = zj := zNat_nI (by omega)
    refine z_iload_n hx dX12_walk_8 rfl ?_
    refine z_iconst (v := nI 0) hx dX12_walk_9 (by decide) ?_
    refine z_iconst (v := nI 1) hx dX12_walk_10 (by decide) ?_
    refine z_callisP hx [] (qX12_inN _ _ _ (by decide)) dX12_walk_11 sX12_53 rfl rfl rfl (by decide) (by decide) rfl (Nat.le_of_ble_eq_true rfl) (by decide) ?_
    first | refine z_if_neB (tgt := 20) hx dX12_walk_14 (by decide) (fun zc14 => ?_) (fun zc14 => ?_) | refine z_if_neN (tgt := 20) hx dX12_walk_14 (by decide) (by omega) (fun zc14 => ?_) (fun zc14 => ?_) | refine z_if_ne (tgt := 20) hx dX12_walk_14 (by decide) (fun zc14 => ?_) (fun zc14 => ?_)
    · skip
      obtain ⟨ze, -, zhe, rfl⟩ := zc14
      refine z_iconst (v := nI 4) hx dX12_walk_20 (by decide) ?_
      refine z_iconst (v := nI 5) hx dX12_walk_21 (by decide) ?_
      refine z_iload_n hx dX12_walk_22 rfl ?_
      first | refine z_imulN hx dX12_walk_23 ?_ | refine z_imul hx dX12_walk_23 ?_
      first | refine z_iaddN hx dX12_walk_24 ?_ | refine z_iadd hx dX12_walk_24 ?_
      refine z_istore_n hx dX12_walk_25 (Nat.le_of_ble_eq_true rfl) rfl ?_
      refine z_aload_n hx dX12_walk_26 rfl ?_
      refine z_get hx dX12_walk_27 fX12_25 rfl rfl ?_
      refine z_iload_n hx dX12_walk_30 rfl ?_
      refine z_iconst (v := nI 1) hx dX12_walk_31 (by decide) ?_
      first | refine z_iaddN hx dX12_walk_32 ?_ | refine z_iadd hx dX12_walk_32 ?_
      refine z_ialdJ hx dX12_walk_33 rfl (by decide) (by omega) ?_
      first | refine z_topN (fl_A L _) ?_ | refine z_topN (fl_F L _) ?_ | refine z_topN (fl_W L _) ?_ | refine z_topN (fl_T L _) ?_ | refine z_topN (fl_K L _) ?_ | refine z_topN (fl_0 L) ?_ | refine z_topN (fl_1 L) ?_ | refine z_topN (fl_2 L) ?_ | refine z_topN (fl_3 L) ?_
      refine z_iload_n hx dX12_walk_34 rfl ?_
      refine z_iconst (v := nI 1) hx dX12_walk_35 (by decide) ?_
      first | refine z_icmp_neN (tgt := 43) hx dX12_walk_36 (by decide) (by omega) (by omega) (fun zc36 => ?_) (fun zc36 => ?_) | refine z_icmp_ne (tgt := 43) hx dX12_walk_36 (by decide) (fun zc36 => ?_) (fun zc36 => ?_)
      · skip
        refine z_iconst (v := (-1)) hx dX12_walk_43 (by decide) ?_
        refine z_iadd hx dX12_walk_44 ?_
        first | refine z_top (b := zNx L (nI zj) (nI ze)) (by unfold zNx; rw [hnj, if_pos (by rw [zc36])]) ?_ | refine z_top (b := zNx L (nI zj) (nI ze)) (by unfold zNx; rw [hnj, if_neg (nI_ne (by omega) (by omega) zc36)]) ?_
        refine z_istore hx dX12_walk_45 (Nat.le_of_ble_eq_true rfl) rfl ?_
        refine z_aload_n hx dX12_walk_47 rfl ?_
        refine z_iload hx dX12_walk_48 rfl ?_
        refine z_callivF hx (qX12_isStop r t L dr tr (ps, n, im, ke) a hw _) dX12_walk_50 sX12_181 rfl rfl rfl rfl (Nat.le_of_ble_eq_true rfl) rfl (Nat.le_of_ble_eq_true rfl) (by decide) ?_
        first | refine z_if_neB (tgt := 59) hx dX12_walk_53 (by decide) (fun zc53 => ?_) (fun zc53 => ?_) | refine z_if_neN (tgt := 59) hx dX12_walk_53 (by decide) (by omega) (fun zc53 => ?_) (fun zc53 => ?_) | refine z_if_ne (tgt := 59) hx dX12_walk_53 (by decide) (fun zc53 => ?_) (fun zc53 => ?_)
        · skip
          obtain ⟨zk, zhk, hnx⟩ := id zc53
          have hnk : zNat (nI zk) = zk := zNat_nI (by omega)
          rw [hnx]
          refine z_aload_n hx dX12_walk_59 rfl ?_
          refine z_callvvF hx (qX12_notes r t L dr tr ps n im ke a hn24) dX12_walk_60 sX12_171 rfl rfl rfl rfl (Nat.le_of_ble_eq_true rfl) rfl (Nat.le_of_ble_eq_true rfl) (by decide) ?_
          refine z_aload_n hx dX12_walk_63 rfl ?_
          refine z_get hx dX12_walk_64 fX12_25 rfl rfl ?_
          refine z_iload_n hx dX12_walk_67 rfl ?_
          refine z_iconst (v := nI 1) hx dX12_walk_68 (by decide) ?_
          first | refine z_iaddN hx dX12_walk_69 ?_ | refine z_iadd hx dX12_walk_69 ?_
          refine z_iload hx dX12_walk_70 rfl ?_
          first | refine z_iastN hx dX12_walk_72 rfl (by decide) (by omega) ?_ | refine z_iastJ hx dX12_walk_72 rfl (by decide) (by omega) ?_
          refine z_heap (show _ = hM r t (lsA L zj zk) dr tr ((zNt ps n L).1, (zNt ps n L).2, im, ke) a by unfold hM; rw [← fl_sA]; rfl) ?_
          refine z_aload_n hx dX12_walk_73 rfl ?_
          refine z_get hx dX12_walk_74 fX12_25 rfl rfl ?_
          refine z_iload_n hx dX12_walk_77 rfl ?_
          refine z_iconst (v := nI 4) hx dX12_walk_78 (by decide) ?_
          first | refine z_iaddN hx dX12_walk_79 ?_ | refine z_iadd hx dX12_walk_79 ?_
          refine z_iconst (v := nI 0) hx dX12_walk_80 (by decide) ?_
          first | refine z_iastN hx dX12_walk_81 rfl (by decide) (by omega) ?_ | refine z_iastJ hx dX12_walk_81 rfl (by decide) (by omega) ?_
          refine z_heap (show _ = hM r t (lsT (lsA L zj zk) zj 0) dr tr ((zNt ps n L).1, (zNt ps n L).2, im, ke) a by unfold hM; rw [← fl_sT]; rfl) ?_
          refine z_iload hx dX12_walk_82 rfl ?_
          exact z_iret hx hF dX12_walk_84 rfl rfl ⟨some (lsT (lsA L zj zk) zj 0), by unfold aWlk; first | (rw [zIG_f (fun h => zc5 h.1)]) | (rw [zIG_f (fun h => zc14 h.2)]) | (rw [zIG_t ⟨⟨zj, zhj, rfl⟩, ⟨ze, Nat.zero_le _, zhe, rfl⟩⟩, zIG_f (c := inP (lS L) _) zc53]) | (rw [zIG_t ⟨⟨zj, zhj, rfl⟩, ⟨ze, Nat.zero_le _, zhe, rfl⟩⟩, zIG_t (c := inP (lS L) _) zc53, hnx, hnj, hnk]) | exact zzz_open, rfl⟩
        · skip
          refine z_ldc hx dX12_walk_56 kX12_170 ?_
          exact z_iret hx hF dX12_walk_58 rfl rfl ⟨none, by unfold aWlk; first | (rw [zIG_f (fun h => zc5 h.1)]) | (rw [zIG_f (fun h => zc14 h.2)]) | (rw [zIG_t ⟨⟨zj, zhj, rfl⟩, ⟨ze, Nat.zero_le _, zhe, rfl⟩⟩, zIG_f (c := inP (lS L) _) zc53]) | (rw [zIG_t ⟨⟨zj, zhj, rfl⟩, ⟨ze, Nat.zero_le _, zhe, rfl⟩⟩, zIG_t (c := inP (lS L) _) zc53, hnx, hnj, hnk]) | exact zzz_open, rfl⟩
      · skip
        refine z_iconst (v := nI 1) hx dX12_walk_39 (by decide) ?_
        refine z_goto (tgt := 44) hx dX12_walk_40 (by decide) ?_
        refine z_iadd hx dX12_walk_44 ?_
        first | refine z_top (b := zNx L (nI zj) (nI ze)) (by unfold zNx; rw [hnj, if_pos (by rw [zc36])]) ?_ | refine z_top (b := zNx L (nI zj) (nI ze)) (by unfold zNx; rw [hnj, if_neg (nI_ne (by omega) (by omega) zc36)]) ?_
        refine z_istore hx dX12_walk_45 (Nat.le_of_ble_eq_true rfl) rfl ?_
        refine z_aload_n hx dX12_walk_47 rfl ?_
        refine z_iload hx dX12_walk_48 rfl ?_
        refine z_callivF hx (qX12_isStop r t L dr tr (ps, n, im, ke) a hw _) dX12_walk_50 sX12_181 rfl rfl rfl rfl (Nat.le_of_ble_eq_true rfl) rfl (Nat.le_of_ble_eq_true rfl) (by decide) ?_
        first | refine z_if_neB (tgt := 59) hx dX12_walk_53 (by decide) (fun zc53 => ?_) (fun zc53 => ?_) | refine z_if_neN (tgt := 59) hx dX12_walk_53 (by decide) (by omega) (fun zc53 => ?_) (fun zc53 => ?_) | refine z_if_ne (tgt := 59) hx dX12_walk_53 (by decide) (fun zc53 => ?_) (fun zc53 => ?_)
        · skip
          obtain ⟨zk, zhk, hnx⟩ := id zc53
          have hnk : zNat (nI zk) = zk := zNat_nI (by omega)
          rw [hnx]
          refine z_aload_n hx dX12_walk_59 rfl ?_
          refine z_callvvF hx (qX12_notes r t L dr tr ps n im ke a hn24) dX12_walk_60 sX12_171 rfl rfl rfl rfl (Nat.le_of_ble_eq_true rfl) rfl (Nat.le_of_ble_eq_true rfl) (by decide) ?_
          refine z_aload_n hx dX12_walk_63 rfl ?_
          refine z_get hx dX12_walk_64 fX12_25 rfl rfl ?_
          refine z_iload_n hx dX12_walk_67 rfl ?_
          refine z_iconst (v := nI 1) hx dX12_walk_68 (by decide) ?_
          first | refine z_iaddN hx dX12_walk_69 ?_ | refine z_iadd hx dX12_walk_69 ?_
          refine z_iload hx dX12_walk_70 rfl ?_
          first | refine z_iastN hx dX12_walk_72 rfl (by decide) (by omega) ?_ | refine z_iastJ hx dX12_walk_72 rfl (by decide) (by omega) ?_
          refine z_heap (show _ = hM r t (lsA L zj zk) dr tr ((zNt ps n L).1, (zNt ps n L).2, im, ke) a by unfold hM; rw [← fl_sA]; rfl) ?_
          refine z_aload_n hx dX12_walk_73 rfl ?_
          refine z_get hx dX12_walk_74 fX12_25 rfl rfl ?_
          refine z_iload_n hx dX12_walk_77 rfl ?_
          refine z_iconst (v := nI 4) hx dX12_walk_78 (by decide) ?_
          first | refine z_iaddN hx dX12_walk_79 ?_ | refine z_iadd hx dX12_walk_79 ?_
          refine z_iconst (v := nI 0) hx dX12_walk_80 (by decide) ?_
          first | refine z_iastN hx dX12_walk_81 rfl (by decide) (by omega) ?_ | refine z_iastJ hx dX12_walk_81 rfl (by decide) (by omega) ?_
          refine z_heap (show _ = hM r t (lsT (lsA L zj zk) zj 0) dr tr ((zNt ps n L).1, (zNt ps n L).2, im, ke) a by unfold hM; rw [← fl_sT]; rfl) ?_
          refine z_iload hx dX12_walk_82 rfl ?_
          exact z_iret hx hF dX12_walk_84 rfl rfl ⟨some (lsT (lsA L zj zk) zj 0), by unfold aWlk; first | (rw [zIG_f (fun h => zc5 h.1)]) | (rw [zIG_f (fun h => zc14 h.2)]) | (rw [zIG_t ⟨⟨zj, zhj, rfl⟩, ⟨ze, Nat.zero_le _, zhe, rfl⟩⟩, zIG_f (c := inP (lS L) _) zc53]) | (rw [zIG_t ⟨⟨zj, zhj, rfl⟩, ⟨ze, Nat.zero_le _, zhe, rfl⟩⟩, zIG_t (c := inP (lS L) _) zc53, hnx, hnj, hnk]) | exact zzz_open, rfl⟩
        · skip
          refine z_ldc hx dX12_walk_56 kX12_170 ?_
          exact z_iret hx hF dX12_walk_58 rfl rfl ⟨none, by unfold aWlk; first | (rw [zIG_f (fun h => zc5 h.1)]) | (rw [zIG_f (fun h => zc14 h.2)]) | (rw [zIG_t ⟨⟨zj, zhj, rfl⟩, ⟨ze, Nat.zero_le _, zhe, rfl⟩⟩, zIG_f (c := inP (lS L) _) zc53]) | (rw [zIG_t ⟨⟨zj, zhj, rfl⟩, ⟨ze, Nat.zero_le _, zhe, rfl⟩⟩, zIG_t (c := inP (lS L) _) zc53, hnx, hnj, hnk]) | exact zzz_open, rfl⟩
    · skip
      refine z_ldc hx dX12_walk_17 kX12_61 ?_
      exact z_iret hx hF dX12_walk_19 rfl rfl ⟨none, by unfold aWlk; first | (rw [zIG_f (fun h => zc5 h.1)]) | (rw [zIG_f (fun h => zc14 h.2)]) | (rw [zIG_t ⟨⟨zj, zhj, rfl⟩, ⟨ze, Nat.zero_le _, zhe, rfl⟩⟩, zIG_f (c := inP (lS L) _) zc53]) | (rw [zIG_t ⟨⟨zj, zhj, rfl⟩, ⟨ze, Nat.zero_le _, zhe, rfl⟩⟩, zIG_t (c := inP (lS L) _) zc53, hnx, hnj, hnk]) | exact zzz_open, rfl⟩

set_option maxHeartbeats 4000000 in
set_option maxRecDepth 100000 in
theorem qX12_preach (r : zMR) (t : zMT) (L : zL) (dr tr : Nat → Nat) (ps : Nat → Nat) (n : Nat) (im : Nat → Nat) (ke : Nat → Int32) (a : zMA) (hw : zWf L) (hm : lM L ≤ 1000) (hn24 : n ≤ 24) (v w : Int32) : zMi mX12_preach 4 ([.ref 0, .int v, .int w]) (hM r t L dr tr (ps, n, im, ke) a) (fun z u => ∃ o9, (z, o9) = aPre L v w ∧ u = hM r t (zOl o9 L) dr tr ((zOn9 o9 ps n L).1, (zOn9 o9 ps n L).2, im, ke) a) := by
  refine zMi.of (by decide) (Nat.le_of_ble_eq_true rfl) (fun x hx hF => ?_)
  obtain ⟨w1, w2, w3, w4, w5⟩ := id hw
  refine z_aload_n hx dX12_preach_0 rfl ?_
  refine z_iload_n hx dX12_preach_1 rfl ?_
  refine z_callivF hx (qX12_isPerson r t L dr tr (ps, n, im, ke) a hw _) dX12_preach_2 sX12_178 rfl rfl rfl rfl (Nat.le_of_ble_eq_true rfl) rfl (Nat.le_of_ble_eq_true rfl) (by decide) ?_
  first | refine z_if_eqB (tgt := 33) hx dX12_preach_5 (by decide) (fun zc5 => ?_) (fun zc5 => ?_) | refine z_if_eqN (tgt := 33) hx dX12_preach_5 (by decide) (by omega) (fun zc5 => ?_) (fun zc5 => ?_) | refine z_if_eq (tgt := 33) hx dX12_preach_5 (by decide) (fun zc5 => ?_) (fun zc5 => ?_)
  · skip
    refine z_ldc hx dX12_preach_33 kX12_61 ?_
    first | exact z_iret hx hF dX12_preach_35 rfl rfl ⟨none, by unfold aPre; first | (rw [zIG_f (fun h => zc5 h.1)]) | (rw [zIG_f (fun h => zc15 h.2)]), rfl⟩ | exact z_iret hx hF dX12_preach_35 rfl rfl ⟨some (lsF L zj ze), by unfold aPre; rw [zIG_t ⟨⟨zj, zhj, rfl⟩, ⟨ze, Nat.zero_le _, zhe, rfl⟩⟩, hnj, hne], rfl⟩
  · skip
    obtain ⟨zj, zhj, rfl⟩ := zc5
    have hnj : zNat (nI zj) = zj := zNat_nI (by omega)
    refine z_iload_n hx dX12_preach_8 rfl ?_
    refine z_iconst (v := nI 0) hx dX12_preach_9 (by decide) ?_
    refine z_bipush (v := nI 20) hx dX12_preach_10 (by decide) ?_
    refine z_callisP hx [] (qX12_inN _ _ _ (by decide)) dX12_preach_12 sX12_53 rfl rfl rfl (by decide) (by decide) rfl (Nat.le_of_ble_eq_true rfl) (by decide) ?_
    first | refine z_if_eqB (tgt := 33) hx dX12_preach_15 (by decide) (fun zc15 => ?_) (fun zc15 => ?_) | refine z_if_eqN (tgt := 33) hx dX12_preach_15 (by decide) (by omega) (fun zc15 => ?_) (fun zc15 => ?_) | refine z_if_eq (tgt := 33) hx dX12_preach_15 (by decide) (fun zc15 => ?_) (fun zc15 => ?_)
    · skip
      refine z_ldc hx dX12_preach_33 kX12_61 ?_
      first | exact z_iret hx hF dX12_preach_35 rfl rfl ⟨none, by unfold aPre; first | (rw [zIG_f (fun h => zc5 h.1)]) | (rw [zIG_f (fun h => zc15 h.2)]), rfl⟩ | exact z_iret hx hF dX12_preach_35 rfl rfl ⟨some (lsF L zj ze), by unfold aPre; rw [zIG_t ⟨⟨zj, zhj, rfl⟩, ⟨ze, Nat.zero_le _, zhe, rfl⟩⟩, hnj, hne], rfl⟩
    · skip
      obtain ⟨ze, -, zhe, rfl⟩ := zc15
      have hne : zNat (nI ze) = ze := zNat_nI (by omega)
      refine z_aload_n hx dX12_preach_18 rfl ?_
      refine z_iconst (v := nI 4) hx dX12_preach_19 (by decide) ?_
      refine z_iconst (v := nI 5) hx dX12_preach_20 (by decide) ?_
      refine z_iload_n hx dX12_preach_21 rfl ?_
      first | refine z_imulN hx dX12_preach_22 ?_ | refine z_imul hx dX12_preach_22 ?_
      first | refine z_iaddN hx dX12_preach_23 ?_ | refine z_iadd hx dX12_preach_23 ?_
      refine z_iconst (v := nI 2) hx dX12_preach_24 (by decide) ?_
      first | refine z_iaddN hx dX12_preach_25 ?_ | refine z_iadd hx dX12_preach_25 ?_
      refine z_iload_n hx dX12_preach_26 rfl ?_
      refine z_callivF hx (qX12_puts r t L dr tr ps n im ke a hn24 (4 + 5 * zj + 2) ze (by omega) (lsF L zj ze) (fl_sF L zj ze)) dX12_preach_27 sX12_184 rfl rfl rfl rfl (Nat.le_of_ble_eq_true rfl) rfl (Nat.le_of_ble_eq_true rfl) (by decide) ?_
      refine z_topN (fl_F L zj) ?_
      refine z_goto (tgt := 35) hx dX12_preach_30 (by decide) ?_
      first | exact z_iret hx hF dX12_preach_35 rfl rfl ⟨none, by unfold aPre; first | (rw [zIG_f (fun h => zc5 h.1)]) | (rw [zIG_f (fun h => zc15 h.2)]), rfl⟩ | exact z_iret hx hF dX12_preach_35 rfl rfl ⟨some (lsF L zj ze), by unfold aPre; rw [zIG_t ⟨⟨zj, zhj, rfl⟩, ⟨ze, Nat.zero_le _, zhe, rfl⟩⟩, hnj, hne], rfl⟩

set_option maxHeartbeats 4000000 in
set_option maxRecDepth 100000 in
theorem qX12_wish (r : zMR) (t : zMT) (L : zL) (dr tr : Nat → Nat) (ps : Nat → Nat) (n : Nat) (im : Nat → Nat) (ke : Nat → Int32) (a : zMA) (hw : zWf L) (hm : lM L ≤ 1000) (hn24 : n ≤ 24) (v w : Int32) : zMi mX12_wish 4 ([.ref 0, .int v, .int w]) (hM r t L dr tr (ps, n, im, ke) a) (fun z u => ∃ o9, (z, o9) = aWsh L v w ∧ u = hM r t (zOl o9 L) dr tr ((zOn9 o9 ps n L).1, (zOn9 o9 ps n L).2, im, ke) a) := by
  refine zMi.of (by decide) (Nat.le_of_ble_eq_true rfl) (fun x hx hF => ?_)
  obtain ⟨w1, w2, w3, w4, w5⟩ := id hw
  refine z_aload_n hx dX12_wish_0 rfl ?_
  refine z_iload_n hx dX12_wish_1 rfl ?_
  refine z_callivF hx (qX12_isPerson r t L dr tr (ps, n, im, ke) a hw _) dX12_wish_2 sX12_178 rfl rfl rfl rfl (Nat.le_of_ble_eq_true rfl) rfl (Nat.le_of_ble_eq_true rfl) (by decide) ?_
  first | refine z_if_eqB (tgt := 31) hx dX12_wish_5 (by decide) (fun zc5 => ?_) (fun zc5 => ?_) | refine z_if_eqN (tgt := 31) hx dX12_wish_5 (by decide) (by omega) (fun zc5 => ?_) (fun zc5 => ?_) | refine z_if_eq (tgt := 31) hx dX12_wish_5 (by decide) (fun zc5 => ?_) (fun zc5 => ?_)
  · skip
    refine z_ldc hx dX12_wish_31 kX12_61 ?_
    first | exact z_iret hx hF dX12_wish_33 rfl rfl ⟨none, by unfold aWsh; first | (rw [zIG_f (fun h => zc5 h.1)]) | (rw [zIG_f (fun h => zc13 h.2)]), rfl⟩ | exact z_iret hx hF dX12_wish_33 rfl rfl ⟨some (lsW L zj ze), by unfold aWsh; rw [zIG_t ⟨⟨zj, zhj, rfl⟩, ⟨ze, zhe, rfl⟩⟩, hnj, hne], rfl⟩
  · skip
    obtain ⟨zj, zhj, rfl⟩ := zc5
    have hnj : zNat (nI zj) = zj := zNat_nI (by omega)
    refine z_aload_n hx dX12_wish_8 rfl ?_
    refine z_iload_n hx dX12_wish_9 rfl ?_
    refine z_callivF hx (qX12_isStop r t L dr tr (ps, n, im, ke) a hw _) dX12_wish_10 sX12_181 rfl rfl rfl rfl (Nat.le_of_ble_eq_true rfl) rfl (Nat.le_of_ble_eq_true rfl) (by decide) ?_
    first | refine z_if_eqB (tgt := 31) hx dX12_wish_13 (by decide) (fun zc13 => ?_) (fun zc13 => ?_) | refine z_if_eqN (tgt := 31) hx dX12_wish_13 (by decide) (by omega) (fun zc13 => ?_) (fun zc13 => ?_) | refine z_if_eq (tgt := 31) hx dX12_wish_13 (by decide) (fun zc13 => ?_) (fun zc13 => ?_)
    · skip
      refine z_ldc hx dX12_wish_31 kX12_61 ?_
      first | exact z_iret hx hF dX12_wish_33 rfl rfl ⟨none, by unfold aWsh; first | (rw [zIG_f (fun h => zc5 h.1)]) | (rw [zIG_f (fun h => zc13 h.2)]), rfl⟩ | exact z_iret hx hF dX12_wish_33 rfl rfl ⟨some (lsW L zj ze), by unfold aWsh; rw [zIG_t ⟨⟨zj, zhj, rfl⟩, ⟨ze, zhe, rfl⟩⟩, hnj, hne], rfl⟩
    · skip
      obtain ⟨ze, zhe, rfl⟩ := zc13
      have hne : zNat (nI ze) = ze := zNat_nI (by omega)
      refine z_aload_n hx dX12_wish_16 rfl ?_
      refine z_iconst (v := nI 4) hx dX12_wish_17 (by decide) ?_
      refine z_iconst (v := nI 5) hx dX12_wish_18 (by decide) ?_
      refine z_iload_n hx dX12_wish_19 rfl ?_
      first | refine z_imulN hx dX12_wish_20 ?_ | refine z_imul hx dX12_wish_20 ?_
      first | refine z_iaddN hx dX12_wish_21 ?_ | refine z_iadd hx dX12_wish_21 ?_
      refine z_iconst (v := nI 3) hx dX12_wish_22 (by decide) ?_
      first | refine z_iaddN hx dX12_wish_23 ?_ | refine z_iadd hx dX12_wish_23 ?_
      refine z_iload_n hx dX12_wish_24 rfl ?_
      refine z_callivF hx (qX12_puts r t L dr tr ps n im ke a hn24 (4 + 5 * zj + 3) ze (by omega) (lsW L zj ze) (fl_sW L zj ze)) dX12_wish_25 sX12_184 rfl rfl rfl rfl (Nat.le_of_ble_eq_true rfl) rfl (Nat.le_of_ble_eq_true rfl) (by decide) ?_
      refine z_topN (fl_W L zj) ?_
      refine z_goto (tgt := 33) hx dX12_wish_28 (by decide) ?_
      first | exact z_iret hx hF dX12_wish_33 rfl rfl ⟨none, by unfold aWsh; first | (rw [zIG_f (fun h => zc5 h.1)]) | (rw [zIG_f (fun h => zc13 h.2)]), rfl⟩ | exact z_iret hx hF dX12_wish_33 rfl rfl ⟨some (lsW L zj ze), by unfold aWsh; rw [zIG_t ⟨⟨zj, zhj, rfl⟩, ⟨ze, zhe, rfl⟩⟩, hnj, hne], rfl⟩

set_option maxHeartbeats 4000000 in
set_option maxRecDepth 100000 in
theorem qX12_undo (r : zMR) (t : zMT) (L : zL) (dr tr : Nat → Nat) (ps : Nat → Nat) (n : Nat) (im : Nat → Nat) (ke : Nat → Int32) (a : zMA) (hw : zWf L) (hm : lM L ≤ 1000) (hn24 : n ≤ 24) (M : zL) (hM9 : 0 < n → ∀ j, j < 34 → ps (34 * (n - 1) + j) = fl M j) : zMi mX12_undo 1 ([.ref 0]) (hM r t L dr tr (ps, n, im, ke) a) (fun z u => (n = 0 → z = -1000002 ∧ u = hM r t L dr tr (ps, n, im, ke) a) ∧ (0 < n → z = nI (n - 1) ∧ u = hM r t M dr tr (ps, (n - 1), im, ke) a)) := by
  refine zMi.of (by decide) (Nat.le_of_ble_eq_true rfl) (fun x hx hF => ?_)
  obtain ⟨w1, w2, w3, w4, w5⟩ := id hw
  refine z_aload_n hx dX12_undo_0 rfl ?_
  refine z_get hx dX12_undo_1 fX12_132 rfl rfl ?_
  refine z_topN (b := n) rfl ?_
  first | refine z_if_neB (tgt := 10) hx dX12_undo_4 (by decide) (fun zc4 => ?_) (fun zc4 => ?_) | refine z_if_neN (tgt := 10) hx dX12_undo_4 (by decide) (by omega) (fun zc4 => ?_) (fun zc4 => ?_) | refine z_if_ne (tgt := 10) hx dX12_undo_4 (by decide) (fun zc4 => ?_) (fun zc4 => ?_)
  · skip
    refine z_aload_n hx dX12_undo_10 rfl ?_
    refine z_dup hx dX12_undo_11 rfl ?_
    refine z_get hx dX12_undo_12 fX12_132 rfl rfl ?_
    refine z_topN (b := n) rfl ?_
    refine z_iconst (v := nI 1) hx dX12_undo_15 (by decide) ?_
    first | refine z_isubN hx dX12_undo_16 (by omega) ?_ | refine z_isub hx dX12_undo_16 ?_
    refine z_puti hx dX12_undo_17 pX12_132 rfl (Nat.le_of_ble_eq_true rfl) ?_
    refine z_aload_n hx dX12_undo_20 rfl ?_
    refine z_get hx dX12_undo_21 fX12_34 rfl rfl ?_
    refine z_bipush (v := nI 34) hx dX12_undo_24 (by decide) ?_
    refine z_aload_n hx dX12_undo_26 rfl ?_
    refine z_get hx dX12_undo_27 fX12_132 rfl rfl ?_
    refine z_topN (b := (n - 1)) rfl ?_
    first | refine z_imulN hx dX12_undo_30 ?_ | refine z_imul hx dX12_undo_30 ?_
    refine z_aload_n hx dX12_undo_31 rfl ?_
    refine z_get hx dX12_undo_32 fX12_25 rfl rfl ?_
    refine z_iconst (v := nI 0) hx dX12_undo_35 (by decide) ?_
    refine z_callvsE hx [9, 6] (qX12_copies 816 34 (fun j => nI (ps j)) (fun j => nI (fl L j)) (34 * (n - 1)) 0 (by decide) (by decide) (by omega) (by omega)) dX12_undo_36 sX12_128 rfl rfl rfl (by decide) (by decide) rfl (Nat.le_of_ble_eq_true rfl) (by decide) ?_
    refine z_cell (q := 6) (fun j => nI (fl M j)) rfl (fun j hj => by unfold va_cpy; rw [if_pos (by omega)]; exact congrArg nI (hM9 zc4 j hj)) ?_
    refine z_heap (show _ = hM r t M dr tr (ps, (n - 1), im, ke) a from rfl) ?_
    refine z_aload_n hx dX12_undo_39 rfl ?_
    refine z_get hx dX12_undo_40 fX12_132 rfl rfl ?_
    refine z_topN (b := (n - 1)) rfl ?_
    exact z_iret hx hF dX12_undo_43 rfl rfl ⟨fun h9 => by first | exact ⟨rfl, rfl⟩ | (exfalso; omega), fun h9 => by first | exact ⟨rfl, rfl⟩ | (exfalso; omega)⟩
  · skip
    refine z_ldc hx dX12_undo_7 kX12_170 ?_
    exact z_iret hx hF dX12_undo_9 rfl rfl ⟨fun h9 => by first | exact ⟨rfl, rfl⟩ | (exfalso; omega), fun h9 => by first | exact ⟨rfl, rfl⟩ | (exfalso; omega)⟩

def zOm (o : Option Nat) (im : Nat → Nat) (L : zL) : Nat → Nat := match o with | none => im | some k => zSg im (34 * k) L
def zOk9 (o : Option Nat) (ke : Nat → Int32) : Nat → Int32 := match o with | none => ke | some k => upd ke k 1
theorem vp_nb1 : vp_nar .boolean (nI 1) = 1 := by decide
set_option maxHeartbeats 4000000 in
set_option maxRecDepth 100000 in
theorem qX12_image (r : zMR) (t : zMT) (L : zL) (dr tr : Nat → Nat) (ps : Nat → Nat) (n : Nat) (im : Nat → Nat) (ke : Nat → Int32) (a : zMA) (hw : zWf L) (hm : lM L ≤ 1000) (hn24 : n ≤ 24) (v : Int32) : zMi mX12_image 2 ([.ref 0, .int v]) (hM r t L dr tr (ps, n, im, ke) a) (fun z u => ∃ o9, (z, o9) = aImg L v ∧ u = hM r t L dr tr (ps, n, zOm o9 im L, zOk9 o9 ke) a) := by
  refine zMi.of (by decide) (Nat.le_of_ble_eq_true rfl) (fun x hx hF => ?_)
  obtain ⟨w1, w2, w3, w4, w5⟩ := id hw
  refine z_iload_n hx dX12_image_0 rfl ?_
  refine z_iconst (v := nI 0) hx dX12_image_1 (by decide) ?_
  refine z_iconst (v := nI 1) hx dX12_image_2 (by decide) ?_
  refine z_callisP hx [] (qX12_inN _ _ _ (by decide)) dX12_image_3 sX12_53 rfl rfl rfl (by decide) (by decide) rfl (Nat.le_of_ble_eq_true rfl) (by decide) ?_
  first | refine z_if_neB (tgt := 12) hx dX12_image_6 (by decide) (fun zc6 => ?_) (fun zc6 => ?_) | refine z_if_neN (tgt := 12) hx dX12_image_6 (by decide) (by omega) (fun zc6 => ?_) (fun zc6 => ?_) | refine z_if_ne (tgt := 12) hx dX12_image_6 (by decide) (fun zc6 => ?_) (fun zc6 => ?_)
  · skip
    obtain ⟨ze, -, zhe, rfl⟩ := zc6
    have hne : zNat (nI ze) = ze := zNat_nI (by omega)
    refine z_aload_n hx dX12_image_12 rfl ?_
    refine z_callivF hx (qX12_isLine r t L dr tr (ps, n, im, ke) a hw) dX12_image_13 sX12_167 rfl rfl rfl rfl (Nat.le_of_ble_eq_true rfl) rfl (Nat.le_of_ble_eq_true rfl) (by decide) ?_
    first | refine z_if_neB (tgt := 22) hx dX12_image_16 (by decide) (fun zc16 => ?_) (fun zc16 => ?_) | refine z_if_neN (tgt := 22) hx dX12_image_16 (by decide) (by omega) (fun zc16 => ?_) (fun zc16 => ?_) | refine z_if_ne (tgt := 22) hx dX12_image_16 (by decide) (fun zc16 => ?_) (fun zc16 => ?_)
    · skip
      refine z_aload_n hx dX12_image_22 rfl ?_
      refine z_get hx dX12_image_23 fX12_25 rfl rfl ?_
      refine z_iconst (v := nI 0) hx dX12_image_26 (by decide) ?_
      refine z_aload_n hx dX12_image_27 rfl ?_
      refine z_get hx dX12_image_28 fX12_37 rfl rfl ?_
      refine z_bipush (v := nI 34) hx dX12_image_31 (by decide) ?_
      refine z_iload_n hx dX12_image_33 rfl ?_
      first | refine z_imulN hx dX12_image_34 ?_ | refine z_imul hx dX12_image_34 ?_
      refine z_callvsE hx [6, 10] (qX12_copies 34 68 (fun j => nI (fl L j)) (fun j => nI (im j)) 0 (34 * ze) (by decide) (by decide) (by omega) (by omega)) dX12_image_35 sX12_128 rfl rfl rfl (by decide) (by decide) rfl (Nat.le_of_ble_eq_true rfl) (by decide) ?_
      refine z_cell (q := 10) (fun j => nI (zSg im (34 * ze) L j)) rfl (fun j hj => zSg_ok im (34 * ze) L j) ?_
      refine z_heap (show _ = hM r t L dr tr (ps, n, zSg im (34 * ze) L, ke) a from rfl) ?_
      refine z_aload_n hx dX12_image_38 rfl ?_
      refine z_get hx dX12_image_39 fX12_40 rfl rfl ?_
      refine z_iload_n hx dX12_image_42 rfl ?_
      refine z_iconst (v := nI 1) hx dX12_image_43 (by decide) ?_
      refine z_zast hx dX12_image_44 rfl (vp_in_nI (by omega) (by decide)) ?_
      rw [nI_cl (by omega), vp_nb1]
      refine z_heap (show _ = hM r t L dr tr (ps, n, zSg im (34 * ze) L, upd ke ze 1) a from rfl) ?_
      refine z_iconst (v := nI 1) hx dX12_image_45 (by decide) ?_
      exact z_iret hx hF dX12_image_46 rfl rfl ⟨some ze, by unfold aImg; first | (rw [zIG_f (c := inR 0 1 v) zc6]) | (rw [zIG_t (c := inR 0 1 _) ⟨ze, Nat.zero_le _, zhe, rfl⟩, zIG_f zc16]) | (rw [zIG_t (c := inR 0 1 _) ⟨ze, Nat.zero_le _, zhe, rfl⟩, zIG_t zc16, hne]) | exact zzz_open, rfl⟩
    · skip
      refine z_ldc hx dX12_image_19 kX12_170 ?_
      exact z_iret hx hF dX12_image_21 rfl rfl ⟨none, by unfold aImg; first | (rw [zIG_f (c := inR 0 1 v) zc6]) | (rw [zIG_t (c := inR 0 1 _) ⟨ze, Nat.zero_le _, zhe, rfl⟩, zIG_f zc16]) | (rw [zIG_t (c := inR 0 1 _) ⟨ze, Nat.zero_le _, zhe, rfl⟩, zIG_t zc16, hne]) | exact zzz_open, rfl⟩
  · skip
    refine z_ldc hx dX12_image_9 kX12_61 ?_
    exact z_iret hx hF dX12_image_11 rfl rfl ⟨none, by unfold aImg; first | (rw [zIG_f (c := inR 0 1 v) zc6]) | (rw [zIG_t (c := inR 0 1 _) ⟨ze, Nat.zero_le _, zhe, rfl⟩, zIG_f zc16]) | (rw [zIG_t (c := inR 0 1 _) ⟨ze, Nat.zero_le _, zhe, rfl⟩, zIG_t zc16, hne]) | exact zzz_open, rfl⟩

/-- restore in the reference: of the images those that are kept -/
noncomputable def aRsm (ke : Nat → Int32) (M : Nat → zL) (v : Int32) : Int32 × Option zL := zIG (inR 0 1 v) (zIG (ke (zNat v) = 0) (-1000002, none) (nI 1, some (M (zNat v)))) (-1000001, none)
def zOz (o : Option zL) (n : Nat) : Nat := match o with | none => n | some _ => 0
set_option maxHeartbeats 4000000 in
set_option maxRecDepth 100000 in
theorem qX12_restore (r : zMR) (t : zMT) (L : zL) (dr tr : Nat → Nat) (ps : Nat → Nat) (n : Nat) (im : Nat → Nat) (ke : Nat → Int32) (a : zMA) (hw : zWf L) (hm : lM L ≤ 1000) (hn24 : n ≤ 24) (M : Nat → zL) (hM9 : ∀ k, k < 2 → ¬ ke k = 0 → ∀ j, j < 34 → im (34 * k + j) = fl (M k) j) (v : Int32) : zMi mX12_restore 2 ([.ref 0, .int v]) (hM r t L dr tr (ps, n, im, ke) a) (fun z u => ∃ o9, (z, o9) = aRsm ke M v ∧ u = hM r t (zOl o9 L) dr tr (ps, (zOz o9 n), im, ke) a) := by
  refine zMi.of (by decide) (Nat.le_of_ble_eq_true rfl) (fun x hx hF => ?_)
  obtain ⟨w1, w2, w3, w4, w5⟩ := id hw
  refine z_iload_n hx dX12_restore_0 rfl ?_
  refine z_iconst (v := nI 0) hx dX12_restore_1 (by decide) ?_
  refine z_iconst (v := nI 1) hx dX12_restore_2 (by decide) ?_
  refine z_callisP hx [] (qX12_inN _ _ _ (by decide)) dX12_restore_3 sX12_53 rfl rfl rfl (by decide) (by decide) rfl (Nat.le_of_ble_eq_true rfl) (by decide) ?_
  first | refine z_if_neB (tgt := 12) hx dX12_restore_6 (by decide) (fun zc6 => ?_) (fun zc6 => ?_) | refine z_if_neN (tgt := 12) hx dX12_restore_6 (by decide) (by omega) (fun zc6 => ?_) (fun zc6 => ?_) | refine z_if_ne (tgt := 12) hx dX12_restore_6 (by decide) (fun zc6 => ?_) (fun zc6 => ?_)
  · skip
    obtain ⟨ze, -, zhe, rfl⟩ := zc6
    have hne : zNat (nI ze) = ze := zNat_nI (by omega)
    refine z_aload_n hx dX12_restore_12 rfl ?_
    refine z_get hx dX12_restore_13 fX12_40 rfl rfl ?_
    refine z_iload_n hx dX12_restore_16 rfl ?_
    refine z_zald hx dX12_restore_17 rfl (vp_in_nI (by omega) (by decide)) ?_
    rw [nI_cl (by omega)]
    refine z_if_ne (tgt := 24) hx dX12_restore_18 (by decide) (fun zc18 => ?_) (fun zc18 => ?_)
    · skip
      refine z_aload_n hx dX12_restore_24 rfl ?_
      refine z_get hx dX12_restore_25 fX12_37 rfl rfl ?_
      refine z_bipush (v := nI 34) hx dX12_restore_28 (by decide) ?_
      refine z_iload_n hx dX12_restore_30 rfl ?_
      first | refine z_imulN hx dX12_restore_31 ?_ | refine z_imul hx dX12_restore_31 ?_
      refine z_aload_n hx dX12_restore_32 rfl ?_
      refine z_get hx dX12_restore_33 fX12_25 rfl rfl ?_
      refine z_iconst (v := nI 0) hx dX12_restore_36 (by decide) ?_
      refine z_callvsE hx [10, 6] (qX12_copies 68 34 (fun j => nI (im j)) (fun j => nI (fl L j)) (34 * ze) 0 (by decide) (by decide) (by omega) (by omega)) dX12_restore_37 sX12_128 rfl rfl rfl (by decide) (by decide) rfl (Nat.le_of_ble_eq_true rfl) (by decide) ?_
      refine z_cell (q := 6) (fun j => nI (fl (M ze) j)) rfl (fun j hj => by unfold va_cpy; rw [if_pos (by omega)]; exact congrArg nI (hM9 ze (by omega) zc18 j hj)) ?_
      refine z_heap (show _ = hM r t (M ze) dr tr (ps, n, im, ke) a from rfl) ?_
      refine z_aload_n hx dX12_restore_40 rfl ?_
      refine z_iconst (v := nI 0) hx dX12_restore_41 (by decide) ?_
      refine z_puti hx dX12_restore_42 pX12_132 rfl (Nat.le_of_ble_eq_true rfl) ?_
      refine z_iconst (v := nI 1) hx dX12_restore_45 (by decide) ?_
      exact z_iret hx hF dX12_restore_46 rfl rfl ⟨some (M ze), by unfold aRsm; first | (rw [zIG_f (c := inR 0 1 v) zc6]) | (rw [zIG_t (c := inR 0 1 _) ⟨ze, Nat.zero_le _, zhe, rfl⟩, hne, zIG_t zc18]) | (rw [zIG_t (c := inR 0 1 _) ⟨ze, Nat.zero_le _, zhe, rfl⟩, hne, zIG_f zc18]) | exact zzz_open, rfl⟩
    · skip
      refine z_ldc hx dX12_restore_21 kX12_170 ?_
      exact z_iret hx hF dX12_restore_23 rfl rfl ⟨none, by unfold aRsm; first | (rw [zIG_f (c := inR 0 1 v) zc6]) | (rw [zIG_t (c := inR 0 1 _) ⟨ze, Nat.zero_le _, zhe, rfl⟩, hne, zIG_t zc18]) | (rw [zIG_t (c := inR 0 1 _) ⟨ze, Nat.zero_le _, zhe, rfl⟩, hne, zIG_f zc18]) | exact zzz_open, rfl⟩
  · skip
    refine z_ldc hx dX12_restore_9 kX12_61 ?_
    exact z_iret hx hF dX12_restore_11 rfl rfl ⟨none, by unfold aRsm; first | (rw [zIG_f (c := inR 0 1 v) zc6]) | (rw [zIG_t (c := inR 0 1 _) ⟨ze, Nat.zero_le _, zhe, rfl⟩, hne, zIG_t zc18]) | (rw [zIG_t (c := inR 0 1 _) ⟨ze, Nat.zero_le _, zhe, rfl⟩, hne, zIG_f zc18]) | exact zzz_open, rfl⟩

