theorem zTo_s {P : zL} {g : Nat → Int32} {k : Nat} : (zTo P g (k + 1)) ↔ (zTo P g k ∧ tI (zTr (zIt P 0 k) 0) = g k) := by
  constructor
  · intro h; exact ⟨fun j hj => h j (by omega), h k (by omega)⟩
  · intro h j hj
    rcases (show j < k ∨ j = k by omega) with q | q
    · exact h.1 j q
    · rw [q]; exact h.2
theorem zTo_0 (P : zL) (g : Nat → Int32) : zTo P g 0 := fun j hj => absurd hj (by omega)
set_option maxHeartbeats 4000000 in
set_option maxRecDepth 100000 in
theorem qX12_goesSo (la : Nat → Nat) (sz : Nat → Option Nat) (it : Nat → Nat → Int32) (mn : Nat → Nat) (sp : Nat → Int32) (st : Nat) (t : zMT) (L : zL) (dr : Nat → Nat) (y : zMY) (a : zMA) (P : zL) (hw : zWf P) (hm : lM P ≤ 1000) (fr n : Nat) (hfr : fr + n ≤ 320) (hn16 : n ≤ 16) (g : Nat → Int32) (hg : ∀ k, k < n → mIt it (fr + k) = g k) : zMi mX12_goesSo 5 ([.ref 0, .int (nI fr), .int (nI n)]) (hMr (mLa la sz) mn (mIt it) sp (st) t L dr (fl P) y a) (fun z u => z = bP (zTo P g n) ∧ ∃ tr, u = hMr (mLa la sz) mn (mIt it) sp (st) t L dr (tr) y a) := by
  refine zMi.of (by decide) (Nat.le_of_ble_eq_true rfl) (fun x hx hF => ?_)
  have loop5 : ∀ (n5 : Nat) (k : Nat), n - k = n5 → k ≤ n → zV x 5 [some (.ref 0), some (.int (nI fr)), some (.int (nI n)), some (.int (bP (zTo P g k))), some (.int (nI k)), none] ([]) (hMr (mLa la sz) mn (mIt it) sp (st) t L dr (fl (zIt P 0 k)) y a) := by
    intro n5
    induction n5 using Nat.strongRecOn with
    | ind n5 ih =>
      intro k hn hk
      have w := zWf_it hw 0 k (by omega)
      have htt := tI_tN (x := zTr (zIt P 0 k) 0) (fun zj zhj => by have := zTr_lt zhj; have := w.1; omega)
      have hts := zTo_s (P := P) (g := g) (k := k)
      refine z_iload hx dX12_goesSo_5 rfl ?_
      refine z_iload_n hx dX12_goesSo_7 rfl ?_
      first | refine z_icmp_geN (tgt := 70) hx dX12_goesSo_8 (by decide) (by omega) (by omega) (fun zc8 => ?_) (fun zc8 => ?_) | refine z_icmp_ge (tgt := 70) hx dX12_goesSo_8 (by decide) (fun zc8 => ?_) (fun zc8 => ?_)
      · skip
        refine z_iload_n hx dX12_goesSo_70 rfl ?_
        exact z_zret hx hF dX12_goesSo_71 rfl (by first | exact bP_nar _ | rfl) rfl ⟨by rw [show n = k by omega], _, rfl⟩
      · skip
        refine z_aload_n hx dX12_goesSo_11 rfl ?_
        refine z_get hx dX12_goesSo_12 fX12_31 rfl rfl ?_
        refine z_iconst (v := nI 0) hx dX12_goesSo_15 (by decide) ?_
        refine z_callisP hx [8] (qX12_tramBy (zIt P 0 k) w 0 (by decide)) dX12_goesSo_16 sX12_160 rfl rfl rfl (by decide) (by decide) rfl (Nat.le_of_ble_eq_true rfl) (by decide) ?_
        refine z_istore hx dX12_goesSo_19 (Nat.le_of_ble_eq_true rfl) rfl ?_
        refine z_iload_n hx dX12_goesSo_21 rfl ?_
        refine z_if_eqB (tgt := 54) hx dX12_goesSo_22 (by decide) (fun zc22 => ?_) (fun zc22 => ?_)
        · skip
          refine z_iconst (v := nI 0) hx dX12_goesSo_54 (by decide) ?_
          refine z_istore_n hx dX12_goesSo_55 (Nat.le_of_ble_eq_true rfl) rfl ?_
          refine z_aload_n hx dX12_goesSo_56 rfl ?_
          refine z_get hx dX12_goesSo_57 fX12_31 rfl rfl ?_
          refine z_iconst (v := nI 0) hx dX12_goesSo_60 (by decide) ?_
          refine z_callvsE hx [8] (qX12_passes (zIt P 0 k) w 0 (by decide)) dX12_goesSo_61 sX12_163 rfl rfl rfl (by decide) (by decide) rfl (Nat.le_of_ble_eq_true rfl) (by decide) ?_
          refine z_heap (show _ = hMr (mLa la sz) mn (mIt it) sp (st) t L dr (fl (zIt P 0 (k + 1))) y a from rfl) ?_
          first | refine z_iincN (z := 1) hx dX12_goesSo_64 rfl rfl ?_ | refine z_iinc hx dX12_goesSo_64 rfl rfl rfl ?_
          refine z_goto (tgt := 5) hx dX12_goesSo_67 (by decide) ?_
          first | exact z_kill 5 (z_eq (by rw [bP_t (hts.mpr ⟨zc22, zc47⟩)]; rfl) rfl rfl (ih _ (by omega) (k + 1) rfl (by omega))) | exact z_kill 5 (z_eq (by rw [bP_f (fun e => zc47 (hts.mp e).2)]; rfl) rfl rfl (ih _ (by omega) (k + 1) rfl (by omega))) | exact z_kill 5 (z_eq (by rw [bP_f (fun e => zc22 (hts.mp e).1)]; rfl) rfl rfl (ih _ (by omega) (k + 1) rfl (by omega)))
        · skip
          refine z_iload hx dX12_goesSo_25 rfl ?_
          refine z_ldc hx dX12_goesSo_27 kX12_47 ?_
          by_cases hti : tI (zTr (zIt P 0 k) 0) = -1
          · skip
            refine z_icmp_ne (tgt := 36) hx dX12_goesSo_29 (by decide) (fun zc29 => absurd (htt.1 hti) zc29) (fun zc29 => ?_)
            refine z_iconst (v := -1) hx dX12_goesSo_32 (by decide) ?_
            refine z_top (b := tI (zTr (zIt P 0 k) 0)) hti.symm ?_
            refine z_goto (tgt := 38) hx dX12_goesSo_33 (by decide) ?_
            skip
            refine z_aload_n hx dX12_goesSo_38 rfl ?_
            refine z_get hx dX12_goesSo_39 fX12_16 rfl rfl ?_
            refine z_iload_n hx dX12_goesSo_42 rfl ?_
            refine z_iload hx dX12_goesSo_43 rfl ?_
            first | refine z_iaddN hx dX12_goesSo_45 ?_ | refine z_iadd hx dX12_goesSo_45 ?_
            refine z_ialdJ hx dX12_goesSo_46 rfl (by decide) (by omega) ?_
            refine z_top (hg k (by omega)) ?_
            refine z_icmp_ne (tgt := 54) hx dX12_goesSo_47 (by decide) (fun zc47 => ?_) (fun zc47 => ?_)
            · skip
              refine z_iconst (v := nI 0) hx dX12_goesSo_54 (by decide) ?_
              refine z_istore_n hx dX12_goesSo_55 (Nat.le_of_ble_eq_true rfl) rfl ?_
              refine z_aload_n hx dX12_goesSo_56 rfl ?_
              refine z_get hx dX12_goesSo_57 fX12_31 rfl rfl ?_
              refine z_iconst (v := nI 0) hx dX12_goesSo_60 (by decide) ?_
              refine z_callvsE hx [8] (qX12_passes (zIt P 0 k) w 0 (by decide)) dX12_goesSo_61 sX12_163 rfl rfl rfl (by decide) (by decide) rfl (Nat.le_of_ble_eq_true rfl) (by decide) ?_
              refine z_heap (show _ = hMr (mLa la sz) mn (mIt it) sp (st) t L dr (fl (zIt P 0 (k + 1))) y a from rfl) ?_
              first | refine z_iincN (z := 1) hx dX12_goesSo_64 rfl rfl ?_ | refine z_iinc hx dX12_goesSo_64 rfl rfl rfl ?_
              refine z_goto (tgt := 5) hx dX12_goesSo_67 (by decide) ?_
              first | exact z_kill 5 (z_eq (by rw [bP_t (hts.mpr ⟨zc22, zc47⟩)]; rfl) rfl rfl (ih _ (by omega) (k + 1) rfl (by omega))) | exact z_kill 5 (z_eq (by rw [bP_f (fun e => zc47 (hts.mp e).2)]; rfl) rfl rfl (ih _ (by omega) (k + 1) rfl (by omega))) | exact z_kill 5 (z_eq (by rw [bP_f (fun e => zc22 (hts.mp e).1)]; rfl) rfl rfl (ih _ (by omega) (k + 1) rfl (by omega)))
            · skip
              refine z_iconst (v := nI 1) hx dX12_goesSo_50 (by decide) ?_
              refine z_goto (tgt := 55) hx dX12_goesSo_51 (by decide) ?_
              refine z_istore_n hx dX12_goesSo_55 (Nat.le_of_ble_eq_true rfl) rfl ?_
              refine z_aload_n hx dX12_goesSo_56 rfl ?_
              refine z_get hx dX12_goesSo_57 fX12_31 rfl rfl ?_
              refine z_iconst (v := nI 0) hx dX12_goesSo_60 (by decide) ?_
              refine z_callvsE hx [8] (qX12_passes (zIt P 0 k) w 0 (by decide)) dX12_goesSo_61 sX12_163 rfl rfl rfl (by decide) (by decide) rfl (Nat.le_of_ble_eq_true rfl) (by decide) ?_
              refine z_heap (show _ = hMr (mLa la sz) mn (mIt it) sp (st) t L dr (fl (zIt P 0 (k + 1))) y a from rfl) ?_
              first | refine z_iincN (z := 1) hx dX12_goesSo_64 rfl rfl ?_ | refine z_iinc hx dX12_goesSo_64 rfl rfl rfl ?_
              refine z_goto (tgt := 5) hx dX12_goesSo_67 (by decide) ?_
              first | exact z_kill 5 (z_eq (by rw [bP_t (hts.mpr ⟨zc22, zc47⟩)]; rfl) rfl rfl (ih _ (by omega) (k + 1) rfl (by omega))) | exact z_kill 5 (z_eq (by rw [bP_f (fun e => zc47 (hts.mp e).2)]; rfl) rfl rfl (ih _ (by omega) (k + 1) rfl (by omega))) | exact z_kill 5 (z_eq (by rw [bP_f (fun e => zc22 (hts.mp e).1)]; rfl) rfl rfl (ih _ (by omega) (k + 1) rfl (by omega)))
          · skip
            refine z_icmp_ne (tgt := 36) hx dX12_goesSo_29 (by decide) (fun zc29 => ?_) (fun zc29 => absurd ((tN_none (fun n9 e9 => by have := zTr_lt e9; have := w.1; omega)).mp zc29) (fun e => hti (by rw [e]; rfl)))
            refine z_iload hx dX12_goesSo_36 rfl ?_
            refine z_top (b := tI (zTr (zIt P 0 k) 0)) (htt.2 hti).symm ?_
            skip
            refine z_aload_n hx dX12_goesSo_38 rfl ?_
            refine z_get hx dX12_goesSo_39 fX12_16 rfl rfl ?_
            refine z_iload_n hx dX12_goesSo_42 rfl ?_
            refine z_iload hx dX12_goesSo_43 rfl ?_
            first | refine z_iaddN hx dX12_goesSo_45 ?_ | refine z_iadd hx dX12_goesSo_45 ?_
            refine z_ialdJ hx dX12_goesSo_46 rfl (by decide) (by omega) ?_
            refine z_top (hg k (by omega)) ?_
            refine z_icmp_ne (tgt := 54) hx dX12_goesSo_47 (by decide) (fun zc47 => ?_) (fun zc47 => ?_)
            · skip
              refine z_iconst (v := nI 0) hx dX12_goesSo_54 (by decide) ?_
              refine z_istore_n hx dX12_goesSo_55 (Nat.le_of_ble_eq_true rfl) rfl ?_
              refine z_aload_n hx dX12_goesSo_56 rfl ?_
              refine z_get hx dX12_goesSo_57 fX12_31 rfl rfl ?_
              refine z_iconst (v := nI 0) hx dX12_goesSo_60 (by decide) ?_
              refine z_callvsE hx [8] (qX12_passes (zIt P 0 k) w 0 (by decide)) dX12_goesSo_61 sX12_163 rfl rfl rfl (by decide) (by decide) rfl (Nat.le_of_ble_eq_true rfl) (by decide) ?_
              refine z_heap (show _ = hMr (mLa la sz) mn (mIt it) sp (st) t L dr (fl (zIt P 0 (k + 1))) y a from rfl) ?_
              first | refine z_iincN (z := 1) hx dX12_goesSo_64 rfl rfl ?_ | refine z_iinc hx dX12_goesSo_64 rfl rfl rfl ?_
              refine z_goto (tgt := 5) hx dX12_goesSo_67 (by decide) ?_
              first | exact z_kill 5 (z_eq (by rw [bP_t (hts.mpr ⟨zc22, zc47⟩)]; rfl) rfl rfl (ih _ (by omega) (k + 1) rfl (by omega))) | exact z_kill 5 (z_eq (by rw [bP_f (fun e => zc47 (hts.mp e).2)]; rfl) rfl rfl (ih _ (by omega) (k + 1) rfl (by omega))) | exact z_kill 5 (z_eq (by rw [bP_f (fun e => zc22 (hts.mp e).1)]; rfl) rfl rfl (ih _ (by omega) (k + 1) rfl (by omega)))
            · skip
              refine z_iconst (v := nI 1) hx dX12_goesSo_50 (by decide) ?_
              refine z_goto (tgt := 55) hx dX12_goesSo_51 (by decide) ?_
              refine z_istore_n hx dX12_goesSo_55 (Nat.le_of_ble_eq_true rfl) rfl ?_
              refine z_aload_n hx dX12_goesSo_56 rfl ?_
              refine z_get hx dX12_goesSo_57 fX12_31 rfl rfl ?_
              refine z_iconst (v := nI 0) hx dX12_goesSo_60 (by decide) ?_
              refine z_callvsE hx [8] (qX12_passes (zIt P 0 k) w 0 (by decide)) dX12_goesSo_61 sX12_163 rfl rfl rfl (by decide) (by decide) rfl (Nat.le_of_ble_eq_true rfl) (by decide) ?_
              refine z_heap (show _ = hMr (mLa la sz) mn (mIt it) sp (st) t L dr (fl (zIt P 0 (k + 1))) y a from rfl) ?_
              first | refine z_iincN (z := 1) hx dX12_goesSo_64 rfl rfl ?_ | refine z_iinc hx dX12_goesSo_64 rfl rfl rfl ?_
              refine z_goto (tgt := 5) hx dX12_goesSo_67 (by decide) ?_
              first | exact z_kill 5 (z_eq (by rw [bP_t (hts.mpr ⟨zc22, zc47⟩)]; rfl) rfl rfl (ih _ (by omega) (k + 1) rfl (by omega))) | exact z_kill 5 (z_eq (by rw [bP_f (fun e => zc47 (hts.mp e).2)]; rfl) rfl rfl (ih _ (by omega) (k + 1) rfl (by omega))) | exact z_kill 5 (z_eq (by rw [bP_f (fun e => zc22 (hts.mp e).1)]; rfl) rfl rfl (ih _ (by omega) (k + 1) rfl (by omega)))
  refine z_iconst (v := nI 1) hx dX12_goesSo_0 (by decide) ?_
  refine z_istore_n hx dX12_goesSo_1 (Nat.le_of_ble_eq_true rfl) rfl ?_
  refine z_iconst (v := nI 0) hx dX12_goesSo_2 (by decide) ?_
  refine z_istore hx dX12_goesSo_3 (Nat.le_of_ble_eq_true rfl) rfl ?_
  exact z_eq (by rw [bP_t (zTo_0 P g)]; rfl) rfl rfl (loop5 _ 0 rfl (Nat.zero_le _))

set_option maxHeartbeats 4000000 in
set_option maxRecDepth 100000 in
theorem qX12_fits (la : Nat → Nat) (sz : Nat → Option Nat) (it : Nat → Nat → Int32) (mn : Nat → Nat) (sp : Nat → Int32) (st : Nat) (t : zMT) (L : zL) (dr tr : Nat → Nat) (y : zMY) (a : zMA) (hs : zRok sz) (hla : ∀ j, la j ≤ 2) (hmn : zMn sz mn) (hw : zWf L) (hm : lM L ≤ 1000) (v rw i9 n9 w : Int32) : zMi mX12_fits 8 ([.ref 0, .int v, .int rw, .int i9, .int n9, .int w]) (hMr (mLa la sz) mn (mIt it) sp (st) t L dr (tr) y a) (fun z u => ∃ s9 tr9, (z, s9) = aFits (la, sz, it) L st v rw i9 n9 w ∧ u = hMr (mLa la sz) mn (mIt it) sp (s9) t L dr (tr9) y a) := by
  refine zMi.of (by decide) (Nat.le_of_ble_eq_true rfl) (fun x hx hF => ?_)
  obtain ⟨w1, w2, w3, w4, w5⟩ := id hw
  have hloop0 : ∀ (zj : Nat) (zhj : zj < lP L) (zr : Nat) (zhr : zr ≤ 7) (zn : Nat) (zh1 : 1 ≤ zn) (zhn : zn ≤ 16) (ka s9 : Nat) (hzs : sz zr = some s9) (hkn : ka + zn ≤ s9) (hF : zFi x (hMr (mLa la sz) mn (mIt it) sp (st) t L dr (tr) y a).length (fun z u => ∃ s9 tr9, (z, s9) = aFits (la, sz, it) L st (nI zj) (nI zr) (nI ka) (nI zn) (nI 0) ∧ u = hMr (mLa la sz) mn (mIt it) sp (s9) t L dr (tr9) y a)) (n95 v : Nat) (tr : Nat → Nat), 21 - v = n95 → 0 ≤ v → v ≤ 21 → zV x 95 [some (.ref 0), some (.int (nI zj)), some (.int (nI zr)), some (.int (nI ka)), some (.int (nI zn)), some (.int (nI 0)), some (.int (nI (4 + 5 * zj + 2))), some (.int (nI (zBi (fun v => zTo (lsF L zj v) (fun d => it zr (ka + d)) zn) v))), some (.int (nI v))] [] (hMr (mLa la sz) mn (mIt it) sp (st) t L dr (tr) y a) := by
    intro zj zhj zr zhr zn zh1 zhn ka s9 hzs hkn hF n95
    have h40 := hs _ _ hzs
    have hnj : zNat (nI zj) = zj := zNat_nI (by omega)
    have hnr : zNat (nI zr) = zr := zNat_nI (by omega)
    have hnn : zNat (nI zn) = zn := zNat_nI (by omega)
    have hna : zNat (nI ka) = ka := zNat_nI (by omega)
    induction n95 using Nat.strongRecOn with
    | ind n95 ih =>
      intro v tr hn hv1 hv2
      refine z_iload hx dX12_fits_95 rfl ?_
      refine z_iload hx dX12_fits_97 rfl ?_
      refine z_if_neN (tgt := 107) hx dX12_fits_99 (by decide) (by omega) (fun zc99 => ?_) (fun zc99 => ?_)
      · skip
        exfalso; omega
      · skip
        refine z_bipush (v := nI 20) hx dX12_fits_102 (by decide) ?_
        refine z_goto (tgt := 108) hx dX12_fits_104 (by decide) ?_
        refine z_icmp_gtN (tgt := 159) hx dX12_fits_108 (by decide) (by omega) (by omega) (fun zc108 => ?_) (fun zc108 => ?_)
        · skip
          refine z_aload_n hx dX12_fits_159 rfl ?_
          refine z_iload hx dX12_fits_160 rfl ?_
          refine z_callivF hx (qX12_well (mLa la sz, mn, mIt it, sp, st) t L dr tr y a (nI (zBi (fun v => zTo (lsF L zj v) (fun d => it zr (ka + d)) zn) v))) dX12_fits_162 sX12_66 rfl rfl rfl rfl (Nat.le_of_ble_eq_true rfl) rfl (Nat.le_of_ble_eq_true rfl) (by decide) ?_
          refine z_heap (show _ = hMr (mLa la sz) mn (mIt it) sp (0) t L dr (tr) y a from rfl) ?_
          exact z_iret hx hF dX12_fits_165 rfl rfl ⟨0, _, by unfold aFits; rw [zIG_t ⟨⟨zj, zhj, rfl⟩, ⟨zr, Nat.zero_le _, zhr, rfl⟩, ⟨zn, zh1, zhn, rfl⟩, ⟨0, Nat.zero_le _, by decide, rfl⟩⟩, hnr, zIG_t (zFnd_s (m := 0) hzs ⟨ka, zn, rfl, rfl, hkn⟩), hna, hnj, hnn, show v = 21 by omega]; unfold zFts; rw [if_pos rfl], rfl⟩
        · skip
          refine z_aload_n hx dX12_fits_111 rfl ?_
          refine z_iconst (v := nI 0) hx dX12_fits_112 (by decide) ?_
          refine z_callvvF hx (qX12_tries (mLa la sz, mn, mIt it, sp, st) t L dr tr y a hw hm 0 (by decide)) dX12_fits_113 sX12_190 rfl rfl rfl rfl (Nat.le_of_ble_eq_true rfl) rfl (Nat.le_of_ble_eq_true rfl) (by decide) ?_
          refine z_heap (show _ = hMr (mLa la sz) mn (mIt it) sp (st) t L dr (fl L) y a from rfl) ?_
          refine z_aload_n hx dX12_fits_116 rfl ?_
          refine z_get hx dX12_fits_117 fX12_31 rfl rfl ?_
          refine z_iload hx dX12_fits_120 rfl ?_
          refine z_iload hx dX12_fits_122 rfl ?_
          refine z_iastN hx dX12_fits_124 rfl (by decide) (by omega) ?_
          refine z_heap (show _ = hMr (mLa la sz) mn (mIt it) sp (st) t L dr (fl (lsF L zj v)) y a by unfold hMr; rw [← fl_sF]; rfl) ?_
          refine z_iload hx dX12_fits_125 rfl ?_
          refine z_aload_n hx dX12_fits_127 rfl ?_
          refine z_bipush (v := nI 40) hx dX12_fits_128 (by decide) ?_
          refine z_iload_n hx dX12_fits_130 rfl ?_
          first | refine z_imulN hx dX12_fits_131 ?_ | refine z_imul hx dX12_fits_131 ?_
          refine z_iload_n hx dX12_fits_132 rfl ?_
          first | refine z_iaddN hx dX12_fits_133 ?_ | refine z_iadd hx dX12_fits_133 ?_
          refine z_iload hx dX12_fits_134 rfl ?_
          refine z_callivG hx (qX12_goesSo la sz it mn sp st t L dr y a (lsF L zj v) (zWf_F hw (by omega)) hm (40 * zr + ka) zn (by omega) (by omega) (fun d => it zr (ka + d)) (fun k9 h9 => by rw [Nat.add_assoc]; exact mIt_at it zr (ka + k9) (by omega))) dX12_fits_136 sX12_201 rfl rfl rfl rfl (Nat.le_of_ble_eq_true rfl) rfl (Nat.le_of_ble_eq_true rfl) (by decide) (fun r136 u136 l136 q136 => ?_)
          obtain ⟨rfl, tr9, rfl⟩ := q136
          refine z_if_eqB (tgt := 149) hx dX12_fits_139 (by decide) (fun zc139 => ?_) (fun zc139 => ?_)
          · skip
            refine z_iconst (v := nI 0) hx dX12_fits_149 (by decide) ?_
            first | refine z_iorN hx dX12_fits_150 ?_ | refine z_ior hx dX12_fits_150 ?_
            refine z_istore hx dX12_fits_151 (Nat.le_of_ble_eq_true rfl) rfl ?_
            first | refine z_iincN (z := 1) hx dX12_fits_153 rfl rfl ?_ | refine z_iinc hx dX12_fits_153 rfl rfl rfl ?_
            refine z_goto (tgt := 95) hx dX12_fits_156 (by decide) ?_
            first | exact z_eq (by rw [zBi_t (c := (fun v => zTo (lsF L zj v) (fun d => it zr (ka + d)) zn)) (k := v) zc139]; rfl) rfl rfl (ih _ (by omega) (v + 1) _ rfl (by omega) (by omega)) | exact z_eq (by rw [zBi_f (c := (fun v => zTo (lsF L zj v) (fun d => it zr (ka + d)) zn)) (k := v) zc139]; show _ = _; rw [Nat.or_zero]; rfl) rfl rfl (ih _ (by omega) (v + 1) _ rfl (by omega) (by omega))
          · skip
            refine z_iconst (v := nI 1) hx dX12_fits_142 (by decide) ?_
            refine z_iload hx dX12_fits_143 rfl ?_
            first | refine z_ishl1 hx dX12_fits_145 (by omega) ?_ | refine z_ishlN hx dX12_fits_145 (by omega) ?_ | refine z_ishl hx dX12_fits_145 ?_
            refine z_goto (tgt := 150) hx dX12_fits_146 (by decide) ?_
            first | refine z_iorN hx dX12_fits_150 ?_ | refine z_ior hx dX12_fits_150 ?_
            refine z_istore hx dX12_fits_151 (Nat.le_of_ble_eq_true rfl) rfl ?_
            first | refine z_iincN (z := 1) hx dX12_fits_153 rfl rfl ?_ | refine z_iinc hx dX12_fits_153 rfl rfl rfl ?_
            refine z_goto (tgt := 95) hx dX12_fits_156 (by decide) ?_
            first | exact z_eq (by rw [zBi_t (c := (fun v => zTo (lsF L zj v) (fun d => it zr (ka + d)) zn)) (k := v) zc139]; rfl) rfl rfl (ih _ (by omega) (v + 1) _ rfl (by omega) (by omega)) | exact z_eq (by rw [zBi_f (c := (fun v => zTo (lsF L zj v) (fun d => it zr (ka + d)) zn)) (k := v) zc139]; show _ = _; rw [Nat.or_zero]; rfl) rfl rfl (ih _ (by omega) (v + 1) _ rfl (by omega) (by omega))
  have hloop1 : ∀ (zj : Nat) (zhj : zj < lP L) (zr : Nat) (zhr : zr ≤ 7) (zn : Nat) (zh1 : 1 ≤ zn) (zhn : zn ≤ 16) (ka s9 : Nat) (hzs : sz zr = some s9) (hkn : ka + zn ≤ s9) (hF : zFi x (hMr (mLa la sz) mn (mIt it) sp (st) t L dr (tr) y a).length (fun z u => ∃ s9 tr9, (z, s9) = aFits (la, sz, it) L st (nI zj) (nI zr) (nI ka) (nI zn) (nI 1) ∧ u = hMr (mLa la sz) mn (mIt it) sp (s9) t L dr (tr9) y a)) (n95 v : Nat) (tr : Nat → Nat), 6 - v = n95 → 1 ≤ v → v ≤ 6 → zV x 95 [some (.ref 0), some (.int (nI zj)), some (.int (nI zr)), some (.int (nI ka)), some (.int (nI zn)), some (.int (nI 1)), some (.int (nI (4 + 5 * zj + 0))), some (.int (nI (zBi (fun v => 1 ≤ v ∧ zTo (lsK L zj v) (fun d => it zr (ka + d)) zn) v))), some (.int (nI v))] [] (hMr (mLa la sz) mn (mIt it) sp (st) t L dr (tr) y a) := by
    intro zj zhj zr zhr zn zh1 zhn ka s9 hzs hkn hF n95
    have h40 := hs _ _ hzs
    have hnj : zNat (nI zj) = zj := zNat_nI (by omega)
    have hnr : zNat (nI zr) = zr := zNat_nI (by omega)
    have hnn : zNat (nI zn) = zn := zNat_nI (by omega)
    have hna : zNat (nI ka) = ka := zNat_nI (by omega)
    induction n95 using Nat.strongRecOn with
    | ind n95 ih =>
      intro v tr hn hv1 hv2
      refine z_iload hx dX12_fits_95 rfl ?_
      refine z_iload hx dX12_fits_97 rfl ?_
      refine z_if_neN (tgt := 107) hx dX12_fits_99 (by decide) (by omega) (fun zc99 => ?_) (fun zc99 => ?_)
      · skip
        refine z_iconst (v := nI 5) hx dX12_fits_107 (by decide) ?_
        refine z_icmp_gtN (tgt := 159) hx dX12_fits_108 (by decide) (by omega) (by omega) (fun zc108 => ?_) (fun zc108 => ?_)
        · skip
          refine z_aload_n hx dX12_fits_159 rfl ?_
          refine z_iload hx dX12_fits_160 rfl ?_
          refine z_callivF hx (qX12_well (mLa la sz, mn, mIt it, sp, st) t L dr tr y a (nI (zBi (fun v => 1 ≤ v ∧ zTo (lsK L zj v) (fun d => it zr (ka + d)) zn) v))) dX12_fits_162 sX12_66 rfl rfl rfl rfl (Nat.le_of_ble_eq_true rfl) rfl (Nat.le_of_ble_eq_true rfl) (by decide) ?_
          refine z_heap (show _ = hMr (mLa la sz) mn (mIt it) sp (0) t L dr (tr) y a from rfl) ?_
          exact z_iret hx hF dX12_fits_165 rfl rfl ⟨0, _, by unfold aFits; rw [zIG_t ⟨⟨zj, zhj, rfl⟩, ⟨zr, Nat.zero_le _, zhr, rfl⟩, ⟨zn, zh1, zhn, rfl⟩, ⟨1, Nat.zero_le _, by decide, rfl⟩⟩, hnr, zIG_t (zFnd_s (m := 0) hzs ⟨ka, zn, rfl, rfl, hkn⟩), hna, hnj, hnn, show v = 6 by omega]; unfold zFts; rw [if_neg (by decide)], rfl⟩
        · skip
          refine z_aload_n hx dX12_fits_111 rfl ?_
          refine z_iconst (v := nI 0) hx dX12_fits_112 (by decide) ?_
          refine z_callvvF hx (qX12_tries (mLa la sz, mn, mIt it, sp, st) t L dr tr y a hw hm 0 (by decide)) dX12_fits_113 sX12_190 rfl rfl rfl rfl (Nat.le_of_ble_eq_true rfl) rfl (Nat.le_of_ble_eq_true rfl) (by decide) ?_
          refine z_heap (show _ = hMr (mLa la sz) mn (mIt it) sp (st) t L dr (fl L) y a from rfl) ?_
          refine z_aload_n hx dX12_fits_116 rfl ?_
          refine z_get hx dX12_fits_117 fX12_31 rfl rfl ?_
          refine z_iload hx dX12_fits_120 rfl ?_
          refine z_iload hx dX12_fits_122 rfl ?_
          refine z_iastN hx dX12_fits_124 rfl (by decide) (by omega) ?_
          refine z_heap (show _ = hMr (mLa la sz) mn (mIt it) sp (st) t L dr (fl (lsK L zj v)) y a by unfold hMr; rw [← fl_sK]; rfl) ?_
          refine z_iload hx dX12_fits_125 rfl ?_
          refine z_aload_n hx dX12_fits_127 rfl ?_
          refine z_bipush (v := nI 40) hx dX12_fits_128 (by decide) ?_
          refine z_iload_n hx dX12_fits_130 rfl ?_
          first | refine z_imulN hx dX12_fits_131 ?_ | refine z_imul hx dX12_fits_131 ?_
          refine z_iload_n hx dX12_fits_132 rfl ?_
          first | refine z_iaddN hx dX12_fits_133 ?_ | refine z_iadd hx dX12_fits_133 ?_
          refine z_iload hx dX12_fits_134 rfl ?_
          refine z_callivG hx (qX12_goesSo la sz it mn sp st t L dr y a (lsK L zj v) (zWf_K hw (by omega)) hm (40 * zr + ka) zn (by omega) (by omega) (fun d => it zr (ka + d)) (fun k9 h9 => by rw [Nat.add_assoc]; exact mIt_at it zr (ka + k9) (by omega))) dX12_fits_136 sX12_201 rfl rfl rfl rfl (Nat.le_of_ble_eq_true rfl) rfl (Nat.le_of_ble_eq_true rfl) (by decide) (fun r136 u136 l136 q136 => ?_)
          obtain ⟨rfl, tr9, rfl⟩ := q136
          refine z_if_eqB (tgt := 149) hx dX12_fits_139 (by decide) (fun zc139 => ?_) (fun zc139 => ?_)
          · skip
            refine z_iconst (v := nI 0) hx dX12_fits_149 (by decide) ?_
            first | refine z_iorN hx dX12_fits_150 ?_ | refine z_ior hx dX12_fits_150 ?_
            refine z_istore hx dX12_fits_151 (Nat.le_of_ble_eq_true rfl) rfl ?_
            first | refine z_iincN (z := 1) hx dX12_fits_153 rfl rfl ?_ | refine z_iinc hx dX12_fits_153 rfl rfl rfl ?_
            refine z_goto (tgt := 95) hx dX12_fits_156 (by decide) ?_
            first | exact z_eq (by rw [zBi_t (c := (fun v => 1 ≤ v ∧ zTo (lsK L zj v) (fun d => it zr (ka + d)) zn)) (k := v) ⟨hv1, zc139⟩]; rfl) rfl rfl (ih _ (by omega) (v + 1) _ rfl (by omega) (by omega)) | exact z_eq (by rw [zBi_f (c := (fun v => 1 ≤ v ∧ zTo (lsK L zj v) (fun d => it zr (ka + d)) zn)) (k := v) (fun e => zc139 e.2)]; show _ = _; rw [Nat.or_zero]; rfl) rfl rfl (ih _ (by omega) (v + 1) _ rfl (by omega) (by omega))
          · skip
            refine z_iconst (v := nI 1) hx dX12_fits_142 (by decide) ?_
            refine z_iload hx dX12_fits_143 rfl ?_
            first | refine z_ishl1 hx dX12_fits_145 (by omega) ?_ | refine z_ishlN hx dX12_fits_145 (by omega) ?_ | refine z_ishl hx dX12_fits_145 ?_
            refine z_goto (tgt := 150) hx dX12_fits_146 (by decide) ?_
            first | refine z_iorN hx dX12_fits_150 ?_ | refine z_ior hx dX12_fits_150 ?_
            refine z_istore hx dX12_fits_151 (Nat.le_of_ble_eq_true rfl) rfl ?_
            first | refine z_iincN (z := 1) hx dX12_fits_153 rfl rfl ?_ | refine z_iinc hx dX12_fits_153 rfl rfl rfl ?_
            refine z_goto (tgt := 95) hx dX12_fits_156 (by decide) ?_
            first | exact z_eq (by rw [zBi_t (c := (fun v => 1 ≤ v ∧ zTo (lsK L zj v) (fun d => it zr (ka + d)) zn)) (k := v) ⟨hv1, zc139⟩]; rfl) rfl rfl (ih _ (by omega) (v + 1) _ rfl (by omega) (by omega)) | exact z_eq (by rw [zBi_f (c := (fun v => 1 ≤ v ∧ zTo (lsK L zj v) (fun d => it zr (ka + d)) zn)) (k := v) (fun e => zc139 e.2)]; show _ = _; rw [Nat.or_zero]; rfl) rfl rfl (ih _ (by omega) (v + 1) _ rfl (by omega) (by omega))
      · skip
        exfalso; omega
  refine z_aload_n hx dX12_fits_0 rfl ?_
  refine z_iload_n hx dX12_fits_1 rfl ?_
  refine z_callivF hx (qX12_isPerson (mLa la sz, mn, mIt it, sp, st) t L dr tr y a hw _) dX12_fits_2 sX12_178 rfl rfl rfl rfl (Nat.le_of_ble_eq_true rfl) rfl (Nat.le_of_ble_eq_true rfl) (by decide) ?_
  first | refine z_if_eqB (tgt := 36) hx dX12_fits_5 (by decide) (fun zc5 => ?_) (fun zc5 => ?_) | refine z_if_eqN (tgt := 36) hx dX12_fits_5 (by decide) (by omega) (fun zc5 => ?_) (fun zc5 => ?_) | refine z_if_eq (tgt := 36) hx dX12_fits_5 (by decide) (fun zc5 => ?_) (fun zc5 => ?_)
  · skip
    refine z_ldc hx dX12_fits_36 kX12_61 ?_
    exact z_iret hx hF dX12_fits_38 rfl rfl ⟨st, tr, by unfold aFits; first | rw [zIG_f (fun h => zc5 h.1)] | rw [zIG_f (fun h => zc12 h.2.1)] | rw [zIG_f (fun h => zc23 h.2.2.1)] | rw [zIG_f (fun h => zc33 h.2.2.2)] | exact zzz_open, rfl⟩
  · skip
    obtain ⟨zj, zhj, rfl⟩ := zc5
    have hnj : zNat (nI zj) = zj := zNat_nI (by omega)
    refine z_iload_n hx dX12_fits_8 rfl ?_
    refine z_callisP hx [] (qX12_isRow _) dX12_fits_9 sX12_57 rfl rfl rfl (by decide) (by decide) rfl (Nat.le_of_ble_eq_true rfl) (by decide) ?_
    first | refine z_if_eqB (tgt := 36) hx dX12_fits_12 (by decide) (fun zc12 => ?_) (fun zc12 => ?_) | refine z_if_eqN (tgt := 36) hx dX12_fits_12 (by decide) (by omega) (fun zc12 => ?_) (fun zc12 => ?_) | refine z_if_eq (tgt := 36) hx dX12_fits_12 (by decide) (fun zc12 => ?_) (fun zc12 => ?_)
    · skip
      refine z_ldc hx dX12_fits_36 kX12_61 ?_
      exact z_iret hx hF dX12_fits_38 rfl rfl ⟨st, tr, by unfold aFits; first | rw [zIG_f (fun h => zc5 h.1)] | rw [zIG_f (fun h => zc12 h.2.1)] | rw [zIG_f (fun h => zc23 h.2.2.1)] | rw [zIG_f (fun h => zc33 h.2.2.2)] | exact zzz_open, rfl⟩
    · skip
      obtain ⟨zr, -, zhr, rfl⟩ := zc12
      have hnr : zNat (nI zr) = zr := zNat_nI (by omega)
      refine z_iload hx dX12_fits_15 rfl ?_
      refine z_iconst (v := nI 1) hx dX12_fits_17 (by decide) ?_
      refine z_bipush (v := nI 16) hx dX12_fits_18 (by decide) ?_
      refine z_callisP hx [] (qX12_inN _ _ _ (by decide)) dX12_fits_20 sX12_53 rfl rfl rfl (by decide) (by decide) rfl (Nat.le_of_ble_eq_true rfl) (by decide) ?_
      first | refine z_if_eqB (tgt := 36) hx dX12_fits_23 (by decide) (fun zc23 => ?_) (fun zc23 => ?_) | refine z_if_eqN (tgt := 36) hx dX12_fits_23 (by decide) (by omega) (fun zc23 => ?_) (fun zc23 => ?_) | refine z_if_eq (tgt := 36) hx dX12_fits_23 (by decide) (fun zc23 => ?_) (fun zc23 => ?_)
      · skip
        refine z_ldc hx dX12_fits_36 kX12_61 ?_
        exact z_iret hx hF dX12_fits_38 rfl rfl ⟨st, tr, by unfold aFits; first | rw [zIG_f (fun h => zc5 h.1)] | rw [zIG_f (fun h => zc12 h.2.1)] | rw [zIG_f (fun h => zc23 h.2.2.1)] | rw [zIG_f (fun h => zc33 h.2.2.2)] | exact zzz_open, rfl⟩
      · skip
        obtain ⟨zn, zh1, zhn, rfl⟩ := zc23
        have hnn : zNat (nI zn) = zn := zNat_nI (by omega)
        refine z_iload hx dX12_fits_26 rfl ?_
        refine z_iconst (v := nI 0) hx dX12_fits_28 (by decide) ?_
        refine z_iconst (v := nI 1) hx dX12_fits_29 (by decide) ?_
        refine z_callisP hx [] (qX12_inN _ _ _ (by decide)) dX12_fits_30 sX12_53 rfl rfl rfl (by decide) (by decide) rfl (Nat.le_of_ble_eq_true rfl) (by decide) ?_
        first | refine z_if_neB (tgt := 39) hx dX12_fits_33 (by decide) (fun zc33 => ?_) (fun zc33 => ?_) | refine z_if_neN (tgt := 39) hx dX12_fits_33 (by decide) (by omega) (fun zc33 => ?_) (fun zc33 => ?_) | refine z_if_ne (tgt := 39) hx dX12_fits_33 (by decide) (fun zc33 => ?_) (fun zc33 => ?_)
        · skip
          obtain ⟨ze, -, zhe, rfl⟩ := zc33
          refine z_aload_n hx dX12_fits_39 rfl ?_
          refine z_iload_n hx dX12_fits_40 rfl ?_
          refine z_callivF hx (qX12_isMissing la sz it mn sp st t L dr tr y a hs hla hmn zr (by omega)) dX12_fits_41 sX12_69 rfl rfl rfl rfl (Nat.le_of_ble_eq_true rfl) rfl (Nat.le_of_ble_eq_true rfl) (by decide) ?_
          refine z_if_eqB (tgt := 53) hx dX12_fits_44 (by decide) (fun zc44 => ?_) (fun zc44 => ?_)
          · skip
            obtain ⟨zs, hzs⟩ := Option.ne_none_iff_exists'.mp zc44
            refine z_aload_n hx dX12_fits_53 rfl ?_
            refine z_iload_n hx dX12_fits_54 rfl ?_
            refine z_iload_n hx dX12_fits_55 rfl ?_
            refine z_iload hx dX12_fits_56 rfl ?_
            refine z_callivF hx (qX12_isPart la sz it mn sp st t L dr tr y a hs hla hmn zr zs (by omega) hzs i9 (nI zn)) dX12_fits_58 sX12_76 rfl rfl rfl rfl (Nat.le_of_ble_eq_true rfl) rfl (Nat.le_of_ble_eq_true rfl) (by decide) ?_
            refine z_if_neB (tgt := 70) hx dX12_fits_61 (by decide) (fun zc61 => ?_) (fun zc61 => ?_)
            · skip
              obtain ⟨ka, kb, rfl, hb1, hab⟩ := id zc61
              have h40 := hs _ _ hzs
              have hb2 : kb = zn := ((nI_eq (by omega) (by omega)).mp hb1).symm
              have hna : zNat (nI ka) = ka := zNat_nI (by omega)
              refine z_iconst (v := nI 4) hx dX12_fits_70 (by decide) ?_
              refine z_iconst (v := nI 5) hx dX12_fits_71 (by decide) ?_
              refine z_iload_n hx dX12_fits_72 rfl ?_
              first | refine z_imulN hx dX12_fits_73 ?_ | refine z_imul hx dX12_fits_73 ?_
              first | refine z_iaddN hx dX12_fits_74 ?_ | refine z_iadd hx dX12_fits_74 ?_
              refine z_iload hx dX12_fits_75 rfl ?_
              refine z_if_neN (tgt := 84) hx dX12_fits_77 (by decide) (by omega) (fun zc77 => ?_) (fun zc77 => ?_)
              · skip
                refine z_iconst (v := nI 0) hx dX12_fits_84 (by decide) ?_
                first | refine z_iaddN hx dX12_fits_85 ?_ | refine z_iadd hx dX12_fits_85 ?_
                refine z_istore hx dX12_fits_86 (Nat.le_of_ble_eq_true rfl) rfl ?_
                refine z_iconst (v := nI 0) hx dX12_fits_88 (by decide) ?_
                refine z_istore hx dX12_fits_89 (Nat.le_of_ble_eq_true rfl) rfl ?_
                refine z_iload hx dX12_fits_91 rfl ?_
                refine z_istore hx dX12_fits_93 (Nat.le_of_ble_eq_true rfl) rfl ?_
                first
                | (have ez : ze = 0 := by omega
                   subst ez
                   exact hloop0 zj zhj zr zhr zn zh1 zhn ka zs hzs (by omega) hF _ 0 _ rfl (by omega) (by omega))
                | (have ez : ze = 1 := by omega
                   subst ez
                   exact z_eq (by rw [zBi_f (c := fun v => 1 ≤ v ∧ zTo (lsK L zj v) (fun d => it zr (ka + d)) zn) (k := 0) (fun e => absurd e.1 (by decide))]; rfl) rfl rfl (hloop1 zj zhj zr zhr zn zh1 zhn ka zs hzs (by omega) hF _ 1 tr rfl (by omega) (by omega)))
              · skip
                refine z_iconst (v := nI 2) hx dX12_fits_80 (by decide) ?_
                refine z_goto (tgt := 85) hx dX12_fits_81 (by decide) ?_
                first | refine z_iaddN hx dX12_fits_85 ?_ | refine z_iadd hx dX12_fits_85 ?_
                refine z_istore hx dX12_fits_86 (Nat.le_of_ble_eq_true rfl) rfl ?_
                refine z_iconst (v := nI 0) hx dX12_fits_88 (by decide) ?_
                refine z_istore hx dX12_fits_89 (Nat.le_of_ble_eq_true rfl) rfl ?_
                refine z_iload hx dX12_fits_91 rfl ?_
                refine z_istore hx dX12_fits_93 (Nat.le_of_ble_eq_true rfl) rfl ?_
                first
                | (have ez : ze = 0 := by omega
                   subst ez
                   exact hloop0 zj zhj zr zhr zn zh1 zhn ka zs hzs (by omega) hF _ 0 _ rfl (by omega) (by omega))
                | (have ez : ze = 1 := by omega
                   subst ez
                   exact z_eq (by rw [zBi_f (c := fun v => 1 ≤ v ∧ zTo (lsK L zj v) (fun d => it zr (ka + d)) zn) (k := 0) (fun e => absurd e.1 (by decide))]; rfl) rfl rfl (hloop1 zj zhj zr zhr zn zh1 zhn ka zs hzs (by omega) hF _ 1 tr rfl (by omega) (by omega)))
            · skip
              refine z_aload_n hx dX12_fits_64 rfl ?_
              refine z_iconst (v := nI 2) hx dX12_fits_65 (by decide) ?_
              refine z_callivF hx (qX12_found (mLa la sz, mn, mIt it, sp, st) t L dr tr y a (2)) dX12_fits_66 sX12_62 rfl rfl rfl rfl (Nat.le_of_ble_eq_true rfl) rfl (Nat.le_of_ble_eq_true rfl) (by decide) ?_
              refine z_heap (show _ = hMr (mLa la sz) mn (mIt it) sp (2) t L dr (tr) y a from rfl) ?_
              exact z_iret hx hF dX12_fits_69 rfl rfl ⟨2, tr, by unfold aFits; rw [zIG_t ⟨⟨zj, zhj, rfl⟩, ⟨zr, Nat.zero_le _, zhr, rfl⟩, ⟨zn, zh1, zhn, rfl⟩, ⟨ze, Nat.zero_le _, zhe, rfl⟩⟩, hnr, show ((la, sz, it) : zRw).2.1 = sz from rfl, zFnd_p hzs zc61, zIG_f zne2], rfl⟩
          · skip
            refine z_aload_n hx dX12_fits_47 rfl ?_
            refine z_iconst (v := nI 1) hx dX12_fits_48 (by decide) ?_
            refine z_callivF hx (qX12_found (mLa la sz, mn, mIt it, sp, st) t L dr tr y a (1)) dX12_fits_49 sX12_62 rfl rfl rfl rfl (Nat.le_of_ble_eq_true rfl) rfl (Nat.le_of_ble_eq_true rfl) (by decide) ?_
            refine z_heap (show _ = hMr (mLa la sz) mn (mIt it) sp (1) t L dr (tr) y a from rfl) ?_
            exact z_iret hx hF dX12_fits_52 rfl rfl ⟨1, tr, by unfold aFits; rw [zIG_t ⟨⟨zj, zhj, rfl⟩, ⟨zr, Nat.zero_le _, zhr, rfl⟩, ⟨zn, zh1, zhn, rfl⟩, ⟨ze, Nat.zero_le _, zhe, rfl⟩⟩, hnr, show ((la, sz, it) : zRw).2.1 = sz from rfl, zFnd_n zc44, zIG_f zne1], rfl⟩
        · skip
          refine z_ldc hx dX12_fits_36 kX12_61 ?_
          exact z_iret hx hF dX12_fits_38 rfl rfl ⟨st, tr, by unfold aFits; first | rw [zIG_f (fun h => zc5 h.1)] | rw [zIG_f (fun h => zc12 h.2.1)] | rw [zIG_f (fun h => zc23 h.2.2.1)] | rw [zIG_f (fun h => zc33 h.2.2.2)] | exact zzz_open, rfl⟩

