set_option maxHeartbeats 4000000 in
set_option maxRecDepth 100000 in
theorem qX12_bounds (la : Nat → Nat) (sz : Nat → Option Nat) (it : Nat → Nat → Int32) (mn : Nat → Nat) (sp : Nat → Int32) (st : Nat) (t : zMT) (L : zL) (dr tr : Nat → Nat) (y : zMY) (a : zMA) (hs : zRok sz) (hla : ∀ j, la j ≤ 2) (hmn : zMn sz mn) (hw : zWf L) (hm : lM L ≤ 1000) (rw i9 n9 : Int32) : zMi mX12_bounds 8 ([.ref 0, .int rw, .int i9, .int n9]) (hMr (mLa la sz) mn (mIt it) sp (st) t L dr (tr) y a) (fun z u => ∃ s9 tr9, (z, s9) = aBnds (la, sz, it) L st rw i9 n9 ∧ u = hMr (mLa la sz) mn (mIt it) sp (s9) t L dr (tr9) y a) := by
  refine zMi.of (by decide) (Nat.le_of_ble_eq_true rfl) (fun x hx hF => ?_)
  obtain ⟨w1, w2, w3, w4, w5⟩ := id hw
  have hloop : ∀ (hS9 : 0 < lS L) (zr : Nat) (zhr : zr ≤ 7) (zn : Nat) (zh1 : 1 ≤ zn) (zhn : zn ≤ 16) (ka s9 : Nat) (hzs : sz zr = some s9) (hkn : ka + zn ≤ s9) (hF : zFi x (hMr (mLa la sz) mn (mIt it) sp (st) t L dr (tr) y a).length (fun z u => ∃ s9 tr9, (z, s9) = aBnds (la, sz, it) L st (nI zr) (nI ka) (nI zn) ∧ u = hMr (mLa la sz) mn (mIt it) sp (s9) t L dr (tr9) y a)) (n66 v : Nat) (tr : Nat → Nat), 30 - v = n66 → v ≤ 30 → zV x 66 [some (.ref 0), some (.int (nI zr)), some (.int (nI ka)), some (.int (nI zn)), some (.int (nI (zBi (fun v => zTo (lsB L v) (fun d => it zr (ka + d)) zn) v))), some (.int (nI v))] [] (hMr (mLa la sz) mn (mIt it) sp (st) t L dr (tr) y a) := by
    intro hS9 zr zhr zn zh1 zhn ka s9 hzs hkn hF n66
    have h40 := hs _ _ hzs
    have hnr : zNat (nI zr) = zr := zNat_nI (by omega)
    have hnn : zNat (nI zn) = zn := zNat_nI (by omega)
    have hna : zNat (nI ka) = ka := zNat_nI (by omega)
    induction n66 using Nat.strongRecOn with
    | ind n66 ih =>
      intro v tr hn hv2
      refine z_iload hx dX12_bounds_66 rfl ?_
      refine z_bipush (v := nI 30) hx dX12_bounds_68 (by decide) ?_
      refine z_icmp_geN (tgt := 119) hx dX12_bounds_70 (by decide) (by omega) (by omega) (fun zc70 => ?_) (fun zc70 => ?_)
      · skip
        refine z_aload_n hx dX12_bounds_119 rfl ?_
        refine z_iload hx dX12_bounds_120 rfl ?_
        refine z_callivF hx (qX12_well (mLa la sz, mn, mIt it, sp, st) t L dr tr y a (nI (zBi (fun v => zTo (lsB L v) (fun d => it zr (ka + d)) zn) v))) dX12_bounds_122 sX12_66 rfl rfl rfl rfl (Nat.le_of_ble_eq_true rfl) rfl (Nat.le_of_ble_eq_true rfl) (by decide) ?_
        refine z_heap (show _ = hMr (mLa la sz) mn (mIt it) sp (0) t L dr (tr) y a from rfl) ?_
        exact z_iret hx hF dX12_bounds_125 rfl rfl ⟨0, _, by unfold aBnds; rw [zIG_t hS9, zIG_t ⟨⟨zr, Nat.zero_le _, zhr, rfl⟩, ⟨zn, zh1, zhn, rfl⟩⟩, hnr, zIG_t (zFnd_s (m := 0) hzs ⟨ka, zn, rfl, rfl, hkn⟩), hna, hnn, show v = 30 by omega], rfl⟩
      · skip
        refine z_aload_n hx dX12_bounds_73 rfl ?_
        refine z_iconst (v := nI 0) hx dX12_bounds_74 (by decide) ?_
        refine z_callvvF hx (qX12_tries (mLa la sz, mn, mIt it, sp, st) t L dr tr y a hw hm 0 (by decide)) dX12_bounds_75 sX12_190 rfl rfl rfl rfl (Nat.le_of_ble_eq_true rfl) rfl (Nat.le_of_ble_eq_true rfl) (by decide) ?_
        refine z_heap (show _ = hMr (mLa la sz) mn (mIt it) sp (st) t L dr (fl L) y a from rfl) ?_
        refine z_aload_n hx dX12_bounds_78 rfl ?_
        refine z_get hx dX12_bounds_79 fX12_31 rfl rfl ?_
        refine z_iconst (v := nI 1) hx dX12_bounds_82 (by decide) ?_
        refine z_iload hx dX12_bounds_83 rfl ?_
        refine z_iastN hx dX12_bounds_85 rfl (by decide) (by omega) ?_
        refine z_heap (show _ = hMr (mLa la sz) mn (mIt it) sp (st) t L dr (fl (lsB L v)) y a by unfold hMr; rw [← fl_sB]; rfl) ?_
        refine z_iload hx dX12_bounds_86 rfl ?_
        refine z_aload_n hx dX12_bounds_88 rfl ?_
        refine z_bipush (v := nI 40) hx dX12_bounds_89 (by decide) ?_
        refine z_iload_n hx dX12_bounds_91 rfl ?_
        first | refine z_imulN hx dX12_bounds_92 ?_ | refine z_imul hx dX12_bounds_92 ?_
        refine z_iload_n hx dX12_bounds_93 rfl ?_
        first | refine z_iaddN hx dX12_bounds_94 ?_ | refine z_iadd hx dX12_bounds_94 ?_
        refine z_iload_n hx dX12_bounds_95 rfl ?_
        refine z_callivG hx (qX12_goesSo la sz it mn sp st t L dr y a (lsB L v) (zWf_B hw (by omega)) hm (40 * zr + ka) zn (by omega) (by omega) (fun d => it zr (ka + d)) (fun k9 h9 => by rw [Nat.add_assoc]; exact mIt_at it zr (ka + k9) (by omega))) dX12_bounds_96 sX12_201 rfl rfl rfl rfl (Nat.le_of_ble_eq_true rfl) rfl (Nat.le_of_ble_eq_true rfl) (by decide) (fun r96 u96 l96 q96 => ?_)
        obtain ⟨rfl, tr9, rfl⟩ := q96
        refine z_if_eqB (tgt := 109) hx dX12_bounds_99 (by decide) (fun zc99 => ?_) (fun zc99 => ?_)
        · skip
          refine z_iconst (v := nI 0) hx dX12_bounds_109 (by decide) ?_
          first | refine z_iorN hx dX12_bounds_110 ?_ | refine z_ior hx dX12_bounds_110 ?_
          refine z_istore hx dX12_bounds_111 (Nat.le_of_ble_eq_true rfl) rfl ?_
          first | refine z_iincN (z := 1) hx dX12_bounds_113 rfl rfl ?_ | refine z_iinc hx dX12_bounds_113 rfl rfl rfl ?_
          refine z_goto (tgt := 66) hx dX12_bounds_116 (by decide) ?_
          first | exact z_eq (by rw [zBi_t (c := (fun v => zTo (lsB L v) (fun d => it zr (ka + d)) zn)) (k := v) zc99]; rfl) rfl rfl (ih _ (by omega) (v + 1) _ rfl (by omega)) | exact z_eq (by rw [zBi_f (c := (fun v => zTo (lsB L v) (fun d => it zr (ka + d)) zn)) (k := v) zc99]; show _ = _; rw [Nat.or_zero]; rfl) rfl rfl (ih _ (by omega) (v + 1) _ rfl (by omega))
        · skip
          refine z_iconst (v := nI 1) hx dX12_bounds_102 (by decide) ?_
          refine z_iload hx dX12_bounds_103 rfl ?_
          first | refine z_ishl1 hx dX12_bounds_105 (by omega) ?_ | refine z_ishlN hx dX12_bounds_105 (by omega) ?_ | refine z_ishl hx dX12_bounds_105 ?_
          refine z_goto (tgt := 110) hx dX12_bounds_106 (by decide) ?_
          first | refine z_iorN hx dX12_bounds_110 ?_ | refine z_ior hx dX12_bounds_110 ?_
          refine z_istore hx dX12_bounds_111 (Nat.le_of_ble_eq_true rfl) rfl ?_
          first | refine z_iincN (z := 1) hx dX12_bounds_113 rfl rfl ?_ | refine z_iinc hx dX12_bounds_113 rfl rfl rfl ?_
          refine z_goto (tgt := 66) hx dX12_bounds_116 (by decide) ?_
          first | exact z_eq (by rw [zBi_t (c := (fun v => zTo (lsB L v) (fun d => it zr (ka + d)) zn)) (k := v) zc99]; rfl) rfl rfl (ih _ (by omega) (v + 1) _ rfl (by omega)) | exact z_eq (by rw [zBi_f (c := (fun v => zTo (lsB L v) (fun d => it zr (ka + d)) zn)) (k := v) zc99]; show _ = _; rw [Nat.or_zero]; rfl) rfl rfl (ih _ (by omega) (v + 1) _ rfl (by omega))
  refine z_aload_n hx dX12_bounds_0 rfl ?_
  refine z_callivF hx (qX12_isLine (mLa la sz, mn, mIt it, sp, st) t L dr tr y a hw) dX12_bounds_1 sX12_167 rfl rfl rfl rfl (Nat.le_of_ble_eq_true rfl) rfl (Nat.le_of_ble_eq_true rfl) (by decide) ?_
  first | refine z_if_neB (tgt := 10) hx dX12_bounds_4 (by decide) (fun zc4 => ?_) (fun zc4 => ?_) | refine z_if_neN (tgt := 10) hx dX12_bounds_4 (by decide) (by omega) (fun zc4 => ?_) (fun zc4 => ?_) | refine z_if_ne (tgt := 10) hx dX12_bounds_4 (by decide) (fun zc4 => ?_) (fun zc4 => ?_)
  · skip
    refine z_iload_n hx dX12_bounds_10 rfl ?_
    refine z_callisP hx [] (qX12_isRow _) dX12_bounds_11 sX12_57 rfl rfl rfl (by decide) (by decide) rfl (Nat.le_of_ble_eq_true rfl) (by decide) ?_
    first | refine z_if_eqB (tgt := 27) hx dX12_bounds_14 (by decide) (fun zc14 => ?_) (fun zc14 => ?_) | refine z_if_eqN (tgt := 27) hx dX12_bounds_14 (by decide) (by omega) (fun zc14 => ?_) (fun zc14 => ?_) | refine z_if_eq (tgt := 27) hx dX12_bounds_14 (by decide) (fun zc14 => ?_) (fun zc14 => ?_)
    · skip
      refine z_ldc hx dX12_bounds_27 kX12_61 ?_
      exact z_iret hx hF dX12_bounds_29 rfl rfl ⟨st, tr, by unfold aBnds; first | rw [zIG_t zc4, zIG_f (fun h => zc14 h.1)] | rw [zIG_t zc4, zIG_f (fun h => zc24 h.2)], rfl⟩
    · skip
      obtain ⟨zr, -, zhr, rfl⟩ := zc14
      have hnr : zNat (nI zr) = zr := zNat_nI (by omega)
      refine z_iload_n hx dX12_bounds_17 rfl ?_
      refine z_iconst (v := nI 1) hx dX12_bounds_18 (by decide) ?_
      refine z_bipush (v := nI 16) hx dX12_bounds_19 (by decide) ?_
      refine z_callisP hx [] (qX12_inN _ _ _ (by decide)) dX12_bounds_21 sX12_53 rfl rfl rfl (by decide) (by decide) rfl (Nat.le_of_ble_eq_true rfl) (by decide) ?_
      first | refine z_if_neB (tgt := 30) hx dX12_bounds_24 (by decide) (fun zc24 => ?_) (fun zc24 => ?_) | refine z_if_neN (tgt := 30) hx dX12_bounds_24 (by decide) (by omega) (fun zc24 => ?_) (fun zc24 => ?_) | refine z_if_ne (tgt := 30) hx dX12_bounds_24 (by decide) (fun zc24 => ?_) (fun zc24 => ?_)
      · skip
        obtain ⟨zn, zh1, zhn, rfl⟩ := zc24
        have hnn : zNat (nI zn) = zn := zNat_nI (by omega)
        refine z_aload_n hx dX12_bounds_30 rfl ?_
        refine z_iload_n hx dX12_bounds_31 rfl ?_
        refine z_callivF hx (qX12_isMissing la sz it mn sp st t L dr tr y a hs hla hmn zr (by omega)) dX12_bounds_32 sX12_69 rfl rfl rfl rfl (Nat.le_of_ble_eq_true rfl) rfl (Nat.le_of_ble_eq_true rfl) (by decide) ?_
        refine z_if_eqB (tgt := 44) hx dX12_bounds_35 (by decide) (fun zc35 => ?_) (fun zc35 => ?_)
        · skip
          obtain ⟨zs, hzs⟩ := Option.ne_none_iff_exists'.mp zc35
          refine z_aload_n hx dX12_bounds_44 rfl ?_
          refine z_iload_n hx dX12_bounds_45 rfl ?_
          refine z_iload_n hx dX12_bounds_46 rfl ?_
          refine z_iload_n hx dX12_bounds_47 rfl ?_
          refine z_callivF hx (qX12_isPart la sz it mn sp st t L dr tr y a hs hla hmn zr zs (by omega) hzs i9 (nI zn)) dX12_bounds_48 sX12_76 rfl rfl rfl rfl (Nat.le_of_ble_eq_true rfl) rfl (Nat.le_of_ble_eq_true rfl) (by decide) ?_
          refine z_if_neB (tgt := 60) hx dX12_bounds_51 (by decide) (fun zc51 => ?_) (fun zc51 => ?_)
          · skip
            obtain ⟨ka, kb, rfl, hb1, hab⟩ := id zc51
            have h40 := hs _ _ hzs
            have hb2 : kb = zn := ((nI_eq (by omega) (by omega)).mp hb1).symm
            have hna : zNat (nI ka) = ka := zNat_nI (by omega)
            refine z_iconst (v := nI 0) hx dX12_bounds_60 (by decide) ?_
            refine z_istore hx dX12_bounds_61 (Nat.le_of_ble_eq_true rfl) rfl ?_
            refine z_iconst (v := nI 0) hx dX12_bounds_63 (by decide) ?_
            refine z_istore hx dX12_bounds_64 (Nat.le_of_ble_eq_true rfl) rfl ?_
            exact hloop zc4 zr zhr zn zh1 zhn ka zs hzs (by omega) hF _ 0 tr rfl (by omega)
          · skip
            refine z_aload_n hx dX12_bounds_54 rfl ?_
            refine z_iconst (v := nI 2) hx dX12_bounds_55 (by decide) ?_
            refine z_callivF hx (qX12_found (mLa la sz, mn, mIt it, sp, st) t L dr tr y a (2)) dX12_bounds_56 sX12_62 rfl rfl rfl rfl (Nat.le_of_ble_eq_true rfl) rfl (Nat.le_of_ble_eq_true rfl) (by decide) ?_
            refine z_heap (show _ = hMr (mLa la sz) mn (mIt it) sp (2) t L dr (tr) y a from rfl) ?_
            exact z_iret hx hF dX12_bounds_59 rfl rfl ⟨2, tr, by unfold aBnds; rw [zIG_t zc4, zIG_t ⟨⟨zr, Nat.zero_le _, zhr, rfl⟩, ⟨zn, zh1, zhn, rfl⟩⟩, hnr, show ((la, sz, it) : zRw).2.1 = sz from rfl, zFnd_p hzs zc51, zIG_f zne2], rfl⟩
        · skip
          refine z_aload_n hx dX12_bounds_38 rfl ?_
          refine z_iconst (v := nI 1) hx dX12_bounds_39 (by decide) ?_
          refine z_callivF hx (qX12_found (mLa la sz, mn, mIt it, sp, st) t L dr tr y a (1)) dX12_bounds_40 sX12_62 rfl rfl rfl rfl (Nat.le_of_ble_eq_true rfl) rfl (Nat.le_of_ble_eq_true rfl) (by decide) ?_
          refine z_heap (show _ = hMr (mLa la sz) mn (mIt it) sp (1) t L dr (tr) y a from rfl) ?_
          exact z_iret hx hF dX12_bounds_43 rfl rfl ⟨1, tr, by unfold aBnds; rw [zIG_t zc4, zIG_t ⟨⟨zr, Nat.zero_le _, zhr, rfl⟩, ⟨zn, zh1, zhn, rfl⟩⟩, hnr, show ((la, sz, it) : zRw).2.1 = sz from rfl, zFnd_n zc35, zIG_f zne1], rfl⟩
      · skip
        refine z_ldc hx dX12_bounds_27 kX12_61 ?_
        exact z_iret hx hF dX12_bounds_29 rfl rfl ⟨st, tr, by unfold aBnds; first | rw [zIG_t zc4, zIG_f (fun h => zc14 h.1)] | rw [zIG_t zc4, zIG_f (fun h => zc24 h.2)], rfl⟩
  · skip
    refine z_ldc hx dX12_bounds_7 kX12_170 ?_
    exact z_iret hx hF dX12_bounds_9 rfl rfl ⟨st, tr, by unfold aBnds; rw [zIG_f zc4], rfl⟩

theorem zPd_y {L : zL} {X : Nat} (h : 0 < lP L) : zPd L X = lsF L (X % lP L) (X % 21) := if_pos h
theorem zPd_n {L : zL} {X : Nat} (h : ¬ 0 < lP L) : zPd L X = L := if_neg h
set_option maxHeartbeats 4000000 in
set_option maxRecDepth 100000 in
theorem qX12_drawn (r : zMR) (t : zMT) (L : zL) (dr tr : Nat → Nat) (y : zMY) (a : zMA) (hw : zWf L) (hm : lM L ≤ 1000) (v s w : Int32) : zMi mX12_drawn 6 ([.ref 0, .int v, .int s, .int w]) (hM r t L dr tr y a) (fun z u => z = aDrwn L v s w ∧ hMx r t L y a u) := by
  refine zMi.of (by decide) (Nat.le_of_ble_eq_true rfl) (fun x hx hF => ?_)
  obtain ⟨w1, w2, w3, w4, w5⟩ := id hw
  have hloop : ∀ (hS9 : 0 < lS L) (zn : Nat) (zhn : zn ≤ 60) (zs : Nat) (zh1 : 1 ≤ zs) (zhs : zs ≤ 999999) (ze : Nat) (zhe : ze ≤ 1) (hF : zFi x (hM r t L dr tr y a).length (fun z u => z = aDrwn L (nI zn) (nI zs) (nI ze) ∧ hMx r t L y a u)) (n63 k : Nat), zn - k = n63 → k ≤ zn → zV x 54 [some (.ref 0), some (.int (nI zn)), some (.int (nI zs)), some (.int (nI ze)), some (.long (lN (zXn zs k))), none, some (.int (nI (zDc L zs k))), some (.int (nI k))] [] (hM r t L dr (fl (zDl L zs k)) y a) := by
    intro hS9 zn zhn zs zh1 zhs ze zhe hF n63
    have hnn : zNat (nI zn) = zn := zNat_nI (by omega)
    have hns : zNat (nI zs) = zs := zNat_nI (by omega)
    induction n63 using Nat.strongRecOn with
    | ind n63 ih =>
      intro k hn hk
      have hx9 := zXn_le (s := zs) (by omega) k
      have hx8 := zXn_le (s := zs) (by omega) (k + 1)
      have hdc := zDc_le L zs k
      have hdp := zDl_P L zs k
      have hwd := zWf_Dl hw zs k (by omega)
      have hw9 := zWf_Pd hwd (zXn zs (k + 1))
      have htn := tN_none (x := zTr (zPd (zDl L zs k) (zXn zs (k + 1))) 0) (fun j9 h9 => by have := zTr_lt h9; have := hw9.1; omega)
      refine z_iload hx dX12_drawn_54 rfl ?_
      refine z_iload_n hx dX12_drawn_56 rfl ?_
      first | refine z_icmp_geN (tgt := 147) hx dX12_drawn_57 (by decide) (by omega) (by omega) (fun zc57 => ?_) (fun zc57 => ?_) | refine z_icmp_ge (tgt := 147) hx dX12_drawn_57 (by decide) (fun zc57 => ?_) (fun zc57 => ?_)
      · skip
        refine z_iload_n hx dX12_drawn_147 rfl ?_
        first | refine z_if_neB (tgt := 161) hx dX12_drawn_148 (by decide) (fun zc148 => ?_) (fun zc148 => ?_) | refine z_if_neN (tgt := 161) hx dX12_drawn_148 (by decide) (by omega) (fun zc148 => ?_) (fun zc148 => ?_) | refine z_if_ne (tgt := 161) hx dX12_drawn_148 (by decide) (fun zc148 => ?_) (fun zc148 => ?_)
        · skip
          refine z_iload hx dX12_drawn_161 rfl ?_
          exact z_iret hx hF dX12_drawn_163 rfl rfl ⟨by unfold aDrwn; first | rw [zII_t hS9, zII_t ⟨⟨zn, Nat.zero_le _, zhn, rfl⟩, ⟨zs, zh1, zhs, rfl⟩, ⟨ze, Nat.zero_le _, zhe, rfl⟩⟩, hnn, hns, if_pos (by rw [show ze = 0 by omega]), show zn = k by omega, hdp.1] | rw [zII_t hS9, zII_t ⟨⟨zn, Nat.zero_le _, zhn, rfl⟩, ⟨zs, zh1, zhs, rfl⟩, ⟨ze, Nat.zero_le _, zhe, rfl⟩⟩, hnn, hns, if_neg (nI_ne (by omega) (by omega) (by omega)), show zn = k by omega] | exact zzz_open, hMx_i _ _ _ _ _ _ _⟩
        · skip
          refine z_aload_n hx dX12_drawn_151 rfl ?_
          refine z_get hx dX12_drawn_152 fX12_31 rfl rfl ?_
          refine z_callisP hx [8] (qX12_thereIn (zDl L zs k) hwd) dX12_drawn_155 sX12_174 rfl rfl rfl (by decide) (by decide) rfl (Nat.le_of_ble_eq_true rfl) (by decide) ?_
          refine z_goto (tgt := 163) hx dX12_drawn_158 (by decide) ?_
          exact z_iret hx hF dX12_drawn_163 rfl rfl ⟨by unfold aDrwn; first | rw [zII_t hS9, zII_t ⟨⟨zn, Nat.zero_le _, zhn, rfl⟩, ⟨zs, zh1, zhs, rfl⟩, ⟨ze, Nat.zero_le _, zhe, rfl⟩⟩, hnn, hns, if_pos (by rw [show ze = 0 by omega]), show zn = k by omega, hdp.1] | rw [zII_t hS9, zII_t ⟨⟨zn, Nat.zero_le _, zhn, rfl⟩, ⟨zs, zh1, zhs, rfl⟩, ⟨ze, Nat.zero_le _, zhe, rfl⟩⟩, hnn, hns, if_neg (nI_ne (by omega) (by omega) (by omega)), show zn = k by omega] | exact zzz_open, hMx_i _ _ _ _ _ _ _⟩
      · skip
        refine z_lload hx dX12_drawn_60 rfl ?_
        refine z_ldc2 hx dX12_drawn_62 kX12_205 ?_
        refine z_lmul hx dX12_drawn_65 ?_
        refine z_ldc2 hx dX12_drawn_66 kX12_207 ?_
        refine z_lrem hx dX12_drawn_69 (by decide) ?_
        refine z_topL (lN (zXn zs (k + 1))) (zlrem hx9) ?_
        refine z_lstore hx dX12_drawn_70 (Nat.le_of_ble_eq_true rfl) rfl ?_
        refine z_aload_n hx dX12_drawn_72 rfl ?_
        refine z_get hx dX12_drawn_73 fX12_25 rfl rfl ?_
        refine z_iconst (v := nI 3) hx dX12_drawn_76 (by decide) ?_
        refine z_ialdJ hx dX12_drawn_77 rfl (by decide) (by omega) ?_
        refine z_topN (b := lP L) rfl ?_
        refine z_if_leN (tgt := 110) hx dX12_drawn_78 (by decide) (by omega) (fun zc78 => ?_) (fun zc78 => ?_)
        · skip
          refine z_heap (show _ = hM r t L dr (fl (zPd (zDl L zs k) (zXn zs (k + 1)))) y a by rw [zPd_n (by omega)]) ?_
          refine z_iload hx dX12_drawn_110 rfl ?_
          refine z_aload_n hx dX12_drawn_112 rfl ?_
          refine z_get hx dX12_drawn_113 fX12_31 rfl rfl ?_
          refine z_iconst (v := nI 0) hx dX12_drawn_116 (by decide) ?_
          refine z_callisP hx [8] (qX12_tramBy (zPd (zDl L zs k) (zXn zs (k + 1))) hw9 0 (by decide)) dX12_drawn_117 sX12_160 rfl rfl rfl (by decide) (by decide) rfl (Nat.le_of_ble_eq_true rfl) (by decide) ?_
          refine z_ldc hx dX12_drawn_120 kX12_47 ?_
          refine z_icmp_ne (tgt := 129) hx dX12_drawn_122 (by decide) (fun zc122 => ?_) (fun zc122 => ?_)
          · skip
            refine z_iconst (v := nI 1) hx dX12_drawn_129 (by decide) ?_
            first | refine z_iaddN hx dX12_drawn_130 ?_ | refine z_iadd hx dX12_drawn_130 ?_
            refine z_istore hx dX12_drawn_131 (Nat.le_of_ble_eq_true rfl) rfl ?_
            refine z_aload_n hx dX12_drawn_133 rfl ?_
            refine z_get hx dX12_drawn_134 fX12_31 rfl rfl ?_
            refine z_iconst (v := nI 0) hx dX12_drawn_137 (by decide) ?_
            refine z_callvsE hx [8] (qX12_passes (zPd (zDl L zs k) (zXn zs (k + 1))) hw9 0 (by decide)) dX12_drawn_138 sX12_163 rfl rfl rfl (by decide) (by decide) rfl (Nat.le_of_ble_eq_true rfl) (by decide) ?_
            refine z_heap (show _ = hM r t L dr (fl (zDl L zs (k + 1))) y a from rfl) ?_
            first | refine z_iincN (z := 1) hx dX12_drawn_141 rfl rfl ?_ | refine z_iinc hx dX12_drawn_141 rfl rfl rfl ?_
            refine z_goto (tgt := 54) hx dX12_drawn_144 (by decide) ?_
            first | exact z_eq (by rw [zDc_t (htn.mp zc122)]; rfl) rfl rfl (ih _ (by omega) (k + 1) rfl (by omega)) | exact z_eq (by rw [zDc_f (fun e => zc122 (htn.mpr e))]; rfl) rfl rfl (ih _ (by omega) (k + 1) rfl (by omega))
          · skip
            refine z_iconst (v := nI 0) hx dX12_drawn_125 (by decide) ?_
            refine z_goto (tgt := 130) hx dX12_drawn_126 (by decide) ?_
            first | refine z_iaddN hx dX12_drawn_130 ?_ | refine z_iadd hx dX12_drawn_130 ?_
            refine z_istore hx dX12_drawn_131 (Nat.le_of_ble_eq_true rfl) rfl ?_
            refine z_aload_n hx dX12_drawn_133 rfl ?_
            refine z_get hx dX12_drawn_134 fX12_31 rfl rfl ?_
            refine z_iconst (v := nI 0) hx dX12_drawn_137 (by decide) ?_
            refine z_callvsE hx [8] (qX12_passes (zPd (zDl L zs k) (zXn zs (k + 1))) hw9 0 (by decide)) dX12_drawn_138 sX12_163 rfl rfl rfl (by decide) (by decide) rfl (Nat.le_of_ble_eq_true rfl) (by decide) ?_
            refine z_heap (show _ = hM r t L dr (fl (zDl L zs (k + 1))) y a from rfl) ?_
            first | refine z_iincN (z := 1) hx dX12_drawn_141 rfl rfl ?_ | refine z_iinc hx dX12_drawn_141 rfl rfl rfl ?_
            refine z_goto (tgt := 54) hx dX12_drawn_144 (by decide) ?_
            first | exact z_eq (by rw [zDc_t (htn.mp zc122)]; rfl) rfl rfl (ih _ (by omega) (k + 1) rfl (by omega)) | exact z_eq (by rw [zDc_f (fun e => zc122 (htn.mpr e))]; rfl) rfl rfl (ih _ (by omega) (k + 1) rfl (by omega))
        · skip
          refine z_aload_n hx dX12_drawn_81 rfl ?_
          refine z_get hx dX12_drawn_82 fX12_31 rfl rfl ?_
          refine z_iconst (v := nI 4) hx dX12_drawn_85 (by decide) ?_
          refine z_iconst (v := nI 5) hx dX12_drawn_86 (by decide) ?_
          refine z_lload hx dX12_drawn_87 rfl ?_
          refine z_aload_n hx dX12_drawn_89 rfl ?_
          refine z_get hx dX12_drawn_90 fX12_25 rfl rfl ?_
          refine z_iconst (v := nI 3) hx dX12_drawn_93 (by decide) ?_
          refine z_ialdJ hx dX12_drawn_94 rfl (by decide) (by omega) ?_
          refine z_topN (b := lP L) rfl ?_
          refine z_i2l hx dX12_drawn_95 ?_
          refine z_lrem hx dX12_drawn_96 (by rw [nI_l (by omega)]; exact lN_ne0 (by omega) (by omega)) ?_
          refine z_topL (lN (zXn zs (k + 1) % lP L)) (by rw [nI_l (by omega)]; exact pk_lRem (by omega) (by omega) (by omega)) ?_
          have m1 := Nat.mod_lt (zXn zs (k + 1)) (show 0 < lP L by omega)
          refine z_l2i hx dX12_drawn_97 ?_
          refine z_top (b := nI (zXn zs (k + 1) % lP L)) (lN_i _) ?_
          first | refine z_imulN hx dX12_drawn_98 ?_ | refine z_imul hx dX12_drawn_98 ?_
          first | refine z_iaddN hx dX12_drawn_99 ?_ | refine z_iadd hx dX12_drawn_99 ?_
          refine z_iconst (v := nI 2) hx dX12_drawn_100 (by decide) ?_
          first | refine z_iaddN hx dX12_drawn_101 ?_ | refine z_iadd hx dX12_drawn_101 ?_
          refine z_lload hx dX12_drawn_102 rfl ?_
          refine z_ldc2 hx dX12_drawn_104 kX12_209 ?_
          refine z_lrem hx dX12_drawn_107 (by decide) ?_
          refine z_topL (lN (zXn zs (k + 1) % 21)) (pk_lRem (b := 21) (by omega) (by decide) (by decide)) ?_
          refine z_l2i hx dX12_drawn_108 ?_
          refine z_top (b := nI (zXn zs (k + 1) % 21)) (lN_i _) ?_
          refine z_iastN hx dX12_drawn_109 rfl (by decide) (by omega) ?_
          refine z_heap (show _ = hM r t L dr (fl (zPd (zDl L zs k) (zXn zs (k + 1)))) y a by rw [zPd_y (by omega), ← fl_sF, hdp.1]; rfl) ?_
          refine z_iload hx dX12_drawn_110 rfl ?_
          refine z_aload_n hx dX12_drawn_112 rfl ?_
          refine z_get hx dX12_drawn_113 fX12_31 rfl rfl ?_
          refine z_iconst (v := nI 0) hx dX12_drawn_116 (by decide) ?_
          refine z_callisP hx [8] (qX12_tramBy (zPd (zDl L zs k) (zXn zs (k + 1))) hw9 0 (by decide)) dX12_drawn_117 sX12_160 rfl rfl rfl (by decide) (by decide) rfl (Nat.le_of_ble_eq_true rfl) (by decide) ?_
          refine z_ldc hx dX12_drawn_120 kX12_47 ?_
          refine z_icmp_ne (tgt := 129) hx dX12_drawn_122 (by decide) (fun zc122 => ?_) (fun zc122 => ?_)
          · skip
            refine z_iconst (v := nI 1) hx dX12_drawn_129 (by decide) ?_
            first | refine z_iaddN hx dX12_drawn_130 ?_ | refine z_iadd hx dX12_drawn_130 ?_
            refine z_istore hx dX12_drawn_131 (Nat.le_of_ble_eq_true rfl) rfl ?_
            refine z_aload_n hx dX12_drawn_133 rfl ?_
            refine z_get hx dX12_drawn_134 fX12_31 rfl rfl ?_
            refine z_iconst (v := nI 0) hx dX12_drawn_137 (by decide) ?_
            refine z_callvsE hx [8] (qX12_passes (zPd (zDl L zs k) (zXn zs (k + 1))) hw9 0 (by decide)) dX12_drawn_138 sX12_163 rfl rfl rfl (by decide) (by decide) rfl (Nat.le_of_ble_eq_true rfl) (by decide) ?_
            refine z_heap (show _ = hM r t L dr (fl (zDl L zs (k + 1))) y a from rfl) ?_
            first | refine z_iincN (z := 1) hx dX12_drawn_141 rfl rfl ?_ | refine z_iinc hx dX12_drawn_141 rfl rfl rfl ?_
            refine z_goto (tgt := 54) hx dX12_drawn_144 (by decide) ?_
            first | exact z_eq (by rw [zDc_t (htn.mp zc122)]; rfl) rfl rfl (ih _ (by omega) (k + 1) rfl (by omega)) | exact z_eq (by rw [zDc_f (fun e => zc122 (htn.mpr e))]; rfl) rfl rfl (ih _ (by omega) (k + 1) rfl (by omega))
          · skip
            refine z_iconst (v := nI 0) hx dX12_drawn_125 (by decide) ?_
            refine z_goto (tgt := 130) hx dX12_drawn_126 (by decide) ?_
            first | refine z_iaddN hx dX12_drawn_130 ?_ | refine z_iadd hx dX12_drawn_130 ?_
            refine z_istore hx dX12_drawn_131 (Nat.le_of_ble_eq_true rfl) rfl ?_
            refine z_aload_n hx dX12_drawn_133 rfl ?_
            refine z_get hx dX12_drawn_134 fX12_31 rfl rfl ?_
            refine z_iconst (v := nI 0) hx dX12_drawn_137 (by decide) ?_
            refine z_callvsE hx [8] (qX12_passes (zPd (zDl L zs k) (zXn zs (k + 1))) hw9 0 (by decide)) dX12_drawn_138 sX12_163 rfl rfl rfl (by decide) (by decide) rfl (Nat.le_of_ble_eq_true rfl) (by decide) ?_
            refine z_heap (show _ = hM r t L dr (fl (zDl L zs (k + 1))) y a from rfl) ?_
            first | refine z_iincN (z := 1) hx dX12_drawn_141 rfl rfl ?_ | refine z_iinc hx dX12_drawn_141 rfl rfl rfl ?_
            refine z_goto (tgt := 54) hx dX12_drawn_144 (by decide) ?_
            first | exact z_eq (by rw [zDc_t (htn.mp zc122)]; rfl) rfl rfl (ih _ (by omega) (k + 1) rfl (by omega)) | exact z_eq (by rw [zDc_f (fun e => zc122 (htn.mpr e))]; rfl) rfl rfl (ih _ (by omega) (k + 1) rfl (by omega))
  refine z_aload_n hx dX12_drawn_0 rfl ?_
  refine z_callivF hx (qX12_isLine r t L dr tr y a hw) dX12_drawn_1 sX12_167 rfl rfl rfl rfl (Nat.le_of_ble_eq_true rfl) rfl (Nat.le_of_ble_eq_true rfl) (by decide) ?_
  first | refine z_if_neB (tgt := 10) hx dX12_drawn_4 (by decide) (fun zc4 => ?_) (fun zc4 => ?_) | refine z_if_neN (tgt := 10) hx dX12_drawn_4 (by decide) (by omega) (fun zc4 => ?_) (fun zc4 => ?_) | refine z_if_ne (tgt := 10) hx dX12_drawn_4 (by decide) (fun zc4 => ?_) (fun zc4 => ?_)
  · skip
    refine z_iload_n hx dX12_drawn_10 rfl ?_
    refine z_callisP hx [] (qX12_isFar _) dX12_drawn_11 sX12_187 rfl rfl rfl (by decide) (by decide) rfl (Nat.le_of_ble_eq_true rfl) (by decide) ?_
    first | refine z_if_eqB (tgt := 36) hx dX12_drawn_14 (by decide) (fun zc14 => ?_) (fun zc14 => ?_) | refine z_if_eqN (tgt := 36) hx dX12_drawn_14 (by decide) (by omega) (fun zc14 => ?_) (fun zc14 => ?_) | refine z_if_eq (tgt := 36) hx dX12_drawn_14 (by decide) (fun zc14 => ?_) (fun zc14 => ?_)
    · skip
      refine z_ldc hx dX12_drawn_36 kX12_61 ?_
      exact z_iret hx hF dX12_drawn_38 rfl rfl ⟨by unfold aDrwn; first | rw [zII_f zc4] | rw [zII_t zc4, zII_f (fun h => zc14 h.1)] | rw [zII_t zc4, zII_f (fun h => zc24 h.2.1)] | rw [zII_t zc4, zII_f (fun h => zc33 h.2.2)] | exact zzz_open, hMx_i _ _ _ _ _ _ _⟩
    · skip
      obtain ⟨zn, -, zhn, rfl⟩ := zc14
      refine z_iload_n hx dX12_drawn_17 rfl ?_
      refine z_iconst (v := nI 1) hx dX12_drawn_18 (by decide) ?_
      refine z_ldc hx dX12_drawn_19 kX12_204 ?_
      refine z_top (b := nI 999999) rfl ?_
      refine z_callisP hx [] (qX12_inN _ _ _ (by decide)) dX12_drawn_21 sX12_53 rfl rfl rfl (by decide) (by decide) rfl (Nat.le_of_ble_eq_true rfl) (by decide) ?_
      first | refine z_if_eqB (tgt := 36) hx dX12_drawn_24 (by decide) (fun zc24 => ?_) (fun zc24 => ?_) | refine z_if_eqN (tgt := 36) hx dX12_drawn_24 (by decide) (by omega) (fun zc24 => ?_) (fun zc24 => ?_) | refine z_if_eq (tgt := 36) hx dX12_drawn_24 (by decide) (fun zc24 => ?_) (fun zc24 => ?_)
      · skip
        refine z_ldc hx dX12_drawn_36 kX12_61 ?_
        exact z_iret hx hF dX12_drawn_38 rfl rfl ⟨by unfold aDrwn; first | rw [zII_f zc4] | rw [zII_t zc4, zII_f (fun h => zc14 h.1)] | rw [zII_t zc4, zII_f (fun h => zc24 h.2.1)] | rw [zII_t zc4, zII_f (fun h => zc33 h.2.2)] | exact zzz_open, hMx_i _ _ _ _ _ _ _⟩
      · skip
        obtain ⟨zs, zh1, zhs, rfl⟩ := zc24
        refine z_iload_n hx dX12_drawn_27 rfl ?_
        refine z_iconst (v := nI 0) hx dX12_drawn_28 (by decide) ?_
        refine z_iconst (v := nI 1) hx dX12_drawn_29 (by decide) ?_
        refine z_callisP hx [] (qX12_inN _ _ _ (by decide)) dX12_drawn_30 sX12_53 rfl rfl rfl (by decide) (by decide) rfl (Nat.le_of_ble_eq_true rfl) (by decide) ?_
        first | refine z_if_neB (tgt := 39) hx dX12_drawn_33 (by decide) (fun zc33 => ?_) (fun zc33 => ?_) | refine z_if_neN (tgt := 39) hx dX12_drawn_33 (by decide) (by omega) (fun zc33 => ?_) (fun zc33 => ?_) | refine z_if_ne (tgt := 39) hx dX12_drawn_33 (by decide) (fun zc33 => ?_) (fun zc33 => ?_)
        · skip
          obtain ⟨ze, -, zhe, rfl⟩ := zc33
          refine z_aload_n hx dX12_drawn_39 rfl ?_
          refine z_iconst (v := nI 0) hx dX12_drawn_40 (by decide) ?_
          refine z_callvvF hx (qX12_tries r t L dr tr y a hw hm 0 (by decide)) dX12_drawn_41 sX12_190 rfl rfl rfl rfl (Nat.le_of_ble_eq_true rfl) rfl (Nat.le_of_ble_eq_true rfl) (by decide) ?_
          refine z_heap (show _ = hM r t L dr (fl L) y a from rfl) ?_
          refine z_iload_n hx dX12_drawn_44 rfl ?_
          refine z_i2l hx dX12_drawn_45 ?_
          refine z_topL (lN zs) (nI_l (by omega)) ?_
          refine z_lstore hx dX12_drawn_46 (Nat.le_of_ble_eq_true rfl) rfl ?_
          refine z_iconst (v := nI 0) hx dX12_drawn_48 (by decide) ?_
          refine z_istore hx dX12_drawn_49 (Nat.le_of_ble_eq_true rfl) rfl ?_
          refine z_iconst (v := nI 0) hx dX12_drawn_51 (by decide) ?_
          refine z_istore hx dX12_drawn_52 (Nat.le_of_ble_eq_true rfl) rfl ?_
          exact hloop zc4 zn zhn zs zh1 zhs ze zhe hF _ 0 rfl (Nat.zero_le _)
        · skip
          refine z_ldc hx dX12_drawn_36 kX12_61 ?_
          exact z_iret hx hF dX12_drawn_38 rfl rfl ⟨by unfold aDrwn; first | rw [zII_f zc4] | rw [zII_t zc4, zII_f (fun h => zc14 h.1)] | rw [zII_t zc4, zII_f (fun h => zc24 h.2.1)] | rw [zII_t zc4, zII_f (fun h => zc33 h.2.2)] | exact zzz_open, hMx_i _ _ _ _ _ _ _⟩
  · skip
    refine z_ldc hx dX12_drawn_7 kX12_170 ?_
    exact z_iret hx hF dX12_drawn_9 rfl rfl ⟨by unfold aDrwn; first | rw [zII_f zc4] | rw [zII_t zc4, zII_f (fun h => zc14 h.1)] | rw [zII_t zc4, zII_f (fun h => zc24 h.2.1)] | rw [zII_t zc4, zII_f (fun h => zc33 h.2.2)] | exact zzz_open, hMx_i _ _ _ _ _ _ _⟩

theorem zgcd_a {u v : Nat} (h : 0 < v) : Nat.gcd v (u % v) = Nat.gcd u v := by rw [Nat.gcd_comm u v, Nat.gcd_rec v u, Nat.gcd_comm]
theorem zWy_t {s c p : Nat} (h : s.testBit p = true) : zWy s c (p + 1) = zWy s c p * c := by rw [zWy, if_pos h]
theorem zWy_f {s c p : Nat} (h : ¬ s.testBit p = true) : zWy s c (p + 1) = zWy s c p * (10 - c) := by rw [zWy, if_neg h]
set_option maxHeartbeats 4000000 in
set_option maxRecDepth 100000 in
theorem qX12_rain (r : zMR) (t : zMT) (L : zL) (dr tr : Nat → Nat) (y : zMY) (a : zMA) (hw : zWf L) (hm : lM L ≤ 1000) (v c w : Int32) : zMi mX12_rain 5 ([.ref 0, .int v, .int c, .int w]) (hM r t L dr tr y a) (fun z u => z = aRain L v c w ∧ hMx r t L y a u) := by
  refine zMi.of (by decide) (Nat.le_of_ble_eq_true rfl) (fun x hx hF => ?_)
  obtain ⟨w1, w2, w3, w4, w5⟩ := id hw
  have h64 : 2 ^ lP L ≤ 2 ^ 6 := Nat.pow_le_pow_right (by decide) w3
  have h0p : 0 < 2 ^ lP L := Nat.pow_pos (by decide)
  have h106 : 10 ^ lP L ≤ 10 ^ 6 := Nat.pow_le_pow_right (by decide) w3
  have h10p : 0 < 10 ^ lP L := Nat.pow_pos (by decide)
  have hg : ∀ (zj : Nat) (zhj : zj < lS L) (zq : Nat) (zhq : zq ≤ 10) (ze : Nat) (zhe : ze ≤ 1) (hF : zFi x (hM r t L dr tr y a).length (fun z u => z = aRain L (nI zj) (nI zq) (nI ze) ∧ hMx r t L y a u)) (n162 u v : Nat) (e9 : Option Value), v = n162 → u ≤ 1000000 → v ≤ 1000000 → Nat.gcd u v = Nat.gcd (10 ^ lP L) (zRa L zj zq (2 ^ lP L)) → zV x 162 [some (.ref 0), some (.int (nI zj)), some (.int (nI zq)), some (.int (nI ze)), some (.int (nI ((zRa L zj zq (2 ^ lP L))))), some (.int (nI (10 ^ lP L))), some (.int (nI (u))), some (.int (nI (v))), e9] [] (hM r t L dr tr y a) := by
    intro zj zhj zq zhq ze zhe hF n162
    have hnj : zNat (nI zj) = zj := zNat_nI (by omega)
    have hnq : zNat (nI zq) = zq := zNat_nI (by omega)
    have hra : zRa L zj zq (2 ^ lP L) ≤ 10 ^ lP L := by have := zRa_le L zj zq (2 ^ lP L); rw [zRb_all zq (by omega) (lP L) (by omega)] at this; exact this
    induction n162 using Nat.strongRecOn with
    | ind n162 ih =>
      intro u v e9 hn hu hv hgc
      refine z_iload hx dX12_rain_162 rfl ?_
      refine z_if_eqN (tgt := 185) hx dX12_rain_164 (by decide) (by omega) (fun zc164 => ?_) (fun zc164 => ?_)
      · skip
        have hgg : Nat.gcd (10 ^ lP L) (zRa L zj zq (2 ^ lP L)) = u := by rw [← hgc, show v = 0 by omega, Nat.gcd_zero_right]
        have hu0 : 0 < u := by rw [← hgg]; exact Nat.gcd_pos_of_pos_left _ h10p
        refine z_iload_n hx dX12_rain_185 rfl ?_
        first | refine z_if_neB (tgt := 194) hx dX12_rain_186 (by decide) (fun zc186 => ?_) (fun zc186 => ?_) | refine z_if_neN (tgt := 194) hx dX12_rain_186 (by decide) (by omega) (fun zc186 => ?_) (fun zc186 => ?_) | refine z_if_ne (tgt := 194) hx dX12_rain_186 (by decide) (fun zc186 => ?_) (fun zc186 => ?_)
        · skip
          refine z_iload hx dX12_rain_194 rfl ?_
          refine z_iload hx dX12_rain_196 rfl ?_
          refine z_idivN hx dX12_rain_198 (by omega) (by omega) (by omega) ?_
          exact z_iret hx hF dX12_rain_199 rfl rfl ⟨by unfold aRain; first | rw [zII_t ⟨⟨zj, zhj, rfl⟩, ⟨zq, Nat.zero_le _, zhq, rfl⟩, ⟨ze, Nat.zero_le _, zhe, rfl⟩⟩, hnj, hnq, if_pos (by rw [show ze = 0 by omega]), hgg] | rw [zII_t ⟨⟨zj, zhj, rfl⟩, ⟨zq, Nat.zero_le _, zhq, rfl⟩, ⟨ze, Nat.zero_le _, zhe, rfl⟩⟩, hnj, hnq, if_neg (nI_ne (by omega) (by omega) (by omega)), hgg] | exact zzz_open, hMx_i _ _ _ _ _ _ _⟩
        · skip
          refine z_iload hx dX12_rain_189 rfl ?_
          refine z_goto (tgt := 196) hx dX12_rain_191 (by decide) ?_
          refine z_iload hx dX12_rain_196 rfl ?_
          refine z_idivN hx dX12_rain_198 (by omega) (by omega) (by omega) ?_
          exact z_iret hx hF dX12_rain_199 rfl rfl ⟨by unfold aRain; first | rw [zII_t ⟨⟨zj, zhj, rfl⟩, ⟨zq, Nat.zero_le _, zhq, rfl⟩, ⟨ze, Nat.zero_le _, zhe, rfl⟩⟩, hnj, hnq, if_pos (by rw [show ze = 0 by omega]), hgg] | rw [zII_t ⟨⟨zj, zhj, rfl⟩, ⟨zq, Nat.zero_le _, zhq, rfl⟩, ⟨ze, Nat.zero_le _, zhe, rfl⟩⟩, hnj, hnq, if_neg (nI_ne (by omega) (by omega) (by omega)), hgg] | exact zzz_open, hMx_i _ _ _ _ _ _ _⟩
      · skip
        have hmod := Nat.mod_lt u zc164
        refine z_iload hx dX12_rain_167 rfl ?_
        refine z_iload hx dX12_rain_169 rfl ?_
        refine z_iremN hx dX12_rain_171 (by omega) (by omega) (by omega) ?_
        refine z_istore hx dX12_rain_172 (Nat.le_of_ble_eq_true rfl) rfl ?_
        refine z_iload hx dX12_rain_174 rfl ?_
        refine z_istore hx dX12_rain_176 (Nat.le_of_ble_eq_true rfl) rfl ?_
        refine z_iload hx dX12_rain_178 rfl ?_
        refine z_istore hx dX12_rain_180 (Nat.le_of_ble_eq_true rfl) rfl ?_
        refine z_goto (tgt := 162) hx dX12_rain_182 (by decide) ?_
        exact ih _ (by omega) v (u % v) _ rfl (by omega) (by have := Nat.mod_lt u zc164; omega) ((zgcd_a zc164).trans hgc)
  have hs9 : ∀ (zj : Nat) (zhj : zj < lS L) (zq : Nat) (zhq : zq ≤ 10) (ze : Nat) (zhe : ze ≤ 1) (hF : zFi x (hM r t L dr tr y a).length (fun z u => z = aRain L (nI zj) (nI zq) (nI ze) ∧ hMx r t L y a u)) (n66 s : Nat) (e7 e8 : Option Value), 2 ^ lP L - s = n66 → s ≤ 2 ^ lP L → zV x 66 [some (.ref 0), some (.int (nI zj)), some (.int (nI zq)), some (.int (nI ze)), some (.int (nI (zRa L zj zq s))), some (.int (nI (10 ^ lP L))), some (.int (nI (s))), e7, e8] [] (hM r t L dr tr y a) := by
    intro zj zhj zq zhq ze zhe hF n66
    have hnj : zNat (nI zj) = zj := zNat_nI (by omega)
    have hnq : zNat (nI zq) = zq := zNat_nI (by omega)
    induction n66 using Nat.strongRecOn with
    | ind n66 ih =>
      intro s e7 e8 hn hs8
      have hra := zRa_le L zj zq s
      have hrb := zRb_le zq (by omega) (lP L) (by omega) s (by omega) hs8
      have hwy : ∀ p, p ≤ lP L → s < 64 → zWy s zq p ≤ 1000000 := fun p hp h9 => zWy_le zq (by omega) p (by omega) s h9
      have hin : ∀ (n84 p : Nat), lP L - p = n84 → p ≤ lP L → s < 2 ^ lP L → zV x 84 [some (.ref 0), some (.int (nI zj)), some (.int (nI zq)), some (.int (nI ze)), some (.int (nI (zRa L zj zq s))), some (.int (nI (10 ^ lP L))), some (.int (nI (s))), some (.int (nI (zWy s zq p))), some (.int (nI (p)))] [] (hM r t L dr tr y a) := by
        intro n84
        induction n84 using Nat.strongRecOn with
        | ind n84 ih2 =>
          intro p hn2 hp hsl
          have hwp := hwy p hp (by omega)
          refine z_iload hx dX12_rain_84 rfl ?_
          refine z_aload_n hx dX12_rain_86 rfl ?_
          refine z_get hx dX12_rain_87 fX12_25 rfl rfl ?_
          refine z_iconst (v := nI 3) hx dX12_rain_90 (by decide) ?_
          refine z_ialdJ hx dX12_rain_91 rfl (by decide) (by omega) ?_
          first | refine z_topN (fl_A L _) ?_ | refine z_topN (fl_F L _) ?_ | refine z_topN (fl_W L _) ?_ | refine z_topN (fl_T L _) ?_ | refine z_topN (fl_K L _) ?_ | refine z_topN (fl_0 L) ?_ | refine z_topN (fl_1 L) ?_ | refine z_topN (fl_2 L) ?_ | refine z_topN (fl_3 L) ?_
          first | refine z_icmp_geN (tgt := 124) hx dX12_rain_92 (by decide) (by omega) (by omega) (fun zc92 => ?_) (fun zc92 => ?_) | refine z_icmp_ge (tgt := 124) hx dX12_rain_92 (by decide) (fun zc92 => ?_) (fun zc92 => ?_)
          · skip
            have hte := tN_eq (a := zj) (x := zTr L s) (by omega) (fun j9 h9 => by have := zTr_lt h9; omega)
            refine z_iload hx dX12_rain_124 rfl ?_
            refine z_aload_n hx dX12_rain_126 rfl ?_
            refine z_get hx dX12_rain_127 fX12_25 rfl rfl ?_
            refine z_iload hx dX12_rain_130 rfl ?_
            refine z_callisP hx [6] (qX12_tramBy L hw s (by omega)) dX12_rain_132 sX12_160 rfl rfl rfl (by decide) (by decide) rfl (Nat.le_of_ble_eq_true rfl) (by decide) ?_
            refine z_iload_n hx dX12_rain_135 rfl ?_
            refine z_icmp_ne (tgt := 144) hx dX12_rain_136 (by decide) (fun zc136 => ?_) (fun zc136 => ?_)
            · skip
              refine z_iconst (v := nI 0) hx dX12_rain_144 (by decide) ?_
              first | refine z_iaddN hx dX12_rain_145 ?_ | refine z_iadd hx dX12_rain_145 ?_
              refine z_istore hx dX12_rain_146 (Nat.le_of_ble_eq_true rfl) rfl ?_
              first | refine z_iincN (z := 1) hx dX12_rain_148 rfl rfl ?_ | refine z_iinc hx dX12_rain_148 rfl rfl rfl ?_
              refine z_goto (tgt := 66) hx dX12_rain_151 (by decide) ?_
              first | exact z_eq (by rw [zRa_t (hte.mp zc136.symm), show lP L = p by omega]; rfl) rfl rfl (ih _ (by omega) (s + 1) _ _ rfl (by omega)) | exact z_eq (by rw [zRa_f (fun e => zc136 (hte.mpr e).symm)]; rfl) rfl rfl (ih _ (by omega) (s + 1) _ _ rfl (by omega))
            · skip
              refine z_iload hx dX12_rain_139 rfl ?_
              refine z_goto (tgt := 145) hx dX12_rain_141 (by decide) ?_
              first | refine z_iaddN hx dX12_rain_145 ?_ | refine z_iadd hx dX12_rain_145 ?_
              refine z_istore hx dX12_rain_146 (Nat.le_of_ble_eq_true rfl) rfl ?_
              first | refine z_iincN (z := 1) hx dX12_rain_148 rfl rfl ?_ | refine z_iinc hx dX12_rain_148 rfl rfl rfl ?_
              refine z_goto (tgt := 66) hx dX12_rain_151 (by decide) ?_
              first | exact z_eq (by rw [zRa_t (hte.mp zc136.symm), show lP L = p by omega]; rfl) rfl rfl (ih _ (by omega) (s + 1) _ _ rfl (by omega)) | exact z_eq (by rw [zRa_f (fun e => zc136 (hte.mpr e).symm)]; rfl) rfl rfl (ih _ (by omega) (s + 1) _ _ rfl (by omega))
          · skip
            refine z_iload hx dX12_rain_95 rfl ?_
            refine z_iload hx dX12_rain_97 rfl ?_
            refine z_iload hx dX12_rain_99 rfl ?_
            refine z_callisP hx [] (qX12_has s p (by omega) (by omega)) dX12_rain_101 sX12_142 rfl rfl rfl (by decide) (by decide) rfl (Nat.le_of_ble_eq_true rfl) (by decide) ?_
            refine z_if_eqB (tgt := 111) hx dX12_rain_104 (by decide) (fun zc104 => ?_) (fun zc104 => ?_)
            · skip
              refine z_bipush (v := nI 10) hx dX12_rain_111 (by decide) ?_
              refine z_iload_n hx dX12_rain_113 rfl ?_
              first | refine z_isubN hx dX12_rain_114 (by omega) ?_ | refine z_isub hx dX12_rain_114 ?_
              first | refine z_imulN hx dX12_rain_115 ?_ | refine z_imul hx dX12_rain_115 ?_
              refine z_istore hx dX12_rain_116 (Nat.le_of_ble_eq_true rfl) rfl ?_
              first | refine z_iincN (z := 1) hx dX12_rain_118 rfl rfl ?_ | refine z_iinc hx dX12_rain_118 rfl rfl rfl ?_
              refine z_goto (tgt := 84) hx dX12_rain_121 (by decide) ?_
              first | exact z_eq (by rw [zWy_t zc104]; rfl) rfl rfl (ih2 _ (by omega) (p + 1) rfl (by omega) hsl) | exact z_eq (by rw [zWy_f zc104]; rfl) rfl rfl (ih2 _ (by omega) (p + 1) rfl (by omega) hsl)
            · skip
              refine z_iload_n hx dX12_rain_107 rfl ?_
              refine z_goto (tgt := 115) hx dX12_rain_108 (by decide) ?_
              first | refine z_imulN hx dX12_rain_115 ?_ | refine z_imul hx dX12_rain_115 ?_
              refine z_istore hx dX12_rain_116 (Nat.le_of_ble_eq_true rfl) rfl ?_
              first | refine z_iincN (z := 1) hx dX12_rain_118 rfl rfl ?_ | refine z_iinc hx dX12_rain_118 rfl rfl rfl ?_
              refine z_goto (tgt := 84) hx dX12_rain_121 (by decide) ?_
              first | exact z_eq (by rw [zWy_t zc104]; rfl) rfl rfl (ih2 _ (by omega) (p + 1) rfl (by omega) hsl) | exact z_eq (by rw [zWy_f zc104]; rfl) rfl rfl (ih2 _ (by omega) (p + 1) rfl (by omega) hsl)
      refine z_iload hx dX12_rain_66 rfl ?_
      refine z_aload_n hx dX12_rain_68 rfl ?_
      refine z_get hx dX12_rain_69 fX12_25 rfl rfl ?_
      refine z_callisP hx [6] (qX12_everybody L hw) dX12_rain_72 sX12_198 rfl rfl rfl (by decide) (by decide) rfl (Nat.le_of_ble_eq_true rfl) (by decide) ?_
      first | refine z_icmp_gtN (tgt := 154) hx dX12_rain_75 (by decide) (by omega) (by omega) (fun zc75 => ?_) (fun zc75 => ?_) | refine z_icmp_gt (tgt := 154) hx dX12_rain_75 (by decide) (fun zc75 => ?_) (fun zc75 => ?_)
      · skip
        refine z_iload hx dX12_rain_154 rfl ?_
        refine z_istore hx dX12_rain_156 (Nat.le_of_ble_eq_true rfl) rfl ?_
        refine z_iload hx dX12_rain_158 rfl ?_
        refine z_istore hx dX12_rain_160 (Nat.le_of_ble_eq_true rfl) rfl ?_
        exact z_eq (by rw [show s = 2 ^ lP L by omega]; rfl) rfl rfl (hg zj zhj zq zhq ze zhe hF _ (zRa L zj zq (2 ^ lP L)) (10 ^ lP L) _ rfl (by have := zRb_all zq (by omega) (lP L) (by omega); rw [show s = 2 ^ lP L by omega] at hra; omega) (by omega) (Nat.gcd_comm _ _))
      · skip
        refine z_iconst (v := nI 1) hx dX12_rain_78 (by decide) ?_
        refine z_istore hx dX12_rain_79 (Nat.le_of_ble_eq_true rfl) rfl ?_
        refine z_iconst (v := nI 0) hx dX12_rain_81 (by decide) ?_
        refine z_istore hx dX12_rain_82 (Nat.le_of_ble_eq_true rfl) rfl ?_
        exact hin _ 0 rfl (Nat.zero_le _) (by omega)
  have ht : ∀ (zj : Nat) (zhj : zj < lS L) (zq : Nat) (zhq : zq ≤ 10) (ze : Nat) (zhe : ze ≤ 1) (hF : zFi x (hM r t L dr tr y a).length (fun z u => z = aRain L (nI zj) (nI zq) (nI ze) ∧ hMx r t L y a u)) (n39 p : Nat), lP L - p = n39 → p ≤ lP L → zV x 39 [some (.ref 0), some (.int (nI zj)), some (.int (nI zq)), some (.int (nI ze)), some (.int (nI (0))), some (.int (nI (10 ^ p))), some (.int (nI (p))), none, none] [] (hM r t L dr tr y a) := by
    intro zj zhj zq zhq ze zhe hF n39
    induction n39 using Nat.strongRecOn with
    | ind n39 ih =>
      intro p hn hp
      have h10 : 10 ^ p ≤ 10 ^ 6 := Nat.pow_le_pow_right (by decide) (by omega)
      refine z_iload hx dX12_rain_39 rfl ?_
      refine z_aload_n hx dX12_rain_41 rfl ?_
      refine z_get hx dX12_rain_42 fX12_25 rfl rfl ?_
      refine z_iconst (v := nI 3) hx dX12_rain_45 (by decide) ?_
      refine z_ialdJ hx dX12_rain_46 rfl (by decide) (by omega) ?_
      first | refine z_topN (fl_A L _) ?_ | refine z_topN (fl_F L _) ?_ | refine z_topN (fl_W L _) ?_ | refine z_topN (fl_T L _) ?_ | refine z_topN (fl_K L _) ?_ | refine z_topN (fl_0 L) ?_ | refine z_topN (fl_1 L) ?_ | refine z_topN (fl_2 L) ?_ | refine z_topN (fl_3 L) ?_
      first | refine z_icmp_geN (tgt := 63) hx dX12_rain_47 (by decide) (by omega) (by omega) (fun zc47 => ?_) (fun zc47 => ?_) | refine z_icmp_ge (tgt := 63) hx dX12_rain_47 (by decide) (fun zc47 => ?_) (fun zc47 => ?_)
      · skip
        refine z_iconst (v := nI 0) hx dX12_rain_63 (by decide) ?_
        refine z_istore hx dX12_rain_64 (Nat.le_of_ble_eq_true rfl) rfl ?_
        exact z_eq (by rw [show p = lP L by omega]; rfl) rfl rfl (hs9 zj zhj zq zhq ze zhe hF _ 0 _ _ rfl (Nat.zero_le _))
      · skip
        refine z_iload hx dX12_rain_50 rfl ?_
        refine z_bipush (v := nI 10) hx dX12_rain_52 (by decide) ?_
        first | refine z_imulN hx dX12_rain_54 ?_ | refine z_imul hx dX12_rain_54 ?_
        refine z_istore hx dX12_rain_55 (Nat.le_of_ble_eq_true rfl) rfl ?_
        skip
        first | refine z_iincN (z := 1) hx dX12_rain_57 rfl rfl ?_ | refine z_iinc hx dX12_rain_57 rfl rfl rfl ?_
        refine z_goto (tgt := 39) hx dX12_rain_60 (by decide) ?_
        exact ih _ (by omega) (p + 1) rfl (by omega)
  refine z_aload_n hx dX12_rain_0 rfl ?_
  refine z_iload_n hx dX12_rain_1 rfl ?_
  refine z_callivF hx (qX12_isStop r t L dr tr y a hw _) dX12_rain_2 sX12_181 rfl rfl rfl rfl (Nat.le_of_ble_eq_true rfl) rfl (Nat.le_of_ble_eq_true rfl) (by decide) ?_
  first | refine z_if_eqB (tgt := 27) hx dX12_rain_5 (by decide) (fun zc5 => ?_) (fun zc5 => ?_) | refine z_if_eqN (tgt := 27) hx dX12_rain_5 (by decide) (by omega) (fun zc5 => ?_) (fun zc5 => ?_) | refine z_if_eq (tgt := 27) hx dX12_rain_5 (by decide) (fun zc5 => ?_) (fun zc5 => ?_)
  · skip
    refine z_ldc hx dX12_rain_27 kX12_61 ?_
    exact z_iret hx hF dX12_rain_29 rfl rfl ⟨by unfold aRain; first | rw [zII_f (fun h => zc5 h.1)] | rw [zII_f (fun h => zc15 h.2.1)] | rw [zII_f (fun h => zc24 h.2.2)] | exact zzz_open, hMx_i _ _ _ _ _ _ _⟩
  · skip
    obtain ⟨zj, zhj, rfl⟩ := zc5
    refine z_iload_n hx dX12_rain_8 rfl ?_
    refine z_iconst (v := nI 0) hx dX12_rain_9 (by decide) ?_
    refine z_bipush (v := nI 10) hx dX12_rain_10 (by decide) ?_
    refine z_callisP hx [] (qX12_inN _ _ _ (by decide)) dX12_rain_12 sX12_53 rfl rfl rfl (by decide) (by decide) rfl (Nat.le_of_ble_eq_true rfl) (by decide) ?_
    first | refine z_if_eqB (tgt := 27) hx dX12_rain_15 (by decide) (fun zc15 => ?_) (fun zc15 => ?_) | refine z_if_eqN (tgt := 27) hx dX12_rain_15 (by decide) (by omega) (fun zc15 => ?_) (fun zc15 => ?_) | refine z_if_eq (tgt := 27) hx dX12_rain_15 (by decide) (fun zc15 => ?_) (fun zc15 => ?_)
    · skip
      refine z_ldc hx dX12_rain_27 kX12_61 ?_
      exact z_iret hx hF dX12_rain_29 rfl rfl ⟨by unfold aRain; first | rw [zII_f (fun h => zc5 h.1)] | rw [zII_f (fun h => zc15 h.2.1)] | rw [zII_f (fun h => zc24 h.2.2)] | exact zzz_open, hMx_i _ _ _ _ _ _ _⟩
    · skip
      obtain ⟨zq, -, zhq, rfl⟩ := zc15
      refine z_iload_n hx dX12_rain_18 rfl ?_
      refine z_iconst (v := nI 0) hx dX12_rain_19 (by decide) ?_
      refine z_iconst (v := nI 1) hx dX12_rain_20 (by decide) ?_
      refine z_callisP hx [] (qX12_inN _ _ _ (by decide)) dX12_rain_21 sX12_53 rfl rfl rfl (by decide) (by decide) rfl (Nat.le_of_ble_eq_true rfl) (by decide) ?_
      first | refine z_if_neB (tgt := 30) hx dX12_rain_24 (by decide) (fun zc24 => ?_) (fun zc24 => ?_) | refine z_if_neN (tgt := 30) hx dX12_rain_24 (by decide) (by omega) (fun zc24 => ?_) (fun zc24 => ?_) | refine z_if_ne (tgt := 30) hx dX12_rain_24 (by decide) (fun zc24 => ?_) (fun zc24 => ?_)
      · skip
        obtain ⟨ze, -, zhe, rfl⟩ := zc24
        refine z_iconst (v := nI 0) hx dX12_rain_30 (by decide) ?_
        refine z_istore hx dX12_rain_31 (Nat.le_of_ble_eq_true rfl) rfl ?_
        refine z_iconst (v := nI 1) hx dX12_rain_33 (by decide) ?_
        refine z_istore hx dX12_rain_34 (Nat.le_of_ble_eq_true rfl) rfl ?_
        refine z_iconst (v := nI 0) hx dX12_rain_36 (by decide) ?_
        refine z_istore hx dX12_rain_37 (Nat.le_of_ble_eq_true rfl) rfl ?_
        exact ht zj zhj zq zhq ze zhe hF _ 0 rfl (Nat.zero_le _)
      · skip
        refine z_ldc hx dX12_rain_27 kX12_61 ?_
        exact z_iret hx hF dX12_rain_29 rfl rfl ⟨by unfold aRain; first | rw [zII_f (fun h => zc5 h.1)] | rw [zII_f (fun h => zc15 h.2.1)] | rw [zII_f (fun h => zc24 h.2.2)] | exact zzz_open, hMx_i _ _ _ _ _ _ _⟩

