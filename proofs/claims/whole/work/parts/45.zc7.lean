/-- fits, bounds: the answer, the finding -/
noncomputable def zFts (L : zL) (g : Nat → Int32) (q n : Nat) (w : Int32) : Nat := if w = nI 0 then zBi (fun v => zTo (lsF L q v) g n) 21 else zBi (fun v => 1 ≤ v ∧ zTo (lsK L q v) g n) 6
noncomputable def aFits (R : zRw) (L : zL) (s : Nat) (v rw i n w : Int32) : Int32 × Nat := zIG (inP (lP L) v ∧ inR 0 7 rw ∧ inR 1 16 n ∧ inR 0 1 w) (zIG (zFnd (R.2.1 (zNat rw)) i n = 0) (nI (zFts L (fun d => R.2.2 (zNat rw) (zNat i + d)) (zNat v) (zNat n) w), 0) (-1000010 - nI (zFnd (R.2.1 (zNat rw)) i n), zFnd (R.2.1 (zNat rw)) i n)) (-1000001, s)
noncomputable def aBnds (R : zRw) (L : zL) (s : Nat) (rw i n : Int32) : Int32 × Nat := zIG (0 < lS L) (zIG (inR 0 7 rw ∧ inR 1 16 n) (zIG (zFnd (R.2.1 (zNat rw)) i n = 0) (nI (zBi (fun v => zTo (lsB L v) (fun d => R.2.2 (zNat rw) (zNat i + d)) (zNat n)) 30), 0) (-1000010 - nI (zFnd (R.2.1 (zNat rw)) i n), zFnd (R.2.1 (zNat rw)) i n)) (-1000001, s)) (-1000002, s)
set_option maxHeartbeats 4000000 in
set_option maxRecDepth 100000 in
theorem qX11_fits (la : Nat → Nat) (sz : Nat → Option Nat) (it : Nat → Nat → Int32) (t : zTp) (L : zL) (cr ho : Nat → Nat) (P : zL) (pr po : Nat → Nat) (i : zLk × zLk) (y : zPy) (a : zAs) (f1 f2 : Nat) (hw : zWf L) (hm : lM L ≤ 1000) (hs : zRok sz) (v rw i9 n9 w : Int32) : zMi mX11_fits 8 ([.ref 0, .int v, .int rw, .int i9, .int n9, .int w]) (hC ((la, sz, it), t, (L, cr, ho), (P, pr, po), i, y, a, (f1, f2))) (fun z u => ∃ s9 p9, (z, s9) = aFits (la, sz, it) L f2 v rw i9 n9 w ∧ u = hC ((la, sz, it), t, (L, cr, ho), p9, i, y, a, (f1, s9))) := by
  refine zMi.of (by decide) (Nat.le_of_ble_eq_true rfl) (fun x hx hF => ?_)
  obtain ⟨w1, w2, w3, w4, w5⟩ := id hw
  refine z_aload_n hx dX11_fits_0 rfl ?_
  refine z_iload_n hx dX11_fits_1 rfl ?_
  refine z_callivF hx (qX11_isPerson (la, sz, it) t (P, pr, po) i y a (f1, f2) L cr ho hw _) dX11_fits_2 sX11_161 hC_0 rfl rfl rfl (Nat.le_of_ble_eq_true rfl) rfl (Nat.le_of_ble_eq_true rfl) (by decide) ?_
  first | refine z_if_eqB (tgt := 36) hx dX11_fits_5 (by decide) (fun zc5 => ?_) (fun zc5 => ?_) | refine z_if_eqN (tgt := 36) hx dX11_fits_5 (by decide) (by omega) (fun zc5 => ?_) (fun zc5 => ?_) | refine z_if_eq (tgt := 36) hx dX11_fits_5 (by decide) (fun zc5 => ?_) (fun zc5 => ?_)
  · skip
    refine z_ldc hx dX11_fits_36 kX11_78 ?_
    exact z_iret hx hF dX11_fits_38 rfl rfl ⟨_, _, by unfold aFits; first | (rw [zIG_f (fun h => zc5 h.1)]) | (rw [zIG_f (fun h => zc12 h.2.1)]) | (rw [zIG_f (fun h => zc23 h.2.2.1)]) | (rw [zIG_f (fun h => zc33 h.2.2.2)]) | (rw [zIG_t ⟨⟨zj, zhj, rfl⟩, ⟨zr, Nat.zero_le _, zhr, rfl⟩, ⟨zn, zh1, zhn, rfl⟩, ⟨ze, Nat.zero_le _, zhe, rfl⟩⟩, hnr, zIG_f (Nat.ne_of_gt zc54)]) | (rw [zIG_t ⟨⟨zj, zhj, rfl⟩, ⟨zr, Nat.zero_le _, zhr, rfl⟩, ⟨zn, zh1, zhn, rfl⟩, ⟨ze, Nat.zero_le _, zhe, rfl⟩⟩, hnr, zIG_t zc54, hna, hnj, hnn]; unfold zFts; rw [if_pos (by rw [zc67])]) | (rw [zIG_t ⟨⟨zj, zhj, rfl⟩, ⟨zr, Nat.zero_le _, zhr, rfl⟩, ⟨zn, zh1, zhn, rfl⟩, ⟨ze, Nat.zero_le _, zhe, rfl⟩⟩, hnr, zIG_t zc54, hna, hnj, hnn]; unfold zFts; rw [if_neg (nI_ne (by omega) (by omega) (by omega))]) | exact zzz_open, rfl⟩
  · skip
    obtain ⟨zj, zhj, rfl⟩ := zc5
    have hnj : zNat (nI zj) = zj := zNat_nI (by omega)
    refine z_iload_n hx dX11_fits_8 rfl ?_
    refine z_callisP hx [] (qX11_isRow _) dX11_fits_9 sX11_70 rfl rfl rfl (by decide) (by decide) rfl (Nat.le_of_ble_eq_true rfl) (by decide) ?_
    first | refine z_if_eqB (tgt := 36) hx dX11_fits_12 (by decide) (fun zc12 => ?_) (fun zc12 => ?_) | refine z_if_eqN (tgt := 36) hx dX11_fits_12 (by decide) (by omega) (fun zc12 => ?_) (fun zc12 => ?_) | refine z_if_eq (tgt := 36) hx dX11_fits_12 (by decide) (fun zc12 => ?_) (fun zc12 => ?_)
    · skip
      refine z_ldc hx dX11_fits_36 kX11_78 ?_
      exact z_iret hx hF dX11_fits_38 rfl rfl ⟨_, _, by unfold aFits; first | (rw [zIG_f (fun h => zc5 h.1)]) | (rw [zIG_f (fun h => zc12 h.2.1)]) | (rw [zIG_f (fun h => zc23 h.2.2.1)]) | (rw [zIG_f (fun h => zc33 h.2.2.2)]) | (rw [zIG_t ⟨⟨zj, zhj, rfl⟩, ⟨zr, Nat.zero_le _, zhr, rfl⟩, ⟨zn, zh1, zhn, rfl⟩, ⟨ze, Nat.zero_le _, zhe, rfl⟩⟩, hnr, zIG_f (Nat.ne_of_gt zc54)]) | (rw [zIG_t ⟨⟨zj, zhj, rfl⟩, ⟨zr, Nat.zero_le _, zhr, rfl⟩, ⟨zn, zh1, zhn, rfl⟩, ⟨ze, Nat.zero_le _, zhe, rfl⟩⟩, hnr, zIG_t zc54, hna, hnj, hnn]; unfold zFts; rw [if_pos (by rw [zc67])]) | (rw [zIG_t ⟨⟨zj, zhj, rfl⟩, ⟨zr, Nat.zero_le _, zhr, rfl⟩, ⟨zn, zh1, zhn, rfl⟩, ⟨ze, Nat.zero_le _, zhe, rfl⟩⟩, hnr, zIG_t zc54, hna, hnj, hnn]; unfold zFts; rw [if_neg (nI_ne (by omega) (by omega) (by omega))]) | exact zzz_open, rfl⟩
    · skip
      obtain ⟨zr, -, zhr, rfl⟩ := zc12
      have hnr : zNat (nI zr) = zr := zNat_nI (by omega)
      refine z_iload hx dX11_fits_15 rfl ?_
      refine z_iconst (v := nI 1) hx dX11_fits_17 (by decide) ?_
      refine z_bipush (v := nI 16) hx dX11_fits_18 (by decide) ?_
      refine z_callisP hx [] (qX11_isWithinN _ _ _ (by decide)) dX11_fits_20 sX11_74 rfl rfl rfl (by decide) (by decide) rfl (Nat.le_of_ble_eq_true rfl) (by decide) ?_
      first | refine z_if_eqB (tgt := 36) hx dX11_fits_23 (by decide) (fun zc23 => ?_) (fun zc23 => ?_) | refine z_if_eqN (tgt := 36) hx dX11_fits_23 (by decide) (by omega) (fun zc23 => ?_) (fun zc23 => ?_) | refine z_if_eq (tgt := 36) hx dX11_fits_23 (by decide) (fun zc23 => ?_) (fun zc23 => ?_)
      · skip
        refine z_ldc hx dX11_fits_36 kX11_78 ?_
        exact z_iret hx hF dX11_fits_38 rfl rfl ⟨_, _, by unfold aFits; first | (rw [zIG_f (fun h => zc5 h.1)]) | (rw [zIG_f (fun h => zc12 h.2.1)]) | (rw [zIG_f (fun h => zc23 h.2.2.1)]) | (rw [zIG_f (fun h => zc33 h.2.2.2)]) | (rw [zIG_t ⟨⟨zj, zhj, rfl⟩, ⟨zr, Nat.zero_le _, zhr, rfl⟩, ⟨zn, zh1, zhn, rfl⟩, ⟨ze, Nat.zero_le _, zhe, rfl⟩⟩, hnr, zIG_f (Nat.ne_of_gt zc54)]) | (rw [zIG_t ⟨⟨zj, zhj, rfl⟩, ⟨zr, Nat.zero_le _, zhr, rfl⟩, ⟨zn, zh1, zhn, rfl⟩, ⟨ze, Nat.zero_le _, zhe, rfl⟩⟩, hnr, zIG_t zc54, hna, hnj, hnn]; unfold zFts; rw [if_pos (by rw [zc67])]) | (rw [zIG_t ⟨⟨zj, zhj, rfl⟩, ⟨zr, Nat.zero_le _, zhr, rfl⟩, ⟨zn, zh1, zhn, rfl⟩, ⟨ze, Nat.zero_le _, zhe, rfl⟩⟩, hnr, zIG_t zc54, hna, hnj, hnn]; unfold zFts; rw [if_neg (nI_ne (by omega) (by omega) (by omega))]) | exact zzz_open, rfl⟩
      · skip
        obtain ⟨zn, zh1, zhn, rfl⟩ := zc23
        have hnn : zNat (nI zn) = zn := zNat_nI (by omega)
        refine z_iload hx dX11_fits_26 rfl ?_
        refine z_iconst (v := nI 0) hx dX11_fits_28 (by decide) ?_
        refine z_iconst (v := nI 1) hx dX11_fits_29 (by decide) ?_
        refine z_callisP hx [] (qX11_isWithinN _ _ _ (by decide)) dX11_fits_30 sX11_74 rfl rfl rfl (by decide) (by decide) rfl (Nat.le_of_ble_eq_true rfl) (by decide) ?_
        first | refine z_if_neB (tgt := 39) hx dX11_fits_33 (by decide) (fun zc33 => ?_) (fun zc33 => ?_) | refine z_if_neN (tgt := 39) hx dX11_fits_33 (by decide) (by omega) (fun zc33 => ?_) (fun zc33 => ?_) | refine z_if_ne (tgt := 39) hx dX11_fits_33 (by decide) (fun zc33 => ?_) (fun zc33 => ?_)
        · skip
          obtain ⟨ze, -, zhe, rfl⟩ := zc33
          have hfd := zFnd_le (sz zr) i9 (nI zn)
          refine z_aload_n hx dX11_fits_39 rfl ?_
          refine z_get hx dX11_fits_40 fX11_27 hC_0 rfl ?_
          refine z_iload_n hx dX11_fits_43 rfl ?_
          refine z_iload_n hx dX11_fits_44 rfl ?_
          refine z_iload hx dX11_fits_45 rfl ?_
          refine z_callivP hx gSh (qX8_fnd la sz it hs zr (by omega) i9 (nI zn)) dX11_fits_47 sX11_90 rfl rfl sub_Sh rfl rfl (by decide) (by decide) rfl (Nat.le_of_ble_eq_true rfl) (by decide) ?_
          refine z_istore hx dX11_fits_50 (Nat.le_of_ble_eq_true rfl) rfl ?_
          refine z_iload hx dX11_fits_52 rfl ?_
          first | refine z_if_eqB (tgt := 64) hx dX11_fits_54 (by decide) (fun zc54 => ?_) (fun zc54 => ?_) | refine z_if_eqN (tgt := 64) hx dX11_fits_54 (by decide) (by omega) (fun zc54 => ?_) (fun zc54 => ?_) | refine z_if_eq (tgt := 64) hx dX11_fits_54 (by decide) (fun zc54 => ?_) (fun zc54 => ?_)
          · skip
            obtain ⟨zm, hm1, ka, kb, rfl, hb1, hab⟩ := zFnd_0 zc54
            have h40 := hs _ _ hm1
            have hb2 : kb = zn := ((nI_eq (by omega) (by omega)).mp hb1).symm
            have hna : zNat (nI ka) = ka := zNat_nI (by omega)
            refine z_aload_n hx dX11_fits_64 rfl ?_
            refine z_iload hx dX11_fits_65 rfl ?_
            first | refine z_if_neB (tgt := 82) hx dX11_fits_67 (by decide) (fun zc67 => ?_) (fun zc67 => ?_) | refine z_if_neN (tgt := 82) hx dX11_fits_67 (by decide) (by omega) (fun zc67 => ?_) (fun zc67 => ?_) | refine z_if_ne (tgt := 82) hx dX11_fits_67 (by decide) (fun zc67 => ?_) (fun zc67 => ?_)
            · skip
              refine z_aload_n hx dX11_fits_82 rfl ?_
              refine z_iload_n hx dX11_fits_83 rfl ?_
              refine z_iload_n hx dX11_fits_84 rfl ?_
              refine z_iload_n hx dX11_fits_85 rfl ?_
              refine z_iload hx dX11_fits_86 rfl ?_
              refine z_callivG hx (qX11_sortsBy la sz it t i y a (f1, f2) L cr ho P pr po hw hm zj zr ka zn (by omega) (by omega) (by omega) (by omega)) dX11_fits_88 sX11_232 hC_0 rfl rfl rfl (Nat.le_of_ble_eq_true rfl) rfl (Nat.le_of_ble_eq_true rfl) (by decide) (fun r88 u88 l88 q88 => ?_)
              obtain ⟨rfl, p9, rfl⟩ := q88
              refine z_callivF hx (qX11_foundNothing (la, sz, it) t (L, cr, ho) p9 i y a f1 f2 _) dX11_fits_91 sX11_87 hC_0 rfl rfl rfl (Nat.le_of_ble_eq_true rfl) rfl (Nat.le_of_ble_eq_true rfl) (by decide) ?_
              exact z_iret hx hF dX11_fits_94 rfl rfl ⟨_, _, by unfold aFits; first | (rw [zIG_f (fun h => zc5 h.1)]) | (rw [zIG_f (fun h => zc12 h.2.1)]) | (rw [zIG_f (fun h => zc23 h.2.2.1)]) | (rw [zIG_f (fun h => zc33 h.2.2.2)]) | (rw [zIG_t ⟨⟨zj, zhj, rfl⟩, ⟨zr, Nat.zero_le _, zhr, rfl⟩, ⟨zn, zh1, zhn, rfl⟩, ⟨ze, Nat.zero_le _, zhe, rfl⟩⟩, hnr, zIG_f (Nat.ne_of_gt zc54)]) | (rw [zIG_t ⟨⟨zj, zhj, rfl⟩, ⟨zr, Nat.zero_le _, zhr, rfl⟩, ⟨zn, zh1, zhn, rfl⟩, ⟨ze, Nat.zero_le _, zhe, rfl⟩⟩, hnr, zIG_t zc54, hna, hnj, hnn]; unfold zFts; rw [if_pos (by rw [zc67])]) | (rw [zIG_t ⟨⟨zj, zhj, rfl⟩, ⟨zr, Nat.zero_le _, zhr, rfl⟩, ⟨zn, zh1, zhn, rfl⟩, ⟨ze, Nat.zero_le _, zhe, rfl⟩⟩, hnr, zIG_t zc54, hna, hnj, hnn]; unfold zFts; rw [if_neg (nI_ne (by omega) (by omega) (by omega))]) | exact zzz_open, rfl⟩
            · skip
              refine z_aload_n hx dX11_fits_70 rfl ?_
              refine z_iload_n hx dX11_fits_71 rfl ?_
              refine z_iload_n hx dX11_fits_72 rfl ?_
              refine z_iload_n hx dX11_fits_73 rfl ?_
              refine z_iload hx dX11_fits_74 rfl ?_
              refine z_callivG hx (qX11_faithsBy la sz it t i y a (f1, f2) L cr ho P pr po hw hm zj zr ka zn (by omega) (by omega) (by omega) (by omega)) dX11_fits_76 sX11_228 hC_0 rfl rfl rfl (Nat.le_of_ble_eq_true rfl) rfl (Nat.le_of_ble_eq_true rfl) (by decide) (fun r76 u76 l76 q76 => ?_)
              obtain ⟨rfl, p9, rfl⟩ := q76
              refine z_goto (tgt := 91) hx dX11_fits_79 (by decide) ?_
              refine z_callivF hx (qX11_foundNothing (la, sz, it) t (L, cr, ho) p9 i y a f1 f2 _) dX11_fits_91 sX11_87 hC_0 rfl rfl rfl (Nat.le_of_ble_eq_true rfl) rfl (Nat.le_of_ble_eq_true rfl) (by decide) ?_
              exact z_iret hx hF dX11_fits_94 rfl rfl ⟨_, _, by unfold aFits; first | (rw [zIG_f (fun h => zc5 h.1)]) | (rw [zIG_f (fun h => zc12 h.2.1)]) | (rw [zIG_f (fun h => zc23 h.2.2.1)]) | (rw [zIG_f (fun h => zc33 h.2.2.2)]) | (rw [zIG_t ⟨⟨zj, zhj, rfl⟩, ⟨zr, Nat.zero_le _, zhr, rfl⟩, ⟨zn, zh1, zhn, rfl⟩, ⟨ze, Nat.zero_le _, zhe, rfl⟩⟩, hnr, zIG_f (Nat.ne_of_gt zc54)]) | (rw [zIG_t ⟨⟨zj, zhj, rfl⟩, ⟨zr, Nat.zero_le _, zhr, rfl⟩, ⟨zn, zh1, zhn, rfl⟩, ⟨ze, Nat.zero_le _, zhe, rfl⟩⟩, hnr, zIG_t zc54, hna, hnj, hnn]; unfold zFts; rw [if_pos (by rw [zc67])]) | (rw [zIG_t ⟨⟨zj, zhj, rfl⟩, ⟨zr, Nat.zero_le _, zhr, rfl⟩, ⟨zn, zh1, zhn, rfl⟩, ⟨ze, Nat.zero_le _, zhe, rfl⟩⟩, hnr, zIG_t zc54, hna, hnj, hnn]; unfold zFts; rw [if_neg (nI_ne (by omega) (by omega) (by omega))]) | exact zzz_open, rfl⟩
          · skip
            refine z_aload_n hx dX11_fits_57 rfl ?_
            refine z_iload hx dX11_fits_58 rfl ?_
            refine z_callivF hx (qX11_found (la, sz, it) t (L, cr, ho) (P, pr, po) i y a f1 f2 (zFnd (sz zr) i9 (nI zn)) (by omega)) dX11_fits_60 sX11_79 hC_0 rfl rfl rfl (Nat.le_of_ble_eq_true rfl) rfl (Nat.le_of_ble_eq_true rfl) (by decide) ?_
            exact z_iret hx hF dX11_fits_63 rfl rfl ⟨_, _, by unfold aFits; first | (rw [zIG_f (fun h => zc5 h.1)]) | (rw [zIG_f (fun h => zc12 h.2.1)]) | (rw [zIG_f (fun h => zc23 h.2.2.1)]) | (rw [zIG_f (fun h => zc33 h.2.2.2)]) | (rw [zIG_t ⟨⟨zj, zhj, rfl⟩, ⟨zr, Nat.zero_le _, zhr, rfl⟩, ⟨zn, zh1, zhn, rfl⟩, ⟨ze, Nat.zero_le _, zhe, rfl⟩⟩, hnr, zIG_f (Nat.ne_of_gt zc54)]) | (rw [zIG_t ⟨⟨zj, zhj, rfl⟩, ⟨zr, Nat.zero_le _, zhr, rfl⟩, ⟨zn, zh1, zhn, rfl⟩, ⟨ze, Nat.zero_le _, zhe, rfl⟩⟩, hnr, zIG_t zc54, hna, hnj, hnn]; unfold zFts; rw [if_pos (by rw [zc67])]) | (rw [zIG_t ⟨⟨zj, zhj, rfl⟩, ⟨zr, Nat.zero_le _, zhr, rfl⟩, ⟨zn, zh1, zhn, rfl⟩, ⟨ze, Nat.zero_le _, zhe, rfl⟩⟩, hnr, zIG_t zc54, hna, hnj, hnn]; unfold zFts; rw [if_neg (nI_ne (by omega) (by omega) (by omega))]) | exact zzz_open, rfl⟩
        · skip
          refine z_ldc hx dX11_fits_36 kX11_78 ?_
          exact z_iret hx hF dX11_fits_38 rfl rfl ⟨_, _, by unfold aFits; first | (rw [zIG_f (fun h => zc5 h.1)]) | (rw [zIG_f (fun h => zc12 h.2.1)]) | (rw [zIG_f (fun h => zc23 h.2.2.1)]) | (rw [zIG_f (fun h => zc33 h.2.2.2)]) | (rw [zIG_t ⟨⟨zj, zhj, rfl⟩, ⟨zr, Nat.zero_le _, zhr, rfl⟩, ⟨zn, zh1, zhn, rfl⟩, ⟨ze, Nat.zero_le _, zhe, rfl⟩⟩, hnr, zIG_f (Nat.ne_of_gt zc54)]) | (rw [zIG_t ⟨⟨zj, zhj, rfl⟩, ⟨zr, Nat.zero_le _, zhr, rfl⟩, ⟨zn, zh1, zhn, rfl⟩, ⟨ze, Nat.zero_le _, zhe, rfl⟩⟩, hnr, zIG_t zc54, hna, hnj, hnn]; unfold zFts; rw [if_pos (by rw [zc67])]) | (rw [zIG_t ⟨⟨zj, zhj, rfl⟩, ⟨zr, Nat.zero_le _, zhr, rfl⟩, ⟨zn, zh1, zhn, rfl⟩, ⟨ze, Nat.zero_le _, zhe, rfl⟩⟩, hnr, zIG_t zc54, hna, hnj, hnn]; unfold zFts; rw [if_neg (nI_ne (by omega) (by omega) (by omega))]) | exact zzz_open, rfl⟩

set_option maxHeartbeats 4000000 in
set_option maxRecDepth 100000 in
theorem qX11_bounds (la : Nat → Nat) (sz : Nat → Option Nat) (it : Nat → Nat → Int32) (t : zTp) (L : zL) (cr ho : Nat → Nat) (P : zL) (pr po : Nat → Nat) (i : zLk × zLk) (y : zPy) (a : zAs) (f1 f2 : Nat) (hw : zWf L) (hm : lM L ≤ 1000) (hs : zRok sz) (rw i9 n9 : Int32) : zMi mX11_bounds 8 ([.ref 0, .int rw, .int i9, .int n9]) (hC ((la, sz, it), t, (L, cr, ho), (P, pr, po), i, y, a, (f1, f2))) (fun z u => ∃ s9 p9, (z, s9) = aBnds (la, sz, it) L f2 rw i9 n9 ∧ u = hC ((la, sz, it), t, (L, cr, ho), p9, i, y, a, (f1, s9))) := by
  refine zMi.of (by decide) (Nat.le_of_ble_eq_true rfl) (fun x hx hF => ?_)
  obtain ⟨w1, w2, w3, w4, w5⟩ := id hw
  refine z_aload_n hx dX11_bounds_0 rfl ?_
  refine z_callivF hx (qX11_hasLine (la, sz, it) t (P, pr, po) i y a (f1, f2) L cr ho hw) dX11_bounds_1 sX11_143 hC_0 rfl rfl rfl (Nat.le_of_ble_eq_true rfl) rfl (Nat.le_of_ble_eq_true rfl) (by decide) ?_
  first | refine z_if_neB (tgt := 10) hx dX11_bounds_4 (by decide) (fun zc4 => ?_) (fun zc4 => ?_) | refine z_if_neN (tgt := 10) hx dX11_bounds_4 (by decide) (by omega) (fun zc4 => ?_) (fun zc4 => ?_) | refine z_if_ne (tgt := 10) hx dX11_bounds_4 (by decide) (fun zc4 => ?_) (fun zc4 => ?_)
  · skip
    refine z_iload_n hx dX11_bounds_10 rfl ?_
    refine z_callisP hx [] (qX11_isRow _) dX11_bounds_11 sX11_70 rfl rfl rfl (by decide) (by decide) rfl (Nat.le_of_ble_eq_true rfl) (by decide) ?_
    first | refine z_if_eqB (tgt := 27) hx dX11_bounds_14 (by decide) (fun zc14 => ?_) (fun zc14 => ?_) | refine z_if_eqN (tgt := 27) hx dX11_bounds_14 (by decide) (by omega) (fun zc14 => ?_) (fun zc14 => ?_) | refine z_if_eq (tgt := 27) hx dX11_bounds_14 (by decide) (fun zc14 => ?_) (fun zc14 => ?_)
    · skip
      refine z_ldc hx dX11_bounds_27 kX11_78 ?_
      exact z_iret hx hF dX11_bounds_29 rfl rfl ⟨_, _, by unfold aBnds; first | (rw [zIG_f zc4]) | (rw [zIG_t zc4, zIG_f (fun h => zc14 h.1)]) | (rw [zIG_t zc4, zIG_f (fun h => zc24 h.2)]) | (rw [zIG_t zc4, zIG_t ⟨⟨zr, Nat.zero_le _, zhr, rfl⟩, ⟨zn, zh1, zhn, rfl⟩⟩, hnr, zIG_f (Nat.ne_of_gt zc44)]) | (rw [zIG_t zc4, zIG_t ⟨⟨zr, Nat.zero_le _, zhr, rfl⟩, ⟨zn, zh1, zhn, rfl⟩⟩, hnr, zIG_t zc44, hna, hnn]) | exact zzz_open, rfl⟩
    · skip
      obtain ⟨zr, -, zhr, rfl⟩ := zc14
      have hnr : zNat (nI zr) = zr := zNat_nI (by omega)
      refine z_iload_n hx dX11_bounds_17 rfl ?_
      refine z_iconst (v := nI 1) hx dX11_bounds_18 (by decide) ?_
      refine z_bipush (v := nI 16) hx dX11_bounds_19 (by decide) ?_
      refine z_callisP hx [] (qX11_isWithinN _ _ _ (by decide)) dX11_bounds_21 sX11_74 rfl rfl rfl (by decide) (by decide) rfl (Nat.le_of_ble_eq_true rfl) (by decide) ?_
      first | refine z_if_neB (tgt := 30) hx dX11_bounds_24 (by decide) (fun zc24 => ?_) (fun zc24 => ?_) | refine z_if_neN (tgt := 30) hx dX11_bounds_24 (by decide) (by omega) (fun zc24 => ?_) (fun zc24 => ?_) | refine z_if_ne (tgt := 30) hx dX11_bounds_24 (by decide) (fun zc24 => ?_) (fun zc24 => ?_)
      · skip
        obtain ⟨zn, zh1, zhn, rfl⟩ := zc24
        have hnn : zNat (nI zn) = zn := zNat_nI (by omega)
        have hfd := zFnd_le (sz zr) i9 (nI zn)
        refine z_aload_n hx dX11_bounds_30 rfl ?_
        refine z_get hx dX11_bounds_31 fX11_27 hC_0 rfl ?_
        refine z_iload_n hx dX11_bounds_34 rfl ?_
        refine z_iload_n hx dX11_bounds_35 rfl ?_
        refine z_iload_n hx dX11_bounds_36 rfl ?_
        refine z_callivP hx gSh (qX8_fnd la sz it hs zr (by omega) i9 (nI zn)) dX11_bounds_37 sX11_90 rfl rfl sub_Sh rfl rfl (by decide) (by decide) rfl (Nat.le_of_ble_eq_true rfl) (by decide) ?_
        refine z_istore hx dX11_bounds_40 (Nat.le_of_ble_eq_true rfl) rfl ?_
        refine z_iload hx dX11_bounds_42 rfl ?_
        first | refine z_if_eqB (tgt := 54) hx dX11_bounds_44 (by decide) (fun zc44 => ?_) (fun zc44 => ?_) | refine z_if_eqN (tgt := 54) hx dX11_bounds_44 (by decide) (by omega) (fun zc44 => ?_) (fun zc44 => ?_) | refine z_if_eq (tgt := 54) hx dX11_bounds_44 (by decide) (fun zc44 => ?_) (fun zc44 => ?_)
        · skip
          obtain ⟨zm, hm1, ka, kb, rfl, hb1, hab⟩ := zFnd_0 zc44
          have h40 := hs _ _ hm1
          have hb2 : kb = zn := ((nI_eq (by omega) (by omega)).mp hb1).symm
          have hna : zNat (nI ka) = ka := zNat_nI (by omega)
          refine z_aload_n hx dX11_bounds_54 rfl ?_
          refine z_aload_n hx dX11_bounds_55 rfl ?_
          refine z_iload_n hx dX11_bounds_56 rfl ?_
          refine z_iload_n hx dX11_bounds_57 rfl ?_
          refine z_iload_n hx dX11_bounds_58 rfl ?_
          refine z_callivG hx (qX11_boundsBy la sz it t i y a (f1, f2) L cr ho P pr po hw hm zr ka zn (by omega) (by omega) (by omega)) dX11_bounds_59 sX11_235 hC_0 rfl rfl rfl (Nat.le_of_ble_eq_true rfl) rfl (Nat.le_of_ble_eq_true rfl) (by decide) (fun r59 u59 l59 q59 => ?_)
          obtain ⟨rfl, p9, rfl⟩ := q59
          refine z_callivF hx (qX11_foundNothing (la, sz, it) t (L, cr, ho) p9 i y a f1 f2 _) dX11_bounds_62 sX11_87 hC_0 rfl rfl rfl (Nat.le_of_ble_eq_true rfl) rfl (Nat.le_of_ble_eq_true rfl) (by decide) ?_
          exact z_iret hx hF dX11_bounds_65 rfl rfl ⟨_, _, by unfold aBnds; first | (rw [zIG_f zc4]) | (rw [zIG_t zc4, zIG_f (fun h => zc14 h.1)]) | (rw [zIG_t zc4, zIG_f (fun h => zc24 h.2)]) | (rw [zIG_t zc4, zIG_t ⟨⟨zr, Nat.zero_le _, zhr, rfl⟩, ⟨zn, zh1, zhn, rfl⟩⟩, hnr, zIG_f (Nat.ne_of_gt zc44)]) | (rw [zIG_t zc4, zIG_t ⟨⟨zr, Nat.zero_le _, zhr, rfl⟩, ⟨zn, zh1, zhn, rfl⟩⟩, hnr, zIG_t zc44, hna, hnn]) | exact zzz_open, rfl⟩
        · skip
          refine z_aload_n hx dX11_bounds_47 rfl ?_
          refine z_iload hx dX11_bounds_48 rfl ?_
          refine z_callivF hx (qX11_found (la, sz, it) t (L, cr, ho) (P, pr, po) i y a f1 f2 (zFnd (sz zr) i9 (nI zn)) (by omega)) dX11_bounds_50 sX11_79 hC_0 rfl rfl rfl (Nat.le_of_ble_eq_true rfl) rfl (Nat.le_of_ble_eq_true rfl) (by decide) ?_
          exact z_iret hx hF dX11_bounds_53 rfl rfl ⟨_, _, by unfold aBnds; first | (rw [zIG_f zc4]) | (rw [zIG_t zc4, zIG_f (fun h => zc14 h.1)]) | (rw [zIG_t zc4, zIG_f (fun h => zc24 h.2)]) | (rw [zIG_t zc4, zIG_t ⟨⟨zr, Nat.zero_le _, zhr, rfl⟩, ⟨zn, zh1, zhn, rfl⟩⟩, hnr, zIG_f (Nat.ne_of_gt zc44)]) | (rw [zIG_t zc4, zIG_t ⟨⟨zr, Nat.zero_le _, zhr, rfl⟩, ⟨zn, zh1, zhn, rfl⟩⟩, hnr, zIG_t zc44, hna, hnn]) | exact zzz_open, rfl⟩
      · skip
        refine z_ldc hx dX11_bounds_27 kX11_78 ?_
        exact z_iret hx hF dX11_bounds_29 rfl rfl ⟨_, _, by unfold aBnds; first | (rw [zIG_f zc4]) | (rw [zIG_t zc4, zIG_f (fun h => zc14 h.1)]) | (rw [zIG_t zc4, zIG_f (fun h => zc24 h.2)]) | (rw [zIG_t zc4, zIG_t ⟨⟨zr, Nat.zero_le _, zhr, rfl⟩, ⟨zn, zh1, zhn, rfl⟩⟩, hnr, zIG_f (Nat.ne_of_gt zc44)]) | (rw [zIG_t zc4, zIG_t ⟨⟨zr, Nat.zero_le _, zhr, rfl⟩, ⟨zn, zh1, zhn, rfl⟩⟩, hnr, zIG_t zc44, hna, hnn]) | exact zzz_open, rfl⟩
  · skip
    refine z_ldc hx dX11_bounds_7 kX11_147 ?_
    exact z_iret hx hF dX11_bounds_9 rfl rfl ⟨_, _, by unfold aBnds; first | (rw [zIG_f zc4]) | (rw [zIG_t zc4, zIG_f (fun h => zc14 h.1)]) | (rw [zIG_t zc4, zIG_f (fun h => zc24 h.2)]) | (rw [zIG_t zc4, zIG_t ⟨⟨zr, Nat.zero_le _, zhr, rfl⟩, ⟨zn, zh1, zhn, rfl⟩⟩, hnr, zIG_f (Nat.ne_of_gt zc44)]) | (rw [zIG_t zc4, zIG_t ⟨⟨zr, Nat.zero_le _, zhr, rfl⟩, ⟨zn, zh1, zhn, rfl⟩⟩, hnr, zIG_t zc44, hna, hnn]) | exact zzz_open, rfl⟩

/-- rain: of the first silent sets the ways, and those with the tram at the stop -/
def zRb (c p : Nat) : Nat → Nat
  | 0 => 0
  | s + 1 => zRb c p s + zWy s c p
noncomputable def zRa (L : zL) (k c : Nat) : Nat → Nat
  | 0 => 0
  | s + 1 => zRa L k c s + zIf (zTr L s = some k) (zWy s c (lP L)) 0
theorem zRb_all : ∀ c, c < 11 → ∀ p, p < 7 → zRb c p (2 ^ p) = 10 ^ p := by decide +kernel
theorem zRb_le : ∀ c, c < 11 → ∀ p, p < 7 → ∀ s, s < 65 → s ≤ 2 ^ p → zRb c p s ≤ 1000000 := by decide +kernel
theorem zWy_le : ∀ c, c < 11 → ∀ p, p < 7 → ∀ s, s < 64 → zWy s c p ≤ 1000000 := by decide +kernel
theorem zRa_le (L : zL) (k c : Nat) : ∀ s, zRa L k c s ≤ zRb c (lP L) s
  | 0 => Nat.le_refl _
  | s + 1 => by
    have := zRa_le L k c s
    show zRa L k c s + zIf _ _ 0 ≤ zRb c (lP L) s + zWy s c (lP L)
    by_cases h : zTr L s = some k
    · rw [zIf_t h]; omega
    · rw [zIf_f h]; omega
theorem zRa_t {L : zL} {k c s : Nat} (h : zTr L s = some k) : zRa L k c (s + 1) = zRa L k c s + zWy s c (lP L) := by rw [zRa, zIf_t h]
theorem zRa_f {L : zL} {k c s : Nat} (h : ¬ zTr L s = some k) : zRa L k c (s + 1) = zRa L k c s := by rw [zRa, zIf_f h]; rfl
noncomputable def aRain (L : zL) (v c w : Int32) : Int32 := zII (inP (lS L) v ∧ inR 0 10 c ∧ inR 0 1 w) (nI ((if w = nI 0 then zRa L (zNat v) (zNat c) (2 ^ lP L) else 10 ^ lP L) / Nat.gcd (10 ^ lP L) (zRa L (zNat v) (zNat c) (2 ^ lP L)))) (-1000001)
set_option maxHeartbeats 4000000 in
set_option maxRecDepth 100000 in
theorem qX11_rain (la : Nat → Nat) (sz : Nat → Option Nat) (it : Nat → Nat → Int32) (t : zTp) (L : zL) (cr ho : Nat → Nat) (P : zL) (pr po : Nat → Nat) (i : zLk × zLk) (y : zPy) (a : zAs) (f1 f2 : Nat) (hw : zWf L) (hm : lM L ≤ 1000) (hs : zRok sz) (v c w : Int32) : zMi mX11_rain 5 ([.ref 0, .int v, .int c, .int w]) (hC ((la, sz, it), t, (L, cr, ho), (P, pr, po), i, y, a, (f1, f2))) (fun z u => z = aRain L v c w ∧ ∃ cr ho, u = hC ((la, sz, it), t, (L, cr, ho), (P, pr, po), i, y, a, (f1, f2))) := by
  refine zMi.of (by decide) (Nat.le_of_ble_eq_true rfl) (fun x hx hF => ?_)
  obtain ⟨w1, w2, w3, w4, w5⟩ := id hw
  have h64 : 2 ^ lP L ≤ 2 ^ 6 := Nat.pow_le_pow_right (by decide) w3
  have h0p : 0 < 2 ^ lP L := Nat.pow_pos (by decide)
  have hloop : ∀ (zj : Nat) (zhj : zj < lS L) (zq : Nat) (zhq : zq ≤ 10) (ze : Nat) (zhe : ze ≤ 1) (hF : zFi x (hC ((la, sz, it), t, (L, cr, ho), (P, pr, po), i, y, a, (f1, f2))).length (fun z u => z = aRain L (nI zj) (nI zq) (nI ze) ∧ ∃ cr ho, u = hC ((la, sz, it), t, (L, cr, ho), (P, pr, po), i, y, a, (f1, f2)))) (n39 s : Nat) (cr ho : Nat → Nat), 2 ^ lP L - s = n39 → s ≤ 2 ^ lP L → zV x 39 [some (.ref 0), some (.int (nI zj)), some (.int (nI zq)), some (.int (nI ze)), some (.int (nI (zRa L zj zq s))), some (.int (nI (zRb zq (lP L) s))), some (.int (nI s)), none] [] (hC ((la, sz, it), t, (L, cr, ho), (P, pr, po), i, y, a, (f1, f2))) := by
    intro zj zhj zq zhq ze zhe hF n39
    have hnj : zNat (nI zj) = zj := zNat_nI (by omega)
    have hnq : zNat (nI zq) = zq := zNat_nI (by omega)
    induction n39 using Nat.strongRecOn with
    | ind n39 ih =>
      intro s cr ho hn hs9
      have hra := zRa_le L zj zq s
      have hrb := zRb_le zq (by omega) (lP L) (by omega) s (by omega) hs9
      refine z_iload hx dX11_rain_39 rfl ?_
      refine z_aload_n hx dX11_rain_41 rfl ?_
      refine z_get hx dX11_rain_42 fX11_45 hC_0 rfl ?_
      refine z_callivP hx gLn (qX4_everybody L cr ho hw) dX11_rain_45 sX11_209 rfl rfl (sub_Ln _ _ _ _ _ _ _ _ _ _) rfl rfl (by decide) (by decide) rfl (Nat.le_of_ble_eq_true rfl) (by decide) ?_
      first | refine z_icmp_gtN (tgt := 93) hx dX11_rain_48 (by decide) (by omega) (by omega) (fun zc48 => ?_) (fun zc48 => ?_) | refine z_icmp_gt (tgt := 93) hx dX11_rain_48 (by decide) (fun zc48 => ?_) (fun zc48 => ?_)
      · skip
        have hs2 : s = 2 ^ lP L := by omega
        have hb2 : zRb zq (lP L) s = 10 ^ lP L := by rw [hs2, zRb_all zq (by omega) (lP L) (by omega)]
        have hg0 : 0 < Nat.gcd (zRb zq (lP L) s) (zRa L zj zq s) := Nat.gcd_pos_of_pos_left _ (by rw [hb2]; exact Nat.pow_pos (by decide))
        have hg1 : Nat.gcd (zRb zq (lP L) s) (zRa L zj zq s) ≤ zRb zq (lP L) s := Nat.gcd_le_left _ (by rw [hb2]; exact Nat.pow_pos (by decide))
        refine z_iload_n hx dX11_rain_93 rfl ?_
        first | refine z_if_neB (tgt := 102) hx dX11_rain_94 (by decide) (fun zc94 => ?_) (fun zc94 => ?_) | refine z_if_neN (tgt := 102) hx dX11_rain_94 (by decide) (by omega) (fun zc94 => ?_) (fun zc94 => ?_) | refine z_if_ne (tgt := 102) hx dX11_rain_94 (by decide) (fun zc94 => ?_) (fun zc94 => ?_)
        · skip
          refine z_iload hx dX11_rain_102 rfl ?_
          refine z_iload hx dX11_rain_104 rfl ?_
          refine z_iload hx dX11_rain_106 rfl ?_
          refine z_callisP hx [] (qX11_sharedBy (zRa L zj zq s) (zRb zq (lP L) s) hra (by rw [show s = 2 ^ lP L by omega, zRb_all zq (by omega) (lP L) (by omega)]; exact Nat.pow_pos (by decide)) hrb) dX11_rain_108 sX11_241 rfl rfl rfl (by decide) (by decide) rfl (Nat.le_of_ble_eq_true rfl) (by decide) ?_
          refine z_idivN hx dX11_rain_111 (by omega) (by omega) (by omega) ?_
          exact z_iret hx hF dX11_rain_112 rfl rfl ⟨by unfold aRain; first | rw [zII_t ⟨⟨zj, zhj, rfl⟩, ⟨zq, Nat.zero_le _, zhq, rfl⟩, ⟨ze, Nat.zero_le _, zhe, rfl⟩⟩, hnj, hnq, if_pos (by rw [show ze = 0 by omega]), hb2, hs2] | rw [zII_t ⟨⟨zj, zhj, rfl⟩, ⟨zq, Nat.zero_le _, zhq, rfl⟩, ⟨ze, Nat.zero_le _, zhe, rfl⟩⟩, hnj, hnq, if_neg (nI_ne (by omega) (by omega) (by omega)), hb2, hs2] | exact zzz_open, _, _, rfl⟩
        · skip
          refine z_iload hx dX11_rain_97 rfl ?_
          refine z_goto (tgt := 104) hx dX11_rain_99 (by decide) ?_
          refine z_iload hx dX11_rain_104 rfl ?_
          refine z_iload hx dX11_rain_106 rfl ?_
          refine z_callisP hx [] (qX11_sharedBy (zRa L zj zq s) (zRb zq (lP L) s) hra (by rw [show s = 2 ^ lP L by omega, zRb_all zq (by omega) (lP L) (by omega)]; exact Nat.pow_pos (by decide)) hrb) dX11_rain_108 sX11_241 rfl rfl rfl (by decide) (by decide) rfl (Nat.le_of_ble_eq_true rfl) (by decide) ?_
          refine z_idivN hx dX11_rain_111 (by omega) (by omega) (by omega) ?_
          exact z_iret hx hF dX11_rain_112 rfl rfl ⟨by unfold aRain; first | rw [zII_t ⟨⟨zj, zhj, rfl⟩, ⟨zq, Nat.zero_le _, zhq, rfl⟩, ⟨ze, Nat.zero_le _, zhe, rfl⟩⟩, hnj, hnq, if_pos (by rw [show ze = 0 by omega]), hb2, hs2] | rw [zII_t ⟨⟨zj, zhj, rfl⟩, ⟨zq, Nat.zero_le _, zhq, rfl⟩, ⟨ze, Nat.zero_le _, zhe, rfl⟩⟩, hnj, hnq, if_neg (nI_ne (by omega) (by omega) (by omega)), hb2, hs2] | exact zzz_open, _, _, rfl⟩
      · skip
        have hwy := zWy_le zq (by omega) (lP L) (by omega) s (by omega)
        refine z_aload_n hx dX11_rain_51 rfl ?_
        refine z_iload hx dX11_rain_52 rfl ?_
        refine z_iload_n hx dX11_rain_54 rfl ?_
        refine z_callivF hx (qX11_waysOf (la, sz, it) t (P, pr, po) i y a (f1, f2) L cr ho hw s zq (by omega) (by omega)) dX11_rain_55 sX11_238 hC_0 rfl rfl rfl (Nat.le_of_ble_eq_true rfl) rfl (Nat.le_of_ble_eq_true rfl) (by decide) ?_
        refine z_istore hx dX11_rain_58 (Nat.le_of_ble_eq_true rfl) rfl ?_
        refine z_iload hx dX11_rain_60 rfl ?_
        refine z_iload hx dX11_rain_62 rfl ?_
        first | refine z_iaddN hx dX11_rain_64 ?_ | refine z_iadd hx dX11_rain_64 ?_
        refine z_istore hx dX11_rain_65 (Nat.le_of_ble_eq_true rfl) rfl ?_
        refine z_aload_n hx dX11_rain_67 rfl ?_
        refine z_get hx dX11_rain_68 fX11_45 hC_0 rfl ?_
        refine z_iload hx dX11_rain_71 rfl ?_
        refine z_callivE hx gLn (qX4_tramWithout L cr ho hw s (by omega)) dX11_rain_73 sX11_202 rfl rfl (sub_Ln _ _ _ _ _ _ _ _ _ _) rfl rfl (by decide) (by decide) rfl (Nat.le_of_ble_eq_true rfl) (by decide) ?_
        refine z_heap (pt_Ln _ _ _ _ _ _ _ _ _ _ _) ?_
        have hte := tI_eq (a := zj) (x := zTr L s) (by omega) (fun j9 h9 => by have := zTr_lt h9; omega)
        refine z_iload_n hx dX11_rain_76 rfl ?_
        refine z_icmp_ne (tgt := 87) hx dX11_rain_77 (by decide) (fun zc77 => ?_) (fun zc77 => ?_)
        · skip
          first | refine z_iincN (z := 1) hx dX11_rain_87 rfl rfl ?_ | refine z_iinc hx dX11_rain_87 rfl rfl rfl ?_
          refine z_goto (tgt := 39) hx dX11_rain_90 (by decide) ?_
          first | exact z_kill 7 (z_eq (by rw [zRa_t (hte.mp zc77.symm)]; rfl) rfl rfl (ih _ (by omega) (s + 1) _ _ rfl (by omega))) | exact z_kill 7 (z_eq (by rw [zRa_f (fun e => zc77 (hte.mpr e).symm)]; rfl) rfl rfl (ih _ (by omega) (s + 1) _ _ rfl (by omega)))
        · skip
          refine z_iload hx dX11_rain_80 rfl ?_
          refine z_iload hx dX11_rain_82 rfl ?_
          first | refine z_iaddN hx dX11_rain_84 ?_ | refine z_iadd hx dX11_rain_84 ?_
          refine z_istore hx dX11_rain_85 (Nat.le_of_ble_eq_true rfl) rfl ?_
          first | refine z_iincN (z := 1) hx dX11_rain_87 rfl rfl ?_ | refine z_iinc hx dX11_rain_87 rfl rfl rfl ?_
          refine z_goto (tgt := 39) hx dX11_rain_90 (by decide) ?_
          first | exact z_kill 7 (z_eq (by rw [zRa_t (hte.mp zc77.symm)]; rfl) rfl rfl (ih _ (by omega) (s + 1) _ _ rfl (by omega))) | exact z_kill 7 (z_eq (by rw [zRa_f (fun e => zc77 (hte.mpr e).symm)]; rfl) rfl rfl (ih _ (by omega) (s + 1) _ _ rfl (by omega)))
  refine z_aload_n hx dX11_rain_0 rfl ?_
  refine z_iload_n hx dX11_rain_1 rfl ?_
  refine z_callivF hx (qX11_isStop (la, sz, it) t (P, pr, po) i y a (f1, f2) L cr ho hw _) dX11_rain_2 sX11_168 hC_0 rfl rfl rfl (Nat.le_of_ble_eq_true rfl) rfl (Nat.le_of_ble_eq_true rfl) (by decide) ?_
  first | refine z_if_eqB (tgt := 27) hx dX11_rain_5 (by decide) (fun zc5 => ?_) (fun zc5 => ?_) | refine z_if_eqN (tgt := 27) hx dX11_rain_5 (by decide) (by omega) (fun zc5 => ?_) (fun zc5 => ?_) | refine z_if_eq (tgt := 27) hx dX11_rain_5 (by decide) (fun zc5 => ?_) (fun zc5 => ?_)
  · skip
    refine z_ldc hx dX11_rain_27 kX11_78 ?_
    exact z_iret hx hF dX11_rain_29 rfl rfl ⟨by unfold aRain; first | rw [zII_f (fun h => zc5 h.1)] | rw [zII_f (fun h => zc15 h.2.1)] | rw [zII_f (fun h => zc24 h.2.2)] | exact zzz_open, _, _, rfl⟩
  · skip
    obtain ⟨zj, zhj, rfl⟩ := zc5
    have hnj : zNat (nI zj) = zj := zNat_nI (by omega)
    refine z_iload_n hx dX11_rain_8 rfl ?_
    refine z_iconst (v := nI 0) hx dX11_rain_9 (by decide) ?_
    refine z_bipush (v := nI 10) hx dX11_rain_10 (by decide) ?_
    refine z_callisP hx [] (qX11_isWithinN _ _ _ (by decide)) dX11_rain_12 sX11_74 rfl rfl rfl (by decide) (by decide) rfl (Nat.le_of_ble_eq_true rfl) (by decide) ?_
    first | refine z_if_eqB (tgt := 27) hx dX11_rain_15 (by decide) (fun zc15 => ?_) (fun zc15 => ?_) | refine z_if_eqN (tgt := 27) hx dX11_rain_15 (by decide) (by omega) (fun zc15 => ?_) (fun zc15 => ?_) | refine z_if_eq (tgt := 27) hx dX11_rain_15 (by decide) (fun zc15 => ?_) (fun zc15 => ?_)
    · skip
      refine z_ldc hx dX11_rain_27 kX11_78 ?_
      exact z_iret hx hF dX11_rain_29 rfl rfl ⟨by unfold aRain; first | rw [zII_f (fun h => zc5 h.1)] | rw [zII_f (fun h => zc15 h.2.1)] | rw [zII_f (fun h => zc24 h.2.2)] | exact zzz_open, _, _, rfl⟩
    · skip
      obtain ⟨zq, -, zhq, rfl⟩ := zc15
      have hnq : zNat (nI zq) = zq := zNat_nI (by omega)
      refine z_iload_n hx dX11_rain_18 rfl ?_
      refine z_iconst (v := nI 0) hx dX11_rain_19 (by decide) ?_
      refine z_iconst (v := nI 1) hx dX11_rain_20 (by decide) ?_
      refine z_callisP hx [] (qX11_isWithinN _ _ _ (by decide)) dX11_rain_21 sX11_74 rfl rfl rfl (by decide) (by decide) rfl (Nat.le_of_ble_eq_true rfl) (by decide) ?_
      first | refine z_if_neB (tgt := 30) hx dX11_rain_24 (by decide) (fun zc24 => ?_) (fun zc24 => ?_) | refine z_if_neN (tgt := 30) hx dX11_rain_24 (by decide) (by omega) (fun zc24 => ?_) (fun zc24 => ?_) | refine z_if_ne (tgt := 30) hx dX11_rain_24 (by decide) (fun zc24 => ?_) (fun zc24 => ?_)
      · skip
        obtain ⟨ze, -, zhe, rfl⟩ := zc24
        refine z_iconst (v := nI 0) hx dX11_rain_30 (by decide) ?_
        refine z_istore hx dX11_rain_31 (Nat.le_of_ble_eq_true rfl) rfl ?_
        refine z_iconst (v := nI 0) hx dX11_rain_33 (by decide) ?_
        refine z_istore hx dX11_rain_34 (Nat.le_of_ble_eq_true rfl) rfl ?_
        refine z_iconst (v := nI 0) hx dX11_rain_36 (by decide) ?_
        refine z_istore hx dX11_rain_37 (Nat.le_of_ble_eq_true rfl) rfl ?_
        exact hloop zj zhj zq zhq ze zhe hF _ 0 cr ho rfl (Nat.zero_le _)
      · skip
        refine z_ldc hx dX11_rain_27 kX11_78 ?_
        exact z_iret hx hF dX11_rain_29 rfl rfl ⟨by unfold aRain; first | rw [zII_f (fun h => zc5 h.1)] | rw [zII_f (fun h => zc15 h.2.1)] | rw [zII_f (fun h => zc24 h.2.2)] | exact zzz_open, _, _, rfl⟩

/-- days by draws: the number drawn, the line, how often the tram was anywhere -/
def zXn (s : Nat) : Nat → Nat
  | 0 => s
  | k + 1 => zXn s k * 16807 % 2147483647
theorem zXn_le {s : Nat} (h : s < 2147483647) : ∀ k, zXn s k < 2147483647
  | 0 => h
  | k + 1 => Nat.mod_lt _ (by decide)
def zPd (L : zL) (X : Nat) : zL := if 0 < lP L then lsF L (X % lP L) (X % 21) else L
noncomputable def zDl (L : zL) (s : Nat) : Nat → zL
  | 0 => L
  | k + 1 => zPs (zPd (zDl L s k) (zXn s (k + 1))) 0
noncomputable def zDc (L : zL) (s : Nat) : Nat → Nat
  | 0 => 0
  | k + 1 => zDc L s k + zIf (zTr (zPd (zDl L s k) (zXn s (k + 1))) 0 = none) 0 1
theorem zPd_P (L : zL) (X : Nat) : lP (zPd L X) = lP L ∧ lS (zPd L X) = lS L ∧ lM (zPd L X) = lM L := by unfold zPd; split <;> exact ⟨rfl, rfl, rfl⟩
theorem zWf_Pd {L : zL} (hw : zWf L) (X : Nat) : zWf (zPd L X) := by
  unfold zPd
  split
  · exact zWf_F hw (by have := Nat.mod_lt X (show 0 < 21 by decide); omega)
  · exact hw
theorem zDl_P (L : zL) (s : Nat) : ∀ k, lP (zDl L s k) = lP L ∧ lS (zDl L s k) = lS L ∧ lM (zDl L s k) = lM L + k
  | 0 => ⟨rfl, rfl, rfl⟩
  | k + 1 => by
    have h1 := zPd_P (zDl L s k) (zXn s (k + 1))
    have h2 := zDl_P L s k
    exact ⟨h1.1.trans h2.1, h1.2.1.trans h2.2.1, by show lM (zPd (zDl L s k) (zXn s (k + 1))) + 1 = _; rw [h1.2.2, h2.2.2]; rfl⟩
theorem zWf_Dl {L : zL} (hw : zWf L) (s : Nat) : ∀ k, lM L + k ≤ 2000 → zWf (zDl L s k)
  | 0, _ => hw
  | k + 1, h => zWf_ps (zWf_Pd (zWf_Dl hw s k (by omega)) _) (by rw [(zPd_P _ _).2.2, (zDl_P L s k).2.2]; omega) 0
theorem zDc_le (L : zL) (s : Nat) : ∀ k, zDc L s k ≤ k
  | 0 => Nat.le_refl _
  | k + 1 => by
    have := zDc_le L s k
    show zDc L s k + zIf _ 0 1 ≤ k + 1
    by_cases h : zTr (zPd (zDl L s k) (zXn s (k + 1))) 0 = none
    · rw [zIf_t h]; omega
    · rw [zIf_f h]; omega
noncomputable def aDrwn (L : zL) (v s w : Int32) : Int32 := zII (0 < lS L) (zII (inR 0 60 v ∧ inR 1 999999 s ∧ inR 0 1 w) (if w = nI 0 then nI (zTh (zDl L (zNat s) (zNat v)) (lP L)) else nI (zDc L (zNat s) (zNat v))) (-1000001)) (-1000002)
