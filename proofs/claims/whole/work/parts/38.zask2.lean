set_option maxHeartbeats 4000000 in
set_option maxRecDepth 100000 in
theorem qX11_ask_bad (r : zRw) (t : zTp) (L : zL) (cr ho : Nat → Nat) (p : zLk) (i : zLk × zLk) (y : zPy) (a : zAs) (f : Nat × Nat) (hw : zWf L) (v w : Int32) (hv : ¬ inP (lP L) v) : zMi mX11_ask 2 ([.ref 0, .int v, .int w]) (hC (r, t, (L, cr, ho), p, i, y, a, f)) (fun z u => z = aAsk L v w ∧ u = hC (r, t, (L, cr, ho), p, i, y, zOa (aBod L v w) L v a, f)) := by
  refine zMi.of (by decide) (Nat.le_of_ble_eq_true rfl) (fun x hx hF => ?_)
  obtain ⟨w1, w2, w3, w4, w5⟩ := id hw
  refine z_aload_n hx dX11_ask_0 rfl ?_
  refine z_iload_n hx dX11_ask_1 rfl ?_
  refine z_callivF hx (qX11_isPerson r t p i y a f L cr ho hw _) dX11_ask_2 sX11_161 hC_0 rfl rfl rfl (Nat.le_of_ble_eq_true rfl) rfl (Nat.le_of_ble_eq_true rfl) (by decide) ?_
  first | refine z_if_eqB (tgt := 17) hx dX11_ask_5 (by decide) (fun zc5 => ?_) (fun zc5 => ?_) | refine z_if_eqN (tgt := 17) hx dX11_ask_5 (by decide) (by omega) (fun zc5 => ?_) (fun zc5 => ?_) | refine z_if_eq (tgt := 17) hx dX11_ask_5 (by decide) (fun zc5 => ?_) (fun zc5 => ?_)
  · skip
    refine z_ldc hx dX11_ask_17 kX11_78 ?_
    exact z_iret hx hF dX11_ask_19 rfl rfl ⟨by unfold aAsk; first | rw [zII_f (fun h => hv h.1)] | rw [zII_f (fun h => zc14 h.2)], by unfold aBod; first | (rw [zIG_f (fun h => hv h.1)]; rfl) | (rw [zIG_f (fun h => zc14 h.2)]; rfl)⟩
  · skip
    exact absurd zc5 hv

set_option maxHeartbeats 4000000 in
set_option maxRecDepth 100000 in
theorem qX11_ask_1 (r : zRw) (t : zTp) (L : zL) (cr ho : Nat → Nat) (p : zLk) (i : zLk × zLk) (y : zPy) (a : zAs) (f : Nat × Nat) (hw : zWf L) (w : Int32) (zj : Nat) (zhj : zj < lP L) (e9 : lK L zj = 1) : zMi mX11_ask 7 ([.ref 0, .int (nI zj), .int w]) (hC (r, t, (L, cr, ho), p, i, y, a, f)) (fun z u => z = aAsk L (nI zj) w ∧ u = hC (r, t, (L, cr, ho), p, i, y, zOa (aBod L (nI zj) w) L (nI zj) a, f)) := by
  refine zMi.of (by decide) (Nat.le_of_ble_eq_true rfl) (fun x hx hF => ?_)
  obtain ⟨w1, w2, w3, w4, w5⟩ := id hw
  refine z_aload_n hx dX11_ask_0 rfl ?_
  refine z_iload_n hx dX11_ask_1 rfl ?_
  refine z_callivF hx (qX11_isPerson r t p i y a f L cr ho hw _) dX11_ask_2 sX11_161 hC_0 rfl rfl rfl (Nat.le_of_ble_eq_true rfl) rfl (Nat.le_of_ble_eq_true rfl) (by decide) ?_
  first | refine z_if_eqB (tgt := 17) hx dX11_ask_5 (by decide) (fun zc5 => ?_) (fun zc5 => ?_) | refine z_if_eqN (tgt := 17) hx dX11_ask_5 (by decide) (by omega) (fun zc5 => ?_) (fun zc5 => ?_) | refine z_if_eq (tgt := 17) hx dX11_ask_5 (by decide) (fun zc5 => ?_) (fun zc5 => ?_)
  · skip
    exact absurd ⟨zj, zhj, rfl⟩ zc5
  · skip
    have hnj : zNat (nI zj) = zj := zNat_nI (by omega)
    refine z_iload_n hx dX11_ask_8 rfl ?_
    refine z_iconst (v := nI 0) hx dX11_ask_9 (by decide) ?_
    refine z_iconst (v := nI 1) hx dX11_ask_10 (by decide) ?_
    refine z_callisP hx [] (qX11_isWithinN _ _ _ (by decide)) dX11_ask_11 sX11_74 rfl rfl rfl (by decide) (by decide) rfl (Nat.le_of_ble_eq_true rfl) (by decide) ?_
    first | refine z_if_neB (tgt := 20) hx dX11_ask_14 (by decide) (fun zc14 => ?_) (fun zc14 => ?_) | refine z_if_neN (tgt := 20) hx dX11_ask_14 (by decide) (by omega) (fun zc14 => ?_) (fun zc14 => ?_) | refine z_if_ne (tgt := 20) hx dX11_ask_14 (by decide) (fun zc14 => ?_) (fun zc14 => ?_)
    · skip
      obtain ⟨ze, -, zhe, rfl⟩ := zc14
      refine z_aload_n hx dX11_ask_20 rfl ?_
      refine z_get hx dX11_ask_21 fX11_66 hC_0 rfl ?_
      refine z_iload_n hx dX11_ask_24 rfl ?_
      refine z_aload_n hx dX11_ask_25 rfl ?_
      refine z_get hx dX11_ask_26 fX11_45 hC_0 rfl ?_
      refine z_get hx dX11_ask_29 fX11_175 hC_15 rfl ?_
      refine z_iload_n hx dX11_ask_32 rfl ?_
      refine z_ialdJ hx dX11_ask_33 hC_18 (by decide) (by omega) ?_
      refine z_aload_n hx dX11_ask_34 rfl ?_
      refine z_get hx dX11_ask_35 fX11_45 hC_0 rfl ?_
      refine z_get hx dX11_ask_38 fX11_187 hC_15 rfl ?_
      refine z_iload_n hx dX11_ask_41 rfl ?_
      refine z_ialdJ hx dX11_ask_42 hC_20 (by decide) (by omega) ?_
      refine z_callvvE hx [50, 51] (qX0_beginAbout a.1 a.2.1 a.2.2.1 a.2.2.2.1 a.2.2.2.2 zj (lF L zj) (lT L zj)) dX11_ask_43 sX11_264 rfl rfl rfl rfl rfl (by decide) (by decide) rfl (Nat.le_of_ble_eq_true rfl) (by decide) ?_
      refine z_heap (show _ = hC (r, t, (L, cr, ho), p, i, y, (zj, lF L zj, lT L zj, 0, a.2.2.2.2), f) from rfl) ?_
      refine z_aload_n hx dX11_ask_46 rfl ?_
      refine z_get hx dX11_ask_47 fX11_45 hC_0 rfl ?_
      refine z_iload_n hx dX11_ask_50 rfl ?_
      refine z_callrvP hx gLn (qX4_waiter L cr ho hw zj zhj) dX11_ask_51 sX11_256 rfl rfl (sub_Ln _ _ _ _ _ _ _ _ _ _) rfl rfl (by decide) (by decide) rfl (Nat.le_of_ble_eq_true rfl) (by decide) ?_
      refine z_topR 53 (by rw [e9]; rfl) ?_
      refine z_astore_n hx dX11_ask_54 (Nat.le_of_ble_eq_true rfl) rfl ?_
      refine z_iload_n hx dX11_ask_55 rfl ?_
      first | refine z_if_neB (tgt := 70) hx dX11_ask_56 (by decide) (fun zc56 => ?_) (fun zc56 => ?_) | refine z_if_neN (tgt := 70) hx dX11_ask_56 (by decide) (by omega) (fun zc56 => ?_) (fun zc56 => ?_) | refine z_if_ne (tgt := 70) hx dX11_ask_56 (by decide) (fun zc56 => ?_) (fun zc56 => ?_)
      · skip
        refine z_aload_n hx dX11_ask_70 rfl ?_
        refine z_aload_n hx dX11_ask_71 rfl ?_
        refine z_get hx dX11_ask_72 fX11_66 hC_0 rfl ?_
        refine z_callioE hx [53, 50, 51] (qX6_askMark_6 zj (lF L zj) (lT L zj) 0 a.2.2.2.2 (by decide)) dX11_ask_75 oX11_271_X6 rfl rfl rfl rfl rfl (by decide) (by decide) rfl (Nat.le_of_ble_eq_true rfl) (by decide) ?_
        refine z_heap (show _ = hC (r, t, (L, cr, ho), p, i, y, (zj, lF L zj, lT L zj, 2, (zup (zup (a.2.2.2.2) 0 21) 1 20)), f) from rfl) ?_
        exact z_iret hx hF dX11_ask_78 rfl rfl ⟨by unfold aAsk; first | rw [zII_f (fun h => zc14 h.2)] | (rw [zII_t ⟨⟨zj, zhj, rfl⟩, ⟨ze, Nat.zero_le _, zhe, rfl⟩⟩, hnj, e9, if_pos (by rw [zc56])]; rfl) | (rw [zII_t ⟨⟨zj, zhj, rfl⟩, ⟨ze, Nat.zero_le _, zhe, rfl⟩⟩, hnj, e9, if_neg (nI_ne (by omega) (by omega) (by omega))]; rfl) | exact zzz_open, by unfold aBod; first | (rw [zIG_f (fun h => zc14 h.2)]; rfl) | (rw [zIG_t ⟨⟨zj, zhj, rfl⟩, ⟨ze, Nat.zero_le _, zhe, rfl⟩⟩, hnj, e9, if_pos (by rw [zc56])]; unfold zOa; rw [hnj]; rfl) | (rw [zIG_t ⟨⟨zj, zhj, rfl⟩, ⟨ze, Nat.zero_le _, zhe, rfl⟩⟩, hnj, e9, if_neg (nI_ne (by omega) (by omega) (by omega))]; unfold zOa; rw [hnj]; rfl) | exact zzz_open⟩
      · skip
        refine z_aload_n hx dX11_ask_59 rfl ?_
        refine z_aload_n hx dX11_ask_60 rfl ?_
        refine z_get hx dX11_ask_61 fX11_66 hC_0 rfl ?_
        refine z_callioE hx [53, 50, 51] (qX6_askSize_6 zj (lF L zj) (lT L zj) 0 a.2.2.2.2 (by decide)) dX11_ask_64 oX11_267_X6 rfl rfl rfl rfl rfl (by decide) (by decide) rfl (Nat.le_of_ble_eq_true rfl) (by decide) ?_
        refine z_heap (show _ = hC (r, t, (L, cr, ho), p, i, y, (zj, lF L zj, lT L zj, 4, (zup (zup (zup (zup (a.2.2.2.2) 0 11) 1 10) 2 21) 3 20)), f) from rfl) ?_
        refine z_goto (tgt := 78) hx dX11_ask_67 (by decide) ?_
        exact z_iret hx hF dX11_ask_78 rfl rfl ⟨by unfold aAsk; first | rw [zII_f (fun h => zc14 h.2)] | (rw [zII_t ⟨⟨zj, zhj, rfl⟩, ⟨ze, Nat.zero_le _, zhe, rfl⟩⟩, hnj, e9, if_pos (by rw [zc56])]; rfl) | (rw [zII_t ⟨⟨zj, zhj, rfl⟩, ⟨ze, Nat.zero_le _, zhe, rfl⟩⟩, hnj, e9, if_neg (nI_ne (by omega) (by omega) (by omega))]; rfl) | exact zzz_open, by unfold aBod; first | (rw [zIG_f (fun h => zc14 h.2)]; rfl) | (rw [zIG_t ⟨⟨zj, zhj, rfl⟩, ⟨ze, Nat.zero_le _, zhe, rfl⟩⟩, hnj, e9, if_pos (by rw [zc56])]; unfold zOa; rw [hnj]; rfl) | (rw [zIG_t ⟨⟨zj, zhj, rfl⟩, ⟨ze, Nat.zero_le _, zhe, rfl⟩⟩, hnj, e9, if_neg (nI_ne (by omega) (by omega) (by omega))]; unfold zOa; rw [hnj]; rfl) | exact zzz_open⟩
    · skip
      refine z_ldc hx dX11_ask_17 kX11_78 ?_
      exact z_iret hx hF dX11_ask_19 rfl rfl ⟨by unfold aAsk; first | rw [zII_f (fun h => zc14 h.2)] | (rw [zII_t ⟨⟨zj, zhj, rfl⟩, ⟨ze, Nat.zero_le _, zhe, rfl⟩⟩, hnj, e9, if_pos (by rw [zc56])]; rfl) | (rw [zII_t ⟨⟨zj, zhj, rfl⟩, ⟨ze, Nat.zero_le _, zhe, rfl⟩⟩, hnj, e9, if_neg (nI_ne (by omega) (by omega) (by omega))]; rfl) | exact zzz_open, by unfold aBod; first | (rw [zIG_f (fun h => zc14 h.2)]; rfl) | (rw [zIG_t ⟨⟨zj, zhj, rfl⟩, ⟨ze, Nat.zero_le _, zhe, rfl⟩⟩, hnj, e9, if_pos (by rw [zc56])]; unfold zOa; rw [hnj]; rfl) | (rw [zIG_t ⟨⟨zj, zhj, rfl⟩, ⟨ze, Nat.zero_le _, zhe, rfl⟩⟩, hnj, e9, if_neg (nI_ne (by omega) (by omega) (by omega))]; unfold zOa; rw [hnj]; rfl) | exact zzz_open⟩

set_option maxHeartbeats 4000000 in
set_option maxRecDepth 100000 in
theorem qX11_ask_2 (r : zRw) (t : zTp) (L : zL) (cr ho : Nat → Nat) (p : zLk) (i : zLk × zLk) (y : zPy) (a : zAs) (f : Nat × Nat) (hw : zWf L) (w : Int32) (zj : Nat) (zhj : zj < lP L) (e9 : lK L zj = 2) : zMi mX11_ask 7 ([.ref 0, .int (nI zj), .int w]) (hC (r, t, (L, cr, ho), p, i, y, a, f)) (fun z u => z = aAsk L (nI zj) w ∧ u = hC (r, t, (L, cr, ho), p, i, y, zOa (aBod L (nI zj) w) L (nI zj) a, f)) := by
  refine zMi.of (by decide) (Nat.le_of_ble_eq_true rfl) (fun x hx hF => ?_)
  obtain ⟨w1, w2, w3, w4, w5⟩ := id hw
  refine z_aload_n hx dX11_ask_0 rfl ?_
  refine z_iload_n hx dX11_ask_1 rfl ?_
  refine z_callivF hx (qX11_isPerson r t p i y a f L cr ho hw _) dX11_ask_2 sX11_161 hC_0 rfl rfl rfl (Nat.le_of_ble_eq_true rfl) rfl (Nat.le_of_ble_eq_true rfl) (by decide) ?_
  first | refine z_if_eqB (tgt := 17) hx dX11_ask_5 (by decide) (fun zc5 => ?_) (fun zc5 => ?_) | refine z_if_eqN (tgt := 17) hx dX11_ask_5 (by decide) (by omega) (fun zc5 => ?_) (fun zc5 => ?_) | refine z_if_eq (tgt := 17) hx dX11_ask_5 (by decide) (fun zc5 => ?_) (fun zc5 => ?_)
  · skip
    exact absurd ⟨zj, zhj, rfl⟩ zc5
  · skip
    have hnj : zNat (nI zj) = zj := zNat_nI (by omega)
    refine z_iload_n hx dX11_ask_8 rfl ?_
    refine z_iconst (v := nI 0) hx dX11_ask_9 (by decide) ?_
    refine z_iconst (v := nI 1) hx dX11_ask_10 (by decide) ?_
    refine z_callisP hx [] (qX11_isWithinN _ _ _ (by decide)) dX11_ask_11 sX11_74 rfl rfl rfl (by decide) (by decide) rfl (Nat.le_of_ble_eq_true rfl) (by decide) ?_
    first | refine z_if_neB (tgt := 20) hx dX11_ask_14 (by decide) (fun zc14 => ?_) (fun zc14 => ?_) | refine z_if_neN (tgt := 20) hx dX11_ask_14 (by decide) (by omega) (fun zc14 => ?_) (fun zc14 => ?_) | refine z_if_ne (tgt := 20) hx dX11_ask_14 (by decide) (fun zc14 => ?_) (fun zc14 => ?_)
    · skip
      obtain ⟨ze, -, zhe, rfl⟩ := zc14
      refine z_aload_n hx dX11_ask_20 rfl ?_
      refine z_get hx dX11_ask_21 fX11_66 hC_0 rfl ?_
      refine z_iload_n hx dX11_ask_24 rfl ?_
      refine z_aload_n hx dX11_ask_25 rfl ?_
      refine z_get hx dX11_ask_26 fX11_45 hC_0 rfl ?_
      refine z_get hx dX11_ask_29 fX11_175 hC_15 rfl ?_
      refine z_iload_n hx dX11_ask_32 rfl ?_
      refine z_ialdJ hx dX11_ask_33 hC_18 (by decide) (by omega) ?_
      refine z_aload_n hx dX11_ask_34 rfl ?_
      refine z_get hx dX11_ask_35 fX11_45 hC_0 rfl ?_
      refine z_get hx dX11_ask_38 fX11_187 hC_15 rfl ?_
      refine z_iload_n hx dX11_ask_41 rfl ?_
      refine z_ialdJ hx dX11_ask_42 hC_20 (by decide) (by omega) ?_
      refine z_callvvE hx [50, 51] (qX0_beginAbout a.1 a.2.1 a.2.2.1 a.2.2.2.1 a.2.2.2.2 zj (lF L zj) (lT L zj)) dX11_ask_43 sX11_264 rfl rfl rfl rfl rfl (by decide) (by decide) rfl (Nat.le_of_ble_eq_true rfl) (by decide) ?_
      refine z_heap (show _ = hC (r, t, (L, cr, ho), p, i, y, (zj, lF L zj, lT L zj, 0, a.2.2.2.2), f) from rfl) ?_
      refine z_aload_n hx dX11_ask_46 rfl ?_
      refine z_get hx dX11_ask_47 fX11_45 hC_0 rfl ?_
      refine z_iload_n hx dX11_ask_50 rfl ?_
      refine z_callrvP hx gLn (qX4_waiter L cr ho hw zj zhj) dX11_ask_51 sX11_256 rfl rfl (sub_Ln _ _ _ _ _ _ _ _ _ _) rfl rfl (by decide) (by decide) rfl (Nat.le_of_ble_eq_true rfl) (by decide) ?_
      refine z_topR 54 (by rw [e9]; rfl) ?_
      refine z_astore_n hx dX11_ask_54 (Nat.le_of_ble_eq_true rfl) rfl ?_
      refine z_iload_n hx dX11_ask_55 rfl ?_
      first | refine z_if_neB (tgt := 70) hx dX11_ask_56 (by decide) (fun zc56 => ?_) (fun zc56 => ?_) | refine z_if_neN (tgt := 70) hx dX11_ask_56 (by decide) (by omega) (fun zc56 => ?_) (fun zc56 => ?_) | refine z_if_ne (tgt := 70) hx dX11_ask_56 (by decide) (fun zc56 => ?_) (fun zc56 => ?_)
      · skip
        refine z_aload_n hx dX11_ask_70 rfl ?_
        refine z_aload_n hx dX11_ask_71 rfl ?_
        refine z_get hx dX11_ask_72 fX11_66 hC_0 rfl ?_
        refine z_callioE hx [54, 50, 51] (qX2_askMark zj (lF L zj) (lT L zj) 0 a.2.2.2.2 (by decide)) dX11_ask_75 oX11_271_X2 rfl rfl rfl rfl rfl (by decide) (by decide) rfl (Nat.le_of_ble_eq_true rfl) (by decide) ?_
        refine z_heap (show _ = hC (r, t, (L, cr, ho), p, i, y, (zj, lF L zj, lT L zj, 3, (zup (zup (zup (a.2.2.2.2) 0 24) 1 21) 2 20)), f) from rfl) ?_
        exact z_iret hx hF dX11_ask_78 rfl rfl ⟨by unfold aAsk; first | rw [zII_f (fun h => zc14 h.2)] | (rw [zII_t ⟨⟨zj, zhj, rfl⟩, ⟨ze, Nat.zero_le _, zhe, rfl⟩⟩, hnj, e9, if_pos (by rw [zc56])]; rfl) | (rw [zII_t ⟨⟨zj, zhj, rfl⟩, ⟨ze, Nat.zero_le _, zhe, rfl⟩⟩, hnj, e9, if_neg (nI_ne (by omega) (by omega) (by omega))]; rfl) | exact zzz_open, by unfold aBod; first | (rw [zIG_f (fun h => zc14 h.2)]; rfl) | (rw [zIG_t ⟨⟨zj, zhj, rfl⟩, ⟨ze, Nat.zero_le _, zhe, rfl⟩⟩, hnj, e9, if_pos (by rw [zc56])]; unfold zOa; rw [hnj]; rfl) | (rw [zIG_t ⟨⟨zj, zhj, rfl⟩, ⟨ze, Nat.zero_le _, zhe, rfl⟩⟩, hnj, e9, if_neg (nI_ne (by omega) (by omega) (by omega))]; unfold zOa; rw [hnj]; rfl) | exact zzz_open⟩
      · skip
        refine z_aload_n hx dX11_ask_59 rfl ?_
        refine z_aload_n hx dX11_ask_60 rfl ?_
        refine z_get hx dX11_ask_61 fX11_66 hC_0 rfl ?_
        refine z_callioE hx [54, 50, 51] (qX2_askSize zj (lF L zj) (lT L zj) 0 a.2.2.2.2 (by decide)) dX11_ask_64 oX11_267_X2 rfl rfl rfl rfl rfl (by decide) (by decide) rfl (Nat.le_of_ble_eq_true rfl) (by decide) ?_
        refine z_heap (show _ = hC (r, t, (L, cr, ho), p, i, y, (zj, lF L zj, lT L zj, 6, (zup (zup (zup (zup (zup (zup (a.2.2.2.2) 0 12) 1 11) 2 10) 3 24) 4 21) 5 20)), f) from rfl) ?_
        refine z_goto (tgt := 78) hx dX11_ask_67 (by decide) ?_
        exact z_iret hx hF dX11_ask_78 rfl rfl ⟨by unfold aAsk; first | rw [zII_f (fun h => zc14 h.2)] | (rw [zII_t ⟨⟨zj, zhj, rfl⟩, ⟨ze, Nat.zero_le _, zhe, rfl⟩⟩, hnj, e9, if_pos (by rw [zc56])]; rfl) | (rw [zII_t ⟨⟨zj, zhj, rfl⟩, ⟨ze, Nat.zero_le _, zhe, rfl⟩⟩, hnj, e9, if_neg (nI_ne (by omega) (by omega) (by omega))]; rfl) | exact zzz_open, by unfold aBod; first | (rw [zIG_f (fun h => zc14 h.2)]; rfl) | (rw [zIG_t ⟨⟨zj, zhj, rfl⟩, ⟨ze, Nat.zero_le _, zhe, rfl⟩⟩, hnj, e9, if_pos (by rw [zc56])]; unfold zOa; rw [hnj]; rfl) | (rw [zIG_t ⟨⟨zj, zhj, rfl⟩, ⟨ze, Nat.zero_le _, zhe, rfl⟩⟩, hnj, e9, if_neg (nI_ne (by omega) (by omega) (by omega))]; unfold zOa; rw [hnj]; rfl) | exact zzz_open⟩
    · skip
      refine z_ldc hx dX11_ask_17 kX11_78 ?_
      exact z_iret hx hF dX11_ask_19 rfl rfl ⟨by unfold aAsk; first | rw [zII_f (fun h => zc14 h.2)] | (rw [zII_t ⟨⟨zj, zhj, rfl⟩, ⟨ze, Nat.zero_le _, zhe, rfl⟩⟩, hnj, e9, if_pos (by rw [zc56])]; rfl) | (rw [zII_t ⟨⟨zj, zhj, rfl⟩, ⟨ze, Nat.zero_le _, zhe, rfl⟩⟩, hnj, e9, if_neg (nI_ne (by omega) (by omega) (by omega))]; rfl) | exact zzz_open, by unfold aBod; first | (rw [zIG_f (fun h => zc14 h.2)]; rfl) | (rw [zIG_t ⟨⟨zj, zhj, rfl⟩, ⟨ze, Nat.zero_le _, zhe, rfl⟩⟩, hnj, e9, if_pos (by rw [zc56])]; unfold zOa; rw [hnj]; rfl) | (rw [zIG_t ⟨⟨zj, zhj, rfl⟩, ⟨ze, Nat.zero_le _, zhe, rfl⟩⟩, hnj, e9, if_neg (nI_ne (by omega) (by omega) (by omega))]; unfold zOa; rw [hnj]; rfl) | exact zzz_open⟩

set_option maxHeartbeats 4000000 in
set_option maxRecDepth 100000 in
theorem qX11_ask_3 (r : zRw) (t : zTp) (L : zL) (cr ho : Nat → Nat) (p : zLk) (i : zLk × zLk) (y : zPy) (a : zAs) (f : Nat × Nat) (hw : zWf L) (w : Int32) (zj : Nat) (zhj : zj < lP L) (e9 : lK L zj = 3) : zMi mX11_ask 7 ([.ref 0, .int (nI zj), .int w]) (hC (r, t, (L, cr, ho), p, i, y, a, f)) (fun z u => z = aAsk L (nI zj) w ∧ u = hC (r, t, (L, cr, ho), p, i, y, zOa (aBod L (nI zj) w) L (nI zj) a, f)) := by
  refine zMi.of (by decide) (Nat.le_of_ble_eq_true rfl) (fun x hx hF => ?_)
  obtain ⟨w1, w2, w3, w4, w5⟩ := id hw
  refine z_aload_n hx dX11_ask_0 rfl ?_
  refine z_iload_n hx dX11_ask_1 rfl ?_
  refine z_callivF hx (qX11_isPerson r t p i y a f L cr ho hw _) dX11_ask_2 sX11_161 hC_0 rfl rfl rfl (Nat.le_of_ble_eq_true rfl) rfl (Nat.le_of_ble_eq_true rfl) (by decide) ?_
  first | refine z_if_eqB (tgt := 17) hx dX11_ask_5 (by decide) (fun zc5 => ?_) (fun zc5 => ?_) | refine z_if_eqN (tgt := 17) hx dX11_ask_5 (by decide) (by omega) (fun zc5 => ?_) (fun zc5 => ?_) | refine z_if_eq (tgt := 17) hx dX11_ask_5 (by decide) (fun zc5 => ?_) (fun zc5 => ?_)
  · skip
    exact absurd ⟨zj, zhj, rfl⟩ zc5
  · skip
    have hnj : zNat (nI zj) = zj := zNat_nI (by omega)
    refine z_iload_n hx dX11_ask_8 rfl ?_
    refine z_iconst (v := nI 0) hx dX11_ask_9 (by decide) ?_
    refine z_iconst (v := nI 1) hx dX11_ask_10 (by decide) ?_
    refine z_callisP hx [] (qX11_isWithinN _ _ _ (by decide)) dX11_ask_11 sX11_74 rfl rfl rfl (by decide) (by decide) rfl (Nat.le_of_ble_eq_true rfl) (by decide) ?_
    first | refine z_if_neB (tgt := 20) hx dX11_ask_14 (by decide) (fun zc14 => ?_) (fun zc14 => ?_) | refine z_if_neN (tgt := 20) hx dX11_ask_14 (by decide) (by omega) (fun zc14 => ?_) (fun zc14 => ?_) | refine z_if_ne (tgt := 20) hx dX11_ask_14 (by decide) (fun zc14 => ?_) (fun zc14 => ?_)
    · skip
      obtain ⟨ze, -, zhe, rfl⟩ := zc14
      refine z_aload_n hx dX11_ask_20 rfl ?_
      refine z_get hx dX11_ask_21 fX11_66 hC_0 rfl ?_
      refine z_iload_n hx dX11_ask_24 rfl ?_
      refine z_aload_n hx dX11_ask_25 rfl ?_
      refine z_get hx dX11_ask_26 fX11_45 hC_0 rfl ?_
      refine z_get hx dX11_ask_29 fX11_175 hC_15 rfl ?_
      refine z_iload_n hx dX11_ask_32 rfl ?_
      refine z_ialdJ hx dX11_ask_33 hC_18 (by decide) (by omega) ?_
      refine z_aload_n hx dX11_ask_34 rfl ?_
      refine z_get hx dX11_ask_35 fX11_45 hC_0 rfl ?_
      refine z_get hx dX11_ask_38 fX11_187 hC_15 rfl ?_
      refine z_iload_n hx dX11_ask_41 rfl ?_
      refine z_ialdJ hx dX11_ask_42 hC_20 (by decide) (by omega) ?_
      refine z_callvvE hx [50, 51] (qX0_beginAbout a.1 a.2.1 a.2.2.1 a.2.2.2.1 a.2.2.2.2 zj (lF L zj) (lT L zj)) dX11_ask_43 sX11_264 rfl rfl rfl rfl rfl (by decide) (by decide) rfl (Nat.le_of_ble_eq_true rfl) (by decide) ?_
      refine z_heap (show _ = hC (r, t, (L, cr, ho), p, i, y, (zj, lF L zj, lT L zj, 0, a.2.2.2.2), f) from rfl) ?_
      refine z_aload_n hx dX11_ask_46 rfl ?_
      refine z_get hx dX11_ask_47 fX11_45 hC_0 rfl ?_
      refine z_iload_n hx dX11_ask_50 rfl ?_
      refine z_callrvP hx gLn (qX4_waiter L cr ho hw zj zhj) dX11_ask_51 sX11_256 rfl rfl (sub_Ln _ _ _ _ _ _ _ _ _ _) rfl rfl (by decide) (by decide) rfl (Nat.le_of_ble_eq_true rfl) (by decide) ?_
      refine z_topR 55 (by rw [e9]; rfl) ?_
      refine z_astore_n hx dX11_ask_54 (Nat.le_of_ble_eq_true rfl) rfl ?_
      refine z_iload_n hx dX11_ask_55 rfl ?_
      first | refine z_if_neB (tgt := 70) hx dX11_ask_56 (by decide) (fun zc56 => ?_) (fun zc56 => ?_) | refine z_if_neN (tgt := 70) hx dX11_ask_56 (by decide) (by omega) (fun zc56 => ?_) (fun zc56 => ?_) | refine z_if_ne (tgt := 70) hx dX11_ask_56 (by decide) (fun zc56 => ?_) (fun zc56 => ?_)
      · skip
        refine z_aload_n hx dX11_ask_70 rfl ?_
        refine z_aload_n hx dX11_ask_71 rfl ?_
        refine z_get hx dX11_ask_72 fX11_66 hC_0 rfl ?_
        refine z_callioE hx [55, 50, 51] (qX3_askMark zj (lF L zj) (lT L zj) 0 a.2.2.2.2 (by decide)) dX11_ask_75 oX11_271_X3 rfl rfl rfl rfl rfl (by decide) (by decide) rfl (Nat.le_of_ble_eq_true rfl) (by decide) ?_
        refine z_heap (show _ = hC (r, t, (L, cr, ho), p, i, y, (zj, lF L zj, lT L zj, 3, (zup (zup (zup (a.2.2.2.2) 0 22) 1 21) 2 20)), f) from rfl) ?_
        exact z_iret hx hF dX11_ask_78 rfl rfl ⟨by unfold aAsk; first | rw [zII_f (fun h => zc14 h.2)] | (rw [zII_t ⟨⟨zj, zhj, rfl⟩, ⟨ze, Nat.zero_le _, zhe, rfl⟩⟩, hnj, e9, if_pos (by rw [zc56])]; rfl) | (rw [zII_t ⟨⟨zj, zhj, rfl⟩, ⟨ze, Nat.zero_le _, zhe, rfl⟩⟩, hnj, e9, if_neg (nI_ne (by omega) (by omega) (by omega))]; rfl) | exact zzz_open, by unfold aBod; first | (rw [zIG_f (fun h => zc14 h.2)]; rfl) | (rw [zIG_t ⟨⟨zj, zhj, rfl⟩, ⟨ze, Nat.zero_le _, zhe, rfl⟩⟩, hnj, e9, if_pos (by rw [zc56])]; unfold zOa; rw [hnj]; rfl) | (rw [zIG_t ⟨⟨zj, zhj, rfl⟩, ⟨ze, Nat.zero_le _, zhe, rfl⟩⟩, hnj, e9, if_neg (nI_ne (by omega) (by omega) (by omega))]; unfold zOa; rw [hnj]; rfl) | exact zzz_open⟩
      · skip
        refine z_aload_n hx dX11_ask_59 rfl ?_
        refine z_aload_n hx dX11_ask_60 rfl ?_
        refine z_get hx dX11_ask_61 fX11_66 hC_0 rfl ?_
        refine z_callioE hx [55, 50, 51] (qX6_askSize_3 zj (lF L zj) (lT L zj) 0 a.2.2.2.2 (by decide)) dX11_ask_64 oX11_267_X3 rfl rfl rfl rfl rfl (by decide) (by decide) rfl (Nat.le_of_ble_eq_true rfl) (by decide) ?_
        refine z_heap (show _ = hC (r, t, (L, cr, ho), p, i, y, (zj, lF L zj, lT L zj, 5, (zup (zup (zup (zup (zup (a.2.2.2.2) 0 11) 1 10) 2 22) 3 21) 4 20)), f) from rfl) ?_
        refine z_goto (tgt := 78) hx dX11_ask_67 (by decide) ?_
        exact z_iret hx hF dX11_ask_78 rfl rfl ⟨by unfold aAsk; first | rw [zII_f (fun h => zc14 h.2)] | (rw [zII_t ⟨⟨zj, zhj, rfl⟩, ⟨ze, Nat.zero_le _, zhe, rfl⟩⟩, hnj, e9, if_pos (by rw [zc56])]; rfl) | (rw [zII_t ⟨⟨zj, zhj, rfl⟩, ⟨ze, Nat.zero_le _, zhe, rfl⟩⟩, hnj, e9, if_neg (nI_ne (by omega) (by omega) (by omega))]; rfl) | exact zzz_open, by unfold aBod; first | (rw [zIG_f (fun h => zc14 h.2)]; rfl) | (rw [zIG_t ⟨⟨zj, zhj, rfl⟩, ⟨ze, Nat.zero_le _, zhe, rfl⟩⟩, hnj, e9, if_pos (by rw [zc56])]; unfold zOa; rw [hnj]; rfl) | (rw [zIG_t ⟨⟨zj, zhj, rfl⟩, ⟨ze, Nat.zero_le _, zhe, rfl⟩⟩, hnj, e9, if_neg (nI_ne (by omega) (by omega) (by omega))]; unfold zOa; rw [hnj]; rfl) | exact zzz_open⟩
    · skip
      refine z_ldc hx dX11_ask_17 kX11_78 ?_
      exact z_iret hx hF dX11_ask_19 rfl rfl ⟨by unfold aAsk; first | rw [zII_f (fun h => zc14 h.2)] | (rw [zII_t ⟨⟨zj, zhj, rfl⟩, ⟨ze, Nat.zero_le _, zhe, rfl⟩⟩, hnj, e9, if_pos (by rw [zc56])]; rfl) | (rw [zII_t ⟨⟨zj, zhj, rfl⟩, ⟨ze, Nat.zero_le _, zhe, rfl⟩⟩, hnj, e9, if_neg (nI_ne (by omega) (by omega) (by omega))]; rfl) | exact zzz_open, by unfold aBod; first | (rw [zIG_f (fun h => zc14 h.2)]; rfl) | (rw [zIG_t ⟨⟨zj, zhj, rfl⟩, ⟨ze, Nat.zero_le _, zhe, rfl⟩⟩, hnj, e9, if_pos (by rw [zc56])]; unfold zOa; rw [hnj]; rfl) | (rw [zIG_t ⟨⟨zj, zhj, rfl⟩, ⟨ze, Nat.zero_le _, zhe, rfl⟩⟩, hnj, e9, if_neg (nI_ne (by omega) (by omega) (by omega))]; unfold zOa; rw [hnj]; rfl) | exact zzz_open⟩

set_option maxHeartbeats 4000000 in
set_option maxRecDepth 100000 in
theorem qX11_ask_4 (r : zRw) (t : zTp) (L : zL) (cr ho : Nat → Nat) (p : zLk) (i : zLk × zLk) (y : zPy) (a : zAs) (f : Nat × Nat) (hw : zWf L) (w : Int32) (zj : Nat) (zhj : zj < lP L) (e9 : lK L zj = 4) : zMi mX11_ask 7 ([.ref 0, .int (nI zj), .int w]) (hC (r, t, (L, cr, ho), p, i, y, a, f)) (fun z u => z = aAsk L (nI zj) w ∧ u = hC (r, t, (L, cr, ho), p, i, y, zOa (aBod L (nI zj) w) L (nI zj) a, f)) := by
  refine zMi.of (by decide) (Nat.le_of_ble_eq_true rfl) (fun x hx hF => ?_)
  obtain ⟨w1, w2, w3, w4, w5⟩ := id hw
  refine z_aload_n hx dX11_ask_0 rfl ?_
  refine z_iload_n hx dX11_ask_1 rfl ?_
  refine z_callivF hx (qX11_isPerson r t p i y a f L cr ho hw _) dX11_ask_2 sX11_161 hC_0 rfl rfl rfl (Nat.le_of_ble_eq_true rfl) rfl (Nat.le_of_ble_eq_true rfl) (by decide) ?_
  first | refine z_if_eqB (tgt := 17) hx dX11_ask_5 (by decide) (fun zc5 => ?_) (fun zc5 => ?_) | refine z_if_eqN (tgt := 17) hx dX11_ask_5 (by decide) (by omega) (fun zc5 => ?_) (fun zc5 => ?_) | refine z_if_eq (tgt := 17) hx dX11_ask_5 (by decide) (fun zc5 => ?_) (fun zc5 => ?_)
  · skip
    exact absurd ⟨zj, zhj, rfl⟩ zc5
  · skip
    have hnj : zNat (nI zj) = zj := zNat_nI (by omega)
    refine z_iload_n hx dX11_ask_8 rfl ?_
    refine z_iconst (v := nI 0) hx dX11_ask_9 (by decide) ?_
    refine z_iconst (v := nI 1) hx dX11_ask_10 (by decide) ?_
    refine z_callisP hx [] (qX11_isWithinN _ _ _ (by decide)) dX11_ask_11 sX11_74 rfl rfl rfl (by decide) (by decide) rfl (Nat.le_of_ble_eq_true rfl) (by decide) ?_
    first | refine z_if_neB (tgt := 20) hx dX11_ask_14 (by decide) (fun zc14 => ?_) (fun zc14 => ?_) | refine z_if_neN (tgt := 20) hx dX11_ask_14 (by decide) (by omega) (fun zc14 => ?_) (fun zc14 => ?_) | refine z_if_ne (tgt := 20) hx dX11_ask_14 (by decide) (fun zc14 => ?_) (fun zc14 => ?_)
    · skip
      obtain ⟨ze, -, zhe, rfl⟩ := zc14
      refine z_aload_n hx dX11_ask_20 rfl ?_
      refine z_get hx dX11_ask_21 fX11_66 hC_0 rfl ?_
      refine z_iload_n hx dX11_ask_24 rfl ?_
      refine z_aload_n hx dX11_ask_25 rfl ?_
      refine z_get hx dX11_ask_26 fX11_45 hC_0 rfl ?_
      refine z_get hx dX11_ask_29 fX11_175 hC_15 rfl ?_
      refine z_iload_n hx dX11_ask_32 rfl ?_
      refine z_ialdJ hx dX11_ask_33 hC_18 (by decide) (by omega) ?_
      refine z_aload_n hx dX11_ask_34 rfl ?_
      refine z_get hx dX11_ask_35 fX11_45 hC_0 rfl ?_
      refine z_get hx dX11_ask_38 fX11_187 hC_15 rfl ?_
      refine z_iload_n hx dX11_ask_41 rfl ?_
      refine z_ialdJ hx dX11_ask_42 hC_20 (by decide) (by omega) ?_
      refine z_callvvE hx [50, 51] (qX0_beginAbout a.1 a.2.1 a.2.2.1 a.2.2.2.1 a.2.2.2.2 zj (lF L zj) (lT L zj)) dX11_ask_43 sX11_264 rfl rfl rfl rfl rfl (by decide) (by decide) rfl (Nat.le_of_ble_eq_true rfl) (by decide) ?_
      refine z_heap (show _ = hC (r, t, (L, cr, ho), p, i, y, (zj, lF L zj, lT L zj, 0, a.2.2.2.2), f) from rfl) ?_
      refine z_aload_n hx dX11_ask_46 rfl ?_
      refine z_get hx dX11_ask_47 fX11_45 hC_0 rfl ?_
      refine z_iload_n hx dX11_ask_50 rfl ?_
      refine z_callrvP hx gLn (qX4_waiter L cr ho hw zj zhj) dX11_ask_51 sX11_256 rfl rfl (sub_Ln _ _ _ _ _ _ _ _ _ _) rfl rfl (by decide) (by decide) rfl (Nat.le_of_ble_eq_true rfl) (by decide) ?_
      refine z_topR 56 (by rw [e9]; rfl) ?_
      refine z_astore_n hx dX11_ask_54 (Nat.le_of_ble_eq_true rfl) rfl ?_
      refine z_iload_n hx dX11_ask_55 rfl ?_
      first | refine z_if_neB (tgt := 70) hx dX11_ask_56 (by decide) (fun zc56 => ?_) (fun zc56 => ?_) | refine z_if_neN (tgt := 70) hx dX11_ask_56 (by decide) (by omega) (fun zc56 => ?_) (fun zc56 => ?_) | refine z_if_ne (tgt := 70) hx dX11_ask_56 (by decide) (fun zc56 => ?_) (fun zc56 => ?_)
      · skip
        refine z_aload_n hx dX11_ask_70 rfl ?_
        refine z_aload_n hx dX11_ask_71 rfl ?_
        refine z_get hx dX11_ask_72 fX11_66 hC_0 rfl ?_
        refine z_callioE hx [56, 50, 51] (qX1_askMark_1 zj (lF L zj) (lT L zj) 0 a.2.2.2.2 (by decide)) dX11_ask_75 oX11_271_X1 rfl rfl rfl rfl rfl (by decide) (by decide) rfl (Nat.le_of_ble_eq_true rfl) (by decide) ?_
        refine z_heap (show _ = hC (r, t, (L, cr, ho), p, i, y, (zj, lF L zj, lT L zj, 4, (zup (zup (zup (zup (a.2.2.2.2) 0 23) 1 20) 2 13) 3 10)), f) from rfl) ?_
        exact z_iret hx hF dX11_ask_78 rfl rfl ⟨by unfold aAsk; first | rw [zII_f (fun h => zc14 h.2)] | (rw [zII_t ⟨⟨zj, zhj, rfl⟩, ⟨ze, Nat.zero_le _, zhe, rfl⟩⟩, hnj, e9, if_pos (by rw [zc56])]; rfl) | (rw [zII_t ⟨⟨zj, zhj, rfl⟩, ⟨ze, Nat.zero_le _, zhe, rfl⟩⟩, hnj, e9, if_neg (nI_ne (by omega) (by omega) (by omega))]; rfl) | exact zzz_open, by unfold aBod; first | (rw [zIG_f (fun h => zc14 h.2)]; rfl) | (rw [zIG_t ⟨⟨zj, zhj, rfl⟩, ⟨ze, Nat.zero_le _, zhe, rfl⟩⟩, hnj, e9, if_pos (by rw [zc56])]; unfold zOa; rw [hnj]; rfl) | (rw [zIG_t ⟨⟨zj, zhj, rfl⟩, ⟨ze, Nat.zero_le _, zhe, rfl⟩⟩, hnj, e9, if_neg (nI_ne (by omega) (by omega) (by omega))]; unfold zOa; rw [hnj]; rfl) | exact zzz_open⟩
      · skip
        refine z_aload_n hx dX11_ask_59 rfl ?_
        refine z_aload_n hx dX11_ask_60 rfl ?_
        refine z_get hx dX11_ask_61 fX11_66 hC_0 rfl ?_
        refine z_callioE hx [56, 50, 51] (qX1_askSize_1 zj (lF L zj) (lT L zj) 0 a.2.2.2.2 (by decide)) dX11_ask_64 oX11_267_X1 rfl rfl rfl rfl rfl (by decide) (by decide) rfl (Nat.le_of_ble_eq_true rfl) (by decide) ?_
        refine z_heap (show _ = hC (r, t, (L, cr, ho), p, i, y, (zj, lF L zj, lT L zj, 2, (zup (zup (a.2.2.2.2) 0 13) 1 10)), f) from rfl) ?_
        refine z_goto (tgt := 78) hx dX11_ask_67 (by decide) ?_
        exact z_iret hx hF dX11_ask_78 rfl rfl ⟨by unfold aAsk; first | rw [zII_f (fun h => zc14 h.2)] | (rw [zII_t ⟨⟨zj, zhj, rfl⟩, ⟨ze, Nat.zero_le _, zhe, rfl⟩⟩, hnj, e9, if_pos (by rw [zc56])]; rfl) | (rw [zII_t ⟨⟨zj, zhj, rfl⟩, ⟨ze, Nat.zero_le _, zhe, rfl⟩⟩, hnj, e9, if_neg (nI_ne (by omega) (by omega) (by omega))]; rfl) | exact zzz_open, by unfold aBod; first | (rw [zIG_f (fun h => zc14 h.2)]; rfl) | (rw [zIG_t ⟨⟨zj, zhj, rfl⟩, ⟨ze, Nat.zero_le _, zhe, rfl⟩⟩, hnj, e9, if_pos (by rw [zc56])]; unfold zOa; rw [hnj]; rfl) | (rw [zIG_t ⟨⟨zj, zhj, rfl⟩, ⟨ze, Nat.zero_le _, zhe, rfl⟩⟩, hnj, e9, if_neg (nI_ne (by omega) (by omega) (by omega))]; unfold zOa; rw [hnj]; rfl) | exact zzz_open⟩
    · skip
      refine z_ldc hx dX11_ask_17 kX11_78 ?_
      exact z_iret hx hF dX11_ask_19 rfl rfl ⟨by unfold aAsk; first | rw [zII_f (fun h => zc14 h.2)] | (rw [zII_t ⟨⟨zj, zhj, rfl⟩, ⟨ze, Nat.zero_le _, zhe, rfl⟩⟩, hnj, e9, if_pos (by rw [zc56])]; rfl) | (rw [zII_t ⟨⟨zj, zhj, rfl⟩, ⟨ze, Nat.zero_le _, zhe, rfl⟩⟩, hnj, e9, if_neg (nI_ne (by omega) (by omega) (by omega))]; rfl) | exact zzz_open, by unfold aBod; first | (rw [zIG_f (fun h => zc14 h.2)]; rfl) | (rw [zIG_t ⟨⟨zj, zhj, rfl⟩, ⟨ze, Nat.zero_le _, zhe, rfl⟩⟩, hnj, e9, if_pos (by rw [zc56])]; unfold zOa; rw [hnj]; rfl) | (rw [zIG_t ⟨⟨zj, zhj, rfl⟩, ⟨ze, Nat.zero_le _, zhe, rfl⟩⟩, hnj, e9, if_neg (nI_ne (by omega) (by omega) (by omega))]; unfold zOa; rw [hnj]; rfl) | exact zzz_open⟩

set_option maxHeartbeats 4000000 in
set_option maxRecDepth 100000 in
theorem qX11_ask_5 (r : zRw) (t : zTp) (L : zL) (cr ho : Nat → Nat) (p : zLk) (i : zLk × zLk) (y : zPy) (a : zAs) (f : Nat × Nat) (hw : zWf L) (w : Int32) (zj : Nat) (zhj : zj < lP L) (e9 : lK L zj = 5) : zMi mX11_ask 7 ([.ref 0, .int (nI zj), .int w]) (hC (r, t, (L, cr, ho), p, i, y, a, f)) (fun z u => z = aAsk L (nI zj) w ∧ u = hC (r, t, (L, cr, ho), p, i, y, zOa (aBod L (nI zj) w) L (nI zj) a, f)) := by
  refine zMi.of (by decide) (Nat.le_of_ble_eq_true rfl) (fun x hx hF => ?_)
  obtain ⟨w1, w2, w3, w4, w5⟩ := id hw
  refine z_aload_n hx dX11_ask_0 rfl ?_
  refine z_iload_n hx dX11_ask_1 rfl ?_
  refine z_callivF hx (qX11_isPerson r t p i y a f L cr ho hw _) dX11_ask_2 sX11_161 hC_0 rfl rfl rfl (Nat.le_of_ble_eq_true rfl) rfl (Nat.le_of_ble_eq_true rfl) (by decide) ?_
  first | refine z_if_eqB (tgt := 17) hx dX11_ask_5 (by decide) (fun zc5 => ?_) (fun zc5 => ?_) | refine z_if_eqN (tgt := 17) hx dX11_ask_5 (by decide) (by omega) (fun zc5 => ?_) (fun zc5 => ?_) | refine z_if_eq (tgt := 17) hx dX11_ask_5 (by decide) (fun zc5 => ?_) (fun zc5 => ?_)
  · skip
    exact absurd ⟨zj, zhj, rfl⟩ zc5
  · skip
    have hnj : zNat (nI zj) = zj := zNat_nI (by omega)
    refine z_iload_n hx dX11_ask_8 rfl ?_
    refine z_iconst (v := nI 0) hx dX11_ask_9 (by decide) ?_
    refine z_iconst (v := nI 1) hx dX11_ask_10 (by decide) ?_
    refine z_callisP hx [] (qX11_isWithinN _ _ _ (by decide)) dX11_ask_11 sX11_74 rfl rfl rfl (by decide) (by decide) rfl (Nat.le_of_ble_eq_true rfl) (by decide) ?_
    first | refine z_if_neB (tgt := 20) hx dX11_ask_14 (by decide) (fun zc14 => ?_) (fun zc14 => ?_) | refine z_if_neN (tgt := 20) hx dX11_ask_14 (by decide) (by omega) (fun zc14 => ?_) (fun zc14 => ?_) | refine z_if_ne (tgt := 20) hx dX11_ask_14 (by decide) (fun zc14 => ?_) (fun zc14 => ?_)
    · skip
      obtain ⟨ze, -, zhe, rfl⟩ := zc14
      refine z_aload_n hx dX11_ask_20 rfl ?_
      refine z_get hx dX11_ask_21 fX11_66 hC_0 rfl ?_
      refine z_iload_n hx dX11_ask_24 rfl ?_
      refine z_aload_n hx dX11_ask_25 rfl ?_
      refine z_get hx dX11_ask_26 fX11_45 hC_0 rfl ?_
      refine z_get hx dX11_ask_29 fX11_175 hC_15 rfl ?_
      refine z_iload_n hx dX11_ask_32 rfl ?_
      refine z_ialdJ hx dX11_ask_33 hC_18 (by decide) (by omega) ?_
      refine z_aload_n hx dX11_ask_34 rfl ?_
      refine z_get hx dX11_ask_35 fX11_45 hC_0 rfl ?_
      refine z_get hx dX11_ask_38 fX11_187 hC_15 rfl ?_
      refine z_iload_n hx dX11_ask_41 rfl ?_
      refine z_ialdJ hx dX11_ask_42 hC_20 (by decide) (by omega) ?_
      refine z_callvvE hx [50, 51] (qX0_beginAbout a.1 a.2.1 a.2.2.1 a.2.2.2.1 a.2.2.2.2 zj (lF L zj) (lT L zj)) dX11_ask_43 sX11_264 rfl rfl rfl rfl rfl (by decide) (by decide) rfl (Nat.le_of_ble_eq_true rfl) (by decide) ?_
      refine z_heap (show _ = hC (r, t, (L, cr, ho), p, i, y, (zj, lF L zj, lT L zj, 0, a.2.2.2.2), f) from rfl) ?_
      refine z_aload_n hx dX11_ask_46 rfl ?_
      refine z_get hx dX11_ask_47 fX11_45 hC_0 rfl ?_
      refine z_iload_n hx dX11_ask_50 rfl ?_
      refine z_callrvP hx gLn (qX4_waiter L cr ho hw zj zhj) dX11_ask_51 sX11_256 rfl rfl (sub_Ln _ _ _ _ _ _ _ _ _ _) rfl rfl (by decide) (by decide) rfl (Nat.le_of_ble_eq_true rfl) (by decide) ?_
      refine z_topR 57 (by rw [e9]; rfl) ?_
      refine z_astore_n hx dX11_ask_54 (Nat.le_of_ble_eq_true rfl) rfl ?_
      refine z_iload_n hx dX11_ask_55 rfl ?_
      first | refine z_if_neB (tgt := 70) hx dX11_ask_56 (by decide) (fun zc56 => ?_) (fun zc56 => ?_) | refine z_if_neN (tgt := 70) hx dX11_ask_56 (by decide) (by omega) (fun zc56 => ?_) (fun zc56 => ?_) | refine z_if_ne (tgt := 70) hx dX11_ask_56 (by decide) (fun zc56 => ?_) (fun zc56 => ?_)
      · skip
        refine z_aload_n hx dX11_ask_70 rfl ?_
        refine z_aload_n hx dX11_ask_71 rfl ?_
        refine z_get hx dX11_ask_72 fX11_66 hC_0 rfl ?_
        refine z_callioE hx [57, 50, 51] (qX1_askMark_7 zj (lF L zj) (lT L zj) 0 a.2.2.2.2 (by decide)) dX11_ask_75 oX11_271_X7 rfl rfl rfl rfl rfl (by decide) (by decide) rfl (Nat.le_of_ble_eq_true rfl) (by decide) ?_
        refine z_heap (show _ = hC (r, t, (L, cr, ho), p, i, y, (zj, lF L zj, lT L zj, 5, (zup (zup (zup (zup (zup (a.2.2.2.2) 0 23) 1 20) 2 14) 3 13) 4 10)), f) from rfl) ?_
        exact z_iret hx hF dX11_ask_78 rfl rfl ⟨by unfold aAsk; first | rw [zII_f (fun h => zc14 h.2)] | (rw [zII_t ⟨⟨zj, zhj, rfl⟩, ⟨ze, Nat.zero_le _, zhe, rfl⟩⟩, hnj, e9, if_pos (by rw [zc56])]; rfl) | (rw [zII_t ⟨⟨zj, zhj, rfl⟩, ⟨ze, Nat.zero_le _, zhe, rfl⟩⟩, hnj, e9, if_neg (nI_ne (by omega) (by omega) (by omega))]; rfl) | exact zzz_open, by unfold aBod; first | (rw [zIG_f (fun h => zc14 h.2)]; rfl) | (rw [zIG_t ⟨⟨zj, zhj, rfl⟩, ⟨ze, Nat.zero_le _, zhe, rfl⟩⟩, hnj, e9, if_pos (by rw [zc56])]; unfold zOa; rw [hnj]; rfl) | (rw [zIG_t ⟨⟨zj, zhj, rfl⟩, ⟨ze, Nat.zero_le _, zhe, rfl⟩⟩, hnj, e9, if_neg (nI_ne (by omega) (by omega) (by omega))]; unfold zOa; rw [hnj]; rfl) | exact zzz_open⟩
      · skip
        refine z_aload_n hx dX11_ask_59 rfl ?_
        refine z_aload_n hx dX11_ask_60 rfl ?_
        refine z_get hx dX11_ask_61 fX11_66 hC_0 rfl ?_
        refine z_callioE hx [57, 50, 51] (qX7_askSize zj (lF L zj) (lT L zj) 0 a.2.2.2.2 (by decide)) dX11_ask_64 oX11_267_X7 rfl rfl rfl rfl rfl (by decide) (by decide) rfl (Nat.le_of_ble_eq_true rfl) (by decide) ?_
        refine z_heap (show _ = hC (r, t, (L, cr, ho), p, i, y, (zj, lF L zj, lT L zj, 3, (zup (zup (zup (a.2.2.2.2) 0 14) 1 13) 2 10)), f) from rfl) ?_
        refine z_goto (tgt := 78) hx dX11_ask_67 (by decide) ?_
        exact z_iret hx hF dX11_ask_78 rfl rfl ⟨by unfold aAsk; first | rw [zII_f (fun h => zc14 h.2)] | (rw [zII_t ⟨⟨zj, zhj, rfl⟩, ⟨ze, Nat.zero_le _, zhe, rfl⟩⟩, hnj, e9, if_pos (by rw [zc56])]; rfl) | (rw [zII_t ⟨⟨zj, zhj, rfl⟩, ⟨ze, Nat.zero_le _, zhe, rfl⟩⟩, hnj, e9, if_neg (nI_ne (by omega) (by omega) (by omega))]; rfl) | exact zzz_open, by unfold aBod; first | (rw [zIG_f (fun h => zc14 h.2)]; rfl) | (rw [zIG_t ⟨⟨zj, zhj, rfl⟩, ⟨ze, Nat.zero_le _, zhe, rfl⟩⟩, hnj, e9, if_pos (by rw [zc56])]; unfold zOa; rw [hnj]; rfl) | (rw [zIG_t ⟨⟨zj, zhj, rfl⟩, ⟨ze, Nat.zero_le _, zhe, rfl⟩⟩, hnj, e9, if_neg (nI_ne (by omega) (by omega) (by omega))]; unfold zOa; rw [hnj]; rfl) | exact zzz_open⟩
    · skip
      refine z_ldc hx dX11_ask_17 kX11_78 ?_
      exact z_iret hx hF dX11_ask_19 rfl rfl ⟨by unfold aAsk; first | rw [zII_f (fun h => zc14 h.2)] | (rw [zII_t ⟨⟨zj, zhj, rfl⟩, ⟨ze, Nat.zero_le _, zhe, rfl⟩⟩, hnj, e9, if_pos (by rw [zc56])]; rfl) | (rw [zII_t ⟨⟨zj, zhj, rfl⟩, ⟨ze, Nat.zero_le _, zhe, rfl⟩⟩, hnj, e9, if_neg (nI_ne (by omega) (by omega) (by omega))]; rfl) | exact zzz_open, by unfold aBod; first | (rw [zIG_f (fun h => zc14 h.2)]; rfl) | (rw [zIG_t ⟨⟨zj, zhj, rfl⟩, ⟨ze, Nat.zero_le _, zhe, rfl⟩⟩, hnj, e9, if_pos (by rw [zc56])]; unfold zOa; rw [hnj]; rfl) | (rw [zIG_t ⟨⟨zj, zhj, rfl⟩, ⟨ze, Nat.zero_le _, zhe, rfl⟩⟩, hnj, e9, if_neg (nI_ne (by omega) (by omega) (by omega))]; unfold zOa; rw [hnj]; rfl) | exact zzz_open⟩

theorem zM7 {M : zM} {av : List Value} {h : List zE} {Qr : Int32 → List zE → Prop} (k : zMi M 7 av h Qr) : zMi M 7 av h Qr := k
theorem qX11_ask (r : zRw) (t : zTp) (L : zL) (cr ho : Nat → Nat) (p : zLk) (i : zLk × zLk) (y : zPy) (a : zAs) (f : Nat × Nat) (hw : zWf L) (v w : Int32) (hv : inP (lP L) v) : zMi mX11_ask 7 [.ref 0, .int v, .int w] (hC (r, t, (L, cr, ho), p, i, y, a, f)) (fun z u => z = aAsk L v w ∧ u = hC (r, t, (L, cr, ho), p, i, y, zOa (aBod L v w) L v a, f)) := by
  obtain ⟨zj, zhj, rfl⟩ := hv
  have w6 := hw.2.2.2.2 zj zhj
  rcases (show lK L zj = 1 ∨ lK L zj = 2 ∨ lK L zj = 3 ∨ lK L zj = 4 ∨ lK L zj = 5 by omega) with e9 | e9 | e9 | e9 | e9
  · exact qX11_ask_1 r t L cr ho p i y a f hw w zj zhj e9
  · exact qX11_ask_2 r t L cr ho p i y a f hw w zj zhj e9
  · exact qX11_ask_3 r t L cr ho p i y a f hw w zj zhj e9
  · exact qX11_ask_4 r t L cr ho p i y a f hw w zj zhj e9
  · exact qX11_ask_5 r t L cr ho p i y a f hw w zj zhj e9
set_option maxHeartbeats 4000000 in
set_option maxRecDepth 100000 in
theorem qX11_trace (r : zRw) (t : zTp) (L : zL) (cr ho : Nat → Nat) (p : zLk) (i : zLk × zLk) (y : zPy) (a : zAs) (f : Nat × Nat) (hw : zWf L) (ha : a.2.2.2.1 ≤ 16) (v : Int32) : zMi mX11_trace 2 ([.ref 0, .int v]) (hC (r, t, (L, cr, ho), p, i, y, a, f)) (fun z u => z = aTrc a v ∧ u = hC (r, t, (L, cr, ho), p, i, y, a, f)) := by
  refine zMi.of (by decide) (Nat.le_of_ble_eq_true rfl) (fun x hx hF => ?_)
  obtain ⟨w1, w2, w3, w4, w5⟩ := id hw
  refine z_aload_n hx dX11_trace_0 rfl ?_
  refine z_get hx dX11_trace_1 fX11_66 hC_0 rfl ?_
  refine z_iload_n hx dX11_trace_4 rfl ?_
  refine z_callivP hx [50, 51] (qX0_bodyAt a.1 a.2.1 a.2.2.1 a.2.2.2.1 a.2.2.2.2 ha v) dX11_trace_5 sX11_274 rfl rfl rfl rfl rfl (by decide) (by decide) rfl (Nat.le_of_ble_eq_true rfl) (by decide) ?_
  exact z_iret hx hF dX11_trace_8 rfl rfl ⟨rfl, rfl⟩

