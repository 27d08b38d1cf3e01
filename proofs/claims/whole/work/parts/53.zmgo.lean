set_option maxHeartbeats 4000000 in
set_option maxRecDepth 100000 in
theorem qX12_call (r : zMR) (t : zMT) (L : zL) (dr tr : Nat → Nat) (y : zMY) (a : zMA) (hw : zWf L) (hm : lM L ≤ 1000) (hf : ∀ q, q < lP L → lF L q ≤ 20) (v w : Int32) : zMi mX12_call 6 ([.ref 0, .int v, .int w]) (hM r t L dr tr y a) (fun z u => z = aCall L v w ∧ hMx r t L y a u) := by
  refine zMi.of (by decide) (Nat.le_of_ble_eq_true rfl) (fun x hx hF => ?_)
  obtain ⟨w1, w2, w3, w4, w5⟩ := id hw
  have hloop : ∀ (zj : Nat) (zhj : zj < lS L) (ze : Nat) (zhe : ze ≤ 1) (hF : zFi x (hM r t L dr tr y a).length (fun z u => z = aCall L (nI zj) (nI ze) ∧ hMx r t L y a u)) (n22 m : Nat) (tr : Nat → Nat) (e4 : Option Value), 41 - m = n22 → m ≤ 41 → (m ≤ 40 → zFs (zCk L zj) m (40 - m) = zFs (zCk L zj) 0 40) ∧ (40 < m → zFs (zCk L zj) 0 40 = none) → zV x 22 [some (.ref 0), some (.int (nI zj)), some (.int (nI ze)), some (.int (nI m)), e4] [] (hM r t L dr tr y a) := by
    intro zj zhj ze zhe hF n22
    have hnj : zNat (nI zj) = zj := zNat_nI (by omega)
    induction n22 using Nat.strongRecOn with
    | ind n22 ih =>
      intro m tr e4 hn hm1 hf1
      have hin : ∀ (n31 p : Nat) (tr : Nat → Nat), lP L - p = n31 → p ≤ lP L → m ≤ 40 → zFb (zCa L zj m) p = none → zV x 31 [some (.ref 0), some (.int (nI zj)), some (.int (nI ze)), some (.int (nI m)), some (.int (nI p))] [] (hM r t L dr tr y a) := by
        intro n31
        induction n31 using Nat.strongRecOn with
        | ind n31 ih2 =>
          intro p tr hn2 hp hm4 hz
          refine z_iload hx dX12_call_31 rfl ?_
          refine z_aload_n hx dX12_call_33 rfl ?_
          refine z_get hx dX12_call_34 fX12_25 rfl rfl ?_
          refine z_iconst (v := nI 3) hx dX12_call_37 (by decide) ?_
          refine z_ialdJ hx dX12_call_38 rfl (by decide) (by omega) ?_
          first | refine z_topN (fl_A L _) ?_ | refine z_topN (fl_F L _) ?_ | refine z_topN (fl_W L _) ?_ | refine z_topN (fl_T L _) ?_ | refine z_topN (fl_K L _) ?_ | refine z_topN (fl_0 L) ?_ | refine z_topN (fl_1 L) ?_ | refine z_topN (fl_2 L) ?_ | refine z_topN (fl_3 L) ?_
          first | refine z_icmp_geN (tgt := 110) hx dX12_call_39 (by decide) (by omega) (by omega) (fun zc39 => ?_) (fun zc39 => ?_) | refine z_icmp_ge (tgt := 110) hx dX12_call_39 (by decide) (fun zc39 => ?_) (fun zc39 => ?_)
          · skip
            first | refine z_iincN (z := 1) hx dX12_call_110 rfl rfl ?_ | refine z_iinc hx dX12_call_110 rfl rfl rfl ?_
            refine z_goto (tgt := 22) hx dX12_call_113 (by decide) ?_
            exact ih _ (by omega) (m + 1) _ _ rfl (by omega) ⟨fun h9 => by rw [← hf1.1 (by omega), show 40 - m = (40 - (m + 1)) + 1 by omega, zFs_f (fun z => z (by rw [show lP L = p by omega]; exact hz))], fun h9 => by rw [← hf1.1 (by omega), show 40 - m = 0 by omega, zFs_0 (fun z => z (by rw [show lP L = p by omega]; exact hz))]⟩
          · skip
            have hfp := hf p (by omega)
            have w6 := w5 p (by omega)
            have hwF : zWf (lsF L p (lF L p + m)) := zWf_F hw (by omega)
            have htn := tN_eq (a := zj) (x := zTr (lsF L p (lF L p + m)) 0) (by omega) (fun j9 h9 => by have h8 := zTr_lt h9; have h7 : lS (lsF L p (lF L p + m)) = lS L := rfl; omega)
            refine z_aload_n hx dX12_call_42 rfl ?_
            refine z_get hx dX12_call_43 fX12_25 rfl rfl ?_
            refine z_iconst (v := nI 4) hx dX12_call_46 (by decide) ?_
            refine z_iconst (v := nI 5) hx dX12_call_47 (by decide) ?_
            refine z_iload hx dX12_call_48 rfl ?_
            first | refine z_imulN hx dX12_call_50 ?_ | refine z_imul hx dX12_call_50 ?_
            first | refine z_iaddN hx dX12_call_51 ?_ | refine z_iadd hx dX12_call_51 ?_
            refine z_iconst (v := nI 1) hx dX12_call_52 (by decide) ?_
            first | refine z_iaddN hx dX12_call_53 ?_ | refine z_iadd hx dX12_call_53 ?_
            refine z_ialdJ hx dX12_call_54 rfl (by decide) (by omega) ?_
            first | refine z_topN (fl_A L _) ?_ | refine z_topN (fl_F L _) ?_ | refine z_topN (fl_W L _) ?_ | refine z_topN (fl_T L _) ?_ | refine z_topN (fl_K L _) ?_ | refine z_topN (fl_0 L) ?_ | refine z_topN (fl_1 L) ?_ | refine z_topN (fl_2 L) ?_ | refine z_topN (fl_3 L) ?_
            refine z_iload_n hx dX12_call_55 rfl ?_
            refine z_icmp_neN (tgt := 104) hx dX12_call_56 (by decide) (by omega) (by omega) (fun zc56 => ?_) (fun zc56 => ?_)
            · skip
              first | refine z_iincN (z := 1) hx dX12_call_104 rfl rfl ?_ | refine z_iinc hx dX12_call_104 rfl rfl rfl ?_
              refine z_goto (tgt := 31) hx dX12_call_107 (by decide) ?_
              first | exact ih2 _ (by omega) (p + 1) _ rfl (by omega) hm4 (zFb_no hz (fun e => zc56 e.1)) | exact ih2 _ (by omega) (p + 1) _ rfl (by omega) hm4 (zFb_no hz (fun e => zc90 (htn.mpr e.2).symm))
            · skip
              refine z_aload_n hx dX12_call_59 rfl ?_
              refine z_iconst (v := nI 0) hx dX12_call_60 (by decide) ?_
              refine z_callvvF hx (qX12_tries r t L dr tr y a hw hm 0 (by decide)) dX12_call_61 sX12_190 rfl rfl rfl rfl (Nat.le_of_ble_eq_true rfl) rfl (Nat.le_of_ble_eq_true rfl) (by decide) ?_
              refine z_heap (show _ = hM r t L dr (fl L) y a from rfl) ?_
              refine z_aload_n hx dX12_call_64 rfl ?_
              refine z_get hx dX12_call_65 fX12_31 rfl rfl ?_
              refine z_iconst (v := nI 4) hx dX12_call_68 (by decide) ?_
              refine z_iconst (v := nI 5) hx dX12_call_69 (by decide) ?_
              refine z_iload hx dX12_call_70 rfl ?_
              first | refine z_imulN hx dX12_call_72 ?_ | refine z_imul hx dX12_call_72 ?_
              first | refine z_iaddN hx dX12_call_73 ?_ | refine z_iadd hx dX12_call_73 ?_
              refine z_iconst (v := nI 2) hx dX12_call_74 (by decide) ?_
              first | refine z_iaddN hx dX12_call_75 ?_ | refine z_iadd hx dX12_call_75 ?_
              refine z_dup2 hx dX12_call_76 rfl rfl ?_
              refine z_ialdJ hx dX12_call_77 rfl (by decide) (by omega) ?_
              first | refine z_topN (fl_A L _) ?_ | refine z_topN (fl_F L _) ?_ | refine z_topN (fl_W L _) ?_ | refine z_topN (fl_T L _) ?_ | refine z_topN (fl_K L _) ?_ | refine z_topN (fl_0 L) ?_ | refine z_topN (fl_1 L) ?_ | refine z_topN (fl_2 L) ?_ | refine z_topN (fl_3 L) ?_
              skip
              refine z_iload_n hx dX12_call_78 rfl ?_
              first | refine z_iaddN hx dX12_call_79 ?_ | refine z_iadd hx dX12_call_79 ?_
              refine z_iastN hx dX12_call_80 rfl (by decide) (by omega) ?_
              refine z_heap (show _ = hM r t L dr (fl (lsF L p (lF L p + m))) y a by rw [← fl_sF]; rfl) ?_
              refine z_aload_n hx dX12_call_81 rfl ?_
              refine z_get hx dX12_call_82 fX12_31 rfl rfl ?_
              refine z_iconst (v := nI 0) hx dX12_call_85 (by decide) ?_
              refine z_callisP hx [8] (qX12_tramBy (lsF L p (lF L p + m)) hwF 0 (by decide)) dX12_call_86 sX12_160 rfl rfl rfl (by decide) (by decide) rfl (Nat.le_of_ble_eq_true rfl) (by decide) ?_
              refine z_iload_n hx dX12_call_89 rfl ?_
              refine z_icmp_ne (tgt := 104) hx dX12_call_90 (by decide) (fun zc90 => ?_) (fun zc90 => ?_)
              · skip
                first | refine z_iincN (z := 1) hx dX12_call_104 rfl rfl ?_ | refine z_iinc hx dX12_call_104 rfl rfl rfl ?_
                refine z_goto (tgt := 31) hx dX12_call_107 (by decide) ?_
                first | exact ih2 _ (by omega) (p + 1) _ rfl (by omega) hm4 (zFb_no hz (fun e => zc56 e.1)) | exact ih2 _ (by omega) (p + 1) _ rfl (by omega) hm4 (zFb_no hz (fun e => zc90 (htn.mpr e.2).symm))
              · skip
                have hca : zCa L zj m p := ⟨zc56, htn.mp zc90.symm⟩
                have hfb : zFb (zCa L zj m) (lP L) = some p := zFb_yes2 hz hca (by omega)
                have hs9 : zFs (zCk L zj) 0 40 = some m := by rw [← hf1.1 (by omega)]; exact zFs_t (fun z => by rw [hfb] at z; cases z)
                refine z_iload_n hx dX12_call_93 rfl ?_
                first | refine z_if_neB (tgt := 101) hx dX12_call_94 (by decide) (fun zc94 => ?_) (fun zc94 => ?_) | refine z_if_neN (tgt := 101) hx dX12_call_94 (by decide) (by omega) (fun zc94 => ?_) (fun zc94 => ?_) | refine z_if_ne (tgt := 101) hx dX12_call_94 (by decide) (fun zc94 => ?_) (fun zc94 => ?_)
                · skip
                  refine z_iload hx dX12_call_101 rfl ?_
                  exact z_iret hx hF dX12_call_103 rfl rfl ⟨by unfold aCall; first | rw [zII_t ⟨⟨zj, zhj, rfl⟩, ⟨ze, Nat.zero_le _, zhe, rfl⟩⟩, hnj, zCl_s hs9, if_pos (by rw [show ze = 0 by omega])] | (rw [zII_t ⟨⟨zj, zhj, rfl⟩, ⟨ze, Nat.zero_le _, zhe, rfl⟩⟩, hnj, zCl_s hs9, if_neg (nI_ne (by omega) (by omega) (by omega)), hfb]; rfl) | exact zzz_open, hMx_i _ _ _ _ _ _ _⟩
                · skip
                  refine z_iload_n hx dX12_call_97 rfl ?_
                  refine z_goto (tgt := 103) hx dX12_call_98 (by decide) ?_
                  exact z_iret hx hF dX12_call_103 rfl rfl ⟨by unfold aCall; first | rw [zII_t ⟨⟨zj, zhj, rfl⟩, ⟨ze, Nat.zero_le _, zhe, rfl⟩⟩, hnj, zCl_s hs9, if_pos (by rw [show ze = 0 by omega])] | (rw [zII_t ⟨⟨zj, zhj, rfl⟩, ⟨ze, Nat.zero_le _, zhe, rfl⟩⟩, hnj, zCl_s hs9, if_neg (nI_ne (by omega) (by omega) (by omega)), hfb]; rfl) | exact zzz_open, hMx_i _ _ _ _ _ _ _⟩
      refine z_iload_n hx dX12_call_22 rfl ?_
      refine z_bipush (v := nI 41) hx dX12_call_23 (by decide) ?_
      first | refine z_icmp_geN (tgt := 116) hx dX12_call_25 (by decide) (by omega) (by omega) (fun zc25 => ?_) (fun zc25 => ?_) | refine z_icmp_ge (tgt := 116) hx dX12_call_25 (by decide) (fun zc25 => ?_) (fun zc25 => ?_)
      · skip
        refine z_ldc hx dX12_call_116 kX12_47 ?_
        exact z_iret hx hF dX12_call_118 rfl rfl ⟨by unfold aCall; rw [zII_t ⟨⟨zj, zhj, rfl⟩, ⟨ze, Nat.zero_le _, zhe, rfl⟩⟩, hnj, zCl_n (hf1.2 (by omega))], hMx_i _ _ _ _ _ _ _⟩
      · skip
        refine z_iconst (v := nI 0) hx dX12_call_28 (by decide) ?_
        refine z_istore hx dX12_call_29 (Nat.le_of_ble_eq_true rfl) rfl ?_
        exact hin _ 0 _ rfl (Nat.zero_le _) (by omega) rfl
  refine z_aload_n hx dX12_call_0 rfl ?_
  refine z_iload_n hx dX12_call_1 rfl ?_
  refine z_callivF hx (qX12_isStop r t L dr tr y a hw _) dX12_call_2 sX12_181 rfl rfl rfl rfl (Nat.le_of_ble_eq_true rfl) rfl (Nat.le_of_ble_eq_true rfl) (by decide) ?_
  first | refine z_if_eqB (tgt := 17) hx dX12_call_5 (by decide) (fun zc5 => ?_) (fun zc5 => ?_) | refine z_if_eqN (tgt := 17) hx dX12_call_5 (by decide) (by omega) (fun zc5 => ?_) (fun zc5 => ?_) | refine z_if_eq (tgt := 17) hx dX12_call_5 (by decide) (fun zc5 => ?_) (fun zc5 => ?_)
  · skip
    refine z_ldc hx dX12_call_17 kX12_61 ?_
    exact z_iret hx hF dX12_call_19 rfl rfl ⟨by unfold aCall; first | rw [zII_f (fun h => zc5 h.1)] | rw [zII_f (fun h => zc14 h.2)] | exact zzz_open, hMx_i _ _ _ _ _ _ _⟩
  · skip
    obtain ⟨zj, zhj, rfl⟩ := zc5
    refine z_iload_n hx dX12_call_8 rfl ?_
    refine z_iconst (v := nI 0) hx dX12_call_9 (by decide) ?_
    refine z_iconst (v := nI 1) hx dX12_call_10 (by decide) ?_
    refine z_callisP hx [] (qX12_inN _ _ _ (by decide)) dX12_call_11 sX12_53 rfl rfl rfl (by decide) (by decide) rfl (Nat.le_of_ble_eq_true rfl) (by decide) ?_
    first | refine z_if_neB (tgt := 20) hx dX12_call_14 (by decide) (fun zc14 => ?_) (fun zc14 => ?_) | refine z_if_neN (tgt := 20) hx dX12_call_14 (by decide) (by omega) (fun zc14 => ?_) (fun zc14 => ?_) | refine z_if_ne (tgt := 20) hx dX12_call_14 (by decide) (fun zc14 => ?_) (fun zc14 => ?_)
    · skip
      obtain ⟨ze, -, zhe, rfl⟩ := zc14
      refine z_iconst (v := nI 0) hx dX12_call_20 (by decide) ?_
      refine z_istore_n hx dX12_call_21 (Nat.le_of_ble_eq_true rfl) rfl ?_
      exact hloop zj zhj ze zhe hF _ 0 tr _ rfl (by omega) ⟨fun _ => rfl, fun h => absurd h (by omega)⟩
    · skip
      refine z_ldc hx dX12_call_17 kX12_61 ?_
      exact z_iret hx hF dX12_call_19 rfl rfl ⟨by unfold aCall; first | rw [zII_f (fun h => zc5 h.1)] | rw [zII_f (fun h => zc14 h.2)] | exact zzz_open, hMx_i _ _ _ _ _ _ _⟩

theorem lsT_self (L : zL) (q : Nat) : lsT L q (lT L q) = L := by
  show (L.1, lK L, lA L, lF L, lW L, zup (lT L) q (lT L q)) = L
  rw [show zup (lT L) q (lT L q) = lT L by funext j; unfold zup; split <;> simp [*]]
  rfl
theorem lsA_self (L : zL) (q : Nat) : lsA L q (lA L q) = L := by
  show (L.1, lK L, zup (lA L) q (lA L q), lF L, lW L, lT L) = L
  rw [show zup (lA L) q (lA L q) = lA L by funext j; unfold zup; split <;> simp [*]]
  rfl
theorem zGz_n {L : zL} {q k : Nat} (h : k = lW L q) : zGz L q k = none := by unfold zGz; rw [if_pos h]
theorem zGz_m {L : zL} {q k : Nat} (h : ¬ k = lW L q) : zGz L q k = zFs (zAl (lsA (lsT L q (if k = lA L q then lT L q else 0)) q k) 0 (2 ^ q)) 0 60 := by
  unfold zGz
  rw [if_neg h]
  by_cases h2 : k = lA L q
  · subst h2
    rw [if_pos rfl, if_pos rfl, lsT_self, lsA_self]
  · rw [if_neg h2, if_neg h2]; rfl
theorem zWf_go {L : zL} (hw : zWf L) {q k : Nat} (hk : k < lS L) (hq : q < lP L) : zWf (lsA (lsT L q (if k = lA L q then lT L q else 0)) q k) := by
  by_cases h2 : k = lA L q
  · subst h2
    rw [if_pos rfl, lsT_self, lsA_self]; exact hw
  · rw [if_neg h2]; exact zWf_mv hw hk
set_option maxHeartbeats 4000000 in
set_option maxRecDepth 100000 in
theorem qX12_go (r : zMR) (t : zMT) (L : zL) (dr tr : Nat → Nat) (y : zMY) (a : zMA) (hw : zWf L) (hm : lM L ≤ 1000) (v w : Int32) : zMi mX12_go 6 ([.ref 0, .int v, .int w]) (hM r t L dr tr y a) (fun z u => z = aGo L v w ∧ hMx r t L y a u) := by
  refine zMi.of (by decide) (Nat.le_of_ble_eq_true rfl) (fun x hx hF => ?_)
  obtain ⟨w1, w2, w3, w4, w5⟩ := id hw
  have hloop : ∀ (zj : Nat) (zhj : zj < lP L) (ze : Nat) (zhe : ze ≤ 1) (hF : zFi x (hM r t L dr tr y a).length (fun z u => z = aGo L (nI zj) (nI ze) ∧ hMx r t L y a u)) (n37 k : Nat) (tr : Nat → Nat) (e7 e8 : Option Value), lS L - k = n37 → k ≤ lS L → zV x 37 [some (.ref 0), some (.int (nI zj)), some (.int (nI ze)), some (.int (nI (4 + 5 * zj))), some (.int (tN (zGo L zj k).1)), some (.int (tN (zGo L zj k).2)), some (.int (nI k)), e7, e8] [] (hM r t L dr tr y a) := by
    intro zj zhj ze zhe hF n37
    have hnj : zNat (nI zj) = zj := zNat_nI (by omega)
    have w6 := w5 zj zhj
    have h2p : 2 ^ zj ≤ 2 ^ 5 := Nat.pow_le_pow_right (by decide) (by omega)
    induction n37 using Nat.strongRecOn with
    | ind n37 ih =>
      intro k tr e7 e8 hn hk
      refine z_iload hx dX12_go_37 rfl ?_
      refine z_aload_n hx dX12_go_39 rfl ?_
      refine z_get hx dX12_go_40 fX12_25 rfl rfl ?_
      refine z_iconst (v := nI 0) hx dX12_go_43 (by decide) ?_
      refine z_ialdJ hx dX12_go_44 rfl (by decide) (by omega) ?_
      refine z_topN (fl_0 L) ?_
      refine z_icmp_geN (tgt := 183) hx dX12_go_45 (by decide) (by omega) (by omega) (fun zc45 => ?_) (fun zc45 => ?_)
      · skip
        refine z_iload_n hx dX12_go_183 rfl ?_
        first | refine z_if_neB (tgt := 192) hx dX12_go_184 (by decide) (fun zc184 => ?_) (fun zc184 => ?_) | refine z_if_neN (tgt := 192) hx dX12_go_184 (by decide) (by omega) (fun zc184 => ?_) (fun zc184 => ?_) | refine z_if_ne (tgt := 192) hx dX12_go_184 (by decide) (fun zc184 => ?_) (fun zc184 => ?_)
        · skip
          refine z_iload hx dX12_go_192 rfl ?_
          exact z_iret hx hF dX12_go_194 rfl rfl ⟨by unfold aGo; first | rw [zII_t ⟨⟨zj, zhj, rfl⟩, ⟨ze, Nat.zero_le _, zhe, rfl⟩⟩, hnj, show lS L = k by omega, if_pos (by rw [show ze = 0 by omega])] | rw [zII_t ⟨⟨zj, zhj, rfl⟩, ⟨ze, Nat.zero_le _, zhe, rfl⟩⟩, hnj, show lS L = k by omega, if_neg (nI_ne (by omega) (by omega) (by omega))] | exact zzz_open, hMx_i _ _ _ _ _ _ _⟩
        · skip
          refine z_iload hx dX12_go_187 rfl ?_
          refine z_goto (tgt := 194) hx dX12_go_189 (by decide) ?_
          exact z_iret hx hF dX12_go_194 rfl rfl ⟨by unfold aGo; first | rw [zII_t ⟨⟨zj, zhj, rfl⟩, ⟨ze, Nat.zero_le _, zhe, rfl⟩⟩, hnj, show lS L = k by omega, if_pos (by rw [show ze = 0 by omega])] | rw [zII_t ⟨⟨zj, zhj, rfl⟩, ⟨ze, Nat.zero_le _, zhe, rfl⟩⟩, hnj, show lS L = k by omega, if_neg (nI_ne (by omega) (by omega) (by omega))] | exact zzz_open, hMx_i _ _ _ _ _ _ _⟩
      · skip
        refine z_iload hx dX12_go_48 rfl ?_
        refine z_aload_n hx dX12_go_50 rfl ?_
        refine z_get hx dX12_go_51 fX12_25 rfl rfl ?_
        refine z_iload_n hx dX12_go_54 rfl ?_
        refine z_iconst (v := nI 3) hx dX12_go_55 (by decide) ?_
        first | refine z_iaddN hx dX12_go_56 ?_ | refine z_iadd hx dX12_go_56 ?_
        refine z_ialdJ hx dX12_go_57 rfl (by decide) (by omega) ?_
        refine z_topN (fl_W L zj) ?_
        refine z_icmp_eqN (tgt := 177) hx dX12_go_58 (by decide) (by omega) (by omega) (fun zc58 => ?_) (fun zc58 => ?_)
        · skip
          first | refine z_iincN (z := 1) hx dX12_go_177 rfl rfl ?_ | refine z_iinc hx dX12_go_177 rfl rfl rfl ?_
          refine z_goto (tgt := 37) hx dX12_go_180 (by decide) ?_
          first | exact absurd rfl zc125 | exact absurd zc125 (tN_ne (by omega)) | exact absurd rfl zc132 | exact absurd zc132 (tN_ne (by omega)) | (exfalso; omega) | exact z_eq (by rw [zGo_n (zGz_n zc58)] <;> rfl) rfl rfl (ih _ (by omega) (k + 1) _ _ _ rfl (by omega)) | exact z_eq (by rw [zGo_n hz9] <;> rfl) rfl rfl (ih _ (by omega) (k + 1) _ _ _ rfl (by omega)) | exact z_eq (by rw [zGo_t hz9 (by rw [hs9]; exact zLess_n)] <;> rfl) rfl rfl (ih _ (by omega) (k + 1) _ _ _ rfl (by omega)) | exact z_eq (by rw [zGo_t hz9 (by rw [hs9]; exact zLess_s (by omega))] <;> rfl) rfl rfl (ih _ (by omega) (k + 1) _ _ _ rfl (by omega)) | exact z_eq (by rw [zGo_f hz9 (by rw [hs9]; exact zLess_f (by omega)), hs9] <;> rfl) rfl rfl (ih _ (by omega) (k + 1) _ _ _ rfl (by omega)) | exact zzz_open
        · skip
          refine z_aload_n hx dX12_go_61 rfl ?_
          refine z_iconst (v := nI 0) hx dX12_go_62 (by decide) ?_
          refine z_callvvF hx (qX12_tries r t L dr tr y a hw hm 0 (by decide)) dX12_go_63 sX12_190 rfl rfl rfl rfl (Nat.le_of_ble_eq_true rfl) rfl (Nat.le_of_ble_eq_true rfl) (by decide) ?_
          refine z_heap (show _ = hM r t L dr (fl L) y a from rfl) ?_
          refine z_aload_n hx dX12_go_66 rfl ?_
          refine z_get hx dX12_go_67 fX12_31 rfl rfl ?_
          refine z_iload_n hx dX12_go_70 rfl ?_
          refine z_iconst (v := nI 4) hx dX12_go_71 (by decide) ?_
          first | refine z_iaddN hx dX12_go_72 ?_ | refine z_iadd hx dX12_go_72 ?_
          refine z_iload hx dX12_go_73 rfl ?_
          refine z_aload_n hx dX12_go_75 rfl ?_
          refine z_get hx dX12_go_76 fX12_25 rfl rfl ?_
          refine z_iload_n hx dX12_go_79 rfl ?_
          refine z_iconst (v := nI 1) hx dX12_go_80 (by decide) ?_
          first | refine z_iaddN hx dX12_go_81 ?_ | refine z_iadd hx dX12_go_81 ?_
          refine z_ialdJ hx dX12_go_82 rfl (by decide) (by omega) ?_
          refine z_topN (fl_A L zj) ?_
          refine z_icmp_neN (tgt := 97) hx dX12_go_83 (by decide) (by omega) (by omega) (fun zc83 => ?_) (fun zc83 => ?_)
          · skip
            refine z_iconst (v := nI 0) hx dX12_go_97 (by decide) ?_
            refine z_topN (b := (if k = lA L zj then lT L zj else 0)) (by first | rw [if_pos zc83] | rw [if_neg zc83]) ?_
            refine z_iastN hx dX12_go_98 rfl (by decide) (by omega) ?_
            refine z_heap (show _ = hM r t L dr (fl (lsT L zj (if k = lA L zj then lT L zj else 0))) y a by rw [← fl_sT]; rfl) ?_
            refine z_aload_n hx dX12_go_99 rfl ?_
            refine z_get hx dX12_go_100 fX12_31 rfl rfl ?_
            refine z_iload_n hx dX12_go_103 rfl ?_
            refine z_iconst (v := nI 1) hx dX12_go_104 (by decide) ?_
            first | refine z_iaddN hx dX12_go_105 ?_ | refine z_iadd hx dX12_go_105 ?_
            refine z_iload hx dX12_go_106 rfl ?_
            refine z_iastN hx dX12_go_108 rfl (by decide) (by omega) ?_
            refine z_heap (show _ = hM r t L dr (fl (lsA (lsT L zj (if k = lA L zj then lT L zj else 0)) zj k)) y a by rw [← fl_sA]; rfl) ?_
            refine z_aload_n hx dX12_go_109 rfl ?_
            refine z_iconst (v := nI 1) hx dX12_go_110 (by decide) ?_
            refine z_iload_n hx dX12_go_111 rfl ?_
            first | refine z_ishl1 hx dX12_go_112 (by omega) ?_ | refine z_ishlN hx dX12_go_112 (by omega) ?_ | refine z_ishl hx dX12_go_112 ?_
            refine z_bipush (v := nI 60) hx dX12_go_113 (by decide) ?_
            refine z_iconst (v := nI 0) hx dX12_go_115 (by decide) ?_
            refine z_callivG hx (qX12_behind r t L dr y a (lsA (lsT L zj (if k = lA L zj then lT L zj else 0)) zj k) (zWf_go hw (by omega) zhj) hm (2 ^ zj) 60 0 (by omega) (by omega) (by omega)) dX12_go_116 sX12_194 rfl rfl rfl rfl (Nat.le_of_ble_eq_true rfl) rfl (Nat.le_of_ble_eq_true rfl) (by decide) (fun r116 u116 l116 q116 => ?_)
            obtain ⟨rfl, tr9, rfl⟩ := q116
            rw [← zGz_m zc58]
            refine z_istore hx dX12_go_119 (Nat.le_of_ble_eq_true rfl) rfl ?_
            rcases hz9 : zGz L zj k with _ | d9
            · skip
              skip
              refine z_iload hx dX12_go_121 rfl ?_
              refine z_ldc hx dX12_go_123 kX12_47 ?_
              refine z_icmp_eq (tgt := 146) hx dX12_go_125 (by decide) (fun zc125 => ?_) (fun zc125 => ?_)
              · skip
                refine z_iconst (v := nI 0) hx dX12_go_146 (by decide) ?_
                refine z_istore hx dX12_go_147 (Nat.le_of_ble_eq_true rfl) rfl ?_
                refine z_iload hx dX12_go_149 rfl ?_
                refine z_if_eqN (tgt := 159) hx dX12_go_151 (by decide) (by omega) (fun zc151 => ?_) (fun zc151 => ?_)
                · skip
                  refine z_iload hx dX12_go_159 rfl ?_
                  refine z_istore hx dX12_go_161 (Nat.le_of_ble_eq_true rfl) rfl ?_
                  refine z_iload hx dX12_go_163 rfl ?_
                  refine z_if_eqN (tgt := 173) hx dX12_go_165 (by decide) (by omega) (fun zc165 => ?_) (fun zc165 => ?_)
                  · skip
                    refine z_iload hx dX12_go_173 rfl ?_
                    refine z_istore hx dX12_go_175 (Nat.le_of_ble_eq_true rfl) rfl ?_
                    first | refine z_iincN (z := 1) hx dX12_go_177 rfl rfl ?_ | refine z_iinc hx dX12_go_177 rfl rfl rfl ?_
                    refine z_goto (tgt := 37) hx dX12_go_180 (by decide) ?_
                    first | exact absurd rfl zc125 | exact absurd zc125 (tN_ne (by omega)) | exact absurd rfl zc132 | exact absurd zc132 (tN_ne (by omega)) | (exfalso; omega) | exact z_eq (by rw [zGo_n (zGz_n zc58)] <;> rfl) rfl rfl (ih _ (by omega) (k + 1) _ _ _ rfl (by omega)) | exact z_eq (by rw [zGo_n hz9] <;> rfl) rfl rfl (ih _ (by omega) (k + 1) _ _ _ rfl (by omega)) | exact z_eq (by rw [zGo_t hz9 (by rw [hs9]; exact zLess_n)] <;> rfl) rfl rfl (ih _ (by omega) (k + 1) _ _ _ rfl (by omega)) | exact z_eq (by rw [zGo_t hz9 (by rw [hs9]; exact zLess_s (by omega))] <;> rfl) rfl rfl (ih _ (by omega) (k + 1) _ _ _ rfl (by omega)) | exact z_eq (by rw [zGo_f hz9 (by rw [hs9]; exact zLess_f (by omega)), hs9] <;> rfl) rfl rfl (ih _ (by omega) (k + 1) _ _ _ rfl (by omega)) | exact zzz_open
                  · skip
                    refine z_iload hx dX12_go_168 rfl ?_
                    refine z_goto (tgt := 175) hx dX12_go_170 (by decide) ?_
                    refine z_istore hx dX12_go_175 (Nat.le_of_ble_eq_true rfl) rfl ?_
                    first | refine z_iincN (z := 1) hx dX12_go_177 rfl rfl ?_ | refine z_iinc hx dX12_go_177 rfl rfl rfl ?_
                    refine z_goto (tgt := 37) hx dX12_go_180 (by decide) ?_
                    first | exact absurd rfl zc125 | exact absurd zc125 (tN_ne (by omega)) | exact absurd rfl zc132 | exact absurd zc132 (tN_ne (by omega)) | (exfalso; omega) | exact z_eq (by rw [zGo_n (zGz_n zc58)] <;> rfl) rfl rfl (ih _ (by omega) (k + 1) _ _ _ rfl (by omega)) | exact z_eq (by rw [zGo_n hz9] <;> rfl) rfl rfl (ih _ (by omega) (k + 1) _ _ _ rfl (by omega)) | exact z_eq (by rw [zGo_t hz9 (by rw [hs9]; exact zLess_n)] <;> rfl) rfl rfl (ih _ (by omega) (k + 1) _ _ _ rfl (by omega)) | exact z_eq (by rw [zGo_t hz9 (by rw [hs9]; exact zLess_s (by omega))] <;> rfl) rfl rfl (ih _ (by omega) (k + 1) _ _ _ rfl (by omega)) | exact z_eq (by rw [zGo_f hz9 (by rw [hs9]; exact zLess_f (by omega)), hs9] <;> rfl) rfl rfl (ih _ (by omega) (k + 1) _ _ _ rfl (by omega)) | exact zzz_open
                · skip
                  refine z_iload hx dX12_go_154 rfl ?_
                  refine z_goto (tgt := 161) hx dX12_go_156 (by decide) ?_
                  refine z_istore hx dX12_go_161 (Nat.le_of_ble_eq_true rfl) rfl ?_
                  refine z_iload hx dX12_go_163 rfl ?_
                  refine z_if_eqN (tgt := 173) hx dX12_go_165 (by decide) (by omega) (fun zc165 => ?_) (fun zc165 => ?_)
                  · skip
                    refine z_iload hx dX12_go_173 rfl ?_
                    refine z_istore hx dX12_go_175 (Nat.le_of_ble_eq_true rfl) rfl ?_
                    first | refine z_iincN (z := 1) hx dX12_go_177 rfl rfl ?_ | refine z_iinc hx dX12_go_177 rfl rfl rfl ?_
                    refine z_goto (tgt := 37) hx dX12_go_180 (by decide) ?_
                    first | exact absurd rfl zc125 | exact absurd zc125 (tN_ne (by omega)) | exact absurd rfl zc132 | exact absurd zc132 (tN_ne (by omega)) | (exfalso; omega) | exact z_eq (by rw [zGo_n (zGz_n zc58)] <;> rfl) rfl rfl (ih _ (by omega) (k + 1) _ _ _ rfl (by omega)) | exact z_eq (by rw [zGo_n hz9] <;> rfl) rfl rfl (ih _ (by omega) (k + 1) _ _ _ rfl (by omega)) | exact z_eq (by rw [zGo_t hz9 (by rw [hs9]; exact zLess_n)] <;> rfl) rfl rfl (ih _ (by omega) (k + 1) _ _ _ rfl (by omega)) | exact z_eq (by rw [zGo_t hz9 (by rw [hs9]; exact zLess_s (by omega))] <;> rfl) rfl rfl (ih _ (by omega) (k + 1) _ _ _ rfl (by omega)) | exact z_eq (by rw [zGo_f hz9 (by rw [hs9]; exact zLess_f (by omega)), hs9] <;> rfl) rfl rfl (ih _ (by omega) (k + 1) _ _ _ rfl (by omega)) | exact zzz_open
                  · skip
                    refine z_iload hx dX12_go_168 rfl ?_
                    refine z_goto (tgt := 175) hx dX12_go_170 (by decide) ?_
                    refine z_istore hx dX12_go_175 (Nat.le_of_ble_eq_true rfl) rfl ?_
                    first | refine z_iincN (z := 1) hx dX12_go_177 rfl rfl ?_ | refine z_iinc hx dX12_go_177 rfl rfl rfl ?_
                    refine z_goto (tgt := 37) hx dX12_go_180 (by decide) ?_
                    first | exact absurd rfl zc125 | exact absurd zc125 (tN_ne (by omega)) | exact absurd rfl zc132 | exact absurd zc132 (tN_ne (by omega)) | (exfalso; omega) | exact z_eq (by rw [zGo_n (zGz_n zc58)] <;> rfl) rfl rfl (ih _ (by omega) (k + 1) _ _ _ rfl (by omega)) | exact z_eq (by rw [zGo_n hz9] <;> rfl) rfl rfl (ih _ (by omega) (k + 1) _ _ _ rfl (by omega)) | exact z_eq (by rw [zGo_t hz9 (by rw [hs9]; exact zLess_n)] <;> rfl) rfl rfl (ih _ (by omega) (k + 1) _ _ _ rfl (by omega)) | exact z_eq (by rw [zGo_t hz9 (by rw [hs9]; exact zLess_s (by omega))] <;> rfl) rfl rfl (ih _ (by omega) (k + 1) _ _ _ rfl (by omega)) | exact z_eq (by rw [zGo_f hz9 (by rw [hs9]; exact zLess_f (by omega)), hs9] <;> rfl) rfl rfl (ih _ (by omega) (k + 1) _ _ _ rfl (by omega)) | exact zzz_open
              · skip
                rcases hs9 : (zGo L zj k).2 with _ | s9
                · skip
                  refine z_iload hx dX12_go_128 rfl ?_
                  refine z_ldc hx dX12_go_130 kX12_47 ?_
                  refine z_icmp_eq (tgt := 142) hx dX12_go_132 (by decide) (fun zc132 => ?_) (fun zc132 => ?_)
                  · skip
                    refine z_iconst (v := nI 1) hx dX12_go_142 (by decide) ?_
                    refine z_goto (tgt := 147) hx dX12_go_143 (by decide) ?_
                    refine z_istore hx dX12_go_147 (Nat.le_of_ble_eq_true rfl) rfl ?_
                    refine z_iload hx dX12_go_149 rfl ?_
                    refine z_if_eqN (tgt := 159) hx dX12_go_151 (by decide) (by omega) (fun zc151 => ?_) (fun zc151 => ?_)
                    · skip
                      refine z_iload hx dX12_go_159 rfl ?_
                      refine z_istore hx dX12_go_161 (Nat.le_of_ble_eq_true rfl) rfl ?_
                      refine z_iload hx dX12_go_163 rfl ?_
                      refine z_if_eqN (tgt := 173) hx dX12_go_165 (by decide) (by omega) (fun zc165 => ?_) (fun zc165 => ?_)
                      · skip
                        refine z_iload hx dX12_go_173 rfl ?_
                        refine z_istore hx dX12_go_175 (Nat.le_of_ble_eq_true rfl) rfl ?_
                        first | refine z_iincN (z := 1) hx dX12_go_177 rfl rfl ?_ | refine z_iinc hx dX12_go_177 rfl rfl rfl ?_
                        refine z_goto (tgt := 37) hx dX12_go_180 (by decide) ?_
                        first | exact absurd rfl zc125 | exact absurd zc125 (tN_ne (by omega)) | exact absurd rfl zc132 | exact absurd zc132 (tN_ne (by omega)) | (exfalso; omega) | exact z_eq (by rw [zGo_n (zGz_n zc58)] <;> rfl) rfl rfl (ih _ (by omega) (k + 1) _ _ _ rfl (by omega)) | exact z_eq (by rw [zGo_n hz9] <;> rfl) rfl rfl (ih _ (by omega) (k + 1) _ _ _ rfl (by omega)) | exact z_eq (by rw [zGo_t hz9 (by rw [hs9]; exact zLess_n)] <;> rfl) rfl rfl (ih _ (by omega) (k + 1) _ _ _ rfl (by omega)) | exact z_eq (by rw [zGo_t hz9 (by rw [hs9]; exact zLess_s (by omega))] <;> rfl) rfl rfl (ih _ (by omega) (k + 1) _ _ _ rfl (by omega)) | exact z_eq (by rw [zGo_f hz9 (by rw [hs9]; exact zLess_f (by omega)), hs9] <;> rfl) rfl rfl (ih _ (by omega) (k + 1) _ _ _ rfl (by omega)) | exact zzz_open
                      · skip
                        refine z_iload hx dX12_go_168 rfl ?_
                        refine z_goto (tgt := 175) hx dX12_go_170 (by decide) ?_
                        refine z_istore hx dX12_go_175 (Nat.le_of_ble_eq_true rfl) rfl ?_
                        first | refine z_iincN (z := 1) hx dX12_go_177 rfl rfl ?_ | refine z_iinc hx dX12_go_177 rfl rfl rfl ?_
                        refine z_goto (tgt := 37) hx dX12_go_180 (by decide) ?_
                        first | exact absurd rfl zc125 | exact absurd zc125 (tN_ne (by omega)) | exact absurd rfl zc132 | exact absurd zc132 (tN_ne (by omega)) | (exfalso; omega) | exact z_eq (by rw [zGo_n (zGz_n zc58)] <;> rfl) rfl rfl (ih _ (by omega) (k + 1) _ _ _ rfl (by omega)) | exact z_eq (by rw [zGo_n hz9] <;> rfl) rfl rfl (ih _ (by omega) (k + 1) _ _ _ rfl (by omega)) | exact z_eq (by rw [zGo_t hz9 (by rw [hs9]; exact zLess_n)] <;> rfl) rfl rfl (ih _ (by omega) (k + 1) _ _ _ rfl (by omega)) | exact z_eq (by rw [zGo_t hz9 (by rw [hs9]; exact zLess_s (by omega))] <;> rfl) rfl rfl (ih _ (by omega) (k + 1) _ _ _ rfl (by omega)) | exact z_eq (by rw [zGo_f hz9 (by rw [hs9]; exact zLess_f (by omega)), hs9] <;> rfl) rfl rfl (ih _ (by omega) (k + 1) _ _ _ rfl (by omega)) | exact zzz_open
                    · skip
                      refine z_iload hx dX12_go_154 rfl ?_
                      refine z_goto (tgt := 161) hx dX12_go_156 (by decide) ?_
                      refine z_istore hx dX12_go_161 (Nat.le_of_ble_eq_true rfl) rfl ?_
                      refine z_iload hx dX12_go_163 rfl ?_
                      refine z_if_eqN (tgt := 173) hx dX12_go_165 (by decide) (by omega) (fun zc165 => ?_) (fun zc165 => ?_)
                      · skip
                        refine z_iload hx dX12_go_173 rfl ?_
                        refine z_istore hx dX12_go_175 (Nat.le_of_ble_eq_true rfl) rfl ?_
                        first | refine z_iincN (z := 1) hx dX12_go_177 rfl rfl ?_ | refine z_iinc hx dX12_go_177 rfl rfl rfl ?_
                        refine z_goto (tgt := 37) hx dX12_go_180 (by decide) ?_
                        first | exact absurd rfl zc125 | exact absurd zc125 (tN_ne (by omega)) | exact absurd rfl zc132 | exact absurd zc132 (tN_ne (by omega)) | (exfalso; omega) | exact z_eq (by rw [zGo_n (zGz_n zc58)] <;> rfl) rfl rfl (ih _ (by omega) (k + 1) _ _ _ rfl (by omega)) | exact z_eq (by rw [zGo_n hz9] <;> rfl) rfl rfl (ih _ (by omega) (k + 1) _ _ _ rfl (by omega)) | exact z_eq (by rw [zGo_t hz9 (by rw [hs9]; exact zLess_n)] <;> rfl) rfl rfl (ih _ (by omega) (k + 1) _ _ _ rfl (by omega)) | exact z_eq (by rw [zGo_t hz9 (by rw [hs9]; exact zLess_s (by omega))] <;> rfl) rfl rfl (ih _ (by omega) (k + 1) _ _ _ rfl (by omega)) | exact z_eq (by rw [zGo_f hz9 (by rw [hs9]; exact zLess_f (by omega)), hs9] <;> rfl) rfl rfl (ih _ (by omega) (k + 1) _ _ _ rfl (by omega)) | exact zzz_open
                      · skip
                        refine z_iload hx dX12_go_168 rfl ?_
                        refine z_goto (tgt := 175) hx dX12_go_170 (by decide) ?_
                        refine z_istore hx dX12_go_175 (Nat.le_of_ble_eq_true rfl) rfl ?_
                        first | refine z_iincN (z := 1) hx dX12_go_177 rfl rfl ?_ | refine z_iinc hx dX12_go_177 rfl rfl rfl ?_
                        refine z_goto (tgt := 37) hx dX12_go_180 (by decide) ?_
                        first | exact absurd rfl zc125 | exact absurd zc125 (tN_ne (by omega)) | exact absurd rfl zc132 | exact absurd zc132 (tN_ne (by omega)) | (exfalso; omega) | exact z_eq (by rw [zGo_n (zGz_n zc58)] <;> rfl) rfl rfl (ih _ (by omega) (k + 1) _ _ _ rfl (by omega)) | exact z_eq (by rw [zGo_n hz9] <;> rfl) rfl rfl (ih _ (by omega) (k + 1) _ _ _ rfl (by omega)) | exact z_eq (by rw [zGo_t hz9 (by rw [hs9]; exact zLess_n)] <;> rfl) rfl rfl (ih _ (by omega) (k + 1) _ _ _ rfl (by omega)) | exact z_eq (by rw [zGo_t hz9 (by rw [hs9]; exact zLess_s (by omega))] <;> rfl) rfl rfl (ih _ (by omega) (k + 1) _ _ _ rfl (by omega)) | exact z_eq (by rw [zGo_f hz9 (by rw [hs9]; exact zLess_f (by omega)), hs9] <;> rfl) rfl rfl (ih _ (by omega) (k + 1) _ _ _ rfl (by omega)) | exact zzz_open
                  · skip
                    refine z_iload hx dX12_go_135 rfl ?_
                    refine z_iload hx dX12_go_137 rfl ?_
                    first | refine z_icmp_geN (tgt := 146) hx dX12_go_139 (by decide) (by omega) (by omega) (fun zc139 => ?_) (fun zc139 => ?_) | refine z_icmp_ge (tgt := 146) hx dX12_go_139 (by decide) (fun zc139 => ?_) (fun zc139 => ?_)
                    · skip
                      refine z_iconst (v := nI 0) hx dX12_go_146 (by decide) ?_
                      refine z_istore hx dX12_go_147 (Nat.le_of_ble_eq_true rfl) rfl ?_
                      refine z_iload hx dX12_go_149 rfl ?_
                      refine z_if_eqN (tgt := 159) hx dX12_go_151 (by decide) (by omega) (fun zc151 => ?_) (fun zc151 => ?_)
                      · skip
                        refine z_iload hx dX12_go_159 rfl ?_
                        refine z_istore hx dX12_go_161 (Nat.le_of_ble_eq_true rfl) rfl ?_
                        refine z_iload hx dX12_go_163 rfl ?_
                        refine z_if_eqN (tgt := 173) hx dX12_go_165 (by decide) (by omega) (fun zc165 => ?_) (fun zc165 => ?_)
                        · skip
                          refine z_iload hx dX12_go_173 rfl ?_
                          refine z_istore hx dX12_go_175 (Nat.le_of_ble_eq_true rfl) rfl ?_
                          first | refine z_iincN (z := 1) hx dX12_go_177 rfl rfl ?_ | refine z_iinc hx dX12_go_177 rfl rfl rfl ?_
                          refine z_goto (tgt := 37) hx dX12_go_180 (by decide) ?_
                          first | exact absurd rfl zc125 | exact absurd zc125 (tN_ne (by omega)) | exact absurd rfl zc132 | exact absurd zc132 (tN_ne (by omega)) | (exfalso; omega) | exact z_eq (by rw [zGo_n (zGz_n zc58)] <;> rfl) rfl rfl (ih _ (by omega) (k + 1) _ _ _ rfl (by omega)) | exact z_eq (by rw [zGo_n hz9] <;> rfl) rfl rfl (ih _ (by omega) (k + 1) _ _ _ rfl (by omega)) | exact z_eq (by rw [zGo_t hz9 (by rw [hs9]; exact zLess_n)] <;> rfl) rfl rfl (ih _ (by omega) (k + 1) _ _ _ rfl (by omega)) | exact z_eq (by rw [zGo_t hz9 (by rw [hs9]; exact zLess_s (by omega))] <;> rfl) rfl rfl (ih _ (by omega) (k + 1) _ _ _ rfl (by omega)) | exact z_eq (by rw [zGo_f hz9 (by rw [hs9]; exact zLess_f (by omega)), hs9] <;> rfl) rfl rfl (ih _ (by omega) (k + 1) _ _ _ rfl (by omega)) | exact zzz_open
                        · skip
                          refine z_iload hx dX12_go_168 rfl ?_
                          refine z_goto (tgt := 175) hx dX12_go_170 (by decide) ?_
                          refine z_istore hx dX12_go_175 (Nat.le_of_ble_eq_true rfl) rfl ?_
                          first | refine z_iincN (z := 1) hx dX12_go_177 rfl rfl ?_ | refine z_iinc hx dX12_go_177 rfl rfl rfl ?_
                          refine z_goto (tgt := 37) hx dX12_go_180 (by decide) ?_
                          first | exact absurd rfl zc125 | exact absurd zc125 (tN_ne (by omega)) | exact absurd rfl zc132 | exact absurd zc132 (tN_ne (by omega)) | (exfalso; omega) | exact z_eq (by rw [zGo_n (zGz_n zc58)] <;> rfl) rfl rfl (ih _ (by omega) (k + 1) _ _ _ rfl (by omega)) | exact z_eq (by rw [zGo_n hz9] <;> rfl) rfl rfl (ih _ (by omega) (k + 1) _ _ _ rfl (by omega)) | exact z_eq (by rw [zGo_t hz9 (by rw [hs9]; exact zLess_n)] <;> rfl) rfl rfl (ih _ (by omega) (k + 1) _ _ _ rfl (by omega)) | exact z_eq (by rw [zGo_t hz9 (by rw [hs9]; exact zLess_s (by omega))] <;> rfl) rfl rfl (ih _ (by omega) (k + 1) _ _ _ rfl (by omega)) | exact z_eq (by rw [zGo_f hz9 (by rw [hs9]; exact zLess_f (by omega)), hs9] <;> rfl) rfl rfl (ih _ (by omega) (k + 1) _ _ _ rfl (by omega)) | exact zzz_open
                      · skip
                        refine z_iload hx dX12_go_154 rfl ?_
                        refine z_goto (tgt := 161) hx dX12_go_156 (by decide) ?_
                        refine z_istore hx dX12_go_161 (Nat.le_of_ble_eq_true rfl) rfl ?_
                        refine z_iload hx dX12_go_163 rfl ?_
                        refine z_if_eqN (tgt := 173) hx dX12_go_165 (by decide) (by omega) (fun zc165 => ?_) (fun zc165 => ?_)
                        · skip
                          refine z_iload hx dX12_go_173 rfl ?_
                          refine z_istore hx dX12_go_175 (Nat.le_of_ble_eq_true rfl) rfl ?_
                          first | refine z_iincN (z := 1) hx dX12_go_177 rfl rfl ?_ | refine z_iinc hx dX12_go_177 rfl rfl rfl ?_
                          refine z_goto (tgt := 37) hx dX12_go_180 (by decide) ?_
                          first | exact absurd rfl zc125 | exact absurd zc125 (tN_ne (by omega)) | exact absurd rfl zc132 | exact absurd zc132 (tN_ne (by omega)) | (exfalso; omega) | exact z_eq (by rw [zGo_n (zGz_n zc58)] <;> rfl) rfl rfl (ih _ (by omega) (k + 1) _ _ _ rfl (by omega)) | exact z_eq (by rw [zGo_n hz9] <;> rfl) rfl rfl (ih _ (by omega) (k + 1) _ _ _ rfl (by omega)) | exact z_eq (by rw [zGo_t hz9 (by rw [hs9]; exact zLess_n)] <;> rfl) rfl rfl (ih _ (by omega) (k + 1) _ _ _ rfl (by omega)) | exact z_eq (by rw [zGo_t hz9 (by rw [hs9]; exact zLess_s (by omega))] <;> rfl) rfl rfl (ih _ (by omega) (k + 1) _ _ _ rfl (by omega)) | exact z_eq (by rw [zGo_f hz9 (by rw [hs9]; exact zLess_f (by omega)), hs9] <;> rfl) rfl rfl (ih _ (by omega) (k + 1) _ _ _ rfl (by omega)) | exact zzz_open
                        · skip
                          refine z_iload hx dX12_go_168 rfl ?_
                          refine z_goto (tgt := 175) hx dX12_go_170 (by decide) ?_
                          refine z_istore hx dX12_go_175 (Nat.le_of_ble_eq_true rfl) rfl ?_
                          first | refine z_iincN (z := 1) hx dX12_go_177 rfl rfl ?_ | refine z_iinc hx dX12_go_177 rfl rfl rfl ?_
                          refine z_goto (tgt := 37) hx dX12_go_180 (by decide) ?_
                          first | exact absurd rfl zc125 | exact absurd zc125 (tN_ne (by omega)) | exact absurd rfl zc132 | exact absurd zc132 (tN_ne (by omega)) | (exfalso; omega) | exact z_eq (by rw [zGo_n (zGz_n zc58)] <;> rfl) rfl rfl (ih _ (by omega) (k + 1) _ _ _ rfl (by omega)) | exact z_eq (by rw [zGo_n hz9] <;> rfl) rfl rfl (ih _ (by omega) (k + 1) _ _ _ rfl (by omega)) | exact z_eq (by rw [zGo_t hz9 (by rw [hs9]; exact zLess_n)] <;> rfl) rfl rfl (ih _ (by omega) (k + 1) _ _ _ rfl (by omega)) | exact z_eq (by rw [zGo_t hz9 (by rw [hs9]; exact zLess_s (by omega))] <;> rfl) rfl rfl (ih _ (by omega) (k + 1) _ _ _ rfl (by omega)) | exact z_eq (by rw [zGo_f hz9 (by rw [hs9]; exact zLess_f (by omega)), hs9] <;> rfl) rfl rfl (ih _ (by omega) (k + 1) _ _ _ rfl (by omega)) | exact zzz_open
                    · skip
                      refine z_iconst (v := nI 1) hx dX12_go_142 (by decide) ?_
                      refine z_goto (tgt := 147) hx dX12_go_143 (by decide) ?_
                      refine z_istore hx dX12_go_147 (Nat.le_of_ble_eq_true rfl) rfl ?_
                      refine z_iload hx dX12_go_149 rfl ?_
                      refine z_if_eqN (tgt := 159) hx dX12_go_151 (by decide) (by omega) (fun zc151 => ?_) (fun zc151 => ?_)
                      · skip
                        refine z_iload hx dX12_go_159 rfl ?_
                        refine z_istore hx dX12_go_161 (Nat.le_of_ble_eq_true rfl) rfl ?_
                        refine z_iload hx dX12_go_163 rfl ?_
                        refine z_if_eqN (tgt := 173) hx dX12_go_165 (by decide) (by omega) (fun zc165 => ?_) (fun zc165 => ?_)
                        · skip
                          refine z_iload hx dX12_go_173 rfl ?_
                          refine z_istore hx dX12_go_175 (Nat.le_of_ble_eq_true rfl) rfl ?_
                          first | refine z_iincN (z := 1) hx dX12_go_177 rfl rfl ?_ | refine z_iinc hx dX12_go_177 rfl rfl rfl ?_
                          refine z_goto (tgt := 37) hx dX12_go_180 (by decide) ?_
                          first | exact absurd rfl zc125 | exact absurd zc125 (tN_ne (by omega)) | exact absurd rfl zc132 | exact absurd zc132 (tN_ne (by omega)) | (exfalso; omega) | exact z_eq (by rw [zGo_n (zGz_n zc58)] <;> rfl) rfl rfl (ih _ (by omega) (k + 1) _ _ _ rfl (by omega)) | exact z_eq (by rw [zGo_n hz9] <;> rfl) rfl rfl (ih _ (by omega) (k + 1) _ _ _ rfl (by omega)) | exact z_eq (by rw [zGo_t hz9 (by rw [hs9]; exact zLess_n)] <;> rfl) rfl rfl (ih _ (by omega) (k + 1) _ _ _ rfl (by omega)) | exact z_eq (by rw [zGo_t hz9 (by rw [hs9]; exact zLess_s (by omega))] <;> rfl) rfl rfl (ih _ (by omega) (k + 1) _ _ _ rfl (by omega)) | exact z_eq (by rw [zGo_f hz9 (by rw [hs9]; exact zLess_f (by omega)), hs9] <;> rfl) rfl rfl (ih _ (by omega) (k + 1) _ _ _ rfl (by omega)) | exact zzz_open
                        · skip
                          refine z_iload hx dX12_go_168 rfl ?_
                          refine z_goto (tgt := 175) hx dX12_go_170 (by decide) ?_
                          refine z_istore hx dX12_go_175 (Nat.le_of_ble_eq_true rfl) rfl ?_
                          first | refine z_iincN (z := 1) hx dX12_go_177 rfl rfl ?_ | refine z_iinc hx dX12_go_177 rfl rfl rfl ?_
                          refine z_goto (tgt := 37) hx dX12_go_180 (by decide) ?_
                          first | exact absurd rfl zc125 | exact absurd zc125 (tN_ne (by omega)) | exact absurd rfl zc132 | exact absurd zc132 (tN_ne (by omega)) | (exfalso; omega) | exact z_eq (by rw [zGo_n (zGz_n zc58)] <;> rfl) rfl rfl (ih _ (by omega) (k + 1) _ _ _ rfl (by omega)) | exact z_eq (by rw [zGo_n hz9] <;> rfl) rfl rfl (ih _ (by omega) (k + 1) _ _ _ rfl (by omega)) | exact z_eq (by rw [zGo_t hz9 (by rw [hs9]; exact zLess_n)] <;> rfl) rfl rfl (ih _ (by omega) (k + 1) _ _ _ rfl (by omega)) | exact z_eq (by rw [zGo_t hz9 (by rw [hs9]; exact zLess_s (by omega))] <;> rfl) rfl rfl (ih _ (by omega) (k + 1) _ _ _ rfl (by omega)) | exact z_eq (by rw [zGo_f hz9 (by rw [hs9]; exact zLess_f (by omega)), hs9] <;> rfl) rfl rfl (ih _ (by omega) (k + 1) _ _ _ rfl (by omega)) | exact zzz_open
                      · skip
                        refine z_iload hx dX12_go_154 rfl ?_
                        refine z_goto (tgt := 161) hx dX12_go_156 (by decide) ?_
                        refine z_istore hx dX12_go_161 (Nat.le_of_ble_eq_true rfl) rfl ?_
                        refine z_iload hx dX12_go_163 rfl ?_
                        refine z_if_eqN (tgt := 173) hx dX12_go_165 (by decide) (by omega) (fun zc165 => ?_) (fun zc165 => ?_)
                        · skip
                          refine z_iload hx dX12_go_173 rfl ?_
                          refine z_istore hx dX12_go_175 (Nat.le_of_ble_eq_true rfl) rfl ?_
                          first | refine z_iincN (z := 1) hx dX12_go_177 rfl rfl ?_ | refine z_iinc hx dX12_go_177 rfl rfl rfl ?_
                          refine z_goto (tgt := 37) hx dX12_go_180 (by decide) ?_
                          first | exact absurd rfl zc125 | exact absurd zc125 (tN_ne (by omega)) | exact absurd rfl zc132 | exact absurd zc132 (tN_ne (by omega)) | (exfalso; omega) | exact z_eq (by rw [zGo_n (zGz_n zc58)] <;> rfl) rfl rfl (ih _ (by omega) (k + 1) _ _ _ rfl (by omega)) | exact z_eq (by rw [zGo_n hz9] <;> rfl) rfl rfl (ih _ (by omega) (k + 1) _ _ _ rfl (by omega)) | exact z_eq (by rw [zGo_t hz9 (by rw [hs9]; exact zLess_n)] <;> rfl) rfl rfl (ih _ (by omega) (k + 1) _ _ _ rfl (by omega)) | exact z_eq (by rw [zGo_t hz9 (by rw [hs9]; exact zLess_s (by omega))] <;> rfl) rfl rfl (ih _ (by omega) (k + 1) _ _ _ rfl (by omega)) | exact z_eq (by rw [zGo_f hz9 (by rw [hs9]; exact zLess_f (by omega)), hs9] <;> rfl) rfl rfl (ih _ (by omega) (k + 1) _ _ _ rfl (by omega)) | exact zzz_open
                        · skip
                          refine z_iload hx dX12_go_168 rfl ?_
                          refine z_goto (tgt := 175) hx dX12_go_170 (by decide) ?_
                          refine z_istore hx dX12_go_175 (Nat.le_of_ble_eq_true rfl) rfl ?_
                          first | refine z_iincN (z := 1) hx dX12_go_177 rfl rfl ?_ | refine z_iinc hx dX12_go_177 rfl rfl rfl ?_
                          refine z_goto (tgt := 37) hx dX12_go_180 (by decide) ?_
                          first | exact absurd rfl zc125 | exact absurd zc125 (tN_ne (by omega)) | exact absurd rfl zc132 | exact absurd zc132 (tN_ne (by omega)) | (exfalso; omega) | exact z_eq (by rw [zGo_n (zGz_n zc58)] <;> rfl) rfl rfl (ih _ (by omega) (k + 1) _ _ _ rfl (by omega)) | exact z_eq (by rw [zGo_n hz9] <;> rfl) rfl rfl (ih _ (by omega) (k + 1) _ _ _ rfl (by omega)) | exact z_eq (by rw [zGo_t hz9 (by rw [hs9]; exact zLess_n)] <;> rfl) rfl rfl (ih _ (by omega) (k + 1) _ _ _ rfl (by omega)) | exact z_eq (by rw [zGo_t hz9 (by rw [hs9]; exact zLess_s (by omega))] <;> rfl) rfl rfl (ih _ (by omega) (k + 1) _ _ _ rfl (by omega)) | exact z_eq (by rw [zGo_f hz9 (by rw [hs9]; exact zLess_f (by omega)), hs9] <;> rfl) rfl rfl (ih _ (by omega) (k + 1) _ _ _ rfl (by omega)) | exact zzz_open
                · skip
                  have s60 := zGo_le k s9 hs9
                  refine z_iload hx dX12_go_128 rfl ?_
                  refine z_ldc hx dX12_go_130 kX12_47 ?_
                  refine z_icmp_eq (tgt := 142) hx dX12_go_132 (by decide) (fun zc132 => ?_) (fun zc132 => ?_)
                  · skip
                    refine z_iconst (v := nI 1) hx dX12_go_142 (by decide) ?_
                    refine z_goto (tgt := 147) hx dX12_go_143 (by decide) ?_
                    refine z_istore hx dX12_go_147 (Nat.le_of_ble_eq_true rfl) rfl ?_
                    refine z_iload hx dX12_go_149 rfl ?_
                    refine z_if_eqN (tgt := 159) hx dX12_go_151 (by decide) (by omega) (fun zc151 => ?_) (fun zc151 => ?_)
                    · skip
                      refine z_iload hx dX12_go_159 rfl ?_
                      refine z_istore hx dX12_go_161 (Nat.le_of_ble_eq_true rfl) rfl ?_
                      refine z_iload hx dX12_go_163 rfl ?_
                      refine z_if_eqN (tgt := 173) hx dX12_go_165 (by decide) (by omega) (fun zc165 => ?_) (fun zc165 => ?_)
                      · skip
                        refine z_iload hx dX12_go_173 rfl ?_
                        refine z_istore hx dX12_go_175 (Nat.le_of_ble_eq_true rfl) rfl ?_
                        first | refine z_iincN (z := 1) hx dX12_go_177 rfl rfl ?_ | refine z_iinc hx dX12_go_177 rfl rfl rfl ?_
                        refine z_goto (tgt := 37) hx dX12_go_180 (by decide) ?_
                        first | exact absurd rfl zc125 | exact absurd zc125 (tN_ne (by omega)) | exact absurd rfl zc132 | exact absurd zc132 (tN_ne (by omega)) | (exfalso; omega) | exact z_eq (by rw [zGo_n (zGz_n zc58)] <;> rfl) rfl rfl (ih _ (by omega) (k + 1) _ _ _ rfl (by omega)) | exact z_eq (by rw [zGo_n hz9] <;> rfl) rfl rfl (ih _ (by omega) (k + 1) _ _ _ rfl (by omega)) | exact z_eq (by rw [zGo_t hz9 (by rw [hs9]; exact zLess_n)] <;> rfl) rfl rfl (ih _ (by omega) (k + 1) _ _ _ rfl (by omega)) | exact z_eq (by rw [zGo_t hz9 (by rw [hs9]; exact zLess_s (by omega))] <;> rfl) rfl rfl (ih _ (by omega) (k + 1) _ _ _ rfl (by omega)) | exact z_eq (by rw [zGo_f hz9 (by rw [hs9]; exact zLess_f (by omega)), hs9] <;> rfl) rfl rfl (ih _ (by omega) (k + 1) _ _ _ rfl (by omega)) | exact zzz_open
                      · skip
                        refine z_iload hx dX12_go_168 rfl ?_
                        refine z_goto (tgt := 175) hx dX12_go_170 (by decide) ?_
                        refine z_istore hx dX12_go_175 (Nat.le_of_ble_eq_true rfl) rfl ?_
                        first | refine z_iincN (z := 1) hx dX12_go_177 rfl rfl ?_ | refine z_iinc hx dX12_go_177 rfl rfl rfl ?_
                        refine z_goto (tgt := 37) hx dX12_go_180 (by decide) ?_
                        first | exact absurd rfl zc125 | exact absurd zc125 (tN_ne (by omega)) | exact absurd rfl zc132 | exact absurd zc132 (tN_ne (by omega)) | (exfalso; omega) | exact z_eq (by rw [zGo_n (zGz_n zc58)] <;> rfl) rfl rfl (ih _ (by omega) (k + 1) _ _ _ rfl (by omega)) | exact z_eq (by rw [zGo_n hz9] <;> rfl) rfl rfl (ih _ (by omega) (k + 1) _ _ _ rfl (by omega)) | exact z_eq (by rw [zGo_t hz9 (by rw [hs9]; exact zLess_n)] <;> rfl) rfl rfl (ih _ (by omega) (k + 1) _ _ _ rfl (by omega)) | exact z_eq (by rw [zGo_t hz9 (by rw [hs9]; exact zLess_s (by omega))] <;> rfl) rfl rfl (ih _ (by omega) (k + 1) _ _ _ rfl (by omega)) | exact z_eq (by rw [zGo_f hz9 (by rw [hs9]; exact zLess_f (by omega)), hs9] <;> rfl) rfl rfl (ih _ (by omega) (k + 1) _ _ _ rfl (by omega)) | exact zzz_open
                    · skip
                      refine z_iload hx dX12_go_154 rfl ?_
                      refine z_goto (tgt := 161) hx dX12_go_156 (by decide) ?_
                      refine z_istore hx dX12_go_161 (Nat.le_of_ble_eq_true rfl) rfl ?_
                      refine z_iload hx dX12_go_163 rfl ?_
                      refine z_if_eqN (tgt := 173) hx dX12_go_165 (by decide) (by omega) (fun zc165 => ?_) (fun zc165 => ?_)
                      · skip
                        refine z_iload hx dX12_go_173 rfl ?_
                        refine z_istore hx dX12_go_175 (Nat.le_of_ble_eq_true rfl) rfl ?_
                        first | refine z_iincN (z := 1) hx dX12_go_177 rfl rfl ?_ | refine z_iinc hx dX12_go_177 rfl rfl rfl ?_
                        refine z_goto (tgt := 37) hx dX12_go_180 (by decide) ?_
                        first | exact absurd rfl zc125 | exact absurd zc125 (tN_ne (by omega)) | exact absurd rfl zc132 | exact absurd zc132 (tN_ne (by omega)) | (exfalso; omega) | exact z_eq (by rw [zGo_n (zGz_n zc58)] <;> rfl) rfl rfl (ih _ (by omega) (k + 1) _ _ _ rfl (by omega)) | exact z_eq (by rw [zGo_n hz9] <;> rfl) rfl rfl (ih _ (by omega) (k + 1) _ _ _ rfl (by omega)) | exact z_eq (by rw [zGo_t hz9 (by rw [hs9]; exact zLess_n)] <;> rfl) rfl rfl (ih _ (by omega) (k + 1) _ _ _ rfl (by omega)) | exact z_eq (by rw [zGo_t hz9 (by rw [hs9]; exact zLess_s (by omega))] <;> rfl) rfl rfl (ih _ (by omega) (k + 1) _ _ _ rfl (by omega)) | exact z_eq (by rw [zGo_f hz9 (by rw [hs9]; exact zLess_f (by omega)), hs9] <;> rfl) rfl rfl (ih _ (by omega) (k + 1) _ _ _ rfl (by omega)) | exact zzz_open
                      · skip
                        refine z_iload hx dX12_go_168 rfl ?_
                        refine z_goto (tgt := 175) hx dX12_go_170 (by decide) ?_
                        refine z_istore hx dX12_go_175 (Nat.le_of_ble_eq_true rfl) rfl ?_
                        first | refine z_iincN (z := 1) hx dX12_go_177 rfl rfl ?_ | refine z_iinc hx dX12_go_177 rfl rfl rfl ?_
                        refine z_goto (tgt := 37) hx dX12_go_180 (by decide) ?_
                        first | exact absurd rfl zc125 | exact absurd zc125 (tN_ne (by omega)) | exact absurd rfl zc132 | exact absurd zc132 (tN_ne (by omega)) | (exfalso; omega) | exact z_eq (by rw [zGo_n (zGz_n zc58)] <;> rfl) rfl rfl (ih _ (by omega) (k + 1) _ _ _ rfl (by omega)) | exact z_eq (by rw [zGo_n hz9] <;> rfl) rfl rfl (ih _ (by omega) (k + 1) _ _ _ rfl (by omega)) | exact z_eq (by rw [zGo_t hz9 (by rw [hs9]; exact zLess_n)] <;> rfl) rfl rfl (ih _ (by omega) (k + 1) _ _ _ rfl (by omega)) | exact z_eq (by rw [zGo_t hz9 (by rw [hs9]; exact zLess_s (by omega))] <;> rfl) rfl rfl (ih _ (by omega) (k + 1) _ _ _ rfl (by omega)) | exact z_eq (by rw [zGo_f hz9 (by rw [hs9]; exact zLess_f (by omega)), hs9] <;> rfl) rfl rfl (ih _ (by omega) (k + 1) _ _ _ rfl (by omega)) | exact zzz_open
                  · skip
                    refine z_iload hx dX12_go_135 rfl ?_
                    refine z_iload hx dX12_go_137 rfl ?_
                    first | refine z_icmp_geN (tgt := 146) hx dX12_go_139 (by decide) (by omega) (by omega) (fun zc139 => ?_) (fun zc139 => ?_) | refine z_icmp_ge (tgt := 146) hx dX12_go_139 (by decide) (fun zc139 => ?_) (fun zc139 => ?_)
                    · skip
                      refine z_iconst (v := nI 0) hx dX12_go_146 (by decide) ?_
                      refine z_istore hx dX12_go_147 (Nat.le_of_ble_eq_true rfl) rfl ?_
                      refine z_iload hx dX12_go_149 rfl ?_
                      refine z_if_eqN (tgt := 159) hx dX12_go_151 (by decide) (by omega) (fun zc151 => ?_) (fun zc151 => ?_)
                      · skip
                        refine z_iload hx dX12_go_159 rfl ?_
                        refine z_istore hx dX12_go_161 (Nat.le_of_ble_eq_true rfl) rfl ?_
                        refine z_iload hx dX12_go_163 rfl ?_
                        refine z_if_eqN (tgt := 173) hx dX12_go_165 (by decide) (by omega) (fun zc165 => ?_) (fun zc165 => ?_)
                        · skip
                          refine z_iload hx dX12_go_173 rfl ?_
                          refine z_istore hx dX12_go_175 (Nat.le_of_ble_eq_true rfl) rfl ?_
                          first | refine z_iincN (z := 1) hx dX12_go_177 rfl rfl ?_ | refine z_iinc hx dX12_go_177 rfl rfl rfl ?_
                          refine z_goto (tgt := 37) hx dX12_go_180 (by decide) ?_
                          first | exact absurd rfl zc125 | exact absurd zc125 (tN_ne (by omega)) | exact absurd rfl zc132 | exact absurd zc132 (tN_ne (by omega)) | (exfalso; omega) | exact z_eq (by rw [zGo_n (zGz_n zc58)] <;> rfl) rfl rfl (ih _ (by omega) (k + 1) _ _ _ rfl (by omega)) | exact z_eq (by rw [zGo_n hz9] <;> rfl) rfl rfl (ih _ (by omega) (k + 1) _ _ _ rfl (by omega)) | exact z_eq (by rw [zGo_t hz9 (by rw [hs9]; exact zLess_n)] <;> rfl) rfl rfl (ih _ (by omega) (k + 1) _ _ _ rfl (by omega)) | exact z_eq (by rw [zGo_t hz9 (by rw [hs9]; exact zLess_s (by omega))] <;> rfl) rfl rfl (ih _ (by omega) (k + 1) _ _ _ rfl (by omega)) | exact z_eq (by rw [zGo_f hz9 (by rw [hs9]; exact zLess_f (by omega)), hs9] <;> rfl) rfl rfl (ih _ (by omega) (k + 1) _ _ _ rfl (by omega)) | exact zzz_open
                        · skip
                          refine z_iload hx dX12_go_168 rfl ?_
                          refine z_goto (tgt := 175) hx dX12_go_170 (by decide) ?_
                          refine z_istore hx dX12_go_175 (Nat.le_of_ble_eq_true rfl) rfl ?_
                          first | refine z_iincN (z := 1) hx dX12_go_177 rfl rfl ?_ | refine z_iinc hx dX12_go_177 rfl rfl rfl ?_
                          refine z_goto (tgt := 37) hx dX12_go_180 (by decide) ?_
                          first | exact absurd rfl zc125 | exact absurd zc125 (tN_ne (by omega)) | exact absurd rfl zc132 | exact absurd zc132 (tN_ne (by omega)) | (exfalso; omega) | exact z_eq (by rw [zGo_n (zGz_n zc58)] <;> rfl) rfl rfl (ih _ (by omega) (k + 1) _ _ _ rfl (by omega)) | exact z_eq (by rw [zGo_n hz9] <;> rfl) rfl rfl (ih _ (by omega) (k + 1) _ _ _ rfl (by omega)) | exact z_eq (by rw [zGo_t hz9 (by rw [hs9]; exact zLess_n)] <;> rfl) rfl rfl (ih _ (by omega) (k + 1) _ _ _ rfl (by omega)) | exact z_eq (by rw [zGo_t hz9 (by rw [hs9]; exact zLess_s (by omega))] <;> rfl) rfl rfl (ih _ (by omega) (k + 1) _ _ _ rfl (by omega)) | exact z_eq (by rw [zGo_f hz9 (by rw [hs9]; exact zLess_f (by omega)), hs9] <;> rfl) rfl rfl (ih _ (by omega) (k + 1) _ _ _ rfl (by omega)) | exact zzz_open
                      · skip
                        refine z_iload hx dX12_go_154 rfl ?_
                        refine z_goto (tgt := 161) hx dX12_go_156 (by decide) ?_
                        refine z_istore hx dX12_go_161 (Nat.le_of_ble_eq_true rfl) rfl ?_
                        refine z_iload hx dX12_go_163 rfl ?_
                        refine z_if_eqN (tgt := 173) hx dX12_go_165 (by decide) (by omega) (fun zc165 => ?_) (fun zc165 => ?_)
                        · skip
                          refine z_iload hx dX12_go_173 rfl ?_
                          refine z_istore hx dX12_go_175 (Nat.le_of_ble_eq_true rfl) rfl ?_
                          first | refine z_iincN (z := 1) hx dX12_go_177 rfl rfl ?_ | refine z_iinc hx dX12_go_177 rfl rfl rfl ?_
                          refine z_goto (tgt := 37) hx dX12_go_180 (by decide) ?_
                          first | exact absurd rfl zc125 | exact absurd zc125 (tN_ne (by omega)) | exact absurd rfl zc132 | exact absurd zc132 (tN_ne (by omega)) | (exfalso; omega) | exact z_eq (by rw [zGo_n (zGz_n zc58)] <;> rfl) rfl rfl (ih _ (by omega) (k + 1) _ _ _ rfl (by omega)) | exact z_eq (by rw [zGo_n hz9] <;> rfl) rfl rfl (ih _ (by omega) (k + 1) _ _ _ rfl (by omega)) | exact z_eq (by rw [zGo_t hz9 (by rw [hs9]; exact zLess_n)] <;> rfl) rfl rfl (ih _ (by omega) (k + 1) _ _ _ rfl (by omega)) | exact z_eq (by rw [zGo_t hz9 (by rw [hs9]; exact zLess_s (by omega))] <;> rfl) rfl rfl (ih _ (by omega) (k + 1) _ _ _ rfl (by omega)) | exact z_eq (by rw [zGo_f hz9 (by rw [hs9]; exact zLess_f (by omega)), hs9] <;> rfl) rfl rfl (ih _ (by omega) (k + 1) _ _ _ rfl (by omega)) | exact zzz_open
                        · skip
                          refine z_iload hx dX12_go_168 rfl ?_
                          refine z_goto (tgt := 175) hx dX12_go_170 (by decide) ?_
                          refine z_istore hx dX12_go_175 (Nat.le_of_ble_eq_true rfl) rfl ?_
                          first | refine z_iincN (z := 1) hx dX12_go_177 rfl rfl ?_ | refine z_iinc hx dX12_go_177 rfl rfl rfl ?_
                          refine z_goto (tgt := 37) hx dX12_go_180 (by decide) ?_
                          first | exact absurd rfl zc125 | exact absurd zc125 (tN_ne (by omega)) | exact absurd rfl zc132 | exact absurd zc132 (tN_ne (by omega)) | (exfalso; omega) | exact z_eq (by rw [zGo_n (zGz_n zc58)] <;> rfl) rfl rfl (ih _ (by omega) (k + 1) _ _ _ rfl (by omega)) | exact z_eq (by rw [zGo_n hz9] <;> rfl) rfl rfl (ih _ (by omega) (k + 1) _ _ _ rfl (by omega)) | exact z_eq (by rw [zGo_t hz9 (by rw [hs9]; exact zLess_n)] <;> rfl) rfl rfl (ih _ (by omega) (k + 1) _ _ _ rfl (by omega)) | exact z_eq (by rw [zGo_t hz9 (by rw [hs9]; exact zLess_s (by omega))] <;> rfl) rfl rfl (ih _ (by omega) (k + 1) _ _ _ rfl (by omega)) | exact z_eq (by rw [zGo_f hz9 (by rw [hs9]; exact zLess_f (by omega)), hs9] <;> rfl) rfl rfl (ih _ (by omega) (k + 1) _ _ _ rfl (by omega)) | exact zzz_open
                    · skip
                      refine z_iconst (v := nI 1) hx dX12_go_142 (by decide) ?_
                      refine z_goto (tgt := 147) hx dX12_go_143 (by decide) ?_
                      refine z_istore hx dX12_go_147 (Nat.le_of_ble_eq_true rfl) rfl ?_
                      refine z_iload hx dX12_go_149 rfl ?_
                      refine z_if_eqN (tgt := 159) hx dX12_go_151 (by decide) (by omega) (fun zc151 => ?_) (fun zc151 => ?_)
                      · skip
                        refine z_iload hx dX12_go_159 rfl ?_
                        refine z_istore hx dX12_go_161 (Nat.le_of_ble_eq_true rfl) rfl ?_
                        refine z_iload hx dX12_go_163 rfl ?_
                        refine z_if_eqN (tgt := 173) hx dX12_go_165 (by decide) (by omega) (fun zc165 => ?_) (fun zc165 => ?_)
                        · skip
                          refine z_iload hx dX12_go_173 rfl ?_
                          refine z_istore hx dX12_go_175 (Nat.le_of_ble_eq_true rfl) rfl ?_
                          first | refine z_iincN (z := 1) hx dX12_go_177 rfl rfl ?_ | refine z_iinc hx dX12_go_177 rfl rfl rfl ?_
                          refine z_goto (tgt := 37) hx dX12_go_180 (by decide) ?_
                          first | exact absurd rfl zc125 | exact absurd zc125 (tN_ne (by omega)) | exact absurd rfl zc132 | exact absurd zc132 (tN_ne (by omega)) | (exfalso; omega) | exact z_eq (by rw [zGo_n (zGz_n zc58)] <;> rfl) rfl rfl (ih _ (by omega) (k + 1) _ _ _ rfl (by omega)) | exact z_eq (by rw [zGo_n hz9] <;> rfl) rfl rfl (ih _ (by omega) (k + 1) _ _ _ rfl (by omega)) | exact z_eq (by rw [zGo_t hz9 (by rw [hs9]; exact zLess_n)] <;> rfl) rfl rfl (ih _ (by omega) (k + 1) _ _ _ rfl (by omega)) | exact z_eq (by rw [zGo_t hz9 (by rw [hs9]; exact zLess_s (by omega))] <;> rfl) rfl rfl (ih _ (by omega) (k + 1) _ _ _ rfl (by omega)) | exact z_eq (by rw [zGo_f hz9 (by rw [hs9]; exact zLess_f (by omega)), hs9] <;> rfl) rfl rfl (ih _ (by omega) (k + 1) _ _ _ rfl (by omega)) | exact zzz_open
                        · skip
                          refine z_iload hx dX12_go_168 rfl ?_
                          refine z_goto (tgt := 175) hx dX12_go_170 (by decide) ?_
                          refine z_istore hx dX12_go_175 (Nat.le_of_ble_eq_true rfl) rfl ?_
                          first | refine z_iincN (z := 1) hx dX12_go_177 rfl rfl ?_ | refine z_iinc hx dX12_go_177 rfl rfl rfl ?_
                          refine z_goto (tgt := 37) hx dX12_go_180 (by decide) ?_
                          first | exact absurd rfl zc125 | exact absurd zc125 (tN_ne (by omega)) | exact absurd rfl zc132 | exact absurd zc132 (tN_ne (by omega)) | (exfalso; omega) | exact z_eq (by rw [zGo_n (zGz_n zc58)] <;> rfl) rfl rfl (ih _ (by omega) (k + 1) _ _ _ rfl (by omega)) | exact z_eq (by rw [zGo_n hz9] <;> rfl) rfl rfl (ih _ (by omega) (k + 1) _ _ _ rfl (by omega)) | exact z_eq (by rw [zGo_t hz9 (by rw [hs9]; exact zLess_n)] <;> rfl) rfl rfl (ih _ (by omega) (k + 1) _ _ _ rfl (by omega)) | exact z_eq (by rw [zGo_t hz9 (by rw [hs9]; exact zLess_s (by omega))] <;> rfl) rfl rfl (ih _ (by omega) (k + 1) _ _ _ rfl (by omega)) | exact z_eq (by rw [zGo_f hz9 (by rw [hs9]; exact zLess_f (by omega)), hs9] <;> rfl) rfl rfl (ih _ (by omega) (k + 1) _ _ _ rfl (by omega)) | exact zzz_open
                      · skip
                        refine z_iload hx dX12_go_154 rfl ?_
                        refine z_goto (tgt := 161) hx dX12_go_156 (by decide) ?_
                        refine z_istore hx dX12_go_161 (Nat.le_of_ble_eq_true rfl) rfl ?_
                        refine z_iload hx dX12_go_163 rfl ?_
                        refine z_if_eqN (tgt := 173) hx dX12_go_165 (by decide) (by omega) (fun zc165 => ?_) (fun zc165 => ?_)
                        · skip
                          refine z_iload hx dX12_go_173 rfl ?_
                          refine z_istore hx dX12_go_175 (Nat.le_of_ble_eq_true rfl) rfl ?_
                          first | refine z_iincN (z := 1) hx dX12_go_177 rfl rfl ?_ | refine z_iinc hx dX12_go_177 rfl rfl rfl ?_
                          refine z_goto (tgt := 37) hx dX12_go_180 (by decide) ?_
                          first | exact absurd rfl zc125 | exact absurd zc125 (tN_ne (by omega)) | exact absurd rfl zc132 | exact absurd zc132 (tN_ne (by omega)) | (exfalso; omega) | exact z_eq (by rw [zGo_n (zGz_n zc58)] <;> rfl) rfl rfl (ih _ (by omega) (k + 1) _ _ _ rfl (by omega)) | exact z_eq (by rw [zGo_n hz9] <;> rfl) rfl rfl (ih _ (by omega) (k + 1) _ _ _ rfl (by omega)) | exact z_eq (by rw [zGo_t hz9 (by rw [hs9]; exact zLess_n)] <;> rfl) rfl rfl (ih _ (by omega) (k + 1) _ _ _ rfl (by omega)) | exact z_eq (by rw [zGo_t hz9 (by rw [hs9]; exact zLess_s (by omega))] <;> rfl) rfl rfl (ih _ (by omega) (k + 1) _ _ _ rfl (by omega)) | exact z_eq (by rw [zGo_f hz9 (by rw [hs9]; exact zLess_f (by omega)), hs9] <;> rfl) rfl rfl (ih _ (by omega) (k + 1) _ _ _ rfl (by omega)) | exact zzz_open
                        · skip
                          refine z_iload hx dX12_go_168 rfl ?_
                          refine z_goto (tgt := 175) hx dX12_go_170 (by decide) ?_
                          refine z_istore hx dX12_go_175 (Nat.le_of_ble_eq_true rfl) rfl ?_
                          first | refine z_iincN (z := 1) hx dX12_go_177 rfl rfl ?_ | refine z_iinc hx dX12_go_177 rfl rfl rfl ?_
                          refine z_goto (tgt := 37) hx dX12_go_180 (by decide) ?_
                          first | exact absurd rfl zc125 | exact absurd zc125 (tN_ne (by omega)) | exact absurd rfl zc132 | exact absurd zc132 (tN_ne (by omega)) | (exfalso; omega) | exact z_eq (by rw [zGo_n (zGz_n zc58)] <;> rfl) rfl rfl (ih _ (by omega) (k + 1) _ _ _ rfl (by omega)) | exact z_eq (by rw [zGo_n hz9] <;> rfl) rfl rfl (ih _ (by omega) (k + 1) _ _ _ rfl (by omega)) | exact z_eq (by rw [zGo_t hz9 (by rw [hs9]; exact zLess_n)] <;> rfl) rfl rfl (ih _ (by omega) (k + 1) _ _ _ rfl (by omega)) | exact z_eq (by rw [zGo_t hz9 (by rw [hs9]; exact zLess_s (by omega))] <;> rfl) rfl rfl (ih _ (by omega) (k + 1) _ _ _ rfl (by omega)) | exact z_eq (by rw [zGo_f hz9 (by rw [hs9]; exact zLess_f (by omega)), hs9] <;> rfl) rfl rfl (ih _ (by omega) (k + 1) _ _ _ rfl (by omega)) | exact zzz_open
            · skip
              have d60 := zGz_le hz9
              refine z_iload hx dX12_go_121 rfl ?_
              refine z_ldc hx dX12_go_123 kX12_47 ?_
              refine z_icmp_eq (tgt := 146) hx dX12_go_125 (by decide) (fun zc125 => ?_) (fun zc125 => ?_)
              · skip
                refine z_iconst (v := nI 0) hx dX12_go_146 (by decide) ?_
                refine z_istore hx dX12_go_147 (Nat.le_of_ble_eq_true rfl) rfl ?_
                refine z_iload hx dX12_go_149 rfl ?_
                refine z_if_eqN (tgt := 159) hx dX12_go_151 (by decide) (by omega) (fun zc151 => ?_) (fun zc151 => ?_)
                · skip
                  refine z_iload hx dX12_go_159 rfl ?_
                  refine z_istore hx dX12_go_161 (Nat.le_of_ble_eq_true rfl) rfl ?_
                  refine z_iload hx dX12_go_163 rfl ?_
                  refine z_if_eqN (tgt := 173) hx dX12_go_165 (by decide) (by omega) (fun zc165 => ?_) (fun zc165 => ?_)
                  · skip
                    refine z_iload hx dX12_go_173 rfl ?_
                    refine z_istore hx dX12_go_175 (Nat.le_of_ble_eq_true rfl) rfl ?_
                    first | refine z_iincN (z := 1) hx dX12_go_177 rfl rfl ?_ | refine z_iinc hx dX12_go_177 rfl rfl rfl ?_
                    refine z_goto (tgt := 37) hx dX12_go_180 (by decide) ?_
                    first | exact absurd rfl zc125 | exact absurd zc125 (tN_ne (by omega)) | exact absurd rfl zc132 | exact absurd zc132 (tN_ne (by omega)) | (exfalso; omega) | exact z_eq (by rw [zGo_n (zGz_n zc58)] <;> rfl) rfl rfl (ih _ (by omega) (k + 1) _ _ _ rfl (by omega)) | exact z_eq (by rw [zGo_n hz9] <;> rfl) rfl rfl (ih _ (by omega) (k + 1) _ _ _ rfl (by omega)) | exact z_eq (by rw [zGo_t hz9 (by rw [hs9]; exact zLess_n)] <;> rfl) rfl rfl (ih _ (by omega) (k + 1) _ _ _ rfl (by omega)) | exact z_eq (by rw [zGo_t hz9 (by rw [hs9]; exact zLess_s (by omega))] <;> rfl) rfl rfl (ih _ (by omega) (k + 1) _ _ _ rfl (by omega)) | exact z_eq (by rw [zGo_f hz9 (by rw [hs9]; exact zLess_f (by omega)), hs9] <;> rfl) rfl rfl (ih _ (by omega) (k + 1) _ _ _ rfl (by omega)) | exact zzz_open
                  · skip
                    refine z_iload hx dX12_go_168 rfl ?_
                    refine z_goto (tgt := 175) hx dX12_go_170 (by decide) ?_
                    refine z_istore hx dX12_go_175 (Nat.le_of_ble_eq_true rfl) rfl ?_
                    first | refine z_iincN (z := 1) hx dX12_go_177 rfl rfl ?_ | refine z_iinc hx dX12_go_177 rfl rfl rfl ?_
                    refine z_goto (tgt := 37) hx dX12_go_180 (by decide) ?_
                    first | exact absurd rfl zc125 | exact absurd zc125 (tN_ne (by omega)) | exact absurd rfl zc132 | exact absurd zc132 (tN_ne (by omega)) | (exfalso; omega) | exact z_eq (by rw [zGo_n (zGz_n zc58)] <;> rfl) rfl rfl (ih _ (by omega) (k + 1) _ _ _ rfl (by omega)) | exact z_eq (by rw [zGo_n hz9] <;> rfl) rfl rfl (ih _ (by omega) (k + 1) _ _ _ rfl (by omega)) | exact z_eq (by rw [zGo_t hz9 (by rw [hs9]; exact zLess_n)] <;> rfl) rfl rfl (ih _ (by omega) (k + 1) _ _ _ rfl (by omega)) | exact z_eq (by rw [zGo_t hz9 (by rw [hs9]; exact zLess_s (by omega))] <;> rfl) rfl rfl (ih _ (by omega) (k + 1) _ _ _ rfl (by omega)) | exact z_eq (by rw [zGo_f hz9 (by rw [hs9]; exact zLess_f (by omega)), hs9] <;> rfl) rfl rfl (ih _ (by omega) (k + 1) _ _ _ rfl (by omega)) | exact zzz_open
                · skip
                  refine z_iload hx dX12_go_154 rfl ?_
                  refine z_goto (tgt := 161) hx dX12_go_156 (by decide) ?_
                  refine z_istore hx dX12_go_161 (Nat.le_of_ble_eq_true rfl) rfl ?_
                  refine z_iload hx dX12_go_163 rfl ?_
                  refine z_if_eqN (tgt := 173) hx dX12_go_165 (by decide) (by omega) (fun zc165 => ?_) (fun zc165 => ?_)
                  · skip
                    refine z_iload hx dX12_go_173 rfl ?_
                    refine z_istore hx dX12_go_175 (Nat.le_of_ble_eq_true rfl) rfl ?_
                    first | refine z_iincN (z := 1) hx dX12_go_177 rfl rfl ?_ | refine z_iinc hx dX12_go_177 rfl rfl rfl ?_
                    refine z_goto (tgt := 37) hx dX12_go_180 (by decide) ?_
                    first | exact absurd rfl zc125 | exact absurd zc125 (tN_ne (by omega)) | exact absurd rfl zc132 | exact absurd zc132 (tN_ne (by omega)) | (exfalso; omega) | exact z_eq (by rw [zGo_n (zGz_n zc58)] <;> rfl) rfl rfl (ih _ (by omega) (k + 1) _ _ _ rfl (by omega)) | exact z_eq (by rw [zGo_n hz9] <;> rfl) rfl rfl (ih _ (by omega) (k + 1) _ _ _ rfl (by omega)) | exact z_eq (by rw [zGo_t hz9 (by rw [hs9]; exact zLess_n)] <;> rfl) rfl rfl (ih _ (by omega) (k + 1) _ _ _ rfl (by omega)) | exact z_eq (by rw [zGo_t hz9 (by rw [hs9]; exact zLess_s (by omega))] <;> rfl) rfl rfl (ih _ (by omega) (k + 1) _ _ _ rfl (by omega)) | exact z_eq (by rw [zGo_f hz9 (by rw [hs9]; exact zLess_f (by omega)), hs9] <;> rfl) rfl rfl (ih _ (by omega) (k + 1) _ _ _ rfl (by omega)) | exact zzz_open
                  · skip
                    refine z_iload hx dX12_go_168 rfl ?_
                    refine z_goto (tgt := 175) hx dX12_go_170 (by decide) ?_
                    refine z_istore hx dX12_go_175 (Nat.le_of_ble_eq_true rfl) rfl ?_
                    first | refine z_iincN (z := 1) hx dX12_go_177 rfl rfl ?_ | refine z_iinc hx dX12_go_177 rfl rfl rfl ?_
                    refine z_goto (tgt := 37) hx dX12_go_180 (by decide) ?_
                    first | exact absurd rfl zc125 | exact absurd zc125 (tN_ne (by omega)) | exact absurd rfl zc132 | exact absurd zc132 (tN_ne (by omega)) | (exfalso; omega) | exact z_eq (by rw [zGo_n (zGz_n zc58)] <;> rfl) rfl rfl (ih _ (by omega) (k + 1) _ _ _ rfl (by omega)) | exact z_eq (by rw [zGo_n hz9] <;> rfl) rfl rfl (ih _ (by omega) (k + 1) _ _ _ rfl (by omega)) | exact z_eq (by rw [zGo_t hz9 (by rw [hs9]; exact zLess_n)] <;> rfl) rfl rfl (ih _ (by omega) (k + 1) _ _ _ rfl (by omega)) | exact z_eq (by rw [zGo_t hz9 (by rw [hs9]; exact zLess_s (by omega))] <;> rfl) rfl rfl (ih _ (by omega) (k + 1) _ _ _ rfl (by omega)) | exact z_eq (by rw [zGo_f hz9 (by rw [hs9]; exact zLess_f (by omega)), hs9] <;> rfl) rfl rfl (ih _ (by omega) (k + 1) _ _ _ rfl (by omega)) | exact zzz_open
              · skip
                rcases hs9 : (zGo L zj k).2 with _ | s9
                · skip
                  refine z_iload hx dX12_go_128 rfl ?_
                  refine z_ldc hx dX12_go_130 kX12_47 ?_
                  refine z_icmp_eq (tgt := 142) hx dX12_go_132 (by decide) (fun zc132 => ?_) (fun zc132 => ?_)
                  · skip
                    refine z_iconst (v := nI 1) hx dX12_go_142 (by decide) ?_
                    refine z_goto (tgt := 147) hx dX12_go_143 (by decide) ?_
                    refine z_istore hx dX12_go_147 (Nat.le_of_ble_eq_true rfl) rfl ?_
                    refine z_iload hx dX12_go_149 rfl ?_
                    refine z_if_eqN (tgt := 159) hx dX12_go_151 (by decide) (by omega) (fun zc151 => ?_) (fun zc151 => ?_)
                    · skip
                      refine z_iload hx dX12_go_159 rfl ?_
                      refine z_istore hx dX12_go_161 (Nat.le_of_ble_eq_true rfl) rfl ?_
                      refine z_iload hx dX12_go_163 rfl ?_
                      refine z_if_eqN (tgt := 173) hx dX12_go_165 (by decide) (by omega) (fun zc165 => ?_) (fun zc165 => ?_)
                      · skip
                        refine z_iload hx dX12_go_173 rfl ?_
                        refine z_istore hx dX12_go_175 (Nat.le_of_ble_eq_true rfl) rfl ?_
                        first | refine z_iincN (z := 1) hx dX12_go_177 rfl rfl ?_ | refine z_iinc hx dX12_go_177 rfl rfl rfl ?_
                        refine z_goto (tgt := 37) hx dX12_go_180 (by decide) ?_
                        first | exact absurd rfl zc125 | exact absurd zc125 (tN_ne (by omega)) | exact absurd rfl zc132 | exact absurd zc132 (tN_ne (by omega)) | (exfalso; omega) | exact z_eq (by rw [zGo_n (zGz_n zc58)] <;> rfl) rfl rfl (ih _ (by omega) (k + 1) _ _ _ rfl (by omega)) | exact z_eq (by rw [zGo_n hz9] <;> rfl) rfl rfl (ih _ (by omega) (k + 1) _ _ _ rfl (by omega)) | exact z_eq (by rw [zGo_t hz9 (by rw [hs9]; exact zLess_n)] <;> rfl) rfl rfl (ih _ (by omega) (k + 1) _ _ _ rfl (by omega)) | exact z_eq (by rw [zGo_t hz9 (by rw [hs9]; exact zLess_s (by omega))] <;> rfl) rfl rfl (ih _ (by omega) (k + 1) _ _ _ rfl (by omega)) | exact z_eq (by rw [zGo_f hz9 (by rw [hs9]; exact zLess_f (by omega)), hs9] <;> rfl) rfl rfl (ih _ (by omega) (k + 1) _ _ _ rfl (by omega)) | exact zzz_open
                      · skip
                        refine z_iload hx dX12_go_168 rfl ?_
                        refine z_goto (tgt := 175) hx dX12_go_170 (by decide) ?_
                        refine z_istore hx dX12_go_175 (Nat.le_of_ble_eq_true rfl) rfl ?_
                        first | refine z_iincN (z := 1) hx dX12_go_177 rfl rfl ?_ | refine z_iinc hx dX12_go_177 rfl rfl rfl ?_
                        refine z_goto (tgt := 37) hx dX12_go_180 (by decide) ?_
                        first | exact absurd rfl zc125 | exact absurd zc125 (tN_ne (by omega)) | exact absurd rfl zc132 | exact absurd zc132 (tN_ne (by omega)) | (exfalso; omega) | exact z_eq (by rw [zGo_n (zGz_n zc58)] <;> rfl) rfl rfl (ih _ (by omega) (k + 1) _ _ _ rfl (by omega)) | exact z_eq (by rw [zGo_n hz9] <;> rfl) rfl rfl (ih _ (by omega) (k + 1) _ _ _ rfl (by omega)) | exact z_eq (by rw [zGo_t hz9 (by rw [hs9]; exact zLess_n)] <;> rfl) rfl rfl (ih _ (by omega) (k + 1) _ _ _ rfl (by omega)) | exact z_eq (by rw [zGo_t hz9 (by rw [hs9]; exact zLess_s (by omega))] <;> rfl) rfl rfl (ih _ (by omega) (k + 1) _ _ _ rfl (by omega)) | exact z_eq (by rw [zGo_f hz9 (by rw [hs9]; exact zLess_f (by omega)), hs9] <;> rfl) rfl rfl (ih _ (by omega) (k + 1) _ _ _ rfl (by omega)) | exact zzz_open
                    · skip
                      refine z_iload hx dX12_go_154 rfl ?_
                      refine z_goto (tgt := 161) hx dX12_go_156 (by decide) ?_
                      refine z_istore hx dX12_go_161 (Nat.le_of_ble_eq_true rfl) rfl ?_
                      refine z_iload hx dX12_go_163 rfl ?_
                      refine z_if_eqN (tgt := 173) hx dX12_go_165 (by decide) (by omega) (fun zc165 => ?_) (fun zc165 => ?_)
                      · skip
                        refine z_iload hx dX12_go_173 rfl ?_
                        refine z_istore hx dX12_go_175 (Nat.le_of_ble_eq_true rfl) rfl ?_
                        first | refine z_iincN (z := 1) hx dX12_go_177 rfl rfl ?_ | refine z_iinc hx dX12_go_177 rfl rfl rfl ?_
                        refine z_goto (tgt := 37) hx dX12_go_180 (by decide) ?_
                        first | exact absurd rfl zc125 | exact absurd zc125 (tN_ne (by omega)) | exact absurd rfl zc132 | exact absurd zc132 (tN_ne (by omega)) | (exfalso; omega) | exact z_eq (by rw [zGo_n (zGz_n zc58)] <;> rfl) rfl rfl (ih _ (by omega) (k + 1) _ _ _ rfl (by omega)) | exact z_eq (by rw [zGo_n hz9] <;> rfl) rfl rfl (ih _ (by omega) (k + 1) _ _ _ rfl (by omega)) | exact z_eq (by rw [zGo_t hz9 (by rw [hs9]; exact zLess_n)] <;> rfl) rfl rfl (ih _ (by omega) (k + 1) _ _ _ rfl (by omega)) | exact z_eq (by rw [zGo_t hz9 (by rw [hs9]; exact zLess_s (by omega))] <;> rfl) rfl rfl (ih _ (by omega) (k + 1) _ _ _ rfl (by omega)) | exact z_eq (by rw [zGo_f hz9 (by rw [hs9]; exact zLess_f (by omega)), hs9] <;> rfl) rfl rfl (ih _ (by omega) (k + 1) _ _ _ rfl (by omega)) | exact zzz_open
                      · skip
                        refine z_iload hx dX12_go_168 rfl ?_
                        refine z_goto (tgt := 175) hx dX12_go_170 (by decide) ?_
                        refine z_istore hx dX12_go_175 (Nat.le_of_ble_eq_true rfl) rfl ?_
                        first | refine z_iincN (z := 1) hx dX12_go_177 rfl rfl ?_ | refine z_iinc hx dX12_go_177 rfl rfl rfl ?_
                        refine z_goto (tgt := 37) hx dX12_go_180 (by decide) ?_
                        first | exact absurd rfl zc125 | exact absurd zc125 (tN_ne (by omega)) | exact absurd rfl zc132 | exact absurd zc132 (tN_ne (by omega)) | (exfalso; omega) | exact z_eq (by rw [zGo_n (zGz_n zc58)] <;> rfl) rfl rfl (ih _ (by omega) (k + 1) _ _ _ rfl (by omega)) | exact z_eq (by rw [zGo_n hz9] <;> rfl) rfl rfl (ih _ (by omega) (k + 1) _ _ _ rfl (by omega)) | exact z_eq (by rw [zGo_t hz9 (by rw [hs9]; exact zLess_n)] <;> rfl) rfl rfl (ih _ (by omega) (k + 1) _ _ _ rfl (by omega)) | exact z_eq (by rw [zGo_t hz9 (by rw [hs9]; exact zLess_s (by omega))] <;> rfl) rfl rfl (ih _ (by omega) (k + 1) _ _ _ rfl (by omega)) | exact z_eq (by rw [zGo_f hz9 (by rw [hs9]; exact zLess_f (by omega)), hs9] <;> rfl) rfl rfl (ih _ (by omega) (k + 1) _ _ _ rfl (by omega)) | exact zzz_open
                  · skip
                    refine z_iload hx dX12_go_135 rfl ?_
                    refine z_iload hx dX12_go_137 rfl ?_
                    first | refine z_icmp_geN (tgt := 146) hx dX12_go_139 (by decide) (by omega) (by omega) (fun zc139 => ?_) (fun zc139 => ?_) | refine z_icmp_ge (tgt := 146) hx dX12_go_139 (by decide) (fun zc139 => ?_) (fun zc139 => ?_)
                    · skip
                      refine z_iconst (v := nI 0) hx dX12_go_146 (by decide) ?_
                      refine z_istore hx dX12_go_147 (Nat.le_of_ble_eq_true rfl) rfl ?_
                      refine z_iload hx dX12_go_149 rfl ?_
                      refine z_if_eqN (tgt := 159) hx dX12_go_151 (by decide) (by omega) (fun zc151 => ?_) (fun zc151 => ?_)
                      · skip
                        refine z_iload hx dX12_go_159 rfl ?_
                        refine z_istore hx dX12_go_161 (Nat.le_of_ble_eq_true rfl) rfl ?_
                        refine z_iload hx dX12_go_163 rfl ?_
                        refine z_if_eqN (tgt := 173) hx dX12_go_165 (by decide) (by omega) (fun zc165 => ?_) (fun zc165 => ?_)
                        · skip
                          refine z_iload hx dX12_go_173 rfl ?_
                          refine z_istore hx dX12_go_175 (Nat.le_of_ble_eq_true rfl) rfl ?_
                          first | refine z_iincN (z := 1) hx dX12_go_177 rfl rfl ?_ | refine z_iinc hx dX12_go_177 rfl rfl rfl ?_
                          refine z_goto (tgt := 37) hx dX12_go_180 (by decide) ?_
                          first | exact absurd rfl zc125 | exact absurd zc125 (tN_ne (by omega)) | exact absurd rfl zc132 | exact absurd zc132 (tN_ne (by omega)) | (exfalso; omega) | exact z_eq (by rw [zGo_n (zGz_n zc58)] <;> rfl) rfl rfl (ih _ (by omega) (k + 1) _ _ _ rfl (by omega)) | exact z_eq (by rw [zGo_n hz9] <;> rfl) rfl rfl (ih _ (by omega) (k + 1) _ _ _ rfl (by omega)) | exact z_eq (by rw [zGo_t hz9 (by rw [hs9]; exact zLess_n)] <;> rfl) rfl rfl (ih _ (by omega) (k + 1) _ _ _ rfl (by omega)) | exact z_eq (by rw [zGo_t hz9 (by rw [hs9]; exact zLess_s (by omega))] <;> rfl) rfl rfl (ih _ (by omega) (k + 1) _ _ _ rfl (by omega)) | exact z_eq (by rw [zGo_f hz9 (by rw [hs9]; exact zLess_f (by omega)), hs9] <;> rfl) rfl rfl (ih _ (by omega) (k + 1) _ _ _ rfl (by omega)) | exact zzz_open
                        · skip
                          refine z_iload hx dX12_go_168 rfl ?_
                          refine z_goto (tgt := 175) hx dX12_go_170 (by decide) ?_
                          refine z_istore hx dX12_go_175 (Nat.le_of_ble_eq_true rfl) rfl ?_
                          first | refine z_iincN (z := 1) hx dX12_go_177 rfl rfl ?_ | refine z_iinc hx dX12_go_177 rfl rfl rfl ?_
                          refine z_goto (tgt := 37) hx dX12_go_180 (by decide) ?_
                          first | exact absurd rfl zc125 | exact absurd zc125 (tN_ne (by omega)) | exact absurd rfl zc132 | exact absurd zc132 (tN_ne (by omega)) | (exfalso; omega) | exact z_eq (by rw [zGo_n (zGz_n zc58)] <;> rfl) rfl rfl (ih _ (by omega) (k + 1) _ _ _ rfl (by omega)) | exact z_eq (by rw [zGo_n hz9] <;> rfl) rfl rfl (ih _ (by omega) (k + 1) _ _ _ rfl (by omega)) | exact z_eq (by rw [zGo_t hz9 (by rw [hs9]; exact zLess_n)] <;> rfl) rfl rfl (ih _ (by omega) (k + 1) _ _ _ rfl (by omega)) | exact z_eq (by rw [zGo_t hz9 (by rw [hs9]; exact zLess_s (by omega))] <;> rfl) rfl rfl (ih _ (by omega) (k + 1) _ _ _ rfl (by omega)) | exact z_eq (by rw [zGo_f hz9 (by rw [hs9]; exact zLess_f (by omega)), hs9] <;> rfl) rfl rfl (ih _ (by omega) (k + 1) _ _ _ rfl (by omega)) | exact zzz_open
                      · skip
                        refine z_iload hx dX12_go_154 rfl ?_
                        refine z_goto (tgt := 161) hx dX12_go_156 (by decide) ?_
                        refine z_istore hx dX12_go_161 (Nat.le_of_ble_eq_true rfl) rfl ?_
                        refine z_iload hx dX12_go_163 rfl ?_
                        refine z_if_eqN (tgt := 173) hx dX12_go_165 (by decide) (by omega) (fun zc165 => ?_) (fun zc165 => ?_)
                        · skip
                          refine z_iload hx dX12_go_173 rfl ?_
                          refine z_istore hx dX12_go_175 (Nat.le_of_ble_eq_true rfl) rfl ?_
                          first | refine z_iincN (z := 1) hx dX12_go_177 rfl rfl ?_ | refine z_iinc hx dX12_go_177 rfl rfl rfl ?_
                          refine z_goto (tgt := 37) hx dX12_go_180 (by decide) ?_
                          first | exact absurd rfl zc125 | exact absurd zc125 (tN_ne (by omega)) | exact absurd rfl zc132 | exact absurd zc132 (tN_ne (by omega)) | (exfalso; omega) | exact z_eq (by rw [zGo_n (zGz_n zc58)] <;> rfl) rfl rfl (ih _ (by omega) (k + 1) _ _ _ rfl (by omega)) | exact z_eq (by rw [zGo_n hz9] <;> rfl) rfl rfl (ih _ (by omega) (k + 1) _ _ _ rfl (by omega)) | exact z_eq (by rw [zGo_t hz9 (by rw [hs9]; exact zLess_n)] <;> rfl) rfl rfl (ih _ (by omega) (k + 1) _ _ _ rfl (by omega)) | exact z_eq (by rw [zGo_t hz9 (by rw [hs9]; exact zLess_s (by omega))] <;> rfl) rfl rfl (ih _ (by omega) (k + 1) _ _ _ rfl (by omega)) | exact z_eq (by rw [zGo_f hz9 (by rw [hs9]; exact zLess_f (by omega)), hs9] <;> rfl) rfl rfl (ih _ (by omega) (k + 1) _ _ _ rfl (by omega)) | exact zzz_open
                        · skip
                          refine z_iload hx dX12_go_168 rfl ?_
                          refine z_goto (tgt := 175) hx dX12_go_170 (by decide) ?_
                          refine z_istore hx dX12_go_175 (Nat.le_of_ble_eq_true rfl) rfl ?_
                          first | refine z_iincN (z := 1) hx dX12_go_177 rfl rfl ?_ | refine z_iinc hx dX12_go_177 rfl rfl rfl ?_
                          refine z_goto (tgt := 37) hx dX12_go_180 (by decide) ?_
                          first | exact absurd rfl zc125 | exact absurd zc125 (tN_ne (by omega)) | exact absurd rfl zc132 | exact absurd zc132 (tN_ne (by omega)) | (exfalso; omega) | exact z_eq (by rw [zGo_n (zGz_n zc58)] <;> rfl) rfl rfl (ih _ (by omega) (k + 1) _ _ _ rfl (by omega)) | exact z_eq (by rw [zGo_n hz9] <;> rfl) rfl rfl (ih _ (by omega) (k + 1) _ _ _ rfl (by omega)) | exact z_eq (by rw [zGo_t hz9 (by rw [hs9]; exact zLess_n)] <;> rfl) rfl rfl (ih _ (by omega) (k + 1) _ _ _ rfl (by omega)) | exact z_eq (by rw [zGo_t hz9 (by rw [hs9]; exact zLess_s (by omega))] <;> rfl) rfl rfl (ih _ (by omega) (k + 1) _ _ _ rfl (by omega)) | exact z_eq (by rw [zGo_f hz9 (by rw [hs9]; exact zLess_f (by omega)), hs9] <;> rfl) rfl rfl (ih _ (by omega) (k + 1) _ _ _ rfl (by omega)) | exact zzz_open
                    · skip
                      refine z_iconst (v := nI 1) hx dX12_go_142 (by decide) ?_
                      refine z_goto (tgt := 147) hx dX12_go_143 (by decide) ?_
                      refine z_istore hx dX12_go_147 (Nat.le_of_ble_eq_true rfl) rfl ?_
                      refine z_iload hx dX12_go_149 rfl ?_
                      refine z_if_eqN (tgt := 159) hx dX12_go_151 (by decide) (by omega) (fun zc151 => ?_) (fun zc151 => ?_)
                      · skip
                        refine z_iload hx dX12_go_159 rfl ?_
                        refine z_istore hx dX12_go_161 (Nat.le_of_ble_eq_true rfl) rfl ?_
                        refine z_iload hx dX12_go_163 rfl ?_
                        refine z_if_eqN (tgt := 173) hx dX12_go_165 (by decide) (by omega) (fun zc165 => ?_) (fun zc165 => ?_)
                        · skip
                          refine z_iload hx dX12_go_173 rfl ?_
                          refine z_istore hx dX12_go_175 (Nat.le_of_ble_eq_true rfl) rfl ?_
                          first | refine z_iincN (z := 1) hx dX12_go_177 rfl rfl ?_ | refine z_iinc hx dX12_go_177 rfl rfl rfl ?_
                          refine z_goto (tgt := 37) hx dX12_go_180 (by decide) ?_
                          first | exact absurd rfl zc125 | exact absurd zc125 (tN_ne (by omega)) | exact absurd rfl zc132 | exact absurd zc132 (tN_ne (by omega)) | (exfalso; omega) | exact z_eq (by rw [zGo_n (zGz_n zc58)] <;> rfl) rfl rfl (ih _ (by omega) (k + 1) _ _ _ rfl (by omega)) | exact z_eq (by rw [zGo_n hz9] <;> rfl) rfl rfl (ih _ (by omega) (k + 1) _ _ _ rfl (by omega)) | exact z_eq (by rw [zGo_t hz9 (by rw [hs9]; exact zLess_n)] <;> rfl) rfl rfl (ih _ (by omega) (k + 1) _ _ _ rfl (by omega)) | exact z_eq (by rw [zGo_t hz9 (by rw [hs9]; exact zLess_s (by omega))] <;> rfl) rfl rfl (ih _ (by omega) (k + 1) _ _ _ rfl (by omega)) | exact z_eq (by rw [zGo_f hz9 (by rw [hs9]; exact zLess_f (by omega)), hs9] <;> rfl) rfl rfl (ih _ (by omega) (k + 1) _ _ _ rfl (by omega)) | exact zzz_open
                        · skip
                          refine z_iload hx dX12_go_168 rfl ?_
                          refine z_goto (tgt := 175) hx dX12_go_170 (by decide) ?_
                          refine z_istore hx dX12_go_175 (Nat.le_of_ble_eq_true rfl) rfl ?_
                          first | refine z_iincN (z := 1) hx dX12_go_177 rfl rfl ?_ | refine z_iinc hx dX12_go_177 rfl rfl rfl ?_
                          refine z_goto (tgt := 37) hx dX12_go_180 (by decide) ?_
                          first | exact absurd rfl zc125 | exact absurd zc125 (tN_ne (by omega)) | exact absurd rfl zc132 | exact absurd zc132 (tN_ne (by omega)) | (exfalso; omega) | exact z_eq (by rw [zGo_n (zGz_n zc58)] <;> rfl) rfl rfl (ih _ (by omega) (k + 1) _ _ _ rfl (by omega)) | exact z_eq (by rw [zGo_n hz9] <;> rfl) rfl rfl (ih _ (by omega) (k + 1) _ _ _ rfl (by omega)) | exact z_eq (by rw [zGo_t hz9 (by rw [hs9]; exact zLess_n)] <;> rfl) rfl rfl (ih _ (by omega) (k + 1) _ _ _ rfl (by omega)) | exact z_eq (by rw [zGo_t hz9 (by rw [hs9]; exact zLess_s (by omega))] <;> rfl) rfl rfl (ih _ (by omega) (k + 1) _ _ _ rfl (by omega)) | exact z_eq (by rw [zGo_f hz9 (by rw [hs9]; exact zLess_f (by omega)), hs9] <;> rfl) rfl rfl (ih _ (by omega) (k + 1) _ _ _ rfl (by omega)) | exact zzz_open
                      · skip
                        refine z_iload hx dX12_go_154 rfl ?_
                        refine z_goto (tgt := 161) hx dX12_go_156 (by decide) ?_
                        refine z_istore hx dX12_go_161 (Nat.le_of_ble_eq_true rfl) rfl ?_
                        refine z_iload hx dX12_go_163 rfl ?_
                        refine z_if_eqN (tgt := 173) hx dX12_go_165 (by decide) (by omega) (fun zc165 => ?_) (fun zc165 => ?_)
                        · skip
                          refine z_iload hx dX12_go_173 rfl ?_
                          refine z_istore hx dX12_go_175 (Nat.le_of_ble_eq_true rfl) rfl ?_
                          first | refine z_iincN (z := 1) hx dX12_go_177 rfl rfl ?_ | refine z_iinc hx dX12_go_177 rfl rfl rfl ?_
                          refine z_goto (tgt := 37) hx dX12_go_180 (by decide) ?_
                          first | exact absurd rfl zc125 | exact absurd zc125 (tN_ne (by omega)) | exact absurd rfl zc132 | exact absurd zc132 (tN_ne (by omega)) | (exfalso; omega) | exact z_eq (by rw [zGo_n (zGz_n zc58)] <;> rfl) rfl rfl (ih _ (by omega) (k + 1) _ _ _ rfl (by omega)) | exact z_eq (by rw [zGo_n hz9] <;> rfl) rfl rfl (ih _ (by omega) (k + 1) _ _ _ rfl (by omega)) | exact z_eq (by rw [zGo_t hz9 (by rw [hs9]; exact zLess_n)] <;> rfl) rfl rfl (ih _ (by omega) (k + 1) _ _ _ rfl (by omega)) | exact z_eq (by rw [zGo_t hz9 (by rw [hs9]; exact zLess_s (by omega))] <;> rfl) rfl rfl (ih _ (by omega) (k + 1) _ _ _ rfl (by omega)) | exact z_eq (by rw [zGo_f hz9 (by rw [hs9]; exact zLess_f (by omega)), hs9] <;> rfl) rfl rfl (ih _ (by omega) (k + 1) _ _ _ rfl (by omega)) | exact zzz_open
                        · skip
                          refine z_iload hx dX12_go_168 rfl ?_
                          refine z_goto (tgt := 175) hx dX12_go_170 (by decide) ?_
                          refine z_istore hx dX12_go_175 (Nat.le_of_ble_eq_true rfl) rfl ?_
                          first | refine z_iincN (z := 1) hx dX12_go_177 rfl rfl ?_ | refine z_iinc hx dX12_go_177 rfl rfl rfl ?_
                          refine z_goto (tgt := 37) hx dX12_go_180 (by decide) ?_
                          first | exact absurd rfl zc125 | exact absurd zc125 (tN_ne (by omega)) | exact absurd rfl zc132 | exact absurd zc132 (tN_ne (by omega)) | (exfalso; omega) | exact z_eq (by rw [zGo_n (zGz_n zc58)] <;> rfl) rfl rfl (ih _ (by omega) (k + 1) _ _ _ rfl (by omega)) | exact z_eq (by rw [zGo_n hz9] <;> rfl) rfl rfl (ih _ (by omega) (k + 1) _ _ _ rfl (by omega)) | exact z_eq (by rw [zGo_t hz9 (by rw [hs9]; exact zLess_n)] <;> rfl) rfl rfl (ih _ (by omega) (k + 1) _ _ _ rfl (by omega)) | exact z_eq (by rw [zGo_t hz9 (by rw [hs9]; exact zLess_s (by omega))] <;> rfl) rfl rfl (ih _ (by omega) (k + 1) _ _ _ rfl (by omega)) | exact z_eq (by rw [zGo_f hz9 (by rw [hs9]; exact zLess_f (by omega)), hs9] <;> rfl) rfl rfl (ih _ (by omega) (k + 1) _ _ _ rfl (by omega)) | exact zzz_open
                · skip
                  have s60 := zGo_le k s9 hs9
                  refine z_iload hx dX12_go_128 rfl ?_
                  refine z_ldc hx dX12_go_130 kX12_47 ?_
                  refine z_icmp_eq (tgt := 142) hx dX12_go_132 (by decide) (fun zc132 => ?_) (fun zc132 => ?_)
                  · skip
                    refine z_iconst (v := nI 1) hx dX12_go_142 (by decide) ?_
                    refine z_goto (tgt := 147) hx dX12_go_143 (by decide) ?_
                    refine z_istore hx dX12_go_147 (Nat.le_of_ble_eq_true rfl) rfl ?_
                    refine z_iload hx dX12_go_149 rfl ?_
                    refine z_if_eqN (tgt := 159) hx dX12_go_151 (by decide) (by omega) (fun zc151 => ?_) (fun zc151 => ?_)
                    · skip
                      refine z_iload hx dX12_go_159 rfl ?_
                      refine z_istore hx dX12_go_161 (Nat.le_of_ble_eq_true rfl) rfl ?_
                      refine z_iload hx dX12_go_163 rfl ?_
                      refine z_if_eqN (tgt := 173) hx dX12_go_165 (by decide) (by omega) (fun zc165 => ?_) (fun zc165 => ?_)
                      · skip
                        refine z_iload hx dX12_go_173 rfl ?_
                        refine z_istore hx dX12_go_175 (Nat.le_of_ble_eq_true rfl) rfl ?_
                        first | refine z_iincN (z := 1) hx dX12_go_177 rfl rfl ?_ | refine z_iinc hx dX12_go_177 rfl rfl rfl ?_
                        refine z_goto (tgt := 37) hx dX12_go_180 (by decide) ?_
                        first | exact absurd rfl zc125 | exact absurd zc125 (tN_ne (by omega)) | exact absurd rfl zc132 | exact absurd zc132 (tN_ne (by omega)) | (exfalso; omega) | exact z_eq (by rw [zGo_n (zGz_n zc58)] <;> rfl) rfl rfl (ih _ (by omega) (k + 1) _ _ _ rfl (by omega)) | exact z_eq (by rw [zGo_n hz9] <;> rfl) rfl rfl (ih _ (by omega) (k + 1) _ _ _ rfl (by omega)) | exact z_eq (by rw [zGo_t hz9 (by rw [hs9]; exact zLess_n)] <;> rfl) rfl rfl (ih _ (by omega) (k + 1) _ _ _ rfl (by omega)) | exact z_eq (by rw [zGo_t hz9 (by rw [hs9]; exact zLess_s (by omega))] <;> rfl) rfl rfl (ih _ (by omega) (k + 1) _ _ _ rfl (by omega)) | exact z_eq (by rw [zGo_f hz9 (by rw [hs9]; exact zLess_f (by omega)), hs9] <;> rfl) rfl rfl (ih _ (by omega) (k + 1) _ _ _ rfl (by omega)) | exact zzz_open
                      · skip
                        refine z_iload hx dX12_go_168 rfl ?_
                        refine z_goto (tgt := 175) hx dX12_go_170 (by decide) ?_
                        refine z_istore hx dX12_go_175 (Nat.le_of_ble_eq_true rfl) rfl ?_
                        first | refine z_iincN (z := 1) hx dX12_go_177 rfl rfl ?_ | refine z_iinc hx dX12_go_177 rfl rfl rfl ?_
                        refine z_goto (tgt := 37) hx dX12_go_180 (by decide) ?_
                        first | exact absurd rfl zc125 | exact absurd zc125 (tN_ne (by omega)) | exact absurd rfl zc132 | exact absurd zc132 (tN_ne (by omega)) | (exfalso; omega) | exact z_eq (by rw [zGo_n (zGz_n zc58)] <;> rfl) rfl rfl (ih _ (by omega) (k + 1) _ _ _ rfl (by omega)) | exact z_eq (by rw [zGo_n hz9] <;> rfl) rfl rfl (ih _ (by omega) (k + 1) _ _ _ rfl (by omega)) | exact z_eq (by rw [zGo_t hz9 (by rw [hs9]; exact zLess_n)] <;> rfl) rfl rfl (ih _ (by omega) (k + 1) _ _ _ rfl (by omega)) | exact z_eq (by rw [zGo_t hz9 (by rw [hs9]; exact zLess_s (by omega))] <;> rfl) rfl rfl (ih _ (by omega) (k + 1) _ _ _ rfl (by omega)) | exact z_eq (by rw [zGo_f hz9 (by rw [hs9]; exact zLess_f (by omega)), hs9] <;> rfl) rfl rfl (ih _ (by omega) (k + 1) _ _ _ rfl (by omega)) | exact zzz_open
                    · skip
                      refine z_iload hx dX12_go_154 rfl ?_
                      refine z_goto (tgt := 161) hx dX12_go_156 (by decide) ?_
                      refine z_istore hx dX12_go_161 (Nat.le_of_ble_eq_true rfl) rfl ?_
                      refine z_iload hx dX12_go_163 rfl ?_
                      refine z_if_eqN (tgt := 173) hx dX12_go_165 (by decide) (by omega) (fun zc165 => ?_) (fun zc165 => ?_)
                      · skip
                        refine z_iload hx dX12_go_173 rfl ?_
                        refine z_istore hx dX12_go_175 (Nat.le_of_ble_eq_true rfl) rfl ?_
                        first | refine z_iincN (z := 1) hx dX12_go_177 rfl rfl ?_ | refine z_iinc hx dX12_go_177 rfl rfl rfl ?_
                        refine z_goto (tgt := 37) hx dX12_go_180 (by decide) ?_
                        first | exact absurd rfl zc125 | exact absurd zc125 (tN_ne (by omega)) | exact absurd rfl zc132 | exact absurd zc132 (tN_ne (by omega)) | (exfalso; omega) | exact z_eq (by rw [zGo_n (zGz_n zc58)] <;> rfl) rfl rfl (ih _ (by omega) (k + 1) _ _ _ rfl (by omega)) | exact z_eq (by rw [zGo_n hz9] <;> rfl) rfl rfl (ih _ (by omega) (k + 1) _ _ _ rfl (by omega)) | exact z_eq (by rw [zGo_t hz9 (by rw [hs9]; exact zLess_n)] <;> rfl) rfl rfl (ih _ (by omega) (k + 1) _ _ _ rfl (by omega)) | exact z_eq (by rw [zGo_t hz9 (by rw [hs9]; exact zLess_s (by omega))] <;> rfl) rfl rfl (ih _ (by omega) (k + 1) _ _ _ rfl (by omega)) | exact z_eq (by rw [zGo_f hz9 (by rw [hs9]; exact zLess_f (by omega)), hs9] <;> rfl) rfl rfl (ih _ (by omega) (k + 1) _ _ _ rfl (by omega)) | exact zzz_open
                      · skip
                        refine z_iload hx dX12_go_168 rfl ?_
                        refine z_goto (tgt := 175) hx dX12_go_170 (by decide) ?_
                        refine z_istore hx dX12_go_175 (Nat.le_of_ble_eq_true rfl) rfl ?_
                        first | refine z_iincN (z := 1) hx dX12_go_177 rfl rfl ?_ | refine z_iinc hx dX12_go_177 rfl rfl rfl ?_
                        refine z_goto (tgt := 37) hx dX12_go_180 (by decide) ?_
                        first | exact absurd rfl zc125 | exact absurd zc125 (tN_ne (by omega)) | exact absurd rfl zc132 | exact absurd zc132 (tN_ne (by omega)) | (exfalso; omega) | exact z_eq (by rw [zGo_n (zGz_n zc58)] <;> rfl) rfl rfl (ih _ (by omega) (k + 1) _ _ _ rfl (by omega)) | exact z_eq (by rw [zGo_n hz9] <;> rfl) rfl rfl (ih _ (by omega) (k + 1) _ _ _ rfl (by omega)) | exact z_eq (by rw [zGo_t hz9 (by rw [hs9]; exact zLess_n)] <;> rfl) rfl rfl (ih _ (by omega) (k + 1) _ _ _ rfl (by omega)) | exact z_eq (by rw [zGo_t hz9 (by rw [hs9]; exact zLess_s (by omega))] <;> rfl) rfl rfl (ih _ (by omega) (k + 1) _ _ _ rfl (by omega)) | exact z_eq (by rw [zGo_f hz9 (by rw [hs9]; exact zLess_f (by omega)), hs9] <;> rfl) rfl rfl (ih _ (by omega) (k + 1) _ _ _ rfl (by omega)) | exact zzz_open
                  · skip
                    refine z_iload hx dX12_go_135 rfl ?_
                    refine z_iload hx dX12_go_137 rfl ?_
                    first | refine z_icmp_geN (tgt := 146) hx dX12_go_139 (by decide) (by omega) (by omega) (fun zc139 => ?_) (fun zc139 => ?_) | refine z_icmp_ge (tgt := 146) hx dX12_go_139 (by decide) (fun zc139 => ?_) (fun zc139 => ?_)
                    · skip
                      refine z_iconst (v := nI 0) hx dX12_go_146 (by decide) ?_
                      refine z_istore hx dX12_go_147 (Nat.le_of_ble_eq_true rfl) rfl ?_
                      refine z_iload hx dX12_go_149 rfl ?_
                      refine z_if_eqN (tgt := 159) hx dX12_go_151 (by decide) (by omega) (fun zc151 => ?_) (fun zc151 => ?_)
                      · skip
                        refine z_iload hx dX12_go_159 rfl ?_
                        refine z_istore hx dX12_go_161 (Nat.le_of_ble_eq_true rfl) rfl ?_
                        refine z_iload hx dX12_go_163 rfl ?_
                        refine z_if_eqN (tgt := 173) hx dX12_go_165 (by decide) (by omega) (fun zc165 => ?_) (fun zc165 => ?_)
                        · skip
                          refine z_iload hx dX12_go_173 rfl ?_
                          refine z_istore hx dX12_go_175 (Nat.le_of_ble_eq_true rfl) rfl ?_
                          first | refine z_iincN (z := 1) hx dX12_go_177 rfl rfl ?_ | refine z_iinc hx dX12_go_177 rfl rfl rfl ?_
                          refine z_goto (tgt := 37) hx dX12_go_180 (by decide) ?_
                          first | exact absurd rfl zc125 | exact absurd zc125 (tN_ne (by omega)) | exact absurd rfl zc132 | exact absurd zc132 (tN_ne (by omega)) | (exfalso; omega) | exact z_eq (by rw [zGo_n (zGz_n zc58)] <;> rfl) rfl rfl (ih _ (by omega) (k + 1) _ _ _ rfl (by omega)) | exact z_eq (by rw [zGo_n hz9] <;> rfl) rfl rfl (ih _ (by omega) (k + 1) _ _ _ rfl (by omega)) | exact z_eq (by rw [zGo_t hz9 (by rw [hs9]; exact zLess_n)] <;> rfl) rfl rfl (ih _ (by omega) (k + 1) _ _ _ rfl (by omega)) | exact z_eq (by rw [zGo_t hz9 (by rw [hs9]; exact zLess_s (by omega))] <;> rfl) rfl rfl (ih _ (by omega) (k + 1) _ _ _ rfl (by omega)) | exact z_eq (by rw [zGo_f hz9 (by rw [hs9]; exact zLess_f (by omega)), hs9] <;> rfl) rfl rfl (ih _ (by omega) (k + 1) _ _ _ rfl (by omega)) | exact zzz_open
                        · skip
                          refine z_iload hx dX12_go_168 rfl ?_
                          refine z_goto (tgt := 175) hx dX12_go_170 (by decide) ?_
                          refine z_istore hx dX12_go_175 (Nat.le_of_ble_eq_true rfl) rfl ?_
                          first | refine z_iincN (z := 1) hx dX12_go_177 rfl rfl ?_ | refine z_iinc hx dX12_go_177 rfl rfl rfl ?_
                          refine z_goto (tgt := 37) hx dX12_go_180 (by decide) ?_
                          first | exact absurd rfl zc125 | exact absurd zc125 (tN_ne (by omega)) | exact absurd rfl zc132 | exact absurd zc132 (tN_ne (by omega)) | (exfalso; omega) | exact z_eq (by rw [zGo_n (zGz_n zc58)] <;> rfl) rfl rfl (ih _ (by omega) (k + 1) _ _ _ rfl (by omega)) | exact z_eq (by rw [zGo_n hz9] <;> rfl) rfl rfl (ih _ (by omega) (k + 1) _ _ _ rfl (by omega)) | exact z_eq (by rw [zGo_t hz9 (by rw [hs9]; exact zLess_n)] <;> rfl) rfl rfl (ih _ (by omega) (k + 1) _ _ _ rfl (by omega)) | exact z_eq (by rw [zGo_t hz9 (by rw [hs9]; exact zLess_s (by omega))] <;> rfl) rfl rfl (ih _ (by omega) (k + 1) _ _ _ rfl (by omega)) | exact z_eq (by rw [zGo_f hz9 (by rw [hs9]; exact zLess_f (by omega)), hs9] <;> rfl) rfl rfl (ih _ (by omega) (k + 1) _ _ _ rfl (by omega)) | exact zzz_open
                      · skip
                        refine z_iload hx dX12_go_154 rfl ?_
                        refine z_goto (tgt := 161) hx dX12_go_156 (by decide) ?_
                        refine z_istore hx dX12_go_161 (Nat.le_of_ble_eq_true rfl) rfl ?_
                        refine z_iload hx dX12_go_163 rfl ?_
                        refine z_if_eqN (tgt := 173) hx dX12_go_165 (by decide) (by omega) (fun zc165 => ?_) (fun zc165 => ?_)
                        · skip
                          refine z_iload hx dX12_go_173 rfl ?_
                          refine z_istore hx dX12_go_175 (Nat.le_of_ble_eq_true rfl) rfl ?_
                          first | refine z_iincN (z := 1) hx dX12_go_177 rfl rfl ?_ | refine z_iinc hx dX12_go_177 rfl rfl rfl ?_
                          refine z_goto (tgt := 37) hx dX12_go_180 (by decide) ?_
                          first | exact absurd rfl zc125 | exact absurd zc125 (tN_ne (by omega)) | exact absurd rfl zc132 | exact absurd zc132 (tN_ne (by omega)) | (exfalso; omega) | exact z_eq (by rw [zGo_n (zGz_n zc58)] <;> rfl) rfl rfl (ih _ (by omega) (k + 1) _ _ _ rfl (by omega)) | exact z_eq (by rw [zGo_n hz9] <;> rfl) rfl rfl (ih _ (by omega) (k + 1) _ _ _ rfl (by omega)) | exact z_eq (by rw [zGo_t hz9 (by rw [hs9]; exact zLess_n)] <;> rfl) rfl rfl (ih _ (by omega) (k + 1) _ _ _ rfl (by omega)) | exact z_eq (by rw [zGo_t hz9 (by rw [hs9]; exact zLess_s (by omega))] <;> rfl) rfl rfl (ih _ (by omega) (k + 1) _ _ _ rfl (by omega)) | exact z_eq (by rw [zGo_f hz9 (by rw [hs9]; exact zLess_f (by omega)), hs9] <;> rfl) rfl rfl (ih _ (by omega) (k + 1) _ _ _ rfl (by omega)) | exact zzz_open
                        · skip
                          refine z_iload hx dX12_go_168 rfl ?_
                          refine z_goto (tgt := 175) hx dX12_go_170 (by decide) ?_
                          refine z_istore hx dX12_go_175 (Nat.le_of_ble_eq_true rfl) rfl ?_
                          first | refine z_iincN (z := 1) hx dX12_go_177 rfl rfl ?_ | refine z_iinc hx dX12_go_177 rfl rfl rfl ?_
                          refine z_goto (tgt := 37) hx dX12_go_180 (by decide) ?_
                          first | exact absurd rfl zc125 | exact absurd zc125 (tN_ne (by omega)) | exact absurd rfl zc132 | exact absurd zc132 (tN_ne (by omega)) | (exfalso; omega) | exact z_eq (by rw [zGo_n (zGz_n zc58)] <;> rfl) rfl rfl (ih _ (by omega) (k + 1) _ _ _ rfl (by omega)) | exact z_eq (by rw [zGo_n hz9] <;> rfl) rfl rfl (ih _ (by omega) (k + 1) _ _ _ rfl (by omega)) | exact z_eq (by rw [zGo_t hz9 (by rw [hs9]; exact zLess_n)] <;> rfl) rfl rfl (ih _ (by omega) (k + 1) _ _ _ rfl (by omega)) | exact z_eq (by rw [zGo_t hz9 (by rw [hs9]; exact zLess_s (by omega))] <;> rfl) rfl rfl (ih _ (by omega) (k + 1) _ _ _ rfl (by omega)) | exact z_eq (by rw [zGo_f hz9 (by rw [hs9]; exact zLess_f (by omega)), hs9] <;> rfl) rfl rfl (ih _ (by omega) (k + 1) _ _ _ rfl (by omega)) | exact zzz_open
                    · skip
                      refine z_iconst (v := nI 1) hx dX12_go_142 (by decide) ?_
                      refine z_goto (tgt := 147) hx dX12_go_143 (by decide) ?_
                      refine z_istore hx dX12_go_147 (Nat.le_of_ble_eq_true rfl) rfl ?_
                      refine z_iload hx dX12_go_149 rfl ?_
                      refine z_if_eqN (tgt := 159) hx dX12_go_151 (by decide) (by omega) (fun zc151 => ?_) (fun zc151 => ?_)
                      · skip
                        refine z_iload hx dX12_go_159 rfl ?_
                        refine z_istore hx dX12_go_161 (Nat.le_of_ble_eq_true rfl) rfl ?_
                        refine z_iload hx dX12_go_163 rfl ?_
                        refine z_if_eqN (tgt := 173) hx dX12_go_165 (by decide) (by omega) (fun zc165 => ?_) (fun zc165 => ?_)
                        · skip
                          refine z_iload hx dX12_go_173 rfl ?_
                          refine z_istore hx dX12_go_175 (Nat.le_of_ble_eq_true rfl) rfl ?_
                          first | refine z_iincN (z := 1) hx dX12_go_177 rfl rfl ?_ | refine z_iinc hx dX12_go_177 rfl rfl rfl ?_
                          refine z_goto (tgt := 37) hx dX12_go_180 (by decide) ?_
                          first | exact absurd rfl zc125 | exact absurd zc125 (tN_ne (by omega)) | exact absurd rfl zc132 | exact absurd zc132 (tN_ne (by omega)) | (exfalso; omega) | exact z_eq (by rw [zGo_n (zGz_n zc58)] <;> rfl) rfl rfl (ih _ (by omega) (k + 1) _ _ _ rfl (by omega)) | exact z_eq (by rw [zGo_n hz9] <;> rfl) rfl rfl (ih _ (by omega) (k + 1) _ _ _ rfl (by omega)) | exact z_eq (by rw [zGo_t hz9 (by rw [hs9]; exact zLess_n)] <;> rfl) rfl rfl (ih _ (by omega) (k + 1) _ _ _ rfl (by omega)) | exact z_eq (by rw [zGo_t hz9 (by rw [hs9]; exact zLess_s (by omega))] <;> rfl) rfl rfl (ih _ (by omega) (k + 1) _ _ _ rfl (by omega)) | exact z_eq (by rw [zGo_f hz9 (by rw [hs9]; exact zLess_f (by omega)), hs9] <;> rfl) rfl rfl (ih _ (by omega) (k + 1) _ _ _ rfl (by omega)) | exact zzz_open
                        · skip
                          refine z_iload hx dX12_go_168 rfl ?_
                          refine z_goto (tgt := 175) hx dX12_go_170 (by decide) ?_
                          refine z_istore hx dX12_go_175 (Nat.le_of_ble_eq_true rfl) rfl ?_
                          first | refine z_iincN (z := 1) hx dX12_go_177 rfl rfl ?_ | refine z_iinc hx dX12_go_177 rfl rfl rfl ?_
                          refine z_goto (tgt := 37) hx dX12_go_180 (by decide) ?_
                          first | exact absurd rfl zc125 | exact absurd zc125 (tN_ne (by omega)) | exact absurd rfl zc132 | exact absurd zc132 (tN_ne (by omega)) | (exfalso; omega) | exact z_eq (by rw [zGo_n (zGz_n zc58)] <;> rfl) rfl rfl (ih _ (by omega) (k + 1) _ _ _ rfl (by omega)) | exact z_eq (by rw [zGo_n hz9] <;> rfl) rfl rfl (ih _ (by omega) (k + 1) _ _ _ rfl (by omega)) | exact z_eq (by rw [zGo_t hz9 (by rw [hs9]; exact zLess_n)] <;> rfl) rfl rfl (ih _ (by omega) (k + 1) _ _ _ rfl (by omega)) | exact z_eq (by rw [zGo_t hz9 (by rw [hs9]; exact zLess_s (by omega))] <;> rfl) rfl rfl (ih _ (by omega) (k + 1) _ _ _ rfl (by omega)) | exact z_eq (by rw [zGo_f hz9 (by rw [hs9]; exact zLess_f (by omega)), hs9] <;> rfl) rfl rfl (ih _ (by omega) (k + 1) _ _ _ rfl (by omega)) | exact zzz_open
                      · skip
                        refine z_iload hx dX12_go_154 rfl ?_
                        refine z_goto (tgt := 161) hx dX12_go_156 (by decide) ?_
                        refine z_istore hx dX12_go_161 (Nat.le_of_ble_eq_true rfl) rfl ?_
                        refine z_iload hx dX12_go_163 rfl ?_
                        refine z_if_eqN (tgt := 173) hx dX12_go_165 (by decide) (by omega) (fun zc165 => ?_) (fun zc165 => ?_)
                        · skip
                          refine z_iload hx dX12_go_173 rfl ?_
                          refine z_istore hx dX12_go_175 (Nat.le_of_ble_eq_true rfl) rfl ?_
                          first | refine z_iincN (z := 1) hx dX12_go_177 rfl rfl ?_ | refine z_iinc hx dX12_go_177 rfl rfl rfl ?_
                          refine z_goto (tgt := 37) hx dX12_go_180 (by decide) ?_
                          first | exact absurd rfl zc125 | exact absurd zc125 (tN_ne (by omega)) | exact absurd rfl zc132 | exact absurd zc132 (tN_ne (by omega)) | (exfalso; omega) | exact z_eq (by rw [zGo_n (zGz_n zc58)] <;> rfl) rfl rfl (ih _ (by omega) (k + 1) _ _ _ rfl (by omega)) | exact z_eq (by rw [zGo_n hz9] <;> rfl) rfl rfl (ih _ (by omega) (k + 1) _ _ _ rfl (by omega)) | exact z_eq (by rw [zGo_t hz9 (by rw [hs9]; exact zLess_n)] <;> rfl) rfl rfl (ih _ (by omega) (k + 1) _ _ _ rfl (by omega)) | exact z_eq (by rw [zGo_t hz9 (by rw [hs9]; exact zLess_s (by omega))] <;> rfl) rfl rfl (ih _ (by omega) (k + 1) _ _ _ rfl (by omega)) | exact z_eq (by rw [zGo_f hz9 (by rw [hs9]; exact zLess_f (by omega)), hs9] <;> rfl) rfl rfl (ih _ (by omega) (k + 1) _ _ _ rfl (by omega)) | exact zzz_open
                        · skip
                          refine z_iload hx dX12_go_168 rfl ?_
                          refine z_goto (tgt := 175) hx dX12_go_170 (by decide) ?_
                          refine z_istore hx dX12_go_175 (Nat.le_of_ble_eq_true rfl) rfl ?_
                          first | refine z_iincN (z := 1) hx dX12_go_177 rfl rfl ?_ | refine z_iinc hx dX12_go_177 rfl rfl rfl ?_
                          refine z_goto (tgt := 37) hx dX12_go_180 (by decide) ?_
                          first | exact absurd rfl zc125 | exact absurd zc125 (tN_ne (by omega)) | exact absurd rfl zc132 | exact absurd zc132 (tN_ne (by omega)) | (exfalso; omega) | exact z_eq (by rw [zGo_n (zGz_n zc58)] <;> rfl) rfl rfl (ih _ (by omega) (k + 1) _ _ _ rfl (by omega)) | exact z_eq (by rw [zGo_n hz9] <;> rfl) rfl rfl (ih _ (by omega) (k + 1) _ _ _ rfl (by omega)) | exact z_eq (by rw [zGo_t hz9 (by rw [hs9]; exact zLess_n)] <;> rfl) rfl rfl (ih _ (by omega) (k + 1) _ _ _ rfl (by omega)) | exact z_eq (by rw [zGo_t hz9 (by rw [hs9]; exact zLess_s (by omega))] <;> rfl) rfl rfl (ih _ (by omega) (k + 1) _ _ _ rfl (by omega)) | exact z_eq (by rw [zGo_f hz9 (by rw [hs9]; exact zLess_f (by omega)), hs9] <;> rfl) rfl rfl (ih _ (by omega) (k + 1) _ _ _ rfl (by omega)) | exact zzz_open
          · skip
            refine z_aload_n hx dX12_go_86 rfl ?_
            refine z_get hx dX12_go_87 fX12_25 rfl rfl ?_
            refine z_iload_n hx dX12_go_90 rfl ?_
            refine z_iconst (v := nI 4) hx dX12_go_91 (by decide) ?_
            first | refine z_iaddN hx dX12_go_92 ?_ | refine z_iadd hx dX12_go_92 ?_
            refine z_ialdJ hx dX12_go_93 rfl (by decide) (by omega) ?_
            refine z_topN (fl_T L zj) ?_
            refine z_goto (tgt := 98) hx dX12_go_94 (by decide) ?_
            refine z_topN (b := (if k = lA L zj then lT L zj else 0)) (by first | rw [if_pos zc83] | rw [if_neg zc83]) ?_
            refine z_iastN hx dX12_go_98 rfl (by decide) (by omega) ?_
            refine z_heap (show _ = hM r t L dr (fl (lsT L zj (if k = lA L zj then lT L zj else 0))) y a by rw [← fl_sT]; rfl) ?_
            refine z_aload_n hx dX12_go_99 rfl ?_
            refine z_get hx dX12_go_100 fX12_31 rfl rfl ?_
            refine z_iload_n hx dX12_go_103 rfl ?_
            refine z_iconst (v := nI 1) hx dX12_go_104 (by decide) ?_
            first | refine z_iaddN hx dX12_go_105 ?_ | refine z_iadd hx dX12_go_105 ?_
            refine z_iload hx dX12_go_106 rfl ?_
            refine z_iastN hx dX12_go_108 rfl (by decide) (by omega) ?_
            refine z_heap (show _ = hM r t L dr (fl (lsA (lsT L zj (if k = lA L zj then lT L zj else 0)) zj k)) y a by rw [← fl_sA]; rfl) ?_
            refine z_aload_n hx dX12_go_109 rfl ?_
            refine z_iconst (v := nI 1) hx dX12_go_110 (by decide) ?_
            refine z_iload_n hx dX12_go_111 rfl ?_
            first | refine z_ishl1 hx dX12_go_112 (by omega) ?_ | refine z_ishlN hx dX12_go_112 (by omega) ?_ | refine z_ishl hx dX12_go_112 ?_
            refine z_bipush (v := nI 60) hx dX12_go_113 (by decide) ?_
            refine z_iconst (v := nI 0) hx dX12_go_115 (by decide) ?_
            refine z_callivG hx (qX12_behind r t L dr y a (lsA (lsT L zj (if k = lA L zj then lT L zj else 0)) zj k) (zWf_go hw (by omega) zhj) hm (2 ^ zj) 60 0 (by omega) (by omega) (by omega)) dX12_go_116 sX12_194 rfl rfl rfl rfl (Nat.le_of_ble_eq_true rfl) rfl (Nat.le_of_ble_eq_true rfl) (by decide) (fun r116 u116 l116 q116 => ?_)
            obtain ⟨rfl, tr9, rfl⟩ := q116
            rw [← zGz_m zc58]
            refine z_istore hx dX12_go_119 (Nat.le_of_ble_eq_true rfl) rfl ?_
            rcases hz9 : zGz L zj k with _ | d9
            · skip
              skip
              refine z_iload hx dX12_go_121 rfl ?_
              refine z_ldc hx dX12_go_123 kX12_47 ?_
              refine z_icmp_eq (tgt := 146) hx dX12_go_125 (by decide) (fun zc125 => ?_) (fun zc125 => ?_)
              · skip
                refine z_iconst (v := nI 0) hx dX12_go_146 (by decide) ?_
                refine z_istore hx dX12_go_147 (Nat.le_of_ble_eq_true rfl) rfl ?_
                refine z_iload hx dX12_go_149 rfl ?_
                refine z_if_eqN (tgt := 159) hx dX12_go_151 (by decide) (by omega) (fun zc151 => ?_) (fun zc151 => ?_)
                · skip
                  refine z_iload hx dX12_go_159 rfl ?_
                  refine z_istore hx dX12_go_161 (Nat.le_of_ble_eq_true rfl) rfl ?_
                  refine z_iload hx dX12_go_163 rfl ?_
                  refine z_if_eqN (tgt := 173) hx dX12_go_165 (by decide) (by omega) (fun zc165 => ?_) (fun zc165 => ?_)
                  · skip
                    refine z_iload hx dX12_go_173 rfl ?_
                    refine z_istore hx dX12_go_175 (Nat.le_of_ble_eq_true rfl) rfl ?_
                    first | refine z_iincN (z := 1) hx dX12_go_177 rfl rfl ?_ | refine z_iinc hx dX12_go_177 rfl rfl rfl ?_
                    refine z_goto (tgt := 37) hx dX12_go_180 (by decide) ?_
                    first | exact absurd rfl zc125 | exact absurd zc125 (tN_ne (by omega)) | exact absurd rfl zc132 | exact absurd zc132 (tN_ne (by omega)) | (exfalso; omega) | exact z_eq (by rw [zGo_n (zGz_n zc58)] <;> rfl) rfl rfl (ih _ (by omega) (k + 1) _ _ _ rfl (by omega)) | exact z_eq (by rw [zGo_n hz9] <;> rfl) rfl rfl (ih _ (by omega) (k + 1) _ _ _ rfl (by omega)) | exact z_eq (by rw [zGo_t hz9 (by rw [hs9]; exact zLess_n)] <;> rfl) rfl rfl (ih _ (by omega) (k + 1) _ _ _ rfl (by omega)) | exact z_eq (by rw [zGo_t hz9 (by rw [hs9]; exact zLess_s (by omega))] <;> rfl) rfl rfl (ih _ (by omega) (k + 1) _ _ _ rfl (by omega)) | exact z_eq (by rw [zGo_f hz9 (by rw [hs9]; exact zLess_f (by omega)), hs9] <;> rfl) rfl rfl (ih _ (by omega) (k + 1) _ _ _ rfl (by omega)) | exact zzz_open
                  · skip
                    refine z_iload hx dX12_go_168 rfl ?_
                    refine z_goto (tgt := 175) hx dX12_go_170 (by decide) ?_
                    refine z_istore hx dX12_go_175 (Nat.le_of_ble_eq_true rfl) rfl ?_
                    first | refine z_iincN (z := 1) hx dX12_go_177 rfl rfl ?_ | refine z_iinc hx dX12_go_177 rfl rfl rfl ?_
                    refine z_goto (tgt := 37) hx dX12_go_180 (by decide) ?_
                    first | exact absurd rfl zc125 | exact absurd zc125 (tN_ne (by omega)) | exact absurd rfl zc132 | exact absurd zc132 (tN_ne (by omega)) | (exfalso; omega) | exact z_eq (by rw [zGo_n (zGz_n zc58)] <;> rfl) rfl rfl (ih _ (by omega) (k + 1) _ _ _ rfl (by omega)) | exact z_eq (by rw [zGo_n hz9] <;> rfl) rfl rfl (ih _ (by omega) (k + 1) _ _ _ rfl (by omega)) | exact z_eq (by rw [zGo_t hz9 (by rw [hs9]; exact zLess_n)] <;> rfl) rfl rfl (ih _ (by omega) (k + 1) _ _ _ rfl (by omega)) | exact z_eq (by rw [zGo_t hz9 (by rw [hs9]; exact zLess_s (by omega))] <;> rfl) rfl rfl (ih _ (by omega) (k + 1) _ _ _ rfl (by omega)) | exact z_eq (by rw [zGo_f hz9 (by rw [hs9]; exact zLess_f (by omega)), hs9] <;> rfl) rfl rfl (ih _ (by omega) (k + 1) _ _ _ rfl (by omega)) | exact zzz_open
                · skip
                  refine z_iload hx dX12_go_154 rfl ?_
                  refine z_goto (tgt := 161) hx dX12_go_156 (by decide) ?_
                  refine z_istore hx dX12_go_161 (Nat.le_of_ble_eq_true rfl) rfl ?_
                  refine z_iload hx dX12_go_163 rfl ?_
                  refine z_if_eqN (tgt := 173) hx dX12_go_165 (by decide) (by omega) (fun zc165 => ?_) (fun zc165 => ?_)
                  · skip
                    refine z_iload hx dX12_go_173 rfl ?_
                    refine z_istore hx dX12_go_175 (Nat.le_of_ble_eq_true rfl) rfl ?_
                    first | refine z_iincN (z := 1) hx dX12_go_177 rfl rfl ?_ | refine z_iinc hx dX12_go_177 rfl rfl rfl ?_
                    refine z_goto (tgt := 37) hx dX12_go_180 (by decide) ?_
                    first | exact absurd rfl zc125 | exact absurd zc125 (tN_ne (by omega)) | exact absurd rfl zc132 | exact absurd zc132 (tN_ne (by omega)) | (exfalso; omega) | exact z_eq (by rw [zGo_n (zGz_n zc58)] <;> rfl) rfl rfl (ih _ (by omega) (k + 1) _ _ _ rfl (by omega)) | exact z_eq (by rw [zGo_n hz9] <;> rfl) rfl rfl (ih _ (by omega) (k + 1) _ _ _ rfl (by omega)) | exact z_eq (by rw [zGo_t hz9 (by rw [hs9]; exact zLess_n)] <;> rfl) rfl rfl (ih _ (by omega) (k + 1) _ _ _ rfl (by omega)) | exact z_eq (by rw [zGo_t hz9 (by rw [hs9]; exact zLess_s (by omega))] <;> rfl) rfl rfl (ih _ (by omega) (k + 1) _ _ _ rfl (by omega)) | exact z_eq (by rw [zGo_f hz9 (by rw [hs9]; exact zLess_f (by omega)), hs9] <;> rfl) rfl rfl (ih _ (by omega) (k + 1) _ _ _ rfl (by omega)) | exact zzz_open
                  · skip
                    refine z_iload hx dX12_go_168 rfl ?_
                    refine z_goto (tgt := 175) hx dX12_go_170 (by decide) ?_
                    refine z_istore hx dX12_go_175 (Nat.le_of_ble_eq_true rfl) rfl ?_
                    first | refine z_iincN (z := 1) hx dX12_go_177 rfl rfl ?_ | refine z_iinc hx dX12_go_177 rfl rfl rfl ?_
                    refine z_goto (tgt := 37) hx dX12_go_180 (by decide) ?_
                    first | exact absurd rfl zc125 | exact absurd zc125 (tN_ne (by omega)) | exact absurd rfl zc132 | exact absurd zc132 (tN_ne (by omega)) | (exfalso; omega) | exact z_eq (by rw [zGo_n (zGz_n zc58)] <;> rfl) rfl rfl (ih _ (by omega) (k + 1) _ _ _ rfl (by omega)) | exact z_eq (by rw [zGo_n hz9] <;> rfl) rfl rfl (ih _ (by omega) (k + 1) _ _ _ rfl (by omega)) | exact z_eq (by rw [zGo_t hz9 (by rw [hs9]; exact zLess_n)] <;> rfl) rfl rfl (ih _ (by omega) (k + 1) _ _ _ rfl (by omega)) | exact z_eq (by rw [zGo_t hz9 (by rw [hs9]; exact zLess_s (by omega))] <;> rfl) rfl rfl (ih _ (by omega) (k + 1) _ _ _ rfl (by omega)) | exact z_eq (by rw [zGo_f hz9 (by rw [hs9]; exact zLess_f (by omega)), hs9] <;> rfl) rfl rfl (ih _ (by omega) (k + 1) _ _ _ rfl (by omega)) | exact zzz_open
              · skip
                rcases hs9 : (zGo L zj k).2 with _ | s9
                · skip
                  refine z_iload hx dX12_go_128 rfl ?_
                  refine z_ldc hx dX12_go_130 kX12_47 ?_
                  refine z_icmp_eq (tgt := 142) hx dX12_go_132 (by decide) (fun zc132 => ?_) (fun zc132 => ?_)
                  · skip
                    refine z_iconst (v := nI 1) hx dX12_go_142 (by decide) ?_
                    refine z_goto (tgt := 147) hx dX12_go_143 (by decide) ?_
                    refine z_istore hx dX12_go_147 (Nat.le_of_ble_eq_true rfl) rfl ?_
                    refine z_iload hx dX12_go_149 rfl ?_
                    refine z_if_eqN (tgt := 159) hx dX12_go_151 (by decide) (by omega) (fun zc151 => ?_) (fun zc151 => ?_)
                    · skip
                      refine z_iload hx dX12_go_159 rfl ?_
                      refine z_istore hx dX12_go_161 (Nat.le_of_ble_eq_true rfl) rfl ?_
                      refine z_iload hx dX12_go_163 rfl ?_
                      refine z_if_eqN (tgt := 173) hx dX12_go_165 (by decide) (by omega) (fun zc165 => ?_) (fun zc165 => ?_)
                      · skip
                        refine z_iload hx dX12_go_173 rfl ?_
                        refine z_istore hx dX12_go_175 (Nat.le_of_ble_eq_true rfl) rfl ?_
                        first | refine z_iincN (z := 1) hx dX12_go_177 rfl rfl ?_ | refine z_iinc hx dX12_go_177 rfl rfl rfl ?_
                        refine z_goto (tgt := 37) hx dX12_go_180 (by decide) ?_
                        first | exact absurd rfl zc125 | exact absurd zc125 (tN_ne (by omega)) | exact absurd rfl zc132 | exact absurd zc132 (tN_ne (by omega)) | (exfalso; omega) | exact z_eq (by rw [zGo_n (zGz_n zc58)] <;> rfl) rfl rfl (ih _ (by omega) (k + 1) _ _ _ rfl (by omega)) | exact z_eq (by rw [zGo_n hz9] <;> rfl) rfl rfl (ih _ (by omega) (k + 1) _ _ _ rfl (by omega)) | exact z_eq (by rw [zGo_t hz9 (by rw [hs9]; exact zLess_n)] <;> rfl) rfl rfl (ih _ (by omega) (k + 1) _ _ _ rfl (by omega)) | exact z_eq (by rw [zGo_t hz9 (by rw [hs9]; exact zLess_s (by omega))] <;> rfl) rfl rfl (ih _ (by omega) (k + 1) _ _ _ rfl (by omega)) | exact z_eq (by rw [zGo_f hz9 (by rw [hs9]; exact zLess_f (by omega)), hs9] <;> rfl) rfl rfl (ih _ (by omega) (k + 1) _ _ _ rfl (by omega)) | exact zzz_open
                      · skip
                        refine z_iload hx dX12_go_168 rfl ?_
                        refine z_goto (tgt := 175) hx dX12_go_170 (by decide) ?_
                        refine z_istore hx dX12_go_175 (Nat.le_of_ble_eq_true rfl) rfl ?_
                        first | refine z_iincN (z := 1) hx dX12_go_177 rfl rfl ?_ | refine z_iinc hx dX12_go_177 rfl rfl rfl ?_
                        refine z_goto (tgt := 37) hx dX12_go_180 (by decide) ?_
                        first | exact absurd rfl zc125 | exact absurd zc125 (tN_ne (by omega)) | exact absurd rfl zc132 | exact absurd zc132 (tN_ne (by omega)) | (exfalso; omega) | exact z_eq (by rw [zGo_n (zGz_n zc58)] <;> rfl) rfl rfl (ih _ (by omega) (k + 1) _ _ _ rfl (by omega)) | exact z_eq (by rw [zGo_n hz9] <;> rfl) rfl rfl (ih _ (by omega) (k + 1) _ _ _ rfl (by omega)) | exact z_eq (by rw [zGo_t hz9 (by rw [hs9]; exact zLess_n)] <;> rfl) rfl rfl (ih _ (by omega) (k + 1) _ _ _ rfl (by omega)) | exact z_eq (by rw [zGo_t hz9 (by rw [hs9]; exact zLess_s (by omega))] <;> rfl) rfl rfl (ih _ (by omega) (k + 1) _ _ _ rfl (by omega)) | exact z_eq (by rw [zGo_f hz9 (by rw [hs9]; exact zLess_f (by omega)), hs9] <;> rfl) rfl rfl (ih _ (by omega) (k + 1) _ _ _ rfl (by omega)) | exact zzz_open
                    · skip
                      refine z_iload hx dX12_go_154 rfl ?_
                      refine z_goto (tgt := 161) hx dX12_go_156 (by decide) ?_
                      refine z_istore hx dX12_go_161 (Nat.le_of_ble_eq_true rfl) rfl ?_
                      refine z_iload hx dX12_go_163 rfl ?_
                      refine z_if_eqN (tgt := 173) hx dX12_go_165 (by decide) (by omega) (fun zc165 => ?_) (fun zc165 => ?_)
                      · skip
                        refine z_iload hx dX12_go_173 rfl ?_
                        refine z_istore hx dX12_go_175 (Nat.le_of_ble_eq_true rfl) rfl ?_
                        first | refine z_iincN (z := 1) hx dX12_go_177 rfl rfl ?_ | refine z_iinc hx dX12_go_177 rfl rfl rfl ?_
                        refine z_goto (tgt := 37) hx dX12_go_180 (by decide) ?_
                        first | exact absurd rfl zc125 | exact absurd zc125 (tN_ne (by omega)) | exact absurd rfl zc132 | exact absurd zc132 (tN_ne (by omega)) | (exfalso; omega) | exact z_eq (by rw [zGo_n (zGz_n zc58)] <;> rfl) rfl rfl (ih _ (by omega) (k + 1) _ _ _ rfl (by omega)) | exact z_eq (by rw [zGo_n hz9] <;> rfl) rfl rfl (ih _ (by omega) (k + 1) _ _ _ rfl (by omega)) | exact z_eq (by rw [zGo_t hz9 (by rw [hs9]; exact zLess_n)] <;> rfl) rfl rfl (ih _ (by omega) (k + 1) _ _ _ rfl (by omega)) | exact z_eq (by rw [zGo_t hz9 (by rw [hs9]; exact zLess_s (by omega))] <;> rfl) rfl rfl (ih _ (by omega) (k + 1) _ _ _ rfl (by omega)) | exact z_eq (by rw [zGo_f hz9 (by rw [hs9]; exact zLess_f (by omega)), hs9] <;> rfl) rfl rfl (ih _ (by omega) (k + 1) _ _ _ rfl (by omega)) | exact zzz_open
                      · skip
                        refine z_iload hx dX12_go_168 rfl ?_
                        refine z_goto (tgt := 175) hx dX12_go_170 (by decide) ?_
                        refine z_istore hx dX12_go_175 (Nat.le_of_ble_eq_true rfl) rfl ?_
                        first | refine z_iincN (z := 1) hx dX12_go_177 rfl rfl ?_ | refine z_iinc hx dX12_go_177 rfl rfl rfl ?_
                        refine z_goto (tgt := 37) hx dX12_go_180 (by decide) ?_
                        first | exact absurd rfl zc125 | exact absurd zc125 (tN_ne (by omega)) | exact absurd rfl zc132 | exact absurd zc132 (tN_ne (by omega)) | (exfalso; omega) | exact z_eq (by rw [zGo_n (zGz_n zc58)] <;> rfl) rfl rfl (ih _ (by omega) (k + 1) _ _ _ rfl (by omega)) | exact z_eq (by rw [zGo_n hz9] <;> rfl) rfl rfl (ih _ (by omega) (k + 1) _ _ _ rfl (by omega)) | exact z_eq (by rw [zGo_t hz9 (by rw [hs9]; exact zLess_n)] <;> rfl) rfl rfl (ih _ (by omega) (k + 1) _ _ _ rfl (by omega)) | exact z_eq (by rw [zGo_t hz9 (by rw [hs9]; exact zLess_s (by omega))] <;> rfl) rfl rfl (ih _ (by omega) (k + 1) _ _ _ rfl (by omega)) | exact z_eq (by rw [zGo_f hz9 (by rw [hs9]; exact zLess_f (by omega)), hs9] <;> rfl) rfl rfl (ih _ (by omega) (k + 1) _ _ _ rfl (by omega)) | exact zzz_open
                  · skip
                    refine z_iload hx dX12_go_135 rfl ?_
                    refine z_iload hx dX12_go_137 rfl ?_
                    first | refine z_icmp_geN (tgt := 146) hx dX12_go_139 (by decide) (by omega) (by omega) (fun zc139 => ?_) (fun zc139 => ?_) | refine z_icmp_ge (tgt := 146) hx dX12_go_139 (by decide) (fun zc139 => ?_) (fun zc139 => ?_)
                    · skip
                      refine z_iconst (v := nI 0) hx dX12_go_146 (by decide) ?_
                      refine z_istore hx dX12_go_147 (Nat.le_of_ble_eq_true rfl) rfl ?_
                      refine z_iload hx dX12_go_149 rfl ?_
                      refine z_if_eqN (tgt := 159) hx dX12_go_151 (by decide) (by omega) (fun zc151 => ?_) (fun zc151 => ?_)
                      · skip
                        refine z_iload hx dX12_go_159 rfl ?_
                        refine z_istore hx dX12_go_161 (Nat.le_of_ble_eq_true rfl) rfl ?_
                        refine z_iload hx dX12_go_163 rfl ?_
                        refine z_if_eqN (tgt := 173) hx dX12_go_165 (by decide) (by omega) (fun zc165 => ?_) (fun zc165 => ?_)
                        · skip
                          refine z_iload hx dX12_go_173 rfl ?_
                          refine z_istore hx dX12_go_175 (Nat.le_of_ble_eq_true rfl) rfl ?_
                          first | refine z_iincN (z := 1) hx dX12_go_177 rfl rfl ?_ | refine z_iinc hx dX12_go_177 rfl rfl rfl ?_
                          refine z_goto (tgt := 37) hx dX12_go_180 (by decide) ?_
                          first | exact absurd rfl zc125 | exact absurd zc125 (tN_ne (by omega)) | exact absurd rfl zc132 | exact absurd zc132 (tN_ne (by omega)) | (exfalso; omega) | exact z_eq (by rw [zGo_n (zGz_n zc58)] <;> rfl) rfl rfl (ih _ (by omega) (k + 1) _ _ _ rfl (by omega)) | exact z_eq (by rw [zGo_n hz9] <;> rfl) rfl rfl (ih _ (by omega) (k + 1) _ _ _ rfl (by omega)) | exact z_eq (by rw [zGo_t hz9 (by rw [hs9]; exact zLess_n)] <;> rfl) rfl rfl (ih _ (by omega) (k + 1) _ _ _ rfl (by omega)) | exact z_eq (by rw [zGo_t hz9 (by rw [hs9]; exact zLess_s (by omega))] <;> rfl) rfl rfl (ih _ (by omega) (k + 1) _ _ _ rfl (by omega)) | exact z_eq (by rw [zGo_f hz9 (by rw [hs9]; exact zLess_f (by omega)), hs9] <;> rfl) rfl rfl (ih _ (by omega) (k + 1) _ _ _ rfl (by omega)) | exact zzz_open
                        · skip
                          refine z_iload hx dX12_go_168 rfl ?_
                          refine z_goto (tgt := 175) hx dX12_go_170 (by decide) ?_
                          refine z_istore hx dX12_go_175 (Nat.le_of_ble_eq_true rfl) rfl ?_
                          first | refine z_iincN (z := 1) hx dX12_go_177 rfl rfl ?_ | refine z_iinc hx dX12_go_177 rfl rfl rfl ?_
                          refine z_goto (tgt := 37) hx dX12_go_180 (by decide) ?_
                          first | exact absurd rfl zc125 | exact absurd zc125 (tN_ne (by omega)) | exact absurd rfl zc132 | exact absurd zc132 (tN_ne (by omega)) | (exfalso; omega) | exact z_eq (by rw [zGo_n (zGz_n zc58)] <;> rfl) rfl rfl (ih _ (by omega) (k + 1) _ _ _ rfl (by omega)) | exact z_eq (by rw [zGo_n hz9] <;> rfl) rfl rfl (ih _ (by omega) (k + 1) _ _ _ rfl (by omega)) | exact z_eq (by rw [zGo_t hz9 (by rw [hs9]; exact zLess_n)] <;> rfl) rfl rfl (ih _ (by omega) (k + 1) _ _ _ rfl (by omega)) | exact z_eq (by rw [zGo_t hz9 (by rw [hs9]; exact zLess_s (by omega))] <;> rfl) rfl rfl (ih _ (by omega) (k + 1) _ _ _ rfl (by omega)) | exact z_eq (by rw [zGo_f hz9 (by rw [hs9]; exact zLess_f (by omega)), hs9] <;> rfl) rfl rfl (ih _ (by omega) (k + 1) _ _ _ rfl (by omega)) | exact zzz_open
                      · skip
                        refine z_iload hx dX12_go_154 rfl ?_
                        refine z_goto (tgt := 161) hx dX12_go_156 (by decide) ?_
                        refine z_istore hx dX12_go_161 (Nat.le_of_ble_eq_true rfl) rfl ?_
                        refine z_iload hx dX12_go_163 rfl ?_
                        refine z_if_eqN (tgt := 173) hx dX12_go_165 (by decide) (by omega) (fun zc165 => ?_) (fun zc165 => ?_)
                        · skip
                          refine z_iload hx dX12_go_173 rfl ?_
                          refine z_istore hx dX12_go_175 (Nat.le_of_ble_eq_true rfl) rfl ?_
                          first | refine z_iincN (z := 1) hx dX12_go_177 rfl rfl ?_ | refine z_iinc hx dX12_go_177 rfl rfl rfl ?_
                          refine z_goto (tgt := 37) hx dX12_go_180 (by decide) ?_
                          first | exact absurd rfl zc125 | exact absurd zc125 (tN_ne (by omega)) | exact absurd rfl zc132 | exact absurd zc132 (tN_ne (by omega)) | (exfalso; omega) | exact z_eq (by rw [zGo_n (zGz_n zc58)] <;> rfl) rfl rfl (ih _ (by omega) (k + 1) _ _ _ rfl (by omega)) | exact z_eq (by rw [zGo_n hz9] <;> rfl) rfl rfl (ih _ (by omega) (k + 1) _ _ _ rfl (by omega)) | exact z_eq (by rw [zGo_t hz9 (by rw [hs9]; exact zLess_n)] <;> rfl) rfl rfl (ih _ (by omega) (k + 1) _ _ _ rfl (by omega)) | exact z_eq (by rw [zGo_t hz9 (by rw [hs9]; exact zLess_s (by omega))] <;> rfl) rfl rfl (ih _ (by omega) (k + 1) _ _ _ rfl (by omega)) | exact z_eq (by rw [zGo_f hz9 (by rw [hs9]; exact zLess_f (by omega)), hs9] <;> rfl) rfl rfl (ih _ (by omega) (k + 1) _ _ _ rfl (by omega)) | exact zzz_open
                        · skip
                          refine z_iload hx dX12_go_168 rfl ?_
                          refine z_goto (tgt := 175) hx dX12_go_170 (by decide) ?_
                          refine z_istore hx dX12_go_175 (Nat.le_of_ble_eq_true rfl) rfl ?_
                          first | refine z_iincN (z := 1) hx dX12_go_177 rfl rfl ?_ | refine z_iinc hx dX12_go_177 rfl rfl rfl ?_
                          refine z_goto (tgt := 37) hx dX12_go_180 (by decide) ?_
                          first | exact absurd rfl zc125 | exact absurd zc125 (tN_ne (by omega)) | exact absurd rfl zc132 | exact absurd zc132 (tN_ne (by omega)) | (exfalso; omega) | exact z_eq (by rw [zGo_n (zGz_n zc58)] <;> rfl) rfl rfl (ih _ (by omega) (k + 1) _ _ _ rfl (by omega)) | exact z_eq (by rw [zGo_n hz9] <;> rfl) rfl rfl (ih _ (by omega) (k + 1) _ _ _ rfl (by omega)) | exact z_eq (by rw [zGo_t hz9 (by rw [hs9]; exact zLess_n)] <;> rfl) rfl rfl (ih _ (by omega) (k + 1) _ _ _ rfl (by omega)) | exact z_eq (by rw [zGo_t hz9 (by rw [hs9]; exact zLess_s (by omega))] <;> rfl) rfl rfl (ih _ (by omega) (k + 1) _ _ _ rfl (by omega)) | exact z_eq (by rw [zGo_f hz9 (by rw [hs9]; exact zLess_f (by omega)), hs9] <;> rfl) rfl rfl (ih _ (by omega) (k + 1) _ _ _ rfl (by omega)) | exact zzz_open
                    · skip
                      refine z_iconst (v := nI 1) hx dX12_go_142 (by decide) ?_
                      refine z_goto (tgt := 147) hx dX12_go_143 (by decide) ?_
                      refine z_istore hx dX12_go_147 (Nat.le_of_ble_eq_true rfl) rfl ?_
                      refine z_iload hx dX12_go_149 rfl ?_
                      refine z_if_eqN (tgt := 159) hx dX12_go_151 (by decide) (by omega) (fun zc151 => ?_) (fun zc151 => ?_)
                      · skip
                        refine z_iload hx dX12_go_159 rfl ?_
                        refine z_istore hx dX12_go_161 (Nat.le_of_ble_eq_true rfl) rfl ?_
                        refine z_iload hx dX12_go_163 rfl ?_
                        refine z_if_eqN (tgt := 173) hx dX12_go_165 (by decide) (by omega) (fun zc165 => ?_) (fun zc165 => ?_)
                        · skip
                          refine z_iload hx dX12_go_173 rfl ?_
                          refine z_istore hx dX12_go_175 (Nat.le_of_ble_eq_true rfl) rfl ?_
                          first | refine z_iincN (z := 1) hx dX12_go_177 rfl rfl ?_ | refine z_iinc hx dX12_go_177 rfl rfl rfl ?_
                          refine z_goto (tgt := 37) hx dX12_go_180 (by decide) ?_
                          first | exact absurd rfl zc125 | exact absurd zc125 (tN_ne (by omega)) | exact absurd rfl zc132 | exact absurd zc132 (tN_ne (by omega)) | (exfalso; omega) | exact z_eq (by rw [zGo_n (zGz_n zc58)] <;> rfl) rfl rfl (ih _ (by omega) (k + 1) _ _ _ rfl (by omega)) | exact z_eq (by rw [zGo_n hz9] <;> rfl) rfl rfl (ih _ (by omega) (k + 1) _ _ _ rfl (by omega)) | exact z_eq (by rw [zGo_t hz9 (by rw [hs9]; exact zLess_n)] <;> rfl) rfl rfl (ih _ (by omega) (k + 1) _ _ _ rfl (by omega)) | exact z_eq (by rw [zGo_t hz9 (by rw [hs9]; exact zLess_s (by omega))] <;> rfl) rfl rfl (ih _ (by omega) (k + 1) _ _ _ rfl (by omega)) | exact z_eq (by rw [zGo_f hz9 (by rw [hs9]; exact zLess_f (by omega)), hs9] <;> rfl) rfl rfl (ih _ (by omega) (k + 1) _ _ _ rfl (by omega)) | exact zzz_open
                        · skip
                          refine z_iload hx dX12_go_168 rfl ?_
                          refine z_goto (tgt := 175) hx dX12_go_170 (by decide) ?_
                          refine z_istore hx dX12_go_175 (Nat.le_of_ble_eq_true rfl) rfl ?_
                          first | refine z_iincN (z := 1) hx dX12_go_177 rfl rfl ?_ | refine z_iinc hx dX12_go_177 rfl rfl rfl ?_
                          refine z_goto (tgt := 37) hx dX12_go_180 (by decide) ?_
                          first | exact absurd rfl zc125 | exact absurd zc125 (tN_ne (by omega)) | exact absurd rfl zc132 | exact absurd zc132 (tN_ne (by omega)) | (exfalso; omega) | exact z_eq (by rw [zGo_n (zGz_n zc58)] <;> rfl) rfl rfl (ih _ (by omega) (k + 1) _ _ _ rfl (by omega)) | exact z_eq (by rw [zGo_n hz9] <;> rfl) rfl rfl (ih _ (by omega) (k + 1) _ _ _ rfl (by omega)) | exact z_eq (by rw [zGo_t hz9 (by rw [hs9]; exact zLess_n)] <;> rfl) rfl rfl (ih _ (by omega) (k + 1) _ _ _ rfl (by omega)) | exact z_eq (by rw [zGo_t hz9 (by rw [hs9]; exact zLess_s (by omega))] <;> rfl) rfl rfl (ih _ (by omega) (k + 1) _ _ _ rfl (by omega)) | exact z_eq (by rw [zGo_f hz9 (by rw [hs9]; exact zLess_f (by omega)), hs9] <;> rfl) rfl rfl (ih _ (by omega) (k + 1) _ _ _ rfl (by omega)) | exact zzz_open
                      · skip
                        refine z_iload hx dX12_go_154 rfl ?_
                        refine z_goto (tgt := 161) hx dX12_go_156 (by decide) ?_
                        refine z_istore hx dX12_go_161 (Nat.le_of_ble_eq_true rfl) rfl ?_
                        refine z_iload hx dX12_go_163 rfl ?_
                        refine z_if_eqN (tgt := 173) hx dX12_go_165 (by decide) (by omega) (fun zc165 => ?_) (fun zc165 => ?_)
                        · skip
                          refine z_iload hx dX12_go_173 rfl ?_
                          refine z_istore hx dX12_go_175 (Nat.le_of_ble_eq_true rfl) rfl ?_
                          first | refine z_iincN (z := 1) hx dX12_go_177 rfl rfl ?_ | refine z_iinc hx dX12_go_177 rfl rfl rfl ?_
                          refine z_goto (tgt := 37) hx dX12_go_180 (by decide) ?_
                          first | exact absurd rfl zc125 | exact absurd zc125 (tN_ne (by omega)) | exact absurd rfl zc132 | exact absurd zc132 (tN_ne (by omega)) | (exfalso; omega) | exact z_eq (by rw [zGo_n (zGz_n zc58)] <;> rfl) rfl rfl (ih _ (by omega) (k + 1) _ _ _ rfl (by omega)) | exact z_eq (by rw [zGo_n hz9] <;> rfl) rfl rfl (ih _ (by omega) (k + 1) _ _ _ rfl (by omega)) | exact z_eq (by rw [zGo_t hz9 (by rw [hs9]; exact zLess_n)] <;> rfl) rfl rfl (ih _ (by omega) (k + 1) _ _ _ rfl (by omega)) | exact z_eq (by rw [zGo_t hz9 (by rw [hs9]; exact zLess_s (by omega))] <;> rfl) rfl rfl (ih _ (by omega) (k + 1) _ _ _ rfl (by omega)) | exact z_eq (by rw [zGo_f hz9 (by rw [hs9]; exact zLess_f (by omega)), hs9] <;> rfl) rfl rfl (ih _ (by omega) (k + 1) _ _ _ rfl (by omega)) | exact zzz_open
                        · skip
                          refine z_iload hx dX12_go_168 rfl ?_
                          refine z_goto (tgt := 175) hx dX12_go_170 (by decide) ?_
                          refine z_istore hx dX12_go_175 (Nat.le_of_ble_eq_true rfl) rfl ?_
                          first | refine z_iincN (z := 1) hx dX12_go_177 rfl rfl ?_ | refine z_iinc hx dX12_go_177 rfl rfl rfl ?_
                          refine z_goto (tgt := 37) hx dX12_go_180 (by decide) ?_
                          first | exact absurd rfl zc125 | exact absurd zc125 (tN_ne (by omega)) | exact absurd rfl zc132 | exact absurd zc132 (tN_ne (by omega)) | (exfalso; omega) | exact z_eq (by rw [zGo_n (zGz_n zc58)] <;> rfl) rfl rfl (ih _ (by omega) (k + 1) _ _ _ rfl (by omega)) | exact z_eq (by rw [zGo_n hz9] <;> rfl) rfl rfl (ih _ (by omega) (k + 1) _ _ _ rfl (by omega)) | exact z_eq (by rw [zGo_t hz9 (by rw [hs9]; exact zLess_n)] <;> rfl) rfl rfl (ih _ (by omega) (k + 1) _ _ _ rfl (by omega)) | exact z_eq (by rw [zGo_t hz9 (by rw [hs9]; exact zLess_s (by omega))] <;> rfl) rfl rfl (ih _ (by omega) (k + 1) _ _ _ rfl (by omega)) | exact z_eq (by rw [zGo_f hz9 (by rw [hs9]; exact zLess_f (by omega)), hs9] <;> rfl) rfl rfl (ih _ (by omega) (k + 1) _ _ _ rfl (by omega)) | exact zzz_open
                · skip
                  have s60 := zGo_le k s9 hs9
                  refine z_iload hx dX12_go_128 rfl ?_
                  refine z_ldc hx dX12_go_130 kX12_47 ?_
                  refine z_icmp_eq (tgt := 142) hx dX12_go_132 (by decide) (fun zc132 => ?_) (fun zc132 => ?_)
                  · skip
                    refine z_iconst (v := nI 1) hx dX12_go_142 (by decide) ?_
                    refine z_goto (tgt := 147) hx dX12_go_143 (by decide) ?_
                    refine z_istore hx dX12_go_147 (Nat.le_of_ble_eq_true rfl) rfl ?_
                    refine z_iload hx dX12_go_149 rfl ?_
                    refine z_if_eqN (tgt := 159) hx dX12_go_151 (by decide) (by omega) (fun zc151 => ?_) (fun zc151 => ?_)
                    · skip
                      refine z_iload hx dX12_go_159 rfl ?_
                      refine z_istore hx dX12_go_161 (Nat.le_of_ble_eq_true rfl) rfl ?_
                      refine z_iload hx dX12_go_163 rfl ?_
                      refine z_if_eqN (tgt := 173) hx dX12_go_165 (by decide) (by omega) (fun zc165 => ?_) (fun zc165 => ?_)
                      · skip
                        refine z_iload hx dX12_go_173 rfl ?_
                        refine z_istore hx dX12_go_175 (Nat.le_of_ble_eq_true rfl) rfl ?_
                        first | refine z_iincN (z := 1) hx dX12_go_177 rfl rfl ?_ | refine z_iinc hx dX12_go_177 rfl rfl rfl ?_
                        refine z_goto (tgt := 37) hx dX12_go_180 (by decide) ?_
                        first | exact absurd rfl zc125 | exact absurd zc125 (tN_ne (by omega)) | exact absurd rfl zc132 | exact absurd zc132 (tN_ne (by omega)) | (exfalso; omega) | exact z_eq (by rw [zGo_n (zGz_n zc58)] <;> rfl) rfl rfl (ih _ (by omega) (k + 1) _ _ _ rfl (by omega)) | exact z_eq (by rw [zGo_n hz9] <;> rfl) rfl rfl (ih _ (by omega) (k + 1) _ _ _ rfl (by omega)) | exact z_eq (by rw [zGo_t hz9 (by rw [hs9]; exact zLess_n)] <;> rfl) rfl rfl (ih _ (by omega) (k + 1) _ _ _ rfl (by omega)) | exact z_eq (by rw [zGo_t hz9 (by rw [hs9]; exact zLess_s (by omega))] <;> rfl) rfl rfl (ih _ (by omega) (k + 1) _ _ _ rfl (by omega)) | exact z_eq (by rw [zGo_f hz9 (by rw [hs9]; exact zLess_f (by omega)), hs9] <;> rfl) rfl rfl (ih _ (by omega) (k + 1) _ _ _ rfl (by omega)) | exact zzz_open
                      · skip
                        refine z_iload hx dX12_go_168 rfl ?_
                        refine z_goto (tgt := 175) hx dX12_go_170 (by decide) ?_
                        refine z_istore hx dX12_go_175 (Nat.le_of_ble_eq_true rfl) rfl ?_
                        first | refine z_iincN (z := 1) hx dX12_go_177 rfl rfl ?_ | refine z_iinc hx dX12_go_177 rfl rfl rfl ?_
                        refine z_goto (tgt := 37) hx dX12_go_180 (by decide) ?_
                        first | exact absurd rfl zc125 | exact absurd zc125 (tN_ne (by omega)) | exact absurd rfl zc132 | exact absurd zc132 (tN_ne (by omega)) | (exfalso; omega) | exact z_eq (by rw [zGo_n (zGz_n zc58)] <;> rfl) rfl rfl (ih _ (by omega) (k + 1) _ _ _ rfl (by omega)) | exact z_eq (by rw [zGo_n hz9] <;> rfl) rfl rfl (ih _ (by omega) (k + 1) _ _ _ rfl (by omega)) | exact z_eq (by rw [zGo_t hz9 (by rw [hs9]; exact zLess_n)] <;> rfl) rfl rfl (ih _ (by omega) (k + 1) _ _ _ rfl (by omega)) | exact z_eq (by rw [zGo_t hz9 (by rw [hs9]; exact zLess_s (by omega))] <;> rfl) rfl rfl (ih _ (by omega) (k + 1) _ _ _ rfl (by omega)) | exact z_eq (by rw [zGo_f hz9 (by rw [hs9]; exact zLess_f (by omega)), hs9] <;> rfl) rfl rfl (ih _ (by omega) (k + 1) _ _ _ rfl (by omega)) | exact zzz_open
                    · skip
                      refine z_iload hx dX12_go_154 rfl ?_
                      refine z_goto (tgt := 161) hx dX12_go_156 (by decide) ?_
                      refine z_istore hx dX12_go_161 (Nat.le_of_ble_eq_true rfl) rfl ?_
                      refine z_iload hx dX12_go_163 rfl ?_
                      refine z_if_eqN (tgt := 173) hx dX12_go_165 (by decide) (by omega) (fun zc165 => ?_) (fun zc165 => ?_)
                      · skip
                        refine z_iload hx dX12_go_173 rfl ?_
                        refine z_istore hx dX12_go_175 (Nat.le_of_ble_eq_true rfl) rfl ?_
                        first | refine z_iincN (z := 1) hx dX12_go_177 rfl rfl ?_ | refine z_iinc hx dX12_go_177 rfl rfl rfl ?_
                        refine z_goto (tgt := 37) hx dX12_go_180 (by decide) ?_
                        first | exact absurd rfl zc125 | exact absurd zc125 (tN_ne (by omega)) | exact absurd rfl zc132 | exact absurd zc132 (tN_ne (by omega)) | (exfalso; omega) | exact z_eq (by rw [zGo_n (zGz_n zc58)] <;> rfl) rfl rfl (ih _ (by omega) (k + 1) _ _ _ rfl (by omega)) | exact z_eq (by rw [zGo_n hz9] <;> rfl) rfl rfl (ih _ (by omega) (k + 1) _ _ _ rfl (by omega)) | exact z_eq (by rw [zGo_t hz9 (by rw [hs9]; exact zLess_n)] <;> rfl) rfl rfl (ih _ (by omega) (k + 1) _ _ _ rfl (by omega)) | exact z_eq (by rw [zGo_t hz9 (by rw [hs9]; exact zLess_s (by omega))] <;> rfl) rfl rfl (ih _ (by omega) (k + 1) _ _ _ rfl (by omega)) | exact z_eq (by rw [zGo_f hz9 (by rw [hs9]; exact zLess_f (by omega)), hs9] <;> rfl) rfl rfl (ih _ (by omega) (k + 1) _ _ _ rfl (by omega)) | exact zzz_open
                      · skip
                        refine z_iload hx dX12_go_168 rfl ?_
                        refine z_goto (tgt := 175) hx dX12_go_170 (by decide) ?_
                        refine z_istore hx dX12_go_175 (Nat.le_of_ble_eq_true rfl) rfl ?_
                        first | refine z_iincN (z := 1) hx dX12_go_177 rfl rfl ?_ | refine z_iinc hx dX12_go_177 rfl rfl rfl ?_
                        refine z_goto (tgt := 37) hx dX12_go_180 (by decide) ?_
                        first | exact absurd rfl zc125 | exact absurd zc125 (tN_ne (by omega)) | exact absurd rfl zc132 | exact absurd zc132 (tN_ne (by omega)) | (exfalso; omega) | exact z_eq (by rw [zGo_n (zGz_n zc58)] <;> rfl) rfl rfl (ih _ (by omega) (k + 1) _ _ _ rfl (by omega)) | exact z_eq (by rw [zGo_n hz9] <;> rfl) rfl rfl (ih _ (by omega) (k + 1) _ _ _ rfl (by omega)) | exact z_eq (by rw [zGo_t hz9 (by rw [hs9]; exact zLess_n)] <;> rfl) rfl rfl (ih _ (by omega) (k + 1) _ _ _ rfl (by omega)) | exact z_eq (by rw [zGo_t hz9 (by rw [hs9]; exact zLess_s (by omega))] <;> rfl) rfl rfl (ih _ (by omega) (k + 1) _ _ _ rfl (by omega)) | exact z_eq (by rw [zGo_f hz9 (by rw [hs9]; exact zLess_f (by omega)), hs9] <;> rfl) rfl rfl (ih _ (by omega) (k + 1) _ _ _ rfl (by omega)) | exact zzz_open
                  · skip
                    refine z_iload hx dX12_go_135 rfl ?_
                    refine z_iload hx dX12_go_137 rfl ?_
                    first | refine z_icmp_geN (tgt := 146) hx dX12_go_139 (by decide) (by omega) (by omega) (fun zc139 => ?_) (fun zc139 => ?_) | refine z_icmp_ge (tgt := 146) hx dX12_go_139 (by decide) (fun zc139 => ?_) (fun zc139 => ?_)
                    · skip
                      refine z_iconst (v := nI 0) hx dX12_go_146 (by decide) ?_
                      refine z_istore hx dX12_go_147 (Nat.le_of_ble_eq_true rfl) rfl ?_
                      refine z_iload hx dX12_go_149 rfl ?_
                      refine z_if_eqN (tgt := 159) hx dX12_go_151 (by decide) (by omega) (fun zc151 => ?_) (fun zc151 => ?_)
                      · skip
                        refine z_iload hx dX12_go_159 rfl ?_
                        refine z_istore hx dX12_go_161 (Nat.le_of_ble_eq_true rfl) rfl ?_
                        refine z_iload hx dX12_go_163 rfl ?_
                        refine z_if_eqN (tgt := 173) hx dX12_go_165 (by decide) (by omega) (fun zc165 => ?_) (fun zc165 => ?_)
                        · skip
                          refine z_iload hx dX12_go_173 rfl ?_
                          refine z_istore hx dX12_go_175 (Nat.le_of_ble_eq_true rfl) rfl ?_
                          first | refine z_iincN (z := 1) hx dX12_go_177 rfl rfl ?_ | refine z_iinc hx dX12_go_177 rfl rfl rfl ?_
                          refine z_goto (tgt := 37) hx dX12_go_180 (by decide) ?_
                          first | exact absurd rfl zc125 | exact absurd zc125 (tN_ne (by omega)) | exact absurd rfl zc132 | exact absurd zc132 (tN_ne (by omega)) | (exfalso; omega) | exact z_eq (by rw [zGo_n (zGz_n zc58)] <;> rfl) rfl rfl (ih _ (by omega) (k + 1) _ _ _ rfl (by omega)) | exact z_eq (by rw [zGo_n hz9] <;> rfl) rfl rfl (ih _ (by omega) (k + 1) _ _ _ rfl (by omega)) | exact z_eq (by rw [zGo_t hz9 (by rw [hs9]; exact zLess_n)] <;> rfl) rfl rfl (ih _ (by omega) (k + 1) _ _ _ rfl (by omega)) | exact z_eq (by rw [zGo_t hz9 (by rw [hs9]; exact zLess_s (by omega))] <;> rfl) rfl rfl (ih _ (by omega) (k + 1) _ _ _ rfl (by omega)) | exact z_eq (by rw [zGo_f hz9 (by rw [hs9]; exact zLess_f (by omega)), hs9] <;> rfl) rfl rfl (ih _ (by omega) (k + 1) _ _ _ rfl (by omega)) | exact zzz_open
                        · skip
                          refine z_iload hx dX12_go_168 rfl ?_
                          refine z_goto (tgt := 175) hx dX12_go_170 (by decide) ?_
                          refine z_istore hx dX12_go_175 (Nat.le_of_ble_eq_true rfl) rfl ?_
                          first | refine z_iincN (z := 1) hx dX12_go_177 rfl rfl ?_ | refine z_iinc hx dX12_go_177 rfl rfl rfl ?_
                          refine z_goto (tgt := 37) hx dX12_go_180 (by decide) ?_
                          first | exact absurd rfl zc125 | exact absurd zc125 (tN_ne (by omega)) | exact absurd rfl zc132 | exact absurd zc132 (tN_ne (by omega)) | (exfalso; omega) | exact z_eq (by rw [zGo_n (zGz_n zc58)] <;> rfl) rfl rfl (ih _ (by omega) (k + 1) _ _ _ rfl (by omega)) | exact z_eq (by rw [zGo_n hz9] <;> rfl) rfl rfl (ih _ (by omega) (k + 1) _ _ _ rfl (by omega)) | exact z_eq (by rw [zGo_t hz9 (by rw [hs9]; exact zLess_n)] <;> rfl) rfl rfl (ih _ (by omega) (k + 1) _ _ _ rfl (by omega)) | exact z_eq (by rw [zGo_t hz9 (by rw [hs9]; exact zLess_s (by omega))] <;> rfl) rfl rfl (ih _ (by omega) (k + 1) _ _ _ rfl (by omega)) | exact z_eq (by rw [zGo_f hz9 (by rw [hs9]; exact zLess_f (by omega)), hs9] <;> rfl) rfl rfl (ih _ (by omega) (k + 1) _ _ _ rfl (by omega)) | exact zzz_open
                      · skip
                        refine z_iload hx dX12_go_154 rfl ?_
                        refine z_goto (tgt := 161) hx dX12_go_156 (by decide) ?_
                        refine z_istore hx dX12_go_161 (Nat.le_of_ble_eq_true rfl) rfl ?_
                        refine z_iload hx dX12_go_163 rfl ?_
                        refine z_if_eqN (tgt := 173) hx dX12_go_165 (by decide) (by omega) (fun zc165 => ?_) (fun zc165 => ?_)
                        · skip
                          refine z_iload hx dX12_go_173 rfl ?_
                          refine z_istore hx dX12_go_175 (Nat.le_of_ble_eq_true rfl) rfl ?_
                          first | refine z_iincN (z := 1) hx dX12_go_177 rfl rfl ?_ | refine z_iinc hx dX12_go_177 rfl rfl rfl ?_
                          refine z_goto (tgt := 37) hx dX12_go_180 (by decide) ?_
                          first | exact absurd rfl zc125 | exact absurd zc125 (tN_ne (by omega)) | exact absurd rfl zc132 | exact absurd zc132 (tN_ne (by omega)) | (exfalso; omega) | exact z_eq (by rw [zGo_n (zGz_n zc58)] <;> rfl) rfl rfl (ih _ (by omega) (k + 1) _ _ _ rfl (by omega)) | exact z_eq (by rw [zGo_n hz9] <;> rfl) rfl rfl (ih _ (by omega) (k + 1) _ _ _ rfl (by omega)) | exact z_eq (by rw [zGo_t hz9 (by rw [hs9]; exact zLess_n)] <;> rfl) rfl rfl (ih _ (by omega) (k + 1) _ _ _ rfl (by omega)) | exact z_eq (by rw [zGo_t hz9 (by rw [hs9]; exact zLess_s (by omega))] <;> rfl) rfl rfl (ih _ (by omega) (k + 1) _ _ _ rfl (by omega)) | exact z_eq (by rw [zGo_f hz9 (by rw [hs9]; exact zLess_f (by omega)), hs9] <;> rfl) rfl rfl (ih _ (by omega) (k + 1) _ _ _ rfl (by omega)) | exact zzz_open
                        · skip
                          refine z_iload hx dX12_go_168 rfl ?_
                          refine z_goto (tgt := 175) hx dX12_go_170 (by decide) ?_
                          refine z_istore hx dX12_go_175 (Nat.le_of_ble_eq_true rfl) rfl ?_
                          first | refine z_iincN (z := 1) hx dX12_go_177 rfl rfl ?_ | refine z_iinc hx dX12_go_177 rfl rfl rfl ?_
                          refine z_goto (tgt := 37) hx dX12_go_180 (by decide) ?_
                          first | exact absurd rfl zc125 | exact absurd zc125 (tN_ne (by omega)) | exact absurd rfl zc132 | exact absurd zc132 (tN_ne (by omega)) | (exfalso; omega) | exact z_eq (by rw [zGo_n (zGz_n zc58)] <;> rfl) rfl rfl (ih _ (by omega) (k + 1) _ _ _ rfl (by omega)) | exact z_eq (by rw [zGo_n hz9] <;> rfl) rfl rfl (ih _ (by omega) (k + 1) _ _ _ rfl (by omega)) | exact z_eq (by rw [zGo_t hz9 (by rw [hs9]; exact zLess_n)] <;> rfl) rfl rfl (ih _ (by omega) (k + 1) _ _ _ rfl (by omega)) | exact z_eq (by rw [zGo_t hz9 (by rw [hs9]; exact zLess_s (by omega))] <;> rfl) rfl rfl (ih _ (by omega) (k + 1) _ _ _ rfl (by omega)) | exact z_eq (by rw [zGo_f hz9 (by rw [hs9]; exact zLess_f (by omega)), hs9] <;> rfl) rfl rfl (ih _ (by omega) (k + 1) _ _ _ rfl (by omega)) | exact zzz_open
                    · skip
                      refine z_iconst (v := nI 1) hx dX12_go_142 (by decide) ?_
                      refine z_goto (tgt := 147) hx dX12_go_143 (by decide) ?_
                      refine z_istore hx dX12_go_147 (Nat.le_of_ble_eq_true rfl) rfl ?_
                      refine z_iload hx dX12_go_149 rfl ?_
                      refine z_if_eqN (tgt := 159) hx dX12_go_151 (by decide) (by omega) (fun zc151 => ?_) (fun zc151 => ?_)
                      · skip
                        refine z_iload hx dX12_go_159 rfl ?_
                        refine z_istore hx dX12_go_161 (Nat.le_of_ble_eq_true rfl) rfl ?_
                        refine z_iload hx dX12_go_163 rfl ?_
                        refine z_if_eqN (tgt := 173) hx dX12_go_165 (by decide) (by omega) (fun zc165 => ?_) (fun zc165 => ?_)
                        · skip
                          refine z_iload hx dX12_go_173 rfl ?_
                          refine z_istore hx dX12_go_175 (Nat.le_of_ble_eq_true rfl) rfl ?_
                          first | refine z_iincN (z := 1) hx dX12_go_177 rfl rfl ?_ | refine z_iinc hx dX12_go_177 rfl rfl rfl ?_
                          refine z_goto (tgt := 37) hx dX12_go_180 (by decide) ?_
                          first | exact absurd rfl zc125 | exact absurd zc125 (tN_ne (by omega)) | exact absurd rfl zc132 | exact absurd zc132 (tN_ne (by omega)) | (exfalso; omega) | exact z_eq (by rw [zGo_n (zGz_n zc58)] <;> rfl) rfl rfl (ih _ (by omega) (k + 1) _ _ _ rfl (by omega)) | exact z_eq (by rw [zGo_n hz9] <;> rfl) rfl rfl (ih _ (by omega) (k + 1) _ _ _ rfl (by omega)) | exact z_eq (by rw [zGo_t hz9 (by rw [hs9]; exact zLess_n)] <;> rfl) rfl rfl (ih _ (by omega) (k + 1) _ _ _ rfl (by omega)) | exact z_eq (by rw [zGo_t hz9 (by rw [hs9]; exact zLess_s (by omega))] <;> rfl) rfl rfl (ih _ (by omega) (k + 1) _ _ _ rfl (by omega)) | exact z_eq (by rw [zGo_f hz9 (by rw [hs9]; exact zLess_f (by omega)), hs9] <;> rfl) rfl rfl (ih _ (by omega) (k + 1) _ _ _ rfl (by omega)) | exact zzz_open
                        · skip
                          refine z_iload hx dX12_go_168 rfl ?_
                          refine z_goto (tgt := 175) hx dX12_go_170 (by decide) ?_
                          refine z_istore hx dX12_go_175 (Nat.le_of_ble_eq_true rfl) rfl ?_
                          first | refine z_iincN (z := 1) hx dX12_go_177 rfl rfl ?_ | refine z_iinc hx dX12_go_177 rfl rfl rfl ?_
                          refine z_goto (tgt := 37) hx dX12_go_180 (by decide) ?_
                          first | exact absurd rfl zc125 | exact absurd zc125 (tN_ne (by omega)) | exact absurd rfl zc132 | exact absurd zc132 (tN_ne (by omega)) | (exfalso; omega) | exact z_eq (by rw [zGo_n (zGz_n zc58)] <;> rfl) rfl rfl (ih _ (by omega) (k + 1) _ _ _ rfl (by omega)) | exact z_eq (by rw [zGo_n hz9] <;> rfl) rfl rfl (ih _ (by omega) (k + 1) _ _ _ rfl (by omega)) | exact z_eq (by rw [zGo_t hz9 (by rw [hs9]; exact zLess_n)] <;> rfl) rfl rfl (ih _ (by omega) (k + 1) _ _ _ rfl (by omega)) | exact z_eq (by rw [zGo_t hz9 (by rw [hs9]; exact zLess_s (by omega))] <;> rfl) rfl rfl (ih _ (by omega) (k + 1) _ _ _ rfl (by omega)) | exact z_eq (by rw [zGo_f hz9 (by rw [hs9]; exact zLess_f (by omega)), hs9] <;> rfl) rfl rfl (ih _ (by omega) (k + 1) _ _ _ rfl (by omega)) | exact zzz_open
                      · skip
                        refine z_iload hx dX12_go_154 rfl ?_
                        refine z_goto (tgt := 161) hx dX12_go_156 (by decide) ?_
                        refine z_istore hx dX12_go_161 (Nat.le_of_ble_eq_true rfl) rfl ?_
                        refine z_iload hx dX12_go_163 rfl ?_
                        refine z_if_eqN (tgt := 173) hx dX12_go_165 (by decide) (by omega) (fun zc165 => ?_) (fun zc165 => ?_)
                        · skip
                          refine z_iload hx dX12_go_173 rfl ?_
                          refine z_istore hx dX12_go_175 (Nat.le_of_ble_eq_true rfl) rfl ?_
                          first | refine z_iincN (z := 1) hx dX12_go_177 rfl rfl ?_ | refine z_iinc hx dX12_go_177 rfl rfl rfl ?_
                          refine z_goto (tgt := 37) hx dX12_go_180 (by decide) ?_
                          first | exact absurd rfl zc125 | exact absurd zc125 (tN_ne (by omega)) | exact absurd rfl zc132 | exact absurd zc132 (tN_ne (by omega)) | (exfalso; omega) | exact z_eq (by rw [zGo_n (zGz_n zc58)] <;> rfl) rfl rfl (ih _ (by omega) (k + 1) _ _ _ rfl (by omega)) | exact z_eq (by rw [zGo_n hz9] <;> rfl) rfl rfl (ih _ (by omega) (k + 1) _ _ _ rfl (by omega)) | exact z_eq (by rw [zGo_t hz9 (by rw [hs9]; exact zLess_n)] <;> rfl) rfl rfl (ih _ (by omega) (k + 1) _ _ _ rfl (by omega)) | exact z_eq (by rw [zGo_t hz9 (by rw [hs9]; exact zLess_s (by omega))] <;> rfl) rfl rfl (ih _ (by omega) (k + 1) _ _ _ rfl (by omega)) | exact z_eq (by rw [zGo_f hz9 (by rw [hs9]; exact zLess_f (by omega)), hs9] <;> rfl) rfl rfl (ih _ (by omega) (k + 1) _ _ _ rfl (by omega)) | exact zzz_open
                        · skip
                          refine z_iload hx dX12_go_168 rfl ?_
                          refine z_goto (tgt := 175) hx dX12_go_170 (by decide) ?_
                          refine z_istore hx dX12_go_175 (Nat.le_of_ble_eq_true rfl) rfl ?_
                          first | refine z_iincN (z := 1) hx dX12_go_177 rfl rfl ?_ | refine z_iinc hx dX12_go_177 rfl rfl rfl ?_
                          refine z_goto (tgt := 37) hx dX12_go_180 (by decide) ?_
                          first | exact absurd rfl zc125 | exact absurd zc125 (tN_ne (by omega)) | exact absurd rfl zc132 | exact absurd zc132 (tN_ne (by omega)) | (exfalso; omega) | exact z_eq (by rw [zGo_n (zGz_n zc58)] <;> rfl) rfl rfl (ih _ (by omega) (k + 1) _ _ _ rfl (by omega)) | exact z_eq (by rw [zGo_n hz9] <;> rfl) rfl rfl (ih _ (by omega) (k + 1) _ _ _ rfl (by omega)) | exact z_eq (by rw [zGo_t hz9 (by rw [hs9]; exact zLess_n)] <;> rfl) rfl rfl (ih _ (by omega) (k + 1) _ _ _ rfl (by omega)) | exact z_eq (by rw [zGo_t hz9 (by rw [hs9]; exact zLess_s (by omega))] <;> rfl) rfl rfl (ih _ (by omega) (k + 1) _ _ _ rfl (by omega)) | exact z_eq (by rw [zGo_f hz9 (by rw [hs9]; exact zLess_f (by omega)), hs9] <;> rfl) rfl rfl (ih _ (by omega) (k + 1) _ _ _ rfl (by omega)) | exact zzz_open
            · skip
              have d60 := zGz_le hz9
              refine z_iload hx dX12_go_121 rfl ?_
              refine z_ldc hx dX12_go_123 kX12_47 ?_
              refine z_icmp_eq (tgt := 146) hx dX12_go_125 (by decide) (fun zc125 => ?_) (fun zc125 => ?_)
              · skip
                refine z_iconst (v := nI 0) hx dX12_go_146 (by decide) ?_
                refine z_istore hx dX12_go_147 (Nat.le_of_ble_eq_true rfl) rfl ?_
                refine z_iload hx dX12_go_149 rfl ?_
                refine z_if_eqN (tgt := 159) hx dX12_go_151 (by decide) (by omega) (fun zc151 => ?_) (fun zc151 => ?_)
                · skip
                  refine z_iload hx dX12_go_159 rfl ?_
                  refine z_istore hx dX12_go_161 (Nat.le_of_ble_eq_true rfl) rfl ?_
                  refine z_iload hx dX12_go_163 rfl ?_
                  refine z_if_eqN (tgt := 173) hx dX12_go_165 (by decide) (by omega) (fun zc165 => ?_) (fun zc165 => ?_)
                  · skip
                    refine z_iload hx dX12_go_173 rfl ?_
                    refine z_istore hx dX12_go_175 (Nat.le_of_ble_eq_true rfl) rfl ?_
                    first | refine z_iincN (z := 1) hx dX12_go_177 rfl rfl ?_ | refine z_iinc hx dX12_go_177 rfl rfl rfl ?_
                    refine z_goto (tgt := 37) hx dX12_go_180 (by decide) ?_
                    first | exact absurd rfl zc125 | exact absurd zc125 (tN_ne (by omega)) | exact absurd rfl zc132 | exact absurd zc132 (tN_ne (by omega)) | (exfalso; omega) | exact z_eq (by rw [zGo_n (zGz_n zc58)] <;> rfl) rfl rfl (ih _ (by omega) (k + 1) _ _ _ rfl (by omega)) | exact z_eq (by rw [zGo_n hz9] <;> rfl) rfl rfl (ih _ (by omega) (k + 1) _ _ _ rfl (by omega)) | exact z_eq (by rw [zGo_t hz9 (by rw [hs9]; exact zLess_n)] <;> rfl) rfl rfl (ih _ (by omega) (k + 1) _ _ _ rfl (by omega)) | exact z_eq (by rw [zGo_t hz9 (by rw [hs9]; exact zLess_s (by omega))] <;> rfl) rfl rfl (ih _ (by omega) (k + 1) _ _ _ rfl (by omega)) | exact z_eq (by rw [zGo_f hz9 (by rw [hs9]; exact zLess_f (by omega)), hs9] <;> rfl) rfl rfl (ih _ (by omega) (k + 1) _ _ _ rfl (by omega)) | exact zzz_open
                  · skip
                    refine z_iload hx dX12_go_168 rfl ?_
                    refine z_goto (tgt := 175) hx dX12_go_170 (by decide) ?_
                    refine z_istore hx dX12_go_175 (Nat.le_of_ble_eq_true rfl) rfl ?_
                    first | refine z_iincN (z := 1) hx dX12_go_177 rfl rfl ?_ | refine z_iinc hx dX12_go_177 rfl rfl rfl ?_
                    refine z_goto (tgt := 37) hx dX12_go_180 (by decide) ?_
                    first | exact absurd rfl zc125 | exact absurd zc125 (tN_ne (by omega)) | exact absurd rfl zc132 | exact absurd zc132 (tN_ne (by omega)) | (exfalso; omega) | exact z_eq (by rw [zGo_n (zGz_n zc58)] <;> rfl) rfl rfl (ih _ (by omega) (k + 1) _ _ _ rfl (by omega)) | exact z_eq (by rw [zGo_n hz9] <;> rfl) rfl rfl (ih _ (by omega) (k + 1) _ _ _ rfl (by omega)) | exact z_eq (by rw [zGo_t hz9 (by rw [hs9]; exact zLess_n)] <;> rfl) rfl rfl (ih _ (by omega) (k + 1) _ _ _ rfl (by omega)) | exact z_eq (by rw [zGo_t hz9 (by rw [hs9]; exact zLess_s (by omega))] <;> rfl) rfl rfl (ih _ (by omega) (k + 1) _ _ _ rfl (by omega)) | exact z_eq (by rw [zGo_f hz9 (by rw [hs9]; exact zLess_f (by omega)), hs9] <;> rfl) rfl rfl (ih _ (by omega) (k + 1) _ _ _ rfl (by omega)) | exact zzz_open
                · skip
                  refine z_iload hx dX12_go_154 rfl ?_
                  refine z_goto (tgt := 161) hx dX12_go_156 (by decide) ?_
                  refine z_istore hx dX12_go_161 (Nat.le_of_ble_eq_true rfl) rfl ?_
                  refine z_iload hx dX12_go_163 rfl ?_
                  refine z_if_eqN (tgt := 173) hx dX12_go_165 (by decide) (by omega) (fun zc165 => ?_) (fun zc165 => ?_)
                  · skip
                    refine z_iload hx dX12_go_173 rfl ?_
                    refine z_istore hx dX12_go_175 (Nat.le_of_ble_eq_true rfl) rfl ?_
                    first | refine z_iincN (z := 1) hx dX12_go_177 rfl rfl ?_ | refine z_iinc hx dX12_go_177 rfl rfl rfl ?_
                    refine z_goto (tgt := 37) hx dX12_go_180 (by decide) ?_
                    first | exact absurd rfl zc125 | exact absurd zc125 (tN_ne (by omega)) | exact absurd rfl zc132 | exact absurd zc132 (tN_ne (by omega)) | (exfalso; omega) | exact z_eq (by rw [zGo_n (zGz_n zc58)] <;> rfl) rfl rfl (ih _ (by omega) (k + 1) _ _ _ rfl (by omega)) | exact z_eq (by rw [zGo_n hz9] <;> rfl) rfl rfl (ih _ (by omega) (k + 1) _ _ _ rfl (by omega)) | exact z_eq (by rw [zGo_t hz9 (by rw [hs9]; exact zLess_n)] <;> rfl) rfl rfl (ih _ (by omega) (k + 1) _ _ _ rfl (by omega)) | exact z_eq (by rw [zGo_t hz9 (by rw [hs9]; exact zLess_s (by omega))] <;> rfl) rfl rfl (ih _ (by omega) (k + 1) _ _ _ rfl (by omega)) | exact z_eq (by rw [zGo_f hz9 (by rw [hs9]; exact zLess_f (by omega)), hs9] <;> rfl) rfl rfl (ih _ (by omega) (k + 1) _ _ _ rfl (by omega)) | exact zzz_open
                  · skip
                    refine z_iload hx dX12_go_168 rfl ?_
                    refine z_goto (tgt := 175) hx dX12_go_170 (by decide) ?_
                    refine z_istore hx dX12_go_175 (Nat.le_of_ble_eq_true rfl) rfl ?_
                    first | refine z_iincN (z := 1) hx dX12_go_177 rfl rfl ?_ | refine z_iinc hx dX12_go_177 rfl rfl rfl ?_
                    refine z_goto (tgt := 37) hx dX12_go_180 (by decide) ?_
                    first | exact absurd rfl zc125 | exact absurd zc125 (tN_ne (by omega)) | exact absurd rfl zc132 | exact absurd zc132 (tN_ne (by omega)) | (exfalso; omega) | exact z_eq (by rw [zGo_n (zGz_n zc58)] <;> rfl) rfl rfl (ih _ (by omega) (k + 1) _ _ _ rfl (by omega)) | exact z_eq (by rw [zGo_n hz9] <;> rfl) rfl rfl (ih _ (by omega) (k + 1) _ _ _ rfl (by omega)) | exact z_eq (by rw [zGo_t hz9 (by rw [hs9]; exact zLess_n)] <;> rfl) rfl rfl (ih _ (by omega) (k + 1) _ _ _ rfl (by omega)) | exact z_eq (by rw [zGo_t hz9 (by rw [hs9]; exact zLess_s (by omega))] <;> rfl) rfl rfl (ih _ (by omega) (k + 1) _ _ _ rfl (by omega)) | exact z_eq (by rw [zGo_f hz9 (by rw [hs9]; exact zLess_f (by omega)), hs9] <;> rfl) rfl rfl (ih _ (by omega) (k + 1) _ _ _ rfl (by omega)) | exact zzz_open
              · skip
                rcases hs9 : (zGo L zj k).2 with _ | s9
                · skip
                  refine z_iload hx dX12_go_128 rfl ?_
                  refine z_ldc hx dX12_go_130 kX12_47 ?_
                  refine z_icmp_eq (tgt := 142) hx dX12_go_132 (by decide) (fun zc132 => ?_) (fun zc132 => ?_)
                  · skip
                    refine z_iconst (v := nI 1) hx dX12_go_142 (by decide) ?_
                    refine z_goto (tgt := 147) hx dX12_go_143 (by decide) ?_
                    refine z_istore hx dX12_go_147 (Nat.le_of_ble_eq_true rfl) rfl ?_
                    refine z_iload hx dX12_go_149 rfl ?_
                    refine z_if_eqN (tgt := 159) hx dX12_go_151 (by decide) (by omega) (fun zc151 => ?_) (fun zc151 => ?_)
                    · skip
                      refine z_iload hx dX12_go_159 rfl ?_
                      refine z_istore hx dX12_go_161 (Nat.le_of_ble_eq_true rfl) rfl ?_
                      refine z_iload hx dX12_go_163 rfl ?_
                      refine z_if_eqN (tgt := 173) hx dX12_go_165 (by decide) (by omega) (fun zc165 => ?_) (fun zc165 => ?_)
                      · skip
                        refine z_iload hx dX12_go_173 rfl ?_
                        refine z_istore hx dX12_go_175 (Nat.le_of_ble_eq_true rfl) rfl ?_
                        first | refine z_iincN (z := 1) hx dX12_go_177 rfl rfl ?_ | refine z_iinc hx dX12_go_177 rfl rfl rfl ?_
                        refine z_goto (tgt := 37) hx dX12_go_180 (by decide) ?_
                        first | exact absurd rfl zc125 | exact absurd zc125 (tN_ne (by omega)) | exact absurd rfl zc132 | exact absurd zc132 (tN_ne (by omega)) | (exfalso; omega) | exact z_eq (by rw [zGo_n (zGz_n zc58)] <;> rfl) rfl rfl (ih _ (by omega) (k + 1) _ _ _ rfl (by omega)) | exact z_eq (by rw [zGo_n hz9] <;> rfl) rfl rfl (ih _ (by omega) (k + 1) _ _ _ rfl (by omega)) | exact z_eq (by rw [zGo_t hz9 (by rw [hs9]; exact zLess_n)] <;> rfl) rfl rfl (ih _ (by omega) (k + 1) _ _ _ rfl (by omega)) | exact z_eq (by rw [zGo_t hz9 (by rw [hs9]; exact zLess_s (by omega))] <;> rfl) rfl rfl (ih _ (by omega) (k + 1) _ _ _ rfl (by omega)) | exact z_eq (by rw [zGo_f hz9 (by rw [hs9]; exact zLess_f (by omega)), hs9] <;> rfl) rfl rfl (ih _ (by omega) (k + 1) _ _ _ rfl (by omega)) | exact zzz_open
                      · skip
                        refine z_iload hx dX12_go_168 rfl ?_
                        refine z_goto (tgt := 175) hx dX12_go_170 (by decide) ?_
                        refine z_istore hx dX12_go_175 (Nat.le_of_ble_eq_true rfl) rfl ?_
                        first | refine z_iincN (z := 1) hx dX12_go_177 rfl rfl ?_ | refine z_iinc hx dX12_go_177 rfl rfl rfl ?_
                        refine z_goto (tgt := 37) hx dX12_go_180 (by decide) ?_
                        first | exact absurd rfl zc125 | exact absurd zc125 (tN_ne (by omega)) | exact absurd rfl zc132 | exact absurd zc132 (tN_ne (by omega)) | (exfalso; omega) | exact z_eq (by rw [zGo_n (zGz_n zc58)] <;> rfl) rfl rfl (ih _ (by omega) (k + 1) _ _ _ rfl (by omega)) | exact z_eq (by rw [zGo_n hz9] <;> rfl) rfl rfl (ih _ (by omega) (k + 1) _ _ _ rfl (by omega)) | exact z_eq (by rw [zGo_t hz9 (by rw [hs9]; exact zLess_n)] <;> rfl) rfl rfl (ih _ (by omega) (k + 1) _ _ _ rfl (by omega)) | exact z_eq (by rw [zGo_t hz9 (by rw [hs9]; exact zLess_s (by omega))] <;> rfl) rfl rfl (ih _ (by omega) (k + 1) _ _ _ rfl (by omega)) | exact z_eq (by rw [zGo_f hz9 (by rw [hs9]; exact zLess_f (by omega)), hs9] <;> rfl) rfl rfl (ih _ (by omega) (k + 1) _ _ _ rfl (by omega)) | exact zzz_open
                    · skip
                      refine z_iload hx dX12_go_154 rfl ?_
                      refine z_goto (tgt := 161) hx dX12_go_156 (by decide) ?_
                      refine z_istore hx dX12_go_161 (Nat.le_of_ble_eq_true rfl) rfl ?_
                      refine z_iload hx dX12_go_163 rfl ?_
                      refine z_if_eqN (tgt := 173) hx dX12_go_165 (by decide) (by omega) (fun zc165 => ?_) (fun zc165 => ?_)
                      · skip
                        refine z_iload hx dX12_go_173 rfl ?_
                        refine z_istore hx dX12_go_175 (Nat.le_of_ble_eq_true rfl) rfl ?_
                        first | refine z_iincN (z := 1) hx dX12_go_177 rfl rfl ?_ | refine z_iinc hx dX12_go_177 rfl rfl rfl ?_
                        refine z_goto (tgt := 37) hx dX12_go_180 (by decide) ?_
                        first | exact absurd rfl zc125 | exact absurd zc125 (tN_ne (by omega)) | exact absurd rfl zc132 | exact absurd zc132 (tN_ne (by omega)) | (exfalso; omega) | exact z_eq (by rw [zGo_n (zGz_n zc58)] <;> rfl) rfl rfl (ih _ (by omega) (k + 1) _ _ _ rfl (by omega)) | exact z_eq (by rw [zGo_n hz9] <;> rfl) rfl rfl (ih _ (by omega) (k + 1) _ _ _ rfl (by omega)) | exact z_eq (by rw [zGo_t hz9 (by rw [hs9]; exact zLess_n)] <;> rfl) rfl rfl (ih _ (by omega) (k + 1) _ _ _ rfl (by omega)) | exact z_eq (by rw [zGo_t hz9 (by rw [hs9]; exact zLess_s (by omega))] <;> rfl) rfl rfl (ih _ (by omega) (k + 1) _ _ _ rfl (by omega)) | exact z_eq (by rw [zGo_f hz9 (by rw [hs9]; exact zLess_f (by omega)), hs9] <;> rfl) rfl rfl (ih _ (by omega) (k + 1) _ _ _ rfl (by omega)) | exact zzz_open
                      · skip
                        refine z_iload hx dX12_go_168 rfl ?_
                        refine z_goto (tgt := 175) hx dX12_go_170 (by decide) ?_
                        refine z_istore hx dX12_go_175 (Nat.le_of_ble_eq_true rfl) rfl ?_
                        first | refine z_iincN (z := 1) hx dX12_go_177 rfl rfl ?_ | refine z_iinc hx dX12_go_177 rfl rfl rfl ?_
                        refine z_goto (tgt := 37) hx dX12_go_180 (by decide) ?_
                        first | exact absurd rfl zc125 | exact absurd zc125 (tN_ne (by omega)) | exact absurd rfl zc132 | exact absurd zc132 (tN_ne (by omega)) | (exfalso; omega) | exact z_eq (by rw [zGo_n (zGz_n zc58)] <;> rfl) rfl rfl (ih _ (by omega) (k + 1) _ _ _ rfl (by omega)) | exact z_eq (by rw [zGo_n hz9] <;> rfl) rfl rfl (ih _ (by omega) (k + 1) _ _ _ rfl (by omega)) | exact z_eq (by rw [zGo_t hz9 (by rw [hs9]; exact zLess_n)] <;> rfl) rfl rfl (ih _ (by omega) (k + 1) _ _ _ rfl (by omega)) | exact z_eq (by rw [zGo_t hz9 (by rw [hs9]; exact zLess_s (by omega))] <;> rfl) rfl rfl (ih _ (by omega) (k + 1) _ _ _ rfl (by omega)) | exact z_eq (by rw [zGo_f hz9 (by rw [hs9]; exact zLess_f (by omega)), hs9] <;> rfl) rfl rfl (ih _ (by omega) (k + 1) _ _ _ rfl (by omega)) | exact zzz_open
                  · skip
                    refine z_iload hx dX12_go_135 rfl ?_
                    refine z_iload hx dX12_go_137 rfl ?_
                    first | refine z_icmp_geN (tgt := 146) hx dX12_go_139 (by decide) (by omega) (by omega) (fun zc139 => ?_) (fun zc139 => ?_) | refine z_icmp_ge (tgt := 146) hx dX12_go_139 (by decide) (fun zc139 => ?_) (fun zc139 => ?_)
                    · skip
                      refine z_iconst (v := nI 0) hx dX12_go_146 (by decide) ?_
                      refine z_istore hx dX12_go_147 (Nat.le_of_ble_eq_true rfl) rfl ?_
                      refine z_iload hx dX12_go_149 rfl ?_
                      refine z_if_eqN (tgt := 159) hx dX12_go_151 (by decide) (by omega) (fun zc151 => ?_) (fun zc151 => ?_)
                      · skip
                        refine z_iload hx dX12_go_159 rfl ?_
                        refine z_istore hx dX12_go_161 (Nat.le_of_ble_eq_true rfl) rfl ?_
                        refine z_iload hx dX12_go_163 rfl ?_
                        refine z_if_eqN (tgt := 173) hx dX12_go_165 (by decide) (by omega) (fun zc165 => ?_) (fun zc165 => ?_)
                        · skip
                          refine z_iload hx dX12_go_173 rfl ?_
                          refine z_istore hx dX12_go_175 (Nat.le_of_ble_eq_true rfl) rfl ?_
                          first | refine z_iincN (z := 1) hx dX12_go_177 rfl rfl ?_ | refine z_iinc hx dX12_go_177 rfl rfl rfl ?_
                          refine z_goto (tgt := 37) hx dX12_go_180 (by decide) ?_
                          first | exact absurd rfl zc125 | exact absurd zc125 (tN_ne (by omega)) | exact absurd rfl zc132 | exact absurd zc132 (tN_ne (by omega)) | (exfalso; omega) | exact z_eq (by rw [zGo_n (zGz_n zc58)] <;> rfl) rfl rfl (ih _ (by omega) (k + 1) _ _ _ rfl (by omega)) | exact z_eq (by rw [zGo_n hz9] <;> rfl) rfl rfl (ih _ (by omega) (k + 1) _ _ _ rfl (by omega)) | exact z_eq (by rw [zGo_t hz9 (by rw [hs9]; exact zLess_n)] <;> rfl) rfl rfl (ih _ (by omega) (k + 1) _ _ _ rfl (by omega)) | exact z_eq (by rw [zGo_t hz9 (by rw [hs9]; exact zLess_s (by omega))] <;> rfl) rfl rfl (ih _ (by omega) (k + 1) _ _ _ rfl (by omega)) | exact z_eq (by rw [zGo_f hz9 (by rw [hs9]; exact zLess_f (by omega)), hs9] <;> rfl) rfl rfl (ih _ (by omega) (k + 1) _ _ _ rfl (by omega)) | exact zzz_open
                        · skip
                          refine z_iload hx dX12_go_168 rfl ?_
                          refine z_goto (tgt := 175) hx dX12_go_170 (by decide) ?_
                          refine z_istore hx dX12_go_175 (Nat.le_of_ble_eq_true rfl) rfl ?_
                          first | refine z_iincN (z := 1) hx dX12_go_177 rfl rfl ?_ | refine z_iinc hx dX12_go_177 rfl rfl rfl ?_
                          refine z_goto (tgt := 37) hx dX12_go_180 (by decide) ?_
                          first | exact absurd rfl zc125 | exact absurd zc125 (tN_ne (by omega)) | exact absurd rfl zc132 | exact absurd zc132 (tN_ne (by omega)) | (exfalso; omega) | exact z_eq (by rw [zGo_n (zGz_n zc58)] <;> rfl) rfl rfl (ih _ (by omega) (k + 1) _ _ _ rfl (by omega)) | exact z_eq (by rw [zGo_n hz9] <;> rfl) rfl rfl (ih _ (by omega) (k + 1) _ _ _ rfl (by omega)) | exact z_eq (by rw [zGo_t hz9 (by rw [hs9]; exact zLess_n)] <;> rfl) rfl rfl (ih _ (by omega) (k + 1) _ _ _ rfl (by omega)) | exact z_eq (by rw [zGo_t hz9 (by rw [hs9]; exact zLess_s (by omega))] <;> rfl) rfl rfl (ih _ (by omega) (k + 1) _ _ _ rfl (by omega)) | exact z_eq (by rw [zGo_f hz9 (by rw [hs9]; exact zLess_f (by omega)), hs9] <;> rfl) rfl rfl (ih _ (by omega) (k + 1) _ _ _ rfl (by omega)) | exact zzz_open
                      · skip
                        refine z_iload hx dX12_go_154 rfl ?_
                        refine z_goto (tgt := 161) hx dX12_go_156 (by decide) ?_
                        refine z_istore hx dX12_go_161 (Nat.le_of_ble_eq_true rfl) rfl ?_
                        refine z_iload hx dX12_go_163 rfl ?_
                        refine z_if_eqN (tgt := 173) hx dX12_go_165 (by decide) (by omega) (fun zc165 => ?_) (fun zc165 => ?_)
                        · skip
                          refine z_iload hx dX12_go_173 rfl ?_
                          refine z_istore hx dX12_go_175 (Nat.le_of_ble_eq_true rfl) rfl ?_
                          first | refine z_iincN (z := 1) hx dX12_go_177 rfl rfl ?_ | refine z_iinc hx dX12_go_177 rfl rfl rfl ?_
                          refine z_goto (tgt := 37) hx dX12_go_180 (by decide) ?_
                          first | exact absurd rfl zc125 | exact absurd zc125 (tN_ne (by omega)) | exact absurd rfl zc132 | exact absurd zc132 (tN_ne (by omega)) | (exfalso; omega) | exact z_eq (by rw [zGo_n (zGz_n zc58)] <;> rfl) rfl rfl (ih _ (by omega) (k + 1) _ _ _ rfl (by omega)) | exact z_eq (by rw [zGo_n hz9] <;> rfl) rfl rfl (ih _ (by omega) (k + 1) _ _ _ rfl (by omega)) | exact z_eq (by rw [zGo_t hz9 (by rw [hs9]; exact zLess_n)] <;> rfl) rfl rfl (ih _ (by omega) (k + 1) _ _ _ rfl (by omega)) | exact z_eq (by rw [zGo_t hz9 (by rw [hs9]; exact zLess_s (by omega))] <;> rfl) rfl rfl (ih _ (by omega) (k + 1) _ _ _ rfl (by omega)) | exact z_eq (by rw [zGo_f hz9 (by rw [hs9]; exact zLess_f (by omega)), hs9] <;> rfl) rfl rfl (ih _ (by omega) (k + 1) _ _ _ rfl (by omega)) | exact zzz_open
                        · skip
                          refine z_iload hx dX12_go_168 rfl ?_
                          refine z_goto (tgt := 175) hx dX12_go_170 (by decide) ?_
                          refine z_istore hx dX12_go_175 (Nat.le_of_ble_eq_true rfl) rfl ?_
                          first | refine z_iincN (z := 1) hx dX12_go_177 rfl rfl ?_ | refine z_iinc hx dX12_go_177 rfl rfl rfl ?_
                          refine z_goto (tgt := 37) hx dX12_go_180 (by decide) ?_
                          first | exact absurd rfl zc125 | exact absurd zc125 (tN_ne (by omega)) | exact absurd rfl zc132 | exact absurd zc132 (tN_ne (by omega)) | (exfalso; omega) | exact z_eq (by rw [zGo_n (zGz_n zc58)] <;> rfl) rfl rfl (ih _ (by omega) (k + 1) _ _ _ rfl (by omega)) | exact z_eq (by rw [zGo_n hz9] <;> rfl) rfl rfl (ih _ (by omega) (k + 1) _ _ _ rfl (by omega)) | exact z_eq (by rw [zGo_t hz9 (by rw [hs9]; exact zLess_n)] <;> rfl) rfl rfl (ih _ (by omega) (k + 1) _ _ _ rfl (by omega)) | exact z_eq (by rw [zGo_t hz9 (by rw [hs9]; exact zLess_s (by omega))] <;> rfl) rfl rfl (ih _ (by omega) (k + 1) _ _ _ rfl (by omega)) | exact z_eq (by rw [zGo_f hz9 (by rw [hs9]; exact zLess_f (by omega)), hs9] <;> rfl) rfl rfl (ih _ (by omega) (k + 1) _ _ _ rfl (by omega)) | exact zzz_open
                    · skip
                      refine z_iconst (v := nI 1) hx dX12_go_142 (by decide) ?_
                      refine z_goto (tgt := 147) hx dX12_go_143 (by decide) ?_
                      refine z_istore hx dX12_go_147 (Nat.le_of_ble_eq_true rfl) rfl ?_
                      refine z_iload hx dX12_go_149 rfl ?_
                      refine z_if_eqN (tgt := 159) hx dX12_go_151 (by decide) (by omega) (fun zc151 => ?_) (fun zc151 => ?_)
                      · skip
                        refine z_iload hx dX12_go_159 rfl ?_
                        refine z_istore hx dX12_go_161 (Nat.le_of_ble_eq_true rfl) rfl ?_
                        refine z_iload hx dX12_go_163 rfl ?_
                        refine z_if_eqN (tgt := 173) hx dX12_go_165 (by decide) (by omega) (fun zc165 => ?_) (fun zc165 => ?_)
                        · skip
                          refine z_iload hx dX12_go_173 rfl ?_
                          refine z_istore hx dX12_go_175 (Nat.le_of_ble_eq_true rfl) rfl ?_
                          first | refine z_iincN (z := 1) hx dX12_go_177 rfl rfl ?_ | refine z_iinc hx dX12_go_177 rfl rfl rfl ?_
                          refine z_goto (tgt := 37) hx dX12_go_180 (by decide) ?_
                          first | exact absurd rfl zc125 | exact absurd zc125 (tN_ne (by omega)) | exact absurd rfl zc132 | exact absurd zc132 (tN_ne (by omega)) | (exfalso; omega) | exact z_eq (by rw [zGo_n (zGz_n zc58)] <;> rfl) rfl rfl (ih _ (by omega) (k + 1) _ _ _ rfl (by omega)) | exact z_eq (by rw [zGo_n hz9] <;> rfl) rfl rfl (ih _ (by omega) (k + 1) _ _ _ rfl (by omega)) | exact z_eq (by rw [zGo_t hz9 (by rw [hs9]; exact zLess_n)] <;> rfl) rfl rfl (ih _ (by omega) (k + 1) _ _ _ rfl (by omega)) | exact z_eq (by rw [zGo_t hz9 (by rw [hs9]; exact zLess_s (by omega))] <;> rfl) rfl rfl (ih _ (by omega) (k + 1) _ _ _ rfl (by omega)) | exact z_eq (by rw [zGo_f hz9 (by rw [hs9]; exact zLess_f (by omega)), hs9] <;> rfl) rfl rfl (ih _ (by omega) (k + 1) _ _ _ rfl (by omega)) | exact zzz_open
                        · skip
                          refine z_iload hx dX12_go_168 rfl ?_
                          refine z_goto (tgt := 175) hx dX12_go_170 (by decide) ?_
                          refine z_istore hx dX12_go_175 (Nat.le_of_ble_eq_true rfl) rfl ?_
                          first | refine z_iincN (z := 1) hx dX12_go_177 rfl rfl ?_ | refine z_iinc hx dX12_go_177 rfl rfl rfl ?_
                          refine z_goto (tgt := 37) hx dX12_go_180 (by decide) ?_
                          first | exact absurd rfl zc125 | exact absurd zc125 (tN_ne (by omega)) | exact absurd rfl zc132 | exact absurd zc132 (tN_ne (by omega)) | (exfalso; omega) | exact z_eq (by rw [zGo_n (zGz_n zc58)] <;> rfl) rfl rfl (ih _ (by omega) (k + 1) _ _ _ rfl (by omega)) | exact z_eq (by rw [zGo_n hz9] <;> rfl) rfl rfl (ih _ (by omega) (k + 1) _ _ _ rfl (by omega)) | exact z_eq (by rw [zGo_t hz9 (by rw [hs9]; exact zLess_n)] <;> rfl) rfl rfl (ih _ (by omega) (k + 1) _ _ _ rfl (by omega)) | exact z_eq (by rw [zGo_t hz9 (by rw [hs9]; exact zLess_s (by omega))] <;> rfl) rfl rfl (ih _ (by omega) (k + 1) _ _ _ rfl (by omega)) | exact z_eq (by rw [zGo_f hz9 (by rw [hs9]; exact zLess_f (by omega)), hs9] <;> rfl) rfl rfl (ih _ (by omega) (k + 1) _ _ _ rfl (by omega)) | exact zzz_open
                      · skip
                        refine z_iload hx dX12_go_154 rfl ?_
                        refine z_goto (tgt := 161) hx dX12_go_156 (by decide) ?_
                        refine z_istore hx dX12_go_161 (Nat.le_of_ble_eq_true rfl) rfl ?_
                        refine z_iload hx dX12_go_163 rfl ?_
                        refine z_if_eqN (tgt := 173) hx dX12_go_165 (by decide) (by omega) (fun zc165 => ?_) (fun zc165 => ?_)
                        · skip
                          refine z_iload hx dX12_go_173 rfl ?_
                          refine z_istore hx dX12_go_175 (Nat.le_of_ble_eq_true rfl) rfl ?_
                          first | refine z_iincN (z := 1) hx dX12_go_177 rfl rfl ?_ | refine z_iinc hx dX12_go_177 rfl rfl rfl ?_
                          refine z_goto (tgt := 37) hx dX12_go_180 (by decide) ?_
                          first | exact absurd rfl zc125 | exact absurd zc125 (tN_ne (by omega)) | exact absurd rfl zc132 | exact absurd zc132 (tN_ne (by omega)) | (exfalso; omega) | exact z_eq (by rw [zGo_n (zGz_n zc58)] <;> rfl) rfl rfl (ih _ (by omega) (k + 1) _ _ _ rfl (by omega)) | exact z_eq (by rw [zGo_n hz9] <;> rfl) rfl rfl (ih _ (by omega) (k + 1) _ _ _ rfl (by omega)) | exact z_eq (by rw [zGo_t hz9 (by rw [hs9]; exact zLess_n)] <;> rfl) rfl rfl (ih _ (by omega) (k + 1) _ _ _ rfl (by omega)) | exact z_eq (by rw [zGo_t hz9 (by rw [hs9]; exact zLess_s (by omega))] <;> rfl) rfl rfl (ih _ (by omega) (k + 1) _ _ _ rfl (by omega)) | exact z_eq (by rw [zGo_f hz9 (by rw [hs9]; exact zLess_f (by omega)), hs9] <;> rfl) rfl rfl (ih _ (by omega) (k + 1) _ _ _ rfl (by omega)) | exact zzz_open
                        · skip
                          refine z_iload hx dX12_go_168 rfl ?_
                          refine z_goto (tgt := 175) hx dX12_go_170 (by decide) ?_
                          refine z_istore hx dX12_go_175 (Nat.le_of_ble_eq_true rfl) rfl ?_
                          first | refine z_iincN (z := 1) hx dX12_go_177 rfl rfl ?_ | refine z_iinc hx dX12_go_177 rfl rfl rfl ?_
                          refine z_goto (tgt := 37) hx dX12_go_180 (by decide) ?_
                          first | exact absurd rfl zc125 | exact absurd zc125 (tN_ne (by omega)) | exact absurd rfl zc132 | exact absurd zc132 (tN_ne (by omega)) | (exfalso; omega) | exact z_eq (by rw [zGo_n (zGz_n zc58)] <;> rfl) rfl rfl (ih _ (by omega) (k + 1) _ _ _ rfl (by omega)) | exact z_eq (by rw [zGo_n hz9] <;> rfl) rfl rfl (ih _ (by omega) (k + 1) _ _ _ rfl (by omega)) | exact z_eq (by rw [zGo_t hz9 (by rw [hs9]; exact zLess_n)] <;> rfl) rfl rfl (ih _ (by omega) (k + 1) _ _ _ rfl (by omega)) | exact z_eq (by rw [zGo_t hz9 (by rw [hs9]; exact zLess_s (by omega))] <;> rfl) rfl rfl (ih _ (by omega) (k + 1) _ _ _ rfl (by omega)) | exact z_eq (by rw [zGo_f hz9 (by rw [hs9]; exact zLess_f (by omega)), hs9] <;> rfl) rfl rfl (ih _ (by omega) (k + 1) _ _ _ rfl (by omega)) | exact zzz_open
                · skip
                  have s60 := zGo_le k s9 hs9
                  refine z_iload hx dX12_go_128 rfl ?_
                  refine z_ldc hx dX12_go_130 kX12_47 ?_
                  refine z_icmp_eq (tgt := 142) hx dX12_go_132 (by decide) (fun zc132 => ?_) (fun zc132 => ?_)
                  · skip
                    refine z_iconst (v := nI 1) hx dX12_go_142 (by decide) ?_
                    refine z_goto (tgt := 147) hx dX12_go_143 (by decide) ?_
                    refine z_istore hx dX12_go_147 (Nat.le_of_ble_eq_true rfl) rfl ?_
                    refine z_iload hx dX12_go_149 rfl ?_
                    refine z_if_eqN (tgt := 159) hx dX12_go_151 (by decide) (by omega) (fun zc151 => ?_) (fun zc151 => ?_)
                    · skip
                      refine z_iload hx dX12_go_159 rfl ?_
                      refine z_istore hx dX12_go_161 (Nat.le_of_ble_eq_true rfl) rfl ?_
                      refine z_iload hx dX12_go_163 rfl ?_
                      refine z_if_eqN (tgt := 173) hx dX12_go_165 (by decide) (by omega) (fun zc165 => ?_) (fun zc165 => ?_)
                      · skip
                        refine z_iload hx dX12_go_173 rfl ?_
                        refine z_istore hx dX12_go_175 (Nat.le_of_ble_eq_true rfl) rfl ?_
                        first | refine z_iincN (z := 1) hx dX12_go_177 rfl rfl ?_ | refine z_iinc hx dX12_go_177 rfl rfl rfl ?_
                        refine z_goto (tgt := 37) hx dX12_go_180 (by decide) ?_
                        first | exact absurd rfl zc125 | exact absurd zc125 (tN_ne (by omega)) | exact absurd rfl zc132 | exact absurd zc132 (tN_ne (by omega)) | (exfalso; omega) | exact z_eq (by rw [zGo_n (zGz_n zc58)] <;> rfl) rfl rfl (ih _ (by omega) (k + 1) _ _ _ rfl (by omega)) | exact z_eq (by rw [zGo_n hz9] <;> rfl) rfl rfl (ih _ (by omega) (k + 1) _ _ _ rfl (by omega)) | exact z_eq (by rw [zGo_t hz9 (by rw [hs9]; exact zLess_n)] <;> rfl) rfl rfl (ih _ (by omega) (k + 1) _ _ _ rfl (by omega)) | exact z_eq (by rw [zGo_t hz9 (by rw [hs9]; exact zLess_s (by omega))] <;> rfl) rfl rfl (ih _ (by omega) (k + 1) _ _ _ rfl (by omega)) | exact z_eq (by rw [zGo_f hz9 (by rw [hs9]; exact zLess_f (by omega)), hs9] <;> rfl) rfl rfl (ih _ (by omega) (k + 1) _ _ _ rfl (by omega)) | exact zzz_open
                      · skip
                        refine z_iload hx dX12_go_168 rfl ?_
                        refine z_goto (tgt := 175) hx dX12_go_170 (by decide) ?_
                        refine z_istore hx dX12_go_175 (Nat.le_of_ble_eq_true rfl) rfl ?_
                        first | refine z_iincN (z := 1) hx dX12_go_177 rfl rfl ?_ | refine z_iinc hx dX12_go_177 rfl rfl rfl ?_
                        refine z_goto (tgt := 37) hx dX12_go_180 (by decide) ?_
                        first | exact absurd rfl zc125 | exact absurd zc125 (tN_ne (by omega)) | exact absurd rfl zc132 | exact absurd zc132 (tN_ne (by omega)) | (exfalso; omega) | exact z_eq (by rw [zGo_n (zGz_n zc58)] <;> rfl) rfl rfl (ih _ (by omega) (k + 1) _ _ _ rfl (by omega)) | exact z_eq (by rw [zGo_n hz9] <;> rfl) rfl rfl (ih _ (by omega) (k + 1) _ _ _ rfl (by omega)) | exact z_eq (by rw [zGo_t hz9 (by rw [hs9]; exact zLess_n)] <;> rfl) rfl rfl (ih _ (by omega) (k + 1) _ _ _ rfl (by omega)) | exact z_eq (by rw [zGo_t hz9 (by rw [hs9]; exact zLess_s (by omega))] <;> rfl) rfl rfl (ih _ (by omega) (k + 1) _ _ _ rfl (by omega)) | exact z_eq (by rw [zGo_f hz9 (by rw [hs9]; exact zLess_f (by omega)), hs9] <;> rfl) rfl rfl (ih _ (by omega) (k + 1) _ _ _ rfl (by omega)) | exact zzz_open
                    · skip
                      refine z_iload hx dX12_go_154 rfl ?_
                      refine z_goto (tgt := 161) hx dX12_go_156 (by decide) ?_
                      refine z_istore hx dX12_go_161 (Nat.le_of_ble_eq_true rfl) rfl ?_
                      refine z_iload hx dX12_go_163 rfl ?_
                      refine z_if_eqN (tgt := 173) hx dX12_go_165 (by decide) (by omega) (fun zc165 => ?_) (fun zc165 => ?_)
                      · skip
                        refine z_iload hx dX12_go_173 rfl ?_
                        refine z_istore hx dX12_go_175 (Nat.le_of_ble_eq_true rfl) rfl ?_
                        first | refine z_iincN (z := 1) hx dX12_go_177 rfl rfl ?_ | refine z_iinc hx dX12_go_177 rfl rfl rfl ?_
                        refine z_goto (tgt := 37) hx dX12_go_180 (by decide) ?_
                        first | exact absurd rfl zc125 | exact absurd zc125 (tN_ne (by omega)) | exact absurd rfl zc132 | exact absurd zc132 (tN_ne (by omega)) | (exfalso; omega) | exact z_eq (by rw [zGo_n (zGz_n zc58)] <;> rfl) rfl rfl (ih _ (by omega) (k + 1) _ _ _ rfl (by omega)) | exact z_eq (by rw [zGo_n hz9] <;> rfl) rfl rfl (ih _ (by omega) (k + 1) _ _ _ rfl (by omega)) | exact z_eq (by rw [zGo_t hz9 (by rw [hs9]; exact zLess_n)] <;> rfl) rfl rfl (ih _ (by omega) (k + 1) _ _ _ rfl (by omega)) | exact z_eq (by rw [zGo_t hz9 (by rw [hs9]; exact zLess_s (by omega))] <;> rfl) rfl rfl (ih _ (by omega) (k + 1) _ _ _ rfl (by omega)) | exact z_eq (by rw [zGo_f hz9 (by rw [hs9]; exact zLess_f (by omega)), hs9] <;> rfl) rfl rfl (ih _ (by omega) (k + 1) _ _ _ rfl (by omega)) | exact zzz_open
                      · skip
                        refine z_iload hx dX12_go_168 rfl ?_
                        refine z_goto (tgt := 175) hx dX12_go_170 (by decide) ?_
                        refine z_istore hx dX12_go_175 (Nat.le_of_ble_eq_true rfl) rfl ?_
                        first | refine z_iincN (z := 1) hx dX12_go_177 rfl rfl ?_ | refine z_iinc hx dX12_go_177 rfl rfl rfl ?_
                        refine z_goto (tgt := 37) hx dX12_go_180 (by decide) ?_
                        first | exact absurd rfl zc125 | exact absurd zc125 (tN_ne (by omega)) | exact absurd rfl zc132 | exact absurd zc132 (tN_ne (by omega)) | (exfalso; omega) | exact z_eq (by rw [zGo_n (zGz_n zc58)] <;> rfl) rfl rfl (ih _ (by omega) (k + 1) _ _ _ rfl (by omega)) | exact z_eq (by rw [zGo_n hz9] <;> rfl) rfl rfl (ih _ (by omega) (k + 1) _ _ _ rfl (by omega)) | exact z_eq (by rw [zGo_t hz9 (by rw [hs9]; exact zLess_n)] <;> rfl) rfl rfl (ih _ (by omega) (k + 1) _ _ _ rfl (by omega)) | exact z_eq (by rw [zGo_t hz9 (by rw [hs9]; exact zLess_s (by omega))] <;> rfl) rfl rfl (ih _ (by omega) (k + 1) _ _ _ rfl (by omega)) | exact z_eq (by rw [zGo_f hz9 (by rw [hs9]; exact zLess_f (by omega)), hs9] <;> rfl) rfl rfl (ih _ (by omega) (k + 1) _ _ _ rfl (by omega)) | exact zzz_open
                  · skip
                    refine z_iload hx dX12_go_135 rfl ?_
                    refine z_iload hx dX12_go_137 rfl ?_
                    first | refine z_icmp_geN (tgt := 146) hx dX12_go_139 (by decide) (by omega) (by omega) (fun zc139 => ?_) (fun zc139 => ?_) | refine z_icmp_ge (tgt := 146) hx dX12_go_139 (by decide) (fun zc139 => ?_) (fun zc139 => ?_)
                    · skip
                      refine z_iconst (v := nI 0) hx dX12_go_146 (by decide) ?_
                      refine z_istore hx dX12_go_147 (Nat.le_of_ble_eq_true rfl) rfl ?_
                      refine z_iload hx dX12_go_149 rfl ?_
                      refine z_if_eqN (tgt := 159) hx dX12_go_151 (by decide) (by omega) (fun zc151 => ?_) (fun zc151 => ?_)
                      · skip
                        refine z_iload hx dX12_go_159 rfl ?_
                        refine z_istore hx dX12_go_161 (Nat.le_of_ble_eq_true rfl) rfl ?_
                        refine z_iload hx dX12_go_163 rfl ?_
                        refine z_if_eqN (tgt := 173) hx dX12_go_165 (by decide) (by omega) (fun zc165 => ?_) (fun zc165 => ?_)
                        · skip
                          refine z_iload hx dX12_go_173 rfl ?_
                          refine z_istore hx dX12_go_175 (Nat.le_of_ble_eq_true rfl) rfl ?_
                          first | refine z_iincN (z := 1) hx dX12_go_177 rfl rfl ?_ | refine z_iinc hx dX12_go_177 rfl rfl rfl ?_
                          refine z_goto (tgt := 37) hx dX12_go_180 (by decide) ?_
                          first | exact absurd rfl zc125 | exact absurd zc125 (tN_ne (by omega)) | exact absurd rfl zc132 | exact absurd zc132 (tN_ne (by omega)) | (exfalso; omega) | exact z_eq (by rw [zGo_n (zGz_n zc58)] <;> rfl) rfl rfl (ih _ (by omega) (k + 1) _ _ _ rfl (by omega)) | exact z_eq (by rw [zGo_n hz9] <;> rfl) rfl rfl (ih _ (by omega) (k + 1) _ _ _ rfl (by omega)) | exact z_eq (by rw [zGo_t hz9 (by rw [hs9]; exact zLess_n)] <;> rfl) rfl rfl (ih _ (by omega) (k + 1) _ _ _ rfl (by omega)) | exact z_eq (by rw [zGo_t hz9 (by rw [hs9]; exact zLess_s (by omega))] <;> rfl) rfl rfl (ih _ (by omega) (k + 1) _ _ _ rfl (by omega)) | exact z_eq (by rw [zGo_f hz9 (by rw [hs9]; exact zLess_f (by omega)), hs9] <;> rfl) rfl rfl (ih _ (by omega) (k + 1) _ _ _ rfl (by omega)) | exact zzz_open
                        · skip
                          refine z_iload hx dX12_go_168 rfl ?_
                          refine z_goto (tgt := 175) hx dX12_go_170 (by decide) ?_
                          refine z_istore hx dX12_go_175 (Nat.le_of_ble_eq_true rfl) rfl ?_
                          first | refine z_iincN (z := 1) hx dX12_go_177 rfl rfl ?_ | refine z_iinc hx dX12_go_177 rfl rfl rfl ?_
                          refine z_goto (tgt := 37) hx dX12_go_180 (by decide) ?_
                          first | exact absurd rfl zc125 | exact absurd zc125 (tN_ne (by omega)) | exact absurd rfl zc132 | exact absurd zc132 (tN_ne (by omega)) | (exfalso; omega) | exact z_eq (by rw [zGo_n (zGz_n zc58)] <;> rfl) rfl rfl (ih _ (by omega) (k + 1) _ _ _ rfl (by omega)) | exact z_eq (by rw [zGo_n hz9] <;> rfl) rfl rfl (ih _ (by omega) (k + 1) _ _ _ rfl (by omega)) | exact z_eq (by rw [zGo_t hz9 (by rw [hs9]; exact zLess_n)] <;> rfl) rfl rfl (ih _ (by omega) (k + 1) _ _ _ rfl (by omega)) | exact z_eq (by rw [zGo_t hz9 (by rw [hs9]; exact zLess_s (by omega))] <;> rfl) rfl rfl (ih _ (by omega) (k + 1) _ _ _ rfl (by omega)) | exact z_eq (by rw [zGo_f hz9 (by rw [hs9]; exact zLess_f (by omega)), hs9] <;> rfl) rfl rfl (ih _ (by omega) (k + 1) _ _ _ rfl (by omega)) | exact zzz_open
                      · skip
                        refine z_iload hx dX12_go_154 rfl ?_
                        refine z_goto (tgt := 161) hx dX12_go_156 (by decide) ?_
                        refine z_istore hx dX12_go_161 (Nat.le_of_ble_eq_true rfl) rfl ?_
                        refine z_iload hx dX12_go_163 rfl ?_
                        refine z_if_eqN (tgt := 173) hx dX12_go_165 (by decide) (by omega) (fun zc165 => ?_) (fun zc165 => ?_)
                        · skip
                          refine z_iload hx dX12_go_173 rfl ?_
                          refine z_istore hx dX12_go_175 (Nat.le_of_ble_eq_true rfl) rfl ?_
                          first | refine z_iincN (z := 1) hx dX12_go_177 rfl rfl ?_ | refine z_iinc hx dX12_go_177 rfl rfl rfl ?_
                          refine z_goto (tgt := 37) hx dX12_go_180 (by decide) ?_
                          first | exact absurd rfl zc125 | exact absurd zc125 (tN_ne (by omega)) | exact absurd rfl zc132 | exact absurd zc132 (tN_ne (by omega)) | (exfalso; omega) | exact z_eq (by rw [zGo_n (zGz_n zc58)] <;> rfl) rfl rfl (ih _ (by omega) (k + 1) _ _ _ rfl (by omega)) | exact z_eq (by rw [zGo_n hz9] <;> rfl) rfl rfl (ih _ (by omega) (k + 1) _ _ _ rfl (by omega)) | exact z_eq (by rw [zGo_t hz9 (by rw [hs9]; exact zLess_n)] <;> rfl) rfl rfl (ih _ (by omega) (k + 1) _ _ _ rfl (by omega)) | exact z_eq (by rw [zGo_t hz9 (by rw [hs9]; exact zLess_s (by omega))] <;> rfl) rfl rfl (ih _ (by omega) (k + 1) _ _ _ rfl (by omega)) | exact z_eq (by rw [zGo_f hz9 (by rw [hs9]; exact zLess_f (by omega)), hs9] <;> rfl) rfl rfl (ih _ (by omega) (k + 1) _ _ _ rfl (by omega)) | exact zzz_open
                        · skip
                          refine z_iload hx dX12_go_168 rfl ?_
                          refine z_goto (tgt := 175) hx dX12_go_170 (by decide) ?_
                          refine z_istore hx dX12_go_175 (Nat.le_of_ble_eq_true rfl) rfl ?_
                          first | refine z_iincN (z := 1) hx dX12_go_177 rfl rfl ?_ | refine z_iinc hx dX12_go_177 rfl rfl rfl ?_
                          refine z_goto (tgt := 37) hx dX12_go_180 (by decide) ?_
                          first | exact absurd rfl zc125 | exact absurd zc125 (tN_ne (by omega)) | exact absurd rfl zc132 | exact absurd zc132 (tN_ne (by omega)) | (exfalso; omega) | exact z_eq (by rw [zGo_n (zGz_n zc58)] <;> rfl) rfl rfl (ih _ (by omega) (k + 1) _ _ _ rfl (by omega)) | exact z_eq (by rw [zGo_n hz9] <;> rfl) rfl rfl (ih _ (by omega) (k + 1) _ _ _ rfl (by omega)) | exact z_eq (by rw [zGo_t hz9 (by rw [hs9]; exact zLess_n)] <;> rfl) rfl rfl (ih _ (by omega) (k + 1) _ _ _ rfl (by omega)) | exact z_eq (by rw [zGo_t hz9 (by rw [hs9]; exact zLess_s (by omega))] <;> rfl) rfl rfl (ih _ (by omega) (k + 1) _ _ _ rfl (by omega)) | exact z_eq (by rw [zGo_f hz9 (by rw [hs9]; exact zLess_f (by omega)), hs9] <;> rfl) rfl rfl (ih _ (by omega) (k + 1) _ _ _ rfl (by omega)) | exact zzz_open
                    · skip
                      refine z_iconst (v := nI 1) hx dX12_go_142 (by decide) ?_
                      refine z_goto (tgt := 147) hx dX12_go_143 (by decide) ?_
                      refine z_istore hx dX12_go_147 (Nat.le_of_ble_eq_true rfl) rfl ?_
                      refine z_iload hx dX12_go_149 rfl ?_
                      refine z_if_eqN (tgt := 159) hx dX12_go_151 (by decide) (by omega) (fun zc151 => ?_) (fun zc151 => ?_)
                      · skip
                        refine z_iload hx dX12_go_159 rfl ?_
                        refine z_istore hx dX12_go_161 (Nat.le_of_ble_eq_true rfl) rfl ?_
                        refine z_iload hx dX12_go_163 rfl ?_
                        refine z_if_eqN (tgt := 173) hx dX12_go_165 (by decide) (by omega) (fun zc165 => ?_) (fun zc165 => ?_)
                        · skip
                          refine z_iload hx dX12_go_173 rfl ?_
                          refine z_istore hx dX12_go_175 (Nat.le_of_ble_eq_true rfl) rfl ?_
                          first | refine z_iincN (z := 1) hx dX12_go_177 rfl rfl ?_ | refine z_iinc hx dX12_go_177 rfl rfl rfl ?_
                          refine z_goto (tgt := 37) hx dX12_go_180 (by decide) ?_
                          first | exact absurd rfl zc125 | exact absurd zc125 (tN_ne (by omega)) | exact absurd rfl zc132 | exact absurd zc132 (tN_ne (by omega)) | (exfalso; omega) | exact z_eq (by rw [zGo_n (zGz_n zc58)] <;> rfl) rfl rfl (ih _ (by omega) (k + 1) _ _ _ rfl (by omega)) | exact z_eq (by rw [zGo_n hz9] <;> rfl) rfl rfl (ih _ (by omega) (k + 1) _ _ _ rfl (by omega)) | exact z_eq (by rw [zGo_t hz9 (by rw [hs9]; exact zLess_n)] <;> rfl) rfl rfl (ih _ (by omega) (k + 1) _ _ _ rfl (by omega)) | exact z_eq (by rw [zGo_t hz9 (by rw [hs9]; exact zLess_s (by omega))] <;> rfl) rfl rfl (ih _ (by omega) (k + 1) _ _ _ rfl (by omega)) | exact z_eq (by rw [zGo_f hz9 (by rw [hs9]; exact zLess_f (by omega)), hs9] <;> rfl) rfl rfl (ih _ (by omega) (k + 1) _ _ _ rfl (by omega)) | exact zzz_open
                        · skip
                          refine z_iload hx dX12_go_168 rfl ?_
                          refine z_goto (tgt := 175) hx dX12_go_170 (by decide) ?_
                          refine z_istore hx dX12_go_175 (Nat.le_of_ble_eq_true rfl) rfl ?_
                          first | refine z_iincN (z := 1) hx dX12_go_177 rfl rfl ?_ | refine z_iinc hx dX12_go_177 rfl rfl rfl ?_
                          refine z_goto (tgt := 37) hx dX12_go_180 (by decide) ?_
                          first | exact absurd rfl zc125 | exact absurd zc125 (tN_ne (by omega)) | exact absurd rfl zc132 | exact absurd zc132 (tN_ne (by omega)) | (exfalso; omega) | exact z_eq (by rw [zGo_n (zGz_n zc58)] <;> rfl) rfl rfl (ih _ (by omega) (k + 1) _ _ _ rfl (by omega)) | exact z_eq (by rw [zGo_n hz9] <;> rfl) rfl rfl (ih _ (by omega) (k + 1) _ _ _ rfl (by omega)) | exact z_eq (by rw [zGo_t hz9 (by rw [hs9]; exact zLess_n)] <;> rfl) rfl rfl (ih _ (by omega) (k + 1) _ _ _ rfl (by omega)) | exact z_eq (by rw [zGo_t hz9 (by rw [hs9]; exact zLess_s (by omega))] <;> rfl) rfl rfl (ih _ (by omega) (k + 1) _ _ _ rfl (by omega)) | exact z_eq (by rw [zGo_f hz9 (by rw [hs9]; exact zLess_f (by omega)), hs9] <;> rfl) rfl rfl (ih _ (by omega) (k + 1) _ _ _ rfl (by omega)) | exact zzz_open
                      · skip
                        refine z_iload hx dX12_go_154 rfl ?_
                        refine z_goto (tgt := 161) hx dX12_go_156 (by decide) ?_
                        refine z_istore hx dX12_go_161 (Nat.le_of_ble_eq_true rfl) rfl ?_
                        refine z_iload hx dX12_go_163 rfl ?_
                        refine z_if_eqN (tgt := 173) hx dX12_go_165 (by decide) (by omega) (fun zc165 => ?_) (fun zc165 => ?_)
                        · skip
                          refine z_iload hx dX12_go_173 rfl ?_
                          refine z_istore hx dX12_go_175 (Nat.le_of_ble_eq_true rfl) rfl ?_
                          first | refine z_iincN (z := 1) hx dX12_go_177 rfl rfl ?_ | refine z_iinc hx dX12_go_177 rfl rfl rfl ?_
                          refine z_goto (tgt := 37) hx dX12_go_180 (by decide) ?_
                          first | exact absurd rfl zc125 | exact absurd zc125 (tN_ne (by omega)) | exact absurd rfl zc132 | exact absurd zc132 (tN_ne (by omega)) | (exfalso; omega) | exact z_eq (by rw [zGo_n (zGz_n zc58)] <;> rfl) rfl rfl (ih _ (by omega) (k + 1) _ _ _ rfl (by omega)) | exact z_eq (by rw [zGo_n hz9] <;> rfl) rfl rfl (ih _ (by omega) (k + 1) _ _ _ rfl (by omega)) | exact z_eq (by rw [zGo_t hz9 (by rw [hs9]; exact zLess_n)] <;> rfl) rfl rfl (ih _ (by omega) (k + 1) _ _ _ rfl (by omega)) | exact z_eq (by rw [zGo_t hz9 (by rw [hs9]; exact zLess_s (by omega))] <;> rfl) rfl rfl (ih _ (by omega) (k + 1) _ _ _ rfl (by omega)) | exact z_eq (by rw [zGo_f hz9 (by rw [hs9]; exact zLess_f (by omega)), hs9] <;> rfl) rfl rfl (ih _ (by omega) (k + 1) _ _ _ rfl (by omega)) | exact zzz_open
                        · skip
                          refine z_iload hx dX12_go_168 rfl ?_
                          refine z_goto (tgt := 175) hx dX12_go_170 (by decide) ?_
                          refine z_istore hx dX12_go_175 (Nat.le_of_ble_eq_true rfl) rfl ?_
                          first | refine z_iincN (z := 1) hx dX12_go_177 rfl rfl ?_ | refine z_iinc hx dX12_go_177 rfl rfl rfl ?_
                          refine z_goto (tgt := 37) hx dX12_go_180 (by decide) ?_
                          first | exact absurd rfl zc125 | exact absurd zc125 (tN_ne (by omega)) | exact absurd rfl zc132 | exact absurd zc132 (tN_ne (by omega)) | (exfalso; omega) | exact z_eq (by rw [zGo_n (zGz_n zc58)] <;> rfl) rfl rfl (ih _ (by omega) (k + 1) _ _ _ rfl (by omega)) | exact z_eq (by rw [zGo_n hz9] <;> rfl) rfl rfl (ih _ (by omega) (k + 1) _ _ _ rfl (by omega)) | exact z_eq (by rw [zGo_t hz9 (by rw [hs9]; exact zLess_n)] <;> rfl) rfl rfl (ih _ (by omega) (k + 1) _ _ _ rfl (by omega)) | exact z_eq (by rw [zGo_t hz9 (by rw [hs9]; exact zLess_s (by omega))] <;> rfl) rfl rfl (ih _ (by omega) (k + 1) _ _ _ rfl (by omega)) | exact z_eq (by rw [zGo_f hz9 (by rw [hs9]; exact zLess_f (by omega)), hs9] <;> rfl) rfl rfl (ih _ (by omega) (k + 1) _ _ _ rfl (by omega)) | exact zzz_open
  refine z_aload_n hx dX12_go_0 rfl ?_
  refine z_iload_n hx dX12_go_1 rfl ?_
  refine z_callivF hx (qX12_isPerson r t L dr tr y a hw _) dX12_go_2 sX12_178 rfl rfl rfl rfl (Nat.le_of_ble_eq_true rfl) rfl (Nat.le_of_ble_eq_true rfl) (by decide) ?_
  first | refine z_if_eqB (tgt := 17) hx dX12_go_5 (by decide) (fun zc5 => ?_) (fun zc5 => ?_) | refine z_if_eqN (tgt := 17) hx dX12_go_5 (by decide) (by omega) (fun zc5 => ?_) (fun zc5 => ?_) | refine z_if_eq (tgt := 17) hx dX12_go_5 (by decide) (fun zc5 => ?_) (fun zc5 => ?_)
  · skip
    refine z_ldc hx dX12_go_17 kX12_61 ?_
    exact z_iret hx hF dX12_go_19 rfl rfl ⟨by unfold aGo; first | rw [zII_f (fun h => zc5 h.1)] | rw [zII_f (fun h => zc14 h.2)] | exact zzz_open, hMx_i _ _ _ _ _ _ _⟩
  · skip
    obtain ⟨zj, zhj, rfl⟩ := zc5
    refine z_iload_n hx dX12_go_8 rfl ?_
    refine z_iconst (v := nI 0) hx dX12_go_9 (by decide) ?_
    refine z_iconst (v := nI 1) hx dX12_go_10 (by decide) ?_
    refine z_callisP hx [] (qX12_inN _ _ _ (by decide)) dX12_go_11 sX12_53 rfl rfl rfl (by decide) (by decide) rfl (Nat.le_of_ble_eq_true rfl) (by decide) ?_
    first | refine z_if_neB (tgt := 20) hx dX12_go_14 (by decide) (fun zc14 => ?_) (fun zc14 => ?_) | refine z_if_neN (tgt := 20) hx dX12_go_14 (by decide) (by omega) (fun zc14 => ?_) (fun zc14 => ?_) | refine z_if_ne (tgt := 20) hx dX12_go_14 (by decide) (fun zc14 => ?_) (fun zc14 => ?_)
    · skip
      obtain ⟨ze, -, zhe, rfl⟩ := zc14
      refine z_iconst (v := nI 4) hx dX12_go_20 (by decide) ?_
      refine z_iconst (v := nI 5) hx dX12_go_21 (by decide) ?_
      refine z_iload_n hx dX12_go_22 rfl ?_
      first | refine z_imulN hx dX12_go_23 ?_ | refine z_imul hx dX12_go_23 ?_
      first | refine z_iaddN hx dX12_go_24 ?_ | refine z_iadd hx dX12_go_24 ?_
      refine z_istore_n hx dX12_go_25 (Nat.le_of_ble_eq_true rfl) rfl ?_
      refine z_ldc hx dX12_go_26 kX12_47 ?_
      refine z_istore hx dX12_go_28 (Nat.le_of_ble_eq_true rfl) rfl ?_
      refine z_ldc hx dX12_go_30 kX12_47 ?_
      refine z_istore hx dX12_go_32 (Nat.le_of_ble_eq_true rfl) rfl ?_
      refine z_iconst (v := nI 0) hx dX12_go_34 (by decide) ?_
      refine z_istore hx dX12_go_35 (Nat.le_of_ble_eq_true rfl) rfl ?_
      exact hloop zj zhj ze zhe hF _ 0 tr _ _ rfl (Nat.zero_le _)
    · skip
      refine z_ldc hx dX12_go_17 kX12_61 ?_
      exact z_iret hx hF dX12_go_19 rfl rfl ⟨by unfold aGo; first | rw [zII_f (fun h => zc5 h.1)] | rw [zII_f (fun h => zc14 h.2)] | exact zzz_open, hMx_i _ _ _ _ _ _ _⟩

