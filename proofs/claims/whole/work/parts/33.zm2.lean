/-- who was there behind some of the first minutes -/
noncomputable def zSn (L : zL) : Nat → Nat
  | 0 => 0
  | n + 1 => zSn L n ||| zTh (zIt L 0 n) (lP L)
theorem zPs_stay {L : zL} {wk q : Nat} (h : lA L q = lW L q) : lA (zPs L wk) q = lW (zPs L wk) q := by
  show zPa L wk (lP L) q = lW L q
  unfold zPa
  rw [zIf_f (fun z => z.2.1 h), h]
theorem zor_absorb {a b x y : Nat} (h1 : a ||| b = b) (h2 : x ||| y = y) : (a ||| x) ||| (b ||| y) = b ||| y := by
  rw [show (a ||| x) ||| (b ||| y) = (a ||| b) ||| (x ||| y) by rw [Nat.or_assoc, Nat.or_assoc, ← Nat.or_assoc x b y, Nat.or_comm x b, Nat.or_assoc b x y], h1, h2]
theorem zTh_mono (L : zL) (wk : Nat) : ∀ n, zTh L n ||| zTh (zPs L wk) n = zTh (zPs L wk) n
  | 0 => by rw [zTh, zTh]; rfl
  | n + 1 => by
    rw [zTh, zTh]
    refine zor_absorb (zTh_mono L wk n) ?_
    by_cases h : lA L n = lW L n
    · rw [if_pos h, if_pos (zPs_stay h), Nat.or_self]
    · rw [if_neg h, Nat.zero_or]
theorem zSn_Th (L : zL) : ∀ n, zSn L (n + 1) = zTh (zIt L 0 n) (lP L)
  | 0 => by
    show zSn L 0 ||| zTh (zIt L 0 0) (lP L) = _
    rw [show zSn L 0 = 0 from rfl, Nat.zero_or]
  | n + 1 => by
    rw [zSn, zSn_Th L n]
    exact zTh_mono (zIt L 0 n) 0 (lP L)
set_option maxHeartbeats 4000000 in
set_option maxRecDepth 100000 in
theorem qX12_never (r : zMR) (t : zMT) (L : zL) (dr tr : Nat → Nat) (y : zMY) (a : zMA) (hw : zWf L) (hm : lM L ≤ 1000)  : zMi mX12_never 6 ([.ref 0]) (hM r t L dr tr y a) (fun z u => z = aNever L ∧ hMx r t L y a u) := by
  refine zMi.of (by decide) (Nat.le_of_ble_eq_true rfl) (fun x hx hF => ?_)
  obtain ⟨w1, w2, w3, w4, w5⟩ := id hw
  have h2 : 2 ^ lP L ≤ 2 ^ 6 := Nat.pow_le_pow_right (by decide) w3
  have h3 := zTh_lt (zIt L 0 60) (lP L)
  have loop19 : ∀ (n19 : Nat) (n : Nat), 61 - n = n19 → n ≤ 61 → 0 < lS L → zV x 19 [some (.ref 0), some (.int (nI (zSn L n))), some (.int (nI n))] ([]) (hM r t L dr (fl (zIt L 0 n)) y a) := by
    intro n19
    induction n19 using Nat.strongRecOn with
    | ind n19 ih =>
      intro n hn hk hS9
      refine z_iload_n hx dX12_never_19 rfl ?_
      refine z_bipush (v := nI 61) hx dX12_never_20 (by decide) ?_
      first | refine z_icmp_geN (tgt := 49) hx dX12_never_22 (by decide) (by omega) (by omega) (fun zc22 => ?_) (fun zc22 => ?_) | refine z_icmp_ge (tgt := 49) hx dX12_never_22 (by decide) (fun zc22 => ?_) (fun zc22 => ?_)
      · skip
        refine z_aload_n hx dX12_never_49 rfl ?_
        refine z_get hx dX12_never_50 fX12_25 rfl rfl ?_
        refine z_callisP hx [6] (qX12_everybody L hw) dX12_never_53 sX12_198 rfl rfl rfl (by decide) (by decide) rfl (Nat.le_of_ble_eq_true rfl) (by decide) ?_
        refine z_iload_n hx dX12_never_56 rfl ?_
        refine z_iconst (v := -1) hx dX12_never_57 (by decide) ?_
        refine z_ixor hx dX12_never_58 ?_
        refine z_iand hx dX12_never_59 ?_
        exact z_iret hx hF dX12_never_60 rfl rfl ⟨by unfold aNever; first | (rw [zII_t hS9, show n = 60 + 1 by omega, zSn_Th, znot (lP L) (by omega) _ (by omega) h3]) | exact zzz_open, hMx_i _ _ _ _ _ _ _⟩
      · skip
        have w := zWf_it hw 0 n (by omega)
        have hq9 := zIt_P L 0 n
        refine z_iload_n hx dX12_never_25 rfl ?_
        refine z_aload_n hx dX12_never_26 rfl ?_
        refine z_get hx dX12_never_27 fX12_31 rfl rfl ?_
        refine z_callisP hx [8] (qX12_thereIn (zIt L 0 n) (w)) dX12_never_30 sX12_174 rfl rfl rfl (by decide) (by decide) rfl (Nat.le_of_ble_eq_true rfl) (by decide) ?_
        refine z_topN (b := zTh (zIt L 0 n) (lP L)) (by rw [hq9.1]) ?_
        first | refine z_iorN hx dX12_never_33 ?_ | refine z_ior hx dX12_never_33 ?_
        refine z_istore_n hx dX12_never_34 (Nat.le_of_ble_eq_true rfl) rfl ?_
        refine z_aload_n hx dX12_never_35 rfl ?_
        refine z_get hx dX12_never_36 fX12_31 rfl rfl ?_
        refine z_iconst (v := nI 0) hx dX12_never_39 (by decide) ?_
        refine z_callvsE hx [8] (qX12_passes (zIt L 0 n) (w) 0 (by omega)) dX12_never_40 sX12_163 rfl rfl rfl (by decide) (by decide) rfl (Nat.le_of_ble_eq_true rfl) (by decide) ?_
        refine z_heap (show _ = hM r t L dr (fl (zIt L 0 (n + 1))) y a from rfl) ?_
        first | refine z_iincN (z := 1) hx dX12_never_43 rfl rfl ?_ | refine z_iinc hx dX12_never_43 rfl rfl rfl ?_
        refine z_goto (tgt := 19) hx dX12_never_46 (by decide) ?_
        exact ih _ (by omega) (n + 1) rfl (by omega) hS9
  refine z_aload_n hx dX12_never_0 rfl ?_
  refine z_callivF hx (qX12_isLine r t L dr tr y a hw) dX12_never_1 sX12_167 rfl rfl rfl rfl (Nat.le_of_ble_eq_true rfl) rfl (Nat.le_of_ble_eq_true rfl) (by decide) ?_
  first | refine z_if_neB (tgt := 10) hx dX12_never_4 (by decide) (fun zc4 => ?_) (fun zc4 => ?_) | refine z_if_neN (tgt := 10) hx dX12_never_4 (by decide) (by omega) (fun zc4 => ?_) (fun zc4 => ?_) | refine z_if_ne (tgt := 10) hx dX12_never_4 (by decide) (fun zc4 => ?_) (fun zc4 => ?_)
  · skip
    refine z_aload_n hx dX12_never_10 rfl ?_
    refine z_iconst (v := nI 0) hx dX12_never_11 (by decide) ?_
    refine z_callvvF hx (qX12_tries r t L dr tr y a hw hm 0 (by omega)) dX12_never_12 sX12_190 rfl rfl rfl rfl (Nat.le_of_ble_eq_true rfl) rfl (Nat.le_of_ble_eq_true rfl) (by decide) ?_
    refine z_iconst (v := nI 0) hx dX12_never_15 (by decide) ?_
    refine z_istore_n hx dX12_never_16 (Nat.le_of_ble_eq_true rfl) rfl ?_
    refine z_iconst (v := nI 0) hx dX12_never_17 (by decide) ?_
    refine z_istore_n hx dX12_never_18 (Nat.le_of_ble_eq_true rfl) rfl ?_
    exact loop19 _ 0 rfl (by omega) zc4
  · skip
    refine z_ldc hx dX12_never_7 kX12_170 ?_
    exact z_iret hx hF dX12_never_9 rfl rfl ⟨by unfold aNever; first | rw [zII_f zc4] | exact zzz_open, hMx_i _ _ _ _ _ _ _⟩

theorem zHd_t {L : zL} {k : Nat} (h : 0 < zHs L 0 k ∧ lB L ≤ zHs L 0 k) : zHd L (k + 1) = zHd L k ||| 2 ^ k := by rw [zHd, if_pos h]
theorem zHd_f {L : zL} {k : Nat} (h : ¬ (0 < zHs L 0 k ∧ lB L ≤ zHs L 0 k)) : zHd L (k + 1) = zHd L k ||| 0 := by rw [zHd, if_neg h]
set_option maxHeartbeats 4000000 in
set_option maxRecDepth 100000 in
theorem qX12_holding (r : zMR) (t : zMT) (L : zL) (dr tr : Nat → Nat) (y : zMY) (a : zMA) (hw : zWf L) (hm : lM L ≤ 1000)  : zMi mX12_holding 5 ([.ref 0]) (hM r t L dr tr y a) (fun z u => z = aHold L ∧ hMx r t L y a u) := by
  refine zMi.of (by decide) (Nat.le_of_ble_eq_true rfl) (fun x hx hF => ?_)
  obtain ⟨w1, w2, w3, w4, w5⟩ := id hw
  have loop14 : ∀ (n14 : Nat) (k : Nat), lS L - k = n14 → k ≤ lS L → 0 < lS L → zV x 14 [some (.ref 0), some (.int (nI (zHd L k))), some (.int (nI k))] ([]) (hM r t L dr tr y a) := by
    intro n14
    induction n14 using Nat.strongRecOn with
    | ind n14 ih =>
      intro k hn hk hS9
      refine z_iload_n hx dX12_holding_14 rfl ?_
      refine z_aload_n hx dX12_holding_15 rfl ?_
      refine z_get hx dX12_holding_16 fX12_25 rfl rfl ?_
      refine z_iconst (v := nI 0) hx dX12_holding_19 (by decide) ?_
      refine z_ialdJ hx dX12_holding_20 rfl (by decide) (by omega) ?_
      first | refine z_topN (fl_A L _) ?_ | refine z_topN (fl_F L _) ?_ | refine z_topN (fl_W L _) ?_ | refine z_topN (fl_T L _) ?_ | refine z_topN (fl_K L _) ?_ | refine z_topN (fl_0 L) ?_ | refine z_topN (fl_1 L) ?_ | refine z_topN (fl_2 L) ?_ | refine z_topN (fl_3 L) ?_
      first | refine z_icmp_geN (tgt := 59) hx dX12_holding_21 (by decide) (by omega) (by omega) (fun zc21 => ?_) (fun zc21 => ?_) | refine z_icmp_ge (tgt := 59) hx dX12_holding_21 (by decide) (fun zc21 => ?_) (fun zc21 => ?_)
      · skip
        refine z_iload_n hx dX12_holding_59 rfl ?_
        exact z_iret hx hF dX12_holding_60 rfl rfl ⟨by unfold aHold; first | rw [zII_t hS9, show k = lS L by omega] | exact zzz_open, hMx_i _ _ _ _ _ _ _⟩
      · skip
        have h1 := zHs_le hw 0 k
        refine z_iload_n hx dX12_holding_24 rfl ?_
        refine z_aload_n hx dX12_holding_25 rfl ?_
        refine z_get hx dX12_holding_26 fX12_25 rfl rfl ?_
        refine z_aload_n hx dX12_holding_29 rfl ?_
        refine z_get hx dX12_holding_30 fX12_25 rfl rfl ?_
        refine z_iload_n hx dX12_holding_33 rfl ?_
        refine z_iconst (v := nI 0) hx dX12_holding_34 (by decide) ?_
        refine z_callisP hx [6] (qX12_hope L hw k 0 (by omega) (by omega)) dX12_holding_35 sX12_149 rfl rfl rfl (by decide) (by decide) rfl (Nat.le_of_ble_eq_true rfl) (by decide) ?_
        refine z_callisP hx [6] (qX12_holds L hw (zHs L 0 k) (by omega)) dX12_holding_38 sX12_153 rfl rfl rfl (by decide) (by decide) rfl (Nat.le_of_ble_eq_true rfl) (by decide) ?_
        first | refine z_if_eqB (tgt := 50) hx dX12_holding_41 (by decide) (fun zc41 => ?_) (fun zc41 => ?_) | refine z_if_eqN (tgt := 50) hx dX12_holding_41 (by decide) (by omega) (fun zc41 => ?_) (fun zc41 => ?_) | refine z_if_eq (tgt := 50) hx dX12_holding_41 (by decide) (fun zc41 => ?_) (fun zc41 => ?_)
        · skip
          refine z_iconst (v := nI 0) hx dX12_holding_50 (by decide) ?_
          first | refine z_iorN hx dX12_holding_51 ?_ | refine z_ior hx dX12_holding_51 ?_
          refine z_istore_n hx dX12_holding_52 (Nat.le_of_ble_eq_true rfl) rfl ?_
          first | refine z_iincN (z := 1) hx dX12_holding_53 rfl rfl ?_ | refine z_iinc hx dX12_holding_53 rfl rfl rfl ?_
          refine z_goto (tgt := 14) hx dX12_holding_56 (by decide) ?_
          exact z_eq (by first | (rw [zHd_t zc41]; rfl) | (rw [zHd_f zc41]; rfl)) rfl rfl (ih _ (by omega) (k + 1) rfl (by omega) hS9)
        · skip
          refine z_iconst (v := nI 1) hx dX12_holding_44 (by decide) ?_
          refine z_iload_n hx dX12_holding_45 rfl ?_
          first | refine z_ishl1 hx dX12_holding_46 (by omega) ?_ | refine z_ishlN hx dX12_holding_46 (by omega) ?_ | refine z_ishl hx dX12_holding_46 ?_
          refine z_goto (tgt := 51) hx dX12_holding_47 (by decide) ?_
          first | refine z_iorN hx dX12_holding_51 ?_ | refine z_ior hx dX12_holding_51 ?_
          refine z_istore_n hx dX12_holding_52 (Nat.le_of_ble_eq_true rfl) rfl ?_
          first | refine z_iincN (z := 1) hx dX12_holding_53 rfl rfl ?_ | refine z_iinc hx dX12_holding_53 rfl rfl rfl ?_
          refine z_goto (tgt := 14) hx dX12_holding_56 (by decide) ?_
          exact z_eq (by first | (rw [zHd_t zc41]; rfl) | (rw [zHd_f zc41]; rfl)) rfl rfl (ih _ (by omega) (k + 1) rfl (by omega) hS9)
  refine z_aload_n hx dX12_holding_0 rfl ?_
  refine z_callivF hx (qX12_isLine r t L dr tr y a hw) dX12_holding_1 sX12_167 rfl rfl rfl rfl (Nat.le_of_ble_eq_true rfl) rfl (Nat.le_of_ble_eq_true rfl) (by decide) ?_
  first | refine z_if_neB (tgt := 10) hx dX12_holding_4 (by decide) (fun zc4 => ?_) (fun zc4 => ?_) | refine z_if_neN (tgt := 10) hx dX12_holding_4 (by decide) (by omega) (fun zc4 => ?_) (fun zc4 => ?_) | refine z_if_ne (tgt := 10) hx dX12_holding_4 (by decide) (fun zc4 => ?_) (fun zc4 => ?_)
  · skip
    refine z_iconst (v := nI 0) hx dX12_holding_10 (by decide) ?_
    refine z_istore_n hx dX12_holding_11 (Nat.le_of_ble_eq_true rfl) rfl ?_
    refine z_iconst (v := nI 0) hx dX12_holding_12 (by decide) ?_
    refine z_istore_n hx dX12_holding_13 (Nat.le_of_ble_eq_true rfl) rfl ?_
    exact loop14 _ 0 rfl (by omega) zc4
  · skip
    refine z_ldc hx dX12_holding_7 kX12_170 ?_
    exact z_iret hx hF dX12_holding_9 rfl rfl ⟨by unfold aHold; first | rw [zII_f zc4] | exact zzz_open, hMx_i _ _ _ _ _ _ _⟩

