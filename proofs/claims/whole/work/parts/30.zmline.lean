theorem zHo_a {L : zL} {but q k : Nat} (h : ¬ lA L q = k) : zHo L but (q + 1) k = zHo L but q k := by rw [zHo, if_neg (fun e => h e.1)]; rfl
theorem zHo_b {L : zL} {but q k : Nat} (h : but.testBit q = true) : zHo L but (q + 1) k = zHo L but q k := by rw [zHo, if_neg (fun e => by rw [h] at e; exact absurd e.2 (by decide))]; rfl
theorem zHo_c {L : zL} {but q k : Nat} (h1 : lA L q = k) (h : but.testBit q = false) : zHo L but (q + 1) k = zHo L but q k + zHp L q := by rw [zHo, if_pos ⟨h1, h⟩]
theorem zTh_a {L : zL} {q : Nat} (h : ¬ lA L q = lW L q) : zTh L (q + 1) = zTh L q ||| 0 := by rw [zTh, if_neg h]
theorem zTh_b {L : zL} {q : Nat} (h : lA L q = lW L q) : zTh L (q + 1) = zTh L q ||| 2 ^ q := by rw [zTh, if_pos h]
theorem zsg {a b : Nat} (ha : a < 1000000) (hb : b < 1000000) : (0 ≤ nI a - nI b) ↔ b ≤ a := by
  have e := pk_sub_toInt (a := a) (b := b) (by omega) (by omega)
  rw [Int32.le_iff_toInt_le, e]
  have h0 : (0 : Int32).toInt = 0 := by decide
  omega
set_option maxHeartbeats 4000000 in
set_option maxRecDepth 100000 in
theorem qX12_ones (a : Nat) (ha : a < 256) : zMi mX12_ones 0 ([.int (nI a)]) ([]) (fun r u => r = nI (zOn a) ∧ u = []) := by
  refine zMi.of (by decide) (Nat.le_of_ble_eq_true rfl) (fun x hx hF => ?_)
  have loop4 : ∀ (n4 : Nat) (k : Nat), 8 - k = n4 → k ≤ 8 → zV x 4 [some (.int (nI a)), some (.int (nI (zOk8 a k))), some (.int (nI k))] ([]) ([]) := by
    intro n4
    induction n4 using Nat.strongRecOn with
    | ind n4 ih =>
      intro k hn hk
      refine z_iload_n hx dX12_ones_4 rfl ?_
      refine z_bipush (v := nI 8) hx dX12_ones_5 (by decide) ?_
      first | refine z_icmp_geN (tgt := 24) hx dX12_ones_7 (by decide) (by omega) (by omega) (fun zc7 => ?_) (fun zc7 => ?_) | refine z_icmp_ge (tgt := 24) hx dX12_ones_7 (by decide) (fun zc7 => ?_) (fun zc7 => ?_)
      · skip
        refine z_iload_n hx dX12_ones_24 rfl ?_
        exact z_iret hx hF dX12_ones_25 rfl rfl ⟨by rw [show k = 8 by omega]; rfl, rfl⟩
      · skip
        refine z_iload_n hx dX12_ones_10 rfl ?_
        refine z_iload_n hx dX12_ones_11 rfl ?_
        refine z_iload_n hx dX12_ones_12 rfl ?_
        first | refine z_ishrN hx dX12_ones_13 (by omega) (by omega) ?_ | refine z_ishr hx dX12_ones_13 ?_
        refine z_iconst (v := nI 1) hx dX12_ones_14 (by decide) ?_
        first | refine z_iandN hx dX12_ones_15 ?_ | refine z_iand hx dX12_ones_15 ?_
        refine z_topN (Nat.and_one_is_mod _) ?_
        first | refine z_iaddN hx dX12_ones_16 ?_ | refine z_iadd hx dX12_ones_16 ?_
        refine z_istore_n hx dX12_ones_17 (Nat.le_of_ble_eq_true rfl) rfl ?_
        first | refine z_iincN (z := 1) hx dX12_ones_18 rfl rfl ?_ | refine z_iinc hx dX12_ones_18 rfl rfl rfl ?_
        refine z_goto (tgt := 4) hx dX12_ones_21 (by decide) ?_
        exact ih _ (by omega) (k + 1) rfl (by omega)
  refine z_iconst (v := nI 0) hx dX12_ones_0 (by decide) ?_
  refine z_istore_n hx dX12_ones_1 (Nat.le_of_ble_eq_true rfl) rfl ?_
  refine z_iconst (v := nI 0) hx dX12_ones_2 (by decide) ?_
  refine z_istore_n hx dX12_ones_3 (Nat.le_of_ble_eq_true rfl) rfl ?_
  exact loop4 _ 0 rfl (by omega)

set_option maxHeartbeats 4000000 in
set_option maxRecDepth 100000 in
theorem qX12_copies (N N' : Nat) (f g : Nat → Int32) (a b : Nat) (hN : N < 2147483648) (hN' : N' < 2147483648) (ha : a + 34 ≤ N) (hb : b + 34 ≤ N') : zMv mX12_copies 0 ([.ref 0, .int (nI a), .ref 1, .int (nI b)]) ([zI N f, zI N' g]) (fun u => u = [zI N f, zI N' (va_cpy f g a b 34)]) := by
  refine zMv.of (by decide) (Nat.le_of_ble_eq_true rfl) (fun x hx hF => ?_)
  have loop3 : ∀ (n3 : Nat) (k : Nat), 34 - k = n3 → k ≤ 34 → zV x 3 [some (.ref 0), some (.int (nI a)), some (.ref 1), some (.int (nI b)), some (.int (nI k))] ([]) ([zI N f, zI N' (va_cpy f g a b k)]) := by
    intro n3
    induction n3 using Nat.strongRecOn with
    | ind n3 ih =>
      intro k hn hk
      refine z_iload hx dX12_copies_3 rfl ?_
      refine z_bipush (v := nI 34) hx dX12_copies_5 (by decide) ?_
      first | refine z_icmp_geN (tgt := 28) hx dX12_copies_7 (by decide) (by omega) (by omega) (fun zc7 => ?_) (fun zc7 => ?_) | refine z_icmp_ge (tgt := 28) hx dX12_copies_7 (by decide) (fun zc7 => ?_) (fun zc7 => ?_)
      · skip
        exact z_vret hx hF dX12_copies_28 rfl rfl (by rw [show k = 34 by omega])
      · skip
        refine z_aload_n hx dX12_copies_10 rfl ?_
        refine z_iload_n hx dX12_copies_11 rfl ?_
        refine z_iload hx dX12_copies_12 rfl ?_
        first | refine z_iaddN hx dX12_copies_14 ?_ | refine z_iadd hx dX12_copies_14 ?_
        refine z_aload_n hx dX12_copies_15 rfl ?_
        refine z_iload_n hx dX12_copies_16 rfl ?_
        refine z_iload hx dX12_copies_17 rfl ?_
        first | refine z_iaddN hx dX12_copies_19 ?_ | refine z_iadd hx dX12_copies_19 ?_
        refine z_ialdJ hx dX12_copies_20 rfl hN (by omega) ?_
        refine z_iastJ hx dX12_copies_21 rfl hN' (by omega) ?_
        first | refine z_iincN (z := 1) hx dX12_copies_22 rfl rfl ?_ | refine z_iinc hx dX12_copies_22 rfl rfl rfl ?_
        refine z_goto (tgt := 3) hx dX12_copies_25 (by decide) ?_
        refine z_cell (q := 1) (va_cpy f g a b (k + 1)) rfl (fun j hj => ?_) (ih _ (by omega) (k + 1) rfl (by omega))
        unfold upd va_cpy
        by_cases h : j = b + k
        · rw [if_pos h, if_pos (by omega), h]; congr 1; omega
        · rw [if_neg h]
          by_cases h2 : b ≤ j ∧ j < b + k
          · rw [if_pos h2, if_pos (by omega)]
          · rw [if_neg h2, if_neg (by omega)]
  refine z_iconst (v := nI 0) hx dX12_copies_0 (by decide) ?_
  refine z_istore hx dX12_copies_1 (Nat.le_of_ble_eq_true rfl) rfl ?_
  refine z_cell (q := 1) (va_cpy f g a b 0) rfl (fun j hj => ?_) (loop3 _ 0 rfl (by omega))
  unfold va_cpy
  rw [if_neg (by omega)]

set_option maxHeartbeats 4000000 in
set_option maxRecDepth 100000 in
theorem qX12_atStop (L : zL) (hw : zWf L) (k : Nat) (hk : k < 2147483648) : zMi mX12_atStop 0 ([.ref 0, .int (nI k)]) ([zN 34 (fl L)]) (fun r u => r = nI (zWh L k (lP L)) ∧ u = [zN 34 (fl L)]) := by
  refine zMi.of (by decide) (Nat.le_of_ble_eq_true rfl) (fun x hx hF => ?_)
  obtain ⟨w1, w2, w3, w4, w5⟩ := id hw
  have loop4 : ∀ (n4 : Nat) (q : Nat), lP L - q = n4 → q ≤ lP L → zV x 4 [some (.ref 0), some (.int (nI k)), some (.int (nI (zWh L k q))), some (.int (nI q))] ([]) ([zN 34 (fl L)]) := by
    intro n4
    induction n4 using Nat.strongRecOn with
    | ind n4 ih =>
      intro q hn hq
      refine z_iload_n hx dX12_atStop_4 rfl ?_
      refine z_aload_n hx dX12_atStop_5 rfl ?_
      refine z_iconst (v := nI 3) hx dX12_atStop_6 (by decide) ?_
      refine z_ialdJ hx dX12_atStop_7 rfl (by decide) (by omega) ?_
      first | refine z_topN (fl_A L _) ?_ | refine z_topN (fl_F L _) ?_ | refine z_topN (fl_W L _) ?_ | refine z_topN (fl_T L _) ?_ | refine z_topN (fl_K L _) ?_ | refine z_topN (fl_0 L) ?_ | refine z_topN (fl_1 L) ?_ | refine z_topN (fl_2 L) ?_ | refine z_topN (fl_3 L) ?_
      first | refine z_icmp_geN (tgt := 40) hx dX12_atStop_8 (by decide) (by omega) (by omega) (fun zc8 => ?_) (fun zc8 => ?_) | refine z_icmp_ge (tgt := 40) hx dX12_atStop_8 (by decide) (fun zc8 => ?_) (fun zc8 => ?_)
      · skip
        refine z_iload_n hx dX12_atStop_40 rfl ?_
        exact z_iret hx hF dX12_atStop_41 rfl rfl ⟨by rw [show q = lP L by omega], rfl⟩
      · skip
        have w6 := w5 q (by omega)
        refine z_iload_n hx dX12_atStop_11 rfl ?_
        refine z_aload_n hx dX12_atStop_12 rfl ?_
        refine z_iconst (v := nI 4) hx dX12_atStop_13 (by decide) ?_
        refine z_iconst (v := nI 5) hx dX12_atStop_14 (by decide) ?_
        refine z_iload_n hx dX12_atStop_15 rfl ?_
        first | refine z_imulN hx dX12_atStop_16 ?_ | refine z_imul hx dX12_atStop_16 ?_
        first | refine z_iaddN hx dX12_atStop_17 ?_ | refine z_iadd hx dX12_atStop_17 ?_
        refine z_iconst (v := nI 1) hx dX12_atStop_18 (by decide) ?_
        first | refine z_iaddN hx dX12_atStop_19 ?_ | refine z_iadd hx dX12_atStop_19 ?_
        refine z_ialdJ hx dX12_atStop_20 rfl (by decide) (by omega) ?_
        first | refine z_topN (fl_A L _) ?_ | refine z_topN (fl_F L _) ?_ | refine z_topN (fl_W L _) ?_ | refine z_topN (fl_T L _) ?_ | refine z_topN (fl_K L _) ?_ | refine z_topN (fl_0 L) ?_ | refine z_topN (fl_1 L) ?_ | refine z_topN (fl_2 L) ?_ | refine z_topN (fl_3 L) ?_
        refine z_iload_n hx dX12_atStop_21 rfl ?_
        first | refine z_icmp_neN (tgt := 31) hx dX12_atStop_22 (by decide) (by omega) (by omega) (fun zc22 => ?_) (fun zc22 => ?_) | refine z_icmp_ne (tgt := 31) hx dX12_atStop_22 (by decide) (fun zc22 => ?_) (fun zc22 => ?_)
        · skip
          refine z_iconst (v := nI 0) hx dX12_atStop_31 (by decide) ?_
          first | refine z_iorN hx dX12_atStop_32 ?_ | refine z_ior hx dX12_atStop_32 ?_
          refine z_istore_n hx dX12_atStop_33 (Nat.le_of_ble_eq_true rfl) rfl ?_
          first | refine z_iincN (z := 1) hx dX12_atStop_34 rfl rfl ?_ | refine z_iinc hx dX12_atStop_34 rfl rfl rfl ?_
          refine z_goto (tgt := 4) hx dX12_atStop_37 (by decide) ?_
          exact z_eq (by simp [zWh, zc22]) rfl rfl (ih _ (by omega) (q + 1) rfl (by omega))
        · skip
          refine z_iconst (v := nI 1) hx dX12_atStop_25 (by decide) ?_
          refine z_iload_n hx dX12_atStop_26 rfl ?_
          first | refine z_ishl1 hx dX12_atStop_27 (by omega) ?_ | refine z_ishlN hx dX12_atStop_27 (by omega) ?_ | refine z_ishl hx dX12_atStop_27 ?_
          refine z_goto (tgt := 32) hx dX12_atStop_28 (by decide) ?_
          first | refine z_iorN hx dX12_atStop_32 ?_ | refine z_ior hx dX12_atStop_32 ?_
          refine z_istore_n hx dX12_atStop_33 (Nat.le_of_ble_eq_true rfl) rfl ?_
          first | refine z_iincN (z := 1) hx dX12_atStop_34 rfl rfl ?_ | refine z_iinc hx dX12_atStop_34 rfl rfl rfl ?_
          refine z_goto (tgt := 4) hx dX12_atStop_37 (by decide) ?_
          exact z_eq (by simp [zWh, zc22]) rfl rfl (ih _ (by omega) (q + 1) rfl (by omega))
  refine z_iconst (v := nI 0) hx dX12_atStop_0 (by decide) ?_
  refine z_istore_n hx dX12_atStop_1 (Nat.le_of_ble_eq_true rfl) rfl ?_
  refine z_iconst (v := nI 0) hx dX12_atStop_2 (by decide) ?_
  refine z_istore_n hx dX12_atStop_3 (Nat.le_of_ble_eq_true rfl) rfl ?_
  exact loop4 _ 0 rfl (by omega)

set_option maxHeartbeats 4000000 in
set_option maxRecDepth 100000 in
theorem qX12_hopes (L : zL) (hw : zWf L) (q : Nat) (hq : q < lP L) : zMi mX12_hopes 1 ([.ref 0, .int (nI q)]) ([zN 34 (fl L)]) (fun r u => r = nI (zHp L q) ∧ u = [zN 34 (fl L)]) := by
  refine zMi.of (by decide) (Nat.le_of_ble_eq_true rfl) (fun x hx hF => ?_)
  obtain ⟨w1, w2, w3, w4, w5⟩ := id hw
  have w6 := w5 q hq
  have h1 := zWh_lt L (lA L q) (lP L) (by omega)
  have h2 := zCn_pos L hq
  have h3 := zCn_le L (lA L q) (lP L)
  have h4 : 2 ^ lP L ≤ 2 ^ 6 := Nat.pow_le_pow_right (by decide) w3
  have h5 := zsg (a := lF L q) (b := lT L q) (by omega) (by omega)
  refine z_iconst (v := nI 4) hx dX12_hopes_0 (by decide) ?_
  refine z_iconst (v := nI 5) hx dX12_hopes_1 (by decide) ?_
  refine z_iload_n hx dX12_hopes_2 rfl ?_
  first | refine z_imulN hx dX12_hopes_3 ?_ | refine z_imul hx dX12_hopes_3 ?_
  first | refine z_iaddN hx dX12_hopes_4 ?_ | refine z_iadd hx dX12_hopes_4 ?_
  refine z_istore_n hx dX12_hopes_5 (Nat.le_of_ble_eq_true rfl) rfl ?_
  refine z_aload_n hx dX12_hopes_6 rfl ?_
  refine z_aload_n hx dX12_hopes_7 rfl ?_
  refine z_iload_n hx dX12_hopes_8 rfl ?_
  refine z_iconst (v := nI 1) hx dX12_hopes_9 (by decide) ?_
  first | refine z_iaddN hx dX12_hopes_10 ?_ | refine z_iadd hx dX12_hopes_10 ?_
  refine z_ialdJ hx dX12_hopes_11 rfl (by decide) (by omega) ?_
  first | refine z_topN (fl_A L _) ?_ | refine z_topN (fl_F L _) ?_ | refine z_topN (fl_W L _) ?_ | refine z_topN (fl_T L _) ?_ | refine z_topN (fl_K L _) ?_ | refine z_topN (fl_0 L) ?_ | refine z_topN (fl_1 L) ?_ | refine z_topN (fl_2 L) ?_ | refine z_topN (fl_3 L) ?_
  refine z_callisF hx (qX12_atStop L hw _ (by omega)) dX12_hopes_12 sX12_135 rfl rfl (Nat.le_of_ble_eq_true rfl) rfl (Nat.le_of_ble_eq_true rfl) (by decide) ?_
  refine z_callisP hx [] (qX12_ones _ (by omega)) dX12_hopes_15 sX12_139 rfl rfl rfl (by decide) (by decide) rfl (Nat.le_of_ble_eq_true rfl) (by decide) ?_
  refine z_topN h1.2 ?_
  refine z_iconst (v := nI 1) hx dX12_hopes_18 (by decide) ?_
  first | refine z_isubN hx dX12_hopes_19 (by omega) ?_ | refine z_isub hx dX12_hopes_19 ?_
  refine z_istore_n hx dX12_hopes_20 (Nat.le_of_ble_eq_true rfl) rfl ?_
  refine z_aload_n hx dX12_hopes_21 rfl ?_
  refine z_iload_n hx dX12_hopes_22 rfl ?_
  refine z_iconst (v := nI 2) hx dX12_hopes_23 (by decide) ?_
  first | refine z_iaddN hx dX12_hopes_24 ?_ | refine z_iadd hx dX12_hopes_24 ?_
  refine z_ialdJ hx dX12_hopes_25 rfl (by decide) (by omega) ?_
  first | refine z_topN (fl_A L _) ?_ | refine z_topN (fl_F L _) ?_ | refine z_topN (fl_W L _) ?_ | refine z_topN (fl_T L _) ?_ | refine z_topN (fl_K L _) ?_ | refine z_topN (fl_0 L) ?_ | refine z_topN (fl_1 L) ?_ | refine z_topN (fl_2 L) ?_ | refine z_topN (fl_3 L) ?_
  refine z_aload_n hx dX12_hopes_26 rfl ?_
  refine z_iload_n hx dX12_hopes_27 rfl ?_
  refine z_iconst (v := nI 4) hx dX12_hopes_28 (by decide) ?_
  first | refine z_iaddN hx dX12_hopes_29 ?_ | refine z_iadd hx dX12_hopes_29 ?_
  refine z_ialdJ hx dX12_hopes_30 rfl (by decide) (by omega) ?_
  first | refine z_topN (fl_A L _) ?_ | refine z_topN (fl_F L _) ?_ | refine z_topN (fl_W L _) ?_ | refine z_topN (fl_T L _) ?_ | refine z_topN (fl_K L _) ?_ | refine z_topN (fl_0 L) ?_ | refine z_topN (fl_1 L) ?_ | refine z_topN (fl_2 L) ?_ | refine z_topN (fl_3 L) ?_
  refine z_isub hx dX12_hopes_31 ?_
  refine z_istore hx dX12_hopes_32 (Nat.le_of_ble_eq_true rfl) rfl ?_
  refine z_aload_n hx dX12_hopes_34 rfl ?_
  refine z_iload_n hx dX12_hopes_35 rfl ?_
  refine z_ialdJ hx dX12_hopes_36 rfl (by decide) (by omega) ?_
  first | refine z_topN (fl_A L _) ?_ | refine z_topN (fl_F L _) ?_ | refine z_topN (fl_W L _) ?_ | refine z_topN (fl_T L _) ?_ | refine z_topN (fl_K L _) ?_ | refine z_topN (fl_0 L) ?_ | refine z_topN (fl_1 L) ?_ | refine z_topN (fl_2 L) ?_ | refine z_topN (fl_3 L) ?_
  rcases (show lK L q = 1 ∨ lK L q = 2 ∨ lK L q = 3 ∨ lK L q = 4 ∨ lK L q = 5 by omega) with e | e | e | e | e
  · skip
    refine z_eq rfl (by rw [e]) rfl ?_
    refine z_tableIn (off := 31) (tgt := 68) hx dX12_hopes_37 (by decide) (by decide) rfl (by decide) ?_
    refine z_aload_n hx dX12_hopes_68 rfl ?_
    refine z_iload_n hx dX12_hopes_69 rfl ?_
    refine z_iconst (v := nI 2) hx dX12_hopes_70 (by decide) ?_
    first | refine z_iaddN hx dX12_hopes_71 ?_ | refine z_iadd hx dX12_hopes_71 ?_
    refine z_ialdJ hx dX12_hopes_72 rfl (by decide) (by omega) ?_
    first | refine z_topN (fl_A L _) ?_ | refine z_topN (fl_F L _) ?_ | refine z_topN (fl_W L _) ?_ | refine z_topN (fl_T L _) ?_ | refine z_topN (fl_K L _) ?_ | refine z_topN (fl_0 L) ?_ | refine z_topN (fl_1 L) ?_ | refine z_topN (fl_2 L) ?_ | refine z_topN (fl_3 L) ?_
    exact z_iret hx hF dX12_hopes_73 rfl rfl ⟨by unfold zHp zHk; rw [e]; first | rfl | (simp; done) | (simp; omega) | (simp; rw [if_pos (by omega)]) | (simp; rw [if_neg (by omega)]) | (rw [pk_sub (h5.mp zc84)]; rfl) | (simp; rw [show lF L q - lT L q = 0 from Nat.sub_eq_zero_of_le (Nat.le_of_lt (Nat.not_le.mp fun z => zc84 (h5.mpr z)))]; done), rfl⟩
  · skip
    refine z_eq rfl (by rw [e]) rfl ?_
    refine z_tableIn (off := 37) (tgt := 74) hx dX12_hopes_37 (by decide) (by decide) rfl (by decide) ?_
    refine z_aload_n hx dX12_hopes_74 rfl ?_
    refine z_iload_n hx dX12_hopes_75 rfl ?_
    refine z_iconst (v := nI 2) hx dX12_hopes_76 (by decide) ?_
    first | refine z_iaddN hx dX12_hopes_77 ?_ | refine z_iadd hx dX12_hopes_77 ?_
    refine z_ialdJ hx dX12_hopes_78 rfl (by decide) (by omega) ?_
    first | refine z_topN (fl_A L _) ?_ | refine z_topN (fl_F L _) ?_ | refine z_topN (fl_W L _) ?_ | refine z_topN (fl_T L _) ?_ | refine z_topN (fl_K L _) ?_ | refine z_topN (fl_0 L) ?_ | refine z_topN (fl_1 L) ?_ | refine z_topN (fl_2 L) ?_ | refine z_topN (fl_3 L) ?_
    refine z_iload_n hx dX12_hopes_79 rfl ?_
    first | refine z_iaddN hx dX12_hopes_80 ?_ | refine z_iadd hx dX12_hopes_80 ?_
    exact z_iret hx hF dX12_hopes_81 rfl rfl ⟨by unfold zHp zHk; rw [e]; first | rfl | (simp; done) | (simp; omega) | (simp; rw [if_pos (by omega)]) | (simp; rw [if_neg (by omega)]) | (rw [pk_sub (h5.mp zc84)]; rfl) | (simp; rw [show lF L q - lT L q = 0 from Nat.sub_eq_zero_of_le (Nat.le_of_lt (Nat.not_le.mp fun z => zc84 (h5.mpr z)))]; done), rfl⟩
  · skip
    refine z_eq rfl (by rw [e]) rfl ?_
    refine z_tableIn (off := 45) (tgt := 82) hx dX12_hopes_37 (by decide) (by decide) rfl (by decide) ?_
    refine z_iload hx dX12_hopes_82 rfl ?_
    refine z_if_ge (tgt := 91) hx dX12_hopes_84 (by decide) (fun zc84 => ?_) (fun zc84 => ?_)
    · skip
      refine z_iload hx dX12_hopes_91 rfl ?_
      exact z_iret hx hF dX12_hopes_93 rfl rfl ⟨by unfold zHp zHk; rw [e]; first | rfl | (simp; done) | (simp; omega) | (simp; rw [if_pos (by omega)]) | (simp; rw [if_neg (by omega)]) | (rw [pk_sub (h5.mp zc84)]; rfl) | (simp; rw [show lF L q - lT L q = 0 from Nat.sub_eq_zero_of_le (Nat.le_of_lt (Nat.not_le.mp fun z => zc84 (h5.mpr z)))]; done), rfl⟩
    · skip
      refine z_iconst (v := nI 0) hx dX12_hopes_87 (by decide) ?_
      refine z_goto (tgt := 93) hx dX12_hopes_88 (by decide) ?_
      exact z_iret hx hF dX12_hopes_93 rfl rfl ⟨by unfold zHp zHk; rw [e]; first | rfl | (simp; done) | (simp; omega) | (simp; rw [if_pos (by omega)]) | (simp; rw [if_neg (by omega)]) | (rw [pk_sub (h5.mp zc84)]; rfl) | (simp; rw [show lF L q - lT L q = 0 from Nat.sub_eq_zero_of_le (Nat.le_of_lt (Nat.not_le.mp fun z => zc84 (h5.mpr z)))]; done), rfl⟩
  · skip
    refine z_eq rfl (by rw [e]) rfl ?_
    refine z_tableIn (off := 57) (tgt := 94) hx dX12_hopes_37 (by decide) (by decide) rfl (by decide) ?_
    refine z_iconst (v := nI 3) hx dX12_hopes_94 (by decide) ?_
    exact z_iret hx hF dX12_hopes_95 rfl rfl ⟨by unfold zHp zHk; rw [e]; first | rfl | (simp; done) | (simp; omega) | (simp; rw [if_pos (by omega)]) | (simp; rw [if_neg (by omega)]) | (rw [pk_sub (h5.mp zc84)]; rfl) | (simp; rw [show lF L q - lT L q = 0 from Nat.sub_eq_zero_of_le (Nat.le_of_lt (Nat.not_le.mp fun z => zc84 (h5.mpr z)))]; done), rfl⟩
  · skip
    refine z_eq rfl (by rw [e]) rfl ?_
    refine z_tableOut (tgt := 96) hx dX12_hopes_37 (by decide) (by decide) ?_
    refine z_iload_n hx dX12_hopes_96 rfl ?_
    first | refine z_if_neB (tgt := 105) hx dX12_hopes_97 (by decide) (fun zc97 => ?_) (fun zc97 => ?_) | refine z_if_neN (tgt := 105) hx dX12_hopes_97 (by decide) (by omega) (fun zc97 => ?_) (fun zc97 => ?_) | refine z_if_ne (tgt := 105) hx dX12_hopes_97 (by decide) (fun zc97 => ?_) (fun zc97 => ?_)
    · skip
      refine z_iconst (v := nI 3) hx dX12_hopes_105 (by decide) ?_
      exact z_iret hx hF dX12_hopes_106 rfl rfl ⟨by unfold zHp zHk; rw [e]; first | rfl | (simp; done) | (simp; omega) | (simp; rw [if_pos (by omega)]) | (simp; rw [if_neg (by omega)]) | (rw [pk_sub (h5.mp zc84)]; rfl) | (simp; rw [show lF L q - lT L q = 0 from Nat.sub_eq_zero_of_le (Nat.le_of_lt (Nat.not_le.mp fun z => zc84 (h5.mpr z)))]; done), rfl⟩
    · skip
      refine z_bipush (v := nI 13) hx dX12_hopes_100 (by decide) ?_
      refine z_goto (tgt := 106) hx dX12_hopes_102 (by decide) ?_
      exact z_iret hx hF dX12_hopes_106 rfl rfl ⟨by unfold zHp zHk; rw [e]; first | rfl | (simp; done) | (simp; omega) | (simp; rw [if_pos (by omega)]) | (simp; rw [if_neg (by omega)]) | (rw [pk_sub (h5.mp zc84)]; rfl) | (simp; rw [show lF L q - lT L q = 0 from Nat.sub_eq_zero_of_le (Nat.le_of_lt (Nat.not_le.mp fun z => zc84 (h5.mpr z)))]; done), rfl⟩

set_option maxHeartbeats 4000000 in
set_option maxRecDepth 100000 in
theorem qX12_hope (L : zL) (hw : zWf L) (k but : Nat) (hk : k < 2147483648) (hb : but < 2147483648) : zMi mX12_hope 2 ([.ref 0, .int (nI k), .int (nI but)]) ([zN 34 (fl L)]) (fun r u => r = nI (zHs L but k) ∧ u = [zN 34 (fl L)]) := by
  refine zMi.of (by decide) (Nat.le_of_ble_eq_true rfl) (fun x hx hF => ?_)
  obtain ⟨w1, w2, w3, w4, w5⟩ := id hw
  have loop5 : ∀ (n5 : Nat) (q : Nat), lP L - q = n5 → q ≤ lP L → zV x 5 [some (.ref 0), some (.int (nI k)), some (.int (nI but)), some (.int (nI (zHo L but q k))), some (.int (nI q))] ([]) ([zN 34 (fl L)]) := by
    intro n5
    induction n5 using Nat.strongRecOn with
    | ind n5 ih =>
      intro q hn hq
      refine z_iload hx dX12_hope_5 rfl ?_
      refine z_aload_n hx dX12_hope_7 rfl ?_
      refine z_iconst (v := nI 3) hx dX12_hope_8 (by decide) ?_
      refine z_ialdJ hx dX12_hope_9 rfl (by decide) (by omega) ?_
      first | refine z_topN (fl_A L _) ?_ | refine z_topN (fl_F L _) ?_ | refine z_topN (fl_W L _) ?_ | refine z_topN (fl_T L _) ?_ | refine z_topN (fl_K L _) ?_ | refine z_topN (fl_0 L) ?_ | refine z_topN (fl_1 L) ?_ | refine z_topN (fl_2 L) ?_ | refine z_topN (fl_3 L) ?_
      first | refine z_icmp_geN (tgt := 55) hx dX12_hope_10 (by decide) (by omega) (by omega) (fun zc10 => ?_) (fun zc10 => ?_) | refine z_icmp_ge (tgt := 55) hx dX12_hope_10 (by decide) (fun zc10 => ?_) (fun zc10 => ?_)
      · skip
        refine z_iload_n hx dX12_hope_55 rfl ?_
        exact z_iret hx hF dX12_hope_56 rfl rfl ⟨by rw [show q = lP L by omega]; rfl, rfl⟩
      · skip
        have w6 := w5 q (by omega)
        refine z_iload_n hx dX12_hope_13 rfl ?_
        refine z_aload_n hx dX12_hope_14 rfl ?_
        refine z_iconst (v := nI 4) hx dX12_hope_15 (by decide) ?_
        refine z_iconst (v := nI 5) hx dX12_hope_16 (by decide) ?_
        refine z_iload hx dX12_hope_17 rfl ?_
        first | refine z_imulN hx dX12_hope_19 ?_ | refine z_imul hx dX12_hope_19 ?_
        first | refine z_iaddN hx dX12_hope_20 ?_ | refine z_iadd hx dX12_hope_20 ?_
        refine z_iconst (v := nI 1) hx dX12_hope_21 (by decide) ?_
        first | refine z_iaddN hx dX12_hope_22 ?_ | refine z_iadd hx dX12_hope_22 ?_
        refine z_ialdJ hx dX12_hope_23 rfl (by decide) (by omega) ?_
        first | refine z_topN (fl_A L _) ?_ | refine z_topN (fl_F L _) ?_ | refine z_topN (fl_W L _) ?_ | refine z_topN (fl_T L _) ?_ | refine z_topN (fl_K L _) ?_ | refine z_topN (fl_0 L) ?_ | refine z_topN (fl_1 L) ?_ | refine z_topN (fl_2 L) ?_ | refine z_topN (fl_3 L) ?_
        refine z_iload_n hx dX12_hope_24 rfl ?_
        first | refine z_icmp_neN (tgt := 46) hx dX12_hope_25 (by decide) (by omega) (by omega) (fun zc25 => ?_) (fun zc25 => ?_) | refine z_icmp_ne (tgt := 46) hx dX12_hope_25 (by decide) (fun zc25 => ?_) (fun zc25 => ?_)
        · skip
          refine z_iconst (v := nI 0) hx dX12_hope_46 (by decide) ?_
          first | refine z_iaddN hx dX12_hope_47 ?_ | refine z_iadd hx dX12_hope_47 ?_
          refine z_istore_n hx dX12_hope_48 (Nat.le_of_ble_eq_true rfl) rfl ?_
          first | refine z_iincN (z := 1) hx dX12_hope_49 rfl rfl ?_ | refine z_iinc hx dX12_hope_49 rfl rfl rfl ?_
          refine z_goto (tgt := 5) hx dX12_hope_52 (by decide) ?_
          exact z_eq (by first | (rw [zHo_a zc25]; rfl) | (rw [zHo_b zc34]; rfl) | (rw [zHo_c zc25 (Bool.eq_false_iff.mpr zc34)]; rfl)) rfl rfl (ih _ (by omega) (q + 1) rfl (by omega))
        · skip
          refine z_iload_n hx dX12_hope_28 rfl ?_
          refine z_iload hx dX12_hope_29 rfl ?_
          refine z_callisP hx [] (qX12_has _ _ (by omega) (by omega)) dX12_hope_31 sX12_142 rfl rfl rfl (by decide) (by decide) rfl (Nat.le_of_ble_eq_true rfl) (by decide) ?_
          first | refine z_if_neB (tgt := 46) hx dX12_hope_34 (by decide) (fun zc34 => ?_) (fun zc34 => ?_) | refine z_if_neN (tgt := 46) hx dX12_hope_34 (by decide) (by omega) (fun zc34 => ?_) (fun zc34 => ?_) | refine z_if_ne (tgt := 46) hx dX12_hope_34 (by decide) (fun zc34 => ?_) (fun zc34 => ?_)
          · skip
            refine z_iconst (v := nI 0) hx dX12_hope_46 (by decide) ?_
            first | refine z_iaddN hx dX12_hope_47 ?_ | refine z_iadd hx dX12_hope_47 ?_
            refine z_istore_n hx dX12_hope_48 (Nat.le_of_ble_eq_true rfl) rfl ?_
            first | refine z_iincN (z := 1) hx dX12_hope_49 rfl rfl ?_ | refine z_iinc hx dX12_hope_49 rfl rfl rfl ?_
            refine z_goto (tgt := 5) hx dX12_hope_52 (by decide) ?_
            exact z_eq (by first | (rw [zHo_a zc25]; rfl) | (rw [zHo_b zc34]; rfl) | (rw [zHo_c zc25 (Bool.eq_false_iff.mpr zc34)]; rfl)) rfl rfl (ih _ (by omega) (q + 1) rfl (by omega))
          · skip
            refine z_aload_n hx dX12_hope_37 rfl ?_
            refine z_iload hx dX12_hope_38 rfl ?_
            refine z_callisF hx (qX12_hopes L hw _ (by omega)) dX12_hope_40 sX12_146 rfl rfl (Nat.le_of_ble_eq_true rfl) rfl (Nat.le_of_ble_eq_true rfl) (by decide) ?_
            refine z_goto (tgt := 47) hx dX12_hope_43 (by decide) ?_
            first | refine z_iaddN hx dX12_hope_47 ?_ | refine z_iadd hx dX12_hope_47 ?_
            refine z_istore_n hx dX12_hope_48 (Nat.le_of_ble_eq_true rfl) rfl ?_
            first | refine z_iincN (z := 1) hx dX12_hope_49 rfl rfl ?_ | refine z_iinc hx dX12_hope_49 rfl rfl rfl ?_
            refine z_goto (tgt := 5) hx dX12_hope_52 (by decide) ?_
            exact z_eq (by first | (rw [zHo_a zc25]; rfl) | (rw [zHo_b zc34]; rfl) | (rw [zHo_c zc25 (Bool.eq_false_iff.mpr zc34)]; rfl)) rfl rfl (ih _ (by omega) (q + 1) rfl (by omega))
  refine z_iconst (v := nI 0) hx dX12_hope_0 (by decide) ?_
  refine z_istore_n hx dX12_hope_1 (Nat.le_of_ble_eq_true rfl) rfl ?_
  refine z_iconst (v := nI 0) hx dX12_hope_2 (by decide) ?_
  refine z_istore hx dX12_hope_3 (Nat.le_of_ble_eq_true rfl) rfl ?_
  exact loop5 _ 0 rfl (by omega)

set_option maxHeartbeats 4000000 in
set_option maxRecDepth 100000 in
theorem qX12_holds (L : zL) (hw : zWf L) (a : Nat) (ha : a < 2147483648) : zMi mX12_holds 0 ([.ref 0, .int (nI a)]) ([zN 34 (fl L)]) (fun r u => r = bP (0 < a ∧ lB L ≤ a) ∧ u = [zN 34 (fl L)]) := by
  refine zMi.of (by decide) (Nat.le_of_ble_eq_true rfl) (fun x hx hF => ?_)
  obtain ⟨w1, w2, w3, w4, w5⟩ := id hw
  refine z_iload_n hx dX12_holds_0 rfl ?_
  first | refine z_if_leN (tgt := 15) hx dX12_holds_1 (by decide) (by omega) (fun zc1 => ?_) (fun zc1 => ?_) | refine z_if_le (tgt := 15) hx dX12_holds_1 (by decide) (fun zc1 => ?_) (fun zc1 => ?_)
  · skip
    refine z_iconst (v := nI 0) hx dX12_holds_15 (by decide) ?_
    exact z_zret hx hF dX12_holds_16 rfl (by first | exact bP_nar _ | rfl) rfl ⟨by first | exact (bP_t ⟨by omega, by omega⟩).symm | exact (bP_f (by omega)).symm, rfl⟩
  · skip
    refine z_iload_n hx dX12_holds_4 rfl ?_
    refine z_aload_n hx dX12_holds_5 rfl ?_
    refine z_iconst (v := nI 1) hx dX12_holds_6 (by decide) ?_
    refine z_ialdJ hx dX12_holds_7 rfl (by decide) (by omega) ?_
    first | refine z_topN (fl_A L _) ?_ | refine z_topN (fl_F L _) ?_ | refine z_topN (fl_W L _) ?_ | refine z_topN (fl_T L _) ?_ | refine z_topN (fl_K L _) ?_ | refine z_topN (fl_0 L) ?_ | refine z_topN (fl_1 L) ?_ | refine z_topN (fl_2 L) ?_ | refine z_topN (fl_3 L) ?_
    first | refine z_icmp_ltN (tgt := 15) hx dX12_holds_8 (by decide) (by omega) (by omega) (fun zc8 => ?_) (fun zc8 => ?_) | refine z_icmp_lt (tgt := 15) hx dX12_holds_8 (by decide) (fun zc8 => ?_) (fun zc8 => ?_)
    · skip
      refine z_iconst (v := nI 0) hx dX12_holds_15 (by decide) ?_
      exact z_zret hx hF dX12_holds_16 rfl (by first | exact bP_nar _ | rfl) rfl ⟨by first | exact (bP_t ⟨by omega, by omega⟩).symm | exact (bP_f (by omega)).symm, rfl⟩
    · skip
      refine z_iconst (v := nI 1) hx dX12_holds_11 (by decide) ?_
      refine z_goto (tgt := 16) hx dX12_holds_12 (by decide) ?_
      exact z_zret hx hF dX12_holds_16 rfl (by first | exact bP_nar _ | rfl) rfl ⟨by first | exact (bP_t ⟨by omega, by omega⟩).symm | exact (bP_f (by omega)).symm, rfl⟩

theorem zMx_le {L : zL} (hw : zWf L) (but : Nat) : ∀ k, zMx L but k ≤ 600
  | 0 => by simp [zMx]
  | k + 1 => by
    have := zMx_le hw but k
    have := zHs_le hw but k
    rw [zMx]
    split <;> omega
set_option maxHeartbeats 4000000 in
set_option maxRecDepth 100000 in
theorem qX12_tramBy (L : zL) (hw : zWf L) (but : Nat) (hb : but < 2147483648) : zMi mX12_tramBy 3 ([.ref 0, .int (nI but)]) ([zN 34 (fl L)]) (fun r u => r = tN (zTr L but) ∧ u = [zN 34 (fl L)]) := by
  refine zMi.of (by decide) (Nat.le_of_ble_eq_true rfl) (fun x hx hF => ?_)
  obtain ⟨w1, w2, w3, w4, w5⟩ := id hw
  have loop8 : ∀ (n8 : Nat) (k : Nat), lS L - k = n8 → k ≤ lS L → zV x 8 [some (.ref 0), some (.int (nI but)), some (.int (tN (zBs L but k))), some (.int (nI (zMx L but k))), some (.int (nI k)), none] ([]) ([zN 34 (fl L)]) := by
    intro n8
    induction n8 using Nat.strongRecOn with
    | ind n8 ih =>
      intro k hn hk
      refine z_iload hx dX12_tramBy_8 rfl ?_
      refine z_aload_n hx dX12_tramBy_10 rfl ?_
      refine z_iconst (v := nI 0) hx dX12_tramBy_11 (by decide) ?_
      refine z_ialdJ hx dX12_tramBy_12 rfl (by decide) (by omega) ?_
      first | refine z_topN (fl_A L _) ?_ | refine z_topN (fl_F L _) ?_ | refine z_topN (fl_W L _) ?_ | refine z_topN (fl_T L _) ?_ | refine z_topN (fl_K L _) ?_ | refine z_topN (fl_0 L) ?_ | refine z_topN (fl_1 L) ?_ | refine z_topN (fl_2 L) ?_ | refine z_topN (fl_3 L) ?_
      first | refine z_icmp_geN (tgt := 57) hx dX12_tramBy_13 (by decide) (by omega) (by omega) (fun zc13 => ?_) (fun zc13 => ?_) | refine z_icmp_ge (tgt := 57) hx dX12_tramBy_13 (by decide) (fun zc13 => ?_) (fun zc13 => ?_)
      · skip
        have h2 := zMx_le hw but k
        have h3 : k = lS L := by omega
        subst h3
        refine z_aload_n hx dX12_tramBy_57 rfl ?_
        refine z_iload_n hx dX12_tramBy_58 rfl ?_
        refine z_callisF hx (qX12_holds L hw _ (by omega)) dX12_tramBy_59 sX12_153 rfl rfl (Nat.le_of_ble_eq_true rfl) rfl (Nat.le_of_ble_eq_true rfl) (by decide) ?_
        first | refine z_if_eqB (tgt := 69) hx dX12_tramBy_62 (by decide) (fun zc62 => ?_) (fun zc62 => ?_) | refine z_if_eqN (tgt := 69) hx dX12_tramBy_62 (by decide) (by omega) (fun zc62 => ?_) (fun zc62 => ?_) | refine z_if_eq (tgt := 69) hx dX12_tramBy_62 (by decide) (fun zc62 => ?_) (fun zc62 => ?_)
        · skip
          refine z_ldc hx dX12_tramBy_69 kX12_47 ?_
          exact z_iret hx hF dX12_tramBy_71 rfl rfl ⟨by unfold zTr; first | (rw [if_pos zc62]; done) | (rw [if_neg zc62]; rfl), rfl⟩
        · skip
          refine z_iload_n hx dX12_tramBy_65 rfl ?_
          refine z_goto (tgt := 71) hx dX12_tramBy_66 (by decide) ?_
          exact z_iret hx hF dX12_tramBy_71 rfl rfl ⟨by unfold zTr; first | (rw [if_pos zc62]; done) | (rw [if_neg zc62]; rfl), rfl⟩
      · skip
        have h1 := zHs_le hw but k
        have h2 := zMx_le hw but k
        refine z_aload_n hx dX12_tramBy_16 rfl ?_
        refine z_iload hx dX12_tramBy_17 rfl ?_
        refine z_iload_n hx dX12_tramBy_19 rfl ?_
        refine z_callisF hx (qX12_hope L hw _ _ (by omega) (by omega)) dX12_tramBy_20 sX12_149 rfl rfl (Nat.le_of_ble_eq_true rfl) rfl (Nat.le_of_ble_eq_true rfl) (by decide) ?_
        refine z_istore hx dX12_tramBy_23 (Nat.le_of_ble_eq_true rfl) rfl ?_
        refine z_iload hx dX12_tramBy_25 rfl ?_
        refine z_iload_n hx dX12_tramBy_27 rfl ?_
        first | refine z_icmp_leN (tgt := 36) hx dX12_tramBy_28 (by decide) (by omega) (by omega) (fun zc28 => ?_) (fun zc28 => ?_) | refine z_icmp_le (tgt := 36) hx dX12_tramBy_28 (by decide) (fun zc28 => ?_) (fun zc28 => ?_)
        · skip
          refine z_iload_n hx dX12_tramBy_36 rfl ?_
          refine z_istore_n hx dX12_tramBy_37 (Nat.le_of_ble_eq_true rfl) rfl ?_
          refine z_iload hx dX12_tramBy_38 rfl ?_
          refine z_iload_n hx dX12_tramBy_40 rfl ?_
          first | refine z_icmp_leN (tgt := 49) hx dX12_tramBy_41 (by decide) (by omega) (by omega) (fun zc41 => ?_) (fun zc41 => ?_) | refine z_icmp_le (tgt := 49) hx dX12_tramBy_41 (by decide) (fun zc41 => ?_) (fun zc41 => ?_)
          · skip
            refine z_iload_n hx dX12_tramBy_49 rfl ?_
            refine z_istore_n hx dX12_tramBy_50 (Nat.le_of_ble_eq_true rfl) rfl ?_
            first | refine z_iincN (z := 1) hx dX12_tramBy_51 rfl rfl ?_ | refine z_iinc hx dX12_tramBy_51 rfl rfl rfl ?_
            refine z_goto (tgt := 8) hx dX12_tramBy_54 (by decide) ?_
            first | (exfalso; omega) | exact z_kill 5 (z_eq (by first | (rw [show zBs L but (k + 1) = some k from if_pos zc28, show zMx L but (k + 1) = zHs L but k from if_pos zc28]; rfl) | (rw [show zBs L but (k + 1) = zBs L but k from if_neg (by omega), show zMx L but (k + 1) = zMx L but k from if_neg (by omega)]; rfl)) rfl rfl (ih _ (by omega) (k + 1) rfl (by omega)))
          · skip
            refine z_iload hx dX12_tramBy_44 rfl ?_
            refine z_goto (tgt := 50) hx dX12_tramBy_46 (by decide) ?_
            refine z_istore_n hx dX12_tramBy_50 (Nat.le_of_ble_eq_true rfl) rfl ?_
            first | refine z_iincN (z := 1) hx dX12_tramBy_51 rfl rfl ?_ | refine z_iinc hx dX12_tramBy_51 rfl rfl rfl ?_
            refine z_goto (tgt := 8) hx dX12_tramBy_54 (by decide) ?_
            first | (exfalso; omega) | exact z_kill 5 (z_eq (by first | (rw [show zBs L but (k + 1) = some k from if_pos zc28, show zMx L but (k + 1) = zHs L but k from if_pos zc28]; rfl) | (rw [show zBs L but (k + 1) = zBs L but k from if_neg (by omega), show zMx L but (k + 1) = zMx L but k from if_neg (by omega)]; rfl)) rfl rfl (ih _ (by omega) (k + 1) rfl (by omega)))
        · skip
          refine z_iload hx dX12_tramBy_31 rfl ?_
          refine z_goto (tgt := 37) hx dX12_tramBy_33 (by decide) ?_
          refine z_istore_n hx dX12_tramBy_37 (Nat.le_of_ble_eq_true rfl) rfl ?_
          refine z_iload hx dX12_tramBy_38 rfl ?_
          refine z_iload_n hx dX12_tramBy_40 rfl ?_
          first | refine z_icmp_leN (tgt := 49) hx dX12_tramBy_41 (by decide) (by omega) (by omega) (fun zc41 => ?_) (fun zc41 => ?_) | refine z_icmp_le (tgt := 49) hx dX12_tramBy_41 (by decide) (fun zc41 => ?_) (fun zc41 => ?_)
          · skip
            refine z_iload_n hx dX12_tramBy_49 rfl ?_
            refine z_istore_n hx dX12_tramBy_50 (Nat.le_of_ble_eq_true rfl) rfl ?_
            first | refine z_iincN (z := 1) hx dX12_tramBy_51 rfl rfl ?_ | refine z_iinc hx dX12_tramBy_51 rfl rfl rfl ?_
            refine z_goto (tgt := 8) hx dX12_tramBy_54 (by decide) ?_
            first | (exfalso; omega) | exact z_kill 5 (z_eq (by first | (rw [show zBs L but (k + 1) = some k from if_pos zc28, show zMx L but (k + 1) = zHs L but k from if_pos zc28]; rfl) | (rw [show zBs L but (k + 1) = zBs L but k from if_neg (by omega), show zMx L but (k + 1) = zMx L but k from if_neg (by omega)]; rfl)) rfl rfl (ih _ (by omega) (k + 1) rfl (by omega)))
          · skip
            refine z_iload hx dX12_tramBy_44 rfl ?_
            refine z_goto (tgt := 50) hx dX12_tramBy_46 (by decide) ?_
            refine z_istore_n hx dX12_tramBy_50 (Nat.le_of_ble_eq_true rfl) rfl ?_
            first | refine z_iincN (z := 1) hx dX12_tramBy_51 rfl rfl ?_ | refine z_iinc hx dX12_tramBy_51 rfl rfl rfl ?_
            refine z_goto (tgt := 8) hx dX12_tramBy_54 (by decide) ?_
            first | (exfalso; omega) | exact z_kill 5 (z_eq (by first | (rw [show zBs L but (k + 1) = some k from if_pos zc28, show zMx L but (k + 1) = zHs L but k from if_pos zc28]; rfl) | (rw [show zBs L but (k + 1) = zBs L but k from if_neg (by omega), show zMx L but (k + 1) = zMx L but k from if_neg (by omega)]; rfl)) rfl rfl (ih _ (by omega) (k + 1) rfl (by omega)))
  refine z_ldc hx dX12_tramBy_0 kX12_47 ?_
  refine z_istore_n hx dX12_tramBy_2 (Nat.le_of_ble_eq_true rfl) rfl ?_
  refine z_iconst (v := nI 0) hx dX12_tramBy_3 (by decide) ?_
  refine z_istore_n hx dX12_tramBy_4 (Nat.le_of_ble_eq_true rfl) rfl ?_
  refine z_iconst (v := nI 0) hx dX12_tramBy_5 (by decide) ?_
  refine z_istore hx dX12_tramBy_6 (Nat.le_of_ble_eq_true rfl) rfl ?_
  exact loop8 _ 0 rfl (by omega)

set_option maxHeartbeats 4000000 in
set_option maxRecDepth 100000 in
theorem qX12_isThere (L : zL) (hw : zWf L) (q : Nat) (hq : q < lP L) : zMi mX12_isThere 0 ([.ref 0, .int (nI q)]) ([zN 34 (fl L)]) (fun r u => r = bP (lA L q = lW L q) ∧ u = [zN 34 (fl L)]) := by
  refine zMi.of (by decide) (Nat.le_of_ble_eq_true rfl) (fun x hx hF => ?_)
  obtain ⟨w1, w2, w3, w4, w5⟩ := id hw
  have w6 := w5 q hq
  refine z_aload_n hx dX12_isThere_0 rfl ?_
  refine z_iconst (v := nI 4) hx dX12_isThere_1 (by decide) ?_
  refine z_iconst (v := nI 5) hx dX12_isThere_2 (by decide) ?_
  refine z_iload_n hx dX12_isThere_3 rfl ?_
  first | refine z_imulN hx dX12_isThere_4 ?_ | refine z_imul hx dX12_isThere_4 ?_
  first | refine z_iaddN hx dX12_isThere_5 ?_ | refine z_iadd hx dX12_isThere_5 ?_
  refine z_iconst (v := nI 1) hx dX12_isThere_6 (by decide) ?_
  first | refine z_iaddN hx dX12_isThere_7 ?_ | refine z_iadd hx dX12_isThere_7 ?_
  refine z_ialdJ hx dX12_isThere_8 rfl (by decide) (by omega) ?_
  first | refine z_topN (fl_A L _) ?_ | refine z_topN (fl_F L _) ?_ | refine z_topN (fl_W L _) ?_ | refine z_topN (fl_T L _) ?_ | refine z_topN (fl_K L _) ?_ | refine z_topN (fl_0 L) ?_ | refine z_topN (fl_1 L) ?_ | refine z_topN (fl_2 L) ?_ | refine z_topN (fl_3 L) ?_
  refine z_aload_n hx dX12_isThere_9 rfl ?_
  refine z_iconst (v := nI 4) hx dX12_isThere_10 (by decide) ?_
  refine z_iconst (v := nI 5) hx dX12_isThere_11 (by decide) ?_
  refine z_iload_n hx dX12_isThere_12 rfl ?_
  first | refine z_imulN hx dX12_isThere_13 ?_ | refine z_imul hx dX12_isThere_13 ?_
  first | refine z_iaddN hx dX12_isThere_14 ?_ | refine z_iadd hx dX12_isThere_14 ?_
  refine z_iconst (v := nI 3) hx dX12_isThere_15 (by decide) ?_
  first | refine z_iaddN hx dX12_isThere_16 ?_ | refine z_iadd hx dX12_isThere_16 ?_
  refine z_ialdJ hx dX12_isThere_17 rfl (by decide) (by omega) ?_
  first | refine z_topN (fl_A L _) ?_ | refine z_topN (fl_F L _) ?_ | refine z_topN (fl_W L _) ?_ | refine z_topN (fl_T L _) ?_ | refine z_topN (fl_K L _) ?_ | refine z_topN (fl_0 L) ?_ | refine z_topN (fl_1 L) ?_ | refine z_topN (fl_2 L) ?_ | refine z_topN (fl_3 L) ?_
  first | refine z_icmp_neN (tgt := 25) hx dX12_isThere_18 (by decide) (by omega) (by omega) (fun zc18 => ?_) (fun zc18 => ?_) | refine z_icmp_ne (tgt := 25) hx dX12_isThere_18 (by decide) (fun zc18 => ?_) (fun zc18 => ?_)
  · skip
    refine z_iconst (v := nI 0) hx dX12_isThere_25 (by decide) ?_
    exact z_zret hx hF dX12_isThere_26 rfl (by first | exact bP_nar _ | rfl) rfl ⟨by first | exact (bP_t zc18).symm | exact (bP_f zc18).symm, rfl⟩
  · skip
    refine z_iconst (v := nI 1) hx dX12_isThere_21 (by decide) ?_
    refine z_goto (tgt := 26) hx dX12_isThere_22 (by decide) ?_
    exact z_zret hx hF dX12_isThere_26 rfl (by first | exact bP_nar _ | rfl) rfl ⟨by first | exact (bP_t zc18).symm | exact (bP_f zc18).symm, rfl⟩

set_option maxHeartbeats 4000000 in
set_option maxRecDepth 100000 in
theorem qX12_thereIn (L : zL) (hw : zWf L) : zMi mX12_thereIn 1 ([.ref 0]) ([zN 34 (fl L)]) (fun r u => r = nI (zTh L (lP L)) ∧ u = [zN 34 (fl L)]) := by
  refine zMi.of (by decide) (Nat.le_of_ble_eq_true rfl) (fun x hx hF => ?_)
  obtain ⟨w1, w2, w3, w4, w5⟩ := id hw
  have loop4 : ∀ (n4 : Nat) (q : Nat), lP L - q = n4 → q ≤ lP L → zV x 4 [some (.ref 0), some (.int (nI (zTh L q))), some (.int (nI q))] ([]) ([zN 34 (fl L)]) := by
    intro n4
    induction n4 using Nat.strongRecOn with
    | ind n4 ih =>
      intro q hn hq
      refine z_iload_n hx dX12_thereIn_4 rfl ?_
      refine z_aload_n hx dX12_thereIn_5 rfl ?_
      refine z_iconst (v := nI 3) hx dX12_thereIn_6 (by decide) ?_
      refine z_ialdJ hx dX12_thereIn_7 rfl (by decide) (by omega) ?_
      first | refine z_topN (fl_A L _) ?_ | refine z_topN (fl_F L _) ?_ | refine z_topN (fl_W L _) ?_ | refine z_topN (fl_T L _) ?_ | refine z_topN (fl_K L _) ?_ | refine z_topN (fl_0 L) ?_ | refine z_topN (fl_1 L) ?_ | refine z_topN (fl_2 L) ?_ | refine z_topN (fl_3 L) ?_
      first | refine z_icmp_geN (tgt := 35) hx dX12_thereIn_8 (by decide) (by omega) (by omega) (fun zc8 => ?_) (fun zc8 => ?_) | refine z_icmp_ge (tgt := 35) hx dX12_thereIn_8 (by decide) (fun zc8 => ?_) (fun zc8 => ?_)
      · skip
        refine z_iload_n hx dX12_thereIn_35 rfl ?_
        exact z_iret hx hF dX12_thereIn_36 rfl rfl ⟨by rw [show q = lP L by omega], rfl⟩
      · skip
        have w6 := w5 q (by omega)
        refine z_iload_n hx dX12_thereIn_11 rfl ?_
        refine z_aload_n hx dX12_thereIn_12 rfl ?_
        refine z_iload_n hx dX12_thereIn_13 rfl ?_
        refine z_callisF hx (qX12_isThere L hw _ (by omega)) dX12_thereIn_14 sX12_157 rfl rfl (Nat.le_of_ble_eq_true rfl) rfl (Nat.le_of_ble_eq_true rfl) (by decide) ?_
        first | refine z_if_eqB (tgt := 26) hx dX12_thereIn_17 (by decide) (fun zc17 => ?_) (fun zc17 => ?_) | refine z_if_eqN (tgt := 26) hx dX12_thereIn_17 (by decide) (by omega) (fun zc17 => ?_) (fun zc17 => ?_) | refine z_if_eq (tgt := 26) hx dX12_thereIn_17 (by decide) (fun zc17 => ?_) (fun zc17 => ?_)
        · skip
          refine z_iconst (v := nI 0) hx dX12_thereIn_26 (by decide) ?_
          first | refine z_iorN hx dX12_thereIn_27 ?_ | refine z_ior hx dX12_thereIn_27 ?_
          refine z_istore_n hx dX12_thereIn_28 (Nat.le_of_ble_eq_true rfl) rfl ?_
          first | refine z_iincN (z := 1) hx dX12_thereIn_29 rfl rfl ?_ | refine z_iinc hx dX12_thereIn_29 rfl rfl rfl ?_
          refine z_goto (tgt := 4) hx dX12_thereIn_32 (by decide) ?_
          exact z_eq (by first | (rw [zTh_b zc17]; rfl) | (rw [zTh_a zc17]; rfl)) rfl rfl (ih _ (by omega) (q + 1) rfl (by omega))
        · skip
          refine z_iconst (v := nI 1) hx dX12_thereIn_20 (by decide) ?_
          refine z_iload_n hx dX12_thereIn_21 rfl ?_
          first | refine z_ishl1 hx dX12_thereIn_22 (by omega) ?_ | refine z_ishlN hx dX12_thereIn_22 (by omega) ?_ | refine z_ishl hx dX12_thereIn_22 ?_
          refine z_goto (tgt := 27) hx dX12_thereIn_23 (by decide) ?_
          first | refine z_iorN hx dX12_thereIn_27 ?_ | refine z_ior hx dX12_thereIn_27 ?_
          refine z_istore_n hx dX12_thereIn_28 (Nat.le_of_ble_eq_true rfl) rfl ?_
          first | refine z_iincN (z := 1) hx dX12_thereIn_29 rfl rfl ?_ | refine z_iinc hx dX12_thereIn_29 rfl rfl rfl ?_
          refine z_goto (tgt := 4) hx dX12_thereIn_32 (by decide) ?_
          exact z_eq (by first | (rw [zTh_b zc17]; rfl) | (rw [zTh_a zc17]; rfl)) rfl rfl (ih _ (by omega) (q + 1) rfl (by omega))
  refine z_iconst (v := nI 0) hx dX12_thereIn_0 (by decide) ?_
  refine z_istore_n hx dX12_thereIn_1 (Nat.le_of_ble_eq_true rfl) rfl ?_
  refine z_iconst (v := nI 0) hx dX12_thereIn_2 (by decide) ?_
  refine z_istore_n hx dX12_thereIn_3 (Nat.le_of_ble_eq_true rfl) rfl ?_
  exact loop4 _ 0 rfl (by omega)

set_option maxHeartbeats 4000000 in
set_option maxRecDepth 100000 in
theorem qX12_everybody (L : zL) (hw : zWf L) : zMi mX12_everybody 0 ([.ref 0]) ([zN 34 (fl L)]) (fun r u => r = nI (2 ^ lP L - 1) ∧ u = [zN 34 (fl L)]) := by
  refine zMi.of (by decide) (Nat.le_of_ble_eq_true rfl) (fun x hx hF => ?_)
  obtain ⟨w1, w2, w3, w4, w5⟩ := id hw
  have h2 := Nat.two_pow_pos (lP L)
  refine z_iconst (v := nI 1) hx dX12_everybody_0 (by decide) ?_
  refine z_aload_n hx dX12_everybody_1 rfl ?_
  refine z_iconst (v := nI 3) hx dX12_everybody_2 (by decide) ?_
  refine z_ialdJ hx dX12_everybody_3 rfl (by decide) (by omega) ?_
  first | refine z_topN (fl_A L _) ?_ | refine z_topN (fl_F L _) ?_ | refine z_topN (fl_W L _) ?_ | refine z_topN (fl_T L _) ?_ | refine z_topN (fl_K L _) ?_ | refine z_topN (fl_0 L) ?_ | refine z_topN (fl_1 L) ?_ | refine z_topN (fl_2 L) ?_ | refine z_topN (fl_3 L) ?_
  first | refine z_ishl1 hx dX12_everybody_4 (by omega) ?_ | refine z_ishlN hx dX12_everybody_4 (by omega) ?_ | refine z_ishl hx dX12_everybody_4 ?_
  refine z_iconst (v := nI 1) hx dX12_everybody_5 (by decide) ?_
  first | refine z_isubN hx dX12_everybody_6 (by omega) ?_ | refine z_isub hx dX12_everybody_6 ?_
  exact z_iret hx hF dX12_everybody_7 rfl rfl ⟨rfl, rfl⟩

set_option maxHeartbeats 4000000 in
set_option maxRecDepth 100000 in
theorem qX12_passes (L : zL) (hw : zWf L) (wk : Nat) (hwk : wk < 2147483648) : zMv mX12_passes 4 ([.ref 0, .int (nI wk)]) ([zN 34 (fl L)]) (fun u => u = [zN 34 (fl (zPs L wk))]) := by
  refine zMv.of (by decide) (Nat.le_of_ble_eq_true rfl) (fun x hx hF => ?_)
  obtain ⟨w1, w2, w3, w4, w5⟩ := id hw
  have ht : ∀ j, zTr L 0 = some j → j < 1000 := fun j hj => by have := zTr_lt hj; omega
  have loop8 : ∀ (n8 : Nat) (q : Nat), lP L - q = n8 → q ≤ lP L → zV x 8 [some (.ref 0), some (.int (nI wk)), some (.int (tN (zTr L 0))), some (.int (nI q)), none] ([]) ([zN 34 (fl (zPq L wk q))]) := by
    intro n8
    induction n8 using Nat.strongRecOn with
    | ind n8 ih =>
      intro q hn hq
      refine z_iload_n hx dX12_passes_8 rfl ?_
      refine z_aload_n hx dX12_passes_9 rfl ?_
      refine z_iconst (v := nI 3) hx dX12_passes_10 (by decide) ?_
      refine z_ialdJ hx dX12_passes_11 rfl (by decide) (by omega) ?_
      first | refine z_topN (fl_A (zPq L wk q) _) ?_ | refine z_topN (fl_F (zPq L wk q) _) ?_ | refine z_topN (fl_W (zPq L wk q) _) ?_ | refine z_topN (fl_T (zPq L wk q) _) ?_ | refine z_topN (fl_K (zPq L wk q) _) ?_ | refine z_topN (fl_0 (zPq L wk q)) ?_ | refine z_topN (fl_1 (zPq L wk q)) ?_ | refine z_topN (fl_2 (zPq L wk q)) ?_ | refine z_topN (fl_3 (zPq L wk q)) ?_
      refine z_topN (b := lP L) rfl ?_
      first | refine z_icmp_geN (tgt := 118) hx dX12_passes_12 (by decide) (by omega) (by omega) (fun zc12 => ?_) (fun zc12 => ?_) | refine z_icmp_ge (tgt := 118) hx dX12_passes_12 (by decide) (fun zc12 => ?_) (fun zc12 => ?_)
      · skip
        refine z_aload_n hx dX12_passes_118 rfl ?_
        refine z_iconst (v := nI 2) hx dX12_passes_119 (by decide) ?_
        refine z_dup2 hx dX12_passes_120 rfl rfl ?_
        refine z_ialdJ hx dX12_passes_121 rfl (by decide) (by omega) ?_
        first | refine z_topN (fl_A (zPq L wk q) _) ?_ | refine z_topN (fl_F (zPq L wk q) _) ?_ | refine z_topN (fl_W (zPq L wk q) _) ?_ | refine z_topN (fl_T (zPq L wk q) _) ?_ | refine z_topN (fl_K (zPq L wk q) _) ?_ | refine z_topN (fl_0 (zPq L wk q)) ?_ | refine z_topN (fl_1 (zPq L wk q)) ?_ | refine z_topN (fl_2 (zPq L wk q)) ?_ | refine z_topN (fl_3 (zPq L wk q)) ?_
        refine z_iconst (v := nI 1) hx dX12_passes_122 (by decide) ?_
        first | refine z_iaddN hx dX12_passes_123 ?_ | refine z_iadd hx dX12_passes_123 ?_
        refine z_iastN hx dX12_passes_124 rfl (by decide) (by decide) ?_
        exact z_vret hx hF dX12_passes_125 rfl rfl (by rw [show q = lP L by omega]; refine congrArg (fun f => [zN 34 f]) (fl_sM (zPq L wk (lP L)) (lM L + 1)))
      · skip
        have w6 := w5 q (by omega)
        have a1 := zPa_self L wk q
        have a2 := zPt_self L wk q
        have a3 : lA (zPq L wk q) q = lA L q := a1
        have a4 : lT (zPq L wk q) q = lT L q := a2
        have a5 : lW (zPq L wk q) q = lW L q := rfl
        have hte := tN_eq (a := lA L q) (by omega) ht
        refine z_iconst (v := nI 4) hx dX12_passes_15 (by decide) ?_
        refine z_iconst (v := nI 5) hx dX12_passes_16 (by decide) ?_
        refine z_iload_n hx dX12_passes_17 rfl ?_
        first | refine z_imulN hx dX12_passes_18 ?_ | refine z_imul hx dX12_passes_18 ?_
        first | refine z_iaddN hx dX12_passes_19 ?_ | refine z_iadd hx dX12_passes_19 ?_
        refine z_istore hx dX12_passes_20 (Nat.le_of_ble_eq_true rfl) rfl ?_
        refine z_aload_n hx dX12_passes_22 rfl ?_
        refine z_iload_n hx dX12_passes_23 rfl ?_
        refine z_callisF hx (qX12_isThere (zPq L wk q) (zWfq hw wk q) q (by show q < lP L; omega)) dX12_passes_24 sX12_157 rfl rfl (Nat.le_of_ble_eq_true rfl) rfl (Nat.le_of_ble_eq_true rfl) (by decide) ?_
        refine z_top (b := bP (lA L q = lW L q)) (by rw [a3, a5]) ?_
        first | refine z_if_neB (tgt := 87) hx dX12_passes_27 (by decide) (fun zc27 => ?_) (fun zc27 => ?_) | refine z_if_neN (tgt := 87) hx dX12_passes_27 (by decide) (by omega) (fun zc27 => ?_) (fun zc27 => ?_) | refine z_if_ne (tgt := 87) hx dX12_passes_27 (by decide) (fun zc27 => ?_) (fun zc27 => ?_)
        · skip
          refine z_aload_n hx dX12_passes_87 rfl ?_
          refine z_iload hx dX12_passes_88 rfl ?_
          refine z_iconst (v := nI 4) hx dX12_passes_90 (by decide) ?_
          first | refine z_iaddN hx dX12_passes_91 ?_ | refine z_iadd hx dX12_passes_91 ?_
          refine z_dup2 hx dX12_passes_92 rfl rfl ?_
          refine z_ialdJ hx dX12_passes_93 rfl (by decide) (by omega) ?_
          first | refine z_topN (fl_A (zPq L wk q) _) ?_ | refine z_topN (fl_F (zPq L wk q) _) ?_ | refine z_topN (fl_W (zPq L wk q) _) ?_ | refine z_topN (fl_T (zPq L wk q) _) ?_ | refine z_topN (fl_K (zPq L wk q) _) ?_ | refine z_topN (fl_0 (zPq L wk q)) ?_ | refine z_topN (fl_1 (zPq L wk q)) ?_ | refine z_topN (fl_2 (zPq L wk q)) ?_ | refine z_topN (fl_3 (zPq L wk q)) ?_
          refine z_topN a4 ?_
          refine z_aload_n hx dX12_passes_94 rfl ?_
          refine z_iload hx dX12_passes_95 rfl ?_
          refine z_iconst (v := nI 4) hx dX12_passes_97 (by decide) ?_
          first | refine z_iaddN hx dX12_passes_98 ?_ | refine z_iadd hx dX12_passes_98 ?_
          refine z_ialdJ hx dX12_passes_99 rfl (by decide) (by omega) ?_
          first | refine z_topN (fl_A (zPq L wk q) _) ?_ | refine z_topN (fl_F (zPq L wk q) _) ?_ | refine z_topN (fl_W (zPq L wk q) _) ?_ | refine z_topN (fl_T (zPq L wk q) _) ?_ | refine z_topN (fl_K (zPq L wk q) _) ?_ | refine z_topN (fl_0 (zPq L wk q)) ?_ | refine z_topN (fl_1 (zPq L wk q)) ?_ | refine z_topN (fl_2 (zPq L wk q)) ?_ | refine z_topN (fl_3 (zPq L wk q)) ?_
          refine z_topN a4 ?_
          refine z_bipush (v := nI 99) hx dX12_passes_100 (by decide) ?_
          first | refine z_icmp_geN (tgt := 109) hx dX12_passes_102 (by decide) (by omega) (by omega) (fun zc102 => ?_) (fun zc102 => ?_) | refine z_icmp_ge (tgt := 109) hx dX12_passes_102 (by decide) (fun zc102 => ?_) (fun zc102 => ?_)
          · skip
            refine z_iconst (v := nI 0) hx dX12_passes_109 (by decide) ?_
            first | refine z_iaddN hx dX12_passes_110 ?_ | refine z_iadd hx dX12_passes_110 ?_
            first | refine z_iastN hx dX12_passes_111 rfl (by decide) (by omega) ?_ | refine z_iastJ hx dX12_passes_111 rfl (by decide) (by omega) ?_
            first | refine z_iincN (z := 1) hx dX12_passes_112 rfl rfl ?_ | refine z_iinc hx dX12_passes_112 rfl rfl rfl ?_
            refine z_goto (tgt := 8) hx dX12_passes_115 (by decide) ?_
            first
            | exact z_kill 4 (z_heap (congrArg (fun l => [zN 34 (fl l)]) (zPq_mv (v := lA L q + 1) ⟨zc27, Or.inr zc35⟩ (by rw [if_pos (by omega)]))) (ih _ (by omega) (q + 1) rfl (by omega)))
            | exact z_kill 4 (z_heap (congrArg (fun l => [zN 34 (fl l)]) (zPq_mv (v := lA L q + 1) ⟨zc27, Or.inl (hte.mp zc45)⟩ (by rw [if_pos (by omega)]))) (ih _ (by omega) (q + 1) rfl (by omega)))
            | exact z_kill 4 (z_heap (congrArg (fun l => [zN 34 (fl l)]) (zPq_mv (v := lA L q - 1) ⟨zc27, Or.inr zc35⟩ (by rw [if_neg (by omega)]))) (ih _ (by omega) (q + 1) rfl (by omega)))
            | exact z_kill 4 (z_heap (congrArg (fun l => [zN 34 (fl l)]) (zPq_mv (v := lA L q - 1) ⟨zc27, Or.inl (hte.mp zc45)⟩ (by rw [if_neg (by omega)]))) (ih _ (by omega) (q + 1) rfl (by omega)))
            | exact z_kill 4 (z_heap ((congrArg (fun f => [zN 34 f]) (fl_sT (zPq L wk q) q _)).trans (congrArg (fun l => [zN 34 (fl l)]) (zPq_no (v := lT L q + 1) (fun e => e.1 zc27) (by rw [if_pos (by omega)])))) (ih _ (by omega) (q + 1) rfl (by omega)))
            | exact z_kill 4 (z_heap ((congrArg (fun f => [zN 34 f]) (fl_sT (zPq L wk q) q _)).trans (congrArg (fun l => [zN 34 (fl l)]) (zPq_no (v := lT L q + 1) (fun e => e.2.elim (fun e => zc45 (hte.mpr e)) zc35) (by rw [if_pos (by omega)])))) (ih _ (by omega) (q + 1) rfl (by omega)))
            | exact z_kill 4 (z_heap ((congrArg (fun f => [zN 34 f]) (fl_sT (zPq L wk q) q _)).trans (congrArg (fun l => [zN 34 (fl l)]) (zPq_no (v := lT L q + 0) (fun e => e.1 zc27) (by rw [if_neg (by omega)]; rfl)))) (ih _ (by omega) (q + 1) rfl (by omega)))
            | exact z_kill 4 (z_heap ((congrArg (fun f => [zN 34 f]) (fl_sT (zPq L wk q) q _)).trans (congrArg (fun l => [zN 34 (fl l)]) (zPq_no (v := lT L q + 0) (fun e => e.2.elim (fun e => zc45 (hte.mpr e)) zc35) (by rw [if_neg (by omega)]; rfl)))) (ih _ (by omega) (q + 1) rfl (by omega)))
          · skip
            refine z_iconst (v := nI 1) hx dX12_passes_105 (by decide) ?_
            refine z_goto (tgt := 110) hx dX12_passes_106 (by decide) ?_
            first | refine z_iaddN hx dX12_passes_110 ?_ | refine z_iadd hx dX12_passes_110 ?_
            first | refine z_iastN hx dX12_passes_111 rfl (by decide) (by omega) ?_ | refine z_iastJ hx dX12_passes_111 rfl (by decide) (by omega) ?_
            first | refine z_iincN (z := 1) hx dX12_passes_112 rfl rfl ?_ | refine z_iinc hx dX12_passes_112 rfl rfl rfl ?_
            refine z_goto (tgt := 8) hx dX12_passes_115 (by decide) ?_
            first
            | exact z_kill 4 (z_heap (congrArg (fun l => [zN 34 (fl l)]) (zPq_mv (v := lA L q + 1) ⟨zc27, Or.inr zc35⟩ (by rw [if_pos (by omega)]))) (ih _ (by omega) (q + 1) rfl (by omega)))
            | exact z_kill 4 (z_heap (congrArg (fun l => [zN 34 (fl l)]) (zPq_mv (v := lA L q + 1) ⟨zc27, Or.inl (hte.mp zc45)⟩ (by rw [if_pos (by omega)]))) (ih _ (by omega) (q + 1) rfl (by omega)))
            | exact z_kill 4 (z_heap (congrArg (fun l => [zN 34 (fl l)]) (zPq_mv (v := lA L q - 1) ⟨zc27, Or.inr zc35⟩ (by rw [if_neg (by omega)]))) (ih _ (by omega) (q + 1) rfl (by omega)))
            | exact z_kill 4 (z_heap (congrArg (fun l => [zN 34 (fl l)]) (zPq_mv (v := lA L q - 1) ⟨zc27, Or.inl (hte.mp zc45)⟩ (by rw [if_neg (by omega)]))) (ih _ (by omega) (q + 1) rfl (by omega)))
            | exact z_kill 4 (z_heap ((congrArg (fun f => [zN 34 f]) (fl_sT (zPq L wk q) q _)).trans (congrArg (fun l => [zN 34 (fl l)]) (zPq_no (v := lT L q + 1) (fun e => e.1 zc27) (by rw [if_pos (by omega)])))) (ih _ (by omega) (q + 1) rfl (by omega)))
            | exact z_kill 4 (z_heap ((congrArg (fun f => [zN 34 f]) (fl_sT (zPq L wk q) q _)).trans (congrArg (fun l => [zN 34 (fl l)]) (zPq_no (v := lT L q + 1) (fun e => e.2.elim (fun e => zc45 (hte.mpr e)) zc35) (by rw [if_pos (by omega)])))) (ih _ (by omega) (q + 1) rfl (by omega)))
            | exact z_kill 4 (z_heap ((congrArg (fun f => [zN 34 f]) (fl_sT (zPq L wk q) q _)).trans (congrArg (fun l => [zN 34 (fl l)]) (zPq_no (v := lT L q + 0) (fun e => e.1 zc27) (by rw [if_neg (by omega)]; rfl)))) (ih _ (by omega) (q + 1) rfl (by omega)))
            | exact z_kill 4 (z_heap ((congrArg (fun f => [zN 34 f]) (fl_sT (zPq L wk q) q _)).trans (congrArg (fun l => [zN 34 (fl l)]) (zPq_no (v := lT L q + 0) (fun e => e.2.elim (fun e => zc45 (hte.mpr e)) zc35) (by rw [if_neg (by omega)]; rfl)))) (ih _ (by omega) (q + 1) rfl (by omega)))
        · skip
          refine z_iload_n hx dX12_passes_30 rfl ?_
          refine z_iload_n hx dX12_passes_31 rfl ?_
          refine z_callisP hx [] (qX12_has _ _ (by omega) (by omega)) dX12_passes_32 sX12_142 rfl rfl rfl (by decide) (by decide) rfl (Nat.le_of_ble_eq_true rfl) (by decide) ?_
          first | refine z_if_neB (tgt := 48) hx dX12_passes_35 (by decide) (fun zc35 => ?_) (fun zc35 => ?_) | refine z_if_neN (tgt := 48) hx dX12_passes_35 (by decide) (by omega) (fun zc35 => ?_) (fun zc35 => ?_) | refine z_if_ne (tgt := 48) hx dX12_passes_35 (by decide) (fun zc35 => ?_) (fun zc35 => ?_)
          · skip
            refine z_aload_n hx dX12_passes_48 rfl ?_
            refine z_iload hx dX12_passes_49 rfl ?_
            refine z_iconst (v := nI 1) hx dX12_passes_51 (by decide) ?_
            first | refine z_iaddN hx dX12_passes_52 ?_ | refine z_iadd hx dX12_passes_52 ?_
            refine z_dup2 hx dX12_passes_53 rfl rfl ?_
            refine z_ialdJ hx dX12_passes_54 rfl (by decide) (by omega) ?_
            first | refine z_topN (fl_A (zPq L wk q) _) ?_ | refine z_topN (fl_F (zPq L wk q) _) ?_ | refine z_topN (fl_W (zPq L wk q) _) ?_ | refine z_topN (fl_T (zPq L wk q) _) ?_ | refine z_topN (fl_K (zPq L wk q) _) ?_ | refine z_topN (fl_0 (zPq L wk q)) ?_ | refine z_topN (fl_1 (zPq L wk q)) ?_ | refine z_topN (fl_2 (zPq L wk q)) ?_ | refine z_topN (fl_3 (zPq L wk q)) ?_
            refine z_topN a3 ?_
            refine z_aload_n hx dX12_passes_55 rfl ?_
            refine z_iload hx dX12_passes_56 rfl ?_
            refine z_iconst (v := nI 3) hx dX12_passes_58 (by decide) ?_
            first | refine z_iaddN hx dX12_passes_59 ?_ | refine z_iadd hx dX12_passes_59 ?_
            refine z_ialdJ hx dX12_passes_60 rfl (by decide) (by omega) ?_
            first | refine z_topN (fl_A (zPq L wk q) _) ?_ | refine z_topN (fl_F (zPq L wk q) _) ?_ | refine z_topN (fl_W (zPq L wk q) _) ?_ | refine z_topN (fl_T (zPq L wk q) _) ?_ | refine z_topN (fl_K (zPq L wk q) _) ?_ | refine z_topN (fl_0 (zPq L wk q)) ?_ | refine z_topN (fl_1 (zPq L wk q)) ?_ | refine z_topN (fl_2 (zPq L wk q)) ?_ | refine z_topN (fl_3 (zPq L wk q)) ?_
            refine z_topN a5 ?_
            refine z_aload_n hx dX12_passes_61 rfl ?_
            refine z_iload hx dX12_passes_62 rfl ?_
            refine z_iconst (v := nI 1) hx dX12_passes_64 (by decide) ?_
            first | refine z_iaddN hx dX12_passes_65 ?_ | refine z_iadd hx dX12_passes_65 ?_
            refine z_ialdJ hx dX12_passes_66 rfl (by decide) (by omega) ?_
            first | refine z_topN (fl_A (zPq L wk q) _) ?_ | refine z_topN (fl_F (zPq L wk q) _) ?_ | refine z_topN (fl_W (zPq L wk q) _) ?_ | refine z_topN (fl_T (zPq L wk q) _) ?_ | refine z_topN (fl_K (zPq L wk q) _) ?_ | refine z_topN (fl_0 (zPq L wk q)) ?_ | refine z_topN (fl_1 (zPq L wk q)) ?_ | refine z_topN (fl_2 (zPq L wk q)) ?_ | refine z_topN (fl_3 (zPq L wk q)) ?_
            refine z_topN a3 ?_
            first | refine z_icmp_leN (tgt := 74) hx dX12_passes_67 (by decide) (by omega) (by omega) (fun zc67 => ?_) (fun zc67 => ?_) | refine z_icmp_le (tgt := 74) hx dX12_passes_67 (by decide) (fun zc67 => ?_) (fun zc67 => ?_)
            · skip
              refine z_iconst (v := -1) hx dX12_passes_74 (by decide) ?_
              refine z_iadd hx dX12_passes_75 ?_
              refine z_top (b := nI (lA L q - 1)) (sb_m1 (by omega)) ?_
              first | refine z_iastN hx dX12_passes_76 rfl (by decide) (by omega) ?_ | refine z_iastJ hx dX12_passes_76 rfl (by decide) (by omega) ?_
              refine z_heap (congrArg (fun f => [zN 34 f]) (fl_sA (zPq L wk q) q _)) ?_
              refine z_aload_n hx dX12_passes_77 rfl ?_
              refine z_iload hx dX12_passes_78 rfl ?_
              refine z_iconst (v := nI 4) hx dX12_passes_80 (by decide) ?_
              first | refine z_iaddN hx dX12_passes_81 ?_ | refine z_iadd hx dX12_passes_81 ?_
              refine z_iconst (v := nI 0) hx dX12_passes_82 (by decide) ?_
              first | refine z_iastN hx dX12_passes_83 rfl (by decide) (by omega) ?_ | refine z_iastJ hx dX12_passes_83 rfl (by decide) (by omega) ?_
              refine z_heap (congrArg (fun f => [zN 34 f]) (fl_sT (lsA (zPq L wk q) q _) q 0)) ?_
              refine z_goto (tgt := 112) hx dX12_passes_84 (by decide) ?_
              first | refine z_iincN (z := 1) hx dX12_passes_112 rfl rfl ?_ | refine z_iinc hx dX12_passes_112 rfl rfl rfl ?_
              refine z_goto (tgt := 8) hx dX12_passes_115 (by decide) ?_
              first
              | exact z_kill 4 (z_heap (congrArg (fun l => [zN 34 (fl l)]) (zPq_mv (v := lA L q + 1) ⟨zc27, Or.inr zc35⟩ (by rw [if_pos (by omega)]))) (ih _ (by omega) (q + 1) rfl (by omega)))
              | exact z_kill 4 (z_heap (congrArg (fun l => [zN 34 (fl l)]) (zPq_mv (v := lA L q + 1) ⟨zc27, Or.inl (hte.mp zc45)⟩ (by rw [if_pos (by omega)]))) (ih _ (by omega) (q + 1) rfl (by omega)))
              | exact z_kill 4 (z_heap (congrArg (fun l => [zN 34 (fl l)]) (zPq_mv (v := lA L q - 1) ⟨zc27, Or.inr zc35⟩ (by rw [if_neg (by omega)]))) (ih _ (by omega) (q + 1) rfl (by omega)))
              | exact z_kill 4 (z_heap (congrArg (fun l => [zN 34 (fl l)]) (zPq_mv (v := lA L q - 1) ⟨zc27, Or.inl (hte.mp zc45)⟩ (by rw [if_neg (by omega)]))) (ih _ (by omega) (q + 1) rfl (by omega)))
              | exact z_kill 4 (z_heap ((congrArg (fun f => [zN 34 f]) (fl_sT (zPq L wk q) q _)).trans (congrArg (fun l => [zN 34 (fl l)]) (zPq_no (v := lT L q + 1) (fun e => e.1 zc27) (by rw [if_pos (by omega)])))) (ih _ (by omega) (q + 1) rfl (by omega)))
              | exact z_kill 4 (z_heap ((congrArg (fun f => [zN 34 f]) (fl_sT (zPq L wk q) q _)).trans (congrArg (fun l => [zN 34 (fl l)]) (zPq_no (v := lT L q + 1) (fun e => e.2.elim (fun e => zc45 (hte.mpr e)) zc35) (by rw [if_pos (by omega)])))) (ih _ (by omega) (q + 1) rfl (by omega)))
              | exact z_kill 4 (z_heap ((congrArg (fun f => [zN 34 f]) (fl_sT (zPq L wk q) q _)).trans (congrArg (fun l => [zN 34 (fl l)]) (zPq_no (v := lT L q + 0) (fun e => e.1 zc27) (by rw [if_neg (by omega)]; rfl)))) (ih _ (by omega) (q + 1) rfl (by omega)))
              | exact z_kill 4 (z_heap ((congrArg (fun f => [zN 34 f]) (fl_sT (zPq L wk q) q _)).trans (congrArg (fun l => [zN 34 (fl l)]) (zPq_no (v := lT L q + 0) (fun e => e.2.elim (fun e => zc45 (hte.mpr e)) zc35) (by rw [if_neg (by omega)]; rfl)))) (ih _ (by omega) (q + 1) rfl (by omega)))
            · skip
              refine z_iconst (v := nI 1) hx dX12_passes_70 (by decide) ?_
              refine z_goto (tgt := 75) hx dX12_passes_71 (by decide) ?_
              first | refine z_iaddN hx dX12_passes_75 ?_ | refine z_iadd hx dX12_passes_75 ?_
              first | refine z_iastN hx dX12_passes_76 rfl (by decide) (by omega) ?_ | refine z_iastJ hx dX12_passes_76 rfl (by decide) (by omega) ?_
              refine z_heap (congrArg (fun f => [zN 34 f]) (fl_sA (zPq L wk q) q _)) ?_
              refine z_aload_n hx dX12_passes_77 rfl ?_
              refine z_iload hx dX12_passes_78 rfl ?_
              refine z_iconst (v := nI 4) hx dX12_passes_80 (by decide) ?_
              first | refine z_iaddN hx dX12_passes_81 ?_ | refine z_iadd hx dX12_passes_81 ?_
              refine z_iconst (v := nI 0) hx dX12_passes_82 (by decide) ?_
              first | refine z_iastN hx dX12_passes_83 rfl (by decide) (by omega) ?_ | refine z_iastJ hx dX12_passes_83 rfl (by decide) (by omega) ?_
              refine z_heap (congrArg (fun f => [zN 34 f]) (fl_sT (lsA (zPq L wk q) q _) q 0)) ?_
              refine z_goto (tgt := 112) hx dX12_passes_84 (by decide) ?_
              first | refine z_iincN (z := 1) hx dX12_passes_112 rfl rfl ?_ | refine z_iinc hx dX12_passes_112 rfl rfl rfl ?_
              refine z_goto (tgt := 8) hx dX12_passes_115 (by decide) ?_
              first
              | exact z_kill 4 (z_heap (congrArg (fun l => [zN 34 (fl l)]) (zPq_mv (v := lA L q + 1) ⟨zc27, Or.inr zc35⟩ (by rw [if_pos (by omega)]))) (ih _ (by omega) (q + 1) rfl (by omega)))
              | exact z_kill 4 (z_heap (congrArg (fun l => [zN 34 (fl l)]) (zPq_mv (v := lA L q + 1) ⟨zc27, Or.inl (hte.mp zc45)⟩ (by rw [if_pos (by omega)]))) (ih _ (by omega) (q + 1) rfl (by omega)))
              | exact z_kill 4 (z_heap (congrArg (fun l => [zN 34 (fl l)]) (zPq_mv (v := lA L q - 1) ⟨zc27, Or.inr zc35⟩ (by rw [if_neg (by omega)]))) (ih _ (by omega) (q + 1) rfl (by omega)))
              | exact z_kill 4 (z_heap (congrArg (fun l => [zN 34 (fl l)]) (zPq_mv (v := lA L q - 1) ⟨zc27, Or.inl (hte.mp zc45)⟩ (by rw [if_neg (by omega)]))) (ih _ (by omega) (q + 1) rfl (by omega)))
              | exact z_kill 4 (z_heap ((congrArg (fun f => [zN 34 f]) (fl_sT (zPq L wk q) q _)).trans (congrArg (fun l => [zN 34 (fl l)]) (zPq_no (v := lT L q + 1) (fun e => e.1 zc27) (by rw [if_pos (by omega)])))) (ih _ (by omega) (q + 1) rfl (by omega)))
              | exact z_kill 4 (z_heap ((congrArg (fun f => [zN 34 f]) (fl_sT (zPq L wk q) q _)).trans (congrArg (fun l => [zN 34 (fl l)]) (zPq_no (v := lT L q + 1) (fun e => e.2.elim (fun e => zc45 (hte.mpr e)) zc35) (by rw [if_pos (by omega)])))) (ih _ (by omega) (q + 1) rfl (by omega)))
              | exact z_kill 4 (z_heap ((congrArg (fun f => [zN 34 f]) (fl_sT (zPq L wk q) q _)).trans (congrArg (fun l => [zN 34 (fl l)]) (zPq_no (v := lT L q + 0) (fun e => e.1 zc27) (by rw [if_neg (by omega)]; rfl)))) (ih _ (by omega) (q + 1) rfl (by omega)))
              | exact z_kill 4 (z_heap ((congrArg (fun f => [zN 34 f]) (fl_sT (zPq L wk q) q _)).trans (congrArg (fun l => [zN 34 (fl l)]) (zPq_no (v := lT L q + 0) (fun e => e.2.elim (fun e => zc45 (hte.mpr e)) zc35) (by rw [if_neg (by omega)]; rfl)))) (ih _ (by omega) (q + 1) rfl (by omega)))
          · skip
            refine z_aload_n hx dX12_passes_38 rfl ?_
            refine z_iload hx dX12_passes_39 rfl ?_
            refine z_iconst (v := nI 1) hx dX12_passes_41 (by decide) ?_
            first | refine z_iaddN hx dX12_passes_42 ?_ | refine z_iadd hx dX12_passes_42 ?_
            refine z_ialdJ hx dX12_passes_43 rfl (by decide) (by omega) ?_
            first | refine z_topN (fl_A (zPq L wk q) _) ?_ | refine z_topN (fl_F (zPq L wk q) _) ?_ | refine z_topN (fl_W (zPq L wk q) _) ?_ | refine z_topN (fl_T (zPq L wk q) _) ?_ | refine z_topN (fl_K (zPq L wk q) _) ?_ | refine z_topN (fl_0 (zPq L wk q)) ?_ | refine z_topN (fl_1 (zPq L wk q)) ?_ | refine z_topN (fl_2 (zPq L wk q)) ?_ | refine z_topN (fl_3 (zPq L wk q)) ?_
            refine z_topN a3 ?_
            refine z_iload_n hx dX12_passes_44 rfl ?_
            refine z_icmp_ne (tgt := 87) hx dX12_passes_45 (by decide) (fun zc45 => ?_) (fun zc45 => ?_)
            · skip
              refine z_aload_n hx dX12_passes_87 rfl ?_
              refine z_iload hx dX12_passes_88 rfl ?_
              refine z_iconst (v := nI 4) hx dX12_passes_90 (by decide) ?_
              first | refine z_iaddN hx dX12_passes_91 ?_ | refine z_iadd hx dX12_passes_91 ?_
              refine z_dup2 hx dX12_passes_92 rfl rfl ?_
              refine z_ialdJ hx dX12_passes_93 rfl (by decide) (by omega) ?_
              first | refine z_topN (fl_A (zPq L wk q) _) ?_ | refine z_topN (fl_F (zPq L wk q) _) ?_ | refine z_topN (fl_W (zPq L wk q) _) ?_ | refine z_topN (fl_T (zPq L wk q) _) ?_ | refine z_topN (fl_K (zPq L wk q) _) ?_ | refine z_topN (fl_0 (zPq L wk q)) ?_ | refine z_topN (fl_1 (zPq L wk q)) ?_ | refine z_topN (fl_2 (zPq L wk q)) ?_ | refine z_topN (fl_3 (zPq L wk q)) ?_
              refine z_topN a4 ?_
              refine z_aload_n hx dX12_passes_94 rfl ?_
              refine z_iload hx dX12_passes_95 rfl ?_
              refine z_iconst (v := nI 4) hx dX12_passes_97 (by decide) ?_
              first | refine z_iaddN hx dX12_passes_98 ?_ | refine z_iadd hx dX12_passes_98 ?_
              refine z_ialdJ hx dX12_passes_99 rfl (by decide) (by omega) ?_
              first | refine z_topN (fl_A (zPq L wk q) _) ?_ | refine z_topN (fl_F (zPq L wk q) _) ?_ | refine z_topN (fl_W (zPq L wk q) _) ?_ | refine z_topN (fl_T (zPq L wk q) _) ?_ | refine z_topN (fl_K (zPq L wk q) _) ?_ | refine z_topN (fl_0 (zPq L wk q)) ?_ | refine z_topN (fl_1 (zPq L wk q)) ?_ | refine z_topN (fl_2 (zPq L wk q)) ?_ | refine z_topN (fl_3 (zPq L wk q)) ?_
              refine z_topN a4 ?_
              refine z_bipush (v := nI 99) hx dX12_passes_100 (by decide) ?_
              first | refine z_icmp_geN (tgt := 109) hx dX12_passes_102 (by decide) (by omega) (by omega) (fun zc102 => ?_) (fun zc102 => ?_) | refine z_icmp_ge (tgt := 109) hx dX12_passes_102 (by decide) (fun zc102 => ?_) (fun zc102 => ?_)
              · skip
                refine z_iconst (v := nI 0) hx dX12_passes_109 (by decide) ?_
                first | refine z_iaddN hx dX12_passes_110 ?_ | refine z_iadd hx dX12_passes_110 ?_
                first | refine z_iastN hx dX12_passes_111 rfl (by decide) (by omega) ?_ | refine z_iastJ hx dX12_passes_111 rfl (by decide) (by omega) ?_
                first | refine z_iincN (z := 1) hx dX12_passes_112 rfl rfl ?_ | refine z_iinc hx dX12_passes_112 rfl rfl rfl ?_
                refine z_goto (tgt := 8) hx dX12_passes_115 (by decide) ?_
                first
                | exact z_kill 4 (z_heap (congrArg (fun l => [zN 34 (fl l)]) (zPq_mv (v := lA L q + 1) ⟨zc27, Or.inr zc35⟩ (by rw [if_pos (by omega)]))) (ih _ (by omega) (q + 1) rfl (by omega)))
                | exact z_kill 4 (z_heap (congrArg (fun l => [zN 34 (fl l)]) (zPq_mv (v := lA L q + 1) ⟨zc27, Or.inl (hte.mp zc45)⟩ (by rw [if_pos (by omega)]))) (ih _ (by omega) (q + 1) rfl (by omega)))
                | exact z_kill 4 (z_heap (congrArg (fun l => [zN 34 (fl l)]) (zPq_mv (v := lA L q - 1) ⟨zc27, Or.inr zc35⟩ (by rw [if_neg (by omega)]))) (ih _ (by omega) (q + 1) rfl (by omega)))
                | exact z_kill 4 (z_heap (congrArg (fun l => [zN 34 (fl l)]) (zPq_mv (v := lA L q - 1) ⟨zc27, Or.inl (hte.mp zc45)⟩ (by rw [if_neg (by omega)]))) (ih _ (by omega) (q + 1) rfl (by omega)))
                | exact z_kill 4 (z_heap ((congrArg (fun f => [zN 34 f]) (fl_sT (zPq L wk q) q _)).trans (congrArg (fun l => [zN 34 (fl l)]) (zPq_no (v := lT L q + 1) (fun e => e.1 zc27) (by rw [if_pos (by omega)])))) (ih _ (by omega) (q + 1) rfl (by omega)))
                | exact z_kill 4 (z_heap ((congrArg (fun f => [zN 34 f]) (fl_sT (zPq L wk q) q _)).trans (congrArg (fun l => [zN 34 (fl l)]) (zPq_no (v := lT L q + 1) (fun e => e.2.elim (fun e => zc45 (hte.mpr e)) zc35) (by rw [if_pos (by omega)])))) (ih _ (by omega) (q + 1) rfl (by omega)))
                | exact z_kill 4 (z_heap ((congrArg (fun f => [zN 34 f]) (fl_sT (zPq L wk q) q _)).trans (congrArg (fun l => [zN 34 (fl l)]) (zPq_no (v := lT L q + 0) (fun e => e.1 zc27) (by rw [if_neg (by omega)]; rfl)))) (ih _ (by omega) (q + 1) rfl (by omega)))
                | exact z_kill 4 (z_heap ((congrArg (fun f => [zN 34 f]) (fl_sT (zPq L wk q) q _)).trans (congrArg (fun l => [zN 34 (fl l)]) (zPq_no (v := lT L q + 0) (fun e => e.2.elim (fun e => zc45 (hte.mpr e)) zc35) (by rw [if_neg (by omega)]; rfl)))) (ih _ (by omega) (q + 1) rfl (by omega)))
              · skip
                refine z_iconst (v := nI 1) hx dX12_passes_105 (by decide) ?_
                refine z_goto (tgt := 110) hx dX12_passes_106 (by decide) ?_
                first | refine z_iaddN hx dX12_passes_110 ?_ | refine z_iadd hx dX12_passes_110 ?_
                first | refine z_iastN hx dX12_passes_111 rfl (by decide) (by omega) ?_ | refine z_iastJ hx dX12_passes_111 rfl (by decide) (by omega) ?_
                first | refine z_iincN (z := 1) hx dX12_passes_112 rfl rfl ?_ | refine z_iinc hx dX12_passes_112 rfl rfl rfl ?_
                refine z_goto (tgt := 8) hx dX12_passes_115 (by decide) ?_
                first
                | exact z_kill 4 (z_heap (congrArg (fun l => [zN 34 (fl l)]) (zPq_mv (v := lA L q + 1) ⟨zc27, Or.inr zc35⟩ (by rw [if_pos (by omega)]))) (ih _ (by omega) (q + 1) rfl (by omega)))
                | exact z_kill 4 (z_heap (congrArg (fun l => [zN 34 (fl l)]) (zPq_mv (v := lA L q + 1) ⟨zc27, Or.inl (hte.mp zc45)⟩ (by rw [if_pos (by omega)]))) (ih _ (by omega) (q + 1) rfl (by omega)))
                | exact z_kill 4 (z_heap (congrArg (fun l => [zN 34 (fl l)]) (zPq_mv (v := lA L q - 1) ⟨zc27, Or.inr zc35⟩ (by rw [if_neg (by omega)]))) (ih _ (by omega) (q + 1) rfl (by omega)))
                | exact z_kill 4 (z_heap (congrArg (fun l => [zN 34 (fl l)]) (zPq_mv (v := lA L q - 1) ⟨zc27, Or.inl (hte.mp zc45)⟩ (by rw [if_neg (by omega)]))) (ih _ (by omega) (q + 1) rfl (by omega)))
                | exact z_kill 4 (z_heap ((congrArg (fun f => [zN 34 f]) (fl_sT (zPq L wk q) q _)).trans (congrArg (fun l => [zN 34 (fl l)]) (zPq_no (v := lT L q + 1) (fun e => e.1 zc27) (by rw [if_pos (by omega)])))) (ih _ (by omega) (q + 1) rfl (by omega)))
                | exact z_kill 4 (z_heap ((congrArg (fun f => [zN 34 f]) (fl_sT (zPq L wk q) q _)).trans (congrArg (fun l => [zN 34 (fl l)]) (zPq_no (v := lT L q + 1) (fun e => e.2.elim (fun e => zc45 (hte.mpr e)) zc35) (by rw [if_pos (by omega)])))) (ih _ (by omega) (q + 1) rfl (by omega)))
                | exact z_kill 4 (z_heap ((congrArg (fun f => [zN 34 f]) (fl_sT (zPq L wk q) q _)).trans (congrArg (fun l => [zN 34 (fl l)]) (zPq_no (v := lT L q + 0) (fun e => e.1 zc27) (by rw [if_neg (by omega)]; rfl)))) (ih _ (by omega) (q + 1) rfl (by omega)))
                | exact z_kill 4 (z_heap ((congrArg (fun f => [zN 34 f]) (fl_sT (zPq L wk q) q _)).trans (congrArg (fun l => [zN 34 (fl l)]) (zPq_no (v := lT L q + 0) (fun e => e.2.elim (fun e => zc45 (hte.mpr e)) zc35) (by rw [if_neg (by omega)]; rfl)))) (ih _ (by omega) (q + 1) rfl (by omega)))
            · skip
              refine z_aload_n hx dX12_passes_48 rfl ?_
              refine z_iload hx dX12_passes_49 rfl ?_
              refine z_iconst (v := nI 1) hx dX12_passes_51 (by decide) ?_
              first | refine z_iaddN hx dX12_passes_52 ?_ | refine z_iadd hx dX12_passes_52 ?_
              refine z_dup2 hx dX12_passes_53 rfl rfl ?_
              refine z_ialdJ hx dX12_passes_54 rfl (by decide) (by omega) ?_
              first | refine z_topN (fl_A (zPq L wk q) _) ?_ | refine z_topN (fl_F (zPq L wk q) _) ?_ | refine z_topN (fl_W (zPq L wk q) _) ?_ | refine z_topN (fl_T (zPq L wk q) _) ?_ | refine z_topN (fl_K (zPq L wk q) _) ?_ | refine z_topN (fl_0 (zPq L wk q)) ?_ | refine z_topN (fl_1 (zPq L wk q)) ?_ | refine z_topN (fl_2 (zPq L wk q)) ?_ | refine z_topN (fl_3 (zPq L wk q)) ?_
              refine z_topN a3 ?_
              refine z_aload_n hx dX12_passes_55 rfl ?_
              refine z_iload hx dX12_passes_56 rfl ?_
              refine z_iconst (v := nI 3) hx dX12_passes_58 (by decide) ?_
              first | refine z_iaddN hx dX12_passes_59 ?_ | refine z_iadd hx dX12_passes_59 ?_
              refine z_ialdJ hx dX12_passes_60 rfl (by decide) (by omega) ?_
              first | refine z_topN (fl_A (zPq L wk q) _) ?_ | refine z_topN (fl_F (zPq L wk q) _) ?_ | refine z_topN (fl_W (zPq L wk q) _) ?_ | refine z_topN (fl_T (zPq L wk q) _) ?_ | refine z_topN (fl_K (zPq L wk q) _) ?_ | refine z_topN (fl_0 (zPq L wk q)) ?_ | refine z_topN (fl_1 (zPq L wk q)) ?_ | refine z_topN (fl_2 (zPq L wk q)) ?_ | refine z_topN (fl_3 (zPq L wk q)) ?_
              refine z_topN a5 ?_
              refine z_aload_n hx dX12_passes_61 rfl ?_
              refine z_iload hx dX12_passes_62 rfl ?_
              refine z_iconst (v := nI 1) hx dX12_passes_64 (by decide) ?_
              first | refine z_iaddN hx dX12_passes_65 ?_ | refine z_iadd hx dX12_passes_65 ?_
              refine z_ialdJ hx dX12_passes_66 rfl (by decide) (by omega) ?_
              first | refine z_topN (fl_A (zPq L wk q) _) ?_ | refine z_topN (fl_F (zPq L wk q) _) ?_ | refine z_topN (fl_W (zPq L wk q) _) ?_ | refine z_topN (fl_T (zPq L wk q) _) ?_ | refine z_topN (fl_K (zPq L wk q) _) ?_ | refine z_topN (fl_0 (zPq L wk q)) ?_ | refine z_topN (fl_1 (zPq L wk q)) ?_ | refine z_topN (fl_2 (zPq L wk q)) ?_ | refine z_topN (fl_3 (zPq L wk q)) ?_
              refine z_topN a3 ?_
              first | refine z_icmp_leN (tgt := 74) hx dX12_passes_67 (by decide) (by omega) (by omega) (fun zc67 => ?_) (fun zc67 => ?_) | refine z_icmp_le (tgt := 74) hx dX12_passes_67 (by decide) (fun zc67 => ?_) (fun zc67 => ?_)
              · skip
                refine z_iconst (v := -1) hx dX12_passes_74 (by decide) ?_
                refine z_iadd hx dX12_passes_75 ?_
                refine z_top (b := nI (lA L q - 1)) (sb_m1 (by omega)) ?_
                first | refine z_iastN hx dX12_passes_76 rfl (by decide) (by omega) ?_ | refine z_iastJ hx dX12_passes_76 rfl (by decide) (by omega) ?_
                refine z_heap (congrArg (fun f => [zN 34 f]) (fl_sA (zPq L wk q) q _)) ?_
                refine z_aload_n hx dX12_passes_77 rfl ?_
                refine z_iload hx dX12_passes_78 rfl ?_
                refine z_iconst (v := nI 4) hx dX12_passes_80 (by decide) ?_
                first | refine z_iaddN hx dX12_passes_81 ?_ | refine z_iadd hx dX12_passes_81 ?_
                refine z_iconst (v := nI 0) hx dX12_passes_82 (by decide) ?_
                first | refine z_iastN hx dX12_passes_83 rfl (by decide) (by omega) ?_ | refine z_iastJ hx dX12_passes_83 rfl (by decide) (by omega) ?_
                refine z_heap (congrArg (fun f => [zN 34 f]) (fl_sT (lsA (zPq L wk q) q _) q 0)) ?_
                refine z_goto (tgt := 112) hx dX12_passes_84 (by decide) ?_
                first | refine z_iincN (z := 1) hx dX12_passes_112 rfl rfl ?_ | refine z_iinc hx dX12_passes_112 rfl rfl rfl ?_
                refine z_goto (tgt := 8) hx dX12_passes_115 (by decide) ?_
                first
                | exact z_kill 4 (z_heap (congrArg (fun l => [zN 34 (fl l)]) (zPq_mv (v := lA L q + 1) ⟨zc27, Or.inr zc35⟩ (by rw [if_pos (by omega)]))) (ih _ (by omega) (q + 1) rfl (by omega)))
                | exact z_kill 4 (z_heap (congrArg (fun l => [zN 34 (fl l)]) (zPq_mv (v := lA L q + 1) ⟨zc27, Or.inl (hte.mp zc45)⟩ (by rw [if_pos (by omega)]))) (ih _ (by omega) (q + 1) rfl (by omega)))
                | exact z_kill 4 (z_heap (congrArg (fun l => [zN 34 (fl l)]) (zPq_mv (v := lA L q - 1) ⟨zc27, Or.inr zc35⟩ (by rw [if_neg (by omega)]))) (ih _ (by omega) (q + 1) rfl (by omega)))
                | exact z_kill 4 (z_heap (congrArg (fun l => [zN 34 (fl l)]) (zPq_mv (v := lA L q - 1) ⟨zc27, Or.inl (hte.mp zc45)⟩ (by rw [if_neg (by omega)]))) (ih _ (by omega) (q + 1) rfl (by omega)))
                | exact z_kill 4 (z_heap ((congrArg (fun f => [zN 34 f]) (fl_sT (zPq L wk q) q _)).trans (congrArg (fun l => [zN 34 (fl l)]) (zPq_no (v := lT L q + 1) (fun e => e.1 zc27) (by rw [if_pos (by omega)])))) (ih _ (by omega) (q + 1) rfl (by omega)))
                | exact z_kill 4 (z_heap ((congrArg (fun f => [zN 34 f]) (fl_sT (zPq L wk q) q _)).trans (congrArg (fun l => [zN 34 (fl l)]) (zPq_no (v := lT L q + 1) (fun e => e.2.elim (fun e => zc45 (hte.mpr e)) zc35) (by rw [if_pos (by omega)])))) (ih _ (by omega) (q + 1) rfl (by omega)))
                | exact z_kill 4 (z_heap ((congrArg (fun f => [zN 34 f]) (fl_sT (zPq L wk q) q _)).trans (congrArg (fun l => [zN 34 (fl l)]) (zPq_no (v := lT L q + 0) (fun e => e.1 zc27) (by rw [if_neg (by omega)]; rfl)))) (ih _ (by omega) (q + 1) rfl (by omega)))
                | exact z_kill 4 (z_heap ((congrArg (fun f => [zN 34 f]) (fl_sT (zPq L wk q) q _)).trans (congrArg (fun l => [zN 34 (fl l)]) (zPq_no (v := lT L q + 0) (fun e => e.2.elim (fun e => zc45 (hte.mpr e)) zc35) (by rw [if_neg (by omega)]; rfl)))) (ih _ (by omega) (q + 1) rfl (by omega)))
              · skip
                refine z_iconst (v := nI 1) hx dX12_passes_70 (by decide) ?_
                refine z_goto (tgt := 75) hx dX12_passes_71 (by decide) ?_
                first | refine z_iaddN hx dX12_passes_75 ?_ | refine z_iadd hx dX12_passes_75 ?_
                first | refine z_iastN hx dX12_passes_76 rfl (by decide) (by omega) ?_ | refine z_iastJ hx dX12_passes_76 rfl (by decide) (by omega) ?_
                refine z_heap (congrArg (fun f => [zN 34 f]) (fl_sA (zPq L wk q) q _)) ?_
                refine z_aload_n hx dX12_passes_77 rfl ?_
                refine z_iload hx dX12_passes_78 rfl ?_
                refine z_iconst (v := nI 4) hx dX12_passes_80 (by decide) ?_
                first | refine z_iaddN hx dX12_passes_81 ?_ | refine z_iadd hx dX12_passes_81 ?_
                refine z_iconst (v := nI 0) hx dX12_passes_82 (by decide) ?_
                first | refine z_iastN hx dX12_passes_83 rfl (by decide) (by omega) ?_ | refine z_iastJ hx dX12_passes_83 rfl (by decide) (by omega) ?_
                refine z_heap (congrArg (fun f => [zN 34 f]) (fl_sT (lsA (zPq L wk q) q _) q 0)) ?_
                refine z_goto (tgt := 112) hx dX12_passes_84 (by decide) ?_
                first | refine z_iincN (z := 1) hx dX12_passes_112 rfl rfl ?_ | refine z_iinc hx dX12_passes_112 rfl rfl rfl ?_
                refine z_goto (tgt := 8) hx dX12_passes_115 (by decide) ?_
                first
                | exact z_kill 4 (z_heap (congrArg (fun l => [zN 34 (fl l)]) (zPq_mv (v := lA L q + 1) ⟨zc27, Or.inr zc35⟩ (by rw [if_pos (by omega)]))) (ih _ (by omega) (q + 1) rfl (by omega)))
                | exact z_kill 4 (z_heap (congrArg (fun l => [zN 34 (fl l)]) (zPq_mv (v := lA L q + 1) ⟨zc27, Or.inl (hte.mp zc45)⟩ (by rw [if_pos (by omega)]))) (ih _ (by omega) (q + 1) rfl (by omega)))
                | exact z_kill 4 (z_heap (congrArg (fun l => [zN 34 (fl l)]) (zPq_mv (v := lA L q - 1) ⟨zc27, Or.inr zc35⟩ (by rw [if_neg (by omega)]))) (ih _ (by omega) (q + 1) rfl (by omega)))
                | exact z_kill 4 (z_heap (congrArg (fun l => [zN 34 (fl l)]) (zPq_mv (v := lA L q - 1) ⟨zc27, Or.inl (hte.mp zc45)⟩ (by rw [if_neg (by omega)]))) (ih _ (by omega) (q + 1) rfl (by omega)))
                | exact z_kill 4 (z_heap ((congrArg (fun f => [zN 34 f]) (fl_sT (zPq L wk q) q _)).trans (congrArg (fun l => [zN 34 (fl l)]) (zPq_no (v := lT L q + 1) (fun e => e.1 zc27) (by rw [if_pos (by omega)])))) (ih _ (by omega) (q + 1) rfl (by omega)))
                | exact z_kill 4 (z_heap ((congrArg (fun f => [zN 34 f]) (fl_sT (zPq L wk q) q _)).trans (congrArg (fun l => [zN 34 (fl l)]) (zPq_no (v := lT L q + 1) (fun e => e.2.elim (fun e => zc45 (hte.mpr e)) zc35) (by rw [if_pos (by omega)])))) (ih _ (by omega) (q + 1) rfl (by omega)))
                | exact z_kill 4 (z_heap ((congrArg (fun f => [zN 34 f]) (fl_sT (zPq L wk q) q _)).trans (congrArg (fun l => [zN 34 (fl l)]) (zPq_no (v := lT L q + 0) (fun e => e.1 zc27) (by rw [if_neg (by omega)]; rfl)))) (ih _ (by omega) (q + 1) rfl (by omega)))
                | exact z_kill 4 (z_heap ((congrArg (fun f => [zN 34 f]) (fl_sT (zPq L wk q) q _)).trans (congrArg (fun l => [zN 34 (fl l)]) (zPq_no (v := lT L q + 0) (fun e => e.2.elim (fun e => zc45 (hte.mpr e)) zc35) (by rw [if_neg (by omega)]; rfl)))) (ih _ (by omega) (q + 1) rfl (by omega)))
  refine z_aload_n hx dX12_passes_0 rfl ?_
  refine z_iconst (v := nI 0) hx dX12_passes_1 (by decide) ?_
  refine z_callisF hx (qX12_tramBy L hw 0 (by omega)) dX12_passes_2 sX12_160 rfl rfl (Nat.le_of_ble_eq_true rfl) rfl (Nat.le_of_ble_eq_true rfl) (by decide) ?_
  refine z_istore_n hx dX12_passes_5 (Nat.le_of_ble_eq_true rfl) rfl ?_
  refine z_iconst (v := nI 0) hx dX12_passes_6 (by decide) ?_
  refine z_istore_n hx dX12_passes_7 (Nat.le_of_ble_eq_true rfl) rfl ?_
  exact z_heap (show _ = [zN 34 (fl (zPq L wk 0))] by rw [zPq_0]) (loop8 _ 0 rfl (by omega))

