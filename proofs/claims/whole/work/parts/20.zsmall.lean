set_option maxHeartbeats 4000000 in
set_option maxRecDepth 100000 in
theorem qX11_isWithin (v a b : Int32) : zMi mX11_isWithin 0 ([.int v, .int a, .int b]) ([]) (fun r u => r = bP (a ≤ v ∧ v ≤ b) ∧ u = []) := by
  refine zMi.of (by decide) (Nat.le_of_ble_eq_true rfl) (fun x hx hF => ?_)
  refine z_iload_n hx dX11_isWithin_0 rfl ?_
  refine z_iload_n hx dX11_isWithin_1 rfl ?_
  first | refine z_icmp_ltN (tgt := 14) hx dX11_isWithin_2 (by decide) (by omega) (by omega) (fun zc2 => ?_) (fun zc2 => ?_) | refine z_icmp_lt (tgt := 14) hx dX11_isWithin_2 (by decide) (fun zc2 => ?_) (fun zc2 => ?_)
  · skip
    refine z_iconst (v := nI 0) hx dX11_isWithin_14 (by decide) ?_
    exact z_zret hx hF dX11_isWithin_15 rfl (by first | exact bP_nar _ | rfl) rfl ⟨by first | exact (bP_t ⟨by first | exact zc2 | exact Int32.not_lt.mp zc2, by first | exact zc7 | exact Int32.not_lt.mp zc7⟩).symm | exact (bP_f (fun q => absurd q.1 (Int32.not_le.mpr zc2))).symm | exact (bP_f (fun q => absurd q.2 (Int32.not_le.mpr zc7))).symm, rfl⟩
  · skip
    refine z_iload_n hx dX11_isWithin_5 rfl ?_
    refine z_iload_n hx dX11_isWithin_6 rfl ?_
    first | refine z_icmp_gtN (tgt := 14) hx dX11_isWithin_7 (by decide) (by omega) (by omega) (fun zc7 => ?_) (fun zc7 => ?_) | refine z_icmp_gt (tgt := 14) hx dX11_isWithin_7 (by decide) (fun zc7 => ?_) (fun zc7 => ?_)
    · skip
      refine z_iconst (v := nI 0) hx dX11_isWithin_14 (by decide) ?_
      exact z_zret hx hF dX11_isWithin_15 rfl (by first | exact bP_nar _ | rfl) rfl ⟨by first | exact (bP_t ⟨by first | exact zc2 | exact Int32.not_lt.mp zc2, by first | exact zc7 | exact Int32.not_lt.mp zc7⟩).symm | exact (bP_f (fun q => absurd q.1 (Int32.not_le.mpr zc2))).symm | exact (bP_f (fun q => absurd q.2 (Int32.not_le.mpr zc7))).symm, rfl⟩
    · skip
      refine z_iconst (v := nI 1) hx dX11_isWithin_10 (by decide) ?_
      refine z_goto (tgt := 15) hx dX11_isWithin_11 (by decide) ?_
      exact z_zret hx hF dX11_isWithin_15 rfl (by first | exact bP_nar _ | rfl) rfl ⟨by first | exact (bP_t ⟨by first | exact zc2 | exact Int32.not_lt.mp zc2, by first | exact zc7 | exact Int32.not_lt.mp zc7⟩).symm | exact (bP_f (fun q => absurd q.1 (Int32.not_le.mpr zc2))).symm | exact (bP_f (fun q => absurd q.2 (Int32.not_le.mpr zc7))).symm, rfl⟩

set_option maxHeartbeats 4000000 in
set_option maxRecDepth 100000 in
theorem qX12_in (v a b : Int32) : zMi mX12_in 0 ([.int v, .int a, .int b]) ([]) (fun r u => r = bP (a ≤ v ∧ v ≤ b) ∧ u = []) := by
  refine zMi.of (by decide) (Nat.le_of_ble_eq_true rfl) (fun x hx hF => ?_)
  refine z_iload_n hx dX12_in_0 rfl ?_
  refine z_iload_n hx dX12_in_1 rfl ?_
  first | refine z_icmp_ltN (tgt := 14) hx dX12_in_2 (by decide) (by omega) (by omega) (fun zc2 => ?_) (fun zc2 => ?_) | refine z_icmp_lt (tgt := 14) hx dX12_in_2 (by decide) (fun zc2 => ?_) (fun zc2 => ?_)
  · skip
    refine z_iconst (v := nI 0) hx dX12_in_14 (by decide) ?_
    exact z_zret hx hF dX12_in_15 rfl (by first | exact bP_nar _ | rfl) rfl ⟨by first | exact (bP_t ⟨by first | exact zc2 | exact Int32.not_lt.mp zc2, by first | exact zc7 | exact Int32.not_lt.mp zc7⟩).symm | exact (bP_f (fun q => absurd q.1 (Int32.not_le.mpr zc2))).symm | exact (bP_f (fun q => absurd q.2 (Int32.not_le.mpr zc7))).symm, rfl⟩
  · skip
    refine z_iload_n hx dX12_in_5 rfl ?_
    refine z_iload_n hx dX12_in_6 rfl ?_
    first | refine z_icmp_gtN (tgt := 14) hx dX12_in_7 (by decide) (by omega) (by omega) (fun zc7 => ?_) (fun zc7 => ?_) | refine z_icmp_gt (tgt := 14) hx dX12_in_7 (by decide) (fun zc7 => ?_) (fun zc7 => ?_)
    · skip
      refine z_iconst (v := nI 0) hx dX12_in_14 (by decide) ?_
      exact z_zret hx hF dX12_in_15 rfl (by first | exact bP_nar _ | rfl) rfl ⟨by first | exact (bP_t ⟨by first | exact zc2 | exact Int32.not_lt.mp zc2, by first | exact zc7 | exact Int32.not_lt.mp zc7⟩).symm | exact (bP_f (fun q => absurd q.1 (Int32.not_le.mpr zc2))).symm | exact (bP_f (fun q => absurd q.2 (Int32.not_le.mpr zc7))).symm, rfl⟩
    · skip
      refine z_iconst (v := nI 1) hx dX12_in_10 (by decide) ?_
      refine z_goto (tgt := 15) hx dX12_in_11 (by decide) ?_
      exact z_zret hx hF dX12_in_15 rfl (by first | exact bP_nar _ | rfl) rfl ⟨by first | exact (bP_t ⟨by first | exact zc2 | exact Int32.not_lt.mp zc2, by first | exact zc7 | exact Int32.not_lt.mp zc7⟩).symm | exact (bP_f (fun q => absurd q.1 (Int32.not_le.mpr zc2))).symm | exact (bP_f (fun q => absurd q.2 (Int32.not_le.mpr zc7))).symm, rfl⟩

theorem qX11_isWithinN (v : Int32) (a b : Nat) (hb : b < 2147483648 ∧ a ≤ b) : zMiE mX11_isWithin 0 [.int v, .int (nI a), .int (nI b)] [] (bP (∃ j, a ≤ j ∧ j ≤ b ∧ v = nI j)) [] := by
  rw [← bP_c (zinN2 hb.1 hb.2)]
  exact qX11_isWithin v (nI a) (nI b)
theorem qX11_isWithinP (v : Int32) (p : Nat) (hp : p < 1000000) : zMiE mX11_isWithin 0 [.int v, .int (nI 0), .int (nI p - nI 1)] [] (bP (∃ j, j < p ∧ v = nI j)) [] := by
  rw [← bP_c (zinP hp)]
  exact qX11_isWithin v (nI 0) (nI p - nI 1)
theorem qX12_inN (v : Int32) (a b : Nat) (hb : b < 2147483648 ∧ a ≤ b) : zMiE mX12_in 0 [.int v, .int (nI a), .int (nI b)] [] (bP (∃ j, a ≤ j ∧ j ≤ b ∧ v = nI j)) [] := by
  rw [← bP_c (zinN2 hb.1 hb.2)]
  exact qX12_in v (nI a) (nI b)
theorem qX12_inP (v : Int32) (p : Nat) (hp : p < 1000000) : zMiE mX12_in 0 [.int v, .int (nI 0), .int (nI p - nI 1)] [] (bP (∃ j, j < p ∧ v = nI j)) [] := by
  rw [← bP_c (zinP hp)]
  exact qX12_in v (nI 0) (nI p - nI 1)
set_option maxHeartbeats 4000000 in
set_option maxRecDepth 100000 in
theorem qJ7_fill_53178 (N : Nat) (hN : N < 2147483648) (f : Nat → Int32) (v : Int32) : zMv mJ7_fill_53178 0 ([.ref 0, .int v]) ([zI N f]) (fun u => u = [zI N (fun _ => v)]) := by
  refine zMv.of (by decide) (Nat.le_of_ble_eq_true rfl) (fun x hx hF => ?_)
  have loop5 : ∀ (n5 : Nat) (i : Nat), N - i = n5 → i ≤ N → zV x 5 [some (.ref 0), some (.int v), some (.int (nI i)), some (.int (nI N))] ([]) ([zI N (fun j => if j < i then v else f j)]) := by
    intro n5
    induction n5 using Nat.strongRecOn with
    | ind n5 ih =>
      intro i hn hi
      refine z_iload_n hx dJ7_fill_53178_5 rfl ?_
      refine z_iload_n hx dJ7_fill_53178_6 rfl ?_
      first | refine z_icmp_geN (tgt := 20) hx dJ7_fill_53178_7 (by decide) (by omega) (by omega) (fun zc7 => ?_) (fun zc7 => ?_) | refine z_icmp_ge (tgt := 20) hx dJ7_fill_53178_7 (by decide) (fun zc7 => ?_) (fun zc7 => ?_)
      · skip
        refine z_cell (q := 0) (fun _ => v) rfl (fun j hj => by rw [if_pos (by omega)]) ?_
        exact z_vret hx hF dJ7_fill_53178_20 rfl rfl rfl
      · skip
        refine z_aload_n hx dJ7_fill_53178_10 rfl ?_
        refine z_iload_n hx dJ7_fill_53178_11 rfl ?_
        refine z_iload_n hx dJ7_fill_53178_12 rfl ?_
        refine z_iastJ hx dJ7_fill_53178_13 rfl hN (by omega) ?_
        first | refine z_iincN (z := 1) hx dJ7_fill_53178_14 rfl rfl ?_ | refine z_iinc hx dJ7_fill_53178_14 rfl rfl rfl ?_
        refine z_goto (tgt := 5) hx dJ7_fill_53178_17 (by decide) ?_
        refine z_cell (q := 0) (fun j => if j < i + 1 then v else f j) rfl (fun j hj => ?_) (ih _ (by omega) (i + 1) rfl (by omega))
        unfold upd
        by_cases h : j = i
        · rw [if_pos h, if_pos (by omega)]
        · rw [if_neg h]
          show (if j < i then v else f j) = _
          by_cases h2 : j < i
          · rw [if_pos h2, if_pos (by omega)]
          · rw [if_neg h2, if_neg (by omega)]
  refine z_iconst (v := nI 0) hx dJ7_fill_53178_0 (by decide) ?_
  refine z_istore_n hx dJ7_fill_53178_1 (Nat.le_of_ble_eq_true rfl) rfl ?_
  refine z_aload_n hx dJ7_fill_53178_2 rfl ?_
  refine z_alen (v := nI N) hx dJ7_fill_53178_3 rfl rfl ?_
  refine z_istore_n hx dJ7_fill_53178_4 (Nat.le_of_ble_eq_true rfl) rfl ?_
  exact z_cell (q := 0) (fun j => if j < 0 then v else f j) rfl (fun j _ => by simp) (loop5 _ 0 rfl (by omega))

set_option maxHeartbeats 4000000 in
set_option maxRecDepth 100000 in
theorem qJ6_bitCount_0f7a4 (a : Nat) (ha : a < 256) : zMi mJ6_bitCount_0f7a4 0 ([.int (nI a)]) ([]) (fun r u => r = nI (zOn a) ∧ u = []) := by
  refine zMi.of (by decide) (Nat.le_of_ble_eq_true rfl) (fun x hx hF => ?_)
  refine z_iload_n hx dJ6_bitCount_0f7a4_0 rfl ?_
  refine z_iload_n hx dJ6_bitCount_0f7a4_1 rfl ?_
  refine z_iconst (v := nI 1) hx dJ6_bitCount_0f7a4_2 (by decide) ?_
  refine z_iushr hx dJ6_bitCount_0f7a4_3 ?_
  refine z_ldcw hx dJ6_bitCount_0f7a4_4 kJ6_265 ?_
  refine z_iand hx dJ6_bitCount_0f7a4_7 ?_
  refine z_isub hx dJ6_bitCount_0f7a4_8 ?_
  refine z_istore_n hx dJ6_bitCount_0f7a4_9 (Nat.le_of_ble_eq_true rfl) rfl ?_
  refine z_iload_n hx dJ6_bitCount_0f7a4_10 rfl ?_
  refine z_ldcw hx dJ6_bitCount_0f7a4_11 kJ6_266 ?_
  refine z_iand hx dJ6_bitCount_0f7a4_14 ?_
  refine z_iload_n hx dJ6_bitCount_0f7a4_15 rfl ?_
  refine z_iconst (v := nI 2) hx dJ6_bitCount_0f7a4_16 (by decide) ?_
  refine z_iushr hx dJ6_bitCount_0f7a4_17 ?_
  refine z_ldcw hx dJ6_bitCount_0f7a4_18 kJ6_266 ?_
  refine z_iand hx dJ6_bitCount_0f7a4_21 ?_
  refine z_iadd hx dJ6_bitCount_0f7a4_22 ?_
  refine z_istore_n hx dJ6_bitCount_0f7a4_23 (Nat.le_of_ble_eq_true rfl) rfl ?_
  refine z_iload_n hx dJ6_bitCount_0f7a4_24 rfl ?_
  refine z_iload_n hx dJ6_bitCount_0f7a4_25 rfl ?_
  refine z_iconst (v := nI 4) hx dJ6_bitCount_0f7a4_26 (by decide) ?_
  refine z_iushr hx dJ6_bitCount_0f7a4_27 ?_
  refine z_iadd hx dJ6_bitCount_0f7a4_28 ?_
  refine z_ldcw hx dJ6_bitCount_0f7a4_29 kJ6_267 ?_
  refine z_iand hx dJ6_bitCount_0f7a4_32 ?_
  refine z_istore_n hx dJ6_bitCount_0f7a4_33 (Nat.le_of_ble_eq_true rfl) rfl ?_
  refine z_iload_n hx dJ6_bitCount_0f7a4_34 rfl ?_
  refine z_iload_n hx dJ6_bitCount_0f7a4_35 rfl ?_
  refine z_bipush (v := nI 8) hx dJ6_bitCount_0f7a4_36 (by decide) ?_
  refine z_iushr hx dJ6_bitCount_0f7a4_38 ?_
  refine z_iadd hx dJ6_bitCount_0f7a4_39 ?_
  refine z_istore_n hx dJ6_bitCount_0f7a4_40 (Nat.le_of_ble_eq_true rfl) rfl ?_
  refine z_iload_n hx dJ6_bitCount_0f7a4_41 rfl ?_
  refine z_iload_n hx dJ6_bitCount_0f7a4_42 rfl ?_
  refine z_bipush (v := nI 16) hx dJ6_bitCount_0f7a4_43 (by decide) ?_
  refine z_iushr hx dJ6_bitCount_0f7a4_45 ?_
  refine z_iadd hx dJ6_bitCount_0f7a4_46 ?_
  refine z_istore_n hx dJ6_bitCount_0f7a4_47 (Nat.le_of_ble_eq_true rfl) rfl ?_
  refine z_iload_n hx dJ6_bitCount_0f7a4_48 rfl ?_
  refine z_bipush (v := nI 63) hx dJ6_bitCount_0f7a4_49 (by decide) ?_
  refine z_iand hx dJ6_bitCount_0f7a4_51 ?_
  exact z_iret hx hF dJ6_bitCount_0f7a4_52 rfl rfl ⟨by clear hF hx; revert a; decide +kernel, rfl⟩

set_option maxHeartbeats 4000000 in
set_option maxRecDepth 100000 in
theorem qX11_isIn (b n : Nat) (hb : b < 2147483648) (hn : n < 32) : zMi mX11_isIn 0 ([.int (nI b), .int (nI n)]) ([]) (fun r u => r = bP (b.testBit n = true) ∧ u = []) := by
  refine zMi.of (by decide) (Nat.le_of_ble_eq_true rfl) (fun x hx hF => ?_)
  refine z_iload_n hx dX11_isIn_0 rfl ?_
  refine z_iload_n hx dX11_isIn_1 rfl ?_
  first | refine z_ishrN hx dX11_isIn_2 (by omega) (by omega) ?_ | refine z_ishr hx dX11_isIn_2 ?_
  refine z_iconst (v := nI 1) hx dX11_isIn_3 (by decide) ?_
  first | refine z_iandN hx dX11_isIn_4 ?_ | refine z_iand hx dX11_isIn_4 ?_
  refine z_iconst (v := nI 1) hx dX11_isIn_5 (by decide) ?_
  have hz := zbit b n
  have hz2 : b / 2 ^ n &&& 1 ≤ 1 := Nat.and_le_right
  first | refine z_icmp_neN (tgt := 13) hx dX11_isIn_6 (by decide) (by omega) (by omega) (fun zc6 => ?_) (fun zc6 => ?_) | refine z_icmp_ne (tgt := 13) hx dX11_isIn_6 (by decide) (fun zc6 => ?_) (fun zc6 => ?_)
  · skip
    refine z_iconst (v := nI 0) hx dX11_isIn_13 (by decide) ?_
    exact z_zret hx hF dX11_isIn_14 rfl (by first | exact bP_nar _ | rfl) rfl ⟨by first | exact (bP_t (hz.mp zc6)).symm | exact (bP_f (fun q => zc6 (hz.mpr q))).symm, rfl⟩
  · skip
    refine z_iconst (v := nI 1) hx dX11_isIn_9 (by decide) ?_
    refine z_goto (tgt := 14) hx dX11_isIn_10 (by decide) ?_
    exact z_zret hx hF dX11_isIn_14 rfl (by first | exact bP_nar _ | rfl) rfl ⟨by first | exact (bP_t (hz.mp zc6)).symm | exact (bP_f (fun q => zc6 (hz.mpr q))).symm, rfl⟩

set_option maxHeartbeats 4000000 in
set_option maxRecDepth 100000 in
theorem qX12_has (b n : Nat) (hb : b < 2147483648) (hn : n < 32) : zMi mX12_has 0 ([.int (nI b), .int (nI n)]) ([]) (fun r u => r = bP (b.testBit n = true) ∧ u = []) := by
  refine zMi.of (by decide) (Nat.le_of_ble_eq_true rfl) (fun x hx hF => ?_)
  refine z_iload_n hx dX12_has_0 rfl ?_
  refine z_iload_n hx dX12_has_1 rfl ?_
  first | refine z_ishrN hx dX12_has_2 (by omega) (by omega) ?_ | refine z_ishr hx dX12_has_2 ?_
  refine z_iconst (v := nI 1) hx dX12_has_3 (by decide) ?_
  first | refine z_iandN hx dX12_has_4 ?_ | refine z_iand hx dX12_has_4 ?_
  refine z_iconst (v := nI 1) hx dX12_has_5 (by decide) ?_
  have hz := zbit b n
  have hz2 : b / 2 ^ n &&& 1 ≤ 1 := Nat.and_le_right
  first | refine z_icmp_neN (tgt := 13) hx dX12_has_6 (by decide) (by omega) (by omega) (fun zc6 => ?_) (fun zc6 => ?_) | refine z_icmp_ne (tgt := 13) hx dX12_has_6 (by decide) (fun zc6 => ?_) (fun zc6 => ?_)
  · skip
    refine z_iconst (v := nI 0) hx dX12_has_13 (by decide) ?_
    exact z_zret hx hF dX12_has_14 rfl (by first | exact bP_nar _ | rfl) rfl ⟨by first | exact (bP_t (hz.mp zc6)).symm | exact (bP_f (fun q => zc6 (hz.mpr q))).symm, rfl⟩
  · skip
    refine z_iconst (v := nI 1) hx dX12_has_9 (by decide) ?_
    refine z_goto (tgt := 14) hx dX12_has_10 (by decide) ?_
    exact z_zret hx hF dX12_has_14 rfl (by first | exact bP_nar _ | rfl) rfl ⟨by first | exact (bP_t (hz.mp zc6)).symm | exact (bP_f (fun q => zc6 (hz.mpr q))).symm, rfl⟩

