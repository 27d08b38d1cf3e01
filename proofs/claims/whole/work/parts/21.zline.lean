set_option maxHeartbeats 4000000 in
set_option maxRecDepth 100000 in
theorem qX6_hopesBy (f t o : Nat) (hf : f < 2147483648) (ht : t < 2147483648) (ho : o < 2147483648) : zMi mX6_hopesBy 0 ([.ref 0, .int (nI f), .int (nI t), .int (nI o)]) ([zO 6 []]) (fun r u => r = nI f ∧ u = [zO 6 []]) := by
  refine zMi.of (by decide) (Nat.le_of_ble_eq_true rfl) (fun x hx hF => ?_)
  refine z_iload_n hx dX6_hopesBy_0 rfl ?_
  exact z_iret hx hF dX6_hopesBy_1 rfl rfl ⟨rfl, rfl⟩

set_option maxHeartbeats 4000000 in
set_option maxRecDepth 100000 in
theorem qX2_hopesBy (f t o : Nat) (hf : f < 2147483648) (ht : t < 2147483648) (ho : o < 2147483648) : zMi mX2_hopesBy 0 ([.ref 0, .int (nI f), .int (nI t), .int (nI o)]) ([zO 2 []]) (fun r u => r = nI (f + o) ∧ u = [zO 2 []]) := by
  refine zMi.of (by decide) (Nat.le_of_ble_eq_true rfl) (fun x hx hF => ?_)
  refine z_iload_n hx dX2_hopesBy_0 rfl ?_
  refine z_iload_n hx dX2_hopesBy_1 rfl ?_
  first | refine z_iaddN hx dX2_hopesBy_2 ?_ | refine z_iadd hx dX2_hopesBy_2 ?_
  exact z_iret hx hF dX2_hopesBy_3 rfl rfl ⟨rfl, rfl⟩

set_option maxHeartbeats 4000000 in
set_option maxRecDepth 100000 in
theorem qX3_hopesBy (f t o : Nat) (hf : f < 2147483648) (ht : t < 2147483648) (ho : o < 2147483648) : zMi mX3_hopesBy 0 ([.ref 0, .int (nI f), .int (nI t), .int (nI o)]) ([zO 3 []]) (fun r u => r = nI (f - t) ∧ u = [zO 3 []]) := by
  refine zMi.of (by decide) (Nat.le_of_ble_eq_true rfl) (fun x hx hF => ?_)
  refine z_iload_n hx dX3_hopesBy_0 rfl ?_
  refine z_iload_n hx dX3_hopesBy_1 rfl ?_
  first | refine z_icmp_leN (tgt := 11) hx dX3_hopesBy_2 (by decide) (by omega) (by omega) (fun zc2 => ?_) (fun zc2 => ?_) | refine z_icmp_le (tgt := 11) hx dX3_hopesBy_2 (by decide) (fun zc2 => ?_) (fun zc2 => ?_)
  · skip
    refine z_iconst (v := nI 0) hx dX3_hopesBy_11 (by decide) ?_
    exact z_iret hx hF dX3_hopesBy_12 rfl rfl ⟨by first | rfl | rw [show f - t = 0 by omega], rfl⟩
  · skip
    refine z_iload_n hx dX3_hopesBy_5 rfl ?_
    refine z_iload_n hx dX3_hopesBy_6 rfl ?_
    first | refine z_isubN hx dX3_hopesBy_7 (by omega) ?_ | refine z_isub hx dX3_hopesBy_7 ?_
    refine z_goto (tgt := 12) hx dX3_hopesBy_8 (by decide) ?_
    exact z_iret hx hF dX3_hopesBy_12 rfl rfl ⟨by first | rfl | rw [show f - t = 0 by omega], rfl⟩

set_option maxHeartbeats 4000000 in
set_option maxRecDepth 100000 in
theorem qX1_hopesBy (f t o : Nat) (hf : f < 2147483648) (ht : t < 2147483648) (ho : o < 2147483648) : zMi mX1_hopesBy 0 ([.ref 0, .int (nI f), .int (nI t), .int (nI o)]) ([zO 1 []]) (fun r u => r = nI 3 ∧ u = [zO 1 []]) := by
  refine zMi.of (by decide) (Nat.le_of_ble_eq_true rfl) (fun x hx hF => ?_)
  refine z_iconst (v := nI 3) hx dX1_hopesBy_0 (by decide) ?_
  exact z_iret hx hF dX1_hopesBy_1 rfl rfl ⟨rfl, rfl⟩

set_option maxHeartbeats 4000000 in
set_option maxRecDepth 100000 in
theorem qX7_hopesBy (f t o : Nat) (hf : f < 2147483648) (ht : t < 2147483648) (ho : o < 2147483648) : zMi mX7_hopesBy 0 ([.ref 0, .int (nI f), .int (nI t), .int (nI o)]) ([zO 7 []]) (fun r u => r = nI (if o = 0 then 13 else 3) ∧ u = [zO 7 []]) := by
  refine zMi.of (by decide) (Nat.le_of_ble_eq_true rfl) (fun x hx hF => ?_)
  refine z_iload_n hx dX7_hopesBy_0 rfl ?_
  first | refine z_if_neB (tgt := 9) hx dX7_hopesBy_1 (by decide) (fun zc1 => ?_) (fun zc1 => ?_) | refine z_if_neN (tgt := 9) hx dX7_hopesBy_1 (by decide) (by omega) (fun zc1 => ?_) (fun zc1 => ?_) | refine z_if_ne (tgt := 9) hx dX7_hopesBy_1 (by decide) (fun zc1 => ?_) (fun zc1 => ?_)
  · skip
    refine z_iconst (v := nI 3) hx dX7_hopesBy_9 (by decide) ?_
    exact z_iret hx hF dX7_hopesBy_10 rfl rfl ⟨by first | rw [if_pos (by omega)] | rw [if_neg (by omega)], rfl⟩
  · skip
    refine z_bipush (v := nI 13) hx dX7_hopesBy_4 (by decide) ?_
    refine z_goto (tgt := 10) hx dX7_hopesBy_6 (by decide) ?_
    exact z_iret hx hF dX7_hopesBy_10 rfl rfl ⟨by first | rw [if_pos (by omega)] | rw [if_neg (by omega)], rfl⟩

theorem z_topR {x : zC} {pc : Nat} {lv : List (Option Value)} {st : List Value} {h : List zE} {a : Nat} (b : Nat) (e : a = b) (k : zV x pc lv (.ref b :: st) h) : zV x pc lv (.ref a :: st) h := by subst e; exact k
theorem z5 {P : Nat → Prop} {k : Nat} (hk : 1 ≤ k ∧ k ≤ 5) (h1 : P 1) (h2 : P 2) (h3 : P 3) (h4 : P 4) (h5 : P 5) : P k := by
  rcases (show k = 1 ∨ k = 2 ∨ k = 3 ∨ k = 4 ∨ k = 5 by omega) with rfl | rfl | rfl | rfl | rfl <;> assumption
/-- one of the five kinds is asked how he hopes -/
theorem z_hopesBy {x : zC} {M : zM} {n pc : Nat} {lv : List (Option Value)} {st : List Value} {h : List zE} (hx : zOk x M n) (hM : M.1.cls = RX4) (d : decode M.2.1 pc = .ok (.invokevirtual 69, 3)) (w k f t o : Nat) (hk : 1 ≤ k ∧ k ≤ 5) (hf : f < 2147483648) (ht : t < 2147483648) (ho : o < 2147483648)
    (h0 : h[w]? = some (zO 6 [])) (h1 : h[w + 1]? = some (zO 2 [])) (h2 : h[w + 2]? = some (zO 3 [])) (h3 : h[w + 3]? = some (zO 1 [])) (h4 : h[w + 4]? = some (zO 7 [])) (hlv : lv.length = M.2.2.1) (hcat : (st.map fun v => v.category).sum ≤ 8) (hn : 1 ≤ n)
    (kk : zV x (pc + 3) lv (.int (nI (zHk k f t o)) :: st) h) : zV x pc lv (.int (nI o) :: .int (nI t) :: .int (nI f) :: .ref (w + (k - 1)) :: st) h := by
  rcases (show k = 1 ∨ k = 2 ∨ k = 3 ∨ k = 4 ∨ k = 5 by omega) with rfl | rfl | rfl | rfl | rfl
  · exact z_callioP (C := RX6) (y0 := zyH) (ci := 6) (fs := []) (r0 := 0) (T := TX6) (N := 0) hx [w + 0] (qX6_hopesBy f t o hf ht ho) d (by rw [hM]; exact oX4_69_X6) rfl rfl (by simp only [zsub, List.map_cons, List.map_nil, Nat.add_zero]; rw [h0]; rfl) rfl hlv (by simp) (by decide : 1 ≤ 1000) rfl hcat hn kk
  · exact z_callioP (C := RX2) (y0 := zyH) (ci := 2) (fs := []) (r0 := 0) (T := TX2) (N := 0) hx [w + 1] (qX2_hopesBy f t o hf ht ho) d (by rw [hM]; exact oX4_69_X2) rfl rfl (by simp only [zsub, List.map_cons, List.map_nil, Nat.add_zero]; rw [h1]; rfl) rfl hlv (by simp) (by decide : 1 ≤ 1000) rfl hcat hn kk
  · exact z_callioP (C := RX3) (y0 := zyH) (ci := 3) (fs := []) (r0 := 0) (T := TX3) (N := 0) hx [w + 2] (qX3_hopesBy f t o hf ht ho) d (by rw [hM]; exact oX4_69_X3) rfl rfl (by simp only [zsub, List.map_cons, List.map_nil, Nat.add_zero]; rw [h2]; rfl) rfl hlv (by simp) (by decide : 1 ≤ 1000) rfl hcat hn kk
  · exact z_callioP (C := RX1) (y0 := zyH) (ci := 1) (fs := []) (r0 := 0) (T := TX1) (N := 0) hx [w + 3] (qX1_hopesBy f t o hf ht ho) d (by rw [hM]; exact oX4_69_X1) rfl rfl (by simp only [zsub, List.map_cons, List.map_nil, Nat.add_zero]; rw [h3]; rfl) rfl hlv (by simp) (by decide : 1 ≤ 1000) rfl hcat hn kk
  · exact z_callioP (C := RX7) (y0 := zyH) (ci := 7) (fs := []) (r0 := 0) (T := TX7) (N := 0) hx [w + 4] (qX7_hopesBy f t o hf ht ho) d (by rw [hM]; exact oX4_69_X7) rfl rfl (by simp only [zsub, List.map_cons, List.map_nil, Nat.add_zero]; rw [h4]; rfl) rfl hlv (by simp) (by decide : 1 ≤ 1000) rfl hcat hn kk
set_option maxHeartbeats 4000000 in
set_option maxRecDepth 100000 in
theorem qX4_leastHope (L : zL) (cr ho : Nat → Nat) (hw : zWf L) : zMi mX4_leastHope 1 ([.ref 0]) (hLc L cr ho) (fun r u => r = nI (if lB L < 1 then 1 else lB L) ∧ u = hLc L cr ho) := by
  refine zMi.of (by decide) (Nat.le_of_ble_eq_true rfl) (fun x hx hF => ?_)
  obtain ⟨w1, w2, w3, w4, w5⟩ := id hw
  refine z_aload_n hx dX4_leastHope_0 rfl ?_
  refine z_get hx dX4_leastHope_1 fX4_41 rfl rfl ?_
  refine z_iconst (v := nI 1) hx dX4_leastHope_4 (by decide) ?_
  refine z_mmax hx dX4_leastHope_5 sX4_100 (by omega) (by omega) rfl (by decide) (Nat.le_of_ble_eq_true rfl) ?_
  exact z_iret hx hF dX4_leastHope_8 rfl rfl ⟨rfl, rfl⟩

set_option maxHeartbeats 4000000 in
set_option maxRecDepth 100000 in
theorem qX4_everybody (L : zL) (cr ho : Nat → Nat) (hw : zWf L) : zMi mX4_everybody 0 ([.ref 0]) (hLc L cr ho) (fun r u => r = nI (2 ^ lP L - 1) ∧ u = hLc L cr ho) := by
  refine zMi.of (by decide) (Nat.le_of_ble_eq_true rfl) (fun x hx hF => ?_)
  obtain ⟨w1, w2, w3, w4, w5⟩ := id hw
  have h2 := Nat.two_pow_pos (lP L)
  refine z_iconst (v := nI 1) hx dX4_everybody_0 (by decide) ?_
  refine z_aload_n hx dX4_everybody_1 rfl ?_
  refine z_get hx dX4_everybody_2 fX4_44 rfl rfl ?_
  first | refine z_ishl1 hx dX4_everybody_5 (by omega) ?_ | refine z_ishlN hx dX4_everybody_5 (by omega) ?_ | refine z_ishl hx dX4_everybody_5 ?_
  refine z_iconst (v := nI 1) hx dX4_everybody_6 (by decide) ?_
  first | refine z_isubN hx dX4_everybody_7 (by omega) ?_ | refine z_isub hx dX4_everybody_7 ?_
  exact z_iret hx hF dX4_everybody_8 rfl rfl ⟨rfl, rfl⟩

set_option maxHeartbeats 4000000 in
set_option maxRecDepth 100000 in
theorem qX4_thereBits (L : zL) (cr ho : Nat → Nat) (hw : zWf L) : zMi mX4_thereBits 0 ([.ref 0]) (hLc L cr ho) (fun r u => r = nI (zTh L (lP L)) ∧ u = hLc L cr ho) := by
  refine zMi.of (by decide) (Nat.le_of_ble_eq_true rfl) (fun x hx hF => ?_)
  obtain ⟨w1, w2, w3, w4, w5⟩ := id hw
  have loop4 : ∀ (n4 : Nat) (q : Nat), lP L - q = n4 → q ≤ lP L → zV x 4 [some (.ref 0), some (.int (nI (zTh L q))), some (.int (nI q))] ([]) (hLc L cr ho) := by
    intro n4
    induction n4 using Nat.strongRecOn with
    | ind n4 ih =>
      intro q hn hq
      refine z_iload_n hx dX4_thereBits_4 rfl ?_
      refine z_aload_n hx dX4_thereBits_5 rfl ?_
      refine z_get hx dX4_thereBits_6 fX4_44 rfl rfl ?_
      first | refine z_icmp_geN (tgt := 39) hx dX4_thereBits_9 (by decide) (by omega) (by omega) (fun zc9 => ?_) (fun zc9 => ?_) | refine z_icmp_ge (tgt := 39) hx dX4_thereBits_9 (by decide) (fun zc9 => ?_) (fun zc9 => ?_)
      · skip
        refine z_iload_n hx dX4_thereBits_39 rfl ?_
        exact z_iret hx hF dX4_thereBits_40 rfl rfl ⟨by rw [show q = lP L by omega], rfl⟩
      · skip
        have w6 := w5 q (by omega)
        refine z_aload_n hx dX4_thereBits_12 rfl ?_
        refine z_get hx dX4_thereBits_13 fX4_15 rfl rfl ?_
        refine z_iload_n hx dX4_thereBits_16 rfl ?_
        refine z_ialdJ hx dX4_thereBits_17 rfl (by decide) (by omega) ?_
        refine z_aload_n hx dX4_thereBits_18 rfl ?_
        refine z_get hx dX4_thereBits_19 fX4_21 rfl rfl ?_
        refine z_iload_n hx dX4_thereBits_22 rfl ?_
        refine z_ialdJ hx dX4_thereBits_23 rfl (by decide) (by omega) ?_
        first | refine z_icmp_neN (tgt := 33) hx dX4_thereBits_24 (by decide) (by omega) (by omega) (fun zc24 => ?_) (fun zc24 => ?_) | refine z_icmp_ne (tgt := 33) hx dX4_thereBits_24 (by decide) (fun zc24 => ?_) (fun zc24 => ?_)
        · skip
          first | refine z_iincN (z := 1) hx dX4_thereBits_33 rfl rfl ?_ | refine z_iinc hx dX4_thereBits_33 rfl rfl rfl ?_
          refine z_goto (tgt := 4) hx dX4_thereBits_36 (by decide) ?_
          exact z_eq (by simp [zTh, zc24]) rfl rfl (ih _ (by omega) (q + 1) rfl (by omega))
        · skip
          refine z_iload_n hx dX4_thereBits_27 rfl ?_
          refine z_iconst (v := nI 1) hx dX4_thereBits_28 (by decide) ?_
          refine z_iload_n hx dX4_thereBits_29 rfl ?_
          first | refine z_ishl1 hx dX4_thereBits_30 (by omega) ?_ | refine z_ishlN hx dX4_thereBits_30 (by omega) ?_ | refine z_ishl hx dX4_thereBits_30 ?_
          first | refine z_iorN hx dX4_thereBits_31 ?_ | refine z_ior hx dX4_thereBits_31 ?_
          refine z_istore_n hx dX4_thereBits_32 (Nat.le_of_ble_eq_true rfl) rfl ?_
          first | refine z_iincN (z := 1) hx dX4_thereBits_33 rfl rfl ?_ | refine z_iinc hx dX4_thereBits_33 rfl rfl rfl ?_
          refine z_goto (tgt := 4) hx dX4_thereBits_36 (by decide) ?_
          exact z_eq (by simp [zTh, zc24]) rfl rfl (ih _ (by omega) (q + 1) rfl (by omega))
  refine z_iconst (v := nI 0) hx dX4_thereBits_0 (by decide) ?_
  refine z_istore_n hx dX4_thereBits_1 (Nat.le_of_ble_eq_true rfl) rfl ?_
  refine z_iconst (v := nI 0) hx dX4_thereBits_2 (by decide) ?_
  refine z_istore_n hx dX4_thereBits_3 (Nat.le_of_ble_eq_true rfl) rfl ?_
  exact loop4 _ 0 rfl (by omega)

set_option maxHeartbeats 4000000 in
set_option maxRecDepth 100000 in
theorem qX4_whoIsAt (L : zL) (cr ho : Nat → Nat) (hw : zWf L) (k : Nat) (hk : k < 2147483648) : zMi mX4_whoIsAt 0 ([.ref 0, .int (nI k)]) (hLc L cr ho) (fun r u => r = nI (zWh L k (lP L)) ∧ u = hLc L cr ho) := by
  refine zMi.of (by decide) (Nat.le_of_ble_eq_true rfl) (fun x hx hF => ?_)
  obtain ⟨w1, w2, w3, w4, w5⟩ := id hw
  have loop4 : ∀ (n4 : Nat) (q : Nat), lP L - q = n4 → q ≤ lP L → zV x 4 [some (.ref 0), some (.int (nI k)), some (.int (nI (zWh L k q))), some (.int (nI q))] ([]) (hLc L cr ho) := by
    intro n4
    induction n4 using Nat.strongRecOn with
    | ind n4 ih =>
      intro q hn hq
      refine z_iload_n hx dX4_whoIsAt_4 rfl ?_
      refine z_aload_n hx dX4_whoIsAt_5 rfl ?_
      refine z_get hx dX4_whoIsAt_6 fX4_44 rfl rfl ?_
      first | refine z_icmp_geN (tgt := 34) hx dX4_whoIsAt_9 (by decide) (by omega) (by omega) (fun zc9 => ?_) (fun zc9 => ?_) | refine z_icmp_ge (tgt := 34) hx dX4_whoIsAt_9 (by decide) (fun zc9 => ?_) (fun zc9 => ?_)
      · skip
        refine z_iload_n hx dX4_whoIsAt_34 rfl ?_
        exact z_iret hx hF dX4_whoIsAt_35 rfl rfl ⟨by rw [show q = lP L by omega], rfl⟩
      · skip
        have w6 := w5 q (by omega)
        refine z_aload_n hx dX4_whoIsAt_12 rfl ?_
        refine z_get hx dX4_whoIsAt_13 fX4_15 rfl rfl ?_
        refine z_iload_n hx dX4_whoIsAt_16 rfl ?_
        refine z_ialdJ hx dX4_whoIsAt_17 rfl (by decide) (by omega) ?_
        refine z_iload_n hx dX4_whoIsAt_18 rfl ?_
        first | refine z_icmp_neN (tgt := 28) hx dX4_whoIsAt_19 (by decide) (by omega) (by omega) (fun zc19 => ?_) (fun zc19 => ?_) | refine z_icmp_ne (tgt := 28) hx dX4_whoIsAt_19 (by decide) (fun zc19 => ?_) (fun zc19 => ?_)
        · skip
          first | refine z_iincN (z := 1) hx dX4_whoIsAt_28 rfl rfl ?_ | refine z_iinc hx dX4_whoIsAt_28 rfl rfl rfl ?_
          refine z_goto (tgt := 4) hx dX4_whoIsAt_31 (by decide) ?_
          exact z_eq (by simp [zWh, zc19]) rfl rfl (ih _ (by omega) (q + 1) rfl (by omega))
        · skip
          refine z_iload_n hx dX4_whoIsAt_22 rfl ?_
          refine z_iconst (v := nI 1) hx dX4_whoIsAt_23 (by decide) ?_
          refine z_iload_n hx dX4_whoIsAt_24 rfl ?_
          first | refine z_ishl1 hx dX4_whoIsAt_25 (by omega) ?_ | refine z_ishlN hx dX4_whoIsAt_25 (by omega) ?_ | refine z_ishl hx dX4_whoIsAt_25 ?_
          first | refine z_iorN hx dX4_whoIsAt_26 ?_ | refine z_ior hx dX4_whoIsAt_26 ?_
          refine z_istore_n hx dX4_whoIsAt_27 (Nat.le_of_ble_eq_true rfl) rfl ?_
          first | refine z_iincN (z := 1) hx dX4_whoIsAt_28 rfl rfl ?_ | refine z_iinc hx dX4_whoIsAt_28 rfl rfl rfl ?_
          refine z_goto (tgt := 4) hx dX4_whoIsAt_31 (by decide) ?_
          exact z_eq (by simp [zWh, zc19]) rfl rfl (ih _ (by omega) (q + 1) rfl (by omega))
  refine z_iconst (v := nI 0) hx dX4_whoIsAt_0 (by decide) ?_
  refine z_istore_n hx dX4_whoIsAt_1 (Nat.le_of_ble_eq_true rfl) rfl ?_
  refine z_iconst (v := nI 0) hx dX4_whoIsAt_2 (by decide) ?_
  refine z_istore_n hx dX4_whoIsAt_3 (Nat.le_of_ble_eq_true rfl) rfl ?_
  exact loop4 _ 0 rfl (by omega)

set_option maxHeartbeats 4000000 in
set_option maxRecDepth 100000 in
theorem qX4_waiter (L : zL) (cr ho : Nat → Nat) (hw : zWf L) (q : Nat) (hq : q < lP L) : zMr mX4_waiter 0 ([.ref 0, .int (nI q)]) (hLc L cr ho) (fun r u => r = 9 + (lK L q - 1) ∧ u = hLc L cr ho) := by
  refine zMr.of (by decide) (Nat.le_of_ble_eq_true rfl) (fun x hx hF => ?_)
  obtain ⟨w1, w2, w3, w4, w5⟩ := id hw
  have w6 := w5 q hq
  refine z_aload_n hx dX4_waiter_0 rfl ?_
  refine z_get hx dX4_waiter_1 fX4_33 rfl rfl ?_
  refine z_aload_n hx dX4_waiter_4 rfl ?_
  refine z_get hx dX4_waiter_5 fX4_9 rfl rfl ?_
  refine z_iload_n hx dX4_waiter_8 rfl ?_
  refine z_ialdJ hx dX4_waiter_9 rfl (by decide) (by omega) ?_
  refine z_iconst (v := nI 1) hx dX4_waiter_10 (by decide) ?_
  first | refine z_isubN hx dX4_waiter_11 (by omega) ?_ | refine z_isub hx dX4_waiter_11 ?_
  refine z_aald hx dX4_waiter_12 rfl (fun _ => rfl) (by show _ < 5; omega) (by decide) (r := 9 + (lK L q - 1)) (by rcases (show lK L q = 1 ∨ lK L q = 2 ∨ lK L q = 3 ∨ lK L q = 4 ∨ lK L q = 5 by omega) with e | e | e | e | e <;> rw [e] <;> rfl) ?_
  exact z_aret hx hF dX4_waiter_13 rfl (Or.inl ⟨_, rfl⟩) rfl ⟨rfl, rfl⟩

set_option maxHeartbeats 4000000 in
set_option maxRecDepth 100000 in
theorem qX4_hopeOf (L : zL) (cr ho : Nat → Nat) (hw : zWf L) (q : Nat) (hq : q < lP L) : zMi mX4_hopeOf 1 ([.ref 0, .int (nI q)]) (hLc L cr ho) (fun r u => r = nI (zHp L q) ∧ u = hLc L cr ho) := by
  refine zMi.of (by decide) (Nat.le_of_ble_eq_true rfl) (fun x hx hF => ?_)
  obtain ⟨w1, w2, w3, w4, w5⟩ := id hw
  have w6 := w5 q hq
  have h1 := zWh_lt L (lA L q) (lP L) (by omega)
  have h2 := zCn_pos L hq
  have h3 := zCn_le L (lA L q) (lP L)
  have h4 : 2 ^ lP L ≤ 2 ^ 6 := Nat.pow_le_pow_right (by decide) w3
  refine z_aload_n hx dX4_hopeOf_0 rfl ?_
  refine z_aload_n hx dX4_hopeOf_1 rfl ?_
  refine z_get hx dX4_hopeOf_2 fX4_15 rfl rfl ?_
  refine z_iload_n hx dX4_hopeOf_5 rfl ?_
  refine z_ialdJ hx dX4_hopeOf_6 rfl (by decide) (by omega) ?_
  refine z_callivF hx (qX4_whoIsAt L cr ho hw _ (by omega)) dX4_hopeOf_7 sX4_56 rfl rfl rfl rfl (Nat.le_of_ble_eq_true rfl) rfl (Nat.le_of_ble_eq_true rfl) (by decide) ?_
  refine z_callisP hx [] (qJ6_bitCount_0f7a4 _ (by omega)) dX4_hopeOf_10 sX4_60 rfl rfl rfl (by decide) (by decide) rfl (Nat.le_of_ble_eq_true rfl) (by decide) ?_
  refine z_topN h1.2 ?_
  refine z_iconst (v := nI 1) hx dX4_hopeOf_13 (by decide) ?_
  first | refine z_isubN hx dX4_hopeOf_14 (by omega) ?_ | refine z_isub hx dX4_hopeOf_14 ?_
  refine z_istore_n hx dX4_hopeOf_15 (Nat.le_of_ble_eq_true rfl) rfl ?_
  refine z_aload_n hx dX4_hopeOf_16 rfl ?_
  refine z_iload_n hx dX4_hopeOf_17 rfl ?_
  refine z_callrvF hx (qX4_waiter L cr ho hw q (by omega)) dX4_hopeOf_18 sX4_65 rfl rfl rfl rfl (Nat.le_of_ble_eq_true rfl) rfl (Nat.le_of_ble_eq_true rfl) (by decide) ?_
  refine z_aload_n hx dX4_hopeOf_21 rfl ?_
  refine z_get hx dX4_hopeOf_22 fX4_18 rfl rfl ?_
  refine z_iload_n hx dX4_hopeOf_25 rfl ?_
  refine z_ialdJ hx dX4_hopeOf_26 rfl (by decide) (by omega) ?_
  refine z_aload_n hx dX4_hopeOf_27 rfl ?_
  refine z_get hx dX4_hopeOf_28 fX4_24 rfl rfl ?_
  refine z_iload_n hx dX4_hopeOf_31 rfl ?_
  refine z_ialdJ hx dX4_hopeOf_32 rfl (by decide) (by omega) ?_
  refine z_iload_n hx dX4_hopeOf_33 rfl ?_
  refine z_hopesBy hx rfl dX4_hopeOf_34 9 (lK L q) (lF L q) (lT L q) (zCn L (lP L) (lA L q) - 1) (by omega) (by omega) (by omega) (by omega) rfl rfl rfl rfl rfl rfl (Nat.le_of_ble_eq_true rfl) (by decide) ?_
  exact z_iret hx hF dX4_hopeOf_37 rfl rfl ⟨rfl, rfl⟩

set_option maxHeartbeats 4000000 in
set_option maxRecDepth 100000 in
theorem qX4_tellCrowds (L : zL) (cr ho : Nat → Nat) (hw : zWf L) : zMv mX4_tellCrowds 1 ([.ref 0]) (hLc L cr ho) (fun u => u = hLc L (zCn L (lP L)) ho) := by
  refine zMv.of (by decide) (Nat.le_of_ble_eq_true rfl) (fun x hx hF => ?_)
  obtain ⟨w1, w2, w3, w4, w5⟩ := id hw
  have loop10 : ∀ (n10 : Nat) (q : Nat), lP L - q = n10 → q ≤ lP L → zV x 10 [some (.ref 0), some (.int (nI q))] ([]) (hLc L (zCn L q) ho) := by
    intro n10
    induction n10 using Nat.strongRecOn with
    | ind n10 ih =>
      intro q hn hq
      refine z_iload_n hx dX4_tellCrowds_10 rfl ?_
      refine z_aload_n hx dX4_tellCrowds_11 rfl ?_
      refine z_get hx dX4_tellCrowds_12 fX4_44 rfl rfl ?_
      first | refine z_icmp_geN (tgt := 39) hx dX4_tellCrowds_15 (by decide) (by omega) (by omega) (fun zc15 => ?_) (fun zc15 => ?_) | refine z_icmp_ge (tgt := 39) hx dX4_tellCrowds_15 (by decide) (fun zc15 => ?_) (fun zc15 => ?_)
      · skip
        exact z_vret hx hF dX4_tellCrowds_39 rfl rfl (by rw [show q = lP L by omega])
      · skip
        have w6 := w5 q (by omega)
        refine z_aload_n hx dX4_tellCrowds_18 rfl ?_
        refine z_get hx dX4_tellCrowds_19 fX4_27 rfl rfl ?_
        refine z_aload_n hx dX4_tellCrowds_22 rfl ?_
        refine z_get hx dX4_tellCrowds_23 fX4_15 rfl rfl ?_
        refine z_iload_n hx dX4_tellCrowds_26 rfl ?_
        refine z_ialdJ hx dX4_tellCrowds_27 rfl (by decide) (by omega) ?_
        refine z_dup2 hx dX4_tellCrowds_28 rfl rfl ?_
        refine z_ialdJ hx dX4_tellCrowds_29 rfl (by decide) (by omega) ?_
        refine z_iconst (v := nI 1) hx dX4_tellCrowds_30 (by decide) ?_
        first | refine z_iaddN hx dX4_tellCrowds_31 ?_ | refine z_iadd hx dX4_tellCrowds_31 ?_
        first | refine z_iastN hx dX4_tellCrowds_32 rfl (by decide) (by omega) ?_ | refine z_iastJ hx dX4_tellCrowds_32 rfl (by decide) (by omega) ?_
        first | refine z_iincN (z := 1) hx dX4_tellCrowds_33 rfl rfl ?_ | refine z_iinc hx dX4_tellCrowds_33 rfl rfl rfl ?_
        refine z_goto (tgt := 10) hx dX4_tellCrowds_36 (by decide) ?_
        exact z_heap (by rw [← zCn_up L q]; rfl) (ih _ (by omega) (q + 1) rfl (by omega))
  refine z_aload_n hx dX4_tellCrowds_0 rfl ?_
  refine z_get hx dX4_tellCrowds_1 fX4_27 rfl rfl ?_
  refine z_iconst (v := nI 0) hx dX4_tellCrowds_4 (by decide) ?_
  refine z_callvsE hx [6] (qJ7_fill_53178 _ (by decide) _ _) dX4_tellCrowds_5 sX4_106 rfl rfl rfl (by decide) (by decide) rfl (Nat.le_of_ble_eq_true rfl) (by decide) ?_
  refine z_iconst (v := nI 0) hx dX4_tellCrowds_8 (by decide) ?_
  refine z_istore_n hx dX4_tellCrowds_9 (Nat.le_of_ble_eq_true rfl) rfl ?_
  exact loop10 _ 0 rfl (by omega)

set_option maxHeartbeats 4000000 in
set_option maxRecDepth 100000 in
theorem qX4_tellHopes (L : zL) (cr ho : Nat → Nat) (hw : zWf L) (but : Nat) (hb : but < 2147483648) : zMv mX4_tellHopes 2 ([.ref 0, .int (nI but)]) (hLc L cr ho) (fun u => u = hLc L (zCn L (lP L)) (zHs L but)) := by
  refine zMv.of (by decide) (Nat.le_of_ble_eq_true rfl) (fun x hx hF => ?_)
  obtain ⟨w1, w2, w3, w4, w5⟩ := id hw
  have loop14 : ∀ (n14 : Nat) (q : Nat), lP L - q = n14 → q ≤ lP L → zV x 14 [some (.ref 0), some (.int (nI but)), some (.int (nI q))] ([]) (hLc L (zCn L (lP L)) (zHo L but q)) := by
    intro n14
    induction n14 using Nat.strongRecOn with
    | ind n14 ih =>
      intro q hn hq
      refine z_iload_n hx dX4_tellHopes_14 rfl ?_
      refine z_aload_n hx dX4_tellHopes_15 rfl ?_
      refine z_get hx dX4_tellHopes_16 fX4_44 rfl rfl ?_
      first | refine z_icmp_geN (tgt := 83) hx dX4_tellHopes_19 (by decide) (by omega) (by omega) (fun zc19 => ?_) (fun zc19 => ?_) | refine z_icmp_ge (tgt := 83) hx dX4_tellHopes_19 (by decide) (fun zc19 => ?_) (fun zc19 => ?_)
      · skip
        exact z_vret hx hF dX4_tellHopes_83 rfl rfl (by rw [show q = lP L by omega]; rfl)
      · skip
        have w6 := w5 q (by omega)
        have h2 := zCn_pos L (show q < lP L by omega)
        have h3 := zCn_le L (lA L q) (lP L)
        refine z_iload_n hx dX4_tellHopes_22 rfl ?_
        refine z_iload_n hx dX4_tellHopes_23 rfl ?_
        refine z_callinP hx [] (qX11_isIn _ _ (by omega) (by omega)) dX4_tellHopes_24 sX4_86 rfl rfl rfl (by decide) (by decide) rfl (Nat.le_of_ble_eq_true rfl) (by decide) ?_
        first | refine z_if_neB (tgt := 77) hx dX4_tellHopes_27 (by decide) (fun zc27 => ?_) (fun zc27 => ?_) | refine z_if_neN (tgt := 77) hx dX4_tellHopes_27 (by decide) (by omega) (fun zc27 => ?_) (fun zc27 => ?_) | refine z_if_ne (tgt := 77) hx dX4_tellHopes_27 (by decide) (fun zc27 => ?_) (fun zc27 => ?_)
        · skip
          first | refine z_iincN (z := 1) hx dX4_tellHopes_77 rfl rfl ?_ | refine z_iinc hx dX4_tellHopes_77 rfl rfl rfl ?_
          refine z_goto (tgt := 14) hx dX4_tellHopes_80 (by decide) ?_
          first | exact z_heap (by rw [zHo_no zc27]) (ih _ (by omega) (q + 1) rfl (by omega)) | exact z_heap (by rw [← zHo_up (L := L) (but := but) (q := q) (by simpa using zc27)]; rfl) (ih _ (by omega) (q + 1) rfl (by omega))
        · skip
          refine z_aload_n hx dX4_tellHopes_30 rfl ?_
          refine z_get hx dX4_tellHopes_31 fX4_30 rfl rfl ?_
          refine z_aload_n hx dX4_tellHopes_34 rfl ?_
          refine z_get hx dX4_tellHopes_35 fX4_15 rfl rfl ?_
          refine z_iload_n hx dX4_tellHopes_38 rfl ?_
          refine z_ialdJ hx dX4_tellHopes_39 rfl (by decide) (by omega) ?_
          refine z_dup2 hx dX4_tellHopes_40 rfl rfl ?_
          refine z_ialdJ hx dX4_tellHopes_41 rfl (by decide) (by omega) ?_
          refine z_aload_n hx dX4_tellHopes_42 rfl ?_
          refine z_iload_n hx dX4_tellHopes_43 rfl ?_
          refine z_callrvF hx (qX4_waiter L (zCn L (lP L)) (zHo L but q) hw q (by omega)) dX4_tellHopes_44 sX4_65 rfl rfl rfl rfl (Nat.le_of_ble_eq_true rfl) rfl (Nat.le_of_ble_eq_true rfl) (by decide) ?_
          refine z_aload_n hx dX4_tellHopes_47 rfl ?_
          refine z_get hx dX4_tellHopes_48 fX4_18 rfl rfl ?_
          refine z_iload_n hx dX4_tellHopes_51 rfl ?_
          refine z_ialdJ hx dX4_tellHopes_52 rfl (by decide) (by omega) ?_
          refine z_aload_n hx dX4_tellHopes_53 rfl ?_
          refine z_get hx dX4_tellHopes_54 fX4_24 rfl rfl ?_
          refine z_iload_n hx dX4_tellHopes_57 rfl ?_
          refine z_ialdJ hx dX4_tellHopes_58 rfl (by decide) (by omega) ?_
          refine z_aload_n hx dX4_tellHopes_59 rfl ?_
          refine z_get hx dX4_tellHopes_60 fX4_27 rfl rfl ?_
          refine z_aload_n hx dX4_tellHopes_63 rfl ?_
          refine z_get hx dX4_tellHopes_64 fX4_15 rfl rfl ?_
          refine z_iload_n hx dX4_tellHopes_67 rfl ?_
          refine z_ialdJ hx dX4_tellHopes_68 rfl (by decide) (by omega) ?_
          refine z_ialdJ hx dX4_tellHopes_69 rfl (by decide) (by omega) ?_
          refine z_iconst (v := nI 1) hx dX4_tellHopes_70 (by decide) ?_
          first | refine z_isubN hx dX4_tellHopes_71 (by omega) ?_ | refine z_isub hx dX4_tellHopes_71 ?_
          refine z_hopesBy hx rfl dX4_tellHopes_72 9 (lK L q) (lF L q) (lT L q) (zCn L (lP L) (lA L q) - 1) (by omega) (by omega) (by omega) (by omega) rfl rfl rfl rfl rfl rfl (Nat.le_of_ble_eq_true rfl) (by decide) ?_
          first | refine z_iaddN hx dX4_tellHopes_75 ?_ | refine z_iadd hx dX4_tellHopes_75 ?_
          first | refine z_iastN hx dX4_tellHopes_76 rfl (by decide) (by omega) ?_ | refine z_iastJ hx dX4_tellHopes_76 rfl (by decide) (by omega) ?_
          first | refine z_iincN (z := 1) hx dX4_tellHopes_77 rfl rfl ?_ | refine z_iinc hx dX4_tellHopes_77 rfl rfl rfl ?_
          refine z_goto (tgt := 14) hx dX4_tellHopes_80 (by decide) ?_
          first | exact z_heap (by rw [zHo_no zc27]) (ih _ (by omega) (q + 1) rfl (by omega)) | exact z_heap (by rw [← zHo_up (L := L) (but := but) (q := q) (by simpa using zc27)]; rfl) (ih _ (by omega) (q + 1) rfl (by omega))
  refine z_aload_n hx dX4_tellHopes_0 rfl ?_
  refine z_callvvF hx (qX4_tellCrowds L cr ho hw) dX4_tellHopes_1 sX4_103 rfl rfl rfl rfl (Nat.le_of_ble_eq_true rfl) rfl (Nat.le_of_ble_eq_true rfl) (by decide) ?_
  refine z_aload_n hx dX4_tellHopes_4 rfl ?_
  refine z_get hx dX4_tellHopes_5 fX4_30 rfl rfl ?_
  refine z_iconst (v := nI 0) hx dX4_tellHopes_8 (by decide) ?_
  refine z_callvsE hx [7] (qJ7_fill_53178 _ (by decide) _ _) dX4_tellHopes_9 sX4_106 rfl rfl rfl (by decide) (by decide) rfl (Nat.le_of_ble_eq_true rfl) (by decide) ?_
  refine z_iconst (v := nI 0) hx dX4_tellHopes_12 (by decide) ?_
  refine z_istore_n hx dX4_tellHopes_13 (Nat.le_of_ble_eq_true rfl) rfl ?_
  exact loop14 _ 0 rfl (by omega)

set_option maxHeartbeats 4000000 in
set_option maxRecDepth 100000 in
theorem qX4_tramWithout (L : zL) (cr ho : Nat → Nat) (hw : zWf L) (but : Nat) (hb : but < 2147483648) : zMi mX4_tramWithout 3 ([.ref 0, .int (nI but)]) (hLc L cr ho) (fun r u => r = tI (zTr L but) ∧ u = hLc L (zCn L (lP L)) (zHs L but)) := by
  refine zMi.of (by decide) (Nat.le_of_ble_eq_true rfl) (fun x hx hF => ?_)
  obtain ⟨w1, w2, w3, w4, w5⟩ := id hw
  have hm : 1 ≤ (if lB L < 1 then 1 else lB L) := by split <;> omega
  have loop17 : ∀ (n17 : Nat) (k : Nat), lS L - k = n17 → k ≤ lS L → zV x 17 [some (.ref 0), some (.int (nI but)), some (.int (tI (zBc L but k))), some (.int (nI (zMc L but k))), some (.int (nI k))] ([]) (hLc L (zCn L (lP L)) (zHs L but)) := by
    intro n17
    induction n17 using Nat.strongRecOn with
    | ind n17 ih =>
      intro k hn hk
      refine z_iload hx dX4_tramWithout_17 rfl ?_
      refine z_aload_n hx dX4_tramWithout_19 rfl ?_
      refine z_get hx dX4_tramWithout_20 fX4_37 rfl rfl ?_
      first | refine z_icmp_geN (tgt := 54) hx dX4_tramWithout_23 (by decide) (by omega) (by omega) (fun zc23 => ?_) (fun zc23 => ?_) | refine z_icmp_ge (tgt := 54) hx dX4_tramWithout_23 (by decide) (fun zc23 => ?_) (fun zc23 => ?_)
      · skip
        refine z_iload_n hx dX4_tramWithout_54 rfl ?_
        exact z_iret hx hF dX4_tramWithout_55 rfl rfl ⟨by rw [show k = lS L by omega, zBc_Tr], rfl⟩
      · skip
        have h1 := zHs_le hw but k
        have h2 := zMc_le hw but k
        refine z_aload_n hx dX4_tramWithout_26 rfl ?_
        refine z_get hx dX4_tramWithout_27 fX4_30 rfl rfl ?_
        refine z_iload hx dX4_tramWithout_30 rfl ?_
        refine z_ialdJ hx dX4_tramWithout_32 rfl (by decide) (by omega) ?_
        refine z_iload_n hx dX4_tramWithout_33 rfl ?_
        first | refine z_icmp_leN (tgt := 48) hx dX4_tramWithout_34 (by decide) (by omega) (by omega) (fun zc34 => ?_) (fun zc34 => ?_) | refine z_icmp_le (tgt := 48) hx dX4_tramWithout_34 (by decide) (fun zc34 => ?_) (fun zc34 => ?_)
        · skip
          first | refine z_iincN (z := 1) hx dX4_tramWithout_48 rfl rfl ?_ | refine z_iinc hx dX4_tramWithout_48 rfl rfl rfl ?_
          refine z_goto (tgt := 17) hx dX4_tramWithout_51 (by decide) ?_
          exact z_eq (by first | (simp only [zBc, zMc, if_pos zc34]; done) | (simp only [zBc, zMc, if_pos zc34]; rfl) | (simp only [zBc, zMc, if_neg (Nat.not_lt.mpr zc34)]; done) | (simp only [zBc, zMc, if_neg (Nat.not_lt.mpr zc34)]; rfl)) rfl rfl (ih _ (by omega) (k + 1) rfl (by omega))
        · skip
          refine z_iload hx dX4_tramWithout_37 rfl ?_
          refine z_istore_n hx dX4_tramWithout_39 (Nat.le_of_ble_eq_true rfl) rfl ?_
          refine z_aload_n hx dX4_tramWithout_40 rfl ?_
          refine z_get hx dX4_tramWithout_41 fX4_30 rfl rfl ?_
          refine z_iload hx dX4_tramWithout_44 rfl ?_
          refine z_ialdJ hx dX4_tramWithout_46 rfl (by decide) (by omega) ?_
          refine z_istore_n hx dX4_tramWithout_47 (Nat.le_of_ble_eq_true rfl) rfl ?_
          first | refine z_iincN (z := 1) hx dX4_tramWithout_48 rfl rfl ?_ | refine z_iinc hx dX4_tramWithout_48 rfl rfl rfl ?_
          refine z_goto (tgt := 17) hx dX4_tramWithout_51 (by decide) ?_
          exact z_eq (by first | (simp only [zBc, zMc, if_pos zc34]; done) | (simp only [zBc, zMc, if_pos zc34]; rfl) | (simp only [zBc, zMc, if_neg (Nat.not_lt.mpr zc34)]; done) | (simp only [zBc, zMc, if_neg (Nat.not_lt.mpr zc34)]; rfl)) rfl rfl (ih _ (by omega) (k + 1) rfl (by omega))
  refine z_aload_n hx dX4_tramWithout_0 rfl ?_
  refine z_iload_n hx dX4_tramWithout_1 rfl ?_
  refine z_callvvF hx (qX4_tellHopes L cr ho hw _ (by omega)) dX4_tramWithout_2 sX4_75 rfl rfl rfl rfl (Nat.le_of_ble_eq_true rfl) rfl (Nat.le_of_ble_eq_true rfl) (by decide) ?_
  refine z_iconst (v := (-1)) hx dX4_tramWithout_5 (by decide) ?_
  refine z_istore_n hx dX4_tramWithout_6 (Nat.le_of_ble_eq_true rfl) rfl ?_
  refine z_aload_n hx dX4_tramWithout_7 rfl ?_
  refine z_callivF hx (qX4_leastHope L (zCn L (lP L)) (zHs L but) hw) dX4_tramWithout_8 sX4_79 rfl rfl rfl rfl (Nat.le_of_ble_eq_true rfl) rfl (Nat.le_of_ble_eq_true rfl) (by decide) ?_
  refine z_iconst (v := nI 1) hx dX4_tramWithout_11 (by decide) ?_
  first | refine z_isubN hx dX4_tramWithout_12 (by omega) ?_ | refine z_isub hx dX4_tramWithout_12 ?_
  refine z_istore_n hx dX4_tramWithout_13 (Nat.le_of_ble_eq_true rfl) rfl ?_
  refine z_iconst (v := nI 0) hx dX4_tramWithout_14 (by decide) ?_
  refine z_istore hx dX4_tramWithout_15 (Nat.le_of_ble_eq_true rfl) rfl ?_
  exact loop17 _ 0 rfl (by omega)

