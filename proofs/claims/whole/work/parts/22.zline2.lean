/-- where, as the reference tells it -/
def tN : Option Nat → Int32
  | none => -1000000
  | some k => nI k
theorem tN_eq {a : Nat} {x : Option Nat} (ha : a < 1000) (hx : ∀ j, x = some j → j < 1000) : nI a = tN x ↔ x = some a := by
  cases x with
  | none =>
    constructor
    · intro h
      have h2 := congrArg Int32.toInt h
      rw [nI_toInt (by omega)] at h2
      have h3 : (tN none).toInt = -1000000 := by decide
      omega
    · intro h; cases h
  | some j =>
    have := hx j rfl
    constructor
    · intro h; rw [(nI_eq (by omega) (by omega)).mp h]
    · intro h; cases h; rfl
def zHd (L : zL) : Nat → Nat
  | 0 => 0
  | k + 1 => zHd L k ||| (if 0 < zHs L 0 k ∧ lB L ≤ zHs L 0 k then 2 ^ k else 0)
theorem tI_eq {a : Nat} {x : Option Nat} (ha : a < 1000) (hx : ∀ j, x = some j → j < 1000) : nI a = tI x ↔ x = some a := by
  cases x with
  | none =>
    constructor
    · intro h
      have h2 := congrArg Int32.toInt h
      rw [nI_toInt (by omega)] at h2
      have h3 : (tI none).toInt = -1 := by decide
      omega
    · intro h; cases h
  | some j =>
    have := hx j rfl
    constructor
    · intro h; rw [(nI_eq (by omega) (by omega)).mp h]
    · intro h; cases h; rfl
/-- in the midst of a minute -/
noncomputable def zPq (L : zL) (wk q : Nat) : zL := (L.1, lK L, zPa L wk q, lF L, lW L, zPt L wk q)
theorem zPa_self (L : zL) (wk q : Nat) : zPa L wk q q = lA L q := by unfold zPa; rw [zIf_f (fun h => absurd h.1 (Nat.lt_irrefl _))]
theorem zPt_self (L : zL) (wk q : Nat) : zPt L wk q q = lT L q := by unfold zPt; rw [if_neg (Nat.lt_irrefl _)]
theorem zPq_0 (L : zL) (wk : Nat) : zPq L wk 0 = L := by
  have h1 : zPa L wk 0 = lA L := by funext q; unfold zPa; rw [zIf_f (fun h => absurd h.1 (Nat.not_lt_zero _))]
  have h2 : zPt L wk 0 = lT L := by funext q; unfold zPt; rw [if_neg (Nat.not_lt_zero _)]
  unfold zPq
  rw [h1, h2]
  rfl
theorem zPq_mv {L : zL} {wk q v : Nat} (h : zMv1 L wk q) (hv : v = if lA L q < lW L q then lA L q + 1 else lA L q - 1) : lsT (lsA (zPq L wk q) q v) q 0 = zPq L wk (q + 1) := by
  have h1 : zup (zPa L wk q) q v = zPa L wk (q + 1) := by
    funext j
    unfold zup
    by_cases hj : j = q
    · subst hj
      rw [if_pos rfl]
      unfold zPa
      rw [zIf_t ⟨Nat.lt_succ_self _, h⟩, hv]
    · rw [if_neg hj]
      unfold zPa
      by_cases c : j < q ∧ zMv1 L wk j
      · rw [zIf_t c, zIf_t ⟨by omega, c.2⟩]
      · rw [zIf_f c, zIf_f (fun e => c ⟨by omega, e.2⟩)]
  have h2 : zup (zPt L wk q) q 0 = zPt L wk (q + 1) := by
    funext j
    unfold zup
    by_cases hj : j = q
    · subst hj
      rw [if_pos rfl]
      unfold zPt
      rw [if_pos (Nat.lt_succ_self _), zIf_t h]
    · rw [if_neg hj]
      unfold zPt
      by_cases c : j < q
      · simp only [if_pos c, if_pos (show j < q + 1 by omega)]
      · simp only [if_neg c, if_neg (show ¬ j < q + 1 by omega)]
  show (L.1, lK L, zup (zPa L wk q) q v, lF L, lW L, zup (zPt L wk q) q 0) = _
  rw [h1, h2]
  rfl
theorem zPq_no {L : zL} {wk q v : Nat} (h : ¬ zMv1 L wk q) (hv : v = if lT L q < 99 then lT L q + 1 else lT L q) : lsT (zPq L wk q) q v = zPq L wk (q + 1) := by
  have h1 : zPa L wk q = zPa L wk (q + 1) := by
    funext j
    unfold zPa
    by_cases c : j < q ∧ zMv1 L wk j
    · rw [zIf_t c, zIf_t ⟨by omega, c.2⟩]
    · rw [zIf_f c, zIf_f (fun e => by
        by_cases hj : j = q
        · subst hj; exact h e.2
        · exact c ⟨by omega, e.2⟩)]
  have h2 : zup (zPt L wk q) q v = zPt L wk (q + 1) := by
    funext j
    unfold zup
    by_cases hj : j = q
    · subst hj
      rw [if_pos rfl]
      unfold zPt
      rw [if_pos (Nat.lt_succ_self _), zIf_f h, hv]
    · rw [if_neg hj]
      unfold zPt
      by_cases c : j < q
      · simp only [if_pos c, if_pos (show j < q + 1 by omega)]
      · simp only [if_neg c, if_neg (show ¬ j < q + 1 by omega)]
  show (L.1, lK L, zPa L wk q, lF L, lW L, zup (zPt L wk q) q v) = _
  rw [h1, h2]
  rfl
set_option maxHeartbeats 4000000 in
set_option maxRecDepth 100000 in
theorem qX4_hopeAt (L : zL) (cr ho : Nat → Nat) (hw : zWf L) (k : Nat) (hk : k < 8) : zMi mX4_hopeAt 3 ([.ref 0, .int (nI k)]) (hLc L cr ho) (fun r u => r = nI (zHs L 0 k) ∧ u = hLc L (zCn L (lP L)) (zHs L 0)) := by
  refine zMi.of (by decide) (Nat.le_of_ble_eq_true rfl) (fun x hx hF => ?_)
  obtain ⟨w1, w2, w3, w4, w5⟩ := id hw
  refine z_aload_n hx dX4_hopeAt_0 rfl ?_
  refine z_iconst (v := nI 0) hx dX4_hopeAt_1 (by decide) ?_
  refine z_callvvF hx (qX4_tellHopes L cr ho hw _ (by omega)) dX4_hopeAt_2 sX4_75 rfl rfl rfl rfl (Nat.le_of_ble_eq_true rfl) rfl (Nat.le_of_ble_eq_true rfl) (by decide) ?_
  refine z_aload_n hx dX4_hopeAt_5 rfl ?_
  refine z_get hx dX4_hopeAt_6 fX4_30 rfl rfl ?_
  refine z_iload_n hx dX4_hopeAt_9 rfl ?_
  refine z_ialdJ hx dX4_hopeAt_10 rfl (by decide) (by omega) ?_
  exact z_iret hx hF dX4_hopeAt_11 rfl rfl ⟨rfl, rfl⟩

set_option maxHeartbeats 4000000 in
set_option maxRecDepth 100000 in
theorem qX4_holdingBits (L : zL) (cr ho : Nat → Nat) (hw : zWf L) : zMi mX4_holdingBits 3 ([.ref 0]) (hLc L cr ho) (fun r u => r = nI (zHd L (lS L)) ∧ u = hLc L (zCn L (lP L)) (zHs L 0)) := by
  refine zMi.of (by decide) (Nat.le_of_ble_eq_true rfl) (fun x hx hF => ?_)
  obtain ⟨w1, w2, w3, w4, w5⟩ := id hw
  have loop9 : ∀ (n9 : Nat) (k : Nat), lS L - k = n9 → k ≤ lS L → zV x 9 [some (.ref 0), some (.int (nI (zHd L k))), some (.int (nI k))] ([]) (hLc L (zCn L (lP L)) (zHs L 0)) := by
    intro n9
    induction n9 using Nat.strongRecOn with
    | ind n9 ih =>
      intro k hn hk
      refine z_iload_n hx dX4_holdingBits_9 rfl ?_
      refine z_aload_n hx dX4_holdingBits_10 rfl ?_
      refine z_get hx dX4_holdingBits_11 fX4_37 rfl rfl ?_
      first | refine z_icmp_geN (tgt := 42) hx dX4_holdingBits_14 (by decide) (by omega) (by omega) (fun zc14 => ?_) (fun zc14 => ?_) | refine z_icmp_ge (tgt := 42) hx dX4_holdingBits_14 (by decide) (fun zc14 => ?_) (fun zc14 => ?_)
      · skip
        refine z_iload_n hx dX4_holdingBits_42 rfl ?_
        exact z_iret hx hF dX4_holdingBits_43 rfl rfl ⟨by rw [show k = lS L by omega], rfl⟩
      · skip
        have h1 := zHs_le hw 0 k
        have h2 : (if lB L < 1 then 1 else lB L) ≤ 40 := by split <;> omega
        have h3 : (if lB L < 1 then 1 else lB L) ≤ zHs L 0 k ↔ (0 < zHs L 0 k ∧ lB L ≤ zHs L 0 k) := by split <;> omega
        refine z_aload_n hx dX4_holdingBits_17 rfl ?_
        refine z_get hx dX4_holdingBits_18 fX4_30 rfl rfl ?_
        refine z_iload_n hx dX4_holdingBits_21 rfl ?_
        refine z_ialdJ hx dX4_holdingBits_22 rfl (by decide) (by omega) ?_
        refine z_aload_n hx dX4_holdingBits_23 rfl ?_
        refine z_callivF hx (qX4_leastHope L (zCn L (lP L)) (zHs L 0) hw) dX4_holdingBits_24 sX4_79 rfl rfl rfl rfl (Nat.le_of_ble_eq_true rfl) rfl (Nat.le_of_ble_eq_true rfl) (by decide) ?_
        first | refine z_icmp_ltN (tgt := 36) hx dX4_holdingBits_27 (by decide) (by omega) (by omega) (fun zc27 => ?_) (fun zc27 => ?_) | refine z_icmp_lt (tgt := 36) hx dX4_holdingBits_27 (by decide) (fun zc27 => ?_) (fun zc27 => ?_)
        · skip
          first | refine z_iincN (z := 1) hx dX4_holdingBits_36 rfl rfl ?_ | refine z_iinc hx dX4_holdingBits_36 rfl rfl rfl ?_
          refine z_goto (tgt := 9) hx dX4_holdingBits_39 (by decide) ?_
          exact z_eq (by first | (simp only [zHd, if_pos (h3.mp zc27)]; done) | (simp only [zHd, if_pos (h3.mp zc27)]; rfl) | (simp only [zHd, if_neg (fun e => absurd (h3.mpr e) (Nat.not_le.mpr zc27)), Nat.or_zero]; done) | (simp only [zHd, if_neg (fun e => absurd (h3.mpr e) (Nat.not_le.mpr zc27)), Nat.or_zero]; rfl)) rfl rfl (ih _ (by omega) (k + 1) rfl (by omega))
        · skip
          refine z_iload_n hx dX4_holdingBits_30 rfl ?_
          refine z_iconst (v := nI 1) hx dX4_holdingBits_31 (by decide) ?_
          refine z_iload_n hx dX4_holdingBits_32 rfl ?_
          first | refine z_ishl1 hx dX4_holdingBits_33 (by omega) ?_ | refine z_ishlN hx dX4_holdingBits_33 (by omega) ?_ | refine z_ishl hx dX4_holdingBits_33 ?_
          first | refine z_iorN hx dX4_holdingBits_34 ?_ | refine z_ior hx dX4_holdingBits_34 ?_
          refine z_istore_n hx dX4_holdingBits_35 (Nat.le_of_ble_eq_true rfl) rfl ?_
          first | refine z_iincN (z := 1) hx dX4_holdingBits_36 rfl rfl ?_ | refine z_iinc hx dX4_holdingBits_36 rfl rfl rfl ?_
          refine z_goto (tgt := 9) hx dX4_holdingBits_39 (by decide) ?_
          exact z_eq (by first | (simp only [zHd, if_pos (h3.mp zc27)]; done) | (simp only [zHd, if_pos (h3.mp zc27)]; rfl) | (simp only [zHd, if_neg (fun e => absurd (h3.mpr e) (Nat.not_le.mpr zc27)), Nat.or_zero]; done) | (simp only [zHd, if_neg (fun e => absurd (h3.mpr e) (Nat.not_le.mpr zc27)), Nat.or_zero]; rfl)) rfl rfl (ih _ (by omega) (k + 1) rfl (by omega))
  refine z_aload_n hx dX4_holdingBits_0 rfl ?_
  refine z_iconst (v := nI 0) hx dX4_holdingBits_1 (by decide) ?_
  refine z_callvvF hx (qX4_tellHopes L cr ho hw _ (by omega)) dX4_holdingBits_2 sX4_75 rfl rfl rfl rfl (Nat.le_of_ble_eq_true rfl) rfl (Nat.le_of_ble_eq_true rfl) (by decide) ?_
  refine z_iconst (v := nI 0) hx dX4_holdingBits_5 (by decide) ?_
  refine z_istore_n hx dX4_holdingBits_6 (Nat.le_of_ble_eq_true rfl) rfl ?_
  refine z_iconst (v := nI 0) hx dX4_holdingBits_7 (by decide) ?_
  refine z_istore_n hx dX4_holdingBits_8 (Nat.le_of_ble_eq_true rfl) rfl ?_
  exact loop9 _ 0 rfl (by omega)

set_option maxHeartbeats 4000000 in
set_option maxRecDepth 100000 in
theorem qX4_moveTo (L : zL) (cr ho : Nat → Nat) (q v : Nat) (hq : q < 6) : zMv mX4_moveTo 0 ([.ref 0, .int (nI q), .int (nI v)]) (hLc L cr ho) (fun u => u = hLc (lsT (lsA L q v) q 0) cr ho) := by
  refine zMv.of (by decide) (Nat.le_of_ble_eq_true rfl) (fun x hx hF => ?_)
  refine z_aload_n hx dX4_moveTo_0 rfl ?_
  refine z_get hx dX4_moveTo_1 fX4_15 rfl rfl ?_
  refine z_iload_n hx dX4_moveTo_4 rfl ?_
  refine z_iload_n hx dX4_moveTo_5 rfl ?_
  first | refine z_iastN hx dX4_moveTo_6 rfl (by decide) (by omega) ?_ | refine z_iastJ hx dX4_moveTo_6 rfl (by decide) (by omega) ?_
  refine z_aload_n hx dX4_moveTo_7 rfl ?_
  refine z_get hx dX4_moveTo_8 fX4_24 rfl rfl ?_
  refine z_iload_n hx dX4_moveTo_11 rfl ?_
  refine z_iconst (v := nI 0) hx dX4_moveTo_12 (by decide) ?_
  first | refine z_iastN hx dX4_moveTo_13 rfl (by decide) (by omega) ?_ | refine z_iastJ hx dX4_moveTo_13 rfl (by decide) (by omega) ?_
  exact z_vret hx hF dX4_moveTo_14 rfl rfl rfl

set_option maxHeartbeats 4000000 in
set_option maxRecDepth 100000 in
theorem qX4_begin (L : zL) (cr ho : Nat → Nat) (s b : Nat) : zMv mX4_begin 0 ([.ref 0, .int (nI s), .int (nI b)]) (hLc L cr ho) (fun u => u = hLc ((s, b, 0, 0), lK L, lA L, lF L, lW L, lT L) cr ho) := by
  refine zMv.of (by decide) (Nat.le_of_ble_eq_true rfl) (fun x hx hF => ?_)
  refine z_aload_n hx dX4_begin_0 rfl ?_
  refine z_iload_n hx dX4_begin_1 rfl ?_
  refine z_puti hx dX4_begin_2 pX4_37 rfl (Nat.le_of_ble_eq_true rfl) ?_
  refine z_aload_n hx dX4_begin_5 rfl ?_
  refine z_iload_n hx dX4_begin_6 rfl ?_
  refine z_puti hx dX4_begin_7 pX4_41 rfl (Nat.le_of_ble_eq_true rfl) ?_
  refine z_aload_n hx dX4_begin_10 rfl ?_
  refine z_iconst (v := nI 0) hx dX4_begin_11 (by decide) ?_
  refine z_puti hx dX4_begin_12 pX4_44 rfl (Nat.le_of_ble_eq_true rfl) ?_
  refine z_aload_n hx dX4_begin_15 rfl ?_
  refine z_iconst (v := nI 0) hx dX4_begin_16 (by decide) ?_
  refine z_puti hx dX4_begin_17 pX4_47 rfl (Nat.le_of_ble_eq_true rfl) ?_
  exact z_vret hx hF dX4_begin_20 rfl rfl rfl

set_option maxHeartbeats 4000000 in
set_option maxRecDepth 100000 in
theorem qX4_add (L : zL) (cr ho : Nat → Nat) (hp : lP L < 6) (k a f w : Nat) : zMv mX4_add 0 ([.ref 0, .int (nI k), .int (nI a), .int (nI f), .int (nI w)]) (hLc L cr ho) (fun u => u = hLc ((lS L, lB L, lP L + 1, lM L), zup (lK L) (lP L) k, zup (lA L) (lP L) a, zup (lF L) (lP L) f, zup (lW L) (lP L) w, zup (lT L) (lP L) 0) cr ho) := by
  refine zMv.of (by decide) (Nat.le_of_ble_eq_true rfl) (fun x hx hF => ?_)
  refine z_aload_n hx dX4_add_0 rfl ?_
  refine z_get hx dX4_add_1 fX4_44 rfl rfl ?_
  refine z_bipush (v := nI 6) hx dX4_add_4 (by decide) ?_
  first | refine z_icmp_geN (tgt := 70) hx dX4_add_6 (by decide) (by omega) (by omega) (fun zc6 => ?_) (fun zc6 => ?_) | refine z_icmp_ge (tgt := 70) hx dX4_add_6 (by decide) (fun zc6 => ?_) (fun zc6 => ?_)
  · skip
    exfalso; omega
  · skip
    refine z_aload_n hx dX4_add_9 rfl ?_
    refine z_get hx dX4_add_10 fX4_9 rfl rfl ?_
    refine z_aload_n hx dX4_add_13 rfl ?_
    refine z_get hx dX4_add_14 fX4_44 rfl rfl ?_
    refine z_iload_n hx dX4_add_17 rfl ?_
    first | refine z_iastN hx dX4_add_18 rfl (by decide) (by omega) ?_ | refine z_iastJ hx dX4_add_18 rfl (by decide) (by omega) ?_
    refine z_aload_n hx dX4_add_19 rfl ?_
    refine z_get hx dX4_add_20 fX4_15 rfl rfl ?_
    refine z_aload_n hx dX4_add_23 rfl ?_
    refine z_get hx dX4_add_24 fX4_44 rfl rfl ?_
    refine z_iload_n hx dX4_add_27 rfl ?_
    first | refine z_iastN hx dX4_add_28 rfl (by decide) (by omega) ?_ | refine z_iastJ hx dX4_add_28 rfl (by decide) (by omega) ?_
    refine z_aload_n hx dX4_add_29 rfl ?_
    refine z_get hx dX4_add_30 fX4_18 rfl rfl ?_
    refine z_aload_n hx dX4_add_33 rfl ?_
    refine z_get hx dX4_add_34 fX4_44 rfl rfl ?_
    refine z_iload_n hx dX4_add_37 rfl ?_
    first | refine z_iastN hx dX4_add_38 rfl (by decide) (by omega) ?_ | refine z_iastJ hx dX4_add_38 rfl (by decide) (by omega) ?_
    refine z_aload_n hx dX4_add_39 rfl ?_
    refine z_get hx dX4_add_40 fX4_21 rfl rfl ?_
    refine z_aload_n hx dX4_add_43 rfl ?_
    refine z_get hx dX4_add_44 fX4_44 rfl rfl ?_
    refine z_iload hx dX4_add_47 rfl ?_
    first | refine z_iastN hx dX4_add_49 rfl (by decide) (by omega) ?_ | refine z_iastJ hx dX4_add_49 rfl (by decide) (by omega) ?_
    refine z_aload_n hx dX4_add_50 rfl ?_
    refine z_get hx dX4_add_51 fX4_24 rfl rfl ?_
    refine z_aload_n hx dX4_add_54 rfl ?_
    refine z_get hx dX4_add_55 fX4_44 rfl rfl ?_
    refine z_iconst (v := nI 0) hx dX4_add_58 (by decide) ?_
    first | refine z_iastN hx dX4_add_59 rfl (by decide) (by omega) ?_ | refine z_iastJ hx dX4_add_59 rfl (by decide) (by omega) ?_
    refine z_aload_n hx dX4_add_60 rfl ?_
    refine z_dup hx dX4_add_61 rfl ?_
    refine z_get hx dX4_add_62 fX4_44 rfl rfl ?_
    refine z_iconst (v := nI 1) hx dX4_add_65 (by decide) ?_
    first | refine z_iaddN hx dX4_add_66 ?_ | refine z_iadd hx dX4_add_66 ?_
    refine z_puti hx dX4_add_67 pX4_44 rfl (Nat.le_of_ble_eq_true rfl) ?_
    exact z_vret hx hF dX4_add_70 rfl rfl rfl

set_option maxHeartbeats 4000000 in
set_option maxRecDepth 100000 in
theorem qX4_become (L : zL) (cr ho : Nat → Nat) (L' : zL) (cr' ho' : Nat → Nat) : zMv mX4_become 1 ([.ref 0, .ref 14]) (hLc2 L cr ho L' cr' ho') (fun u => u = hLc2 L' cr ho L' cr' ho') := by
  refine zMv.of (by decide) (Nat.le_of_ble_eq_true rfl) (fun x hx hF => ?_)
  refine z_aload_n hx dX4_become_0 rfl ?_
  refine z_aload_n hx dX4_become_1 rfl ?_
  refine z_get hx dX4_become_2 fX4_37 rfl rfl ?_
  refine z_puti hx dX4_become_5 pX4_37 rfl (Nat.le_of_ble_eq_true rfl) ?_
  refine z_aload_n hx dX4_become_8 rfl ?_
  refine z_aload_n hx dX4_become_9 rfl ?_
  refine z_get hx dX4_become_10 fX4_41 rfl rfl ?_
  refine z_puti hx dX4_become_13 pX4_41 rfl (Nat.le_of_ble_eq_true rfl) ?_
  refine z_aload_n hx dX4_become_16 rfl ?_
  refine z_aload_n hx dX4_become_17 rfl ?_
  refine z_get hx dX4_become_18 fX4_44 rfl rfl ?_
  refine z_puti hx dX4_become_21 pX4_44 rfl (Nat.le_of_ble_eq_true rfl) ?_
  refine z_aload_n hx dX4_become_24 rfl ?_
  refine z_aload_n hx dX4_become_25 rfl ?_
  refine z_get hx dX4_become_26 fX4_47 rfl rfl ?_
  refine z_puti hx dX4_become_29 pX4_47 rfl (Nat.le_of_ble_eq_true rfl) ?_
  refine z_aload_n hx dX4_become_32 rfl ?_
  refine z_get hx dX4_become_33 fX4_9 rfl rfl ?_
  refine z_iconst (v := nI 0) hx dX4_become_36 (by decide) ?_
  refine z_aload_n hx dX4_become_37 rfl ?_
  refine z_get hx dX4_become_38 fX4_9 rfl rfl ?_
  refine z_iconst (v := nI 0) hx dX4_become_41 (by decide) ?_
  refine z_bipush (v := nI 6) hx dX4_become_42 (by decide) ?_
  refine z_acopy hx dX4_become_44 aX4_50 rfl rfl (by decide) (by decide) (by omega) (by omega) rfl (by decide) (Nat.le_of_ble_eq_true rfl) ?_
  refine z_cell (q := 1) (fun j => nI (lK L' j)) rfl (fun j hj => by simp [va_cpy, hj]) ?_
  refine z_aload_n hx dX4_become_47 rfl ?_
  refine z_get hx dX4_become_48 fX4_15 rfl rfl ?_
  refine z_iconst (v := nI 0) hx dX4_become_51 (by decide) ?_
  refine z_aload_n hx dX4_become_52 rfl ?_
  refine z_get hx dX4_become_53 fX4_15 rfl rfl ?_
  refine z_iconst (v := nI 0) hx dX4_become_56 (by decide) ?_
  refine z_bipush (v := nI 6) hx dX4_become_57 (by decide) ?_
  refine z_acopy hx dX4_become_59 aX4_50 rfl rfl (by decide) (by decide) (by omega) (by omega) rfl (by decide) (Nat.le_of_ble_eq_true rfl) ?_
  refine z_cell (q := 2) (fun j => nI (lA L' j)) rfl (fun j hj => by simp [va_cpy, hj]) ?_
  refine z_aload_n hx dX4_become_62 rfl ?_
  refine z_get hx dX4_become_63 fX4_18 rfl rfl ?_
  refine z_iconst (v := nI 0) hx dX4_become_66 (by decide) ?_
  refine z_aload_n hx dX4_become_67 rfl ?_
  refine z_get hx dX4_become_68 fX4_18 rfl rfl ?_
  refine z_iconst (v := nI 0) hx dX4_become_71 (by decide) ?_
  refine z_bipush (v := nI 6) hx dX4_become_72 (by decide) ?_
  refine z_acopy hx dX4_become_74 aX4_50 rfl rfl (by decide) (by decide) (by omega) (by omega) rfl (by decide) (Nat.le_of_ble_eq_true rfl) ?_
  refine z_cell (q := 3) (fun j => nI (lF L' j)) rfl (fun j hj => by simp [va_cpy, hj]) ?_
  refine z_aload_n hx dX4_become_77 rfl ?_
  refine z_get hx dX4_become_78 fX4_21 rfl rfl ?_
  refine z_iconst (v := nI 0) hx dX4_become_81 (by decide) ?_
  refine z_aload_n hx dX4_become_82 rfl ?_
  refine z_get hx dX4_become_83 fX4_21 rfl rfl ?_
  refine z_iconst (v := nI 0) hx dX4_become_86 (by decide) ?_
  refine z_bipush (v := nI 6) hx dX4_become_87 (by decide) ?_
  refine z_acopy hx dX4_become_89 aX4_50 rfl rfl (by decide) (by decide) (by omega) (by omega) rfl (by decide) (Nat.le_of_ble_eq_true rfl) ?_
  refine z_cell (q := 4) (fun j => nI (lW L' j)) rfl (fun j hj => by simp [va_cpy, hj]) ?_
  refine z_aload_n hx dX4_become_92 rfl ?_
  refine z_get hx dX4_become_93 fX4_24 rfl rfl ?_
  refine z_iconst (v := nI 0) hx dX4_become_96 (by decide) ?_
  refine z_aload_n hx dX4_become_97 rfl ?_
  refine z_get hx dX4_become_98 fX4_24 rfl rfl ?_
  refine z_iconst (v := nI 0) hx dX4_become_101 (by decide) ?_
  refine z_bipush (v := nI 6) hx dX4_become_102 (by decide) ?_
  refine z_acopy hx dX4_become_104 aX4_50 rfl rfl (by decide) (by decide) (by omega) (by omega) rfl (by decide) (Nat.le_of_ble_eq_true rfl) ?_
  refine z_cell (q := 5) (fun j => nI (lT L' j)) rfl (fun j hj => by simp [va_cpy, hj]) ?_
  exact z_vret hx hF dX4_become_107 rfl rfl rfl

set_option maxHeartbeats 4000000 in
set_option maxRecDepth 100000 in
theorem qX4_pass (L : zL) (cr ho : Nat → Nat) (hw : zWf L) (wk : Nat) (hwk : wk < 2147483648) : zMi mX4_pass 4 ([.ref 0, .int (nI wk)]) (hLc L cr ho) (fun r u => r = tI (zTr L 0) ∧ u = hLc (zPs L wk) (zCn L (lP L)) (zHs L 0)) := by
  refine zMi.of (by decide) (Nat.le_of_ble_eq_true rfl) (fun x hx hF => ?_)
  obtain ⟨w1, w2, w3, w4, w5⟩ := id hw
  have ht : ∀ j, zTr L 0 = some j → j < 1000 := fun j hj => by have := zTr_lt hj; omega
  have loop8 : ∀ (n8 : Nat) (q : Nat), lP L - q = n8 → q ≤ lP L → zV x 8 [some (.ref 0), some (.int (nI wk)), some (.int (tI (zTr L 0))), some (.int (nI q))] ([]) (hLc (zPq L wk q) (zCn L (lP L)) (zHs L 0)) := by
    intro n8
    induction n8 using Nat.strongRecOn with
    | ind n8 ih =>
      intro q hn hq
      refine z_iload_n hx dX4_pass_8 rfl ?_
      refine z_aload_n hx dX4_pass_9 rfl ?_
      refine z_get hx dX4_pass_10 fX4_44 rfl rfl ?_
      refine z_topN (b := lP L) rfl ?_
      first | refine z_icmp_geN (tgt := 116) hx dX4_pass_13 (by decide) (by omega) (by omega) (fun zc13 => ?_) (fun zc13 => ?_) | refine z_icmp_ge (tgt := 116) hx dX4_pass_13 (by decide) (fun zc13 => ?_) (fun zc13 => ?_)
      · skip
        refine z_aload_n hx dX4_pass_116 rfl ?_
        refine z_dup hx dX4_pass_117 rfl ?_
        refine z_get hx dX4_pass_118 fX4_47 rfl rfl ?_
        refine z_iconst (v := nI 1) hx dX4_pass_121 (by decide) ?_
        first | refine z_iaddN hx dX4_pass_122 ?_ | refine z_iadd hx dX4_pass_122 ?_
        refine z_puti hx dX4_pass_123 pX4_47 rfl (Nat.le_of_ble_eq_true rfl) ?_
        refine z_iload_n hx dX4_pass_126 rfl ?_
        exact z_iret hx hF dX4_pass_127 rfl rfl ⟨rfl, by rw [show q = lP L by omega]; rfl⟩
      · skip
        have w6 := w5 q (by omega)
        refine z_aload_n hx dX4_pass_16 rfl ?_
        refine z_get hx dX4_pass_17 fX4_15 rfl rfl ?_
        refine z_iload_n hx dX4_pass_20 rfl ?_
        refine z_ialdJ hx dX4_pass_21 rfl (by decide) (by omega) ?_
        refine z_topN (b := lA L q) (zPa_self L wk q) ?_
        refine z_aload_n hx dX4_pass_22 rfl ?_
        refine z_get hx dX4_pass_23 fX4_21 rfl rfl ?_
        refine z_iload_n hx dX4_pass_26 rfl ?_
        refine z_ialdJ hx dX4_pass_27 rfl (by decide) (by omega) ?_
        refine z_topN (b := lW L q) rfl ?_
        first | refine z_icmp_eqN (tgt := 91) hx dX4_pass_28 (by decide) (by omega) (by omega) (fun zc28 => ?_) (fun zc28 => ?_) | refine z_icmp_eq (tgt := 91) hx dX4_pass_28 (by decide) (fun zc28 => ?_) (fun zc28 => ?_)
        · skip
          refine z_aload_n hx dX4_pass_91 rfl ?_
          refine z_get hx dX4_pass_92 fX4_24 rfl rfl ?_
          refine z_iload_n hx dX4_pass_95 rfl ?_
          refine z_aload_n hx dX4_pass_96 rfl ?_
          refine z_get hx dX4_pass_97 fX4_24 rfl rfl ?_
          refine z_iload_n hx dX4_pass_100 rfl ?_
          refine z_ialdJ hx dX4_pass_101 rfl (by decide) (by omega) ?_
          refine z_topN (b := lT L q) (zPt_self L wk q) ?_
          refine z_iconst (v := nI 1) hx dX4_pass_102 (by decide) ?_
          first | refine z_iaddN hx dX4_pass_103 ?_ | refine z_iadd hx dX4_pass_103 ?_
          refine z_bipush (v := nI 99) hx dX4_pass_104 (by decide) ?_
          refine z_mmin hx dX4_pass_106 sX4_94 (by omega) (by omega) rfl (by decide) (Nat.le_of_ble_eq_true rfl) ?_
          first | refine z_iastN hx dX4_pass_109 rfl (by decide) (by omega) ?_ | refine z_iastJ hx dX4_pass_109 rfl (by decide) (by omega) ?_
          first | refine z_iincN (z := 1) hx dX4_pass_110 rfl rfl ?_ | refine z_iinc hx dX4_pass_110 rfl rfl rfl ?_
          refine z_goto (tgt := 8) hx dX4_pass_113 (by decide) ?_
          first
          | exact z_heap (show _ = hLc (zPq L wk (q + 1)) (zCn L (lP L)) (zHs L 0) by rw [← zPq_mv (v := lA L q + 1) ⟨zc28, Or.inl (hte.mp zc38)⟩ (by rw [if_pos (by omega)])]; try rfl) (ih _ (by omega) (q + 1) rfl (by omega))
          | exact z_heap (show _ = hLc (zPq L wk (q + 1)) (zCn L (lP L)) (zHs L 0) by rw [← zPq_mv (v := lA L q - 1) ⟨zc28, Or.inl (hte.mp zc38)⟩ (by rw [if_neg (by omega)])]; try rfl) (ih _ (by omega) (q + 1) rfl (by omega))
          | exact z_heap (show _ = hLc (zPq L wk (q + 1)) (zCn L (lP L)) (zHs L 0) by rw [← zPq_mv (v := lA L q + 1) ⟨zc28, Or.inr zc46⟩ (by rw [if_pos (by omega)])]; try rfl) (ih _ (by omega) (q + 1) rfl (by omega))
          | exact z_heap (show _ = hLc (zPq L wk (q + 1)) (zCn L (lP L)) (zHs L 0) by rw [← zPq_mv (v := lA L q - 1) ⟨zc28, Or.inr zc46⟩ (by rw [if_neg (by omega)])]; try rfl) (ih _ (by omega) (q + 1) rfl (by omega))
          | exact z_heap (show _ = hLc (zPq L wk (q + 1)) (zCn L (lP L)) (zHs L 0) by rw [← zPq_no (v := if 99 < lT L q + 1 then 99 else lT L q + 1) (fun e => e.1 zc28) (by split <;> split <;> omega)]; try rfl) (ih _ (by omega) (q + 1) rfl (by omega))
          | exact z_heap (show _ = hLc (zPq L wk (q + 1)) (zCn L (lP L)) (zHs L 0) by rw [← zPq_no (v := if 99 < lT L q + 1 then 99 else lT L q + 1) (fun e => e.2.elim (fun e => zc38 (hte.mpr e)) zc46) (by split <;> split <;> omega)]; try rfl) (ih _ (by omega) (q + 1) rfl (by omega))
        · skip
          refine z_aload_n hx dX4_pass_31 rfl ?_
          refine z_get hx dX4_pass_32 fX4_15 rfl rfl ?_
          refine z_iload_n hx dX4_pass_35 rfl ?_
          refine z_ialdJ hx dX4_pass_36 rfl (by decide) (by omega) ?_
          refine z_topN (b := lA L q) (zPa_self L wk q) ?_
          refine z_iload_n hx dX4_pass_37 rfl ?_
          have hte := tI_eq (a := lA L q) (by omega) ht
          refine z_icmp_eq (tgt := 49) hx dX4_pass_38 (by decide) (fun zc38 => ?_) (fun zc38 => ?_)
          · skip
            refine z_aload_n hx dX4_pass_49 rfl ?_
            refine z_iload_n hx dX4_pass_50 rfl ?_
            refine z_aload_n hx dX4_pass_51 rfl ?_
            refine z_get hx dX4_pass_52 fX4_15 rfl rfl ?_
            refine z_iload_n hx dX4_pass_55 rfl ?_
            refine z_ialdJ hx dX4_pass_56 rfl (by decide) (by omega) ?_
            refine z_topN (b := lA L q) (zPa_self L wk q) ?_
            refine z_aload_n hx dX4_pass_57 rfl ?_
            refine z_get hx dX4_pass_58 fX4_21 rfl rfl ?_
            refine z_iload_n hx dX4_pass_61 rfl ?_
            refine z_ialdJ hx dX4_pass_62 rfl (by decide) (by omega) ?_
            refine z_topN (b := lW L q) rfl ?_
            first | refine z_icmp_geN (tgt := 77) hx dX4_pass_63 (by decide) (by omega) (by omega) (fun zc63 => ?_) (fun zc63 => ?_) | refine z_icmp_ge (tgt := 77) hx dX4_pass_63 (by decide) (fun zc63 => ?_) (fun zc63 => ?_)
            · skip
              refine z_aload_n hx dX4_pass_77 rfl ?_
              refine z_get hx dX4_pass_78 fX4_15 rfl rfl ?_
              refine z_iload_n hx dX4_pass_81 rfl ?_
              refine z_ialdJ hx dX4_pass_82 rfl (by decide) (by omega) ?_
              refine z_topN (b := lA L q) (zPa_self L wk q) ?_
              refine z_iconst (v := nI 1) hx dX4_pass_83 (by decide) ?_
              first | refine z_isubN hx dX4_pass_84 (by omega) ?_ | refine z_isub hx dX4_pass_84 ?_
              refine z_callvvF hx (qX4_moveTo (zPq L wk q) (zCn L (lP L)) (zHs L 0) q _ (by omega)) dX4_pass_85 sX4_90 rfl rfl rfl rfl (Nat.le_of_ble_eq_true rfl) rfl (Nat.le_of_ble_eq_true rfl) (by decide) ?_
              refine z_goto (tgt := 110) hx dX4_pass_88 (by decide) ?_
              first | refine z_iincN (z := 1) hx dX4_pass_110 rfl rfl ?_ | refine z_iinc hx dX4_pass_110 rfl rfl rfl ?_
              refine z_goto (tgt := 8) hx dX4_pass_113 (by decide) ?_
              first
              | exact z_heap (show _ = hLc (zPq L wk (q + 1)) (zCn L (lP L)) (zHs L 0) by rw [← zPq_mv (v := lA L q + 1) ⟨zc28, Or.inl (hte.mp zc38)⟩ (by rw [if_pos (by omega)])]; try rfl) (ih _ (by omega) (q + 1) rfl (by omega))
              | exact z_heap (show _ = hLc (zPq L wk (q + 1)) (zCn L (lP L)) (zHs L 0) by rw [← zPq_mv (v := lA L q - 1) ⟨zc28, Or.inl (hte.mp zc38)⟩ (by rw [if_neg (by omega)])]; try rfl) (ih _ (by omega) (q + 1) rfl (by omega))
              | exact z_heap (show _ = hLc (zPq L wk (q + 1)) (zCn L (lP L)) (zHs L 0) by rw [← zPq_mv (v := lA L q + 1) ⟨zc28, Or.inr zc46⟩ (by rw [if_pos (by omega)])]; try rfl) (ih _ (by omega) (q + 1) rfl (by omega))
              | exact z_heap (show _ = hLc (zPq L wk (q + 1)) (zCn L (lP L)) (zHs L 0) by rw [← zPq_mv (v := lA L q - 1) ⟨zc28, Or.inr zc46⟩ (by rw [if_neg (by omega)])]; try rfl) (ih _ (by omega) (q + 1) rfl (by omega))
              | exact z_heap (show _ = hLc (zPq L wk (q + 1)) (zCn L (lP L)) (zHs L 0) by rw [← zPq_no (v := if 99 < lT L q + 1 then 99 else lT L q + 1) (fun e => e.1 zc28) (by split <;> split <;> omega)]; try rfl) (ih _ (by omega) (q + 1) rfl (by omega))
              | exact z_heap (show _ = hLc (zPq L wk (q + 1)) (zCn L (lP L)) (zHs L 0) by rw [← zPq_no (v := if 99 < lT L q + 1 then 99 else lT L q + 1) (fun e => e.2.elim (fun e => zc38 (hte.mpr e)) zc46) (by split <;> split <;> omega)]; try rfl) (ih _ (by omega) (q + 1) rfl (by omega))
            · skip
              refine z_aload_n hx dX4_pass_66 rfl ?_
              refine z_get hx dX4_pass_67 fX4_15 rfl rfl ?_
              refine z_iload_n hx dX4_pass_70 rfl ?_
              refine z_ialdJ hx dX4_pass_71 rfl (by decide) (by omega) ?_
              refine z_topN (b := lA L q) (zPa_self L wk q) ?_
              refine z_iconst (v := nI 1) hx dX4_pass_72 (by decide) ?_
              first | refine z_iaddN hx dX4_pass_73 ?_ | refine z_iadd hx dX4_pass_73 ?_
              refine z_goto (tgt := 85) hx dX4_pass_74 (by decide) ?_
              refine z_callvvF hx (qX4_moveTo (zPq L wk q) (zCn L (lP L)) (zHs L 0) q _ (by omega)) dX4_pass_85 sX4_90 rfl rfl rfl rfl (Nat.le_of_ble_eq_true rfl) rfl (Nat.le_of_ble_eq_true rfl) (by decide) ?_
              refine z_goto (tgt := 110) hx dX4_pass_88 (by decide) ?_
              first | refine z_iincN (z := 1) hx dX4_pass_110 rfl rfl ?_ | refine z_iinc hx dX4_pass_110 rfl rfl rfl ?_
              refine z_goto (tgt := 8) hx dX4_pass_113 (by decide) ?_
              first
              | exact z_heap (show _ = hLc (zPq L wk (q + 1)) (zCn L (lP L)) (zHs L 0) by rw [← zPq_mv (v := lA L q + 1) ⟨zc28, Or.inl (hte.mp zc38)⟩ (by rw [if_pos (by omega)])]; try rfl) (ih _ (by omega) (q + 1) rfl (by omega))
              | exact z_heap (show _ = hLc (zPq L wk (q + 1)) (zCn L (lP L)) (zHs L 0) by rw [← zPq_mv (v := lA L q - 1) ⟨zc28, Or.inl (hte.mp zc38)⟩ (by rw [if_neg (by omega)])]; try rfl) (ih _ (by omega) (q + 1) rfl (by omega))
              | exact z_heap (show _ = hLc (zPq L wk (q + 1)) (zCn L (lP L)) (zHs L 0) by rw [← zPq_mv (v := lA L q + 1) ⟨zc28, Or.inr zc46⟩ (by rw [if_pos (by omega)])]; try rfl) (ih _ (by omega) (q + 1) rfl (by omega))
              | exact z_heap (show _ = hLc (zPq L wk (q + 1)) (zCn L (lP L)) (zHs L 0) by rw [← zPq_mv (v := lA L q - 1) ⟨zc28, Or.inr zc46⟩ (by rw [if_neg (by omega)])]; try rfl) (ih _ (by omega) (q + 1) rfl (by omega))
              | exact z_heap (show _ = hLc (zPq L wk (q + 1)) (zCn L (lP L)) (zHs L 0) by rw [← zPq_no (v := if 99 < lT L q + 1 then 99 else lT L q + 1) (fun e => e.1 zc28) (by split <;> split <;> omega)]; try rfl) (ih _ (by omega) (q + 1) rfl (by omega))
              | exact z_heap (show _ = hLc (zPq L wk (q + 1)) (zCn L (lP L)) (zHs L 0) by rw [← zPq_no (v := if 99 < lT L q + 1 then 99 else lT L q + 1) (fun e => e.2.elim (fun e => zc38 (hte.mpr e)) zc46) (by split <;> split <;> omega)]; try rfl) (ih _ (by omega) (q + 1) rfl (by omega))
          · skip
            refine z_iload_n hx dX4_pass_41 rfl ?_
            refine z_iload_n hx dX4_pass_42 rfl ?_
            refine z_callinP hx [] (qX11_isIn _ _ (by omega) (by omega)) dX4_pass_43 sX4_86 rfl rfl rfl (by decide) (by decide) rfl (Nat.le_of_ble_eq_true rfl) (by decide) ?_
            first | refine z_if_eqB (tgt := 91) hx dX4_pass_46 (by decide) (fun zc46 => ?_) (fun zc46 => ?_) | refine z_if_eqN (tgt := 91) hx dX4_pass_46 (by decide) (by omega) (fun zc46 => ?_) (fun zc46 => ?_) | refine z_if_eq (tgt := 91) hx dX4_pass_46 (by decide) (fun zc46 => ?_) (fun zc46 => ?_)
            · skip
              refine z_aload_n hx dX4_pass_91 rfl ?_
              refine z_get hx dX4_pass_92 fX4_24 rfl rfl ?_
              refine z_iload_n hx dX4_pass_95 rfl ?_
              refine z_aload_n hx dX4_pass_96 rfl ?_
              refine z_get hx dX4_pass_97 fX4_24 rfl rfl ?_
              refine z_iload_n hx dX4_pass_100 rfl ?_
              refine z_ialdJ hx dX4_pass_101 rfl (by decide) (by omega) ?_
              refine z_topN (b := lT L q) (zPt_self L wk q) ?_
              refine z_iconst (v := nI 1) hx dX4_pass_102 (by decide) ?_
              first | refine z_iaddN hx dX4_pass_103 ?_ | refine z_iadd hx dX4_pass_103 ?_
              refine z_bipush (v := nI 99) hx dX4_pass_104 (by decide) ?_
              refine z_mmin hx dX4_pass_106 sX4_94 (by omega) (by omega) rfl (by decide) (Nat.le_of_ble_eq_true rfl) ?_
              first | refine z_iastN hx dX4_pass_109 rfl (by decide) (by omega) ?_ | refine z_iastJ hx dX4_pass_109 rfl (by decide) (by omega) ?_
              first | refine z_iincN (z := 1) hx dX4_pass_110 rfl rfl ?_ | refine z_iinc hx dX4_pass_110 rfl rfl rfl ?_
              refine z_goto (tgt := 8) hx dX4_pass_113 (by decide) ?_
              first
              | exact z_heap (show _ = hLc (zPq L wk (q + 1)) (zCn L (lP L)) (zHs L 0) by rw [← zPq_mv (v := lA L q + 1) ⟨zc28, Or.inl (hte.mp zc38)⟩ (by rw [if_pos (by omega)])]; try rfl) (ih _ (by omega) (q + 1) rfl (by omega))
              | exact z_heap (show _ = hLc (zPq L wk (q + 1)) (zCn L (lP L)) (zHs L 0) by rw [← zPq_mv (v := lA L q - 1) ⟨zc28, Or.inl (hte.mp zc38)⟩ (by rw [if_neg (by omega)])]; try rfl) (ih _ (by omega) (q + 1) rfl (by omega))
              | exact z_heap (show _ = hLc (zPq L wk (q + 1)) (zCn L (lP L)) (zHs L 0) by rw [← zPq_mv (v := lA L q + 1) ⟨zc28, Or.inr zc46⟩ (by rw [if_pos (by omega)])]; try rfl) (ih _ (by omega) (q + 1) rfl (by omega))
              | exact z_heap (show _ = hLc (zPq L wk (q + 1)) (zCn L (lP L)) (zHs L 0) by rw [← zPq_mv (v := lA L q - 1) ⟨zc28, Or.inr zc46⟩ (by rw [if_neg (by omega)])]; try rfl) (ih _ (by omega) (q + 1) rfl (by omega))
              | exact z_heap (show _ = hLc (zPq L wk (q + 1)) (zCn L (lP L)) (zHs L 0) by rw [← zPq_no (v := if 99 < lT L q + 1 then 99 else lT L q + 1) (fun e => e.1 zc28) (by split <;> split <;> omega)]; try rfl) (ih _ (by omega) (q + 1) rfl (by omega))
              | exact z_heap (show _ = hLc (zPq L wk (q + 1)) (zCn L (lP L)) (zHs L 0) by rw [← zPq_no (v := if 99 < lT L q + 1 then 99 else lT L q + 1) (fun e => e.2.elim (fun e => zc38 (hte.mpr e)) zc46) (by split <;> split <;> omega)]; try rfl) (ih _ (by omega) (q + 1) rfl (by omega))
            · skip
              refine z_aload_n hx dX4_pass_49 rfl ?_
              refine z_iload_n hx dX4_pass_50 rfl ?_
              refine z_aload_n hx dX4_pass_51 rfl ?_
              refine z_get hx dX4_pass_52 fX4_15 rfl rfl ?_
              refine z_iload_n hx dX4_pass_55 rfl ?_
              refine z_ialdJ hx dX4_pass_56 rfl (by decide) (by omega) ?_
              refine z_topN (b := lA L q) (zPa_self L wk q) ?_
              refine z_aload_n hx dX4_pass_57 rfl ?_
              refine z_get hx dX4_pass_58 fX4_21 rfl rfl ?_
              refine z_iload_n hx dX4_pass_61 rfl ?_
              refine z_ialdJ hx dX4_pass_62 rfl (by decide) (by omega) ?_
              refine z_topN (b := lW L q) rfl ?_
              first | refine z_icmp_geN (tgt := 77) hx dX4_pass_63 (by decide) (by omega) (by omega) (fun zc63 => ?_) (fun zc63 => ?_) | refine z_icmp_ge (tgt := 77) hx dX4_pass_63 (by decide) (fun zc63 => ?_) (fun zc63 => ?_)
              · skip
                refine z_aload_n hx dX4_pass_77 rfl ?_
                refine z_get hx dX4_pass_78 fX4_15 rfl rfl ?_
                refine z_iload_n hx dX4_pass_81 rfl ?_
                refine z_ialdJ hx dX4_pass_82 rfl (by decide) (by omega) ?_
                refine z_topN (b := lA L q) (zPa_self L wk q) ?_
                refine z_iconst (v := nI 1) hx dX4_pass_83 (by decide) ?_
                first | refine z_isubN hx dX4_pass_84 (by omega) ?_ | refine z_isub hx dX4_pass_84 ?_
                refine z_callvvF hx (qX4_moveTo (zPq L wk q) (zCn L (lP L)) (zHs L 0) q _ (by omega)) dX4_pass_85 sX4_90 rfl rfl rfl rfl (Nat.le_of_ble_eq_true rfl) rfl (Nat.le_of_ble_eq_true rfl) (by decide) ?_
                refine z_goto (tgt := 110) hx dX4_pass_88 (by decide) ?_
                first | refine z_iincN (z := 1) hx dX4_pass_110 rfl rfl ?_ | refine z_iinc hx dX4_pass_110 rfl rfl rfl ?_
                refine z_goto (tgt := 8) hx dX4_pass_113 (by decide) ?_
                first
                | exact z_heap (show _ = hLc (zPq L wk (q + 1)) (zCn L (lP L)) (zHs L 0) by rw [← zPq_mv (v := lA L q + 1) ⟨zc28, Or.inl (hte.mp zc38)⟩ (by rw [if_pos (by omega)])]; try rfl) (ih _ (by omega) (q + 1) rfl (by omega))
                | exact z_heap (show _ = hLc (zPq L wk (q + 1)) (zCn L (lP L)) (zHs L 0) by rw [← zPq_mv (v := lA L q - 1) ⟨zc28, Or.inl (hte.mp zc38)⟩ (by rw [if_neg (by omega)])]; try rfl) (ih _ (by omega) (q + 1) rfl (by omega))
                | exact z_heap (show _ = hLc (zPq L wk (q + 1)) (zCn L (lP L)) (zHs L 0) by rw [← zPq_mv (v := lA L q + 1) ⟨zc28, Or.inr zc46⟩ (by rw [if_pos (by omega)])]; try rfl) (ih _ (by omega) (q + 1) rfl (by omega))
                | exact z_heap (show _ = hLc (zPq L wk (q + 1)) (zCn L (lP L)) (zHs L 0) by rw [← zPq_mv (v := lA L q - 1) ⟨zc28, Or.inr zc46⟩ (by rw [if_neg (by omega)])]; try rfl) (ih _ (by omega) (q + 1) rfl (by omega))
                | exact z_heap (show _ = hLc (zPq L wk (q + 1)) (zCn L (lP L)) (zHs L 0) by rw [← zPq_no (v := if 99 < lT L q + 1 then 99 else lT L q + 1) (fun e => e.1 zc28) (by split <;> split <;> omega)]; try rfl) (ih _ (by omega) (q + 1) rfl (by omega))
                | exact z_heap (show _ = hLc (zPq L wk (q + 1)) (zCn L (lP L)) (zHs L 0) by rw [← zPq_no (v := if 99 < lT L q + 1 then 99 else lT L q + 1) (fun e => e.2.elim (fun e => zc38 (hte.mpr e)) zc46) (by split <;> split <;> omega)]; try rfl) (ih _ (by omega) (q + 1) rfl (by omega))
              · skip
                refine z_aload_n hx dX4_pass_66 rfl ?_
                refine z_get hx dX4_pass_67 fX4_15 rfl rfl ?_
                refine z_iload_n hx dX4_pass_70 rfl ?_
                refine z_ialdJ hx dX4_pass_71 rfl (by decide) (by omega) ?_
                refine z_topN (b := lA L q) (zPa_self L wk q) ?_
                refine z_iconst (v := nI 1) hx dX4_pass_72 (by decide) ?_
                first | refine z_iaddN hx dX4_pass_73 ?_ | refine z_iadd hx dX4_pass_73 ?_
                refine z_goto (tgt := 85) hx dX4_pass_74 (by decide) ?_
                refine z_callvvF hx (qX4_moveTo (zPq L wk q) (zCn L (lP L)) (zHs L 0) q _ (by omega)) dX4_pass_85 sX4_90 rfl rfl rfl rfl (Nat.le_of_ble_eq_true rfl) rfl (Nat.le_of_ble_eq_true rfl) (by decide) ?_
                refine z_goto (tgt := 110) hx dX4_pass_88 (by decide) ?_
                first | refine z_iincN (z := 1) hx dX4_pass_110 rfl rfl ?_ | refine z_iinc hx dX4_pass_110 rfl rfl rfl ?_
                refine z_goto (tgt := 8) hx dX4_pass_113 (by decide) ?_
                first
                | exact z_heap (show _ = hLc (zPq L wk (q + 1)) (zCn L (lP L)) (zHs L 0) by rw [← zPq_mv (v := lA L q + 1) ⟨zc28, Or.inl (hte.mp zc38)⟩ (by rw [if_pos (by omega)])]; try rfl) (ih _ (by omega) (q + 1) rfl (by omega))
                | exact z_heap (show _ = hLc (zPq L wk (q + 1)) (zCn L (lP L)) (zHs L 0) by rw [← zPq_mv (v := lA L q - 1) ⟨zc28, Or.inl (hte.mp zc38)⟩ (by rw [if_neg (by omega)])]; try rfl) (ih _ (by omega) (q + 1) rfl (by omega))
                | exact z_heap (show _ = hLc (zPq L wk (q + 1)) (zCn L (lP L)) (zHs L 0) by rw [← zPq_mv (v := lA L q + 1) ⟨zc28, Or.inr zc46⟩ (by rw [if_pos (by omega)])]; try rfl) (ih _ (by omega) (q + 1) rfl (by omega))
                | exact z_heap (show _ = hLc (zPq L wk (q + 1)) (zCn L (lP L)) (zHs L 0) by rw [← zPq_mv (v := lA L q - 1) ⟨zc28, Or.inr zc46⟩ (by rw [if_neg (by omega)])]; try rfl) (ih _ (by omega) (q + 1) rfl (by omega))
                | exact z_heap (show _ = hLc (zPq L wk (q + 1)) (zCn L (lP L)) (zHs L 0) by rw [← zPq_no (v := if 99 < lT L q + 1 then 99 else lT L q + 1) (fun e => e.1 zc28) (by split <;> split <;> omega)]; try rfl) (ih _ (by omega) (q + 1) rfl (by omega))
                | exact z_heap (show _ = hLc (zPq L wk (q + 1)) (zCn L (lP L)) (zHs L 0) by rw [← zPq_no (v := if 99 < lT L q + 1 then 99 else lT L q + 1) (fun e => e.2.elim (fun e => zc38 (hte.mpr e)) zc46) (by split <;> split <;> omega)]; try rfl) (ih _ (by omega) (q + 1) rfl (by omega))
  refine z_aload_n hx dX4_pass_0 rfl ?_
  refine z_iconst (v := nI 0) hx dX4_pass_1 (by decide) ?_
  refine z_callivF hx (qX4_tramWithout L cr ho hw 0 (by omega)) dX4_pass_2 sX4_83 rfl rfl rfl rfl (Nat.le_of_ble_eq_true rfl) rfl (Nat.le_of_ble_eq_true rfl) (by decide) ?_
  refine z_istore_n hx dX4_pass_5 (Nat.le_of_ble_eq_true rfl) rfl ?_
  refine z_iconst (v := nI 0) hx dX4_pass_6 (by decide) ?_
  refine z_istore_n hx dX4_pass_7 (Nat.le_of_ble_eq_true rfl) rfl ?_
  exact z_heap (show _ = hLc (zPq L wk 0) (zCn L (lP L)) (zHs L 0) by rw [zPq_0]) (loop8 _ 0 rfl (by omega))

theorem zWfq {L : zL} (hw : zWf L) (wk q : Nat) : zWf (zPq L wk q) := by
  obtain ⟨w1, w2, w3, w4, w5⟩ := hw
  refine ⟨w1, w2, w3, w4, fun p hp => ?_⟩
  have w6 := w5 p hp
  have h1 : lA (zPq L wk q) p < lS L := by
    show zPa L wk q p < lS L
    unfold zPa
    by_cases c : p < q ∧ zMv1 L wk p
    · rw [zIf_t c]
      have := c.2.1
      split <;> omega
    · rw [zIf_f c]; exact w6.2.2.1
  have h2 : lT (zPq L wk q) p ≤ 99 := by
    show zPt L wk q p ≤ 99
    unfold zPt
    split
    · by_cases c : zMv1 L wk p
      · rw [zIf_t c]; omega
      · rw [zIf_f c]; split <;> omega
    · exact w6.2.2.2.2.2
  exact ⟨w6.1, w6.2.1, h1, w6.2.2.2.1, w6.2.2.2.2.1, h2⟩
theorem zWf_ps {L : zL} (hw : zWf L) (hm : lM L < 2000) (wk : Nat) : zWf (zPs L wk) := by
  obtain ⟨w1, w2, w3, w4, w5⟩ := zWfq hw wk (lP L)
  exact ⟨w1, w2, w3, hm, w5⟩
theorem zIt_P (L : zL) (wk : Nat) : ∀ d, lP (zIt L wk d) = lP L ∧ lS (zIt L wk d) = lS L ∧ lB (zIt L wk d) = lB L ∧ lM (zIt L wk d) = lM L + d ∧ lW (zIt L wk d) = lW L ∧ lF (zIt L wk d) = lF L ∧ lK (zIt L wk d) = lK L
  | 0 => ⟨rfl, rfl, rfl, rfl, rfl, rfl, rfl⟩
  | d + 1 => by
    obtain ⟨h1, h2, h3, h4, h5, h6, h7⟩ := zIt_P L wk d
    refine ⟨h1, h2, h3, ?_, h5, h6, h7⟩
    show lM (zIt L wk d) + 1 = _
    rw [h4]
    omega
theorem zWf_it {L : zL} (hw : zWf L) (wk : Nat) : ∀ d, lM L + d ≤ 2000 → zWf (zIt L wk d)
  | 0, _ => hw
  | d + 1, h => by
    have h1 := zWf_it hw wk d (by omega)
    exact zWf_ps h1 (by rw [(zIt_P L wk d).2.2.2.1]; omega) wk
/-- the first of d, d + 1 .. d + n with a property -/
noncomputable def zFs (c : Nat → Prop) (d : Nat) : Nat → Option Nat
  | 0 => @ite _ (c d) (Classical.propDecidable _) (some d) none
  | n + 1 => @ite _ (c d) (Classical.propDecidable _) (some d) (zFs c (d + 1) n)
theorem zFs_t {c : Nat → Prop} {d n : Nat} (h : c d) : zFs c d n = some d := by cases n <;> (unfold zFs; rw [if_pos h])
theorem zFs_f {c : Nat → Prop} {d n : Nat} (h : ¬ c d) : zFs c d (n + 1) = zFs c (d + 1) n := by rw [zFs, if_neg h]
theorem zFs_0 {c : Nat → Prop} {d : Nat} (h : ¬ c d) : zFs c d 0 = none := by rw [zFs, if_neg h]
/-- all of some people are there behind d minutes -/
def zAl (L : zL) (wk pp : Nat) (d : Nat) : Prop := zTh (zIt L wk d) (lP L) &&& pp = pp
