set_option maxHeartbeats 4000000 in
set_option maxRecDepth 100000 in
theorem qX11_isRow (v : Int32) : zMi mX11_isRow 1 ([.int v]) ([]) (fun z u => z = bP (∃ j, 0 ≤ j ∧ j ≤ 7 ∧ v = nI j) ∧ u = []) := by
  refine zMi.of (by decide) (Nat.le_of_ble_eq_true rfl) (fun x hx hF => ?_)
  refine z_iload_n hx dX11_isRow_0 rfl ?_
  refine z_iconst (v := nI 0) hx dX11_isRow_1 (by decide) ?_
  refine z_bipush (v := nI 7) hx dX11_isRow_2 (by decide) ?_
  refine z_callisP hx [] (qX11_isWithinN _ _ _ (by decide)) dX11_isRow_4 sX11_74 rfl rfl rfl (by decide) (by decide) rfl (Nat.le_of_ble_eq_true rfl) (by decide) ?_
  exact z_zret hx hF dX11_isRow_7 rfl (by first | exact bP_nar _ | rfl) rfl ⟨rfl, rfl⟩

set_option maxHeartbeats 4000000 in
set_option maxRecDepth 100000 in
theorem qX11_hasLine (r : zRw) (t : zTp) (p : zLk) (i : zLk × zLk) (y : zPy) (a : zAs) (f : Nat × Nat) (L : zL) (cr ho : Nat → Nat) (hw : zWf L) : zMi mX11_hasLine 1 ([.ref 0]) (hC (r, t, (L, cr, ho), p, i, y, a, f)) (fun z u => z = bP (0 < lS L) ∧ u = hC (r, t, (L, cr, ho), p, i, y, a, f)) := by
  refine zMi.of (by decide) (Nat.le_of_ble_eq_true rfl) (fun x hx hF => ?_)
  obtain ⟨w1, w2, w3, w4, w5⟩ := id hw
  refine z_aload_n hx dX11_hasLine_0 rfl ?_
  refine z_get hx dX11_hasLine_1 fX11_45 hC_0 rfl ?_
  refine z_get hx dX11_hasLine_4 fX11_219 hC_15 rfl ?_
  first | refine z_if_leN (tgt := 14) hx dX11_hasLine_7 (by decide) (by omega) (fun zc7 => ?_) (fun zc7 => ?_) | refine z_if_le (tgt := 14) hx dX11_hasLine_7 (by decide) (fun zc7 => ?_) (fun zc7 => ?_)
  · skip
    refine z_iconst (v := nI 0) hx dX11_hasLine_14 (by decide) ?_
    exact z_zret hx hF dX11_hasLine_15 rfl (by first | exact bP_nar _ | rfl) rfl ⟨by first | exact (bP_t (by omega)).symm | exact (bP_f (by omega)).symm, rfl⟩
  · skip
    refine z_iconst (v := nI 1) hx dX11_hasLine_10 (by decide) ?_
    refine z_goto (tgt := 15) hx dX11_hasLine_11 (by decide) ?_
    exact z_zret hx hF dX11_hasLine_15 rfl (by first | exact bP_nar _ | rfl) rfl ⟨by first | exact (bP_t (by omega)).symm | exact (bP_f (by omega)).symm, rfl⟩

set_option maxHeartbeats 4000000 in
set_option maxRecDepth 100000 in
theorem qX11_isPerson (r : zRw) (t : zTp) (p : zLk) (i : zLk × zLk) (y : zPy) (a : zAs) (f : Nat × Nat) (L : zL) (cr ho : Nat → Nat) (hw : zWf L) (v : Int32) : zMi mX11_isPerson 1 ([.ref 0, .int v]) (hC (r, t, (L, cr, ho), p, i, y, a, f)) (fun z u => z = bP (∃ j, j < lP L ∧ v = nI j) ∧ u = hC (r, t, (L, cr, ho), p, i, y, a, f)) := by
  refine zMi.of (by decide) (Nat.le_of_ble_eq_true rfl) (fun x hx hF => ?_)
  obtain ⟨w1, w2, w3, w4, w5⟩ := id hw
  refine z_iload_n hx dX11_isPerson_0 rfl ?_
  refine z_iconst (v := nI 0) hx dX11_isPerson_1 (by decide) ?_
  refine z_aload_n hx dX11_isPerson_2 rfl ?_
  refine z_get hx dX11_isPerson_3 fX11_45 hC_0 rfl ?_
  refine z_get hx dX11_isPerson_6 fX11_140 hC_15 rfl ?_
  refine z_iconst (v := nI 1) hx dX11_isPerson_9 (by decide) ?_
  refine z_isub hx dX11_isPerson_10 ?_
  refine z_callisP hx [] (qX11_isWithinP _ _ (by omega)) dX11_isPerson_11 sX11_74 rfl rfl rfl (by decide) (by decide) rfl (Nat.le_of_ble_eq_true rfl) (by decide) ?_
  exact z_zret hx hF dX11_isPerson_14 rfl (by first | exact bP_nar _ | rfl) rfl ⟨rfl, rfl⟩

set_option maxHeartbeats 4000000 in
set_option maxRecDepth 100000 in
theorem qX11_isStop (r : zRw) (t : zTp) (p : zLk) (i : zLk × zLk) (y : zPy) (a : zAs) (f : Nat × Nat) (L : zL) (cr ho : Nat → Nat) (hw : zWf L) (v : Int32) : zMi mX11_isStop 1 ([.ref 0, .int v]) (hC (r, t, (L, cr, ho), p, i, y, a, f)) (fun z u => z = bP (∃ j, j < lS L ∧ v = nI j) ∧ u = hC (r, t, (L, cr, ho), p, i, y, a, f)) := by
  refine zMi.of (by decide) (Nat.le_of_ble_eq_true rfl) (fun x hx hF => ?_)
  obtain ⟨w1, w2, w3, w4, w5⟩ := id hw
  refine z_iload_n hx dX11_isStop_0 rfl ?_
  refine z_iconst (v := nI 0) hx dX11_isStop_1 (by decide) ?_
  refine z_aload_n hx dX11_isStop_2 rfl ?_
  refine z_get hx dX11_isStop_3 fX11_45 hC_0 rfl ?_
  refine z_get hx dX11_isStop_6 fX11_219 hC_15 rfl ?_
  refine z_iconst (v := nI 1) hx dX11_isStop_9 (by decide) ?_
  refine z_isub hx dX11_isStop_10 ?_
  refine z_callisP hx [] (qX11_isWithinP _ _ (by omega)) dX11_isStop_11 sX11_74 rfl rfl rfl (by decide) (by decide) rfl (Nat.le_of_ble_eq_true rfl) (by decide) ?_
  exact z_zret hx hF dX11_isStop_14 rfl (by first | exact bP_nar _ | rfl) rfl ⟨rfl, rfl⟩

set_option maxHeartbeats 4000000 in
set_option maxRecDepth 100000 in
theorem qX11_found (r : zRw) (t : zTp) (l : zLk) (p : zLk) (i : zLk × zLk) (y : zPy) (a : zAs) (f1 f2 v : Nat) (hv : v < 10) : zMi mX11_found 0 ([.ref 0, .int (nI v)]) (hC (r, t, l, p, i, y, a, (f1, f2))) (fun z u => z = -1000010 - nI v ∧ u = hC (r, t, l, p, i, y, a, (f1, v))) := by
  refine zMi.of (by decide) (Nat.le_of_ble_eq_true rfl) (fun x hx hF => ?_)
  refine z_aload_n hx dX11_found_0 rfl ?_
  refine z_iload_n hx dX11_found_1 rfl ?_
  refine z_puti hx dX11_found_2 pX11_283 rfl (Nat.le_of_ble_eq_true rfl) ?_
  refine z_heap hS_0_b ?_
  refine z_ldcw hx dX11_found_5 kX11_286 ?_
  refine z_iload_n hx dX11_found_8 rfl ?_
  refine z_isub hx dX11_found_9 ?_
  exact z_iret hx hF dX11_found_10 rfl rfl ⟨rfl, rfl⟩

set_option maxHeartbeats 4000000 in
set_option maxRecDepth 100000 in
theorem qX11_foundNothing (r : zRw) (t : zTp) (l : zLk) (p : zLk) (i : zLk × zLk) (y : zPy) (a : zAs) (f1 f2 : Nat) (v : Int32) : zMi mX11_foundNothing 0 ([.ref 0, .int v]) (hC (r, t, l, p, i, y, a, (f1, f2))) (fun z u => z = v ∧ u = hC (r, t, l, p, i, y, a, (f1, 0))) := by
  refine zMi.of (by decide) (Nat.le_of_ble_eq_true rfl) (fun x hx hF => ?_)
  refine z_aload_n hx dX11_foundNothing_0 rfl ?_
  refine z_iconst (v := nI 0) hx dX11_foundNothing_1 (by decide) ?_
  refine z_puti hx dX11_foundNothing_2 pX11_283 rfl (Nat.le_of_ble_eq_true rfl) ?_
  refine z_heap hS_0_b ?_
  refine z_iload_n hx dX11_foundNothing_5 rfl ?_
  exact z_iret hx hF dX11_foundNothing_6 rfl rfl ⟨rfl, rfl⟩

set_option maxHeartbeats 4000000 in
set_option maxRecDepth 100000 in
theorem qX11_playFor (r : zRw) (t : zTp) (i : zLk × zLk) (y : zPy) (a : zAs) (f : Nat × Nat) (L : zL) (cr ho : Nat → Nat) (P : zL) (pr po : Nat → Nat) (hw : zWf L) (hm : lM L ≤ 1000) (e : Nat) (he : e ≤ 60) : zMv mX11_playFor 5 ([.ref 0, .int (nI e)]) (hC (r, t, (L, cr, ho), (P, pr, po), i, y, a, f)) (fun u => ∃ pr po, u = hC (r, t, (L, cr, ho), (zIt L 0 e, pr, po), i, y, a, f)) := by
  refine zMv.of (by decide) (Nat.le_of_ble_eq_true rfl) (fun x hx hF => ?_)
  have loop13 : ∀ (n13 : Nat) (d : Nat) (pr po : Nat → Nat), e - d = n13 → d ≤ e → zV x 13 [some (.ref 0), some (.int (nI e)), some (.int (nI d))] ([]) (hC (r, t, (L, cr, ho), (zIt L 0 d, pr, po), i, y, a, f)) := by
    intro n13
    induction n13 using Nat.strongRecOn with
    | ind n13 ih =>
      intro d pr po hn hd
      refine z_iload_n hx dX11_playFor_13 rfl ?_
      refine z_iload_n hx dX11_playFor_14 rfl ?_
      first | refine z_icmp_geN (tgt := 33) hx dX11_playFor_15 (by decide) (by omega) (by omega) (fun zc15 => ?_) (fun zc15 => ?_) | refine z_icmp_ge (tgt := 33) hx dX11_playFor_15 (by decide) (fun zc15 => ?_) (fun zc15 => ?_)
      · skip
        exact z_vret hx hF dX11_playFor_33 rfl rfl ⟨pr, po, by rw [show d = e by omega]⟩
      · skip
        have w := zWf_it hw 0 d (by omega)
        refine z_aload_n hx dX11_playFor_18 rfl ?_
        refine z_get hx dX11_playFor_19 fX11_49 hC_0 rfl ?_
        refine z_iconst (v := nI 0) hx dX11_playFor_22 (by decide) ?_
        refine z_callivE hx gPl (qX4_pass (zIt L 0 d) pr po (w) 0 (by omega)) dX11_playFor_23 sX11_154 rfl rfl (sub_Pl _ _ _ _ _ _ _ _ _ _) rfl rfl (by decide) (by decide) rfl (Nat.le_of_ble_eq_true rfl) (by decide) ?_
        refine z_heap (pt_Pl _ _ _ _ _ _ _ _ _ _ _) ?_
        refine z_pop hx dX11_playFor_26 rfl ?_
        first | refine z_iincN (z := 1) hx dX11_playFor_27 rfl rfl ?_ | refine z_iinc hx dX11_playFor_27 rfl rfl rfl ?_
        refine z_goto (tgt := 13) hx dX11_playFor_30 (by decide) ?_
        exact ih _ (by omega) (d + 1) _ _ rfl (by omega)
  refine z_aload_n hx dX11_playFor_0 rfl ?_
  refine z_get hx dX11_playFor_1 fX11_49 hC_0 rfl ?_
  refine z_aload_n hx dX11_playFor_4 rfl ?_
  refine z_get hx dX11_playFor_5 fX11_45 hC_0 rfl ?_
  refine z_callvvE hx gPL (qX4_become P pr po L cr ho) dX11_playFor_8 sX11_133 rfl rfl sub_PL rfl rfl (by decide) (by decide) rfl (Nat.le_of_ble_eq_true rfl) (by decide) ?_
  refine z_heap pt_PL ?_
  refine z_iconst (v := nI 0) hx dX11_playFor_11 (by decide) ?_
  refine z_istore_n hx dX11_playFor_12 (Nat.le_of_ble_eq_true rfl) rfl ?_
  exact loop13 _ 0 pr po rfl (by omega)

set_option maxHeartbeats 4000000 in
set_option maxRecDepth 100000 in
theorem qX11_playTill (r : zRw) (t : zTp) (l : zLk) (i : zLk × zLk) (y : zPy) (a : zAs) (f : Nat × Nat) (P : zL) (pr po : Nat → Nat) (hw : zWf P) (hm : lM P ≤ 1000) (pp wk e : Nat) (hp : pp < 64) (hk : wk < 64) (he : e ≤ 60) : zMi mX11_playTill 5 ([.ref 0, .int (nI pp), .int (nI wk), .int (nI e)]) (hC (r, t, l, (P, pr, po), i, y, a, f)) (fun z u => z = tN (zFs (zAl P wk pp) 0 e) ∧ ∃ p, u = hC (r, t, l, p, i, y, a, f)) := by
  refine zMi.of (by decide) (Nat.le_of_ble_eq_true rfl) (fun x hx hF => ?_)
  have loop3 : ∀ (n3 : Nat) (d : Nat) (pr po : Nat → Nat), e - d = n3 → d ≤ e → zFs (zAl P wk pp) d (e - d) = zFs (zAl P wk pp) 0 e → zV x 3 [some (.ref 0), some (.int (nI pp)), some (.int (nI wk)), some (.int (nI e)), some (.int (nI d))] ([]) (hC (r, t, l, (zIt P wk d, pr, po), i, y, a, f)) := by
    intro n3
    induction n3 using Nat.strongRecOn with
    | ind n3 ih =>
      intro d pr po hn hd hf
      have w := zWf_it hw wk d (by omega)
      have q := zIt_P P wk d
      have b1 := zTh_lt (zIt P wk d) (lP (zIt P wk d))
      have b2 : 2 ^ lP (zIt P wk d) ≤ 2 ^ 6 := Nat.pow_le_pow_right (by decide) w.2.2.1
      have b3 : zTh (zIt P wk d) (lP (zIt P wk d)) &&& pp ≤ pp := Nat.and_le_right
      have b4 : zAl P wk pp d ↔ zTh (zIt P wk d) (lP (zIt P wk d)) &&& pp = pp := by unfold zAl; rw [q.1]
      refine z_iload hx dX11_playTill_3 rfl ?_
      refine z_iload_n hx dX11_playTill_5 rfl ?_
      first | refine z_icmp_geN (tgt := 40) hx dX11_playTill_6 (by decide) (by omega) (by omega) (fun zc6 => ?_) (fun zc6 => ?_) | refine z_icmp_ge (tgt := 40) hx dX11_playTill_6 (by decide) (fun zc6 => ?_) (fun zc6 => ?_)
      · skip
        refine z_aload_n hx dX11_playTill_40 rfl ?_
        refine z_get hx dX11_playTill_41 fX11_49 hC_0 rfl ?_
        refine z_callivP hx gPl (qX4_thereBits _ _ _ w) dX11_playTill_44 sX11_157 rfl rfl (sub_Pl _ _ _ _ _ _ _ _ _ _) rfl rfl (by decide) (by decide) rfl (Nat.le_of_ble_eq_true rfl) (by decide) ?_
        refine z_iload_n hx dX11_playTill_47 rfl ?_
        first | refine z_iandN hx dX11_playTill_48 ?_ | refine z_iand hx dX11_playTill_48 ?_
        refine z_iload_n hx dX11_playTill_49 rfl ?_
        first | refine z_icmp_neN (tgt := 57) hx dX11_playTill_50 (by decide) (by omega) (by omega) (fun zc50 => ?_) (fun zc50 => ?_) | refine z_icmp_ne (tgt := 57) hx dX11_playTill_50 (by decide) (fun zc50 => ?_) (fun zc50 => ?_)
        · skip
          refine z_ldc hx dX11_playTill_57 kX11_205 ?_
          exact z_iret hx hF dX11_playTill_59 rfl rfl ⟨by rw [← hf]; first | (rw [zFs_t (b4.mpr zc19)]; rfl) | (rw [zFs_t (b4.mpr zc50), show d = e by omega]; rfl) | (rw [show e - d = 0 by omega, zFs_0 (fun z => zc50 (b4.mp z))]; rfl), _, rfl⟩
        · skip
          refine z_iload_n hx dX11_playTill_53 rfl ?_
          refine z_goto (tgt := 59) hx dX11_playTill_54 (by decide) ?_
          exact z_iret hx hF dX11_playTill_59 rfl rfl ⟨by rw [← hf]; first | (rw [zFs_t (b4.mpr zc19)]; rfl) | (rw [zFs_t (b4.mpr zc50), show d = e by omega]; rfl) | (rw [show e - d = 0 by omega, zFs_0 (fun z => zc50 (b4.mp z))]; rfl), _, rfl⟩
      · skip
        refine z_aload_n hx dX11_playTill_9 rfl ?_
        refine z_get hx dX11_playTill_10 fX11_49 hC_0 rfl ?_
        refine z_callivP hx gPl (qX4_thereBits _ _ _ w) dX11_playTill_13 sX11_157 rfl rfl (sub_Pl _ _ _ _ _ _ _ _ _ _) rfl rfl (by decide) (by decide) rfl (Nat.le_of_ble_eq_true rfl) (by decide) ?_
        refine z_iload_n hx dX11_playTill_16 rfl ?_
        first | refine z_iandN hx dX11_playTill_17 ?_ | refine z_iand hx dX11_playTill_17 ?_
        refine z_iload_n hx dX11_playTill_18 rfl ?_
        first | refine z_icmp_neN (tgt := 25) hx dX11_playTill_19 (by decide) (by omega) (by omega) (fun zc19 => ?_) (fun zc19 => ?_) | refine z_icmp_ne (tgt := 25) hx dX11_playTill_19 (by decide) (fun zc19 => ?_) (fun zc19 => ?_)
        · skip
          refine z_aload_n hx dX11_playTill_25 rfl ?_
          refine z_get hx dX11_playTill_26 fX11_49 hC_0 rfl ?_
          refine z_iload_n hx dX11_playTill_29 rfl ?_
          refine z_callivE hx gPl (qX4_pass (zIt P wk d) pr po (w) wk (by omega)) dX11_playTill_30 sX11_154 rfl rfl (sub_Pl _ _ _ _ _ _ _ _ _ _) rfl rfl (by decide) (by decide) rfl (Nat.le_of_ble_eq_true rfl) (by decide) ?_
          refine z_heap (pt_Pl _ _ _ _ _ _ _ _ _ _ _) ?_
          refine z_pop hx dX11_playTill_33 rfl ?_
          first | refine z_iincN (z := 1) hx dX11_playTill_34 rfl rfl ?_ | refine z_iinc hx dX11_playTill_34 rfl rfl rfl ?_
          refine z_goto (tgt := 3) hx dX11_playTill_37 (by decide) ?_
          exact ih _ (by omega) (d + 1) _ _ rfl (by omega) (by rw [← hf, show e - d = (e - (d + 1)) + 1 by omega, zFs_f (fun z => zc19 (b4.mp z))])
        · skip
          refine z_iload hx dX11_playTill_22 rfl ?_
          exact z_iret hx hF dX11_playTill_24 rfl rfl ⟨by rw [← hf]; first | (rw [zFs_t (b4.mpr zc19)]; rfl) | (rw [zFs_t (b4.mpr zc50), show d = e by omega]; rfl) | (rw [show e - d = 0 by omega, zFs_0 (fun z => zc50 (b4.mp z))]; rfl), _, rfl⟩
  refine z_iconst (v := nI 0) hx dX11_playTill_0 (by decide) ?_
  refine z_istore hx dX11_playTill_1 (Nat.le_of_ble_eq_true rfl) rfl ?_
  exact loop3 _ 0 pr po rfl (by omega) rfl

/-- the first of 0 .. n - 1 with a property -/
noncomputable def zFb (c : Nat → Prop) : Nat → Option Nat
  | 0 => none
  | n + 1 => match zFb c n with
    | some j => some j
    | none => @ite _ (c n) (Classical.propDecidable _) (some n) none
theorem zFb_no {c : Nat → Prop} {n : Nat} (h : zFb c n = none) (hc : ¬ c n) : zFb c (n + 1) = none := by
  unfold zFb
  rw [h]
  exact if_neg hc
theorem zFb_yes {c : Nat → Prop} {n : Nat} (h : zFb c n = none) (hc : c n) : ∀ k, zFb c (n + 1 + k) = some n
  | 0 => by
    show zFb c (n + 1) = _
    unfold zFb
    rw [h]
    exact if_pos hc
  | k + 1 => by
    show zFb c (n + 1 + k + 1) = _
    unfold zFb
    rw [zFb_yes h hc k]
theorem zFb_yes2 {c : Nat → Prop} {n m : Nat} (h : zFb c n = none) (hc : c n) (hm : n < m) : zFb c m = some n := by
  have := zFb_yes h hc (m - (n + 1))
  rwa [show n + 1 + (m - (n + 1)) = m by omega] at this
theorem zup_back (f : Nat → Nat) (q v : Nat) : zup (zup f q v) q (f q) = f := by
  funext j
  unfold zup
  split
  · next h => rw [h]
  · rfl
/-- one calls the tram to a stop by some faith more -/
def zCa (L : zL) (k m : Nat) (q : Nat) : Prop := lA L q = k ∧ zTr (lsF L q (lF L q + m)) 0 = some k
theorem zWf_F {L : zL} (hw : zWf L) {q v : Nat} (hv : v ≤ 60) : zWf (lsF L q v) := by
  obtain ⟨w1, w2, w3, w4, w5⟩ := hw
  refine ⟨w1, w2, w3, w4, fun p hp => ?_⟩
  have w6 := w5 p hp
  refine ⟨w6.1, w6.2.1, w6.2.2.1, ?_, w6.2.2.2.2⟩
  show zup (lF L) q v p ≤ 60
  unfold zup
  split <;> omega
theorem lsF_back (L : zL) (q v : Nat) : lsF (lsF L q v) q (lF L q) = L := by
  show (L.1, lK L, lA L, zup (zup (lF L) q v) q (lF L q), lW L, lT L) = L
  rw [zup_back]
  rfl
set_option maxHeartbeats 4000000 in
set_option maxRecDepth 100000 in
theorem qX11_callerBy (r : zRw) (t : zTp) (l : zLk) (i : zLk × zLk) (y : zPy) (a : zAs) (f : Nat × Nat) (P : zL) (pr po : Nat → Nat) (hw : zWf P) (k m : Nat) (hk : k < 8) (hm : m ≤ 40) (hf : ∀ q, q < lP P → lF P q ≤ 20) : zMi mX11_callerBy 4 ([.ref 0, .int (nI k), .int (nI m)]) (hC (r, t, l, (P, pr, po), i, y, a, f)) (fun z u => z = tN (zFb (zCa P k m) (lP P)) ∧ ∃ pr po, u = hC (r, t, l, (P, pr, po), i, y, a, f)) := by
  refine zMi.of (by decide) (Nat.le_of_ble_eq_true rfl) (fun x hx hF => ?_)
  obtain ⟨w1, w2, w3, w4, w5⟩ := id hw
  have loop2 : ∀ (n2 : Nat) (q : Nat) (pr po : Nat → Nat), lP P - q = n2 → q ≤ lP P → zFb (zCa P k m) q = none → zV x 2 [some (.ref 0), some (.int (nI k)), some (.int (nI m)), some (.int (nI q)), none] ([]) (hC (r, t, l, (P, pr, po), i, y, a, f)) := by
    intro n2
    induction n2 using Nat.strongRecOn with
    | ind n2 ih =>
      intro q pr po hn hq hz
      refine z_iload_n hx dX11_callerBy_2 rfl ?_
      refine z_aload_n hx dX11_callerBy_3 rfl ?_
      refine z_get hx dX11_callerBy_4 fX11_49 hC_0 rfl ?_
      refine z_get hx dX11_callerBy_7 fX11_140 hC_23 rfl ?_
      first | refine z_icmp_geN (tgt := 84) hx dX11_callerBy_10 (by decide) (by omega) (by omega) (fun zc10 => ?_) (fun zc10 => ?_) | refine z_icmp_ge (tgt := 84) hx dX11_callerBy_10 (by decide) (fun zc10 => ?_) (fun zc10 => ?_)
      · skip
        refine z_ldc hx dX11_callerBy_84 kX11_205 ?_
        exact z_iret hx hF dX11_callerBy_86 rfl rfl ⟨by first | (exfalso; omega) | (rw [zFb_yes2 hz ⟨zc23, hte.mp zc48.symm⟩ (by omega)]; rfl) | (rw [show lP P = q by omega, hz]; rfl), _, _, rfl⟩
      · skip
        have w6 := w5 q (by omega)
        have w7 := hf q (by omega)
        have hw2 := zWf_F hw (q := q) (v := lF P q + m) (by omega)
        have ht : ∀ j, zTr (lsF P q (lF P q + m)) 0 = some j → j < 1000 := fun j hj => by have h9 := zTr_lt hj; have h8 : lS (lsF P q (lF P q + m)) = lS P := rfl; omega
        have hte := tI_eq (a := k) (by omega) ht
        refine z_aload_n hx dX11_callerBy_13 rfl ?_
        refine z_get hx dX11_callerBy_14 fX11_49 hC_0 rfl ?_
        refine z_get hx dX11_callerBy_17 fX11_164 hC_23 rfl ?_
        refine z_iload_n hx dX11_callerBy_20 rfl ?_
        refine z_ialdJ hx dX11_callerBy_21 hC_25 (by decide) (by omega) ?_
        refine z_iload_n hx dX11_callerBy_22 rfl ?_
        first | refine z_icmp_neN (tgt := 78) hx dX11_callerBy_23 (by decide) (by omega) (by omega) (fun zc23 => ?_) (fun zc23 => ?_) | refine z_icmp_ne (tgt := 78) hx dX11_callerBy_23 (by decide) (fun zc23 => ?_) (fun zc23 => ?_)
        · skip
          first | refine z_iincN (z := 1) hx dX11_callerBy_78 rfl rfl ?_ | refine z_iinc hx dX11_callerBy_78 rfl rfl rfl ?_
          refine z_goto (tgt := 2) hx dX11_callerBy_81 (by decide) ?_
          first | (exfalso; omega) | exact z_kill 4 (ih _ (by omega) (q + 1) _ _ rfl (by omega) (zFb_no hz (by first | exact (fun e => zc23 e.1) | exact (fun e => zc48 (hte.mpr e.2).symm))))
        · skip
          refine z_aload_n hx dX11_callerBy_26 rfl ?_
          refine z_get hx dX11_callerBy_27 fX11_49 hC_0 rfl ?_
          refine z_get hx dX11_callerBy_30 fX11_175 hC_23 rfl ?_
          refine z_iload_n hx dX11_callerBy_33 rfl ?_
          refine z_dup2 hx dX11_callerBy_34 rfl rfl ?_
          refine z_ialdJ hx dX11_callerBy_35 hC_26 (by decide) (by omega) ?_
          refine z_iload_n hx dX11_callerBy_36 rfl ?_
          first | refine z_iaddN hx dX11_callerBy_37 ?_ | refine z_iadd hx dX11_callerBy_37 ?_
          refine z_iastN hx dX11_callerBy_38 hC_26 (by decide) (by omega) ?_
          refine z_heap hS_26 ?_
          refine z_heap (show _ = hC (r, t, l, (lsF P q (lF P q + m), pr, po), i, y, a, f) from rfl) ?_
          refine z_aload_n hx dX11_callerBy_39 rfl ?_
          refine z_get hx dX11_callerBy_40 fX11_49 hC_0 rfl ?_
          refine z_iconst (v := nI 0) hx dX11_callerBy_43 (by decide) ?_
          refine z_callivE hx gPl (qX4_tramWithout (lsF P q (lF P q + m)) pr po (hw2) 0 (by omega)) dX11_callerBy_44 sX11_202 rfl rfl (sub_Pl _ _ _ _ _ _ _ _ _ _) rfl rfl (by decide) (by decide) rfl (Nat.le_of_ble_eq_true rfl) (by decide) ?_
          refine z_heap (pt_Pl _ _ _ _ _ _ _ _ _ _ _) ?_
          refine z_iload_n hx dX11_callerBy_47 rfl ?_
          refine z_icmp_ne (tgt := 55) hx dX11_callerBy_48 (by decide) (fun zc48 => ?_) (fun zc48 => ?_)
          · skip
            refine z_iconst (v := nI 0) hx dX11_callerBy_55 (by decide) ?_
            refine z_istore hx dX11_callerBy_56 (Nat.le_of_ble_eq_true rfl) rfl ?_
            refine z_aload_n hx dX11_callerBy_58 rfl ?_
            refine z_get hx dX11_callerBy_59 fX11_49 hC_0 rfl ?_
            refine z_get hx dX11_callerBy_62 fX11_175 hC_23 rfl ?_
            refine z_iload_n hx dX11_callerBy_65 rfl ?_
            refine z_dup2 hx dX11_callerBy_66 rfl rfl ?_
            skip
            refine z_ialdJ hx dX11_callerBy_67 hC_26 (by decide) (by omega) ?_
            refine z_topN (b := lF P q + m) zup_s ?_
            refine z_iload_n hx dX11_callerBy_68 rfl ?_
            first | refine z_isubN hx dX11_callerBy_69 (by omega) ?_ | refine z_isub hx dX11_callerBy_69 ?_
            refine z_iastN hx dX11_callerBy_70 hC_26 (by decide) (by omega) ?_
            refine z_heap hS_26 ?_
            refine z_heap (show _ = hC (r, t, l, (P, zCn (lsF P q (lF P q + m)) (lP P), zHs (lsF P q (lF P q + m)) 0), i, y, a, f) by rw [show lF P q + m - m = lF P q by omega]; exact congrArg (fun z => hC (r, t, l, (z, zCn (lsF P q (lF P q + m)) (lP P), zHs (lsF P q (lF P q + m)) 0), i, y, a, f)) (lsF_back P q _)) ?_
            refine z_iload hx dX11_callerBy_71 rfl ?_
            first | refine z_if_eqB (tgt := 78) hx dX11_callerBy_73 (by decide) (fun zc73 => ?_) (fun zc73 => ?_) | refine z_if_eqN (tgt := 78) hx dX11_callerBy_73 (by decide) (by omega) (fun zc73 => ?_) (fun zc73 => ?_) | refine z_if_eq (tgt := 78) hx dX11_callerBy_73 (by decide) (fun zc73 => ?_) (fun zc73 => ?_)
            · skip
              first | refine z_iincN (z := 1) hx dX11_callerBy_78 rfl rfl ?_ | refine z_iinc hx dX11_callerBy_78 rfl rfl rfl ?_
              refine z_goto (tgt := 2) hx dX11_callerBy_81 (by decide) ?_
              first | (exfalso; omega) | exact z_kill 4 (ih _ (by omega) (q + 1) _ _ rfl (by omega) (zFb_no hz (by first | exact (fun e => zc23 e.1) | exact (fun e => zc48 (hte.mpr e.2).symm))))
            · skip
              refine z_iload_n hx dX11_callerBy_76 rfl ?_
              exact z_iret hx hF dX11_callerBy_77 rfl rfl ⟨by first | (exfalso; omega) | (rw [zFb_yes2 hz ⟨zc23, hte.mp zc48.symm⟩ (by omega)]; rfl) | (rw [show lP P = q by omega, hz]; rfl), _, _, rfl⟩
          · skip
            refine z_iconst (v := nI 1) hx dX11_callerBy_51 (by decide) ?_
            refine z_goto (tgt := 56) hx dX11_callerBy_52 (by decide) ?_
            refine z_istore hx dX11_callerBy_56 (Nat.le_of_ble_eq_true rfl) rfl ?_
            refine z_aload_n hx dX11_callerBy_58 rfl ?_
            refine z_get hx dX11_callerBy_59 fX11_49 hC_0 rfl ?_
            refine z_get hx dX11_callerBy_62 fX11_175 hC_23 rfl ?_
            refine z_iload_n hx dX11_callerBy_65 rfl ?_
            refine z_dup2 hx dX11_callerBy_66 rfl rfl ?_
            skip
            refine z_ialdJ hx dX11_callerBy_67 hC_26 (by decide) (by omega) ?_
            refine z_topN (b := lF P q + m) zup_s ?_
            refine z_iload_n hx dX11_callerBy_68 rfl ?_
            first | refine z_isubN hx dX11_callerBy_69 (by omega) ?_ | refine z_isub hx dX11_callerBy_69 ?_
            refine z_iastN hx dX11_callerBy_70 hC_26 (by decide) (by omega) ?_
            refine z_heap hS_26 ?_
            refine z_heap (show _ = hC (r, t, l, (P, zCn (lsF P q (lF P q + m)) (lP P), zHs (lsF P q (lF P q + m)) 0), i, y, a, f) by rw [show lF P q + m - m = lF P q by omega]; exact congrArg (fun z => hC (r, t, l, (z, zCn (lsF P q (lF P q + m)) (lP P), zHs (lsF P q (lF P q + m)) 0), i, y, a, f)) (lsF_back P q _)) ?_
            refine z_iload hx dX11_callerBy_71 rfl ?_
            first | refine z_if_eqB (tgt := 78) hx dX11_callerBy_73 (by decide) (fun zc73 => ?_) (fun zc73 => ?_) | refine z_if_eqN (tgt := 78) hx dX11_callerBy_73 (by decide) (by omega) (fun zc73 => ?_) (fun zc73 => ?_) | refine z_if_eq (tgt := 78) hx dX11_callerBy_73 (by decide) (fun zc73 => ?_) (fun zc73 => ?_)
            · skip
              first | refine z_iincN (z := 1) hx dX11_callerBy_78 rfl rfl ?_ | refine z_iinc hx dX11_callerBy_78 rfl rfl rfl ?_
              refine z_goto (tgt := 2) hx dX11_callerBy_81 (by decide) ?_
              first | (exfalso; omega) | exact z_kill 4 (ih _ (by omega) (q + 1) _ _ rfl (by omega) (zFb_no hz (by first | exact (fun e => zc23 e.1) | exact (fun e => zc48 (hte.mpr e.2).symm))))
            · skip
              refine z_iload_n hx dX11_callerBy_76 rfl ?_
              exact z_iret hx hF dX11_callerBy_77 rfl rfl ⟨by first | (exfalso; omega) | (rw [zFb_yes2 hz ⟨zc23, hte.mp zc48.symm⟩ (by omega)]; rfl) | (rw [show lP P = q by omega, hz]; rfl), _, _, rfl⟩
  refine z_iconst (v := nI 0) hx dX11_callerBy_0 (by decide) ?_
  refine z_istore_n hx dX11_callerBy_1 (Nat.le_of_ble_eq_true rfl) rfl ?_
  exact loop2 _ 0 pr po rfl (by omega) rfl

theorem zWf_mv {L : zL} (hw : zWf L) {q k : Nat} (hk : k < lS L) : zWf (lsT (lsA L q k) q 0) := by
  obtain ⟨w1, w2, w3, w4, w5⟩ := hw
  refine ⟨w1, w2, w3, w4, fun p hp => ?_⟩
  have w6 := w5 p hp
  refine ⟨w6.1, w6.2.1, ?_, w6.2.2.2.1, w6.2.2.2.2.1, ?_⟩
  · show zup (lA L) q k p < lS L
    unfold zup
    split
    · exact hk
    · exact w6.2.2.1
  · show zup (lT L) q 0 p ≤ 99
    unfold zup
    split <;> omega
set_option maxHeartbeats 4000000 in
set_option maxRecDepth 100000 in
theorem qX11_soonFrom (r : zRw) (t : zTp) (i : zLk × zLk) (y : zPy) (a : zAs) (f : Nat × Nat) (L : zL) (cr ho : Nat → Nat) (P : zL) (pr po : Nat → Nat) (hw : zWf L) (hm : lM L ≤ 1000) (q k : Nat) (hq : q < lP L) (hk : k < lS L) : zMi mX11_soonFrom 6 ([.ref 0, .int (nI q), .int (nI k)]) (hC (r, t, (L, cr, ho), (P, pr, po), i, y, a, f)) (fun z u => z = tN (zFs (zAl (if k = lA L q then L else lsT (lsA L q k) q 0) 0 (2 ^ q)) 0 60) ∧ ∃ p, u = hC (r, t, (L, cr, ho), p, i, y, a, f)) := by
  refine zMi.of (by decide) (Nat.le_of_ble_eq_true rfl) (fun x hx hF => ?_)
  obtain ⟨w1, w2, w3, w4, w5⟩ := id hw
  have w6 := w5 q hq
  have h2 : 2 ^ q ≤ 2 ^ 5 := Nat.pow_le_pow_right (by decide) (by omega)
  have hw2 : zWf (lsT (lsA L q k) q 0) := zWf_mv hw hk
  have hgen : ∀ P9 : zL, zWf P9 → lM P9 ≤ 1000 → zMi mX11_playTill 5 [.ref 0, .int (nI (2 ^ q)), .int (nI 0), .int (nI 60)] (hC (r, t, (L, cr, ho), (P9, pr, po), i, y, a, f)) (fun z u => z = tN (zFs (zAl P9 0 (2 ^ q)) 0 60) ∧ ∃ p, u = hC (r, t, (L, cr, ho), p, i, y, a, f)) := fun P9 h1 h3 => qX11_playTill r t (L, cr, ho) i y a f P9 pr po h1 h3 (2 ^ q) 0 60 (by omega) (by omega) (by omega)
  refine z_aload_n hx dX11_soonFrom_0 rfl ?_
  refine z_get hx dX11_soonFrom_1 fX11_49 hC_0 rfl ?_
  refine z_aload_n hx dX11_soonFrom_4 rfl ?_
  refine z_get hx dX11_soonFrom_5 fX11_45 hC_0 rfl ?_
  refine z_callvvE hx gPL (qX4_become P pr po L cr ho) dX11_soonFrom_8 sX11_133 rfl rfl sub_PL rfl rfl (by decide) (by decide) rfl (Nat.le_of_ble_eq_true rfl) (by decide) ?_
  refine z_heap pt_PL ?_
  refine z_iload_n hx dX11_soonFrom_11 rfl ?_
  refine z_aload_n hx dX11_soonFrom_12 rfl ?_
  refine z_get hx dX11_soonFrom_13 fX11_45 hC_0 rfl ?_
  refine z_get hx dX11_soonFrom_16 fX11_164 hC_15 rfl ?_
  refine z_iload_n hx dX11_soonFrom_19 rfl ?_
  refine z_ialdJ hx dX11_soonFrom_20 hC_17 (by decide) (by omega) ?_
  first | refine z_icmp_eqN (tgt := 33) hx dX11_soonFrom_21 (by decide) (by omega) (by omega) (fun zc21 => ?_) (fun zc21 => ?_) | refine z_icmp_eq (tgt := 33) hx dX11_soonFrom_21 (by decide) (fun zc21 => ?_) (fun zc21 => ?_)
  · skip
    refine z_aload_n hx dX11_soonFrom_33 rfl ?_
    refine z_iconst (v := nI 1) hx dX11_soonFrom_34 (by decide) ?_
    refine z_iload_n hx dX11_soonFrom_35 rfl ?_
    first | refine z_ishl1 hx dX11_soonFrom_36 (by omega) ?_ | refine z_ishlN hx dX11_soonFrom_36 (by omega) ?_ | refine z_ishl hx dX11_soonFrom_36 ?_
    refine z_iconst (v := nI 0) hx dX11_soonFrom_37 (by decide) ?_
    refine z_bipush (v := nI 60) hx dX11_soonFrom_38 (by decide) ?_
    refine z_callivG hx (hgen _ (by first | exact hw | exact hw2) (by first | exact hm | exact hm)) dX11_soonFrom_40 sX11_206 hC_0 rfl rfl rfl (Nat.le_of_ble_eq_true rfl) rfl (Nat.le_of_ble_eq_true rfl) (by decide) (fun r40 u40 l40 q40 => ?_)
    obtain ⟨rfl, p9, rfl⟩ := q40
    exact z_iret hx hF dX11_soonFrom_43 rfl rfl ⟨by first | rw [if_pos zc21] | rw [if_neg zc21], p9, rfl⟩
  · skip
    refine z_aload_n hx dX11_soonFrom_24 rfl ?_
    refine z_get hx dX11_soonFrom_25 fX11_49 hC_0 rfl ?_
    refine z_iload_n hx dX11_soonFrom_28 rfl ?_
    refine z_iload_n hx dX11_soonFrom_29 rfl ?_
    refine z_callvvE hx gPl (qX4_moveTo L pr po q k (by omega)) dX11_soonFrom_30 sX11_171 rfl rfl (sub_Pl _ _ _ _ _ _ _ _ _ _) rfl rfl (by decide) (by decide) rfl (Nat.le_of_ble_eq_true rfl) (by decide) ?_
    refine z_heap (pt_Pl _ _ _ _ _ _ _ _ _ _ _) ?_
    refine z_aload_n hx dX11_soonFrom_33 rfl ?_
    refine z_iconst (v := nI 1) hx dX11_soonFrom_34 (by decide) ?_
    refine z_iload_n hx dX11_soonFrom_35 rfl ?_
    first | refine z_ishl1 hx dX11_soonFrom_36 (by omega) ?_ | refine z_ishlN hx dX11_soonFrom_36 (by omega) ?_ | refine z_ishl hx dX11_soonFrom_36 ?_
    refine z_iconst (v := nI 0) hx dX11_soonFrom_37 (by decide) ?_
    refine z_bipush (v := nI 60) hx dX11_soonFrom_38 (by decide) ?_
    refine z_callivG hx (hgen _ (by first | exact hw | exact hw2) (by first | exact hm | exact hm)) dX11_soonFrom_40 sX11_206 hC_0 rfl rfl rfl (Nat.le_of_ble_eq_true rfl) rfl (Nat.le_of_ble_eq_true rfl) (by decide) (fun r40 u40 l40 q40 => ?_)
    obtain ⟨rfl, p9, rfl⟩ := q40
    exact z_iret hx hF dX11_soonFrom_43 rfl rfl ⟨by first | rw [if_pos zc21] | rw [if_neg zc21], p9, rfl⟩

/-- it goes so, as a row tells -/
def zTo (L : zL) (g : Nat → Int32) (n : Nat) : Prop := ∀ k, k < n → tI (zTr (zIt L 0 k) 0) = g k
noncomputable def zBi (c : Nat → Prop) : Nat → Nat
  | 0 => 0
  | k + 1 => zBi c k ||| zIf (c k) (2 ^ k) 0
theorem zBi_t {c : Nat → Prop} {k : Nat} (h : c k) : zBi c (k + 1) = zBi c k ||| 2 ^ k := by rw [zBi, zIf_t h]
theorem zBi_f {c : Nat → Prop} {k : Nat} (h : ¬ c k) : zBi c (k + 1) = zBi c k := by rw [zBi, zIf_f h, Nat.or_zero]
