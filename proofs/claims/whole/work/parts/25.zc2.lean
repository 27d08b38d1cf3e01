abbrev gSh : List Nat := [1, 2, 3, 4, 5, 6, 7, 8, 9, 10, 11, 12]
theorem sub_Sh {la : Nat → Nat} {sz : Nat → Option Nat} {it : Nat → Nat → Int32} {t : zTp} {l p : zLk} {i : zLk × zLk} {y : zPy} {a : zAs} {f : Nat × Nat} : zsub (hC ((la, sz, it), t, l, p, i, y, a, f)) gSh (hSh la sz it) := rfl
theorem pt_Sh {r : zRw} {la : Nat → Nat} {sz : Nat → Option Nat} {it : Nat → Nat → Int32} {t : zTp} {l p : zLk} {i : zLk × zLk} {y : zPy} {a : zAs} {f : Nat × Nat} : zpt (hC (r, t, l, p, i, y, a, f)) gSh (hSh la sz it) = hC ((la, sz, it), t, l, p, i, y, a, f) := rfl
theorem zWf_K {L : zL} (hw : zWf L) {q v : Nat} (hv : 1 ≤ v ∧ v ≤ 5) : zWf (lsK L q v) := by
  obtain ⟨w1, w2, w3, w4, w5⟩ := hw
  refine ⟨w1, w2, w3, w4, fun p hp => ?_⟩
  have w6 := w5 p hp
  refine ⟨?_, ?_, w6.2.2⟩
  · show 1 ≤ zup (lK L) q v p
    unfold zup
    split <;> omega
  · show zup (lK L) q v p ≤ 5
    unfold zup
    split <;> omega
theorem zWf_B {L : zL} (hw : zWf L) {v : Nat} (hv : v ≤ 40) : zWf (lsB L v) := ⟨hw.1, hv, hw.2.2.1, hw.2.2.2.1, hw.2.2.2.2⟩
theorem tN_none {x : Option Nat} (h : ∀ n, x = some n → n ≤ 1000) : tN x = -1000000 ↔ x = none := by
  cases x with
  | none => exact ⟨fun _ => rfl, fun _ => rfl⟩
  | some n =>
    have := h n rfl
    constructor
    · intro e
      have h2 := congrArg Int32.toInt e
      have h3 : (tN (some n)).toInt = n := nI_toInt (by omega)
      have h4 : (-1000000 : Int32).toInt = -1000000 := by decide
      omega
    · intro e; cases e
theorem zFs_le {c : Nat → Prop} : ∀ n d j, zFs c d n = some j → j ≤ d + n
  | 0, d, j, h => by
    by_cases hc : c d
    · rw [zFs_t hc] at h; cases h; omega
    · rw [zFs_0 hc] at h; cases h
  | n + 1, d, j, h => by
    by_cases hc : c d
    · rw [zFs_t hc] at h; cases h; omega
    · rw [zFs_f hc] at h
      have := zFs_le n (d + 1) j h
      omega
/-- in how many ways it is just these -/
def zWy (s c : Nat) : Nat → Nat
  | 0 => 1
  | q + 1 => zWy s c q * (if s.testBit q = true then c else 10 - c)
theorem zgcd_step {g l : Nat} (h0 : 0 < l) (h : l ≤ g) : Nat.gcd l (g % l) = Nat.gcd g l ∧ 2 * (g % l) ≤ g ∧ g % l ≤ l := by
  refine ⟨?_, ?_, Nat.le_of_lt (Nat.mod_lt _ h0)⟩
  · rw [Nat.gcd_comm g l, Nat.gcd_rec l g, Nat.gcd_comm]
  · have h1 := Nat.div_add_mod g l
    have h2 : 1 ≤ g / l := (Nat.one_le_div_iff h0).mpr h
    have h3 := Nat.mod_lt g h0
    have h4 : l * 1 ≤ l * (g / l) := Nat.mul_le_mul_left l h2
    omega
theorem z_topL {x : zC} {pc : Nat} {lv : List (Option Value)} {st : List Value} {h : List zE} {a : Int64} (b : Int64) (e : a = b) (k : zV x pc lv (.long b :: st) h) : zV x pc lv (.long a :: st) h := by subst e; exact k
theorem lN_ne0 {a : Nat} (h : 0 < a) (h2 : a < 2147483648) : ¬ lN a = 0 := fun e => by
  have := (lN_eq (a := a) (b := 0) (by omega) (by omega)).mp e
  omega
set_option maxHeartbeats 4000000 in
set_option maxRecDepth 100000 in
theorem qX11_playIsAsTold (la : Nat → Nat) (sz : Nat → Option Nat) (it : Nat → Nat → Int32) (t : zTp) (l : zLk) (i : zLk × zLk) (y : zPy) (a : zAs) (f : Nat × Nat) (P : zL) (pr po : Nat → Nat) (hw : zWf P) (hm : lM P ≤ 1000) (j k n : Nat) (hj : j < 8) (hk : k + n ≤ 40) : zMi mX11_playIsAsTold 5 ([.ref 0, .int (nI j), .int (nI k), .int (nI n)]) (hC ((la, sz, it), t, l, (P, pr, po), i, y, a, f)) (fun z u => z = bP (zTo P (fun d => it j (k + d)) n) ∧ ∃ p, u = hC ((la, sz, it), t, l, p, i, y, a, f)) := by
  refine zMi.of (by decide) (Nat.le_of_ble_eq_true rfl) (fun x hx hF => ?_)
  have loop3 : ∀ (n3 : Nat) (d : Nat) (pr po : Nat → Nat), n - d = n3 → d ≤ n → (∀ e, e < d → tI (zTr (zIt P 0 e) 0) = it j (k + e)) → zV x 3 [some (.ref 0), some (.int (nI j)), some (.int (nI k)), some (.int (nI n)), some (.int (nI d))] ([]) (hC ((la, sz, it), t, l, (zIt P 0 d, pr, po), i, y, a, f)) := by
    intro n3
    induction n3 using Nat.strongRecOn with
    | ind n3 ih =>
      intro d pr po hn hd hz
      refine z_iload hx dX11_playIsAsTold_3 rfl ?_
      refine z_iload_n hx dX11_playIsAsTold_5 rfl ?_
      first | refine z_icmp_geN (tgt := 40) hx dX11_playIsAsTold_6 (by decide) (by omega) (by omega) (fun zc6 => ?_) (fun zc6 => ?_) | refine z_icmp_ge (tgt := 40) hx dX11_playIsAsTold_6 (by decide) (fun zc6 => ?_) (fun zc6 => ?_)
      · skip
        refine z_iconst (v := nI 1) hx dX11_playIsAsTold_40 (by decide) ?_
        exact z_zret hx hF dX11_playIsAsTold_41 rfl (by first | exact bP_nar _ | rfl) rfl ⟨by first | exact (bP_t (by rw [show n = d by omega]; exact hz)).symm | exact (bP_f (fun e => zc29 (e d (by omega)))).symm, _, rfl⟩
      · skip
        have w := zWf_it hw 0 d (by omega)
        refine z_aload_n hx dX11_playIsAsTold_9 rfl ?_
        refine z_get hx dX11_playIsAsTold_10 fX11_49 hC_0 rfl ?_
        refine z_iconst (v := nI 0) hx dX11_playIsAsTold_13 (by decide) ?_
        refine z_callivE hx gPl (qX4_pass (zIt P 0 d) pr po (w) 0 (by omega)) dX11_playIsAsTold_14 sX11_154 rfl rfl (sub_Pl _ _ _ _ _ _ _ _ _ _) rfl rfl (by decide) (by decide) rfl (Nat.le_of_ble_eq_true rfl) (by decide) ?_
        refine z_heap (pt_Pl _ _ _ _ _ _ _ _ _ _ _) ?_
        refine z_aload_n hx dX11_playIsAsTold_17 rfl ?_
        refine z_get hx dX11_playIsAsTold_18 fX11_27 hC_0 rfl ?_
        refine z_iload_n hx dX11_playIsAsTold_21 rfl ?_
        refine z_iload_n hx dX11_playIsAsTold_22 rfl ?_
        refine z_iload hx dX11_playIsAsTold_23 rfl ?_
        first | refine z_iaddN hx dX11_playIsAsTold_25 ?_ | refine z_iadd hx dX11_playIsAsTold_25 ?_
        refine z_callivP hx gSh (qX8_itemAt la sz it j (k + d) (by omega) (by omega)) dX11_playIsAsTold_26 sX11_295 rfl rfl sub_Sh rfl rfl (by decide) (by decide) rfl (Nat.le_of_ble_eq_true rfl) (by decide) ?_
        refine z_icmp_eq (tgt := 34) hx dX11_playIsAsTold_29 (by decide) (fun zc29 => ?_) (fun zc29 => ?_)
        · skip
          first | refine z_iincN (z := 1) hx dX11_playIsAsTold_34 rfl rfl ?_ | refine z_iinc hx dX11_playIsAsTold_34 rfl rfl rfl ?_
          refine z_goto (tgt := 3) hx dX11_playIsAsTold_37 (by decide) ?_
          exact ih _ (by omega) (d + 1) _ _ rfl (by omega) (lt_s hz zc29)
        · skip
          refine z_iconst (v := nI 0) hx dX11_playIsAsTold_32 (by decide) ?_
          exact z_zret hx hF dX11_playIsAsTold_33 rfl (by first | exact bP_nar _ | rfl) rfl ⟨by first | exact (bP_t (by rw [show n = d by omega]; exact hz)).symm | exact (bP_f (fun e => zc29 (e d (by omega)))).symm, _, rfl⟩
  refine z_iconst (v := nI 0) hx dX11_playIsAsTold_0 (by decide) ?_
  refine z_istore hx dX11_playIsAsTold_1 (Nat.le_of_ble_eq_true rfl) rfl ?_
  exact loop3 _ 0 pr po rfl (by omega) lt_0

set_option maxHeartbeats 4000000 in
set_option maxRecDepth 100000 in
theorem qX11_faithsBy (la : Nat → Nat) (sz : Nat → Option Nat) (it : Nat → Nat → Int32) (t : zTp) (i : zLk × zLk) (y : zPy) (a : zAs) (f : Nat × Nat) (L : zL) (cr ho : Nat → Nat) (P : zL) (pr po : Nat → Nat) (hw : zWf L) (hm : lM L ≤ 1000) (q j k n : Nat) (hq : q < lP L) (hj : j < 8) (hk : k + n ≤ 40) (hn1 : n ≤ 16) : zMi mX11_faithsBy 6 ([.ref 0, .int (nI q), .int (nI j), .int (nI k), .int (nI n)]) (hC ((la, sz, it), t, (L, cr, ho), (P, pr, po), i, y, a, f)) (fun z u => z = nI (zBi (fun v => zTo (lsF L q v) (fun d => it j (k + d)) n) 21) ∧ ∃ p, u = hC ((la, sz, it), t, (L, cr, ho), p, i, y, a, f)) := by
  refine zMi.of (by decide) (Nat.le_of_ble_eq_true rfl) (fun x hx hF => ?_)
  obtain ⟨w1, w2, w3, w4, w5⟩ := id hw
  have loop6 : ∀ (n6 : Nat) (v : Nat) (P : zL) (pr po : Nat → Nat), 21 - v = n6 → 0 ≤ v → v ≤ 21 → zV x 6 [some (.ref 0), some (.int (nI q)), some (.int (nI j)), some (.int (nI k)), some (.int (nI n)), some (.int (nI (zBi (fun v => zTo (lsF L q v) (fun d => it j (k + d)) n) v))), some (.int (nI v))] ([]) (hC ((la, sz, it), t, (L, cr, ho), (P, pr, po), i, y, a, f)) := by
    intro n6
    induction n6 using Nat.strongRecOn with
    | ind n6 ih =>
      intro v P pr po hn h1 h2
      refine z_iload hx dX11_faithsBy_6 rfl ?_
      refine z_bipush (v := nI 20) hx dX11_faithsBy_8 (by decide) ?_
      first | refine z_icmp_gtN (tgt := 61) hx dX11_faithsBy_10 (by decide) (by omega) (by omega) (fun zc10 => ?_) (fun zc10 => ?_) | refine z_icmp_gt (tgt := 61) hx dX11_faithsBy_10 (by decide) (fun zc10 => ?_) (fun zc10 => ?_)
      · skip
        refine z_iload hx dX11_faithsBy_61 rfl ?_
        exact z_iret hx hF dX11_faithsBy_63 rfl rfl ⟨by rw [show v = 21 by omega], _, rfl⟩
      · skip
        refine z_aload_n hx dX11_faithsBy_13 rfl ?_
        refine z_get hx dX11_faithsBy_14 fX11_49 hC_0 rfl ?_
        refine z_aload_n hx dX11_faithsBy_17 rfl ?_
        refine z_get hx dX11_faithsBy_18 fX11_45 hC_0 rfl ?_
        refine z_callvvE hx gPL (qX4_become P pr po L cr ho) dX11_faithsBy_21 sX11_133 rfl rfl sub_PL rfl rfl (by decide) (by decide) rfl (Nat.le_of_ble_eq_true rfl) (by decide) ?_
        refine z_heap pt_PL ?_
        refine z_aload_n hx dX11_faithsBy_24 rfl ?_
        refine z_get hx dX11_faithsBy_25 fX11_49 hC_0 rfl ?_
        refine z_get hx dX11_faithsBy_28 fX11_175 hC_23 rfl ?_
        refine z_iload_n hx dX11_faithsBy_31 rfl ?_
        refine z_iload hx dX11_faithsBy_32 rfl ?_
        refine z_iastN hx dX11_faithsBy_34 hC_26 (by decide) (by omega) ?_
        refine z_heap hS_26 ?_
        refine z_aload_n hx dX11_faithsBy_35 rfl ?_
        refine z_iload_n hx dX11_faithsBy_36 rfl ?_
        refine z_iload_n hx dX11_faithsBy_37 rfl ?_
        refine z_iload hx dX11_faithsBy_38 rfl ?_
        refine z_callivG hx (qX11_playIsAsTold la sz it t (L, cr, ho) i y a f (lsF L q v) pr po (zWf_F hw (by omega)) hm j k n (by omega) (by omega)) dX11_faithsBy_40 sX11_292 hC_0 rfl rfl rfl (Nat.le_of_ble_eq_true rfl) rfl (Nat.le_of_ble_eq_true rfl) (by decide) (fun r40 u40 l40 q40 => ?_)
        obtain ⟨rfl, p40, rfl⟩ := q40
        obtain ⟨P40, pr40, po40⟩ := p40
        first | refine z_if_eqB (tgt := 55) hx dX11_faithsBy_43 (by decide) (fun zc43 => ?_) (fun zc43 => ?_) | refine z_if_eqN (tgt := 55) hx dX11_faithsBy_43 (by decide) (by omega) (fun zc43 => ?_) (fun zc43 => ?_) | refine z_if_eq (tgt := 55) hx dX11_faithsBy_43 (by decide) (fun zc43 => ?_) (fun zc43 => ?_)
        · skip
          first | refine z_iincN (z := 1) hx dX11_faithsBy_55 rfl rfl ?_ | refine z_iinc hx dX11_faithsBy_55 rfl rfl rfl ?_
          refine z_goto (tgt := 6) hx dX11_faithsBy_58 (by decide) ?_
          exact z_eq (by first | (rw [zBi_t (c := fun v => zTo (lsF L q v) (fun d => it j (k + d)) n) (k := v) zc43]; rfl) | (rw [zBi_f (c := fun v => zTo (lsF L q v) (fun d => it j (k + d)) n) (k := v) zc43]; rfl)) rfl rfl (ih _ (by omega) (v + 1) _ _ _ rfl (by omega) (by omega))
        · skip
          refine z_iload hx dX11_faithsBy_46 rfl ?_
          refine z_iconst (v := nI 1) hx dX11_faithsBy_48 (by decide) ?_
          refine z_iload hx dX11_faithsBy_49 rfl ?_
          first | refine z_ishl1 hx dX11_faithsBy_51 (by omega) ?_ | refine z_ishlN hx dX11_faithsBy_51 (by omega) ?_ | refine z_ishl hx dX11_faithsBy_51 ?_
          first | refine z_iorN hx dX11_faithsBy_52 ?_ | refine z_ior hx dX11_faithsBy_52 ?_
          refine z_istore hx dX11_faithsBy_53 (Nat.le_of_ble_eq_true rfl) rfl ?_
          first | refine z_iincN (z := 1) hx dX11_faithsBy_55 rfl rfl ?_ | refine z_iinc hx dX11_faithsBy_55 rfl rfl rfl ?_
          refine z_goto (tgt := 6) hx dX11_faithsBy_58 (by decide) ?_
          exact z_eq (by first | (rw [zBi_t (c := fun v => zTo (lsF L q v) (fun d => it j (k + d)) n) (k := v) zc43]; rfl) | (rw [zBi_f (c := fun v => zTo (lsF L q v) (fun d => it j (k + d)) n) (k := v) zc43]; rfl)) rfl rfl (ih _ (by omega) (v + 1) _ _ _ rfl (by omega) (by omega))
  refine z_iconst (v := nI 0) hx dX11_faithsBy_0 (by decide) ?_
  refine z_istore hx dX11_faithsBy_1 (Nat.le_of_ble_eq_true rfl) rfl ?_
  refine z_iconst (v := nI 0) hx dX11_faithsBy_3 (by decide) ?_
  refine z_istore hx dX11_faithsBy_4 (Nat.le_of_ble_eq_true rfl) rfl ?_
  exact loop6 _ 0 P pr po rfl (by omega) (by omega)

set_option maxHeartbeats 4000000 in
set_option maxRecDepth 100000 in
theorem qX11_sortsBy (la : Nat → Nat) (sz : Nat → Option Nat) (it : Nat → Nat → Int32) (t : zTp) (i : zLk × zLk) (y : zPy) (a : zAs) (f : Nat × Nat) (L : zL) (cr ho : Nat → Nat) (P : zL) (pr po : Nat → Nat) (hw : zWf L) (hm : lM L ≤ 1000) (q j k n : Nat) (hq : q < lP L) (hj : j < 8) (hk : k + n ≤ 40) (hn1 : n ≤ 16) : zMi mX11_sortsBy 6 ([.ref 0, .int (nI q), .int (nI j), .int (nI k), .int (nI n)]) (hC ((la, sz, it), t, (L, cr, ho), (P, pr, po), i, y, a, f)) (fun z u => z = nI (zBi (fun v => 1 ≤ v ∧ zTo (lsK L q v) (fun d => it j (k + d)) n) 6) ∧ ∃ p, u = hC ((la, sz, it), t, (L, cr, ho), p, i, y, a, f)) := by
  refine zMi.of (by decide) (Nat.le_of_ble_eq_true rfl) (fun x hx hF => ?_)
  obtain ⟨w1, w2, w3, w4, w5⟩ := id hw
  have loop6 : ∀ (n6 : Nat) (v : Nat) (P : zL) (pr po : Nat → Nat), 6 - v = n6 → 1 ≤ v → v ≤ 6 → zV x 6 [some (.ref 0), some (.int (nI q)), some (.int (nI j)), some (.int (nI k)), some (.int (nI n)), some (.int (nI (zBi (fun v => 1 ≤ v ∧ zTo (lsK L q v) (fun d => it j (k + d)) n) v))), some (.int (nI v))] ([]) (hC ((la, sz, it), t, (L, cr, ho), (P, pr, po), i, y, a, f)) := by
    intro n6
    induction n6 using Nat.strongRecOn with
    | ind n6 ih =>
      intro v P pr po hn h1 h2
      refine z_iload hx dX11_sortsBy_6 rfl ?_
      refine z_iconst (v := nI 5) hx dX11_sortsBy_8 (by decide) ?_
      first | refine z_icmp_gtN (tgt := 60) hx dX11_sortsBy_9 (by decide) (by omega) (by omega) (fun zc9 => ?_) (fun zc9 => ?_) | refine z_icmp_gt (tgt := 60) hx dX11_sortsBy_9 (by decide) (fun zc9 => ?_) (fun zc9 => ?_)
      · skip
        refine z_iload hx dX11_sortsBy_60 rfl ?_
        exact z_iret hx hF dX11_sortsBy_62 rfl rfl ⟨by rw [show v = 6 by omega], _, rfl⟩
      · skip
        refine z_aload_n hx dX11_sortsBy_12 rfl ?_
        refine z_get hx dX11_sortsBy_13 fX11_49 hC_0 rfl ?_
        refine z_aload_n hx dX11_sortsBy_16 rfl ?_
        refine z_get hx dX11_sortsBy_17 fX11_45 hC_0 rfl ?_
        refine z_callvvE hx gPL (qX4_become P pr po L cr ho) dX11_sortsBy_20 sX11_133 rfl rfl sub_PL rfl rfl (by decide) (by decide) rfl (Nat.le_of_ble_eq_true rfl) (by decide) ?_
        refine z_heap pt_PL ?_
        refine z_aload_n hx dX11_sortsBy_23 rfl ?_
        refine z_get hx dX11_sortsBy_24 fX11_49 hC_0 rfl ?_
        refine z_get hx dX11_sortsBy_27 fX11_253 hC_23 rfl ?_
        refine z_iload_n hx dX11_sortsBy_30 rfl ?_
        refine z_iload hx dX11_sortsBy_31 rfl ?_
        refine z_iastN hx dX11_sortsBy_33 hC_24 (by decide) (by omega) ?_
        refine z_heap hS_24 ?_
        refine z_aload_n hx dX11_sortsBy_34 rfl ?_
        refine z_iload_n hx dX11_sortsBy_35 rfl ?_
        refine z_iload_n hx dX11_sortsBy_36 rfl ?_
        refine z_iload hx dX11_sortsBy_37 rfl ?_
        refine z_callivG hx (qX11_playIsAsTold la sz it t (L, cr, ho) i y a f (lsK L q v) pr po (zWf_K hw (by omega)) hm j k n (by omega) (by omega)) dX11_sortsBy_39 sX11_292 hC_0 rfl rfl rfl (Nat.le_of_ble_eq_true rfl) rfl (Nat.le_of_ble_eq_true rfl) (by decide) (fun r39 u39 l39 q39 => ?_)
        obtain ⟨rfl, p39, rfl⟩ := q39
        obtain ⟨P39, pr39, po39⟩ := p39
        first | refine z_if_eqB (tgt := 54) hx dX11_sortsBy_42 (by decide) (fun zc42 => ?_) (fun zc42 => ?_) | refine z_if_eqN (tgt := 54) hx dX11_sortsBy_42 (by decide) (by omega) (fun zc42 => ?_) (fun zc42 => ?_) | refine z_if_eq (tgt := 54) hx dX11_sortsBy_42 (by decide) (fun zc42 => ?_) (fun zc42 => ?_)
        · skip
          first | refine z_iincN (z := 1) hx dX11_sortsBy_54 rfl rfl ?_ | refine z_iinc hx dX11_sortsBy_54 rfl rfl rfl ?_
          refine z_goto (tgt := 6) hx dX11_sortsBy_57 (by decide) ?_
          exact z_eq (by first | (rw [zBi_t (c := fun v => 1 ≤ v ∧ zTo (lsK L q v) (fun d => it j (k + d)) n) (k := v) ⟨h1, zc42⟩]; rfl) | (rw [zBi_f (c := fun v => 1 ≤ v ∧ zTo (lsK L q v) (fun d => it j (k + d)) n) (k := v) (fun e => zc42 e.2)]; rfl)) rfl rfl (ih _ (by omega) (v + 1) _ _ _ rfl (by omega) (by omega))
        · skip
          refine z_iload hx dX11_sortsBy_45 rfl ?_
          refine z_iconst (v := nI 1) hx dX11_sortsBy_47 (by decide) ?_
          refine z_iload hx dX11_sortsBy_48 rfl ?_
          first | refine z_ishl1 hx dX11_sortsBy_50 (by omega) ?_ | refine z_ishlN hx dX11_sortsBy_50 (by omega) ?_ | refine z_ishl hx dX11_sortsBy_50 ?_
          first | refine z_iorN hx dX11_sortsBy_51 ?_ | refine z_ior hx dX11_sortsBy_51 ?_
          refine z_istore hx dX11_sortsBy_52 (Nat.le_of_ble_eq_true rfl) rfl ?_
          first | refine z_iincN (z := 1) hx dX11_sortsBy_54 rfl rfl ?_ | refine z_iinc hx dX11_sortsBy_54 rfl rfl rfl ?_
          refine z_goto (tgt := 6) hx dX11_sortsBy_57 (by decide) ?_
          exact z_eq (by first | (rw [zBi_t (c := fun v => 1 ≤ v ∧ zTo (lsK L q v) (fun d => it j (k + d)) n) (k := v) ⟨h1, zc42⟩]; rfl) | (rw [zBi_f (c := fun v => 1 ≤ v ∧ zTo (lsK L q v) (fun d => it j (k + d)) n) (k := v) (fun e => zc42 e.2)]; rfl)) rfl rfl (ih _ (by omega) (v + 1) _ _ _ rfl (by omega) (by omega))
  refine z_iconst (v := nI 0) hx dX11_sortsBy_0 (by decide) ?_
  refine z_istore hx dX11_sortsBy_1 (Nat.le_of_ble_eq_true rfl) rfl ?_
  refine z_iconst (v := nI 1) hx dX11_sortsBy_3 (by decide) ?_
  refine z_istore hx dX11_sortsBy_4 (Nat.le_of_ble_eq_true rfl) rfl ?_
  exact z_eq (show _ = _ by rw [show zBi (fun v => 1 ≤ v ∧ zTo (lsK L q v) (fun d => it j (k + d)) n) 1 = 0 from by rw [zBi_f (fun e => absurd e.1 (by decide))]; rfl]; rfl) rfl rfl (loop6 _ 1 P pr po rfl (by omega) (by omega))

set_option maxHeartbeats 4000000 in
set_option maxRecDepth 100000 in
theorem qX11_boundsBy (la : Nat → Nat) (sz : Nat → Option Nat) (it : Nat → Nat → Int32) (t : zTp) (i : zLk × zLk) (y : zPy) (a : zAs) (f : Nat × Nat) (L : zL) (cr ho : Nat → Nat) (P : zL) (pr po : Nat → Nat) (hw : zWf L) (hm : lM L ≤ 1000) (j k n : Nat) (hj : j < 8) (hk : k + n ≤ 40) (hn1 : n ≤ 16) : zMi mX11_boundsBy 6 ([.ref 0, .int (nI j), .int (nI k), .int (nI n)]) (hC ((la, sz, it), t, (L, cr, ho), (P, pr, po), i, y, a, f)) (fun z u => z = nI (zBi (fun v => zTo (lsB L v) (fun d => it j (k + d)) n) 30) ∧ ∃ p, u = hC ((la, sz, it), t, (L, cr, ho), p, i, y, a, f)) := by
  refine zMi.of (by decide) (Nat.le_of_ble_eq_true rfl) (fun x hx hF => ?_)
  obtain ⟨w1, w2, w3, w4, w5⟩ := id hw
  have loop6 : ∀ (n6 : Nat) (v : Nat) (P : zL) (pr po : Nat → Nat), 30 - v = n6 → 0 ≤ v → v ≤ 30 → zV x 6 [some (.ref 0), some (.int (nI j)), some (.int (nI k)), some (.int (nI n)), some (.int (nI (zBi (fun v => zTo (lsB L v) (fun d => it j (k + d)) n) v))), some (.int (nI v))] ([]) (hC ((la, sz, it), t, (L, cr, ho), (P, pr, po), i, y, a, f)) := by
    intro n6
    induction n6 using Nat.strongRecOn with
    | ind n6 ih =>
      intro v P pr po hn h1 h2
      refine z_iload hx dX11_boundsBy_6 rfl ?_
      refine z_bipush (v := nI 29) hx dX11_boundsBy_8 (by decide) ?_
      first | refine z_icmp_gtN (tgt := 58) hx dX11_boundsBy_10 (by decide) (by omega) (by omega) (fun zc10 => ?_) (fun zc10 => ?_) | refine z_icmp_gt (tgt := 58) hx dX11_boundsBy_10 (by decide) (fun zc10 => ?_) (fun zc10 => ?_)
      · skip
        refine z_iload hx dX11_boundsBy_58 rfl ?_
        exact z_iret hx hF dX11_boundsBy_60 rfl rfl ⟨by rw [show v = 30 by omega], _, rfl⟩
      · skip
        refine z_aload_n hx dX11_boundsBy_13 rfl ?_
        refine z_get hx dX11_boundsBy_14 fX11_49 hC_0 rfl ?_
        refine z_aload_n hx dX11_boundsBy_17 rfl ?_
        refine z_get hx dX11_boundsBy_18 fX11_45 hC_0 rfl ?_
        refine z_callvvE hx gPL (qX4_become P pr po L cr ho) dX11_boundsBy_21 sX11_133 rfl rfl sub_PL rfl rfl (by decide) (by decide) rfl (Nat.le_of_ble_eq_true rfl) (by decide) ?_
        refine z_heap pt_PL ?_
        refine z_aload_n hx dX11_boundsBy_24 rfl ?_
        refine z_get hx dX11_boundsBy_25 fX11_49 hC_0 rfl ?_
        refine z_iload hx dX11_boundsBy_28 rfl ?_
        refine z_puti hx dX11_boundsBy_30 pX11_280 hC_23 (Nat.le_of_ble_eq_true rfl) ?_
        refine z_heap hS_23 ?_
        refine z_aload_n hx dX11_boundsBy_33 rfl ?_
        refine z_iload_n hx dX11_boundsBy_34 rfl ?_
        refine z_iload_n hx dX11_boundsBy_35 rfl ?_
        refine z_iload_n hx dX11_boundsBy_36 rfl ?_
        refine z_callivG hx (qX11_playIsAsTold la sz it t (L, cr, ho) i y a f (lsB L v) pr po (zWf_B hw (by omega)) hm j k n (by omega) (by omega)) dX11_boundsBy_37 sX11_292 hC_0 rfl rfl rfl (Nat.le_of_ble_eq_true rfl) rfl (Nat.le_of_ble_eq_true rfl) (by decide) (fun r37 u37 l37 q37 => ?_)
        obtain ⟨rfl, p37, rfl⟩ := q37
        obtain ⟨P37, pr37, po37⟩ := p37
        first | refine z_if_eqB (tgt := 52) hx dX11_boundsBy_40 (by decide) (fun zc40 => ?_) (fun zc40 => ?_) | refine z_if_eqN (tgt := 52) hx dX11_boundsBy_40 (by decide) (by omega) (fun zc40 => ?_) (fun zc40 => ?_) | refine z_if_eq (tgt := 52) hx dX11_boundsBy_40 (by decide) (fun zc40 => ?_) (fun zc40 => ?_)
        · skip
          first | refine z_iincN (z := 1) hx dX11_boundsBy_52 rfl rfl ?_ | refine z_iinc hx dX11_boundsBy_52 rfl rfl rfl ?_
          refine z_goto (tgt := 6) hx dX11_boundsBy_55 (by decide) ?_
          exact z_eq (by first | (rw [zBi_t (c := fun v => zTo (lsB L v) (fun d => it j (k + d)) n) (k := v) zc40]; rfl) | (rw [zBi_f (c := fun v => zTo (lsB L v) (fun d => it j (k + d)) n) (k := v) zc40]; rfl)) rfl rfl (ih _ (by omega) (v + 1) _ _ _ rfl (by omega) (by omega))
        · skip
          refine z_iload hx dX11_boundsBy_43 rfl ?_
          refine z_iconst (v := nI 1) hx dX11_boundsBy_45 (by decide) ?_
          refine z_iload hx dX11_boundsBy_46 rfl ?_
          first | refine z_ishl1 hx dX11_boundsBy_48 (by omega) ?_ | refine z_ishlN hx dX11_boundsBy_48 (by omega) ?_ | refine z_ishl hx dX11_boundsBy_48 ?_
          first | refine z_iorN hx dX11_boundsBy_49 ?_ | refine z_ior hx dX11_boundsBy_49 ?_
          refine z_istore hx dX11_boundsBy_50 (Nat.le_of_ble_eq_true rfl) rfl ?_
          first | refine z_iincN (z := 1) hx dX11_boundsBy_52 rfl rfl ?_ | refine z_iinc hx dX11_boundsBy_52 rfl rfl rfl ?_
          refine z_goto (tgt := 6) hx dX11_boundsBy_55 (by decide) ?_
          exact z_eq (by first | (rw [zBi_t (c := fun v => zTo (lsB L v) (fun d => it j (k + d)) n) (k := v) zc40]; rfl) | (rw [zBi_f (c := fun v => zTo (lsB L v) (fun d => it j (k + d)) n) (k := v) zc40]; rfl)) rfl rfl (ih _ (by omega) (v + 1) _ _ _ rfl (by omega) (by omega))
  refine z_iconst (v := nI 0) hx dX11_boundsBy_0 (by decide) ?_
  refine z_istore hx dX11_boundsBy_1 (Nat.le_of_ble_eq_true rfl) rfl ?_
  refine z_iconst (v := nI 0) hx dX11_boundsBy_3 (by decide) ?_
  refine z_istore hx dX11_boundsBy_4 (Nat.le_of_ble_eq_true rfl) rfl ?_
  exact loop6 _ 0 P pr po rfl (by omega) (by omega)

/-- those who walk bring all there in time -/
def zWa (L : zL) (m d : Nat) (w : Nat) : Prop := zOn w = m ∧ ¬ zFs (zAl L w (2 ^ lP L - 1)) 0 d = none
theorem zOn_le : ∀ x, x < 256 → zOn x ≤ 8 := by decide +kernel
set_option maxHeartbeats 4000000 in
set_option maxRecDepth 100000 in
theorem qX11_leastWalkers (r : zRw) (t : zTp) (i : zLk × zLk) (y : zPy) (a : zAs) (f : Nat × Nat) (L : zL) (cr ho : Nat → Nat) (P : zL) (pr po : Nat → Nat) (hw : zWf L) (hm : lM L ≤ 1000) (m d : Nat) (hm2 : m ≤ 6) (hd : d ≤ 60) : zMi mX11_leastWalkers 6 ([.ref 0, .int (nI m), .int (nI d)]) (hC (r, t, (L, cr, ho), (P, pr, po), i, y, a, f)) (fun z u => z = tN (zFb (zWa L m d) (2 ^ lP L)) ∧ ∃ p, u = hC (r, t, (L, cr, ho), p, i, y, a, f)) := by
  refine zMi.of (by decide) (Nat.le_of_ble_eq_true rfl) (fun x hx hF => ?_)
  obtain ⟨w1, w2, w3, w4, w5⟩ := id hw
  have b1 : 2 ^ lP L ≤ 2 ^ 6 := Nat.pow_le_pow_right (by decide) w3
  have b2 := Nat.two_pow_pos (lP L)
  have loop2 : ∀ (n2 : Nat) (w : Nat) (P : zL) (pr po : Nat → Nat), 2 ^ lP L - w = n2 → w ≤ 2 ^ lP L → zFb (zWa L m d) w = none → zV x 2 [some (.ref 0), some (.int (nI m)), some (.int (nI d)), some (.int (nI w))] ([]) (hC (r, t, (L, cr, ho), (P, pr, po), i, y, a, f)) := by
    intro n2
    induction n2 using Nat.strongRecOn with
    | ind n2 ih =>
      intro w P pr po hn h1 hz
      refine z_iload_n hx dX11_leastWalkers_2 rfl ?_
      refine z_aload_n hx dX11_leastWalkers_3 rfl ?_
      refine z_get hx dX11_leastWalkers_4 fX11_45 hC_0 rfl ?_
      refine z_callivP hx gLn (qX4_everybody L cr ho hw) dX11_leastWalkers_7 sX11_209 rfl rfl (sub_Ln _ _ _ _ _ _ _ _ _ _) rfl rfl (by decide) (by decide) rfl (Nat.le_of_ble_eq_true rfl) (by decide) ?_
      first | refine z_icmp_gtN (tgt := 58) hx dX11_leastWalkers_10 (by decide) (by omega) (by omega) (fun zc10 => ?_) (fun zc10 => ?_) | refine z_icmp_gt (tgt := 58) hx dX11_leastWalkers_10 (by decide) (fun zc10 => ?_) (fun zc10 => ?_)
      · skip
        refine z_ldc hx dX11_leastWalkers_58 kX11_205 ?_
        exact z_iret hx hF dX11_leastWalkers_60 rfl rfl ⟨by first | (rw [zFb_yes2 hz ⟨zc18, fun e => zc47 (hnn.mpr e)⟩ (by omega)]; rfl) | (rw [show 2 ^ lP L = w by omega, hz]; rfl), _, rfl⟩
      · skip
        refine z_iload_n hx dX11_leastWalkers_13 rfl ?_
        refine z_callisP hx [] (qJ6_bitCount_0f7a4 _ (by omega)) dX11_leastWalkers_14 sX11_287 rfl rfl rfl (by decide) (by decide) rfl (Nat.le_of_ble_eq_true rfl) (by decide) ?_
        refine z_iload_n hx dX11_leastWalkers_17 rfl ?_
        have b3 := zOn_le w (by omega)
        first | refine z_icmp_neN (tgt := 52) hx dX11_leastWalkers_18 (by decide) (by omega) (by omega) (fun zc18 => ?_) (fun zc18 => ?_) | refine z_icmp_ne (tgt := 52) hx dX11_leastWalkers_18 (by decide) (fun zc18 => ?_) (fun zc18 => ?_)
        · skip
          first | refine z_iincN (z := 1) hx dX11_leastWalkers_52 rfl rfl ?_ | refine z_iinc hx dX11_leastWalkers_52 rfl rfl rfl ?_
          refine z_goto (tgt := 2) hx dX11_leastWalkers_55 (by decide) ?_
          exact ih _ (by omega) (w + 1) _ _ _ rfl (by omega) (zFb_no hz (by first | exact (fun e => zc18 e.1) | exact (fun e => e.2 (hnn.mp zc47))))
        · skip
          refine z_aload_n hx dX11_leastWalkers_21 rfl ?_
          refine z_get hx dX11_leastWalkers_22 fX11_49 hC_0 rfl ?_
          refine z_aload_n hx dX11_leastWalkers_25 rfl ?_
          refine z_get hx dX11_leastWalkers_26 fX11_45 hC_0 rfl ?_
          refine z_callvvE hx gPL (qX4_become P pr po L cr ho) dX11_leastWalkers_29 sX11_133 rfl rfl sub_PL rfl rfl (by decide) (by decide) rfl (Nat.le_of_ble_eq_true rfl) (by decide) ?_
          refine z_heap pt_PL ?_
          refine z_aload_n hx dX11_leastWalkers_32 rfl ?_
          refine z_aload_n hx dX11_leastWalkers_33 rfl ?_
          refine z_get hx dX11_leastWalkers_34 fX11_45 hC_0 rfl ?_
          refine z_callivP hx gLn (qX4_everybody L cr ho hw) dX11_leastWalkers_37 sX11_209 rfl rfl (sub_Ln _ _ _ _ _ _ _ _ _ _) rfl rfl (by decide) (by decide) rfl (Nat.le_of_ble_eq_true rfl) (by decide) ?_
          refine z_iload_n hx dX11_leastWalkers_40 rfl ?_
          refine z_iload_n hx dX11_leastWalkers_41 rfl ?_
          refine z_callivG hx (qX11_playTill r t (L, cr, ho) i y a f L pr po hw hm (2 ^ lP L - 1) w d (by omega) (by omega) (by omega)) dX11_leastWalkers_42 sX11_206 hC_0 rfl rfl rfl (Nat.le_of_ble_eq_true rfl) rfl (Nat.le_of_ble_eq_true rfl) (by decide) (fun r42 u42 l42 q42 => ?_)
          obtain ⟨rfl, p42, rfl⟩ := q42
          obtain ⟨P42, pr42, po42⟩ := p42
          have hnn := tN_none (x := zFs (zAl L w (2 ^ lP L - 1)) 0 d) (fun n9 e9 => by have := zFs_le _ _ _ e9; omega)
          refine z_ldc hx dX11_leastWalkers_45 kX11_205 ?_
          refine z_icmp_eq (tgt := 52) hx dX11_leastWalkers_47 (by decide) (fun zc47 => ?_) (fun zc47 => ?_)
          · skip
            first | refine z_iincN (z := 1) hx dX11_leastWalkers_52 rfl rfl ?_ | refine z_iinc hx dX11_leastWalkers_52 rfl rfl rfl ?_
            refine z_goto (tgt := 2) hx dX11_leastWalkers_55 (by decide) ?_
            exact ih _ (by omega) (w + 1) _ _ _ rfl (by omega) (zFb_no hz (by first | exact (fun e => zc18 e.1) | exact (fun e => e.2 (hnn.mp zc47))))
          · skip
            refine z_iload_n hx dX11_leastWalkers_50 rfl ?_
            exact z_iret hx hF dX11_leastWalkers_51 rfl rfl ⟨by first | (rw [zFb_yes2 hz ⟨zc18, fun e => zc47 (hnn.mpr e)⟩ (by omega)]; rfl) | (rw [show 2 ^ lP L = w by omega, hz]; rfl), _, rfl⟩
  refine z_iconst (v := nI 0) hx dX11_leastWalkers_0 (by decide) ?_
  refine z_istore_n hx dX11_leastWalkers_1 (Nat.le_of_ble_eq_true rfl) rfl ?_
  exact loop2 _ 0 P pr po rfl (by omega) rfl

set_option maxHeartbeats 4000000 in
set_option maxRecDepth 100000 in
theorem qX11_waysOf (r : zRw) (t : zTp) (p : zLk) (i : zLk × zLk) (y : zPy) (a : zAs) (f : Nat × Nat) (L : zL) (cr ho : Nat → Nat) (hw : zWf L) (s c : Nat) (hs : s < 64) (hc : c ≤ 10) : zMi mX11_waysOf 1 ([.ref 0, .int (nI s), .int (nI c)]) (hC (r, t, (L, cr, ho), p, i, y, a, f)) (fun z u => z = nI (zWy s c (lP L)) ∧ u = hC (r, t, (L, cr, ho), p, i, y, a, f)) := by
  refine zMi.of (by decide) (Nat.le_of_ble_eq_true rfl) (fun x hx hF => ?_)
  obtain ⟨w1, w2, w3, w4, w5⟩ := id hw
  have loop5 : ∀ (n5 : Nat) (q : Nat), lP L - q = n5 → q ≤ lP L → zV x 5 [some (.ref 0), some (.int (nI s)), some (.int (nI c)), some (.int (nI (zWy s c q))), some (.int (nI q))] ([]) (hC (r, t, (L, cr, ho), p, i, y, a, f)) := by
    intro n5
    induction n5 using Nat.strongRecOn with
    | ind n5 ih =>
      intro q hn hq
      refine z_iload hx dX11_waysOf_5 rfl ?_
      refine z_aload_n hx dX11_waysOf_7 rfl ?_
      refine z_get hx dX11_waysOf_8 fX11_45 hC_0 rfl ?_
      refine z_get hx dX11_waysOf_11 fX11_140 hC_15 rfl ?_
      first | refine z_icmp_geN (tgt := 43) hx dX11_waysOf_14 (by decide) (by omega) (by omega) (fun zc14 => ?_) (fun zc14 => ?_) | refine z_icmp_ge (tgt := 43) hx dX11_waysOf_14 (by decide) (fun zc14 => ?_) (fun zc14 => ?_)
      · skip
        refine z_iload_n hx dX11_waysOf_43 rfl ?_
        exact z_iret hx hF dX11_waysOf_44 rfl rfl ⟨by rw [show q = lP L by omega], rfl⟩
      · skip
        refine z_iload_n hx dX11_waysOf_17 rfl ?_
        refine z_iload_n hx dX11_waysOf_18 rfl ?_
        refine z_iload hx dX11_waysOf_19 rfl ?_
        refine z_callisP hx [] (qX11_isIn _ _ (by omega) (by omega)) dX11_waysOf_21 sX11_298 rfl rfl rfl (by decide) (by decide) rfl (Nat.le_of_ble_eq_true rfl) (by decide) ?_
        first | refine z_if_eqB (tgt := 31) hx dX11_waysOf_24 (by decide) (fun zc24 => ?_) (fun zc24 => ?_) | refine z_if_eqN (tgt := 31) hx dX11_waysOf_24 (by decide) (by omega) (fun zc24 => ?_) (fun zc24 => ?_) | refine z_if_eq (tgt := 31) hx dX11_waysOf_24 (by decide) (fun zc24 => ?_) (fun zc24 => ?_)
        · skip
          refine z_bipush (v := nI 10) hx dX11_waysOf_31 (by decide) ?_
          refine z_iload_n hx dX11_waysOf_33 rfl ?_
          first | refine z_isubN hx dX11_waysOf_34 (by omega) ?_ | refine z_isub hx dX11_waysOf_34 ?_
          first | refine z_imulN hx dX11_waysOf_35 ?_ | refine z_imul hx dX11_waysOf_35 ?_
          refine z_istore_n hx dX11_waysOf_36 (Nat.le_of_ble_eq_true rfl) rfl ?_
          first | refine z_iincN (z := 1) hx dX11_waysOf_37 rfl rfl ?_ | refine z_iinc hx dX11_waysOf_37 rfl rfl rfl ?_
          refine z_goto (tgt := 5) hx dX11_waysOf_40 (by decide) ?_
          exact z_eq (by first | (rw [show zWy s c (q + 1) = zWy s c q * c from congrArg (fun z => zWy s c q * z) (if_pos zc24)]; rfl) | (rw [show zWy s c (q + 1) = zWy s c q * (10 - c) from congrArg (fun z => zWy s c q * z) (if_neg zc24)]; rfl)) rfl rfl (ih _ (by omega) (q + 1) rfl (by omega))
        · skip
          refine z_iload_n hx dX11_waysOf_27 rfl ?_
          refine z_goto (tgt := 35) hx dX11_waysOf_28 (by decide) ?_
          first | refine z_imulN hx dX11_waysOf_35 ?_ | refine z_imul hx dX11_waysOf_35 ?_
          refine z_istore_n hx dX11_waysOf_36 (Nat.le_of_ble_eq_true rfl) rfl ?_
          first | refine z_iincN (z := 1) hx dX11_waysOf_37 rfl rfl ?_ | refine z_iinc hx dX11_waysOf_37 rfl rfl rfl ?_
          refine z_goto (tgt := 5) hx dX11_waysOf_40 (by decide) ?_
          exact z_eq (by first | (rw [show zWy s c (q + 1) = zWy s c q * c from congrArg (fun z => zWy s c q * z) (if_pos zc24)]; rfl) | (rw [show zWy s c (q + 1) = zWy s c q * (10 - c) from congrArg (fun z => zWy s c q * z) (if_neg zc24)]; rfl)) rfl rfl (ih _ (by omega) (q + 1) rfl (by omega))
  refine z_iconst (v := nI 1) hx dX11_waysOf_0 (by decide) ?_
  refine z_istore_n hx dX11_waysOf_1 (Nat.le_of_ble_eq_true rfl) rfl ?_
  refine z_iconst (v := nI 0) hx dX11_waysOf_2 (by decide) ?_
  refine z_istore hx dX11_waysOf_3 (Nat.le_of_ble_eq_true rfl) rfl ?_
  exact loop5 _ 0 rfl (by omega)

theorem zgcd_mul {g l r s : Nat} (h : 2 * r ≤ g) (h2 : g * l * 2 ^ s ≤ 2 ^ 40) : l * r * 2 ^ (s + 1) ≤ 2 ^ 40 := by
  have h3 : l * (2 * r) ≤ l * g := Nat.mul_le_mul_left l h
  have h4 : l * r * 2 ^ (s + 1) = l * (2 * r) * 2 ^ s := by rw [Nat.pow_succ]; simp only [Nat.mul_assoc, Nat.mul_left_comm, Nat.mul_comm]
  rw [h4]
  refine Nat.le_trans (Nat.mul_le_mul_right _ h3) ?_
  rw [Nat.mul_comm l g]
  exact h2
theorem zgcd_end {g l s : Nat} (hs : 100 ≤ s) (h0 : 0 < g) (h : g * l * 2 ^ s ≤ 2 ^ 40) : l = 0 := by
  rcases Nat.eq_zero_or_pos l with e | e
  · exact e
  · exfalso
    have h1 : 1 ≤ g * l := Nat.mul_pos h0 e
    have h2 : 2 ^ 100 ≤ 2 ^ s := Nat.pow_le_pow_right (by decide) hs
    have h3 : 1 * 2 ^ s ≤ g * l * 2 ^ s := Nat.mul_le_mul_right _ h1
    have h4 : (2 : Nat) ^ 40 < 2 ^ 100 := by decide
    omega
set_option maxHeartbeats 4000000 in
set_option maxRecDepth 100000 in
theorem qX11_sharedBy (u v : Nat) (hu : u ≤ v) (hv0 : 0 < v) (hv : v ≤ 1000000) : zMi mX11_sharedBy 1 ([.int (nI u), .int (nI v)]) ([]) (fun z w => z = nI (Nat.gcd v u) ∧ w = []) := by
  refine zMi.of (by decide) (Nat.le_of_ble_eq_true rfl) (fun x hx hF => ?_)
  have loop7 : ∀ (n7 : Nat) (s g l : Nat) (o5 : Option Value), 100 - s = n7 → s ≤ 100 → 0 < g → l ≤ g → g ≤ 1000000 → (Nat.gcd g l = Nat.gcd v u ∧ g * l * 2 ^ s ≤ 2 ^ 40) → zV x 7 [some (.int (nI u)), some (.int (nI v)), some (.int (nI g)), some (.int (nI l)), some (.int (nI s)), none] ([]) ([]) := by
    intro n7
    induction n7 using Nat.strongRecOn with
    | ind n7 ih =>
      intro s g l o5 hn h0 h1 h2 h3 h4
      obtain ⟨h4, h5⟩ := h4
      refine z_iload hx dX11_sharedBy_7 rfl ?_
      refine z_bipush (v := nI 100) hx dX11_sharedBy_9 (by decide) ?_
      first | refine z_icmp_geN (tgt := 34) hx dX11_sharedBy_11 (by decide) (by omega) (by omega) (fun zc11 => ?_) (fun zc11 => ?_) | refine z_icmp_ge (tgt := 34) hx dX11_sharedBy_11 (by decide) (fun zc11 => ?_) (fun zc11 => ?_)
      · skip
        have e9 : Nat.gcd g l = g := by first | (rw [zc15]; exact Nat.gcd_zero_right g) | (rw [zgcd_end (by omega) h1 h5]; exact Nat.gcd_zero_right g)
        refine z_iload_n hx dX11_sharedBy_34 rfl ?_
        refine z_iconst (v := nI 1) hx dX11_sharedBy_35 (by decide) ?_
        refine z_mmax hx dX11_sharedBy_36 sX11_302 (by omega) (by omega) rfl (by decide) (Nat.le_of_ble_eq_true rfl) ?_
        exact z_iret hx hF dX11_sharedBy_39 rfl rfl ⟨by rw [if_neg (by omega), ← h4, e9], rfl⟩
      · skip
        refine z_iload_n hx dX11_sharedBy_14 rfl ?_
        first | refine z_if_leN (tgt := 34) hx dX11_sharedBy_15 (by decide) (by omega) (fun zc15 => ?_) (fun zc15 => ?_) | refine z_if_le (tgt := 34) hx dX11_sharedBy_15 (by decide) (fun zc15 => ?_) (fun zc15 => ?_)
        · skip
          have e9 : Nat.gcd g l = g := by first | (rw [zc15]; exact Nat.gcd_zero_right g) | (rw [zgcd_end (by omega) h1 h5]; exact Nat.gcd_zero_right g)
          refine z_iload_n hx dX11_sharedBy_34 rfl ?_
          refine z_iconst (v := nI 1) hx dX11_sharedBy_35 (by decide) ?_
          refine z_mmax hx dX11_sharedBy_36 sX11_302 (by omega) (by omega) rfl (by decide) (Nat.le_of_ble_eq_true rfl) ?_
          exact z_iret hx hF dX11_sharedBy_39 rfl rfl ⟨by rw [if_neg (by omega), ← h4, e9], rfl⟩
        · skip
          have st9 := zgcd_step (g := g) (l := l) (by omega) h2
          have st8 : l * (g % l) * 2 ^ (s + 1) ≤ 2 ^ 40 := zgcd_mul st9.2.1 h5
          refine z_iload_n hx dX11_sharedBy_18 rfl ?_
          refine z_iload_n hx dX11_sharedBy_19 rfl ?_
          refine z_iremN hx dX11_sharedBy_20 (by omega) (by omega) (by omega) ?_
          refine z_istore hx dX11_sharedBy_21 (Nat.le_of_ble_eq_true rfl) rfl ?_
          refine z_iload_n hx dX11_sharedBy_23 rfl ?_
          refine z_istore_n hx dX11_sharedBy_24 (Nat.le_of_ble_eq_true rfl) rfl ?_
          refine z_iload hx dX11_sharedBy_25 rfl ?_
          refine z_istore_n hx dX11_sharedBy_27 (Nat.le_of_ble_eq_true rfl) rfl ?_
          first | refine z_iincN (z := 1) hx dX11_sharedBy_28 rfl rfl ?_ | refine z_iinc hx dX11_sharedBy_28 rfl rfl rfl ?_
          refine z_goto (tgt := 7) hx dX11_sharedBy_31 (by decide) ?_
          exact z_kill 5 (ih _ (by omega) (s + 1) l (g % l) none rfl (by omega) (by omega) st9.2.2 (by omega) ⟨st9.1.trans h4, st8⟩)
  refine z_iload_n hx dX11_sharedBy_0 rfl ?_
  refine z_istore_n hx dX11_sharedBy_1 (Nat.le_of_ble_eq_true rfl) rfl ?_
  refine z_iload_n hx dX11_sharedBy_2 rfl ?_
  refine z_istore_n hx dX11_sharedBy_3 (Nat.le_of_ble_eq_true rfl) rfl ?_
  refine z_iconst (v := nI 0) hx dX11_sharedBy_4 (by decide) ?_
  refine z_istore hx dX11_sharedBy_5 (Nat.le_of_ble_eq_true rfl) rfl ?_
  exact loop7 _ 0 v u none rfl (by omega) hv0 hu hv ⟨rfl, by have : v * u ≤ 1000000 * 1000000 := Nat.mul_le_mul hv (by omega); omega⟩

set_option maxHeartbeats 4000000 in
set_option maxRecDepth 100000 in
theorem qX11_preachByDraw (r : zRw) (t : zTp) (l : zLk) (i : zLk × zLk) (y : zPy) (a : zAs) (f : Nat × Nat) (P : zL) (pr po : Nat → Nat) (hw : zWf P) (X : Nat) (hX : X < 2147483648) : zMv mX11_preachByDraw 0 ([.ref 0, .long (lN X)]) (hC (r, t, l, (P, pr, po), i, y, a, f)) (fun u => u = hC (r, t, l, (if 0 < lP P then lsF P (X % lP P) (X % 21) else P, pr, po), i, y, a, f)) := by
  refine zMv.of (by decide) (Nat.le_of_ble_eq_true rfl) (fun x hx hF => ?_)
  obtain ⟨w1, w2, w3, w4, w5⟩ := id hw
  refine z_aload_n hx dX11_preachByDraw_0 rfl ?_
  refine z_get hx dX11_preachByDraw_1 fX11_49 hC_0 rfl ?_
  refine z_get hx dX11_preachByDraw_4 fX11_140 hC_23 rfl ?_
  first | refine z_if_leN (tgt := 35) hx dX11_preachByDraw_7 (by decide) (by omega) (fun zc7 => ?_) (fun zc7 => ?_) | refine z_if_le (tgt := 35) hx dX11_preachByDraw_7 (by decide) (fun zc7 => ?_) (fun zc7 => ?_)
  · skip
    exact z_vret hx hF dX11_preachByDraw_35 rfl rfl (by first | rw [if_neg (by omega)] | (rw [if_pos (by omega)]; rfl))
  · skip
    refine z_aload_n hx dX11_preachByDraw_10 rfl ?_
    skip
    refine z_get hx dX11_preachByDraw_11 fX11_49 hC_0 rfl ?_
    have m1 := Nat.mod_lt X (show 0 < lP P by omega)
    have m2 := Nat.mod_lt X (show 0 < 21 by decide)
    refine z_get hx dX11_preachByDraw_14 fX11_175 hC_23 rfl ?_
    refine z_lload_n hx dX11_preachByDraw_17 rfl ?_
    refine z_aload_n hx dX11_preachByDraw_18 rfl ?_
    refine z_get hx dX11_preachByDraw_19 fX11_49 hC_0 rfl ?_
    refine z_get hx dX11_preachByDraw_22 fX11_140 hC_23 rfl ?_
    refine z_i2l hx dX11_preachByDraw_25 ?_
    refine z_lrem hx dX11_preachByDraw_26 (by rw [nI_l (by omega)]; exact lN_ne0 (by omega) (by omega)) ?_
    refine z_topL (lN (X % lP P)) (by rw [nI_l (by omega)]; exact pk_lRem (by omega) (by omega) (by omega)) ?_
    refine z_l2i hx dX11_preachByDraw_27 ?_
    refine z_top (b := nI (X % lP P)) (lN_i _) ?_
    refine z_lload_n hx dX11_preachByDraw_28 rfl ?_
    refine z_ldc2 hx dX11_preachByDraw_29 kX11_307 ?_
    refine z_lrem hx dX11_preachByDraw_32 (by decide) ?_
    refine z_topL (lN (X % 21)) (pk_lRem (b := 21) (by omega) (by decide) (by decide)) ?_
    refine z_l2i hx dX11_preachByDraw_33 ?_
    refine z_top (b := nI (X % 21)) (lN_i _) ?_
    refine z_iastN hx dX11_preachByDraw_34 hC_26 (by decide) (by omega) ?_
    refine z_heap hS_26 ?_
    exact z_vret hx hF dX11_preachByDraw_35 rfl rfl (by first | rw [if_neg (by omega)] | (rw [if_pos (by omega)]; rfl))

