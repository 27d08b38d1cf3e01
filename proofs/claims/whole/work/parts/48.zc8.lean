theorem zlrem {X : Nat} (h : X < 2147483647) : lN X * 16807 - lN X * 16807 / 2147483647 * 2147483647 = lN (X * 16807 % 2147483647) := by
  have e1 : (lN X * 16807 : Int64) = lN (X * 16807) := lN_mul X 16807
  rw [e1]
  exact pk_lRem (a := X * 16807) (b := 2147483647) (by omega) (by decide) (by decide)
theorem zPd_d (L : zL) (X : Nat) : (if 0 < lP L then lsF L (X % lP L) (X % 21) else L) = zPd L X := rfl
theorem zDc_t {L : zL} {s k : Nat} (h : zTr (zPd (zDl L s k) (zXn s (k + 1))) 0 = none) : zDc L s (k + 1) = zDc L s k := by rw [zDc, zIf_t h]; rfl
theorem zDc_f {L : zL} {s k : Nat} (h : ¬ zTr (zPd (zDl L s k) (zXn s (k + 1))) 0 = none) : zDc L s (k + 1) = zDc L s k + 1 := by rw [zDc, zIf_f h]
theorem tI_n1 {x : Option Nat} (h : ∀ n, x = some n → n ≤ 1000) : tI x = -1 ↔ x = none := by
  cases x with
  | none => exact ⟨fun _ => rfl, fun _ => rfl⟩
  | some n =>
    have := h n rfl
    constructor
    · intro e
      have h2 := congrArg Int32.toInt e
      have h3 : (tI (some n)).toInt = n := nI_toInt (by omega)
      have h4 : (-1 : Int32).toInt = -1 := by decide
      omega
    · intro e; cases e
set_option maxHeartbeats 4000000 in
set_option maxRecDepth 100000 in
theorem qX11_drawn (la : Nat → Nat) (sz : Nat → Option Nat) (it : Nat → Nat → Int32) (t : zTp) (L : zL) (cr ho : Nat → Nat) (P : zL) (pr po : Nat → Nat) (i : zLk × zLk) (y : zPy) (a : zAs) (f1 f2 : Nat) (hw : zWf L) (hm : lM L ≤ 1000) (hs : zRok sz) (v s w : Int32) : zMi mX11_drawn 6 ([.ref 0, .int v, .int s, .int w]) (hC ((la, sz, it), t, (L, cr, ho), (P, pr, po), i, y, a, (f1, f2))) (fun z u => z = aDrwn L v s w ∧ ∃ p, u = hC ((la, sz, it), t, (L, cr, ho), p, i, y, a, (f1, f2))) := by
  refine zMi.of (by decide) (Nat.le_of_ble_eq_true rfl) (fun x hx hF => ?_)
  obtain ⟨w1, w2, w3, w4, w5⟩ := id hw
  have hloop : ∀ (hS9 : 0 < lS L) (zn : Nat) (zhn : zn ≤ 60) (zs : Nat) (zh1 : 1 ≤ zs) (zhs : zs ≤ 999999) (ze : Nat) (zhe : ze ≤ 1) (hF : zFi x (hC ((la, sz, it), t, (L, cr, ho), (P, pr, po), i, y, a, (f1, f2))).length (fun z u => z = aDrwn L (nI zn) (nI zs) (nI ze) ∧ ∃ p, u = hC ((la, sz, it), t, (L, cr, ho), p, i, y, a, (f1, f2)))) (n63 k : Nat) (pr po : Nat → Nat), zn - k = n63 → k ≤ zn → zV x 63 [some (.ref 0), some (.int (nI zn)), some (.int (nI zs)), some (.int (nI ze)), some (.long (lN (zXn zs k))), none, some (.int (nI (zDc L zs k))), some (.int (nI k))] [] (hC ((la, sz, it), t, (L, cr, ho), (zDl L zs k, pr, po), i, y, a, (f1, f2))) := by
    intro hS9 zn zhn zs zh1 zhs ze zhe hF n63
    have hnn : zNat (nI zn) = zn := zNat_nI (by omega)
    have hns : zNat (nI zs) = zs := zNat_nI (by omega)
    induction n63 using Nat.strongRecOn with
    | ind n63 ih =>
      intro k pr po hn hk
      have hx9 := zXn_le (s := zs) (by omega) k
      have hx8 := zXn_le (s := zs) (by omega) (k + 1)
      have hdc := zDc_le L zs k
      have hdp := zDl_P L zs k
      have hwd := zWf_Dl hw zs k (by omega)
      have hw9 := zWf_Pd hwd (zXn zs (k + 1))
      have hpp := zPd_P (zDl L zs k) (zXn zs (k + 1))
      refine z_iload hx dX11_drawn_63 rfl ?_
      refine z_iload_n hx dX11_drawn_65 rfl ?_
      first | refine z_icmp_geN (tgt := 108) hx dX11_drawn_66 (by decide) (by omega) (by omega) (fun zc66 => ?_) (fun zc66 => ?_) | refine z_icmp_ge (tgt := 108) hx dX11_drawn_66 (by decide) (fun zc66 => ?_) (fun zc66 => ?_)
      · skip
        refine z_iload_n hx dX11_drawn_108 rfl ?_
        first | refine z_if_neB (tgt := 122) hx dX11_drawn_109 (by decide) (fun zc109 => ?_) (fun zc109 => ?_) | refine z_if_neN (tgt := 122) hx dX11_drawn_109 (by decide) (by omega) (fun zc109 => ?_) (fun zc109 => ?_) | refine z_if_ne (tgt := 122) hx dX11_drawn_109 (by decide) (fun zc109 => ?_) (fun zc109 => ?_)
        · skip
          refine z_iload hx dX11_drawn_122 rfl ?_
          exact z_iret hx hF dX11_drawn_124 rfl rfl ⟨by unfold aDrwn; first | rw [zII_t hS9, zII_t ⟨⟨zn, Nat.zero_le _, zhn, rfl⟩, ⟨zs, zh1, zhs, rfl⟩, ⟨ze, Nat.zero_le _, zhe, rfl⟩⟩, hnn, hns, if_pos (by rw [show ze = 0 by omega]), show zn = k by omega, hdp.1] | rw [zII_t hS9, zII_t ⟨⟨zn, Nat.zero_le _, zhn, rfl⟩, ⟨zs, zh1, zhs, rfl⟩, ⟨ze, Nat.zero_le _, zhe, rfl⟩⟩, hnn, hns, if_neg (nI_ne (by omega) (by omega) (by omega)), show zn = k by omega] | exact zzz_open, _, rfl⟩
        · skip
          refine z_aload_n hx dX11_drawn_112 rfl ?_
          refine z_get hx dX11_drawn_113 fX11_49 hC_0 rfl ?_
          refine z_callivP hx gPl (qX4_thereBits (zDl L zs k) pr po hwd) dX11_drawn_116 sX11_157 rfl rfl (sub_Pl _ _ _ _ _ _ _ _ _ _) rfl rfl (by decide) (by decide) rfl (Nat.le_of_ble_eq_true rfl) (by decide) ?_
          refine z_goto (tgt := 124) hx dX11_drawn_119 (by decide) ?_
          exact z_iret hx hF dX11_drawn_124 rfl rfl ⟨by unfold aDrwn; first | rw [zII_t hS9, zII_t ⟨⟨zn, Nat.zero_le _, zhn, rfl⟩, ⟨zs, zh1, zhs, rfl⟩, ⟨ze, Nat.zero_le _, zhe, rfl⟩⟩, hnn, hns, if_pos (by rw [show ze = 0 by omega]), show zn = k by omega, hdp.1] | rw [zII_t hS9, zII_t ⟨⟨zn, Nat.zero_le _, zhn, rfl⟩, ⟨zs, zh1, zhs, rfl⟩, ⟨ze, Nat.zero_le _, zhe, rfl⟩⟩, hnn, hns, if_neg (nI_ne (by omega) (by omega) (by omega)), show zn = k by omega] | exact zzz_open, _, rfl⟩
      · skip
        refine z_lload hx dX11_drawn_69 rfl ?_
        refine z_ldc2 hx dX11_drawn_71 kX11_245 ?_
        refine z_lmul hx dX11_drawn_74 ?_
        refine z_ldc2 hx dX11_drawn_75 kX11_247 ?_
        refine z_lrem hx dX11_drawn_78 (by decide) ?_
        refine z_topL (lN (zXn zs (k + 1))) (zlrem hx9) ?_
        refine z_lstore hx dX11_drawn_79 (Nat.le_of_ble_eq_true rfl) rfl ?_
        refine z_aload_n hx dX11_drawn_81 rfl ?_
        refine z_lload hx dX11_drawn_82 rfl ?_
        refine z_callvvF hx (qX11_preachByDraw (la, sz, it) t (L, cr, ho) i y a (f1, f2) (zDl L zs k) pr po hwd (zXn zs (k + 1)) (by omega)) dX11_drawn_84 sX11_249 hC_0 rfl rfl rfl (Nat.le_of_ble_eq_true rfl) rfl (Nat.le_of_ble_eq_true rfl) (by decide) ?_
        rw [zPd_d]
        refine z_aload_n hx dX11_drawn_87 rfl ?_
        refine z_get hx dX11_drawn_88 fX11_49 hC_0 rfl ?_
        refine z_iconst (v := nI 0) hx dX11_drawn_91 (by decide) ?_
        refine z_callivE hx gPl (qX4_pass (zPd (zDl L zs k) (zXn zs (k + 1))) pr po hw9 0 (by decide)) dX11_drawn_92 sX11_154 rfl rfl (sub_Pl _ _ _ _ _ _ _ _ _ _) rfl rfl (by decide) (by decide) rfl (Nat.le_of_ble_eq_true rfl) (by decide) ?_
        refine z_heap (pt_Pl _ _ _ _ _ _ _ _ _ _ _) ?_
        refine z_heap (show _ = hC ((la, sz, it), t, (L, cr, ho), (zDl L zs (k + 1), zCn (zPd (zDl L zs k) (zXn zs (k + 1))) (lP (zPd (zDl L zs k) (zXn zs (k + 1)))), zHs (zPd (zDl L zs k) (zXn zs (k + 1))) 0), i, y, a, (f1, f2)) from rfl) ?_
        have htn := tI_n1 (x := zTr (zPd (zDl L zs k) (zXn zs (k + 1))) 0) (fun j9 h9 => by have := zTr_lt h9; have := hw9.1; omega)
        refine z_iconst (v := -1) hx dX11_drawn_95 (by decide) ?_
        refine z_icmp_eq (tgt := 102) hx dX11_drawn_96 (by decide) (fun zc96 => ?_) (fun zc96 => ?_)
        · skip
          first | refine z_iincN (z := 1) hx dX11_drawn_102 rfl rfl ?_ | refine z_iinc hx dX11_drawn_102 rfl rfl rfl ?_
          refine z_goto (tgt := 63) hx dX11_drawn_105 (by decide) ?_
          first | exact z_eq (by rw [zDc_t (htn.mp zc96)]; rfl) rfl rfl (ih _ (by omega) (k + 1) _ _ rfl (by omega)) | exact z_eq (by rw [zDc_f (fun e => zc96 (htn.mpr e))]; rfl) rfl rfl (ih _ (by omega) (k + 1) _ _ rfl (by omega))
        · skip
          first | refine z_iincN (z := 1) hx dX11_drawn_99 rfl rfl ?_ | refine z_iinc hx dX11_drawn_99 rfl rfl rfl ?_
          first | refine z_iincN (z := 1) hx dX11_drawn_102 rfl rfl ?_ | refine z_iinc hx dX11_drawn_102 rfl rfl rfl ?_
          refine z_goto (tgt := 63) hx dX11_drawn_105 (by decide) ?_
          first | exact z_eq (by rw [zDc_t (htn.mp zc96)]; rfl) rfl rfl (ih _ (by omega) (k + 1) _ _ rfl (by omega)) | exact z_eq (by rw [zDc_f (fun e => zc96 (htn.mpr e))]; rfl) rfl rfl (ih _ (by omega) (k + 1) _ _ rfl (by omega))
  refine z_aload_n hx dX11_drawn_0 rfl ?_
  refine z_callivF hx (qX11_hasLine (la, sz, it) t (P, pr, po) i y a (f1, f2) L cr ho hw) dX11_drawn_1 sX11_143 hC_0 rfl rfl rfl (Nat.le_of_ble_eq_true rfl) rfl (Nat.le_of_ble_eq_true rfl) (by decide) ?_
  first | refine z_if_neB (tgt := 10) hx dX11_drawn_4 (by decide) (fun zc4 => ?_) (fun zc4 => ?_) | refine z_if_neN (tgt := 10) hx dX11_drawn_4 (by decide) (by omega) (fun zc4 => ?_) (fun zc4 => ?_) | refine z_if_ne (tgt := 10) hx dX11_drawn_4 (by decide) (fun zc4 => ?_) (fun zc4 => ?_)
  · skip
    refine z_iload_n hx dX11_drawn_10 rfl ?_
    refine z_iconst (v := nI 0) hx dX11_drawn_11 (by decide) ?_
    refine z_bipush (v := nI 60) hx dX11_drawn_12 (by decide) ?_
    refine z_callisP hx [] (qX11_isWithinN _ _ _ (by decide)) dX11_drawn_14 sX11_74 rfl rfl rfl (by decide) (by decide) rfl (Nat.le_of_ble_eq_true rfl) (by decide) ?_
    first | refine z_if_eqB (tgt := 39) hx dX11_drawn_17 (by decide) (fun zc17 => ?_) (fun zc17 => ?_) | refine z_if_eqN (tgt := 39) hx dX11_drawn_17 (by decide) (by omega) (fun zc17 => ?_) (fun zc17 => ?_) | refine z_if_eq (tgt := 39) hx dX11_drawn_17 (by decide) (fun zc17 => ?_) (fun zc17 => ?_)
    · skip
      refine z_ldc hx dX11_drawn_39 kX11_78 ?_
      exact z_iret hx hF dX11_drawn_41 rfl rfl ⟨by unfold aDrwn; first | rw [zII_f zc4] | rw [zII_t zc4, zII_f (fun h => zc17 h.1)] | rw [zII_t zc4, zII_f (fun h => zc27 h.2.1)] | rw [zII_t zc4, zII_f (fun h => zc36 h.2.2)] | exact zzz_open, _, rfl⟩
    · skip
      obtain ⟨zn, -, zhn, rfl⟩ := zc17
      refine z_iload_n hx dX11_drawn_20 rfl ?_
      refine z_iconst (v := nI 1) hx dX11_drawn_21 (by decide) ?_
      refine z_ldc hx dX11_drawn_22 kX11_244 ?_
      refine z_top (b := nI 999999) rfl ?_
      refine z_callisP hx [] (qX11_isWithinN _ _ _ (by decide)) dX11_drawn_24 sX11_74 rfl rfl rfl (by decide) (by decide) rfl (Nat.le_of_ble_eq_true rfl) (by decide) ?_
      first | refine z_if_eqB (tgt := 39) hx dX11_drawn_27 (by decide) (fun zc27 => ?_) (fun zc27 => ?_) | refine z_if_eqN (tgt := 39) hx dX11_drawn_27 (by decide) (by omega) (fun zc27 => ?_) (fun zc27 => ?_) | refine z_if_eq (tgt := 39) hx dX11_drawn_27 (by decide) (fun zc27 => ?_) (fun zc27 => ?_)
      · skip
        refine z_ldc hx dX11_drawn_39 kX11_78 ?_
        exact z_iret hx hF dX11_drawn_41 rfl rfl ⟨by unfold aDrwn; first | rw [zII_f zc4] | rw [zII_t zc4, zII_f (fun h => zc17 h.1)] | rw [zII_t zc4, zII_f (fun h => zc27 h.2.1)] | rw [zII_t zc4, zII_f (fun h => zc36 h.2.2)] | exact zzz_open, _, rfl⟩
      · skip
        obtain ⟨zs, zh1, zhs, rfl⟩ := zc27
        refine z_iload_n hx dX11_drawn_30 rfl ?_
        refine z_iconst (v := nI 0) hx dX11_drawn_31 (by decide) ?_
        refine z_iconst (v := nI 1) hx dX11_drawn_32 (by decide) ?_
        refine z_callisP hx [] (qX11_isWithinN _ _ _ (by decide)) dX11_drawn_33 sX11_74 rfl rfl rfl (by decide) (by decide) rfl (Nat.le_of_ble_eq_true rfl) (by decide) ?_
        first | refine z_if_neB (tgt := 42) hx dX11_drawn_36 (by decide) (fun zc36 => ?_) (fun zc36 => ?_) | refine z_if_neN (tgt := 42) hx dX11_drawn_36 (by decide) (by omega) (fun zc36 => ?_) (fun zc36 => ?_) | refine z_if_ne (tgt := 42) hx dX11_drawn_36 (by decide) (fun zc36 => ?_) (fun zc36 => ?_)
        · skip
          obtain ⟨ze, -, zhe, rfl⟩ := zc36
          refine z_aload_n hx dX11_drawn_42 rfl ?_
          refine z_get hx dX11_drawn_43 fX11_49 hC_0 rfl ?_
          refine z_aload_n hx dX11_drawn_46 rfl ?_
          refine z_get hx dX11_drawn_47 fX11_45 hC_0 rfl ?_
          refine z_callvvE hx gPL (qX4_become P pr po L cr ho) dX11_drawn_50 sX11_133 rfl rfl sub_PL rfl rfl (by decide) (by decide) rfl (Nat.le_of_ble_eq_true rfl) (by decide) ?_
          refine z_heap pt_PL ?_
          refine z_iload_n hx dX11_drawn_53 rfl ?_
          refine z_i2l hx dX11_drawn_54 ?_
          refine z_topL (lN zs) (nI_l (by omega)) ?_
          refine z_lstore hx dX11_drawn_55 (Nat.le_of_ble_eq_true rfl) rfl ?_
          refine z_iconst (v := nI 0) hx dX11_drawn_57 (by decide) ?_
          refine z_istore hx dX11_drawn_58 (Nat.le_of_ble_eq_true rfl) rfl ?_
          refine z_iconst (v := nI 0) hx dX11_drawn_60 (by decide) ?_
          refine z_istore hx dX11_drawn_61 (Nat.le_of_ble_eq_true rfl) rfl ?_
          exact hloop zc4 zn zhn zs zh1 zhs ze zhe hF _ 0 pr po rfl (Nat.zero_le _)
        · skip
          refine z_ldc hx dX11_drawn_39 kX11_78 ?_
          exact z_iret hx hF dX11_drawn_41 rfl rfl ⟨by unfold aDrwn; first | rw [zII_f zc4] | rw [zII_t zc4, zII_f (fun h => zc17 h.1)] | rw [zII_t zc4, zII_f (fun h => zc27 h.2.1)] | rw [zII_t zc4, zII_f (fun h => zc36 h.2.2)] | exact zzz_open, _, rfl⟩
  · skip
    refine z_ldc hx dX11_drawn_7 kX11_147 ?_
    exact z_iret hx hF dX11_drawn_9 rfl rfl ⟨by unfold aDrwn; first | rw [zII_f zc4] | rw [zII_t zc4, zII_f (fun h => zc17 h.1)] | rw [zII_t zc4, zII_f (fun h => zc27 h.2.1)] | rw [zII_t zc4, zII_f (fun h => zc36 h.2.2)] | exact zzz_open, _, rfl⟩

set_option maxHeartbeats 4000000 in
set_option maxRecDepth 100000 in
theorem qX11_status (r : zRw) (t : zTp) (l p : zLk) (i : zLk × zLk) (y : zPy) (a : zAs) (f1 f2 : Nat) : zMi mX11_status 0 ([.ref 0]) (hC (r, t, l, p, i, y, a, (f1, f2))) (fun z u => z = nI f2 ∧ u = hC (r, t, l, p, i, y, a, (f1, f2))) := by
  refine zMi.of (by decide) (Nat.le_of_ble_eq_true rfl) (fun x hx hF => ?_)
  refine z_aload_n hx dX11_status_0 rfl ?_
  refine z_get hx dX11_status_1 fX11_283 hC_0 rfl ?_
  exact z_iret hx hF dX11_status_4 rfl rfl ⟨rfl, rfl⟩

set_option maxHeartbeats 4000000 in
set_option maxRecDepth 100000 in
theorem qX11_fault (r : zRw) (t : zTp) (l p : zLk) (i : zLk × zLk) (y : zPy) (a : zAs) (f1 f2 : Nat) : zMi mX11_fault 0 ([.ref 0]) (hC (r, t, l, p, i, y, a, (f1, f2))) (fun z u => z = nI f1 ∧ u = hC (r, t, l, p, i, y, a, (f1, f2))) := by
  refine zMi.of (by decide) (Nat.le_of_ble_eq_true rfl) (fun x hx hF => ?_)
  refine z_aload_n hx dX11_fault_0 rfl ?_
  refine z_get hx dX11_fault_1 fX11_126 hC_0 rfl ?_
  exact z_iret hx hF dX11_fault_4 rfl rfl ⟨rfl, rfl⟩

noncomputable def aFeed (n : Nat) (v : Int32) : Int32 × Option Nat := zIG (inR 0 255 v) (zIG (n < 100) (nI (n + 1), some (zNat v)) (-1000003, none)) (-1000001, none)
def zOt (o : Option Nat) (t1 t2 t3 : Nat) (t4 : Nat → Nat) (t5 t6 : Nat) : zTp := match o with | none => (t1, t2, t3, t4, t5, t6) | some c => (t1 + 1, t2, t3, zup t4 t1 c, t5, t6)
set_option maxHeartbeats 4000000 in
set_option maxRecDepth 100000 in
theorem qX11_feed (r : zRw) (t1 t2 t3 : Nat) (t4 : Nat → Nat) (t5 t6 : Nat) (l p : zLk) (i : zLk × zLk) (y : zPy) (a : zAs) (f : Nat × Nat) (h1 : t1 ≤ 100) (v : Int32) : zMi mX11_feed 2 ([.ref 0, .int v]) (hC (r, (t1, t2, t3, t4, t5, t6), l, p, i, y, a, f)) (fun z u => ∃ o9, (z, o9) = aFeed t1 v ∧ u = hC (r, zOt o9 t1 t2 t3 t4 t5 t6, l, p, i, y, a, f)) := by
  refine zMi.of (by decide) (Nat.le_of_ble_eq_true rfl) (fun x hx hF => ?_)
  refine z_iload_n hx dX11_feed_0 rfl ?_
  refine z_iconst (v := nI 0) hx dX11_feed_1 (by decide) ?_
  refine z_sipush (v := nI 255) hx dX11_feed_2 (by decide) ?_
  refine z_callisP hx [] (qX11_isWithinN _ _ _ (by decide)) dX11_feed_5 sX11_74 rfl rfl rfl (by decide) (by decide) rfl (Nat.le_of_ble_eq_true rfl) (by decide) ?_
  first | refine z_if_neB (tgt := 14) hx dX11_feed_8 (by decide) (fun zc8 => ?_) (fun zc8 => ?_) | refine z_if_neN (tgt := 14) hx dX11_feed_8 (by decide) (by omega) (fun zc8 => ?_) (fun zc8 => ?_) | refine z_if_ne (tgt := 14) hx dX11_feed_8 (by decide) (fun zc8 => ?_) (fun zc8 => ?_)
  · skip
    obtain ⟨zj, -, zhj, rfl⟩ := zc8
    have hnj : zNat (nI zj) = zj := zNat_nI (by omega)
    refine z_aload_n hx dX11_feed_14 rfl ?_
    refine z_get hx dX11_feed_15 fX11_36 hC_0 rfl ?_
    refine z_get hx dX11_feed_18 fX11_111 hC_13 rfl ?_
    refine z_bipush (v := nI 100) hx dX11_feed_21 (by decide) ?_
    first | refine z_icmp_ltN (tgt := 29) hx dX11_feed_23 (by decide) (by omega) (by omega) (fun zc23 => ?_) (fun zc23 => ?_) | refine z_icmp_lt (tgt := 29) hx dX11_feed_23 (by decide) (fun zc23 => ?_) (fun zc23 => ?_)
    · skip
      refine z_aload_n hx dX11_feed_29 rfl ?_
      refine z_get hx dX11_feed_30 fX11_36 hC_0 rfl ?_
      refine z_iload_n hx dX11_feed_33 rfl ?_
      refine z_callvvE hx [13, 14] (qX9_put t1 t2 t3 t4 t5 t6 (by omega) zj) dX11_feed_34 sX11_116 rfl rfl rfl rfl rfl (by decide) (by decide) rfl (Nat.le_of_ble_eq_true rfl) (by decide) ?_
      refine z_heap (show _ = hC (r, (t1 + 1, t2, t3, zup t4 t1 zj, t5, t6), l, p, i, y, a, f) from rfl) ?_
      refine z_aload_n hx dX11_feed_37 rfl ?_
      refine z_get hx dX11_feed_38 fX11_36 hC_0 rfl ?_
      refine z_get hx dX11_feed_41 fX11_111 hC_13 rfl ?_
      exact z_iret hx hF dX11_feed_44 rfl rfl ⟨some zj, by unfold aFeed; first | rw [zIG_f (c := inR 0 255 v) zc8] | rw [zIG_t (c := inR 0 255 _) ⟨zj, Nat.zero_le _, zhj, rfl⟩, zIG_f (by omega)] | rw [zIG_t (c := inR 0 255 _) ⟨zj, Nat.zero_le _, zhj, rfl⟩, zIG_t (by omega), hnj] | exact zzz_open, rfl⟩
    · skip
      refine z_ldc hx dX11_feed_26 kX11_115 ?_
      exact z_iret hx hF dX11_feed_28 rfl rfl ⟨none, by unfold aFeed; first | rw [zIG_f (c := inR 0 255 v) zc8] | rw [zIG_t (c := inR 0 255 _) ⟨zj, Nat.zero_le _, zhj, rfl⟩, zIG_f (by omega)] | rw [zIG_t (c := inR 0 255 _) ⟨zj, Nat.zero_le _, zhj, rfl⟩, zIG_t (by omega), hnj] | exact zzz_open, rfl⟩
  · skip
    refine z_ldc hx dX11_feed_11 kX11_78 ?_
    exact z_iret hx hF dX11_feed_13 rfl rfl ⟨none, by unfold aFeed; first | rw [zIG_f (c := inR 0 255 v) zc8] | rw [zIG_t (c := inR 0 255 _) ⟨zj, Nat.zero_le _, zhj, rfl⟩, zIG_f (by omega)] | rw [zIG_t (c := inR 0 255 _) ⟨zj, Nat.zero_le _, zhj, rfl⟩, zIG_t (by omega), hnj] | exact zzz_open, rfl⟩

noncomputable def aCnt (sz : Nat → Option Nat) (L : zL) (n m : Nat) (w : Int32) : Int32 := if w = nI 0 then nI (zHm sz 8) else if w = nI 1 then nI (lS L) else if w = nI 2 then nI (lP L) else if w = nI 3 then nI (lM L) else if w = nI 4 then nI (lB L) else if w = nI 5 then nI (zTh L (lP L)) else if w = nI 6 then nI n else if w = nI 7 then nI m else -1000001
theorem zsw7 (w : Int32) : w = nI 0 ∨ w = nI 1 ∨ w = nI 2 ∨ w = nI 3 ∨ w = nI 4 ∨ w = nI 5 ∨ w = nI 6 ∨ w = nI 7 ∨ (¬ inR 0 7 w ∧ (w.toInt < 0 ∨ 7 < w.toInt)) := by
  by_cases h : inR 0 7 w
  · obtain ⟨k, -, hk, rfl⟩ := h
    rcases (show k = 0 ∨ k = 1 ∨ k = 2 ∨ k = 3 ∨ k = 4 ∨ k = 5 ∨ k = 6 ∨ k = 7 by omega) with rfl | rfl | rfl | rfl | rfl | rfl | rfl | rfl <;> simp
  · refine Or.inr (Or.inr (Or.inr (Or.inr (Or.inr (Or.inr (Or.inr (Or.inr ⟨h, ?_⟩)))))))
    have h2 : ¬ (nI 0 ≤ w ∧ w ≤ nI 7) := fun q => h ((zinN2 (by decide) (by decide)).mp q)
    rw [Int32.le_iff_toInt_le, Int32.le_iff_toInt_le, nI_toInt (by decide), nI_toInt (by decide)] at h2
    omega
theorem aCnt_x {sz : Nat → Option Nat} {L : zL} {n m : Nat} {w : Int32} (h : ¬ inR 0 7 w) : aCnt sz L n m w = -1000001 := by
  have hk : ∀ k, k ≤ 7 → ¬ w = nI k := fun k hk e => h ⟨k, Nat.zero_le _, hk, e⟩
  unfold aCnt
  rw [if_neg (hk 0 (by decide)), if_neg (hk 1 (by decide)), if_neg (hk 2 (by decide)), if_neg (hk 3 (by decide)), if_neg (hk 4 (by decide)), if_neg (hk 5 (by decide)), if_neg (hk 6 (by decide)), if_neg (hk 7 (by decide))]
set_option maxHeartbeats 4000000 in
set_option maxRecDepth 100000 in
theorem qX11_count (la : Nat → Nat) (sz : Nat → Option Nat) (it : Nat → Nat → Int32) (t1 t2 t3 : Nat) (t4 : Nat → Nat) (t5 t6 : Nat) (L : zL) (cr ho : Nat → Nat) (p : zLk) (i : zLk × zLk) (y1 y2 : Nat) (y3 : Nat → Nat) (a : zAs) (f : Nat × Nat) (hw : zWf L) (hs : zRok sz) (w : Int32) : zMi mX11_count 2 ([.ref 0, .int w]) (hC ((la, sz, it), (t1, t2, t3, t4, t5, t6), (L, cr, ho), p, i, (y1, y2, y3), a, f)) (fun z u => z = aCnt sz L y1 t1 w ∧ u = hC ((la, sz, it), (t1, t2, t3, t4, t5, t6), (L, cr, ho), p, i, (y1, y2, y3), a, f)) := by
  refine zMi.of (by decide) (Nat.le_of_ble_eq_true rfl) (fun x hx hF => ?_)
  refine z_iload_n hx dX11_count_0 rfl ?_
  rcases zsw7 w with rfl | rfl | rfl | rfl | rfl | rfl | rfl | rfl | zsn
  · skip
    refine z_tableIn (off := 47) (tgt := 48) hx dX11_count_1 (by decide) (by decide) rfl (by decide) ?_
    refine z_aload_n hx dX11_count_48 rfl ?_
    refine z_get hx dX11_count_49 fX11_27 hC_0 rfl ?_
    refine z_callivP hx gSh (qX8_howMany la sz it hs) dX11_count_52 sX11_277 rfl rfl sub_Sh rfl rfl (by decide) (by decide) rfl (Nat.le_of_ble_eq_true rfl) (by decide) ?_
    exact z_iret hx hF dX11_count_55 rfl rfl ⟨by first | exact (aCnt_x zsn.1).symm | rfl, rfl⟩
  · skip
    refine z_tableIn (off := 55) (tgt := 56) hx dX11_count_1 (by decide) (by decide) rfl (by decide) ?_
    refine z_aload_n hx dX11_count_56 rfl ?_
    refine z_get hx dX11_count_57 fX11_45 hC_0 rfl ?_
    refine z_get hx dX11_count_60 fX11_219 hC_15 rfl ?_
    exact z_iret hx hF dX11_count_63 rfl rfl ⟨by first | exact (aCnt_x zsn.1).symm | rfl, rfl⟩
  · skip
    refine z_tableIn (off := 63) (tgt := 64) hx dX11_count_1 (by decide) (by decide) rfl (by decide) ?_
    refine z_aload_n hx dX11_count_64 rfl ?_
    refine z_get hx dX11_count_65 fX11_45 hC_0 rfl ?_
    refine z_get hx dX11_count_68 fX11_140 hC_15 rfl ?_
    exact z_iret hx hF dX11_count_71 rfl rfl ⟨by first | exact (aCnt_x zsn.1).symm | rfl, rfl⟩
  · skip
    refine z_tableIn (off := 71) (tgt := 72) hx dX11_count_1 (by decide) (by decide) rfl (by decide) ?_
    refine z_aload_n hx dX11_count_72 rfl ?_
    refine z_get hx dX11_count_73 fX11_45 hC_0 rfl ?_
    refine z_get hx dX11_count_76 fX11_148 hC_15 rfl ?_
    exact z_iret hx hF dX11_count_79 rfl rfl ⟨by first | exact (aCnt_x zsn.1).symm | rfl, rfl⟩
  · skip
    refine z_tableIn (off := 79) (tgt := 80) hx dX11_count_1 (by decide) (by decide) rfl (by decide) ?_
    refine z_aload_n hx dX11_count_80 rfl ?_
    refine z_get hx dX11_count_81 fX11_45 hC_0 rfl ?_
    refine z_get hx dX11_count_84 fX11_280 hC_15 rfl ?_
    exact z_iret hx hF dX11_count_87 rfl rfl ⟨by first | exact (aCnt_x zsn.1).symm | rfl, rfl⟩
  · skip
    refine z_tableIn (off := 87) (tgt := 88) hx dX11_count_1 (by decide) (by decide) rfl (by decide) ?_
    refine z_aload_n hx dX11_count_88 rfl ?_
    refine z_get hx dX11_count_89 fX11_45 hC_0 rfl ?_
    refine z_callivP hx gLn (qX4_thereBits L cr ho hw) dX11_count_92 sX11_157 rfl rfl (sub_Ln _ _ _ _ _ _ _ _ _ _) rfl rfl (by decide) (by decide) rfl (Nat.le_of_ble_eq_true rfl) (by decide) ?_
    exact z_iret hx hF dX11_count_95 rfl rfl ⟨by first | exact (aCnt_x zsn.1).symm | rfl, rfl⟩
  · skip
    refine z_tableIn (off := 95) (tgt := 96) hx dX11_count_1 (by decide) (by decide) rfl (by decide) ?_
    refine z_aload_n hx dX11_count_96 rfl ?_
    refine z_get hx dX11_count_97 fX11_59 hC_0 rfl ?_
    refine z_get hx dX11_count_100 fX11_181 hC_48 rfl ?_
    exact z_iret hx hF dX11_count_103 rfl rfl ⟨by first | exact (aCnt_x zsn.1).symm | rfl, rfl⟩
  · skip
    refine z_tableIn (off := 103) (tgt := 104) hx dX11_count_1 (by decide) (by decide) rfl (by decide) ?_
    refine z_aload_n hx dX11_count_104 rfl ?_
    refine z_get hx dX11_count_105 fX11_36 hC_0 rfl ?_
    refine z_get hx dX11_count_108 fX11_111 hC_13 rfl ?_
    exact z_iret hx hF dX11_count_111 rfl rfl ⟨by first | exact (aCnt_x zsn.1).symm | rfl, rfl⟩
  · skip
    refine z_tableOut (tgt := 112) hx dX11_count_1 zsn.2 (by decide) ?_
    refine z_ldc hx dX11_count_112 kX11_78 ?_
    exact z_iret hx hF dX11_count_114 rfl rfl ⟨by first | exact (aCnt_x zsn.1).symm | rfl, rfl⟩

