set_option maxHeartbeats 4000000 in
set_option maxRecDepth 100000 in
theorem qX12_fault (r : zMR) (ls : Nat → Nat) (sz fk : Nat) (fp : Int32) (ca cs ct : Nat) (cv : Int32) (L : zL) (dr tr : Nat → Nat) (y : zMY) (a : zMA) : zMi mX12_fault 0 ([.ref 0]) (hMt r (ls) (sz) fk fp ca cs ct cv L dr tr y a) (fun z u => z = nI fk ∧ u = hMt r (ls) (sz) fk fp ca cs ct cv L dr tr y a) := by
  refine zMi.of (by decide) (Nat.le_of_ble_eq_true rfl) (fun x hx hF => ?_)
  refine z_aload_n hx dX12_fault_0 rfl ?_
  refine z_get hx dX12_fault_1 fX12_105 rfl rfl ?_
  exact z_iret hx hF dX12_fault_4 rfl rfl ⟨rfl, rfl⟩

set_option maxHeartbeats 4000000 in
set_option maxRecDepth 100000 in
theorem qX12_status (ln : Nat → Int32) (mn : Nat → Nat) (im sp : Nat → Int32) (st : Nat) (t : zMT) (L : zL) (dr tr : Nat → Nat) (y : zMY) (a : zMA) : zMi mX12_status 0 ([.ref 0]) (hMr ln mn im sp st t L dr tr y a) (fun z u => z = nI st ∧ u = hMr ln mn im sp st t L dr tr y a) := by
  refine zMi.of (by decide) (Nat.le_of_ble_eq_true rfl) (fun x hx hF => ?_)
  refine z_aload_n hx dX12_status_0 rfl ?_
  refine z_get hx dX12_status_1 fX12_48 rfl rfl ?_
  exact z_iret hx hF dX12_status_4 rfl rfl ⟨rfl, rfl⟩

def zOl9 (o : Option Nat) (ls : Nat → Nat) (n : Nat) : Nat → Nat := match o with | none => ls | some c => zup ls n c
def zOs9 (o : Option Nat) (n : Nat) : Nat := match o with | none => n | some _ => n + 1
set_option maxHeartbeats 4000000 in
set_option maxRecDepth 100000 in
theorem qX12_feed (r : zMR) (ls : Nat → Nat) (sz fk : Nat) (fp : Int32) (ca cs ct : Nat) (cv : Int32) (L : zL) (dr tr : Nat → Nat) (y : zMY) (a : zMA) (h1 : sz ≤ 100) (v : Int32) : zMi mX12_feed 1 ([.ref 0, .int v]) (hMt r (ls) (sz) fk fp ca cs ct cv L dr tr y a) (fun z u => ∃ o9, (z, o9) = aFeed sz v ∧ u = hMt r (zOl9 o9 ls sz) (zOs9 o9 sz) fk fp ca cs ct cv L dr tr y a) := by
  refine zMi.of (by decide) (Nat.le_of_ble_eq_true rfl) (fun x hx hF => ?_)
  refine z_iload_n hx dX12_feed_0 rfl ?_
  refine z_iconst (v := nI 0) hx dX12_feed_1 (by decide) ?_
  refine z_sipush (v := nI 255) hx dX12_feed_2 (by decide) ?_
  refine z_callisP hx [] (qX12_inN _ _ _ (by decide)) dX12_feed_5 sX12_53 rfl rfl rfl (by decide) (by decide) rfl (Nat.le_of_ble_eq_true rfl) (by decide) ?_
  first | refine z_if_neB (tgt := 14) hx dX12_feed_8 (by decide) (fun zc8 => ?_) (fun zc8 => ?_) | refine z_if_neN (tgt := 14) hx dX12_feed_8 (by decide) (by omega) (fun zc8 => ?_) (fun zc8 => ?_) | refine z_if_ne (tgt := 14) hx dX12_feed_8 (by decide) (fun zc8 => ?_) (fun zc8 => ?_)
  · skip
    obtain ⟨zj, -, zhj, rfl⟩ := zc8
    have hnj : zNat (nI zj) = zj := zNat_nI (by omega)
    refine z_aload_n hx dX12_feed_14 rfl ?_
    refine z_get hx dX12_feed_15 fX12_79 rfl rfl ?_
    refine z_bipush (v := nI 100) hx dX12_feed_18 (by decide) ?_
    first | refine z_icmp_neN (tgt := 26) hx dX12_feed_20 (by decide) (by omega) (by omega) (fun zc20 => ?_) (fun zc20 => ?_) | refine z_icmp_ne (tgt := 26) hx dX12_feed_20 (by decide) (fun zc20 => ?_) (fun zc20 => ?_)
    · skip
      refine z_aload_n hx dX12_feed_26 rfl ?_
      refine z_get hx dX12_feed_27 fX12_22 rfl rfl ?_
      refine z_aload_n hx dX12_feed_30 rfl ?_
      refine z_get hx dX12_feed_31 fX12_79 rfl rfl ?_
      refine z_iload_n hx dX12_feed_34 rfl ?_
      first | refine z_iastN hx dX12_feed_35 rfl (by decide) (by omega) ?_ | refine z_iastJ hx dX12_feed_35 rfl (by decide) (by omega) ?_
      refine z_aload_n hx dX12_feed_36 rfl ?_
      refine z_dup hx dX12_feed_37 rfl ?_
      refine z_get hx dX12_feed_38 fX12_79 rfl rfl ?_
      refine z_iconst (v := nI 1) hx dX12_feed_41 (by decide) ?_
      first | refine z_iaddN hx dX12_feed_42 ?_ | refine z_iadd hx dX12_feed_42 ?_
      refine z_puti hx dX12_feed_43 pX12_79 rfl (Nat.le_of_ble_eq_true rfl) ?_
      refine z_aload_n hx dX12_feed_46 rfl ?_
      refine z_get hx dX12_feed_47 fX12_79 rfl rfl ?_
      exact z_iret hx hF dX12_feed_50 rfl rfl ⟨some zj, by unfold aFeed; first | rw [zIG_f (c := inR 0 255 v) zc8] | rw [zIG_t (c := inR 0 255 _) ⟨zj, Nat.zero_le _, zhj, rfl⟩, zIG_f (by omega)] | rw [zIG_t (c := inR 0 255 _) ⟨zj, Nat.zero_le _, zhj, rfl⟩, zIG_t (by omega), hnj] | exact zzz_open, rfl⟩
    · skip
      refine z_ldc hx dX12_feed_23 kX12_82 ?_
      exact z_iret hx hF dX12_feed_25 rfl rfl ⟨none, by unfold aFeed; first | rw [zIG_f (c := inR 0 255 v) zc8] | rw [zIG_t (c := inR 0 255 _) ⟨zj, Nat.zero_le _, zhj, rfl⟩, zIG_f (by omega)] | rw [zIG_t (c := inR 0 255 _) ⟨zj, Nat.zero_le _, zhj, rfl⟩, zIG_t (by omega), hnj] | exact zzz_open, rfl⟩
  · skip
    refine z_ldc hx dX12_feed_11 kX12_61 ?_
    exact z_iret hx hF dX12_feed_13 rfl rfl ⟨none, by unfold aFeed; first | rw [zIG_f (c := inR 0 255 v) zc8] | rw [zIG_t (c := inR 0 255 _) ⟨zj, Nat.zero_le _, zhj, rfl⟩, zIG_f (by omega)] | rw [zIG_t (c := inR 0 255 _) ⟨zj, Nat.zero_le _, zhj, rfl⟩, zIG_t (by omega), hnj] | exact zzz_open, rfl⟩

set_option maxHeartbeats 4000000 in
set_option maxRecDepth 100000 in
theorem qX12_trace (r : zMR) (t : zMT) (L : zL) (dr tr : Nat → Nat) (y : zMY) (b : Nat → Nat) (c : Nat) (hc : c ≤ 16) (v : Int32) : zMi mX12_trace 1 ([.ref 0, .int v]) (hM r t L dr tr y (b, c)) (fun z u => z = zII (inP c v) (nI (b (zNat v))) (-1000000) ∧ u = hM r t L dr tr y (b, c)) := by
  refine zMi.of (by decide) (Nat.le_of_ble_eq_true rfl) (fun x hx hF => ?_)
  refine z_iload_n hx dX12_trace_0 rfl ?_
  refine z_iconst (v := nI 0) hx dX12_trace_1 (by decide) ?_
  refine z_aload_n hx dX12_trace_2 rfl ?_
  refine z_get hx dX12_trace_3 fX12_214 rfl rfl ?_
  refine z_topN (b := c) rfl ?_
  refine z_iconst (v := nI 1) hx dX12_trace_6 (by decide) ?_
  refine z_isub hx dX12_trace_7 ?_
  refine z_callisP hx [] (qX12_inP _ _ (by omega)) dX12_trace_8 sX12_53 rfl rfl rfl (by decide) (by decide) rfl (Nat.le_of_ble_eq_true rfl) (by decide) ?_
  first | refine z_if_eqB (tgt := 23) hx dX12_trace_11 (by decide) (fun zc11 => ?_) (fun zc11 => ?_) | refine z_if_eqN (tgt := 23) hx dX12_trace_11 (by decide) (by omega) (fun zc11 => ?_) (fun zc11 => ?_) | refine z_if_eq (tgt := 23) hx dX12_trace_11 (by decide) (fun zc11 => ?_) (fun zc11 => ?_)
  · skip
    refine z_ldc hx dX12_trace_23 kX12_47 ?_
    exact z_iret hx hF dX12_trace_25 rfl rfl ⟨by first | rw [zII_f (c := inP c v) zc11] | rw [zII_t ⟨zj, zhj, rfl⟩, zNat_nI (by omega)], rfl⟩
  · skip
    obtain ⟨zj, zhj, rfl⟩ := zc11
    refine z_aload_n hx dX12_trace_14 rfl ?_
    refine z_get hx dX12_trace_15 fX12_44 rfl rfl ?_
    refine z_iload_n hx dX12_trace_18 rfl ?_
    refine z_ialdJ hx dX12_trace_19 rfl (by decide) (by omega) ?_
    refine z_topN (b := b zj) rfl ?_
    refine z_goto (tgt := 25) hx dX12_trace_20 (by decide) ?_
    exact z_iret hx hF dX12_trace_25 rfl rfl ⟨by first | rw [zII_f (c := inP c v) zc11] | rw [zII_t ⟨zj, zhj, rfl⟩, zNat_nI (by omega)], rfl⟩

set_option maxHeartbeats 4000000 in
set_option maxRecDepth 100000 in
theorem qX12_begins (r : zMR) (t : zMT) (L : zL) (dr tr : Nat → Nat) (y : zMY) (b : Nat → Nat) (c : Nat) (hc : c < 16) (v : Nat) : zMv mX12_begins 0 ([.ref 0, .int (nI v)]) (hM r t L dr tr y (b, c)) (fun u => u = hM r t L dr tr y (zup b c v, c + 1)) := by
  refine zMv.of (by decide) (Nat.le_of_ble_eq_true rfl) (fun x hx hF => ?_)
  refine z_aload_n hx dX12_begins_0 rfl ?_
  refine z_get hx dX12_begins_1 fX12_214 rfl rfl ?_
  refine z_topN (b := c) rfl ?_
  refine z_bipush (v := nI 16) hx dX12_begins_4 (by decide) ?_
  first | refine z_icmp_geN (tgt := 29) hx dX12_begins_6 (by decide) (by omega) (by omega) (fun zc6 => ?_) (fun zc6 => ?_) | refine z_icmp_ge (tgt := 29) hx dX12_begins_6 (by decide) (fun zc6 => ?_) (fun zc6 => ?_)
  · skip
    exfalso; omega
  · skip
    refine z_aload_n hx dX12_begins_9 rfl ?_
    refine z_get hx dX12_begins_10 fX12_44 rfl rfl ?_
    refine z_aload_n hx dX12_begins_13 rfl ?_
    refine z_get hx dX12_begins_14 fX12_214 rfl rfl ?_
    refine z_topN (b := c) rfl ?_
    refine z_iload_n hx dX12_begins_17 rfl ?_
    first | refine z_iastN hx dX12_begins_18 rfl (by decide) (by omega) ?_ | refine z_iastJ hx dX12_begins_18 rfl (by decide) (by omega) ?_
    refine z_aload_n hx dX12_begins_19 rfl ?_
    refine z_dup hx dX12_begins_20 rfl ?_
    refine z_get hx dX12_begins_21 fX12_214 rfl rfl ?_
    refine z_topN (b := c) rfl ?_
    refine z_iconst (v := nI 1) hx dX12_begins_24 (by decide) ?_
    first | refine z_iaddN hx dX12_begins_25 ?_ | refine z_iadd hx dX12_begins_25 ?_
    refine z_puti hx dX12_begins_26 pX12_214 rfl (Nat.le_of_ble_eq_true rfl) ?_
    exact z_vret hx hF dX12_begins_29 rfl rfl rfl

set_option maxHeartbeats 4000000 in
set_option maxRecDepth 100000 in
theorem qX12_plainMark_1 (r : zMR) (t : zMT) (L : zL) (dr tr : Nat → Nat) (y : zMY) (b : Nat → Nat) (c : Nat) (hw : zWf L) (q : Nat) (hq : q < lP L) (e9 : lK L q = 1) (hc : c + 2 ≤ 16) : zMi mX12_plainMark 2 ([.ref 0, .int (nI q)]) (hM r t L dr tr y (b, c)) (fun z u => z = nI (q + lT L q) ∧ u = hM r t L dr tr y ((zup (zup (b) (c) 21) (c + 1) 20), c + 1 + 1)) := by
  refine zMi.of (by decide) (Nat.le_of_ble_eq_true rfl) (fun x hx hF => ?_)
  obtain ⟨w1, w2, w3, w4, w5⟩ := id hw
  have w6 := w5 q hq
  refine z_aload_n hx dX12_plainMark_0 rfl ?_
  refine z_iload_n hx dX12_plainMark_1 rfl ?_
  refine z_callivF hx (qX12_kindIn r t L dr tr y ((b), c) hw q hq) dX12_plainMark_2 sX12_211 rfl rfl rfl rfl (Nat.le_of_ble_eq_true rfl) rfl (Nat.le_of_ble_eq_true rfl) (by decide) ?_
  refine z_topN e9 ?_
  refine z_istore_n hx dX12_plainMark_5 (Nat.le_of_ble_eq_true rfl) rfl ?_
  refine z_iload_n hx dX12_plainMark_6 rfl ?_
  refine z_iconst (v := nI 1) hx dX12_plainMark_7 (by decide) ?_
  refine z_icmp_eqN (tgt := 27) hx dX12_plainMark_8 (by decide) (by omega) (by omega) (fun zc8 => ?_) (fun zc8 => ?_)
  · skip
    refine z_aload_n hx dX12_plainMark_27 rfl ?_
    refine z_bipush (v := nI 21) hx dX12_plainMark_28 (by decide) ?_
    refine z_callvvF hx (qX12_begins r t L dr tr y (b) (c) (by omega) 21) dX12_plainMark_30 sX12_217 rfl rfl rfl rfl (Nat.le_of_ble_eq_true rfl) rfl (Nat.le_of_ble_eq_true rfl) (by decide) ?_
    refine z_aload_n hx dX12_plainMark_33 rfl ?_
    refine z_bipush (v := nI 20) hx dX12_plainMark_34 (by decide) ?_
    refine z_callvvF hx (qX12_begins r t L dr tr y (zup (b) (c) 21) (c + 1) (by omega) 20) dX12_plainMark_36 sX12_217 rfl rfl rfl rfl (Nat.le_of_ble_eq_true rfl) rfl (Nat.le_of_ble_eq_true rfl) (by decide) ?_
    refine z_iload_n hx dX12_plainMark_39 rfl ?_
    refine z_aload_n hx dX12_plainMark_40 rfl ?_
    refine z_get hx dX12_plainMark_41 fX12_25 rfl rfl ?_
    refine z_iconst (v := nI 4) hx dX12_plainMark_44 (by decide) ?_
    refine z_iconst (v := nI 5) hx dX12_plainMark_45 (by decide) ?_
    refine z_iload_n hx dX12_plainMark_46 rfl ?_
    first | refine z_imulN hx dX12_plainMark_47 ?_ | refine z_imul hx dX12_plainMark_47 ?_
    first | refine z_iaddN hx dX12_plainMark_48 ?_ | refine z_iadd hx dX12_plainMark_48 ?_
    refine z_iconst (v := nI 4) hx dX12_plainMark_49 (by decide) ?_
    first | refine z_iaddN hx dX12_plainMark_50 ?_ | refine z_iadd hx dX12_plainMark_50 ?_
    refine z_ialdJ hx dX12_plainMark_51 rfl (by decide) (by omega) ?_
    refine z_topN (fl_T L q) ?_
    first | refine z_iaddN hx dX12_plainMark_52 ?_ | refine z_iadd hx dX12_plainMark_52 ?_
    refine z_istore_n hx dX12_plainMark_53 (Nat.le_of_ble_eq_true rfl) rfl ?_
    refine z_iload_n hx dX12_plainMark_54 rfl ?_
    refine z_iconst (v := nI 2) hx dX12_plainMark_55 (by decide) ?_
    refine z_icmp_neN (tgt := 65) hx dX12_plainMark_56 (by decide) (by omega) (by omega) (fun zc56 => ?_) (fun zc56 => ?_)
    · skip
      refine z_iload_n hx dX12_plainMark_65 rfl ?_
      refine z_iconst (v := nI 3) hx dX12_plainMark_66 (by decide) ?_
      refine z_icmp_neN (tgt := 78) hx dX12_plainMark_67 (by decide) (by omega) (by omega) (fun zc67 => ?_) (fun zc67 => ?_)
      · skip
        refine z_iload_n hx dX12_plainMark_78 rfl ?_
        exact z_iret hx hF dX12_plainMark_79 rfl rfl ⟨rfl, rfl⟩
      · skip
        exfalso; omega
    · skip
      exfalso; omega
  · skip
    exfalso; omega

set_option maxHeartbeats 4000000 in
set_option maxRecDepth 100000 in
theorem qX12_plainMark_2 (r : zMR) (t : zMT) (L : zL) (dr tr : Nat → Nat) (y : zMY) (b : Nat → Nat) (c : Nat) (hw : zWf L) (q : Nat) (hq : q < lP L) (e9 : lK L q = 2) (hc : c + 3 ≤ 16) : zMi mX12_plainMark 2 ([.ref 0, .int (nI q)]) (hM r t L dr tr y (b, c)) (fun z u => z = nI (2 * (q + lT L q)) ∧ u = hM r t L dr tr y ((zup (zup (zup (b) (c) 24) (c + 1) 21) (c + 1 + 1) 20), c + 1 + 1 + 1)) := by
  refine zMi.of (by decide) (Nat.le_of_ble_eq_true rfl) (fun x hx hF => ?_)
  obtain ⟨w1, w2, w3, w4, w5⟩ := id hw
  have w6 := w5 q hq
  refine z_aload_n hx dX12_plainMark_0 rfl ?_
  refine z_iload_n hx dX12_plainMark_1 rfl ?_
  refine z_callivF hx (qX12_kindIn r t L dr tr y ((b), c) hw q hq) dX12_plainMark_2 sX12_211 rfl rfl rfl rfl (Nat.le_of_ble_eq_true rfl) rfl (Nat.le_of_ble_eq_true rfl) (by decide) ?_
  refine z_topN e9 ?_
  refine z_istore_n hx dX12_plainMark_5 (Nat.le_of_ble_eq_true rfl) rfl ?_
  refine z_iload_n hx dX12_plainMark_6 rfl ?_
  refine z_iconst (v := nI 1) hx dX12_plainMark_7 (by decide) ?_
  refine z_icmp_eqN (tgt := 27) hx dX12_plainMark_8 (by decide) (by omega) (by omega) (fun zc8 => ?_) (fun zc8 => ?_)
  · skip
    exfalso; omega
  · skip
    refine z_aload_n hx dX12_plainMark_11 rfl ?_
    refine z_iload_n hx dX12_plainMark_12 rfl ?_
    refine z_iconst (v := nI 2) hx dX12_plainMark_13 (by decide) ?_
    refine z_icmp_neN (tgt := 22) hx dX12_plainMark_14 (by decide) (by omega) (by omega) (fun zc14 => ?_) (fun zc14 => ?_)
    · skip
      exfalso; omega
    · skip
      refine z_bipush (v := nI 24) hx dX12_plainMark_17 (by decide) ?_
      refine z_goto (tgt := 24) hx dX12_plainMark_19 (by decide) ?_
      refine z_callvvF hx (qX12_begins r t L dr tr y (b) (c) (by omega) 24) dX12_plainMark_24 sX12_217 rfl rfl rfl rfl (Nat.le_of_ble_eq_true rfl) rfl (Nat.le_of_ble_eq_true rfl) (by decide) ?_
      refine z_aload_n hx dX12_plainMark_27 rfl ?_
      refine z_bipush (v := nI 21) hx dX12_plainMark_28 (by decide) ?_
      refine z_callvvF hx (qX12_begins r t L dr tr y (zup (b) (c) 24) (c + 1) (by omega) 21) dX12_plainMark_30 sX12_217 rfl rfl rfl rfl (Nat.le_of_ble_eq_true rfl) rfl (Nat.le_of_ble_eq_true rfl) (by decide) ?_
      refine z_aload_n hx dX12_plainMark_33 rfl ?_
      refine z_bipush (v := nI 20) hx dX12_plainMark_34 (by decide) ?_
      refine z_callvvF hx (qX12_begins r t L dr tr y (zup (zup (b) (c) 24) (c + 1) 21) (c + 1 + 1) (by omega) 20) dX12_plainMark_36 sX12_217 rfl rfl rfl rfl (Nat.le_of_ble_eq_true rfl) rfl (Nat.le_of_ble_eq_true rfl) (by decide) ?_
      refine z_iload_n hx dX12_plainMark_39 rfl ?_
      refine z_aload_n hx dX12_plainMark_40 rfl ?_
      refine z_get hx dX12_plainMark_41 fX12_25 rfl rfl ?_
      refine z_iconst (v := nI 4) hx dX12_plainMark_44 (by decide) ?_
      refine z_iconst (v := nI 5) hx dX12_plainMark_45 (by decide) ?_
      refine z_iload_n hx dX12_plainMark_46 rfl ?_
      first | refine z_imulN hx dX12_plainMark_47 ?_ | refine z_imul hx dX12_plainMark_47 ?_
      first | refine z_iaddN hx dX12_plainMark_48 ?_ | refine z_iadd hx dX12_plainMark_48 ?_
      refine z_iconst (v := nI 4) hx dX12_plainMark_49 (by decide) ?_
      first | refine z_iaddN hx dX12_plainMark_50 ?_ | refine z_iadd hx dX12_plainMark_50 ?_
      refine z_ialdJ hx dX12_plainMark_51 rfl (by decide) (by omega) ?_
      refine z_topN (fl_T L q) ?_
      first | refine z_iaddN hx dX12_plainMark_52 ?_ | refine z_iadd hx dX12_plainMark_52 ?_
      refine z_istore_n hx dX12_plainMark_53 (Nat.le_of_ble_eq_true rfl) rfl ?_
      refine z_iload_n hx dX12_plainMark_54 rfl ?_
      refine z_iconst (v := nI 2) hx dX12_plainMark_55 (by decide) ?_
      refine z_icmp_neN (tgt := 65) hx dX12_plainMark_56 (by decide) (by omega) (by omega) (fun zc56 => ?_) (fun zc56 => ?_)
      · skip
        exfalso; omega
      · skip
        refine z_iconst (v := nI 2) hx dX12_plainMark_59 (by decide) ?_
        refine z_iload_n hx dX12_plainMark_60 rfl ?_
        first | refine z_imulN hx dX12_plainMark_61 ?_ | refine z_imul hx dX12_plainMark_61 ?_
        refine z_goto (tgt := 79) hx dX12_plainMark_62 (by decide) ?_
        exact z_iret hx hF dX12_plainMark_79 rfl rfl ⟨rfl, rfl⟩

set_option maxHeartbeats 4000000 in
set_option maxRecDepth 100000 in
theorem qX12_plainMark_3 (r : zMR) (t : zMT) (L : zL) (dr tr : Nat → Nat) (y : zMY) (b : Nat → Nat) (c : Nat) (hw : zWf L) (q : Nat) (hq : q < lP L) (e9 : lK L q = 3) (hc : c + 3 ≤ 16) : zMi mX12_plainMark 2 ([.ref 0, .int (nI q)]) (hM r t L dr tr y (b, c)) (fun z u => z = nI (q + lT L q) - nI 1000 ∧ u = hM r t L dr tr y ((zup (zup (zup (b) (c) 22) (c + 1) 21) (c + 1 + 1) 20), c + 1 + 1 + 1)) := by
  refine zMi.of (by decide) (Nat.le_of_ble_eq_true rfl) (fun x hx hF => ?_)
  obtain ⟨w1, w2, w3, w4, w5⟩ := id hw
  have w6 := w5 q hq
  refine z_aload_n hx dX12_plainMark_0 rfl ?_
  refine z_iload_n hx dX12_plainMark_1 rfl ?_
  refine z_callivF hx (qX12_kindIn r t L dr tr y ((b), c) hw q hq) dX12_plainMark_2 sX12_211 rfl rfl rfl rfl (Nat.le_of_ble_eq_true rfl) rfl (Nat.le_of_ble_eq_true rfl) (by decide) ?_
  refine z_topN e9 ?_
  refine z_istore_n hx dX12_plainMark_5 (Nat.le_of_ble_eq_true rfl) rfl ?_
  refine z_iload_n hx dX12_plainMark_6 rfl ?_
  refine z_iconst (v := nI 1) hx dX12_plainMark_7 (by decide) ?_
  refine z_icmp_eqN (tgt := 27) hx dX12_plainMark_8 (by decide) (by omega) (by omega) (fun zc8 => ?_) (fun zc8 => ?_)
  · skip
    exfalso; omega
  · skip
    refine z_aload_n hx dX12_plainMark_11 rfl ?_
    refine z_iload_n hx dX12_plainMark_12 rfl ?_
    refine z_iconst (v := nI 2) hx dX12_plainMark_13 (by decide) ?_
    refine z_icmp_neN (tgt := 22) hx dX12_plainMark_14 (by decide) (by omega) (by omega) (fun zc14 => ?_) (fun zc14 => ?_)
    · skip
      refine z_bipush (v := nI 22) hx dX12_plainMark_22 (by decide) ?_
      refine z_callvvF hx (qX12_begins r t L dr tr y (b) (c) (by omega) 22) dX12_plainMark_24 sX12_217 rfl rfl rfl rfl (Nat.le_of_ble_eq_true rfl) rfl (Nat.le_of_ble_eq_true rfl) (by decide) ?_
      refine z_aload_n hx dX12_plainMark_27 rfl ?_
      refine z_bipush (v := nI 21) hx dX12_plainMark_28 (by decide) ?_
      refine z_callvvF hx (qX12_begins r t L dr tr y (zup (b) (c) 22) (c + 1) (by omega) 21) dX12_plainMark_30 sX12_217 rfl rfl rfl rfl (Nat.le_of_ble_eq_true rfl) rfl (Nat.le_of_ble_eq_true rfl) (by decide) ?_
      refine z_aload_n hx dX12_plainMark_33 rfl ?_
      refine z_bipush (v := nI 20) hx dX12_plainMark_34 (by decide) ?_
      refine z_callvvF hx (qX12_begins r t L dr tr y (zup (zup (b) (c) 22) (c + 1) 21) (c + 1 + 1) (by omega) 20) dX12_plainMark_36 sX12_217 rfl rfl rfl rfl (Nat.le_of_ble_eq_true rfl) rfl (Nat.le_of_ble_eq_true rfl) (by decide) ?_
      refine z_iload_n hx dX12_plainMark_39 rfl ?_
      refine z_aload_n hx dX12_plainMark_40 rfl ?_
      refine z_get hx dX12_plainMark_41 fX12_25 rfl rfl ?_
      refine z_iconst (v := nI 4) hx dX12_plainMark_44 (by decide) ?_
      refine z_iconst (v := nI 5) hx dX12_plainMark_45 (by decide) ?_
      refine z_iload_n hx dX12_plainMark_46 rfl ?_
      first | refine z_imulN hx dX12_plainMark_47 ?_ | refine z_imul hx dX12_plainMark_47 ?_
      first | refine z_iaddN hx dX12_plainMark_48 ?_ | refine z_iadd hx dX12_plainMark_48 ?_
      refine z_iconst (v := nI 4) hx dX12_plainMark_49 (by decide) ?_
      first | refine z_iaddN hx dX12_plainMark_50 ?_ | refine z_iadd hx dX12_plainMark_50 ?_
      refine z_ialdJ hx dX12_plainMark_51 rfl (by decide) (by omega) ?_
      refine z_topN (fl_T L q) ?_
      first | refine z_iaddN hx dX12_plainMark_52 ?_ | refine z_iadd hx dX12_plainMark_52 ?_
      refine z_istore_n hx dX12_plainMark_53 (Nat.le_of_ble_eq_true rfl) rfl ?_
      refine z_iload_n hx dX12_plainMark_54 rfl ?_
      refine z_iconst (v := nI 2) hx dX12_plainMark_55 (by decide) ?_
      refine z_icmp_neN (tgt := 65) hx dX12_plainMark_56 (by decide) (by omega) (by omega) (fun zc56 => ?_) (fun zc56 => ?_)
      · skip
        refine z_iload_n hx dX12_plainMark_65 rfl ?_
        refine z_iconst (v := nI 3) hx dX12_plainMark_66 (by decide) ?_
        refine z_icmp_neN (tgt := 78) hx dX12_plainMark_67 (by decide) (by omega) (by omega) (fun zc67 => ?_) (fun zc67 => ?_)
        · skip
          exfalso; omega
        · skip
          refine z_iload_n hx dX12_plainMark_70 rfl ?_
          refine z_sipush (v := nI 1000) hx dX12_plainMark_71 (by decide) ?_
          refine z_isub hx dX12_plainMark_74 ?_
          refine z_goto (tgt := 79) hx dX12_plainMark_75 (by decide) ?_
          exact z_iret hx hF dX12_plainMark_79 rfl rfl ⟨rfl, rfl⟩
      · skip
        exfalso; omega
    · skip
      exfalso; omega

set_option maxHeartbeats 4000000 in
set_option maxRecDepth 100000 in
theorem qX12_childSize_4 (r : zMR) (t : zMT) (L : zL) (dr tr : Nat → Nat) (y : zMY) (b : Nat → Nat) (c : Nat) (hw : zWf L) (q : Nat) (hq : q < lP L) (e9 : lK L q = 4) (hc : c + 2 ≤ 16) : zMi mX12_childSize 2 ([.ref 0, .int (nI q)]) (hM r t L dr tr y (b, c)) (fun z u => z = nI (lF L q) - nI 100 ∧ u = hM r t L dr tr y ((zup (zup (b) (c) 13) (c + 1) 10), c + 1 + 1)) := by
  refine zMi.of (by decide) (Nat.le_of_ble_eq_true rfl) (fun x hx hF => ?_)
  obtain ⟨w1, w2, w3, w4, w5⟩ := id hw
  have w6 := w5 q hq
  refine z_aload_n hx dX12_childSize_0 rfl ?_
  refine z_iload_n hx dX12_childSize_1 rfl ?_
  refine z_callivF hx (qX12_kindIn r t L dr tr y ((b), c) hw q hq) dX12_childSize_2 sX12_211 rfl rfl rfl rfl (Nat.le_of_ble_eq_true rfl) rfl (Nat.le_of_ble_eq_true rfl) (by decide) ?_
  refine z_topN e9 ?_
  refine z_iconst (v := nI 5) hx dX12_childSize_5 (by decide) ?_
  refine z_icmp_neN (tgt := 13) hx dX12_childSize_6 (by decide) (by omega) (by omega) (fun zc6 => ?_) (fun zc6 => ?_)
  · skip
    refine z_iconst (v := nI 0) hx dX12_childSize_13 (by decide) ?_
    refine z_istore_n hx dX12_childSize_14 (Nat.le_of_ble_eq_true rfl) rfl ?_
    refine z_iload_n hx dX12_childSize_15 rfl ?_
    refine z_if_eqN (tgt := 25) hx dX12_childSize_16 (by decide) (by omega) (fun zc16 => ?_) (fun zc16 => ?_)
    · skip
      refine z_aload_n hx dX12_childSize_25 rfl ?_
      refine z_bipush (v := nI 13) hx dX12_childSize_26 (by decide) ?_
      refine z_callvvF hx (qX12_begins r t L dr tr y (b) (c) (by omega) 13) dX12_childSize_28 sX12_217 rfl rfl rfl rfl (Nat.le_of_ble_eq_true rfl) rfl (Nat.le_of_ble_eq_true rfl) (by decide) ?_
      refine z_aload_n hx dX12_childSize_31 rfl ?_
      refine z_bipush (v := nI 10) hx dX12_childSize_32 (by decide) ?_
      refine z_callvvF hx (qX12_begins r t L dr tr y (zup (b) (c) 13) (c + 1) (by omega) 10) dX12_childSize_34 sX12_217 rfl rfl rfl rfl (Nat.le_of_ble_eq_true rfl) rfl (Nat.le_of_ble_eq_true rfl) (by decide) ?_
      refine z_aload_n hx dX12_childSize_37 rfl ?_
      refine z_get hx dX12_childSize_38 fX12_25 rfl rfl ?_
      refine z_iconst (v := nI 4) hx dX12_childSize_41 (by decide) ?_
      refine z_iconst (v := nI 5) hx dX12_childSize_42 (by decide) ?_
      refine z_iload_n hx dX12_childSize_43 rfl ?_
      first | refine z_imulN hx dX12_childSize_44 ?_ | refine z_imul hx dX12_childSize_44 ?_
      first | refine z_iaddN hx dX12_childSize_45 ?_ | refine z_iadd hx dX12_childSize_45 ?_
      refine z_iconst (v := nI 2) hx dX12_childSize_46 (by decide) ?_
      first | refine z_iaddN hx dX12_childSize_47 ?_ | refine z_iadd hx dX12_childSize_47 ?_
      refine z_ialdJ hx dX12_childSize_48 rfl (by decide) (by omega) ?_
      refine z_topN (fl_F L q) ?_
      refine z_bipush (v := nI 100) hx dX12_childSize_49 (by decide) ?_
      refine z_isub hx dX12_childSize_51 ?_
      refine z_istore_n hx dX12_childSize_52 (Nat.le_of_ble_eq_true rfl) rfl ?_
      refine z_iload_n hx dX12_childSize_53 rfl ?_
      refine z_if_eqN (tgt := 63) hx dX12_childSize_54 (by decide) (by omega) (fun zc54 => ?_) (fun zc54 => ?_)
      · skip
        refine z_iload_n hx dX12_childSize_63 rfl ?_
        exact z_iret hx hF dX12_childSize_64 rfl rfl ⟨rfl, rfl⟩
      · skip
        exfalso; omega
    · skip
      exfalso; omega
  · skip
    exfalso; omega

set_option maxHeartbeats 4000000 in
set_option maxRecDepth 100000 in
theorem qX12_childSize_5 (r : zMR) (t : zMT) (L : zL) (dr tr : Nat → Nat) (y : zMY) (b : Nat → Nat) (c : Nat) (hw : zWf L) (q : Nat) (hq : q < lP L) (e9 : lK L q = 5) (hc : c + 3 ≤ 16) : zMi mX12_childSize 2 ([.ref 0, .int (nI q)]) (hM r t L dr tr y (b, c)) (fun z u => z = nI 2 * (nI (lF L q) - nI 100) ∧ u = hM r t L dr tr y ((zup (zup (zup (b) (c) 14) (c + 1) 13) (c + 1 + 1) 10), c + 1 + 1 + 1)) := by
  refine zMi.of (by decide) (Nat.le_of_ble_eq_true rfl) (fun x hx hF => ?_)
  obtain ⟨w1, w2, w3, w4, w5⟩ := id hw
  have w6 := w5 q hq
  refine z_aload_n hx dX12_childSize_0 rfl ?_
  refine z_iload_n hx dX12_childSize_1 rfl ?_
  refine z_callivF hx (qX12_kindIn r t L dr tr y ((b), c) hw q hq) dX12_childSize_2 sX12_211 rfl rfl rfl rfl (Nat.le_of_ble_eq_true rfl) rfl (Nat.le_of_ble_eq_true rfl) (by decide) ?_
  refine z_topN e9 ?_
  refine z_iconst (v := nI 5) hx dX12_childSize_5 (by decide) ?_
  refine z_icmp_neN (tgt := 13) hx dX12_childSize_6 (by decide) (by omega) (by omega) (fun zc6 => ?_) (fun zc6 => ?_)
  · skip
    exfalso; omega
  · skip
    refine z_iconst (v := nI 1) hx dX12_childSize_9 (by decide) ?_
    refine z_goto (tgt := 14) hx dX12_childSize_10 (by decide) ?_
    refine z_istore_n hx dX12_childSize_14 (Nat.le_of_ble_eq_true rfl) rfl ?_
    refine z_iload_n hx dX12_childSize_15 rfl ?_
    refine z_if_eqN (tgt := 25) hx dX12_childSize_16 (by decide) (by omega) (fun zc16 => ?_) (fun zc16 => ?_)
    · skip
      exfalso; omega
    · skip
      refine z_aload_n hx dX12_childSize_19 rfl ?_
      refine z_bipush (v := nI 14) hx dX12_childSize_20 (by decide) ?_
      refine z_callvvF hx (qX12_begins r t L dr tr y (b) (c) (by omega) 14) dX12_childSize_22 sX12_217 rfl rfl rfl rfl (Nat.le_of_ble_eq_true rfl) rfl (Nat.le_of_ble_eq_true rfl) (by decide) ?_
      refine z_aload_n hx dX12_childSize_25 rfl ?_
      refine z_bipush (v := nI 13) hx dX12_childSize_26 (by decide) ?_
      refine z_callvvF hx (qX12_begins r t L dr tr y (zup (b) (c) 14) (c + 1) (by omega) 13) dX12_childSize_28 sX12_217 rfl rfl rfl rfl (Nat.le_of_ble_eq_true rfl) rfl (Nat.le_of_ble_eq_true rfl) (by decide) ?_
      refine z_aload_n hx dX12_childSize_31 rfl ?_
      refine z_bipush (v := nI 10) hx dX12_childSize_32 (by decide) ?_
      refine z_callvvF hx (qX12_begins r t L dr tr y (zup (zup (b) (c) 14) (c + 1) 13) (c + 1 + 1) (by omega) 10) dX12_childSize_34 sX12_217 rfl rfl rfl rfl (Nat.le_of_ble_eq_true rfl) rfl (Nat.le_of_ble_eq_true rfl) (by decide) ?_
      refine z_aload_n hx dX12_childSize_37 rfl ?_
      refine z_get hx dX12_childSize_38 fX12_25 rfl rfl ?_
      refine z_iconst (v := nI 4) hx dX12_childSize_41 (by decide) ?_
      refine z_iconst (v := nI 5) hx dX12_childSize_42 (by decide) ?_
      refine z_iload_n hx dX12_childSize_43 rfl ?_
      first | refine z_imulN hx dX12_childSize_44 ?_ | refine z_imul hx dX12_childSize_44 ?_
      first | refine z_iaddN hx dX12_childSize_45 ?_ | refine z_iadd hx dX12_childSize_45 ?_
      refine z_iconst (v := nI 2) hx dX12_childSize_46 (by decide) ?_
      first | refine z_iaddN hx dX12_childSize_47 ?_ | refine z_iadd hx dX12_childSize_47 ?_
      refine z_ialdJ hx dX12_childSize_48 rfl (by decide) (by omega) ?_
      refine z_topN (fl_F L q) ?_
      refine z_bipush (v := nI 100) hx dX12_childSize_49 (by decide) ?_
      refine z_isub hx dX12_childSize_51 ?_
      refine z_istore_n hx dX12_childSize_52 (Nat.le_of_ble_eq_true rfl) rfl ?_
      refine z_iload_n hx dX12_childSize_53 rfl ?_
      refine z_if_eqN (tgt := 63) hx dX12_childSize_54 (by decide) (by omega) (fun zc54 => ?_) (fun zc54 => ?_)
      · skip
        exfalso; omega
      · skip
        refine z_iconst (v := nI 2) hx dX12_childSize_57 (by decide) ?_
        refine z_iload_n hx dX12_childSize_58 rfl ?_
        refine z_imul hx dX12_childSize_59 ?_
        refine z_goto (tgt := 64) hx dX12_childSize_60 (by decide) ?_
        exact z_iret hx hF dX12_childSize_64 rfl rfl ⟨rfl, rfl⟩

set_option maxHeartbeats 4000000 in
set_option maxRecDepth 100000 in
theorem qX12_plainSize_1 (r : zMR) (t : zMT) (L : zL) (dr tr : Nat → Nat) (y : zMY) (b : Nat → Nat) (c : Nat) (hw : zWf L) (q : Nat) (hq : q < lP L) (e9 : lK L q = 1) (hc : c + 4 ≤ 16) : zMi mX12_plainSize 3 ([.ref 0, .int (nI q)]) (hM r t L dr tr y (b, c)) (fun z u => z = nI (lF L q) + nI (q + lT L q) ∧ u = hM r t L dr tr y ((zup (zup (zup (zup (b) (c) 11) (c + 1) 10) (c + 1 + 1) 21) (c + 1 + 1 + 1) 20), c + 1 + 1 + 1 + 1)) := by
  refine zMi.of (by decide) (Nat.le_of_ble_eq_true rfl) (fun x hx hF => ?_)
  obtain ⟨w1, w2, w3, w4, w5⟩ := id hw
  have w6 := w5 q hq
  refine z_aload_n hx dX12_plainSize_0 rfl ?_
  refine z_iload_n hx dX12_plainSize_1 rfl ?_
  refine z_callivF hx (qX12_kindIn r t L dr tr y ((b), c) hw q hq) dX12_plainSize_2 sX12_211 rfl rfl rfl rfl (Nat.le_of_ble_eq_true rfl) rfl (Nat.le_of_ble_eq_true rfl) (by decide) ?_
  refine z_topN e9 ?_
  refine z_iconst (v := nI 2) hx dX12_plainSize_5 (by decide) ?_
  refine z_icmp_neN (tgt := 13) hx dX12_plainSize_6 (by decide) (by omega) (by omega) (fun zc6 => ?_) (fun zc6 => ?_)
  · skip
    refine z_iconst (v := nI 0) hx dX12_plainSize_13 (by decide) ?_
    refine z_istore_n hx dX12_plainSize_14 (Nat.le_of_ble_eq_true rfl) rfl ?_
    refine z_iload_n hx dX12_plainSize_15 rfl ?_
    refine z_if_eqN (tgt := 25) hx dX12_plainSize_16 (by decide) (by omega) (fun zc16 => ?_) (fun zc16 => ?_)
    · skip
      refine z_aload_n hx dX12_plainSize_25 rfl ?_
      refine z_bipush (v := nI 11) hx dX12_plainSize_26 (by decide) ?_
      refine z_callvvF hx (qX12_begins r t L dr tr y (b) (c) (by omega) 11) dX12_plainSize_28 sX12_217 rfl rfl rfl rfl (Nat.le_of_ble_eq_true rfl) rfl (Nat.le_of_ble_eq_true rfl) (by decide) ?_
      refine z_aload_n hx dX12_plainSize_31 rfl ?_
      refine z_bipush (v := nI 10) hx dX12_plainSize_32 (by decide) ?_
      refine z_callvvF hx (qX12_begins r t L dr tr y (zup (b) (c) 11) (c + 1) (by omega) 10) dX12_plainSize_34 sX12_217 rfl rfl rfl rfl (Nat.le_of_ble_eq_true rfl) rfl (Nat.le_of_ble_eq_true rfl) (by decide) ?_
      refine z_aload_n hx dX12_plainSize_37 rfl ?_
      refine z_get hx dX12_plainSize_38 fX12_25 rfl rfl ?_
      refine z_iconst (v := nI 4) hx dX12_plainSize_41 (by decide) ?_
      refine z_iconst (v := nI 5) hx dX12_plainSize_42 (by decide) ?_
      refine z_iload_n hx dX12_plainSize_43 rfl ?_
      first | refine z_imulN hx dX12_plainSize_44 ?_ | refine z_imul hx dX12_plainSize_44 ?_
      first | refine z_iaddN hx dX12_plainSize_45 ?_ | refine z_iadd hx dX12_plainSize_45 ?_
      refine z_iconst (v := nI 2) hx dX12_plainSize_46 (by decide) ?_
      first | refine z_iaddN hx dX12_plainSize_47 ?_ | refine z_iadd hx dX12_plainSize_47 ?_
      refine z_ialdJ hx dX12_plainSize_48 rfl (by decide) (by omega) ?_
      refine z_topN (fl_F L q) ?_
      refine z_aload_n hx dX12_plainSize_49 rfl ?_
      refine z_iload_n hx dX12_plainSize_50 rfl ?_
      refine z_callivF hx (qX12_plainMark_1 r t L dr tr y (zup (zup (b) (c) 11) (c + 1) 10) (c + 1 + 1) hw q hq e9 (by omega)) dX12_plainSize_51 sX12_220 rfl rfl rfl rfl (Nat.le_of_ble_eq_true rfl) rfl (Nat.le_of_ble_eq_true rfl) (by decide) ?_
      refine z_iadd hx dX12_plainSize_54 ?_
      refine z_istore_n hx dX12_plainSize_55 (Nat.le_of_ble_eq_true rfl) rfl ?_
      refine z_iload_n hx dX12_plainSize_56 rfl ?_
      refine z_if_eqN (tgt := 65) hx dX12_plainSize_57 (by decide) (by omega) (fun zc57 => ?_) (fun zc57 => ?_)
      · skip
        refine z_iload_n hx dX12_plainSize_65 rfl ?_
        exact z_iret hx hF dX12_plainSize_66 rfl rfl ⟨rfl, rfl⟩
      · skip
        exfalso; omega
    · skip
      exfalso; omega
  · skip
    exfalso; omega

set_option maxHeartbeats 4000000 in
set_option maxRecDepth 100000 in
theorem qX12_plainSize_2 (r : zMR) (t : zMT) (L : zL) (dr tr : Nat → Nat) (y : zMY) (b : Nat → Nat) (c : Nat) (hw : zWf L) (q : Nat) (hq : q < lP L) (e9 : lK L q = 2) (hc : c + 6 ≤ 16) : zMi mX12_plainSize 3 ([.ref 0, .int (nI q)]) (hM r t L dr tr y (b, c)) (fun z u => z = -(nI (lF L q) + nI (2 * (q + lT L q))) ∧ u = hM r t L dr tr y ((zup (zup (zup (zup (zup (zup (b) (c) 12) (c + 1) 11) (c + 1 + 1) 10) (c + 1 + 1 + 1) 24) (c + 1 + 1 + 1 + 1) 21) (c + 1 + 1 + 1 + 1 + 1) 20), c + 1 + 1 + 1 + 1 + 1 + 1)) := by
  refine zMi.of (by decide) (Nat.le_of_ble_eq_true rfl) (fun x hx hF => ?_)
  obtain ⟨w1, w2, w3, w4, w5⟩ := id hw
  have w6 := w5 q hq
  refine z_aload_n hx dX12_plainSize_0 rfl ?_
  refine z_iload_n hx dX12_plainSize_1 rfl ?_
  refine z_callivF hx (qX12_kindIn r t L dr tr y ((b), c) hw q hq) dX12_plainSize_2 sX12_211 rfl rfl rfl rfl (Nat.le_of_ble_eq_true rfl) rfl (Nat.le_of_ble_eq_true rfl) (by decide) ?_
  refine z_topN e9 ?_
  refine z_iconst (v := nI 2) hx dX12_plainSize_5 (by decide) ?_
  refine z_icmp_neN (tgt := 13) hx dX12_plainSize_6 (by decide) (by omega) (by omega) (fun zc6 => ?_) (fun zc6 => ?_)
  · skip
    exfalso; omega
  · skip
    refine z_iconst (v := nI 1) hx dX12_plainSize_9 (by decide) ?_
    refine z_goto (tgt := 14) hx dX12_plainSize_10 (by decide) ?_
    refine z_istore_n hx dX12_plainSize_14 (Nat.le_of_ble_eq_true rfl) rfl ?_
    refine z_iload_n hx dX12_plainSize_15 rfl ?_
    refine z_if_eqN (tgt := 25) hx dX12_plainSize_16 (by decide) (by omega) (fun zc16 => ?_) (fun zc16 => ?_)
    · skip
      exfalso; omega
    · skip
      refine z_aload_n hx dX12_plainSize_19 rfl ?_
      refine z_bipush (v := nI 12) hx dX12_plainSize_20 (by decide) ?_
      refine z_callvvF hx (qX12_begins r t L dr tr y (b) (c) (by omega) 12) dX12_plainSize_22 sX12_217 rfl rfl rfl rfl (Nat.le_of_ble_eq_true rfl) rfl (Nat.le_of_ble_eq_true rfl) (by decide) ?_
      refine z_aload_n hx dX12_plainSize_25 rfl ?_
      refine z_bipush (v := nI 11) hx dX12_plainSize_26 (by decide) ?_
      refine z_callvvF hx (qX12_begins r t L dr tr y (zup (b) (c) 12) (c + 1) (by omega) 11) dX12_plainSize_28 sX12_217 rfl rfl rfl rfl (Nat.le_of_ble_eq_true rfl) rfl (Nat.le_of_ble_eq_true rfl) (by decide) ?_
      refine z_aload_n hx dX12_plainSize_31 rfl ?_
      refine z_bipush (v := nI 10) hx dX12_plainSize_32 (by decide) ?_
      refine z_callvvF hx (qX12_begins r t L dr tr y (zup (zup (b) (c) 12) (c + 1) 11) (c + 1 + 1) (by omega) 10) dX12_plainSize_34 sX12_217 rfl rfl rfl rfl (Nat.le_of_ble_eq_true rfl) rfl (Nat.le_of_ble_eq_true rfl) (by decide) ?_
      refine z_aload_n hx dX12_plainSize_37 rfl ?_
      refine z_get hx dX12_plainSize_38 fX12_25 rfl rfl ?_
      refine z_iconst (v := nI 4) hx dX12_plainSize_41 (by decide) ?_
      refine z_iconst (v := nI 5) hx dX12_plainSize_42 (by decide) ?_
      refine z_iload_n hx dX12_plainSize_43 rfl ?_
      first | refine z_imulN hx dX12_plainSize_44 ?_ | refine z_imul hx dX12_plainSize_44 ?_
      first | refine z_iaddN hx dX12_plainSize_45 ?_ | refine z_iadd hx dX12_plainSize_45 ?_
      refine z_iconst (v := nI 2) hx dX12_plainSize_46 (by decide) ?_
      first | refine z_iaddN hx dX12_plainSize_47 ?_ | refine z_iadd hx dX12_plainSize_47 ?_
      refine z_ialdJ hx dX12_plainSize_48 rfl (by decide) (by omega) ?_
      refine z_topN (fl_F L q) ?_
      refine z_aload_n hx dX12_plainSize_49 rfl ?_
      refine z_iload_n hx dX12_plainSize_50 rfl ?_
      refine z_callivF hx (qX12_plainMark_2 r t L dr tr y (zup (zup (zup (b) (c) 12) (c + 1) 11) (c + 1 + 1) 10) (c + 1 + 1 + 1) hw q hq e9 (by omega)) dX12_plainSize_51 sX12_220 rfl rfl rfl rfl (Nat.le_of_ble_eq_true rfl) rfl (Nat.le_of_ble_eq_true rfl) (by decide) ?_
      refine z_iadd hx dX12_plainSize_54 ?_
      refine z_istore_n hx dX12_plainSize_55 (Nat.le_of_ble_eq_true rfl) rfl ?_
      refine z_iload_n hx dX12_plainSize_56 rfl ?_
      refine z_if_eqN (tgt := 65) hx dX12_plainSize_57 (by decide) (by omega) (fun zc57 => ?_) (fun zc57 => ?_)
      · skip
        exfalso; omega
      · skip
        refine z_iload_n hx dX12_plainSize_60 rfl ?_
        refine z_ineg hx dX12_plainSize_61 ?_
        refine z_goto (tgt := 66) hx dX12_plainSize_62 (by decide) ?_
        exact z_iret hx hF dX12_plainSize_66 rfl rfl ⟨rfl, rfl⟩

set_option maxHeartbeats 4000000 in
set_option maxRecDepth 100000 in
theorem qX12_plainSize_3 (r : zMR) (t : zMT) (L : zL) (dr tr : Nat → Nat) (y : zMY) (b : Nat → Nat) (c : Nat) (hw : zWf L) (q : Nat) (hq : q < lP L) (e9 : lK L q = 3) (hc : c + 5 ≤ 16) : zMi mX12_plainSize 3 ([.ref 0, .int (nI q)]) (hM r t L dr tr y (b, c)) (fun z u => z = nI (lF L q) + (nI (q + lT L q) - nI 1000) ∧ u = hM r t L dr tr y ((zup (zup (zup (zup (zup (b) (c) 11) (c + 1) 10) (c + 1 + 1) 22) (c + 1 + 1 + 1) 21) (c + 1 + 1 + 1 + 1) 20), c + 1 + 1 + 1 + 1 + 1)) := by
  refine zMi.of (by decide) (Nat.le_of_ble_eq_true rfl) (fun x hx hF => ?_)
  obtain ⟨w1, w2, w3, w4, w5⟩ := id hw
  have w6 := w5 q hq
  refine z_aload_n hx dX12_plainSize_0 rfl ?_
  refine z_iload_n hx dX12_plainSize_1 rfl ?_
  refine z_callivF hx (qX12_kindIn r t L dr tr y ((b), c) hw q hq) dX12_plainSize_2 sX12_211 rfl rfl rfl rfl (Nat.le_of_ble_eq_true rfl) rfl (Nat.le_of_ble_eq_true rfl) (by decide) ?_
  refine z_topN e9 ?_
  refine z_iconst (v := nI 2) hx dX12_plainSize_5 (by decide) ?_
  refine z_icmp_neN (tgt := 13) hx dX12_plainSize_6 (by decide) (by omega) (by omega) (fun zc6 => ?_) (fun zc6 => ?_)
  · skip
    refine z_iconst (v := nI 0) hx dX12_plainSize_13 (by decide) ?_
    refine z_istore_n hx dX12_plainSize_14 (Nat.le_of_ble_eq_true rfl) rfl ?_
    refine z_iload_n hx dX12_plainSize_15 rfl ?_
    refine z_if_eqN (tgt := 25) hx dX12_plainSize_16 (by decide) (by omega) (fun zc16 => ?_) (fun zc16 => ?_)
    · skip
      refine z_aload_n hx dX12_plainSize_25 rfl ?_
      refine z_bipush (v := nI 11) hx dX12_plainSize_26 (by decide) ?_
      refine z_callvvF hx (qX12_begins r t L dr tr y (b) (c) (by omega) 11) dX12_plainSize_28 sX12_217 rfl rfl rfl rfl (Nat.le_of_ble_eq_true rfl) rfl (Nat.le_of_ble_eq_true rfl) (by decide) ?_
      refine z_aload_n hx dX12_plainSize_31 rfl ?_
      refine z_bipush (v := nI 10) hx dX12_plainSize_32 (by decide) ?_
      refine z_callvvF hx (qX12_begins r t L dr tr y (zup (b) (c) 11) (c + 1) (by omega) 10) dX12_plainSize_34 sX12_217 rfl rfl rfl rfl (Nat.le_of_ble_eq_true rfl) rfl (Nat.le_of_ble_eq_true rfl) (by decide) ?_
      refine z_aload_n hx dX12_plainSize_37 rfl ?_
      refine z_get hx dX12_plainSize_38 fX12_25 rfl rfl ?_
      refine z_iconst (v := nI 4) hx dX12_plainSize_41 (by decide) ?_
      refine z_iconst (v := nI 5) hx dX12_plainSize_42 (by decide) ?_
      refine z_iload_n hx dX12_plainSize_43 rfl ?_
      first | refine z_imulN hx dX12_plainSize_44 ?_ | refine z_imul hx dX12_plainSize_44 ?_
      first | refine z_iaddN hx dX12_plainSize_45 ?_ | refine z_iadd hx dX12_plainSize_45 ?_
      refine z_iconst (v := nI 2) hx dX12_plainSize_46 (by decide) ?_
      first | refine z_iaddN hx dX12_plainSize_47 ?_ | refine z_iadd hx dX12_plainSize_47 ?_
      refine z_ialdJ hx dX12_plainSize_48 rfl (by decide) (by omega) ?_
      refine z_topN (fl_F L q) ?_
      refine z_aload_n hx dX12_plainSize_49 rfl ?_
      refine z_iload_n hx dX12_plainSize_50 rfl ?_
      refine z_callivF hx (qX12_plainMark_3 r t L dr tr y (zup (zup (b) (c) 11) (c + 1) 10) (c + 1 + 1) hw q hq e9 (by omega)) dX12_plainSize_51 sX12_220 rfl rfl rfl rfl (Nat.le_of_ble_eq_true rfl) rfl (Nat.le_of_ble_eq_true rfl) (by decide) ?_
      refine z_iadd hx dX12_plainSize_54 ?_
      refine z_istore_n hx dX12_plainSize_55 (Nat.le_of_ble_eq_true rfl) rfl ?_
      refine z_iload_n hx dX12_plainSize_56 rfl ?_
      refine z_if_eqN (tgt := 65) hx dX12_plainSize_57 (by decide) (by omega) (fun zc57 => ?_) (fun zc57 => ?_)
      · skip
        refine z_iload_n hx dX12_plainSize_65 rfl ?_
        exact z_iret hx hF dX12_plainSize_66 rfl rfl ⟨rfl, rfl⟩
      · skip
        exfalso; omega
    · skip
      exfalso; omega
  · skip
    exfalso; omega

set_option maxHeartbeats 4000000 in
set_option maxRecDepth 100000 in
theorem qX12_childMark_4 (r : zMR) (t : zMT) (L : zL) (dr tr : Nat → Nat) (y : zMY) (b : Nat → Nat) (c : Nat) (hw : zWf L) (q : Nat) (hq : q < lP L) (e9 : lK L q = 4) (hc : c + 4 ≤ 16) : zMi mX12_childMark 3 ([.ref 0, .int (nI q)]) (hM r t L dr tr y (b, c)) (fun z u => z = nI q - (nI (lF L q) - nI 100) ∧ u = hM r t L dr tr y ((zup (zup (zup (zup (b) (c) 23) (c + 1) 20) (c + 1 + 1) 13) (c + 1 + 1 + 1) 10), c + 1 + 1 + 1 + 1)) := by
  refine zMi.of (by decide) (Nat.le_of_ble_eq_true rfl) (fun x hx hF => ?_)
  obtain ⟨w1, w2, w3, w4, w5⟩ := id hw
  refine z_aload_n hx dX12_childMark_0 rfl ?_
  refine z_bipush (v := nI 23) hx dX12_childMark_1 (by decide) ?_
  refine z_callvvF hx (qX12_begins r t L dr tr y (b) (c) (by omega) 23) dX12_childMark_3 sX12_217 rfl rfl rfl rfl (Nat.le_of_ble_eq_true rfl) rfl (Nat.le_of_ble_eq_true rfl) (by decide) ?_
  refine z_aload_n hx dX12_childMark_6 rfl ?_
  refine z_bipush (v := nI 20) hx dX12_childMark_7 (by decide) ?_
  refine z_callvvF hx (qX12_begins r t L dr tr y (zup (b) (c) 23) (c + 1) (by omega) 20) dX12_childMark_9 sX12_217 rfl rfl rfl rfl (Nat.le_of_ble_eq_true rfl) rfl (Nat.le_of_ble_eq_true rfl) (by decide) ?_
  refine z_iload_n hx dX12_childMark_12 rfl ?_
  refine z_aload_n hx dX12_childMark_13 rfl ?_
  refine z_iload_n hx dX12_childMark_14 rfl ?_
  refine z_callivF hx (qX12_childSize_4 r t L dr tr y (zup (zup (b) (c) 23) (c + 1) 20) (c + 1 + 1) hw q hq e9 (by omega)) dX12_childMark_15 sX12_223 rfl rfl rfl rfl (Nat.le_of_ble_eq_true rfl) rfl (Nat.le_of_ble_eq_true rfl) (by decide) ?_
  refine z_isub hx dX12_childMark_18 ?_
  exact z_iret hx hF dX12_childMark_19 rfl rfl ⟨rfl, rfl⟩

set_option maxHeartbeats 4000000 in
set_option maxRecDepth 100000 in
theorem qX12_childMark_5 (r : zMR) (t : zMT) (L : zL) (dr tr : Nat → Nat) (y : zMY) (b : Nat → Nat) (c : Nat) (hw : zWf L) (q : Nat) (hq : q < lP L) (e9 : lK L q = 5) (hc : c + 5 ≤ 16) : zMi mX12_childMark 3 ([.ref 0, .int (nI q)]) (hM r t L dr tr y (b, c)) (fun z u => z = nI q - (nI 2 * (nI (lF L q) - nI 100)) ∧ u = hM r t L dr tr y ((zup (zup (zup (zup (zup (b) (c) 23) (c + 1) 20) (c + 1 + 1) 14) (c + 1 + 1 + 1) 13) (c + 1 + 1 + 1 + 1) 10), c + 1 + 1 + 1 + 1 + 1)) := by
  refine zMi.of (by decide) (Nat.le_of_ble_eq_true rfl) (fun x hx hF => ?_)
  obtain ⟨w1, w2, w3, w4, w5⟩ := id hw
  refine z_aload_n hx dX12_childMark_0 rfl ?_
  refine z_bipush (v := nI 23) hx dX12_childMark_1 (by decide) ?_
  refine z_callvvF hx (qX12_begins r t L dr tr y (b) (c) (by omega) 23) dX12_childMark_3 sX12_217 rfl rfl rfl rfl (Nat.le_of_ble_eq_true rfl) rfl (Nat.le_of_ble_eq_true rfl) (by decide) ?_
  refine z_aload_n hx dX12_childMark_6 rfl ?_
  refine z_bipush (v := nI 20) hx dX12_childMark_7 (by decide) ?_
  refine z_callvvF hx (qX12_begins r t L dr tr y (zup (b) (c) 23) (c + 1) (by omega) 20) dX12_childMark_9 sX12_217 rfl rfl rfl rfl (Nat.le_of_ble_eq_true rfl) rfl (Nat.le_of_ble_eq_true rfl) (by decide) ?_
  refine z_iload_n hx dX12_childMark_12 rfl ?_
  refine z_aload_n hx dX12_childMark_13 rfl ?_
  refine z_iload_n hx dX12_childMark_14 rfl ?_
  refine z_callivF hx (qX12_childSize_5 r t L dr tr y (zup (zup (b) (c) 23) (c + 1) 20) (c + 1 + 1) hw q hq e9 (by omega)) dX12_childMark_15 sX12_223 rfl rfl rfl rfl (Nat.le_of_ble_eq_true rfl) rfl (Nat.le_of_ble_eq_true rfl) (by decide) ?_
  refine z_isub hx dX12_childMark_18 ?_
  exact z_iret hx hF dX12_childMark_19 rfl rfl ⟨rfl, rfl⟩

def zOb (o : Option (List Nat)) (a : zMA) : zMA := match o with | none => a | some l => (zBd a.1 0 l, l.length)
set_option maxHeartbeats 4000000 in
set_option maxRecDepth 100000 in
theorem qX12_ask_bad (r : zMR) (t : zMT) (L : zL) (dr tr : Nat → Nat) (y : zMY) (a : zMA) (hw : zWf L) (v w : Int32) (hv : ¬ inP (lP L) v) : zMi mX12_ask 2 ([.ref 0, .int v, .int w]) (hM r t L dr tr y a) (fun z u => z = aAsk L v w ∧ u = hM r t L dr tr y (zOb (aBod L v w) a)) := by
  refine zMi.of (by decide) (Nat.le_of_ble_eq_true rfl) (fun x hx hF => ?_)
  obtain ⟨w1, w2, w3, w4, w5⟩ := id hw
  refine z_aload_n hx dX12_ask_0 rfl ?_
  refine z_iload_n hx dX12_ask_1 rfl ?_
  refine z_callivF hx (qX12_isPerson r t L dr tr y a hw _) dX12_ask_2 sX12_178 rfl rfl rfl rfl (Nat.le_of_ble_eq_true rfl) rfl (Nat.le_of_ble_eq_true rfl) (by decide) ?_
  first | refine z_if_eqB (tgt := 17) hx dX12_ask_5 (by decide) (fun zc5 => ?_) (fun zc5 => ?_) | refine z_if_eqN (tgt := 17) hx dX12_ask_5 (by decide) (by omega) (fun zc5 => ?_) (fun zc5 => ?_) | refine z_if_eq (tgt := 17) hx dX12_ask_5 (by decide) (fun zc5 => ?_) (fun zc5 => ?_)
  · skip
    refine z_ldc hx dX12_ask_17 kX12_61 ?_
    exact z_iret hx hF dX12_ask_19 rfl rfl ⟨by unfold aAsk; first | rw [zII_f (fun h => hv h.1)] | rw [zII_f (fun h => zc14 h.2)], by unfold aBod; first | (rw [zIG_f (fun h => hv h.1)]; rfl) | (rw [zIG_f (fun h => zc14 h.2)]; rfl)⟩
  · skip
    exact absurd zc5 hv

set_option maxHeartbeats 4000000 in
set_option maxRecDepth 100000 in
theorem qX12_ask_1 (r : zMR) (t : zMT) (L : zL) (dr tr : Nat → Nat) (y : zMY) (a : zMA) (hw : zWf L) (w : Int32) (zj : Nat) (zhj : zj < lP L) (e9 : lK L zj = 1) : zMi mX12_ask 5 ([.ref 0, .int (nI zj), .int w]) (hM r t L dr tr y a) (fun z u => z = aAsk L (nI zj) w ∧ u = hM r t L dr tr y (zOb (aBod L (nI zj) w) a)) := by
  refine zMi.of (by decide) (Nat.le_of_ble_eq_true rfl) (fun x hx hF => ?_)
  obtain ⟨w1, w2, w3, w4, w5⟩ := id hw
  refine z_aload_n hx dX12_ask_0 rfl ?_
  refine z_iload_n hx dX12_ask_1 rfl ?_
  refine z_callivF hx (qX12_isPerson r t L dr tr y a hw _) dX12_ask_2 sX12_178 rfl rfl rfl rfl (Nat.le_of_ble_eq_true rfl) rfl (Nat.le_of_ble_eq_true rfl) (by decide) ?_
  first | refine z_if_eqB (tgt := 17) hx dX12_ask_5 (by decide) (fun zc5 => ?_) (fun zc5 => ?_) | refine z_if_eqN (tgt := 17) hx dX12_ask_5 (by decide) (by omega) (fun zc5 => ?_) (fun zc5 => ?_) | refine z_if_eq (tgt := 17) hx dX12_ask_5 (by decide) (fun zc5 => ?_) (fun zc5 => ?_)
  · skip
    exact absurd ⟨zj, zhj, rfl⟩ zc5
  · skip
    have hnj : zNat (nI zj) = zj := zNat_nI (by omega)
    refine z_iload_n hx dX12_ask_8 rfl ?_
    refine z_iconst (v := nI 0) hx dX12_ask_9 (by decide) ?_
    refine z_iconst (v := nI 1) hx dX12_ask_10 (by decide) ?_
    refine z_callisP hx [] (qX12_inN _ _ _ (by decide)) dX12_ask_11 sX12_53 rfl rfl rfl (by decide) (by decide) rfl (Nat.le_of_ble_eq_true rfl) (by decide) ?_
    first | refine z_if_neB (tgt := 20) hx dX12_ask_14 (by decide) (fun zc14 => ?_) (fun zc14 => ?_) | refine z_if_neN (tgt := 20) hx dX12_ask_14 (by decide) (by omega) (fun zc14 => ?_) (fun zc14 => ?_) | refine z_if_ne (tgt := 20) hx dX12_ask_14 (by decide) (fun zc14 => ?_) (fun zc14 => ?_)
    · skip
      obtain ⟨ze, -, zhe, rfl⟩ := zc14
      refine z_aload_n hx dX12_ask_20 rfl ?_
      refine z_iconst (v := nI 0) hx dX12_ask_21 (by decide) ?_
      refine z_puti hx dX12_ask_22 pX12_214 rfl (Nat.le_of_ble_eq_true rfl) ?_
      refine z_heap (show _ = hM r t L dr tr y (a.1, 0) from rfl) ?_
      refine z_aload_n hx dX12_ask_25 rfl ?_
      refine z_iload_n hx dX12_ask_26 rfl ?_
      refine z_callivF hx (qX12_kindIn r t L dr tr y (a.1, 0) hw zj zhj) dX12_ask_27 sX12_211 rfl rfl rfl rfl (Nat.le_of_ble_eq_true rfl) rfl (Nat.le_of_ble_eq_true rfl) (by decide) ?_
      refine z_topN e9 ?_
      refine z_iconst (v := nI 4) hx dX12_ask_30 (by decide) ?_
      refine z_icmp_ltN (tgt := 38) hx dX12_ask_31 (by decide) (by omega) (by omega) (fun zc31 => ?_) (fun zc31 => ?_)
      · skip
        refine z_iconst (v := nI 0) hx dX12_ask_38 (by decide) ?_
        refine z_istore_n hx dX12_ask_39 (Nat.le_of_ble_eq_true rfl) rfl ?_
        refine z_iload_n hx dX12_ask_40 rfl ?_
        first | refine z_if_neB (tgt := 62) hx dX12_ask_41 (by decide) (fun zc41 => ?_) (fun zc41 => ?_) | refine z_if_neN (tgt := 62) hx dX12_ask_41 (by decide) (by omega) (fun zc41 => ?_) (fun zc41 => ?_) | refine z_if_ne (tgt := 62) hx dX12_ask_41 (by decide) (fun zc41 => ?_) (fun zc41 => ?_)
        · skip
          refine z_iload_n hx dX12_ask_62 rfl ?_
          refine z_if_eqN (tgt := 74) hx dX12_ask_63 (by decide) (by omega) (fun zc63 => ?_) (fun zc63 => ?_)
          · skip
            refine z_aload_n hx dX12_ask_74 rfl ?_
            refine z_iload_n hx dX12_ask_75 rfl ?_
            refine z_callivF hx (qX12_plainMark_1 r t L dr tr y a.1 0 hw zj zhj e9 (by omega)) dX12_ask_76 sX12_220 rfl rfl rfl rfl (Nat.le_of_ble_eq_true rfl) rfl (Nat.le_of_ble_eq_true rfl) (by decide) ?_
            exact z_iret hx hF dX12_ask_79 rfl rfl ⟨by unfold aAsk; first | rw [zII_f (fun h => zc14 h.2)] | (rw [zII_t ⟨⟨zj, zhj, rfl⟩, ⟨ze, Nat.zero_le _, zhe, rfl⟩⟩, hnj, e9, if_pos (by rw [zc41])]; rfl) | (rw [zII_t ⟨⟨zj, zhj, rfl⟩, ⟨ze, Nat.zero_le _, zhe, rfl⟩⟩, hnj, e9, if_neg (nI_ne (by omega) (by omega) (by omega))]; rfl) | exact zzz_open, by unfold aBod; first | (rw [zIG_f (fun h => zc14 h.2)]; rfl) | (rw [zIG_t ⟨⟨zj, zhj, rfl⟩, ⟨ze, Nat.zero_le _, zhe, rfl⟩⟩, hnj, e9, if_pos (by rw [zc41])]; rfl) | (rw [zIG_t ⟨⟨zj, zhj, rfl⟩, ⟨ze, Nat.zero_le _, zhe, rfl⟩⟩, hnj, e9, if_neg (nI_ne (by omega) (by omega) (by omega))]; rfl) | exact zzz_open⟩
          · skip
            exfalso; omega
        · skip
          refine z_iload_n hx dX12_ask_44 rfl ?_
          refine z_if_eqN (tgt := 56) hx dX12_ask_45 (by decide) (by omega) (fun zc45 => ?_) (fun zc45 => ?_)
          · skip
            refine z_aload_n hx dX12_ask_56 rfl ?_
            refine z_iload_n hx dX12_ask_57 rfl ?_
            refine z_callivF hx (qX12_plainSize_1 r t L dr tr y a.1 0 hw zj zhj e9 (by omega)) dX12_ask_58 sX12_226 rfl rfl rfl rfl (Nat.le_of_ble_eq_true rfl) rfl (Nat.le_of_ble_eq_true rfl) (by decide) ?_
            exact z_iret hx hF dX12_ask_61 rfl rfl ⟨by unfold aAsk; first | rw [zII_f (fun h => zc14 h.2)] | (rw [zII_t ⟨⟨zj, zhj, rfl⟩, ⟨ze, Nat.zero_le _, zhe, rfl⟩⟩, hnj, e9, if_pos (by rw [zc41])]; rfl) | (rw [zII_t ⟨⟨zj, zhj, rfl⟩, ⟨ze, Nat.zero_le _, zhe, rfl⟩⟩, hnj, e9, if_neg (nI_ne (by omega) (by omega) (by omega))]; rfl) | exact zzz_open, by unfold aBod; first | (rw [zIG_f (fun h => zc14 h.2)]; rfl) | (rw [zIG_t ⟨⟨zj, zhj, rfl⟩, ⟨ze, Nat.zero_le _, zhe, rfl⟩⟩, hnj, e9, if_pos (by rw [zc41])]; rfl) | (rw [zIG_t ⟨⟨zj, zhj, rfl⟩, ⟨ze, Nat.zero_le _, zhe, rfl⟩⟩, hnj, e9, if_neg (nI_ne (by omega) (by omega) (by omega))]; rfl) | exact zzz_open⟩
          · skip
            exfalso; omega
      · skip
        exfalso; omega
    · skip
      refine z_ldc hx dX12_ask_17 kX12_61 ?_
      exact z_iret hx hF dX12_ask_19 rfl rfl ⟨by unfold aAsk; first | rw [zII_f (fun h => zc14 h.2)] | (rw [zII_t ⟨⟨zj, zhj, rfl⟩, ⟨ze, Nat.zero_le _, zhe, rfl⟩⟩, hnj, e9, if_pos (by rw [zc41])]; rfl) | (rw [zII_t ⟨⟨zj, zhj, rfl⟩, ⟨ze, Nat.zero_le _, zhe, rfl⟩⟩, hnj, e9, if_neg (nI_ne (by omega) (by omega) (by omega))]; rfl) | exact zzz_open, by unfold aBod; first | (rw [zIG_f (fun h => zc14 h.2)]; rfl) | (rw [zIG_t ⟨⟨zj, zhj, rfl⟩, ⟨ze, Nat.zero_le _, zhe, rfl⟩⟩, hnj, e9, if_pos (by rw [zc41])]; rfl) | (rw [zIG_t ⟨⟨zj, zhj, rfl⟩, ⟨ze, Nat.zero_le _, zhe, rfl⟩⟩, hnj, e9, if_neg (nI_ne (by omega) (by omega) (by omega))]; rfl) | exact zzz_open⟩

set_option maxHeartbeats 4000000 in
set_option maxRecDepth 100000 in
theorem qX12_ask_2 (r : zMR) (t : zMT) (L : zL) (dr tr : Nat → Nat) (y : zMY) (a : zMA) (hw : zWf L) (w : Int32) (zj : Nat) (zhj : zj < lP L) (e9 : lK L zj = 2) : zMi mX12_ask 5 ([.ref 0, .int (nI zj), .int w]) (hM r t L dr tr y a) (fun z u => z = aAsk L (nI zj) w ∧ u = hM r t L dr tr y (zOb (aBod L (nI zj) w) a)) := by
  refine zMi.of (by decide) (Nat.le_of_ble_eq_true rfl) (fun x hx hF => ?_)
  obtain ⟨w1, w2, w3, w4, w5⟩ := id hw
  refine z_aload_n hx dX12_ask_0 rfl ?_
  refine z_iload_n hx dX12_ask_1 rfl ?_
  refine z_callivF hx (qX12_isPerson r t L dr tr y a hw _) dX12_ask_2 sX12_178 rfl rfl rfl rfl (Nat.le_of_ble_eq_true rfl) rfl (Nat.le_of_ble_eq_true rfl) (by decide) ?_
  first | refine z_if_eqB (tgt := 17) hx dX12_ask_5 (by decide) (fun zc5 => ?_) (fun zc5 => ?_) | refine z_if_eqN (tgt := 17) hx dX12_ask_5 (by decide) (by omega) (fun zc5 => ?_) (fun zc5 => ?_) | refine z_if_eq (tgt := 17) hx dX12_ask_5 (by decide) (fun zc5 => ?_) (fun zc5 => ?_)
  · skip
    exact absurd ⟨zj, zhj, rfl⟩ zc5
  · skip
    have hnj : zNat (nI zj) = zj := zNat_nI (by omega)
    refine z_iload_n hx dX12_ask_8 rfl ?_
    refine z_iconst (v := nI 0) hx dX12_ask_9 (by decide) ?_
    refine z_iconst (v := nI 1) hx dX12_ask_10 (by decide) ?_
    refine z_callisP hx [] (qX12_inN _ _ _ (by decide)) dX12_ask_11 sX12_53 rfl rfl rfl (by decide) (by decide) rfl (Nat.le_of_ble_eq_true rfl) (by decide) ?_
    first | refine z_if_neB (tgt := 20) hx dX12_ask_14 (by decide) (fun zc14 => ?_) (fun zc14 => ?_) | refine z_if_neN (tgt := 20) hx dX12_ask_14 (by decide) (by omega) (fun zc14 => ?_) (fun zc14 => ?_) | refine z_if_ne (tgt := 20) hx dX12_ask_14 (by decide) (fun zc14 => ?_) (fun zc14 => ?_)
    · skip
      obtain ⟨ze, -, zhe, rfl⟩ := zc14
      refine z_aload_n hx dX12_ask_20 rfl ?_
      refine z_iconst (v := nI 0) hx dX12_ask_21 (by decide) ?_
      refine z_puti hx dX12_ask_22 pX12_214 rfl (Nat.le_of_ble_eq_true rfl) ?_
      refine z_heap (show _ = hM r t L dr tr y (a.1, 0) from rfl) ?_
      refine z_aload_n hx dX12_ask_25 rfl ?_
      refine z_iload_n hx dX12_ask_26 rfl ?_
      refine z_callivF hx (qX12_kindIn r t L dr tr y (a.1, 0) hw zj zhj) dX12_ask_27 sX12_211 rfl rfl rfl rfl (Nat.le_of_ble_eq_true rfl) rfl (Nat.le_of_ble_eq_true rfl) (by decide) ?_
      refine z_topN e9 ?_
      refine z_iconst (v := nI 4) hx dX12_ask_30 (by decide) ?_
      refine z_icmp_ltN (tgt := 38) hx dX12_ask_31 (by decide) (by omega) (by omega) (fun zc31 => ?_) (fun zc31 => ?_)
      · skip
        refine z_iconst (v := nI 0) hx dX12_ask_38 (by decide) ?_
        refine z_istore_n hx dX12_ask_39 (Nat.le_of_ble_eq_true rfl) rfl ?_
        refine z_iload_n hx dX12_ask_40 rfl ?_
        first | refine z_if_neB (tgt := 62) hx dX12_ask_41 (by decide) (fun zc41 => ?_) (fun zc41 => ?_) | refine z_if_neN (tgt := 62) hx dX12_ask_41 (by decide) (by omega) (fun zc41 => ?_) (fun zc41 => ?_) | refine z_if_ne (tgt := 62) hx dX12_ask_41 (by decide) (fun zc41 => ?_) (fun zc41 => ?_)
        · skip
          refine z_iload_n hx dX12_ask_62 rfl ?_
          refine z_if_eqN (tgt := 74) hx dX12_ask_63 (by decide) (by omega) (fun zc63 => ?_) (fun zc63 => ?_)
          · skip
            refine z_aload_n hx dX12_ask_74 rfl ?_
            refine z_iload_n hx dX12_ask_75 rfl ?_
            refine z_callivF hx (qX12_plainMark_2 r t L dr tr y a.1 0 hw zj zhj e9 (by omega)) dX12_ask_76 sX12_220 rfl rfl rfl rfl (Nat.le_of_ble_eq_true rfl) rfl (Nat.le_of_ble_eq_true rfl) (by decide) ?_
            exact z_iret hx hF dX12_ask_79 rfl rfl ⟨by unfold aAsk; first | rw [zII_f (fun h => zc14 h.2)] | (rw [zII_t ⟨⟨zj, zhj, rfl⟩, ⟨ze, Nat.zero_le _, zhe, rfl⟩⟩, hnj, e9, if_pos (by rw [zc41])]; rfl) | (rw [zII_t ⟨⟨zj, zhj, rfl⟩, ⟨ze, Nat.zero_le _, zhe, rfl⟩⟩, hnj, e9, if_neg (nI_ne (by omega) (by omega) (by omega))]; rfl) | exact zzz_open, by unfold aBod; first | (rw [zIG_f (fun h => zc14 h.2)]; rfl) | (rw [zIG_t ⟨⟨zj, zhj, rfl⟩, ⟨ze, Nat.zero_le _, zhe, rfl⟩⟩, hnj, e9, if_pos (by rw [zc41])]; rfl) | (rw [zIG_t ⟨⟨zj, zhj, rfl⟩, ⟨ze, Nat.zero_le _, zhe, rfl⟩⟩, hnj, e9, if_neg (nI_ne (by omega) (by omega) (by omega))]; rfl) | exact zzz_open⟩
          · skip
            exfalso; omega
        · skip
          refine z_iload_n hx dX12_ask_44 rfl ?_
          refine z_if_eqN (tgt := 56) hx dX12_ask_45 (by decide) (by omega) (fun zc45 => ?_) (fun zc45 => ?_)
          · skip
            refine z_aload_n hx dX12_ask_56 rfl ?_
            refine z_iload_n hx dX12_ask_57 rfl ?_
            refine z_callivF hx (qX12_plainSize_2 r t L dr tr y a.1 0 hw zj zhj e9 (by omega)) dX12_ask_58 sX12_226 rfl rfl rfl rfl (Nat.le_of_ble_eq_true rfl) rfl (Nat.le_of_ble_eq_true rfl) (by decide) ?_
            exact z_iret hx hF dX12_ask_61 rfl rfl ⟨by unfold aAsk; first | rw [zII_f (fun h => zc14 h.2)] | (rw [zII_t ⟨⟨zj, zhj, rfl⟩, ⟨ze, Nat.zero_le _, zhe, rfl⟩⟩, hnj, e9, if_pos (by rw [zc41])]; rfl) | (rw [zII_t ⟨⟨zj, zhj, rfl⟩, ⟨ze, Nat.zero_le _, zhe, rfl⟩⟩, hnj, e9, if_neg (nI_ne (by omega) (by omega) (by omega))]; rfl) | exact zzz_open, by unfold aBod; first | (rw [zIG_f (fun h => zc14 h.2)]; rfl) | (rw [zIG_t ⟨⟨zj, zhj, rfl⟩, ⟨ze, Nat.zero_le _, zhe, rfl⟩⟩, hnj, e9, if_pos (by rw [zc41])]; rfl) | (rw [zIG_t ⟨⟨zj, zhj, rfl⟩, ⟨ze, Nat.zero_le _, zhe, rfl⟩⟩, hnj, e9, if_neg (nI_ne (by omega) (by omega) (by omega))]; rfl) | exact zzz_open⟩
          · skip
            exfalso; omega
      · skip
        exfalso; omega
    · skip
      refine z_ldc hx dX12_ask_17 kX12_61 ?_
      exact z_iret hx hF dX12_ask_19 rfl rfl ⟨by unfold aAsk; first | rw [zII_f (fun h => zc14 h.2)] | (rw [zII_t ⟨⟨zj, zhj, rfl⟩, ⟨ze, Nat.zero_le _, zhe, rfl⟩⟩, hnj, e9, if_pos (by rw [zc41])]; rfl) | (rw [zII_t ⟨⟨zj, zhj, rfl⟩, ⟨ze, Nat.zero_le _, zhe, rfl⟩⟩, hnj, e9, if_neg (nI_ne (by omega) (by omega) (by omega))]; rfl) | exact zzz_open, by unfold aBod; first | (rw [zIG_f (fun h => zc14 h.2)]; rfl) | (rw [zIG_t ⟨⟨zj, zhj, rfl⟩, ⟨ze, Nat.zero_le _, zhe, rfl⟩⟩, hnj, e9, if_pos (by rw [zc41])]; rfl) | (rw [zIG_t ⟨⟨zj, zhj, rfl⟩, ⟨ze, Nat.zero_le _, zhe, rfl⟩⟩, hnj, e9, if_neg (nI_ne (by omega) (by omega) (by omega))]; rfl) | exact zzz_open⟩

set_option maxHeartbeats 4000000 in
set_option maxRecDepth 100000 in
theorem qX12_ask_3 (r : zMR) (t : zMT) (L : zL) (dr tr : Nat → Nat) (y : zMY) (a : zMA) (hw : zWf L) (w : Int32) (zj : Nat) (zhj : zj < lP L) (e9 : lK L zj = 3) : zMi mX12_ask 5 ([.ref 0, .int (nI zj), .int w]) (hM r t L dr tr y a) (fun z u => z = aAsk L (nI zj) w ∧ u = hM r t L dr tr y (zOb (aBod L (nI zj) w) a)) := by
  refine zMi.of (by decide) (Nat.le_of_ble_eq_true rfl) (fun x hx hF => ?_)
  obtain ⟨w1, w2, w3, w4, w5⟩ := id hw
  refine z_aload_n hx dX12_ask_0 rfl ?_
  refine z_iload_n hx dX12_ask_1 rfl ?_
  refine z_callivF hx (qX12_isPerson r t L dr tr y a hw _) dX12_ask_2 sX12_178 rfl rfl rfl rfl (Nat.le_of_ble_eq_true rfl) rfl (Nat.le_of_ble_eq_true rfl) (by decide) ?_
  first | refine z_if_eqB (tgt := 17) hx dX12_ask_5 (by decide) (fun zc5 => ?_) (fun zc5 => ?_) | refine z_if_eqN (tgt := 17) hx dX12_ask_5 (by decide) (by omega) (fun zc5 => ?_) (fun zc5 => ?_) | refine z_if_eq (tgt := 17) hx dX12_ask_5 (by decide) (fun zc5 => ?_) (fun zc5 => ?_)
  · skip
    exact absurd ⟨zj, zhj, rfl⟩ zc5
  · skip
    have hnj : zNat (nI zj) = zj := zNat_nI (by omega)
    refine z_iload_n hx dX12_ask_8 rfl ?_
    refine z_iconst (v := nI 0) hx dX12_ask_9 (by decide) ?_
    refine z_iconst (v := nI 1) hx dX12_ask_10 (by decide) ?_
    refine z_callisP hx [] (qX12_inN _ _ _ (by decide)) dX12_ask_11 sX12_53 rfl rfl rfl (by decide) (by decide) rfl (Nat.le_of_ble_eq_true rfl) (by decide) ?_
    first | refine z_if_neB (tgt := 20) hx dX12_ask_14 (by decide) (fun zc14 => ?_) (fun zc14 => ?_) | refine z_if_neN (tgt := 20) hx dX12_ask_14 (by decide) (by omega) (fun zc14 => ?_) (fun zc14 => ?_) | refine z_if_ne (tgt := 20) hx dX12_ask_14 (by decide) (fun zc14 => ?_) (fun zc14 => ?_)
    · skip
      obtain ⟨ze, -, zhe, rfl⟩ := zc14
      refine z_aload_n hx dX12_ask_20 rfl ?_
      refine z_iconst (v := nI 0) hx dX12_ask_21 (by decide) ?_
      refine z_puti hx dX12_ask_22 pX12_214 rfl (Nat.le_of_ble_eq_true rfl) ?_
      refine z_heap (show _ = hM r t L dr tr y (a.1, 0) from rfl) ?_
      refine z_aload_n hx dX12_ask_25 rfl ?_
      refine z_iload_n hx dX12_ask_26 rfl ?_
      refine z_callivF hx (qX12_kindIn r t L dr tr y (a.1, 0) hw zj zhj) dX12_ask_27 sX12_211 rfl rfl rfl rfl (Nat.le_of_ble_eq_true rfl) rfl (Nat.le_of_ble_eq_true rfl) (by decide) ?_
      refine z_topN e9 ?_
      refine z_iconst (v := nI 4) hx dX12_ask_30 (by decide) ?_
      refine z_icmp_ltN (tgt := 38) hx dX12_ask_31 (by decide) (by omega) (by omega) (fun zc31 => ?_) (fun zc31 => ?_)
      · skip
        refine z_iconst (v := nI 0) hx dX12_ask_38 (by decide) ?_
        refine z_istore_n hx dX12_ask_39 (Nat.le_of_ble_eq_true rfl) rfl ?_
        refine z_iload_n hx dX12_ask_40 rfl ?_
        first | refine z_if_neB (tgt := 62) hx dX12_ask_41 (by decide) (fun zc41 => ?_) (fun zc41 => ?_) | refine z_if_neN (tgt := 62) hx dX12_ask_41 (by decide) (by omega) (fun zc41 => ?_) (fun zc41 => ?_) | refine z_if_ne (tgt := 62) hx dX12_ask_41 (by decide) (fun zc41 => ?_) (fun zc41 => ?_)
        · skip
          refine z_iload_n hx dX12_ask_62 rfl ?_
          refine z_if_eqN (tgt := 74) hx dX12_ask_63 (by decide) (by omega) (fun zc63 => ?_) (fun zc63 => ?_)
          · skip
            refine z_aload_n hx dX12_ask_74 rfl ?_
            refine z_iload_n hx dX12_ask_75 rfl ?_
            refine z_callivF hx (qX12_plainMark_3 r t L dr tr y a.1 0 hw zj zhj e9 (by omega)) dX12_ask_76 sX12_220 rfl rfl rfl rfl (Nat.le_of_ble_eq_true rfl) rfl (Nat.le_of_ble_eq_true rfl) (by decide) ?_
            exact z_iret hx hF dX12_ask_79 rfl rfl ⟨by unfold aAsk; first | rw [zII_f (fun h => zc14 h.2)] | (rw [zII_t ⟨⟨zj, zhj, rfl⟩, ⟨ze, Nat.zero_le _, zhe, rfl⟩⟩, hnj, e9, if_pos (by rw [zc41])]; rfl) | (rw [zII_t ⟨⟨zj, zhj, rfl⟩, ⟨ze, Nat.zero_le _, zhe, rfl⟩⟩, hnj, e9, if_neg (nI_ne (by omega) (by omega) (by omega))]; rfl) | exact zzz_open, by unfold aBod; first | (rw [zIG_f (fun h => zc14 h.2)]; rfl) | (rw [zIG_t ⟨⟨zj, zhj, rfl⟩, ⟨ze, Nat.zero_le _, zhe, rfl⟩⟩, hnj, e9, if_pos (by rw [zc41])]; rfl) | (rw [zIG_t ⟨⟨zj, zhj, rfl⟩, ⟨ze, Nat.zero_le _, zhe, rfl⟩⟩, hnj, e9, if_neg (nI_ne (by omega) (by omega) (by omega))]; rfl) | exact zzz_open⟩
          · skip
            exfalso; omega
        · skip
          refine z_iload_n hx dX12_ask_44 rfl ?_
          refine z_if_eqN (tgt := 56) hx dX12_ask_45 (by decide) (by omega) (fun zc45 => ?_) (fun zc45 => ?_)
          · skip
            refine z_aload_n hx dX12_ask_56 rfl ?_
            refine z_iload_n hx dX12_ask_57 rfl ?_
            refine z_callivF hx (qX12_plainSize_3 r t L dr tr y a.1 0 hw zj zhj e9 (by omega)) dX12_ask_58 sX12_226 rfl rfl rfl rfl (Nat.le_of_ble_eq_true rfl) rfl (Nat.le_of_ble_eq_true rfl) (by decide) ?_
            exact z_iret hx hF dX12_ask_61 rfl rfl ⟨by unfold aAsk; first | rw [zII_f (fun h => zc14 h.2)] | (rw [zII_t ⟨⟨zj, zhj, rfl⟩, ⟨ze, Nat.zero_le _, zhe, rfl⟩⟩, hnj, e9, if_pos (by rw [zc41])]; rfl) | (rw [zII_t ⟨⟨zj, zhj, rfl⟩, ⟨ze, Nat.zero_le _, zhe, rfl⟩⟩, hnj, e9, if_neg (nI_ne (by omega) (by omega) (by omega))]; rfl) | exact zzz_open, by unfold aBod; first | (rw [zIG_f (fun h => zc14 h.2)]; rfl) | (rw [zIG_t ⟨⟨zj, zhj, rfl⟩, ⟨ze, Nat.zero_le _, zhe, rfl⟩⟩, hnj, e9, if_pos (by rw [zc41])]; rfl) | (rw [zIG_t ⟨⟨zj, zhj, rfl⟩, ⟨ze, Nat.zero_le _, zhe, rfl⟩⟩, hnj, e9, if_neg (nI_ne (by omega) (by omega) (by omega))]; rfl) | exact zzz_open⟩
          · skip
            exfalso; omega
      · skip
        exfalso; omega
    · skip
      refine z_ldc hx dX12_ask_17 kX12_61 ?_
      exact z_iret hx hF dX12_ask_19 rfl rfl ⟨by unfold aAsk; first | rw [zII_f (fun h => zc14 h.2)] | (rw [zII_t ⟨⟨zj, zhj, rfl⟩, ⟨ze, Nat.zero_le _, zhe, rfl⟩⟩, hnj, e9, if_pos (by rw [zc41])]; rfl) | (rw [zII_t ⟨⟨zj, zhj, rfl⟩, ⟨ze, Nat.zero_le _, zhe, rfl⟩⟩, hnj, e9, if_neg (nI_ne (by omega) (by omega) (by omega))]; rfl) | exact zzz_open, by unfold aBod; first | (rw [zIG_f (fun h => zc14 h.2)]; rfl) | (rw [zIG_t ⟨⟨zj, zhj, rfl⟩, ⟨ze, Nat.zero_le _, zhe, rfl⟩⟩, hnj, e9, if_pos (by rw [zc41])]; rfl) | (rw [zIG_t ⟨⟨zj, zhj, rfl⟩, ⟨ze, Nat.zero_le _, zhe, rfl⟩⟩, hnj, e9, if_neg (nI_ne (by omega) (by omega) (by omega))]; rfl) | exact zzz_open⟩

set_option maxHeartbeats 4000000 in
set_option maxRecDepth 100000 in
theorem qX12_ask_4 (r : zMR) (t : zMT) (L : zL) (dr tr : Nat → Nat) (y : zMY) (a : zMA) (hw : zWf L) (w : Int32) (zj : Nat) (zhj : zj < lP L) (e9 : lK L zj = 4) : zMi mX12_ask 5 ([.ref 0, .int (nI zj), .int w]) (hM r t L dr tr y a) (fun z u => z = aAsk L (nI zj) w ∧ u = hM r t L dr tr y (zOb (aBod L (nI zj) w) a)) := by
  refine zMi.of (by decide) (Nat.le_of_ble_eq_true rfl) (fun x hx hF => ?_)
  obtain ⟨w1, w2, w3, w4, w5⟩ := id hw
  refine z_aload_n hx dX12_ask_0 rfl ?_
  refine z_iload_n hx dX12_ask_1 rfl ?_
  refine z_callivF hx (qX12_isPerson r t L dr tr y a hw _) dX12_ask_2 sX12_178 rfl rfl rfl rfl (Nat.le_of_ble_eq_true rfl) rfl (Nat.le_of_ble_eq_true rfl) (by decide) ?_
  first | refine z_if_eqB (tgt := 17) hx dX12_ask_5 (by decide) (fun zc5 => ?_) (fun zc5 => ?_) | refine z_if_eqN (tgt := 17) hx dX12_ask_5 (by decide) (by omega) (fun zc5 => ?_) (fun zc5 => ?_) | refine z_if_eq (tgt := 17) hx dX12_ask_5 (by decide) (fun zc5 => ?_) (fun zc5 => ?_)
  · skip
    exact absurd ⟨zj, zhj, rfl⟩ zc5
  · skip
    have hnj : zNat (nI zj) = zj := zNat_nI (by omega)
    refine z_iload_n hx dX12_ask_8 rfl ?_
    refine z_iconst (v := nI 0) hx dX12_ask_9 (by decide) ?_
    refine z_iconst (v := nI 1) hx dX12_ask_10 (by decide) ?_
    refine z_callisP hx [] (qX12_inN _ _ _ (by decide)) dX12_ask_11 sX12_53 rfl rfl rfl (by decide) (by decide) rfl (Nat.le_of_ble_eq_true rfl) (by decide) ?_
    first | refine z_if_neB (tgt := 20) hx dX12_ask_14 (by decide) (fun zc14 => ?_) (fun zc14 => ?_) | refine z_if_neN (tgt := 20) hx dX12_ask_14 (by decide) (by omega) (fun zc14 => ?_) (fun zc14 => ?_) | refine z_if_ne (tgt := 20) hx dX12_ask_14 (by decide) (fun zc14 => ?_) (fun zc14 => ?_)
    · skip
      obtain ⟨ze, -, zhe, rfl⟩ := zc14
      refine z_aload_n hx dX12_ask_20 rfl ?_
      refine z_iconst (v := nI 0) hx dX12_ask_21 (by decide) ?_
      refine z_puti hx dX12_ask_22 pX12_214 rfl (Nat.le_of_ble_eq_true rfl) ?_
      refine z_heap (show _ = hM r t L dr tr y (a.1, 0) from rfl) ?_
      refine z_aload_n hx dX12_ask_25 rfl ?_
      refine z_iload_n hx dX12_ask_26 rfl ?_
      refine z_callivF hx (qX12_kindIn r t L dr tr y (a.1, 0) hw zj zhj) dX12_ask_27 sX12_211 rfl rfl rfl rfl (Nat.le_of_ble_eq_true rfl) rfl (Nat.le_of_ble_eq_true rfl) (by decide) ?_
      refine z_topN e9 ?_
      refine z_iconst (v := nI 4) hx dX12_ask_30 (by decide) ?_
      refine z_icmp_ltN (tgt := 38) hx dX12_ask_31 (by decide) (by omega) (by omega) (fun zc31 => ?_) (fun zc31 => ?_)
      · skip
        exfalso; omega
      · skip
        refine z_iconst (v := nI 1) hx dX12_ask_34 (by decide) ?_
        refine z_goto (tgt := 39) hx dX12_ask_35 (by decide) ?_
        refine z_istore_n hx dX12_ask_39 (Nat.le_of_ble_eq_true rfl) rfl ?_
        refine z_iload_n hx dX12_ask_40 rfl ?_
        first | refine z_if_neB (tgt := 62) hx dX12_ask_41 (by decide) (fun zc41 => ?_) (fun zc41 => ?_) | refine z_if_neN (tgt := 62) hx dX12_ask_41 (by decide) (by omega) (fun zc41 => ?_) (fun zc41 => ?_) | refine z_if_ne (tgt := 62) hx dX12_ask_41 (by decide) (fun zc41 => ?_) (fun zc41 => ?_)
        · skip
          refine z_iload_n hx dX12_ask_62 rfl ?_
          refine z_if_eqN (tgt := 74) hx dX12_ask_63 (by decide) (by omega) (fun zc63 => ?_) (fun zc63 => ?_)
          · skip
            exfalso; omega
          · skip
            refine z_aload_n hx dX12_ask_66 rfl ?_
            refine z_iload_n hx dX12_ask_67 rfl ?_
            refine z_callivF hx (qX12_childMark_4 r t L dr tr y a.1 0 hw zj zhj e9 (by omega)) dX12_ask_68 sX12_229 rfl rfl rfl rfl (Nat.le_of_ble_eq_true rfl) rfl (Nat.le_of_ble_eq_true rfl) (by decide) ?_
            refine z_goto (tgt := 79) hx dX12_ask_71 (by decide) ?_
            exact z_iret hx hF dX12_ask_79 rfl rfl ⟨by unfold aAsk; first | rw [zII_f (fun h => zc14 h.2)] | (rw [zII_t ⟨⟨zj, zhj, rfl⟩, ⟨ze, Nat.zero_le _, zhe, rfl⟩⟩, hnj, e9, if_pos (by rw [zc41])]; rfl) | (rw [zII_t ⟨⟨zj, zhj, rfl⟩, ⟨ze, Nat.zero_le _, zhe, rfl⟩⟩, hnj, e9, if_neg (nI_ne (by omega) (by omega) (by omega))]; rfl) | exact zzz_open, by unfold aBod; first | (rw [zIG_f (fun h => zc14 h.2)]; rfl) | (rw [zIG_t ⟨⟨zj, zhj, rfl⟩, ⟨ze, Nat.zero_le _, zhe, rfl⟩⟩, hnj, e9, if_pos (by rw [zc41])]; rfl) | (rw [zIG_t ⟨⟨zj, zhj, rfl⟩, ⟨ze, Nat.zero_le _, zhe, rfl⟩⟩, hnj, e9, if_neg (nI_ne (by omega) (by omega) (by omega))]; rfl) | exact zzz_open⟩
        · skip
          refine z_iload_n hx dX12_ask_44 rfl ?_
          refine z_if_eqN (tgt := 56) hx dX12_ask_45 (by decide) (by omega) (fun zc45 => ?_) (fun zc45 => ?_)
          · skip
            exfalso; omega
          · skip
            refine z_aload_n hx dX12_ask_48 rfl ?_
            refine z_iload_n hx dX12_ask_49 rfl ?_
            refine z_callivF hx (qX12_childSize_4 r t L dr tr y a.1 0 hw zj zhj e9 (by omega)) dX12_ask_50 sX12_223 rfl rfl rfl rfl (Nat.le_of_ble_eq_true rfl) rfl (Nat.le_of_ble_eq_true rfl) (by decide) ?_
            refine z_goto (tgt := 61) hx dX12_ask_53 (by decide) ?_
            exact z_iret hx hF dX12_ask_61 rfl rfl ⟨by unfold aAsk; first | rw [zII_f (fun h => zc14 h.2)] | (rw [zII_t ⟨⟨zj, zhj, rfl⟩, ⟨ze, Nat.zero_le _, zhe, rfl⟩⟩, hnj, e9, if_pos (by rw [zc41])]; rfl) | (rw [zII_t ⟨⟨zj, zhj, rfl⟩, ⟨ze, Nat.zero_le _, zhe, rfl⟩⟩, hnj, e9, if_neg (nI_ne (by omega) (by omega) (by omega))]; rfl) | exact zzz_open, by unfold aBod; first | (rw [zIG_f (fun h => zc14 h.2)]; rfl) | (rw [zIG_t ⟨⟨zj, zhj, rfl⟩, ⟨ze, Nat.zero_le _, zhe, rfl⟩⟩, hnj, e9, if_pos (by rw [zc41])]; rfl) | (rw [zIG_t ⟨⟨zj, zhj, rfl⟩, ⟨ze, Nat.zero_le _, zhe, rfl⟩⟩, hnj, e9, if_neg (nI_ne (by omega) (by omega) (by omega))]; rfl) | exact zzz_open⟩
    · skip
      refine z_ldc hx dX12_ask_17 kX12_61 ?_
      exact z_iret hx hF dX12_ask_19 rfl rfl ⟨by unfold aAsk; first | rw [zII_f (fun h => zc14 h.2)] | (rw [zII_t ⟨⟨zj, zhj, rfl⟩, ⟨ze, Nat.zero_le _, zhe, rfl⟩⟩, hnj, e9, if_pos (by rw [zc41])]; rfl) | (rw [zII_t ⟨⟨zj, zhj, rfl⟩, ⟨ze, Nat.zero_le _, zhe, rfl⟩⟩, hnj, e9, if_neg (nI_ne (by omega) (by omega) (by omega))]; rfl) | exact zzz_open, by unfold aBod; first | (rw [zIG_f (fun h => zc14 h.2)]; rfl) | (rw [zIG_t ⟨⟨zj, zhj, rfl⟩, ⟨ze, Nat.zero_le _, zhe, rfl⟩⟩, hnj, e9, if_pos (by rw [zc41])]; rfl) | (rw [zIG_t ⟨⟨zj, zhj, rfl⟩, ⟨ze, Nat.zero_le _, zhe, rfl⟩⟩, hnj, e9, if_neg (nI_ne (by omega) (by omega) (by omega))]; rfl) | exact zzz_open⟩

set_option maxHeartbeats 4000000 in
set_option maxRecDepth 100000 in
theorem qX12_ask_5 (r : zMR) (t : zMT) (L : zL) (dr tr : Nat → Nat) (y : zMY) (a : zMA) (hw : zWf L) (w : Int32) (zj : Nat) (zhj : zj < lP L) (e9 : lK L zj = 5) : zMi mX12_ask 5 ([.ref 0, .int (nI zj), .int w]) (hM r t L dr tr y a) (fun z u => z = aAsk L (nI zj) w ∧ u = hM r t L dr tr y (zOb (aBod L (nI zj) w) a)) := by
  refine zMi.of (by decide) (Nat.le_of_ble_eq_true rfl) (fun x hx hF => ?_)
  obtain ⟨w1, w2, w3, w4, w5⟩ := id hw
  refine z_aload_n hx dX12_ask_0 rfl ?_
  refine z_iload_n hx dX12_ask_1 rfl ?_
  refine z_callivF hx (qX12_isPerson r t L dr tr y a hw _) dX12_ask_2 sX12_178 rfl rfl rfl rfl (Nat.le_of_ble_eq_true rfl) rfl (Nat.le_of_ble_eq_true rfl) (by decide) ?_
  first | refine z_if_eqB (tgt := 17) hx dX12_ask_5 (by decide) (fun zc5 => ?_) (fun zc5 => ?_) | refine z_if_eqN (tgt := 17) hx dX12_ask_5 (by decide) (by omega) (fun zc5 => ?_) (fun zc5 => ?_) | refine z_if_eq (tgt := 17) hx dX12_ask_5 (by decide) (fun zc5 => ?_) (fun zc5 => ?_)
  · skip
    exact absurd ⟨zj, zhj, rfl⟩ zc5
  · skip
    have hnj : zNat (nI zj) = zj := zNat_nI (by omega)
    refine z_iload_n hx dX12_ask_8 rfl ?_
    refine z_iconst (v := nI 0) hx dX12_ask_9 (by decide) ?_
    refine z_iconst (v := nI 1) hx dX12_ask_10 (by decide) ?_
    refine z_callisP hx [] (qX12_inN _ _ _ (by decide)) dX12_ask_11 sX12_53 rfl rfl rfl (by decide) (by decide) rfl (Nat.le_of_ble_eq_true rfl) (by decide) ?_
    first | refine z_if_neB (tgt := 20) hx dX12_ask_14 (by decide) (fun zc14 => ?_) (fun zc14 => ?_) | refine z_if_neN (tgt := 20) hx dX12_ask_14 (by decide) (by omega) (fun zc14 => ?_) (fun zc14 => ?_) | refine z_if_ne (tgt := 20) hx dX12_ask_14 (by decide) (fun zc14 => ?_) (fun zc14 => ?_)
    · skip
      obtain ⟨ze, -, zhe, rfl⟩ := zc14
      refine z_aload_n hx dX12_ask_20 rfl ?_
      refine z_iconst (v := nI 0) hx dX12_ask_21 (by decide) ?_
      refine z_puti hx dX12_ask_22 pX12_214 rfl (Nat.le_of_ble_eq_true rfl) ?_
      refine z_heap (show _ = hM r t L dr tr y (a.1, 0) from rfl) ?_
      refine z_aload_n hx dX12_ask_25 rfl ?_
      refine z_iload_n hx dX12_ask_26 rfl ?_
      refine z_callivF hx (qX12_kindIn r t L dr tr y (a.1, 0) hw zj zhj) dX12_ask_27 sX12_211 rfl rfl rfl rfl (Nat.le_of_ble_eq_true rfl) rfl (Nat.le_of_ble_eq_true rfl) (by decide) ?_
      refine z_topN e9 ?_
      refine z_iconst (v := nI 4) hx dX12_ask_30 (by decide) ?_
      refine z_icmp_ltN (tgt := 38) hx dX12_ask_31 (by decide) (by omega) (by omega) (fun zc31 => ?_) (fun zc31 => ?_)
      · skip
        exfalso; omega
      · skip
        refine z_iconst (v := nI 1) hx dX12_ask_34 (by decide) ?_
        refine z_goto (tgt := 39) hx dX12_ask_35 (by decide) ?_
        refine z_istore_n hx dX12_ask_39 (Nat.le_of_ble_eq_true rfl) rfl ?_
        refine z_iload_n hx dX12_ask_40 rfl ?_
        first | refine z_if_neB (tgt := 62) hx dX12_ask_41 (by decide) (fun zc41 => ?_) (fun zc41 => ?_) | refine z_if_neN (tgt := 62) hx dX12_ask_41 (by decide) (by omega) (fun zc41 => ?_) (fun zc41 => ?_) | refine z_if_ne (tgt := 62) hx dX12_ask_41 (by decide) (fun zc41 => ?_) (fun zc41 => ?_)
        · skip
          refine z_iload_n hx dX12_ask_62 rfl ?_
          refine z_if_eqN (tgt := 74) hx dX12_ask_63 (by decide) (by omega) (fun zc63 => ?_) (fun zc63 => ?_)
          · skip
            exfalso; omega
          · skip
            refine z_aload_n hx dX12_ask_66 rfl ?_
            refine z_iload_n hx dX12_ask_67 rfl ?_
            refine z_callivF hx (qX12_childMark_5 r t L dr tr y a.1 0 hw zj zhj e9 (by omega)) dX12_ask_68 sX12_229 rfl rfl rfl rfl (Nat.le_of_ble_eq_true rfl) rfl (Nat.le_of_ble_eq_true rfl) (by decide) ?_
            refine z_goto (tgt := 79) hx dX12_ask_71 (by decide) ?_
            exact z_iret hx hF dX12_ask_79 rfl rfl ⟨by unfold aAsk; first | rw [zII_f (fun h => zc14 h.2)] | (rw [zII_t ⟨⟨zj, zhj, rfl⟩, ⟨ze, Nat.zero_le _, zhe, rfl⟩⟩, hnj, e9, if_pos (by rw [zc41])]; rfl) | (rw [zII_t ⟨⟨zj, zhj, rfl⟩, ⟨ze, Nat.zero_le _, zhe, rfl⟩⟩, hnj, e9, if_neg (nI_ne (by omega) (by omega) (by omega))]; rfl) | exact zzz_open, by unfold aBod; first | (rw [zIG_f (fun h => zc14 h.2)]; rfl) | (rw [zIG_t ⟨⟨zj, zhj, rfl⟩, ⟨ze, Nat.zero_le _, zhe, rfl⟩⟩, hnj, e9, if_pos (by rw [zc41])]; rfl) | (rw [zIG_t ⟨⟨zj, zhj, rfl⟩, ⟨ze, Nat.zero_le _, zhe, rfl⟩⟩, hnj, e9, if_neg (nI_ne (by omega) (by omega) (by omega))]; rfl) | exact zzz_open⟩
        · skip
          refine z_iload_n hx dX12_ask_44 rfl ?_
          refine z_if_eqN (tgt := 56) hx dX12_ask_45 (by decide) (by omega) (fun zc45 => ?_) (fun zc45 => ?_)
          · skip
            exfalso; omega
          · skip
            refine z_aload_n hx dX12_ask_48 rfl ?_
            refine z_iload_n hx dX12_ask_49 rfl ?_
            refine z_callivF hx (qX12_childSize_5 r t L dr tr y a.1 0 hw zj zhj e9 (by omega)) dX12_ask_50 sX12_223 rfl rfl rfl rfl (Nat.le_of_ble_eq_true rfl) rfl (Nat.le_of_ble_eq_true rfl) (by decide) ?_
            refine z_goto (tgt := 61) hx dX12_ask_53 (by decide) ?_
            exact z_iret hx hF dX12_ask_61 rfl rfl ⟨by unfold aAsk; first | rw [zII_f (fun h => zc14 h.2)] | (rw [zII_t ⟨⟨zj, zhj, rfl⟩, ⟨ze, Nat.zero_le _, zhe, rfl⟩⟩, hnj, e9, if_pos (by rw [zc41])]; rfl) | (rw [zII_t ⟨⟨zj, zhj, rfl⟩, ⟨ze, Nat.zero_le _, zhe, rfl⟩⟩, hnj, e9, if_neg (nI_ne (by omega) (by omega) (by omega))]; rfl) | exact zzz_open, by unfold aBod; first | (rw [zIG_f (fun h => zc14 h.2)]; rfl) | (rw [zIG_t ⟨⟨zj, zhj, rfl⟩, ⟨ze, Nat.zero_le _, zhe, rfl⟩⟩, hnj, e9, if_pos (by rw [zc41])]; rfl) | (rw [zIG_t ⟨⟨zj, zhj, rfl⟩, ⟨ze, Nat.zero_le _, zhe, rfl⟩⟩, hnj, e9, if_neg (nI_ne (by omega) (by omega) (by omega))]; rfl) | exact zzz_open⟩
    · skip
      refine z_ldc hx dX12_ask_17 kX12_61 ?_
      exact z_iret hx hF dX12_ask_19 rfl rfl ⟨by unfold aAsk; first | rw [zII_f (fun h => zc14 h.2)] | (rw [zII_t ⟨⟨zj, zhj, rfl⟩, ⟨ze, Nat.zero_le _, zhe, rfl⟩⟩, hnj, e9, if_pos (by rw [zc41])]; rfl) | (rw [zII_t ⟨⟨zj, zhj, rfl⟩, ⟨ze, Nat.zero_le _, zhe, rfl⟩⟩, hnj, e9, if_neg (nI_ne (by omega) (by omega) (by omega))]; rfl) | exact zzz_open, by unfold aBod; first | (rw [zIG_f (fun h => zc14 h.2)]; rfl) | (rw [zIG_t ⟨⟨zj, zhj, rfl⟩, ⟨ze, Nat.zero_le _, zhe, rfl⟩⟩, hnj, e9, if_pos (by rw [zc41])]; rfl) | (rw [zIG_t ⟨⟨zj, zhj, rfl⟩, ⟨ze, Nat.zero_le _, zhe, rfl⟩⟩, hnj, e9, if_neg (nI_ne (by omega) (by omega) (by omega))]; rfl) | exact zzz_open⟩

theorem qX12_ask (r : zMR) (t : zMT) (L : zL) (dr tr : Nat → Nat) (y : zMY) (a : zMA) (hw : zWf L) (v w : Int32) (hv : inP (lP L) v) : zMi mX12_ask 5 [.ref 0, .int v, .int w] (hM r t L dr tr y a) (fun z u => z = aAsk L v w ∧ u = hM r t L dr tr y (zOb (aBod L v w) a)) := by
  obtain ⟨zj, zhj, rfl⟩ := hv
  have w6 := hw.2.2.2.2 zj zhj
  rcases (show lK L zj = 1 ∨ lK L zj = 2 ∨ lK L zj = 3 ∨ lK L zj = 4 ∨ lK L zj = 5 by omega) with e9 | e9 | e9 | e9 | e9
  · exact qX12_ask_1 r t L dr tr y a hw w zj zhj e9
  · exact qX12_ask_2 r t L dr tr y a hw w zj zhj e9
  · exact qX12_ask_3 r t L dr tr y a hw w zj zhj e9
  · exact qX12_ask_4 r t L dr tr y a hw w zj zhj e9
  · exact qX12_ask_5 r t L dr tr y a hw w zj zhj e9
set_option maxHeartbeats 4000000 in
set_option maxRecDepth 100000 in
theorem qX12_as (r : zMR) (t : zMT) (L : zL) (dr tr : Nat → Nat) (y : zMY) (a : zMA) (hw : zWf L) (v w : Int32) : zMi mX12_as 2 ([.ref 0, .int v, .int w]) (hM r t L dr tr y a) (fun z u => ∃ s9, (z, s9) = aAs L r.2.2.2.2 v w ∧ u = hM (r.1, r.2.1, r.2.2.1, r.2.2.2.1, s9) t L dr tr y a) := by
  refine zMi.of (by decide) (Nat.le_of_ble_eq_true rfl) (fun x hx hF => ?_)
  obtain ⟨w1, w2, w3, w4, w5⟩ := id hw
  refine z_aload_n hx dX12_as_0 rfl ?_
  refine z_iload_n hx dX12_as_1 rfl ?_
  refine z_callivF hx (qX12_isPerson r t L dr tr y a hw _) dX12_as_2 sX12_178 rfl rfl rfl rfl (Nat.le_of_ble_eq_true rfl) rfl (Nat.le_of_ble_eq_true rfl) (by decide) ?_
  first | refine z_if_eqB (tgt := 17) hx dX12_as_5 (by decide) (fun zc5 => ?_) (fun zc5 => ?_) | refine z_if_eqN (tgt := 17) hx dX12_as_5 (by decide) (by omega) (fun zc5 => ?_) (fun zc5 => ?_) | refine z_if_eq (tgt := 17) hx dX12_as_5 (by decide) (fun zc5 => ?_) (fun zc5 => ?_)
  · skip
    refine z_ldc hx dX12_as_17 kX12_61 ?_
    exact z_iret hx hF dX12_as_19 rfl rfl ⟨r.2.2.2.2, by unfold aAs; first | rw [zIG_f (fun h => zc5 h.1)] | rw [zIG_f (fun h => zc14 h.2)], rfl⟩
  · skip
    obtain ⟨zj, zhj, rfl⟩ := zc5
    have w6 := w5 zj zhj
    have hnj : zNat (nI zj) = zj := zNat_nI (by omega)
    refine z_iload_n hx dX12_as_8 rfl ?_
    refine z_iconst (v := nI 0) hx dX12_as_9 (by decide) ?_
    refine z_iconst (v := nI 5) hx dX12_as_10 (by decide) ?_
    refine z_callisP hx [] (qX12_inN _ _ _ (by decide)) dX12_as_11 sX12_53 rfl rfl rfl (by decide) (by decide) rfl (Nat.le_of_ble_eq_true rfl) (by decide) ?_
    first | refine z_if_neB (tgt := 20) hx dX12_as_14 (by decide) (fun zc14 => ?_) (fun zc14 => ?_) | refine z_if_neN (tgt := 20) hx dX12_as_14 (by decide) (by omega) (fun zc14 => ?_) (fun zc14 => ?_) | refine z_if_ne (tgt := 20) hx dX12_as_14 (by decide) (fun zc14 => ?_) (fun zc14 => ?_)
    · skip
      obtain ⟨ze, -, zhe, rfl⟩ := zc14
      have hne : zNat (nI ze) = ze := zNat_nI (by omega)
      refine z_aload_n hx dX12_as_20 rfl ?_
      refine z_iload_n hx dX12_as_21 rfl ?_
      refine z_callivF hx (qX12_kindIn r t L dr tr y a hw zj zhj) dX12_as_22 sX12_211 rfl rfl rfl rfl (Nat.le_of_ble_eq_true rfl) rfl (Nat.le_of_ble_eq_true rfl) (by decide) ?_
      refine z_istore_n hx dX12_as_25 (Nat.le_of_ble_eq_true rfl) rfl ?_
      refine z_iload_n hx dX12_as_26 rfl ?_
      refine z_if_eqN (tgt := 55) hx dX12_as_27 (by decide) (by omega) (fun zc27 => ?_) (fun zc27 => ?_)
      · skip
        refine z_iconst (v := nI 1) hx dX12_as_55 (by decide) ?_
        refine z_goto (tgt := 60) hx dX12_as_56 (by decide) ?_
        refine z_istore hx dX12_as_60 (Nat.le_of_ble_eq_true rfl) rfl ?_
        refine z_iload hx dX12_as_62 rfl ?_
        refine z_if_eqN (tgt := 75) hx dX12_as_64 (by decide) (by omega) (fun zc64 => ?_) (fun zc64 => ?_)
        · skip
          refine z_aload_n hx dX12_as_75 rfl ?_
          refine z_iconst (v := nI 3) hx dX12_as_76 (by decide) ?_
          refine z_callivF hx (qX12_found r t L dr tr y a 3) dX12_as_77 sX12_62 rfl rfl rfl rfl (Nat.le_of_ble_eq_true rfl) rfl (Nat.le_of_ble_eq_true rfl) (by decide) ?_
          first | (exfalso; omega) | exact z_iret hx hF dX12_as_80 rfl rfl ⟨0, by unfold aAs; rw [zIG_t ⟨⟨zj, zhj, rfl⟩, ⟨ze, Nat.zero_le _, zhe, rfl⟩⟩, hnj, hne, zIG_t (show ze = 0 ∨ ze = lK L zj ∨ (ze = 1 ∧ lK L zj < 4) ∨ (ze = 4 ∧ lK L zj = 5) by omega)], rfl⟩ | exact z_iret hx hF dX12_as_80 rfl rfl ⟨3, by unfold aAs; rw [zIG_t ⟨⟨zj, zhj, rfl⟩, ⟨ze, Nat.zero_le _, zhe, rfl⟩⟩, hnj, hne, zIG_f (show ¬ (ze = 0 ∨ ze = lK L zj ∨ (ze = 1 ∧ lK L zj < 4) ∨ (ze = 4 ∧ lK L zj = 5)) by omega)], rfl⟩
        · skip
          refine z_aload_n hx dX12_as_67 rfl ?_
          refine z_iload_n hx dX12_as_68 rfl ?_
          refine z_callivF hx (qX12_well r t L dr tr y a (nI zj)) dX12_as_69 sX12_66 rfl rfl rfl rfl (Nat.le_of_ble_eq_true rfl) rfl (Nat.le_of_ble_eq_true rfl) (by decide) ?_
          refine z_goto (tgt := 80) hx dX12_as_72 (by decide) ?_
          first | (exfalso; omega) | exact z_iret hx hF dX12_as_80 rfl rfl ⟨0, by unfold aAs; rw [zIG_t ⟨⟨zj, zhj, rfl⟩, ⟨ze, Nat.zero_le _, zhe, rfl⟩⟩, hnj, hne, zIG_t (show ze = 0 ∨ ze = lK L zj ∨ (ze = 1 ∧ lK L zj < 4) ∨ (ze = 4 ∧ lK L zj = 5) by omega)], rfl⟩ | exact z_iret hx hF dX12_as_80 rfl rfl ⟨3, by unfold aAs; rw [zIG_t ⟨⟨zj, zhj, rfl⟩, ⟨ze, Nat.zero_le _, zhe, rfl⟩⟩, hnj, hne, zIG_f (show ¬ (ze = 0 ∨ ze = lK L zj ∨ (ze = 1 ∧ lK L zj < 4) ∨ (ze = 4 ∧ lK L zj = 5)) by omega)], rfl⟩
      · skip
        refine z_iload_n hx dX12_as_30 rfl ?_
        refine z_iload_n hx dX12_as_31 rfl ?_
        refine z_icmp_eqN (tgt := 55) hx dX12_as_32 (by decide) (by omega) (by omega) (fun zc32 => ?_) (fun zc32 => ?_)
        · skip
          refine z_iconst (v := nI 1) hx dX12_as_55 (by decide) ?_
          refine z_goto (tgt := 60) hx dX12_as_56 (by decide) ?_
          refine z_istore hx dX12_as_60 (Nat.le_of_ble_eq_true rfl) rfl ?_
          refine z_iload hx dX12_as_62 rfl ?_
          refine z_if_eqN (tgt := 75) hx dX12_as_64 (by decide) (by omega) (fun zc64 => ?_) (fun zc64 => ?_)
          · skip
            refine z_aload_n hx dX12_as_75 rfl ?_
            refine z_iconst (v := nI 3) hx dX12_as_76 (by decide) ?_
            refine z_callivF hx (qX12_found r t L dr tr y a 3) dX12_as_77 sX12_62 rfl rfl rfl rfl (Nat.le_of_ble_eq_true rfl) rfl (Nat.le_of_ble_eq_true rfl) (by decide) ?_
            first | (exfalso; omega) | exact z_iret hx hF dX12_as_80 rfl rfl ⟨0, by unfold aAs; rw [zIG_t ⟨⟨zj, zhj, rfl⟩, ⟨ze, Nat.zero_le _, zhe, rfl⟩⟩, hnj, hne, zIG_t (show ze = 0 ∨ ze = lK L zj ∨ (ze = 1 ∧ lK L zj < 4) ∨ (ze = 4 ∧ lK L zj = 5) by omega)], rfl⟩ | exact z_iret hx hF dX12_as_80 rfl rfl ⟨3, by unfold aAs; rw [zIG_t ⟨⟨zj, zhj, rfl⟩, ⟨ze, Nat.zero_le _, zhe, rfl⟩⟩, hnj, hne, zIG_f (show ¬ (ze = 0 ∨ ze = lK L zj ∨ (ze = 1 ∧ lK L zj < 4) ∨ (ze = 4 ∧ lK L zj = 5)) by omega)], rfl⟩
          · skip
            refine z_aload_n hx dX12_as_67 rfl ?_
            refine z_iload_n hx dX12_as_68 rfl ?_
            refine z_callivF hx (qX12_well r t L dr tr y a (nI zj)) dX12_as_69 sX12_66 rfl rfl rfl rfl (Nat.le_of_ble_eq_true rfl) rfl (Nat.le_of_ble_eq_true rfl) (by decide) ?_
            refine z_goto (tgt := 80) hx dX12_as_72 (by decide) ?_
            first | (exfalso; omega) | exact z_iret hx hF dX12_as_80 rfl rfl ⟨0, by unfold aAs; rw [zIG_t ⟨⟨zj, zhj, rfl⟩, ⟨ze, Nat.zero_le _, zhe, rfl⟩⟩, hnj, hne, zIG_t (show ze = 0 ∨ ze = lK L zj ∨ (ze = 1 ∧ lK L zj < 4) ∨ (ze = 4 ∧ lK L zj = 5) by omega)], rfl⟩ | exact z_iret hx hF dX12_as_80 rfl rfl ⟨3, by unfold aAs; rw [zIG_t ⟨⟨zj, zhj, rfl⟩, ⟨ze, Nat.zero_le _, zhe, rfl⟩⟩, hnj, hne, zIG_f (show ¬ (ze = 0 ∨ ze = lK L zj ∨ (ze = 1 ∧ lK L zj < 4) ∨ (ze = 4 ∧ lK L zj = 5)) by omega)], rfl⟩
        · skip
          refine z_iload_n hx dX12_as_35 rfl ?_
          refine z_iconst (v := nI 1) hx dX12_as_36 (by decide) ?_
          refine z_icmp_neN (tgt := 45) hx dX12_as_37 (by decide) (by omega) (by omega) (fun zc37 => ?_) (fun zc37 => ?_)
          · skip
            refine z_iload_n hx dX12_as_45 rfl ?_
            refine z_iconst (v := nI 4) hx dX12_as_46 (by decide) ?_
            refine z_icmp_neN (tgt := 59) hx dX12_as_47 (by decide) (by omega) (by omega) (fun zc47 => ?_) (fun zc47 => ?_)
            · skip
              refine z_iconst (v := nI 0) hx dX12_as_59 (by decide) ?_
              refine z_istore hx dX12_as_60 (Nat.le_of_ble_eq_true rfl) rfl ?_
              refine z_iload hx dX12_as_62 rfl ?_
              refine z_if_eqN (tgt := 75) hx dX12_as_64 (by decide) (by omega) (fun zc64 => ?_) (fun zc64 => ?_)
              · skip
                refine z_aload_n hx dX12_as_75 rfl ?_
                refine z_iconst (v := nI 3) hx dX12_as_76 (by decide) ?_
                refine z_callivF hx (qX12_found r t L dr tr y a 3) dX12_as_77 sX12_62 rfl rfl rfl rfl (Nat.le_of_ble_eq_true rfl) rfl (Nat.le_of_ble_eq_true rfl) (by decide) ?_
                first | (exfalso; omega) | exact z_iret hx hF dX12_as_80 rfl rfl ⟨0, by unfold aAs; rw [zIG_t ⟨⟨zj, zhj, rfl⟩, ⟨ze, Nat.zero_le _, zhe, rfl⟩⟩, hnj, hne, zIG_t (show ze = 0 ∨ ze = lK L zj ∨ (ze = 1 ∧ lK L zj < 4) ∨ (ze = 4 ∧ lK L zj = 5) by omega)], rfl⟩ | exact z_iret hx hF dX12_as_80 rfl rfl ⟨3, by unfold aAs; rw [zIG_t ⟨⟨zj, zhj, rfl⟩, ⟨ze, Nat.zero_le _, zhe, rfl⟩⟩, hnj, hne, zIG_f (show ¬ (ze = 0 ∨ ze = lK L zj ∨ (ze = 1 ∧ lK L zj < 4) ∨ (ze = 4 ∧ lK L zj = 5)) by omega)], rfl⟩
              · skip
                refine z_aload_n hx dX12_as_67 rfl ?_
                refine z_iload_n hx dX12_as_68 rfl ?_
                refine z_callivF hx (qX12_well r t L dr tr y a (nI zj)) dX12_as_69 sX12_66 rfl rfl rfl rfl (Nat.le_of_ble_eq_true rfl) rfl (Nat.le_of_ble_eq_true rfl) (by decide) ?_
                refine z_goto (tgt := 80) hx dX12_as_72 (by decide) ?_
                first | (exfalso; omega) | exact z_iret hx hF dX12_as_80 rfl rfl ⟨0, by unfold aAs; rw [zIG_t ⟨⟨zj, zhj, rfl⟩, ⟨ze, Nat.zero_le _, zhe, rfl⟩⟩, hnj, hne, zIG_t (show ze = 0 ∨ ze = lK L zj ∨ (ze = 1 ∧ lK L zj < 4) ∨ (ze = 4 ∧ lK L zj = 5) by omega)], rfl⟩ | exact z_iret hx hF dX12_as_80 rfl rfl ⟨3, by unfold aAs; rw [zIG_t ⟨⟨zj, zhj, rfl⟩, ⟨ze, Nat.zero_le _, zhe, rfl⟩⟩, hnj, hne, zIG_f (show ¬ (ze = 0 ∨ ze = lK L zj ∨ (ze = 1 ∧ lK L zj < 4) ∨ (ze = 4 ∧ lK L zj = 5)) by omega)], rfl⟩
            · skip
              refine z_iload_n hx dX12_as_50 rfl ?_
              refine z_iconst (v := nI 5) hx dX12_as_51 (by decide) ?_
              refine z_icmp_neN (tgt := 59) hx dX12_as_52 (by decide) (by omega) (by omega) (fun zc52 => ?_) (fun zc52 => ?_)
              · skip
                refine z_iconst (v := nI 0) hx dX12_as_59 (by decide) ?_
                refine z_istore hx dX12_as_60 (Nat.le_of_ble_eq_true rfl) rfl ?_
                refine z_iload hx dX12_as_62 rfl ?_
                refine z_if_eqN (tgt := 75) hx dX12_as_64 (by decide) (by omega) (fun zc64 => ?_) (fun zc64 => ?_)
                · skip
                  refine z_aload_n hx dX12_as_75 rfl ?_
                  refine z_iconst (v := nI 3) hx dX12_as_76 (by decide) ?_
                  refine z_callivF hx (qX12_found r t L dr tr y a 3) dX12_as_77 sX12_62 rfl rfl rfl rfl (Nat.le_of_ble_eq_true rfl) rfl (Nat.le_of_ble_eq_true rfl) (by decide) ?_
                  first | (exfalso; omega) | exact z_iret hx hF dX12_as_80 rfl rfl ⟨0, by unfold aAs; rw [zIG_t ⟨⟨zj, zhj, rfl⟩, ⟨ze, Nat.zero_le _, zhe, rfl⟩⟩, hnj, hne, zIG_t (show ze = 0 ∨ ze = lK L zj ∨ (ze = 1 ∧ lK L zj < 4) ∨ (ze = 4 ∧ lK L zj = 5) by omega)], rfl⟩ | exact z_iret hx hF dX12_as_80 rfl rfl ⟨3, by unfold aAs; rw [zIG_t ⟨⟨zj, zhj, rfl⟩, ⟨ze, Nat.zero_le _, zhe, rfl⟩⟩, hnj, hne, zIG_f (show ¬ (ze = 0 ∨ ze = lK L zj ∨ (ze = 1 ∧ lK L zj < 4) ∨ (ze = 4 ∧ lK L zj = 5)) by omega)], rfl⟩
                · skip
                  refine z_aload_n hx dX12_as_67 rfl ?_
                  refine z_iload_n hx dX12_as_68 rfl ?_
                  refine z_callivF hx (qX12_well r t L dr tr y a (nI zj)) dX12_as_69 sX12_66 rfl rfl rfl rfl (Nat.le_of_ble_eq_true rfl) rfl (Nat.le_of_ble_eq_true rfl) (by decide) ?_
                  refine z_goto (tgt := 80) hx dX12_as_72 (by decide) ?_
                  first | (exfalso; omega) | exact z_iret hx hF dX12_as_80 rfl rfl ⟨0, by unfold aAs; rw [zIG_t ⟨⟨zj, zhj, rfl⟩, ⟨ze, Nat.zero_le _, zhe, rfl⟩⟩, hnj, hne, zIG_t (show ze = 0 ∨ ze = lK L zj ∨ (ze = 1 ∧ lK L zj < 4) ∨ (ze = 4 ∧ lK L zj = 5) by omega)], rfl⟩ | exact z_iret hx hF dX12_as_80 rfl rfl ⟨3, by unfold aAs; rw [zIG_t ⟨⟨zj, zhj, rfl⟩, ⟨ze, Nat.zero_le _, zhe, rfl⟩⟩, hnj, hne, zIG_f (show ¬ (ze = 0 ∨ ze = lK L zj ∨ (ze = 1 ∧ lK L zj < 4) ∨ (ze = 4 ∧ lK L zj = 5)) by omega)], rfl⟩
              · skip
                refine z_iconst (v := nI 1) hx dX12_as_55 (by decide) ?_
                refine z_goto (tgt := 60) hx dX12_as_56 (by decide) ?_
                refine z_istore hx dX12_as_60 (Nat.le_of_ble_eq_true rfl) rfl ?_
                refine z_iload hx dX12_as_62 rfl ?_
                refine z_if_eqN (tgt := 75) hx dX12_as_64 (by decide) (by omega) (fun zc64 => ?_) (fun zc64 => ?_)
                · skip
                  refine z_aload_n hx dX12_as_75 rfl ?_
                  refine z_iconst (v := nI 3) hx dX12_as_76 (by decide) ?_
                  refine z_callivF hx (qX12_found r t L dr tr y a 3) dX12_as_77 sX12_62 rfl rfl rfl rfl (Nat.le_of_ble_eq_true rfl) rfl (Nat.le_of_ble_eq_true rfl) (by decide) ?_
                  first | (exfalso; omega) | exact z_iret hx hF dX12_as_80 rfl rfl ⟨0, by unfold aAs; rw [zIG_t ⟨⟨zj, zhj, rfl⟩, ⟨ze, Nat.zero_le _, zhe, rfl⟩⟩, hnj, hne, zIG_t (show ze = 0 ∨ ze = lK L zj ∨ (ze = 1 ∧ lK L zj < 4) ∨ (ze = 4 ∧ lK L zj = 5) by omega)], rfl⟩ | exact z_iret hx hF dX12_as_80 rfl rfl ⟨3, by unfold aAs; rw [zIG_t ⟨⟨zj, zhj, rfl⟩, ⟨ze, Nat.zero_le _, zhe, rfl⟩⟩, hnj, hne, zIG_f (show ¬ (ze = 0 ∨ ze = lK L zj ∨ (ze = 1 ∧ lK L zj < 4) ∨ (ze = 4 ∧ lK L zj = 5)) by omega)], rfl⟩
                · skip
                  refine z_aload_n hx dX12_as_67 rfl ?_
                  refine z_iload_n hx dX12_as_68 rfl ?_
                  refine z_callivF hx (qX12_well r t L dr tr y a (nI zj)) dX12_as_69 sX12_66 rfl rfl rfl rfl (Nat.le_of_ble_eq_true rfl) rfl (Nat.le_of_ble_eq_true rfl) (by decide) ?_
                  refine z_goto (tgt := 80) hx dX12_as_72 (by decide) ?_
                  first | (exfalso; omega) | exact z_iret hx hF dX12_as_80 rfl rfl ⟨0, by unfold aAs; rw [zIG_t ⟨⟨zj, zhj, rfl⟩, ⟨ze, Nat.zero_le _, zhe, rfl⟩⟩, hnj, hne, zIG_t (show ze = 0 ∨ ze = lK L zj ∨ (ze = 1 ∧ lK L zj < 4) ∨ (ze = 4 ∧ lK L zj = 5) by omega)], rfl⟩ | exact z_iret hx hF dX12_as_80 rfl rfl ⟨3, by unfold aAs; rw [zIG_t ⟨⟨zj, zhj, rfl⟩, ⟨ze, Nat.zero_le _, zhe, rfl⟩⟩, hnj, hne, zIG_f (show ¬ (ze = 0 ∨ ze = lK L zj ∨ (ze = 1 ∧ lK L zj < 4) ∨ (ze = 4 ∧ lK L zj = 5)) by omega)], rfl⟩
          · skip
            refine z_iload_n hx dX12_as_40 rfl ?_
            refine z_iconst (v := nI 4) hx dX12_as_41 (by decide) ?_
            refine z_icmp_ltN (tgt := 55) hx dX12_as_42 (by decide) (by omega) (by omega) (fun zc42 => ?_) (fun zc42 => ?_)
            · skip
              refine z_iconst (v := nI 1) hx dX12_as_55 (by decide) ?_
              refine z_goto (tgt := 60) hx dX12_as_56 (by decide) ?_
              refine z_istore hx dX12_as_60 (Nat.le_of_ble_eq_true rfl) rfl ?_
              refine z_iload hx dX12_as_62 rfl ?_
              refine z_if_eqN (tgt := 75) hx dX12_as_64 (by decide) (by omega) (fun zc64 => ?_) (fun zc64 => ?_)
              · skip
                refine z_aload_n hx dX12_as_75 rfl ?_
                refine z_iconst (v := nI 3) hx dX12_as_76 (by decide) ?_
                refine z_callivF hx (qX12_found r t L dr tr y a 3) dX12_as_77 sX12_62 rfl rfl rfl rfl (Nat.le_of_ble_eq_true rfl) rfl (Nat.le_of_ble_eq_true rfl) (by decide) ?_
                first | (exfalso; omega) | exact z_iret hx hF dX12_as_80 rfl rfl ⟨0, by unfold aAs; rw [zIG_t ⟨⟨zj, zhj, rfl⟩, ⟨ze, Nat.zero_le _, zhe, rfl⟩⟩, hnj, hne, zIG_t (show ze = 0 ∨ ze = lK L zj ∨ (ze = 1 ∧ lK L zj < 4) ∨ (ze = 4 ∧ lK L zj = 5) by omega)], rfl⟩ | exact z_iret hx hF dX12_as_80 rfl rfl ⟨3, by unfold aAs; rw [zIG_t ⟨⟨zj, zhj, rfl⟩, ⟨ze, Nat.zero_le _, zhe, rfl⟩⟩, hnj, hne, zIG_f (show ¬ (ze = 0 ∨ ze = lK L zj ∨ (ze = 1 ∧ lK L zj < 4) ∨ (ze = 4 ∧ lK L zj = 5)) by omega)], rfl⟩
              · skip
                refine z_aload_n hx dX12_as_67 rfl ?_
                refine z_iload_n hx dX12_as_68 rfl ?_
                refine z_callivF hx (qX12_well r t L dr tr y a (nI zj)) dX12_as_69 sX12_66 rfl rfl rfl rfl (Nat.le_of_ble_eq_true rfl) rfl (Nat.le_of_ble_eq_true rfl) (by decide) ?_
                refine z_goto (tgt := 80) hx dX12_as_72 (by decide) ?_
                first | (exfalso; omega) | exact z_iret hx hF dX12_as_80 rfl rfl ⟨0, by unfold aAs; rw [zIG_t ⟨⟨zj, zhj, rfl⟩, ⟨ze, Nat.zero_le _, zhe, rfl⟩⟩, hnj, hne, zIG_t (show ze = 0 ∨ ze = lK L zj ∨ (ze = 1 ∧ lK L zj < 4) ∨ (ze = 4 ∧ lK L zj = 5) by omega)], rfl⟩ | exact z_iret hx hF dX12_as_80 rfl rfl ⟨3, by unfold aAs; rw [zIG_t ⟨⟨zj, zhj, rfl⟩, ⟨ze, Nat.zero_le _, zhe, rfl⟩⟩, hnj, hne, zIG_f (show ¬ (ze = 0 ∨ ze = lK L zj ∨ (ze = 1 ∧ lK L zj < 4) ∨ (ze = 4 ∧ lK L zj = 5)) by omega)], rfl⟩
            · skip
              refine z_iload_n hx dX12_as_45 rfl ?_
              refine z_iconst (v := nI 4) hx dX12_as_46 (by decide) ?_
              refine z_icmp_neN (tgt := 59) hx dX12_as_47 (by decide) (by omega) (by omega) (fun zc47 => ?_) (fun zc47 => ?_)
              · skip
                refine z_iconst (v := nI 0) hx dX12_as_59 (by decide) ?_
                refine z_istore hx dX12_as_60 (Nat.le_of_ble_eq_true rfl) rfl ?_
                refine z_iload hx dX12_as_62 rfl ?_
                refine z_if_eqN (tgt := 75) hx dX12_as_64 (by decide) (by omega) (fun zc64 => ?_) (fun zc64 => ?_)
                · skip
                  refine z_aload_n hx dX12_as_75 rfl ?_
                  refine z_iconst (v := nI 3) hx dX12_as_76 (by decide) ?_
                  refine z_callivF hx (qX12_found r t L dr tr y a 3) dX12_as_77 sX12_62 rfl rfl rfl rfl (Nat.le_of_ble_eq_true rfl) rfl (Nat.le_of_ble_eq_true rfl) (by decide) ?_
                  first | (exfalso; omega) | exact z_iret hx hF dX12_as_80 rfl rfl ⟨0, by unfold aAs; rw [zIG_t ⟨⟨zj, zhj, rfl⟩, ⟨ze, Nat.zero_le _, zhe, rfl⟩⟩, hnj, hne, zIG_t (show ze = 0 ∨ ze = lK L zj ∨ (ze = 1 ∧ lK L zj < 4) ∨ (ze = 4 ∧ lK L zj = 5) by omega)], rfl⟩ | exact z_iret hx hF dX12_as_80 rfl rfl ⟨3, by unfold aAs; rw [zIG_t ⟨⟨zj, zhj, rfl⟩, ⟨ze, Nat.zero_le _, zhe, rfl⟩⟩, hnj, hne, zIG_f (show ¬ (ze = 0 ∨ ze = lK L zj ∨ (ze = 1 ∧ lK L zj < 4) ∨ (ze = 4 ∧ lK L zj = 5)) by omega)], rfl⟩
                · skip
                  refine z_aload_n hx dX12_as_67 rfl ?_
                  refine z_iload_n hx dX12_as_68 rfl ?_
                  refine z_callivF hx (qX12_well r t L dr tr y a (nI zj)) dX12_as_69 sX12_66 rfl rfl rfl rfl (Nat.le_of_ble_eq_true rfl) rfl (Nat.le_of_ble_eq_true rfl) (by decide) ?_
                  refine z_goto (tgt := 80) hx dX12_as_72 (by decide) ?_
                  first | (exfalso; omega) | exact z_iret hx hF dX12_as_80 rfl rfl ⟨0, by unfold aAs; rw [zIG_t ⟨⟨zj, zhj, rfl⟩, ⟨ze, Nat.zero_le _, zhe, rfl⟩⟩, hnj, hne, zIG_t (show ze = 0 ∨ ze = lK L zj ∨ (ze = 1 ∧ lK L zj < 4) ∨ (ze = 4 ∧ lK L zj = 5) by omega)], rfl⟩ | exact z_iret hx hF dX12_as_80 rfl rfl ⟨3, by unfold aAs; rw [zIG_t ⟨⟨zj, zhj, rfl⟩, ⟨ze, Nat.zero_le _, zhe, rfl⟩⟩, hnj, hne, zIG_f (show ¬ (ze = 0 ∨ ze = lK L zj ∨ (ze = 1 ∧ lK L zj < 4) ∨ (ze = 4 ∧ lK L zj = 5)) by omega)], rfl⟩
              · skip
                refine z_iload_n hx dX12_as_50 rfl ?_
                refine z_iconst (v := nI 5) hx dX12_as_51 (by decide) ?_
                refine z_icmp_neN (tgt := 59) hx dX12_as_52 (by decide) (by omega) (by omega) (fun zc52 => ?_) (fun zc52 => ?_)
                · skip
                  refine z_iconst (v := nI 0) hx dX12_as_59 (by decide) ?_
                  refine z_istore hx dX12_as_60 (Nat.le_of_ble_eq_true rfl) rfl ?_
                  refine z_iload hx dX12_as_62 rfl ?_
                  refine z_if_eqN (tgt := 75) hx dX12_as_64 (by decide) (by omega) (fun zc64 => ?_) (fun zc64 => ?_)
                  · skip
                    refine z_aload_n hx dX12_as_75 rfl ?_
                    refine z_iconst (v := nI 3) hx dX12_as_76 (by decide) ?_
                    refine z_callivF hx (qX12_found r t L dr tr y a 3) dX12_as_77 sX12_62 rfl rfl rfl rfl (Nat.le_of_ble_eq_true rfl) rfl (Nat.le_of_ble_eq_true rfl) (by decide) ?_
                    first | (exfalso; omega) | exact z_iret hx hF dX12_as_80 rfl rfl ⟨0, by unfold aAs; rw [zIG_t ⟨⟨zj, zhj, rfl⟩, ⟨ze, Nat.zero_le _, zhe, rfl⟩⟩, hnj, hne, zIG_t (show ze = 0 ∨ ze = lK L zj ∨ (ze = 1 ∧ lK L zj < 4) ∨ (ze = 4 ∧ lK L zj = 5) by omega)], rfl⟩ | exact z_iret hx hF dX12_as_80 rfl rfl ⟨3, by unfold aAs; rw [zIG_t ⟨⟨zj, zhj, rfl⟩, ⟨ze, Nat.zero_le _, zhe, rfl⟩⟩, hnj, hne, zIG_f (show ¬ (ze = 0 ∨ ze = lK L zj ∨ (ze = 1 ∧ lK L zj < 4) ∨ (ze = 4 ∧ lK L zj = 5)) by omega)], rfl⟩
                  · skip
                    refine z_aload_n hx dX12_as_67 rfl ?_
                    refine z_iload_n hx dX12_as_68 rfl ?_
                    refine z_callivF hx (qX12_well r t L dr tr y a (nI zj)) dX12_as_69 sX12_66 rfl rfl rfl rfl (Nat.le_of_ble_eq_true rfl) rfl (Nat.le_of_ble_eq_true rfl) (by decide) ?_
                    refine z_goto (tgt := 80) hx dX12_as_72 (by decide) ?_
                    first | (exfalso; omega) | exact z_iret hx hF dX12_as_80 rfl rfl ⟨0, by unfold aAs; rw [zIG_t ⟨⟨zj, zhj, rfl⟩, ⟨ze, Nat.zero_le _, zhe, rfl⟩⟩, hnj, hne, zIG_t (show ze = 0 ∨ ze = lK L zj ∨ (ze = 1 ∧ lK L zj < 4) ∨ (ze = 4 ∧ lK L zj = 5) by omega)], rfl⟩ | exact z_iret hx hF dX12_as_80 rfl rfl ⟨3, by unfold aAs; rw [zIG_t ⟨⟨zj, zhj, rfl⟩, ⟨ze, Nat.zero_le _, zhe, rfl⟩⟩, hnj, hne, zIG_f (show ¬ (ze = 0 ∨ ze = lK L zj ∨ (ze = 1 ∧ lK L zj < 4) ∨ (ze = 4 ∧ lK L zj = 5)) by omega)], rfl⟩
                · skip
                  refine z_iconst (v := nI 1) hx dX12_as_55 (by decide) ?_
                  refine z_goto (tgt := 60) hx dX12_as_56 (by decide) ?_
                  refine z_istore hx dX12_as_60 (Nat.le_of_ble_eq_true rfl) rfl ?_
                  refine z_iload hx dX12_as_62 rfl ?_
                  refine z_if_eqN (tgt := 75) hx dX12_as_64 (by decide) (by omega) (fun zc64 => ?_) (fun zc64 => ?_)
                  · skip
                    refine z_aload_n hx dX12_as_75 rfl ?_
                    refine z_iconst (v := nI 3) hx dX12_as_76 (by decide) ?_
                    refine z_callivF hx (qX12_found r t L dr tr y a 3) dX12_as_77 sX12_62 rfl rfl rfl rfl (Nat.le_of_ble_eq_true rfl) rfl (Nat.le_of_ble_eq_true rfl) (by decide) ?_
                    first | (exfalso; omega) | exact z_iret hx hF dX12_as_80 rfl rfl ⟨0, by unfold aAs; rw [zIG_t ⟨⟨zj, zhj, rfl⟩, ⟨ze, Nat.zero_le _, zhe, rfl⟩⟩, hnj, hne, zIG_t (show ze = 0 ∨ ze = lK L zj ∨ (ze = 1 ∧ lK L zj < 4) ∨ (ze = 4 ∧ lK L zj = 5) by omega)], rfl⟩ | exact z_iret hx hF dX12_as_80 rfl rfl ⟨3, by unfold aAs; rw [zIG_t ⟨⟨zj, zhj, rfl⟩, ⟨ze, Nat.zero_le _, zhe, rfl⟩⟩, hnj, hne, zIG_f (show ¬ (ze = 0 ∨ ze = lK L zj ∨ (ze = 1 ∧ lK L zj < 4) ∨ (ze = 4 ∧ lK L zj = 5)) by omega)], rfl⟩
                  · skip
                    refine z_aload_n hx dX12_as_67 rfl ?_
                    refine z_iload_n hx dX12_as_68 rfl ?_
                    refine z_callivF hx (qX12_well r t L dr tr y a (nI zj)) dX12_as_69 sX12_66 rfl rfl rfl rfl (Nat.le_of_ble_eq_true rfl) rfl (Nat.le_of_ble_eq_true rfl) (by decide) ?_
                    refine z_goto (tgt := 80) hx dX12_as_72 (by decide) ?_
                    first | (exfalso; omega) | exact z_iret hx hF dX12_as_80 rfl rfl ⟨0, by unfold aAs; rw [zIG_t ⟨⟨zj, zhj, rfl⟩, ⟨ze, Nat.zero_le _, zhe, rfl⟩⟩, hnj, hne, zIG_t (show ze = 0 ∨ ze = lK L zj ∨ (ze = 1 ∧ lK L zj < 4) ∨ (ze = 4 ∧ lK L zj = 5) by omega)], rfl⟩ | exact z_iret hx hF dX12_as_80 rfl rfl ⟨3, by unfold aAs; rw [zIG_t ⟨⟨zj, zhj, rfl⟩, ⟨ze, Nat.zero_le _, zhe, rfl⟩⟩, hnj, hne, zIG_f (show ¬ (ze = 0 ∨ ze = lK L zj ∨ (ze = 1 ∧ lK L zj < 4) ∨ (ze = 4 ∧ lK L zj = 5)) by omega)], rfl⟩
    · skip
      refine z_ldc hx dX12_as_17 kX12_61 ?_
      exact z_iret hx hF dX12_as_19 rfl rfl ⟨r.2.2.2.2, by unfold aAs; first | rw [zIG_f (fun h => zc5 h.1)] | rw [zIG_f (fun h => zc14 h.2)], rfl⟩

theorem zHm_t {sz : Nat → Option Nat} {k : Nat} (h : sz k = none) : zHm sz (k + 1) = zHm sz k + 0 := by rw [zHm, if_pos h]
theorem zHm_f {sz : Nat → Option Nat} {k : Nat} (h : ¬ sz k = none) : zHm sz (k + 1) = zHm sz k + 1 := by rw [zHm, if_neg h]
set_option maxHeartbeats 4000000 in
set_option maxRecDepth 100000 in
theorem qX12_count (la : Nat → Nat) (sz : Nat → Option Nat) (it : Nat → Nat → Int32) (mn : Nat → Nat) (sp : Nat → Int32) (st : Nat) (t : zMT) (L : zL) (dr tr : Nat → Nat) (y : zMY) (a : zMA) (hs : zRok sz) (hla : ∀ j, la j ≤ 2) (hmn : zMn sz mn) (hw : zWf L) (w : Int32) : zMi mX12_count 2 ([.ref 0, .int w]) (hMr (mLa la sz) mn (mIt it) sp st t L dr tr y a) (fun z u => z = aCnt sz L y.2.1 t.2.1 w ∧ u = hMr (mLa la sz) mn (mIt it) sp st t L dr tr y a) := by
  refine zMi.of (by decide) (Nat.le_of_ble_eq_true rfl) (fun x hx hF => ?_)
  have hloop : ∀ (hF : zFi x (hMr (mLa la sz) mn (mIt it) sp st t L dr tr y a).length (fun z u => z = aCnt sz L y.2.1 t.2.1 (nI 0) ∧ u = hMr (mLa la sz) mn (mIt it) sp st t L dr tr y a)) (n50 k : Nat), 8 - k = n50 → k ≤ 8 → zV x 50 [some (.ref 0), some (.int (nI 0)), some (.int (nI (zHm sz k))), some (.int (nI k))] [] (hMr (mLa la sz) mn (mIt it) sp st t L dr tr y a) := by
    intro hF n50
    induction n50 using Nat.strongRecOn with
    | ind n50 ih =>
      intro k hn hk
      refine z_iload_n hx dX12_count_50 rfl ?_
      refine z_bipush (v := nI 8) hx dX12_count_51 (by decide) ?_
      first | refine z_icmp_geN (tgt := 78) hx dX12_count_53 (by decide) (by omega) (by omega) (fun zc53 => ?_) (fun zc53 => ?_) | refine z_icmp_ge (tgt := 78) hx dX12_count_53 (by decide) (fun zc53 => ?_) (fun zc53 => ?_)
      · skip
        refine z_iload_n hx dX12_count_78 rfl ?_
        exact z_iret hx hF dX12_count_79 rfl rfl ⟨by rw [show k = 8 by omega]; rfl, rfl⟩
      · skip
        refine z_iload_n hx dX12_count_56 rfl ?_
        refine z_aload_n hx dX12_count_57 rfl ?_
        refine z_iload_n hx dX12_count_58 rfl ?_
        refine z_callivF hx (qX12_isMissing la sz it mn sp st t L dr tr y a hs hla hmn k (by omega)) dX12_count_59 sX12_69 rfl rfl rfl rfl (Nat.le_of_ble_eq_true rfl) rfl (Nat.le_of_ble_eq_true rfl) (by decide) ?_
        refine z_if_eqB (tgt := 69) hx dX12_count_62 (by decide) (fun zc62 => ?_) (fun zc62 => ?_)
        · skip
          refine z_iconst (v := nI 1) hx dX12_count_69 (by decide) ?_
          first | refine z_iaddN hx dX12_count_70 ?_ | refine z_iadd hx dX12_count_70 ?_
          refine z_istore_n hx dX12_count_71 (Nat.le_of_ble_eq_true rfl) rfl ?_
          first | refine z_iincN (z := 1) hx dX12_count_72 rfl rfl ?_ | refine z_iinc hx dX12_count_72 rfl rfl rfl ?_
          refine z_goto (tgt := 50) hx dX12_count_75 (by decide) ?_
          exact z_eq (by first | (rw [zHm_t zc62]; rfl) | (rw [zHm_f zc62]; rfl)) rfl rfl (ih _ (by omega) (k + 1) rfl (by omega))
        · skip
          refine z_iconst (v := nI 0) hx dX12_count_65 (by decide) ?_
          refine z_goto (tgt := 70) hx dX12_count_66 (by decide) ?_
          first | refine z_iaddN hx dX12_count_70 ?_ | refine z_iadd hx dX12_count_70 ?_
          refine z_istore_n hx dX12_count_71 (Nat.le_of_ble_eq_true rfl) rfl ?_
          first | refine z_iincN (z := 1) hx dX12_count_72 rfl rfl ?_ | refine z_iinc hx dX12_count_72 rfl rfl rfl ?_
          refine z_goto (tgt := 50) hx dX12_count_75 (by decide) ?_
          exact z_eq (by first | (rw [zHm_t zc62]; rfl) | (rw [zHm_f zc62]; rfl)) rfl rfl (ih _ (by omega) (k + 1) rfl (by omega))
  refine z_iconst (v := nI 0) hx dX12_count_0 (by decide) ?_
  refine z_istore_n hx dX12_count_1 (Nat.le_of_ble_eq_true rfl) rfl ?_
  refine z_iload_n hx dX12_count_2 rfl ?_
  rcases zsw7 w with rfl | rfl | rfl | rfl | rfl | rfl | rfl | rfl | zsn
  · skip
    refine z_tableIn (off := 45) (tgt := 48) hx dX12_count_3 (by decide) (by decide) rfl (by decide) ?_
    refine z_iconst (v := nI 0) hx dX12_count_48 (by decide) ?_
    refine z_istore_n hx dX12_count_49 (Nat.le_of_ble_eq_true rfl) rfl ?_
    exact hloop hF _ 0 rfl (Nat.zero_le _)
  · skip
    refine z_tableIn (off := 77) (tgt := 80) hx dX12_count_3 (by decide) (by decide) rfl (by decide) ?_
    refine z_aload_n hx dX12_count_80 rfl ?_
    refine z_get hx dX12_count_81 fX12_25 rfl rfl ?_
    refine z_iconst (v := nI 0) hx dX12_count_84 (by decide) ?_
    refine z_ialdJ hx dX12_count_85 rfl (by decide) (by omega) ?_
    exact z_iret hx hF dX12_count_86 rfl rfl ⟨by first | exact (aCnt_x zsn.1).symm | rfl, rfl⟩
  · skip
    refine z_tableIn (off := 84) (tgt := 87) hx dX12_count_3 (by decide) (by decide) rfl (by decide) ?_
    refine z_aload_n hx dX12_count_87 rfl ?_
    refine z_get hx dX12_count_88 fX12_25 rfl rfl ?_
    refine z_iconst (v := nI 3) hx dX12_count_91 (by decide) ?_
    refine z_ialdJ hx dX12_count_92 rfl (by decide) (by omega) ?_
    exact z_iret hx hF dX12_count_93 rfl rfl ⟨by first | exact (aCnt_x zsn.1).symm | rfl, rfl⟩
  · skip
    refine z_tableIn (off := 91) (tgt := 94) hx dX12_count_3 (by decide) (by decide) rfl (by decide) ?_
    refine z_aload_n hx dX12_count_94 rfl ?_
    refine z_get hx dX12_count_95 fX12_25 rfl rfl ?_
    refine z_iconst (v := nI 2) hx dX12_count_98 (by decide) ?_
    refine z_ialdJ hx dX12_count_99 rfl (by decide) (by omega) ?_
    exact z_iret hx hF dX12_count_100 rfl rfl ⟨by first | exact (aCnt_x zsn.1).symm | rfl, rfl⟩
  · skip
    refine z_tableIn (off := 98) (tgt := 101) hx dX12_count_3 (by decide) (by decide) rfl (by decide) ?_
    refine z_aload_n hx dX12_count_101 rfl ?_
    refine z_get hx dX12_count_102 fX12_25 rfl rfl ?_
    refine z_iconst (v := nI 1) hx dX12_count_105 (by decide) ?_
    refine z_ialdJ hx dX12_count_106 rfl (by decide) (by omega) ?_
    exact z_iret hx hF dX12_count_107 rfl rfl ⟨by first | exact (aCnt_x zsn.1).symm | rfl, rfl⟩
  · skip
    refine z_tableIn (off := 105) (tgt := 108) hx dX12_count_3 (by decide) (by decide) rfl (by decide) ?_
    refine z_aload_n hx dX12_count_108 rfl ?_
    refine z_get hx dX12_count_109 fX12_25 rfl rfl ?_
    refine z_callisP hx [6] (qX12_thereIn L hw) dX12_count_112 sX12_174 rfl rfl rfl (by decide) (by decide) rfl (Nat.le_of_ble_eq_true rfl) (by decide) ?_
    exact z_iret hx hF dX12_count_115 rfl rfl ⟨by first | exact (aCnt_x zsn.1).symm | rfl, rfl⟩
  · skip
    refine z_tableIn (off := 113) (tgt := 116) hx dX12_count_3 (by decide) (by decide) rfl (by decide) ?_
    refine z_aload_n hx dX12_count_116 rfl ?_
    refine z_get hx dX12_count_117 fX12_132 rfl rfl ?_
    exact z_iret hx hF dX12_count_120 rfl rfl ⟨by first | exact (aCnt_x zsn.1).symm | rfl, rfl⟩
  · skip
    refine z_tableIn (off := 118) (tgt := 121) hx dX12_count_3 (by decide) (by decide) rfl (by decide) ?_
    refine z_aload_n hx dX12_count_121 rfl ?_
    refine z_get hx dX12_count_122 fX12_79 rfl rfl ?_
    exact z_iret hx hF dX12_count_125 rfl rfl ⟨by first | exact (aCnt_x zsn.1).symm | rfl, rfl⟩
  · skip
    refine z_tableOut (tgt := 126) hx dX12_count_3 zsn.2 (by decide) ?_
    refine z_ldc hx dX12_count_126 kX12_61 ?_
    exact z_iret hx hF dX12_count_128 rfl rfl ⟨by first | exact (aCnt_x zsn.1).symm | rfl, rfl⟩

