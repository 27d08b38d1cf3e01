/-! what a waiter is, asked -/
section ZIN
variable {x : zC} {M : zM} {n pc : Nat} {lv : List (Option Value)} {st : List Value} {h : List zE}
theorem z_instY (hx : zOk x M n) {idx q ci : Nat} {C nm : String} {T : u_T} {N : Nat} {fs : List Value} (d : decode M.2.1 pc = .ok (.instanceof idx, 3)) (hk : Cond.classLink M.1.cls idx nm ∈ zG) (hq : h[q]? = some (zO ci fs)) (hci : vwCl[ci]? = some (C, T, N)) (hc : (C, nm) ∈ zNC) (k : zV x (pc + 3) lv (.int 1 :: st) h) : zV x pc lv (.ref q :: st) h := by
  obtain ⟨p, l, e, R, s, m, args, below, meth, c, D, ca, ad, A, Q⟩ := x
  obtain ⟨hx, hb, hml, hown, hts, hKK, hA, hR, hr, hlk⟩ := hx
  intro H locs ls hl hP hD hS
  exact va_instY hx hb hown (hts _ (List.mem_cons_of_mem _ hk)) (hKK.2.2.1 _ hc) (va_recv hKK.1 hP hci (zcw_get hq)) d (k H locs ls hl hP hD hS)
theorem z_instS (hx : zOk x M n) {idx q ci : Nat} {C : String} {T : u_T} {N : Nat} {fs : List Value} (d : decode M.2.1 pc = .ok (.instanceof idx, 3)) (hk : Cond.classLink M.1.cls idx C ∈ zG) (hq : h[q]? = some (zO ci fs)) (hci : vwCl[ci]? = some (C, T, N)) (k : zV x (pc + 3) lv (.int 1 :: st) h) : zV x pc lv (.ref q :: st) h := by
  obtain ⟨p, l, e, R, s, m, args, below, meth, c, D, ca, ad, A, Q⟩ := x
  obtain ⟨hx, hb, hml, hown, hts, hKK, hA, hR, hr, hlk⟩ := hx
  intro H locs ls hl hP hD hS
  exact va_instS hx hb hown (hts _ (List.mem_cons_of_mem _ hk)) (hKK.1.1 _ _ hci).2 (va_recv hKK.1 hP hci (zcw_get hq)) d (k H locs ls hl hP hD hS)
theorem z_instN (hx : zOk x M n) {idx q ci : Nat} {C nm : String} {T : u_T} {N : Nat} {fs : List Value} (d : decode M.2.1 pc = .ok (.instanceof idx, 3)) (hk : Cond.classLink M.1.cls idx nm ∈ zG) (hq : h[q]? = some (zO ci fs)) (hci : vwCl[ci]? = some (C, T, N)) (hc : (C, nm) ∈ zNN) (k : zV x (pc + 3) lv (.int 0 :: st) h) : zV x pc lv (.ref q :: st) h := by
  obtain ⟨p, l, e, R, s, m, args, below, meth, c, D, ca, ad, A, Q⟩ := x
  obtain ⟨hx, hb, hml, hown, hts, hKK, hA, hR, hr, hlk⟩ := hx
  intro H locs ls hl hP hD hS
  exact va_instNo hx hb hown (hts _ (List.mem_cons_of_mem _ hk)) (hKK.2.2.2.2.1 _ hc) (va_recv hKK.1 hP hci (zcw_get hq)) d (k H locs ls hl hP hD hS)
end ZIN
abbrev zIs (kd k : Nat) : Prop := k = 0 ∨ k = kd ∨ (k = 1 ∧ kd < 4) ∨ (k = 4 ∧ kd = 5)
theorem jX11_9 : Cond.classLink RX11 9 RX6 ∈ zG := zin 85 (by decide +kernel) (by decide +kernel)
theorem jX11_12 : Cond.classLink RX11 12 RX2 ∈ zG := zin 95 (by decide +kernel) (by decide +kernel)
theorem jX11_15 : Cond.classLink RX11 15 RX3 ∈ zG := zin 102 (by decide +kernel) (by decide +kernel)
theorem jX11_18 : Cond.classLink RX11 18 RX1 ∈ zG := zin 109 (by decide +kernel) (by decide +kernel)
theorem jX11_21 : Cond.classLink RX11 21 RX7 ∈ zG := zin 116 (by decide +kernel) (by decide +kernel)
set_option maxHeartbeats 4000000 in
set_option maxRecDepth 100000 in
theorem qX11_isOne_6 (k : Nat) (hk : k ≤ 5) : zMi mX11_isOne 0 ([.ref 0, .int (nI k)]) ([zO 6 []]) (fun z u => z = bP (zIs 1 k) ∧ u = [zO 6 []]) := by
  refine zMi.of (by decide) (Nat.le_of_ble_eq_true rfl) (fun x hx hF => ?_)
  refine z_iload_n hx dX11_isOne_0 rfl ?_
  rcases (show k = 0 ∨ k = 1 ∨ k = 2 ∨ k = 3 ∨ k = 4 ∨ k = 5 by omega) with rfl | rfl | rfl | rfl | rfl | rfl
  · skip
    refine z_tableIn (off := 39) (tgt := 40) hx dX11_isOne_1 (by decide) (by decide) rfl (by decide) ?_
    refine z_iconst (v := nI 1) hx dX11_isOne_40 (by decide) ?_
    exact z_zret hx hF dX11_isOne_41 rfl (by first | exact bP_nar _ | rfl) rfl ⟨by first | exact (bP_t (by decide)).symm | exact (bP_f (by decide)).symm, rfl⟩
  · skip
    refine z_tableIn (off := 41) (tgt := 42) hx dX11_isOne_1 (by decide) (by decide) rfl (by decide) ?_
    refine z_aload_n hx dX11_isOne_42 rfl ?_
    refine z_instS hx dX11_isOne_43 jX11_9 rfl rfl ?_
    exact z_zret hx hF dX11_isOne_46 rfl (by first | exact bP_nar _ | rfl) rfl ⟨by first | exact (bP_t (by decide)).symm | exact (bP_f (by decide)).symm, rfl⟩
  · skip
    refine z_tableIn (off := 46) (tgt := 47) hx dX11_isOne_1 (by decide) (by decide) rfl (by decide) ?_
    refine z_aload_n hx dX11_isOne_47 rfl ?_
    refine z_instN hx dX11_isOne_48 jX11_12 rfl rfl (List.mem_of_getElem? (i := 2) rfl) ?_
    exact z_zret hx hF dX11_isOne_51 rfl (by first | exact bP_nar _ | rfl) rfl ⟨by first | exact (bP_t (by decide)).symm | exact (bP_f (by decide)).symm, rfl⟩
  · skip
    refine z_tableIn (off := 51) (tgt := 52) hx dX11_isOne_1 (by decide) (by decide) rfl (by decide) ?_
    refine z_aload_n hx dX11_isOne_52 rfl ?_
    refine z_instN hx dX11_isOne_53 jX11_15 rfl rfl (List.mem_of_getElem? (i := 6) rfl) ?_
    exact z_zret hx hF dX11_isOne_56 rfl (by first | exact bP_nar _ | rfl) rfl ⟨by first | exact (bP_t (by decide)).symm | exact (bP_f (by decide)).symm, rfl⟩
  · skip
    refine z_tableIn (off := 56) (tgt := 57) hx dX11_isOne_1 (by decide) (by decide) rfl (by decide) ?_
    refine z_aload_n hx dX11_isOne_57 rfl ?_
    refine z_instN hx dX11_isOne_58 jX11_18 rfl rfl (List.mem_of_getElem? (i := 10) rfl) ?_
    exact z_zret hx hF dX11_isOne_61 rfl (by first | exact bP_nar _ | rfl) rfl ⟨by first | exact (bP_t (by decide)).symm | exact (bP_f (by decide)).symm, rfl⟩
  · skip
    refine z_tableIn (off := 61) (tgt := 62) hx dX11_isOne_1 (by decide) (by decide) rfl (by decide) ?_
    refine z_aload_n hx dX11_isOne_62 rfl ?_
    refine z_instN hx dX11_isOne_63 jX11_21 rfl rfl (List.mem_of_getElem? (i := 13) rfl) ?_
    exact z_zret hx hF dX11_isOne_66 rfl (by first | exact bP_nar _ | rfl) rfl ⟨by first | exact (bP_t (by decide)).symm | exact (bP_f (by decide)).symm, rfl⟩

set_option maxHeartbeats 4000000 in
set_option maxRecDepth 100000 in
theorem qX11_isOne_2 (k : Nat) (hk : k ≤ 5) : zMi mX11_isOne 0 ([.ref 0, .int (nI k)]) ([zO 2 []]) (fun z u => z = bP (zIs 2 k) ∧ u = [zO 2 []]) := by
  refine zMi.of (by decide) (Nat.le_of_ble_eq_true rfl) (fun x hx hF => ?_)
  refine z_iload_n hx dX11_isOne_0 rfl ?_
  rcases (show k = 0 ∨ k = 1 ∨ k = 2 ∨ k = 3 ∨ k = 4 ∨ k = 5 by omega) with rfl | rfl | rfl | rfl | rfl | rfl
  · skip
    refine z_tableIn (off := 39) (tgt := 40) hx dX11_isOne_1 (by decide) (by decide) rfl (by decide) ?_
    refine z_iconst (v := nI 1) hx dX11_isOne_40 (by decide) ?_
    exact z_zret hx hF dX11_isOne_41 rfl (by first | exact bP_nar _ | rfl) rfl ⟨by first | exact (bP_t (by decide)).symm | exact (bP_f (by decide)).symm, rfl⟩
  · skip
    refine z_tableIn (off := 41) (tgt := 42) hx dX11_isOne_1 (by decide) (by decide) rfl (by decide) ?_
    refine z_aload_n hx dX11_isOne_42 rfl ?_
    refine z_instY hx dX11_isOne_43 jX11_9 rfl rfl (List.mem_of_getElem? (i := 0) rfl) ?_
    exact z_zret hx hF dX11_isOne_46 rfl (by first | exact bP_nar _ | rfl) rfl ⟨by first | exact (bP_t (by decide)).symm | exact (bP_f (by decide)).symm, rfl⟩
  · skip
    refine z_tableIn (off := 46) (tgt := 47) hx dX11_isOne_1 (by decide) (by decide) rfl (by decide) ?_
    refine z_aload_n hx dX11_isOne_47 rfl ?_
    refine z_instS hx dX11_isOne_48 jX11_12 rfl rfl ?_
    exact z_zret hx hF dX11_isOne_51 rfl (by first | exact bP_nar _ | rfl) rfl ⟨by first | exact (bP_t (by decide)).symm | exact (bP_f (by decide)).symm, rfl⟩
  · skip
    refine z_tableIn (off := 51) (tgt := 52) hx dX11_isOne_1 (by decide) (by decide) rfl (by decide) ?_
    refine z_aload_n hx dX11_isOne_52 rfl ?_
    refine z_instN hx dX11_isOne_53 jX11_15 rfl rfl (List.mem_of_getElem? (i := 7) rfl) ?_
    exact z_zret hx hF dX11_isOne_56 rfl (by first | exact bP_nar _ | rfl) rfl ⟨by first | exact (bP_t (by decide)).symm | exact (bP_f (by decide)).symm, rfl⟩
  · skip
    refine z_tableIn (off := 56) (tgt := 57) hx dX11_isOne_1 (by decide) (by decide) rfl (by decide) ?_
    refine z_aload_n hx dX11_isOne_57 rfl ?_
    refine z_instN hx dX11_isOne_58 jX11_18 rfl rfl (List.mem_of_getElem? (i := 11) rfl) ?_
    exact z_zret hx hF dX11_isOne_61 rfl (by first | exact bP_nar _ | rfl) rfl ⟨by first | exact (bP_t (by decide)).symm | exact (bP_f (by decide)).symm, rfl⟩
  · skip
    refine z_tableIn (off := 61) (tgt := 62) hx dX11_isOne_1 (by decide) (by decide) rfl (by decide) ?_
    refine z_aload_n hx dX11_isOne_62 rfl ?_
    refine z_instN hx dX11_isOne_63 jX11_21 rfl rfl (List.mem_of_getElem? (i := 14) rfl) ?_
    exact z_zret hx hF dX11_isOne_66 rfl (by first | exact bP_nar _ | rfl) rfl ⟨by first | exact (bP_t (by decide)).symm | exact (bP_f (by decide)).symm, rfl⟩

set_option maxHeartbeats 4000000 in
set_option maxRecDepth 100000 in
theorem qX11_isOne_3 (k : Nat) (hk : k ≤ 5) : zMi mX11_isOne 0 ([.ref 0, .int (nI k)]) ([zO 3 []]) (fun z u => z = bP (zIs 3 k) ∧ u = [zO 3 []]) := by
  refine zMi.of (by decide) (Nat.le_of_ble_eq_true rfl) (fun x hx hF => ?_)
  refine z_iload_n hx dX11_isOne_0 rfl ?_
  rcases (show k = 0 ∨ k = 1 ∨ k = 2 ∨ k = 3 ∨ k = 4 ∨ k = 5 by omega) with rfl | rfl | rfl | rfl | rfl | rfl
  · skip
    refine z_tableIn (off := 39) (tgt := 40) hx dX11_isOne_1 (by decide) (by decide) rfl (by decide) ?_
    refine z_iconst (v := nI 1) hx dX11_isOne_40 (by decide) ?_
    exact z_zret hx hF dX11_isOne_41 rfl (by first | exact bP_nar _ | rfl) rfl ⟨by first | exact (bP_t (by decide)).symm | exact (bP_f (by decide)).symm, rfl⟩
  · skip
    refine z_tableIn (off := 41) (tgt := 42) hx dX11_isOne_1 (by decide) (by decide) rfl (by decide) ?_
    refine z_aload_n hx dX11_isOne_42 rfl ?_
    refine z_instY hx dX11_isOne_43 jX11_9 rfl rfl (List.mem_of_getElem? (i := 1) rfl) ?_
    exact z_zret hx hF dX11_isOne_46 rfl (by first | exact bP_nar _ | rfl) rfl ⟨by first | exact (bP_t (by decide)).symm | exact (bP_f (by decide)).symm, rfl⟩
  · skip
    refine z_tableIn (off := 46) (tgt := 47) hx dX11_isOne_1 (by decide) (by decide) rfl (by decide) ?_
    refine z_aload_n hx dX11_isOne_47 rfl ?_
    refine z_instN hx dX11_isOne_48 jX11_12 rfl rfl (List.mem_of_getElem? (i := 3) rfl) ?_
    exact z_zret hx hF dX11_isOne_51 rfl (by first | exact bP_nar _ | rfl) rfl ⟨by first | exact (bP_t (by decide)).symm | exact (bP_f (by decide)).symm, rfl⟩
  · skip
    refine z_tableIn (off := 51) (tgt := 52) hx dX11_isOne_1 (by decide) (by decide) rfl (by decide) ?_
    refine z_aload_n hx dX11_isOne_52 rfl ?_
    refine z_instS hx dX11_isOne_53 jX11_15 rfl rfl ?_
    exact z_zret hx hF dX11_isOne_56 rfl (by first | exact bP_nar _ | rfl) rfl ⟨by first | exact (bP_t (by decide)).symm | exact (bP_f (by decide)).symm, rfl⟩
  · skip
    refine z_tableIn (off := 56) (tgt := 57) hx dX11_isOne_1 (by decide) (by decide) rfl (by decide) ?_
    refine z_aload_n hx dX11_isOne_57 rfl ?_
    refine z_instN hx dX11_isOne_58 jX11_18 rfl rfl (List.mem_of_getElem? (i := 12) rfl) ?_
    exact z_zret hx hF dX11_isOne_61 rfl (by first | exact bP_nar _ | rfl) rfl ⟨by first | exact (bP_t (by decide)).symm | exact (bP_f (by decide)).symm, rfl⟩
  · skip
    refine z_tableIn (off := 61) (tgt := 62) hx dX11_isOne_1 (by decide) (by decide) rfl (by decide) ?_
    refine z_aload_n hx dX11_isOne_62 rfl ?_
    refine z_instN hx dX11_isOne_63 jX11_21 rfl rfl (List.mem_of_getElem? (i := 15) rfl) ?_
    exact z_zret hx hF dX11_isOne_66 rfl (by first | exact bP_nar _ | rfl) rfl ⟨by first | exact (bP_t (by decide)).symm | exact (bP_f (by decide)).symm, rfl⟩

set_option maxHeartbeats 4000000 in
set_option maxRecDepth 100000 in
theorem qX11_isOne_1 (k : Nat) (hk : k ≤ 5) : zMi mX11_isOne 0 ([.ref 0, .int (nI k)]) ([zO 1 []]) (fun z u => z = bP (zIs 4 k) ∧ u = [zO 1 []]) := by
  refine zMi.of (by decide) (Nat.le_of_ble_eq_true rfl) (fun x hx hF => ?_)
  refine z_iload_n hx dX11_isOne_0 rfl ?_
  rcases (show k = 0 ∨ k = 1 ∨ k = 2 ∨ k = 3 ∨ k = 4 ∨ k = 5 by omega) with rfl | rfl | rfl | rfl | rfl | rfl
  · skip
    refine z_tableIn (off := 39) (tgt := 40) hx dX11_isOne_1 (by decide) (by decide) rfl (by decide) ?_
    refine z_iconst (v := nI 1) hx dX11_isOne_40 (by decide) ?_
    exact z_zret hx hF dX11_isOne_41 rfl (by first | exact bP_nar _ | rfl) rfl ⟨by first | exact (bP_t (by decide)).symm | exact (bP_f (by decide)).symm, rfl⟩
  · skip
    refine z_tableIn (off := 41) (tgt := 42) hx dX11_isOne_1 (by decide) (by decide) rfl (by decide) ?_
    refine z_aload_n hx dX11_isOne_42 rfl ?_
    refine z_instN hx dX11_isOne_43 jX11_9 rfl rfl (List.mem_of_getElem? (i := 0) rfl) ?_
    exact z_zret hx hF dX11_isOne_46 rfl (by first | exact bP_nar _ | rfl) rfl ⟨by first | exact (bP_t (by decide)).symm | exact (bP_f (by decide)).symm, rfl⟩
  · skip
    refine z_tableIn (off := 46) (tgt := 47) hx dX11_isOne_1 (by decide) (by decide) rfl (by decide) ?_
    refine z_aload_n hx dX11_isOne_47 rfl ?_
    refine z_instN hx dX11_isOne_48 jX11_12 rfl rfl (List.mem_of_getElem? (i := 4) rfl) ?_
    exact z_zret hx hF dX11_isOne_51 rfl (by first | exact bP_nar _ | rfl) rfl ⟨by first | exact (bP_t (by decide)).symm | exact (bP_f (by decide)).symm, rfl⟩
  · skip
    refine z_tableIn (off := 51) (tgt := 52) hx dX11_isOne_1 (by decide) (by decide) rfl (by decide) ?_
    refine z_aload_n hx dX11_isOne_52 rfl ?_
    refine z_instN hx dX11_isOne_53 jX11_15 rfl rfl (List.mem_of_getElem? (i := 8) rfl) ?_
    exact z_zret hx hF dX11_isOne_56 rfl (by first | exact bP_nar _ | rfl) rfl ⟨by first | exact (bP_t (by decide)).symm | exact (bP_f (by decide)).symm, rfl⟩
  · skip
    refine z_tableIn (off := 56) (tgt := 57) hx dX11_isOne_1 (by decide) (by decide) rfl (by decide) ?_
    refine z_aload_n hx dX11_isOne_57 rfl ?_
    refine z_instS hx dX11_isOne_58 jX11_18 rfl rfl ?_
    exact z_zret hx hF dX11_isOne_61 rfl (by first | exact bP_nar _ | rfl) rfl ⟨by first | exact (bP_t (by decide)).symm | exact (bP_f (by decide)).symm, rfl⟩
  · skip
    refine z_tableIn (off := 61) (tgt := 62) hx dX11_isOne_1 (by decide) (by decide) rfl (by decide) ?_
    refine z_aload_n hx dX11_isOne_62 rfl ?_
    refine z_instN hx dX11_isOne_63 jX11_21 rfl rfl (List.mem_of_getElem? (i := 16) rfl) ?_
    exact z_zret hx hF dX11_isOne_66 rfl (by first | exact bP_nar _ | rfl) rfl ⟨by first | exact (bP_t (by decide)).symm | exact (bP_f (by decide)).symm, rfl⟩

set_option maxHeartbeats 4000000 in
set_option maxRecDepth 100000 in
theorem qX11_isOne_7 (k : Nat) (hk : k ≤ 5) : zMi mX11_isOne 0 ([.ref 0, .int (nI k)]) ([zO 7 []]) (fun z u => z = bP (zIs 5 k) ∧ u = [zO 7 []]) := by
  refine zMi.of (by decide) (Nat.le_of_ble_eq_true rfl) (fun x hx hF => ?_)
  refine z_iload_n hx dX11_isOne_0 rfl ?_
  rcases (show k = 0 ∨ k = 1 ∨ k = 2 ∨ k = 3 ∨ k = 4 ∨ k = 5 by omega) with rfl | rfl | rfl | rfl | rfl | rfl
  · skip
    refine z_tableIn (off := 39) (tgt := 40) hx dX11_isOne_1 (by decide) (by decide) rfl (by decide) ?_
    refine z_iconst (v := nI 1) hx dX11_isOne_40 (by decide) ?_
    exact z_zret hx hF dX11_isOne_41 rfl (by first | exact bP_nar _ | rfl) rfl ⟨by first | exact (bP_t (by decide)).symm | exact (bP_f (by decide)).symm, rfl⟩
  · skip
    refine z_tableIn (off := 41) (tgt := 42) hx dX11_isOne_1 (by decide) (by decide) rfl (by decide) ?_
    refine z_aload_n hx dX11_isOne_42 rfl ?_
    refine z_instN hx dX11_isOne_43 jX11_9 rfl rfl (List.mem_of_getElem? (i := 1) rfl) ?_
    exact z_zret hx hF dX11_isOne_46 rfl (by first | exact bP_nar _ | rfl) rfl ⟨by first | exact (bP_t (by decide)).symm | exact (bP_f (by decide)).symm, rfl⟩
  · skip
    refine z_tableIn (off := 46) (tgt := 47) hx dX11_isOne_1 (by decide) (by decide) rfl (by decide) ?_
    refine z_aload_n hx dX11_isOne_47 rfl ?_
    refine z_instN hx dX11_isOne_48 jX11_12 rfl rfl (List.mem_of_getElem? (i := 5) rfl) ?_
    exact z_zret hx hF dX11_isOne_51 rfl (by first | exact bP_nar _ | rfl) rfl ⟨by first | exact (bP_t (by decide)).symm | exact (bP_f (by decide)).symm, rfl⟩
  · skip
    refine z_tableIn (off := 51) (tgt := 52) hx dX11_isOne_1 (by decide) (by decide) rfl (by decide) ?_
    refine z_aload_n hx dX11_isOne_52 rfl ?_
    refine z_instN hx dX11_isOne_53 jX11_15 rfl rfl (List.mem_of_getElem? (i := 9) rfl) ?_
    exact z_zret hx hF dX11_isOne_56 rfl (by first | exact bP_nar _ | rfl) rfl ⟨by first | exact (bP_t (by decide)).symm | exact (bP_f (by decide)).symm, rfl⟩
  · skip
    refine z_tableIn (off := 56) (tgt := 57) hx dX11_isOne_1 (by decide) (by decide) rfl (by decide) ?_
    refine z_aload_n hx dX11_isOne_57 rfl ?_
    refine z_instY hx dX11_isOne_58 jX11_18 rfl rfl (List.mem_of_getElem? (i := 2) rfl) ?_
    exact z_zret hx hF dX11_isOne_61 rfl (by first | exact bP_nar _ | rfl) rfl ⟨by first | exact (bP_t (by decide)).symm | exact (bP_f (by decide)).symm, rfl⟩
  · skip
    refine z_tableIn (off := 61) (tgt := 62) hx dX11_isOne_1 (by decide) (by decide) rfl (by decide) ?_
    refine z_aload_n hx dX11_isOne_62 rfl ?_
    refine z_instS hx dX11_isOne_63 jX11_21 rfl rfl ?_
    exact z_zret hx hF dX11_isOne_66 rfl (by first | exact bP_nar _ | rfl) rfl ⟨by first | exact (bP_t (by decide)).symm | exact (bP_f (by decide)).symm, rfl⟩

def hAk (n f w c : Nat) (b : Nat → Nat) : List zE := [zO 0 [.int (nI n), .int (nI f), .int (nI w), .int (nI c), .ref 1], zN 16 b]
def hWa (ci n f w c : Nat) (b : Nat → Nat) : List zE := [zO ci [], zO 0 [.int (nI n), .int (nI f), .int (nI w), .int (nI c), .ref 2], zN 16 b]
/-- what bodies leave -/
def zBd (b : Nat → Nat) (c : Nat) : List Nat → (Nat → Nat)
  | [] => b
  | v :: l => zBd (zup b c v) (c + 1) l
set_option maxHeartbeats 4000000 in
set_option maxRecDepth 100000 in
theorem qX0_beginAbout (n f w c : Nat) (b : Nat → Nat) (q f9 w9 : Nat) : zMv mX0_beginAbout 0 ([.ref 0, .int (nI q), .int (nI f9), .int (nI w9)]) (hAk n f w c b) (fun u => u = hAk q f9 w9 0 b) := by
  refine zMv.of (by decide) (Nat.le_of_ble_eq_true rfl) (fun x hx hF => ?_)
  refine z_aload_n hx dX0_beginAbout_0 rfl ?_
  refine z_iload_n hx dX0_beginAbout_1 rfl ?_
  refine z_puti hx dX0_beginAbout_2 pX0_15 rfl (Nat.le_of_ble_eq_true rfl) ?_
  refine z_aload_n hx dX0_beginAbout_5 rfl ?_
  refine z_iload_n hx dX0_beginAbout_6 rfl ?_
  refine z_puti hx dX0_beginAbout_7 pX0_19 rfl (Nat.le_of_ble_eq_true rfl) ?_
  refine z_aload_n hx dX0_beginAbout_10 rfl ?_
  refine z_iload_n hx dX0_beginAbout_11 rfl ?_
  refine z_puti hx dX0_beginAbout_12 pX0_22 rfl (Nat.le_of_ble_eq_true rfl) ?_
  refine z_aload_n hx dX0_beginAbout_15 rfl ?_
  refine z_iconst (v := nI 0) hx dX0_beginAbout_16 (by decide) ?_
  refine z_puti hx dX0_beginAbout_17 pX0_25 rfl (Nat.le_of_ble_eq_true rfl) ?_
  exact z_vret hx hF dX0_beginAbout_20 rfl rfl rfl

set_option maxHeartbeats 4000000 in
set_option maxRecDepth 100000 in
theorem qX0_leave (n f w c : Nat) (b : Nat → Nat) (hc : c < 16) (v : Nat) : zMv mX0_leave 0 ([.ref 0, .int (nI v)]) (hAk n f w c b) (fun u => u = hAk n f w (c + 1) (zup b c v)) := by
  refine zMv.of (by decide) (Nat.le_of_ble_eq_true rfl) (fun x hx hF => ?_)
  refine z_aload_n hx dX0_leave_0 rfl ?_
  refine z_get hx dX0_leave_1 fX0_25 rfl rfl ?_
  refine z_bipush (v := nI 16) hx dX0_leave_4 (by decide) ?_
  first | refine z_icmp_geN (tgt := 29) hx dX0_leave_6 (by decide) (by omega) (by omega) (fun zc6 => ?_) (fun zc6 => ?_) | refine z_icmp_ge (tgt := 29) hx dX0_leave_6 (by decide) (fun zc6 => ?_) (fun zc6 => ?_)
  · skip
    exfalso; omega
  · skip
    refine z_aload_n hx dX0_leave_9 rfl ?_
    refine z_get hx dX0_leave_10 fX0_9 rfl rfl ?_
    refine z_aload_n hx dX0_leave_13 rfl ?_
    refine z_get hx dX0_leave_14 fX0_25 rfl rfl ?_
    refine z_iload_n hx dX0_leave_17 rfl ?_
    first | refine z_iastN hx dX0_leave_18 rfl (by decide) (by omega) ?_ | refine z_iastJ hx dX0_leave_18 rfl (by decide) (by omega) ?_
    refine z_aload_n hx dX0_leave_19 rfl ?_
    refine z_dup hx dX0_leave_20 rfl ?_
    refine z_get hx dX0_leave_21 fX0_25 rfl rfl ?_
    refine z_iconst (v := nI 1) hx dX0_leave_24 (by decide) ?_
    first | refine z_iaddN hx dX0_leave_25 ?_ | refine z_iadd hx dX0_leave_25 ?_
    refine z_puti hx dX0_leave_26 pX0_25 rfl (Nat.le_of_ble_eq_true rfl) ?_
    exact z_vret hx hF dX0_leave_29 rfl rfl rfl

set_option maxHeartbeats 4000000 in
set_option maxRecDepth 100000 in
theorem qX0_bodyAt (n f w c : Nat) (b : Nat → Nat) (hc : c ≤ 16) (v : Int32) : zMi mX0_bodyAt 1 ([.ref 0, .int v]) (hAk n f w c b) (fun z u => z = zII (inP c v) (nI (b (zNat v))) (-1000000) ∧ u = hAk n f w c b) := by
  refine zMi.of (by decide) (Nat.le_of_ble_eq_true rfl) (fun x hx hF => ?_)
  refine z_iload_n hx dX0_bodyAt_0 rfl ?_
  refine z_iconst (v := nI 0) hx dX0_bodyAt_1 (by decide) ?_
  refine z_aload_n hx dX0_bodyAt_2 rfl ?_
  refine z_get hx dX0_bodyAt_3 fX0_25 rfl rfl ?_
  refine z_iconst (v := nI 1) hx dX0_bodyAt_6 (by decide) ?_
  refine z_isub hx dX0_bodyAt_7 ?_
  refine z_callinP hx [] (qX11_isWithinP _ _ (by omega)) dX0_bodyAt_8 sX0_28 rfl rfl rfl (by decide) (by decide) rfl (Nat.le_of_ble_eq_true rfl) (by decide) ?_
  first | refine z_if_eqB (tgt := 23) hx dX0_bodyAt_11 (by decide) (fun zc11 => ?_) (fun zc11 => ?_) | refine z_if_eqN (tgt := 23) hx dX0_bodyAt_11 (by decide) (by omega) (fun zc11 => ?_) (fun zc11 => ?_) | refine z_if_eq (tgt := 23) hx dX0_bodyAt_11 (by decide) (fun zc11 => ?_) (fun zc11 => ?_)
  · skip
    refine z_ldc hx dX0_bodyAt_23 kX0_32 ?_
    exact z_iret hx hF dX0_bodyAt_25 rfl rfl ⟨by first | rw [zII_f (c := inP c v) zc11] | rw [zII_t ⟨zj, zhj, rfl⟩, zNat_nI (by omega)], rfl⟩
  · skip
    obtain ⟨zj, zhj, rfl⟩ := zc11
    refine z_aload_n hx dX0_bodyAt_14 rfl ?_
    refine z_get hx dX0_bodyAt_15 fX0_9 rfl rfl ?_
    refine z_iload_n hx dX0_bodyAt_18 rfl ?_
    refine z_ialdJ hx dX0_bodyAt_19 rfl (by decide) (by omega) ?_
    refine z_goto (tgt := 25) hx dX0_bodyAt_20 (by decide) ?_
    exact z_iret hx hF dX0_bodyAt_25 rfl rfl ⟨by first | rw [zII_f (c := inP c v) zc11] | rw [zII_t ⟨zj, zhj, rfl⟩, zNat_nI (by omega)], rfl⟩

set_option maxHeartbeats 4000000 in
set_option maxRecDepth 100000 in
theorem qX10_askSize_6 (n f w c : Nat) (b : Nat → Nat) (hc : c + 1 ≤ 16) : zMi mX10_askSize 1 ([.ref 0, .ref 1]) (hWa 6 n f w c b) (fun z u => z = nI f ∧ u = hWa 6 n f w (c + 1) (zup (b) (c) 10)) := by
  refine zMi.of (by decide) (Nat.le_of_ble_eq_true rfl) (fun x hx hF => ?_)
  refine z_aload_n hx dX10_askSize_0 rfl ?_
  refine z_bipush (v := nI 10) hx dX10_askSize_1 (by decide) ?_
  refine z_callvvE hx [1, 2] (qX0_leave n f w (c) (b) (by omega) 10) dX10_askSize_3 sX10_7 rfl rfl rfl rfl rfl (by decide) (by decide) rfl (Nat.le_of_ble_eq_true rfl) (by decide) ?_
  refine z_heap (show _ = hWa 6 n f w (c + 1) (zup (b) (c) 10) from rfl) ?_
  refine z_aload_n hx dX10_askSize_6 rfl ?_
  refine z_get hx dX10_askSize_7 fX10_13 rfl rfl ?_
  exact z_iret hx hF dX10_askSize_10 rfl rfl ⟨rfl, rfl⟩

set_option maxHeartbeats 4000000 in
set_option maxRecDepth 100000 in
theorem qX10_askMark_6 (n f w c : Nat) (b : Nat → Nat) (hc : c + 1 ≤ 16) : zMi mX10_askMark 1 ([.ref 0, .ref 1]) (hWa 6 n f w c b) (fun z u => z = nI n ∧ u = hWa 6 n f w (c + 1) (zup (b) (c) 20)) := by
  refine zMi.of (by decide) (Nat.le_of_ble_eq_true rfl) (fun x hx hF => ?_)
  refine z_aload_n hx dX10_askMark_0 rfl ?_
  refine z_bipush (v := nI 20) hx dX10_askMark_1 (by decide) ?_
  refine z_callvvE hx [1, 2] (qX0_leave n f w (c) (b) (by omega) 20) dX10_askMark_3 sX10_7 rfl rfl rfl rfl rfl (by decide) (by decide) rfl (Nat.le_of_ble_eq_true rfl) (by decide) ?_
  refine z_heap (show _ = hWa 6 n f w (c + 1) (zup (b) (c) 20) from rfl) ?_
  refine z_aload_n hx dX10_askMark_6 rfl ?_
  refine z_get hx dX10_askMark_7 fX10_17 rfl rfl ?_
  exact z_iret hx hF dX10_askMark_10 rfl rfl ⟨rfl, rfl⟩

set_option maxHeartbeats 4000000 in
set_option maxRecDepth 100000 in
theorem qX10_askSize_2 (n f w c : Nat) (b : Nat → Nat) (hc : c + 1 ≤ 16) : zMi mX10_askSize 1 ([.ref 0, .ref 1]) (hWa 2 n f w c b) (fun z u => z = nI f ∧ u = hWa 2 n f w (c + 1) (zup (b) (c) 10)) := by
  refine zMi.of (by decide) (Nat.le_of_ble_eq_true rfl) (fun x hx hF => ?_)
  refine z_aload_n hx dX10_askSize_0 rfl ?_
  refine z_bipush (v := nI 10) hx dX10_askSize_1 (by decide) ?_
  refine z_callvvE hx [1, 2] (qX0_leave n f w (c) (b) (by omega) 10) dX10_askSize_3 sX10_7 rfl rfl rfl rfl rfl (by decide) (by decide) rfl (Nat.le_of_ble_eq_true rfl) (by decide) ?_
  refine z_heap (show _ = hWa 2 n f w (c + 1) (zup (b) (c) 10) from rfl) ?_
  refine z_aload_n hx dX10_askSize_6 rfl ?_
  refine z_get hx dX10_askSize_7 fX10_13 rfl rfl ?_
  exact z_iret hx hF dX10_askSize_10 rfl rfl ⟨rfl, rfl⟩

set_option maxHeartbeats 4000000 in
set_option maxRecDepth 100000 in
theorem qX10_askMark_2 (n f w c : Nat) (b : Nat → Nat) (hc : c + 1 ≤ 16) : zMi mX10_askMark 1 ([.ref 0, .ref 1]) (hWa 2 n f w c b) (fun z u => z = nI n ∧ u = hWa 2 n f w (c + 1) (zup (b) (c) 20)) := by
  refine zMi.of (by decide) (Nat.le_of_ble_eq_true rfl) (fun x hx hF => ?_)
  refine z_aload_n hx dX10_askMark_0 rfl ?_
  refine z_bipush (v := nI 20) hx dX10_askMark_1 (by decide) ?_
  refine z_callvvE hx [1, 2] (qX0_leave n f w (c) (b) (by omega) 20) dX10_askMark_3 sX10_7 rfl rfl rfl rfl rfl (by decide) (by decide) rfl (Nat.le_of_ble_eq_true rfl) (by decide) ?_
  refine z_heap (show _ = hWa 2 n f w (c + 1) (zup (b) (c) 20) from rfl) ?_
  refine z_aload_n hx dX10_askMark_6 rfl ?_
  refine z_get hx dX10_askMark_7 fX10_17 rfl rfl ?_
  exact z_iret hx hF dX10_askMark_10 rfl rfl ⟨rfl, rfl⟩

set_option maxHeartbeats 4000000 in
set_option maxRecDepth 100000 in
theorem qX10_askSize_3 (n f w c : Nat) (b : Nat → Nat) (hc : c + 1 ≤ 16) : zMi mX10_askSize 1 ([.ref 0, .ref 1]) (hWa 3 n f w c b) (fun z u => z = nI f ∧ u = hWa 3 n f w (c + 1) (zup (b) (c) 10)) := by
  refine zMi.of (by decide) (Nat.le_of_ble_eq_true rfl) (fun x hx hF => ?_)
  refine z_aload_n hx dX10_askSize_0 rfl ?_
  refine z_bipush (v := nI 10) hx dX10_askSize_1 (by decide) ?_
  refine z_callvvE hx [1, 2] (qX0_leave n f w (c) (b) (by omega) 10) dX10_askSize_3 sX10_7 rfl rfl rfl rfl rfl (by decide) (by decide) rfl (Nat.le_of_ble_eq_true rfl) (by decide) ?_
  refine z_heap (show _ = hWa 3 n f w (c + 1) (zup (b) (c) 10) from rfl) ?_
  refine z_aload_n hx dX10_askSize_6 rfl ?_
  refine z_get hx dX10_askSize_7 fX10_13 rfl rfl ?_
  exact z_iret hx hF dX10_askSize_10 rfl rfl ⟨rfl, rfl⟩

set_option maxHeartbeats 4000000 in
set_option maxRecDepth 100000 in
theorem qX10_askMark_3 (n f w c : Nat) (b : Nat → Nat) (hc : c + 1 ≤ 16) : zMi mX10_askMark 1 ([.ref 0, .ref 1]) (hWa 3 n f w c b) (fun z u => z = nI n ∧ u = hWa 3 n f w (c + 1) (zup (b) (c) 20)) := by
  refine zMi.of (by decide) (Nat.le_of_ble_eq_true rfl) (fun x hx hF => ?_)
  refine z_aload_n hx dX10_askMark_0 rfl ?_
  refine z_bipush (v := nI 20) hx dX10_askMark_1 (by decide) ?_
  refine z_callvvE hx [1, 2] (qX0_leave n f w (c) (b) (by omega) 20) dX10_askMark_3 sX10_7 rfl rfl rfl rfl rfl (by decide) (by decide) rfl (Nat.le_of_ble_eq_true rfl) (by decide) ?_
  refine z_heap (show _ = hWa 3 n f w (c + 1) (zup (b) (c) 20) from rfl) ?_
  refine z_aload_n hx dX10_askMark_6 rfl ?_
  refine z_get hx dX10_askMark_7 fX10_17 rfl rfl ?_
  exact z_iret hx hF dX10_askMark_10 rfl rfl ⟨rfl, rfl⟩

set_option maxHeartbeats 4000000 in
set_option maxRecDepth 100000 in
theorem qX10_askSize_1 (n f w c : Nat) (b : Nat → Nat) (hc : c + 1 ≤ 16) : zMi mX10_askSize 1 ([.ref 0, .ref 1]) (hWa 1 n f w c b) (fun z u => z = nI f ∧ u = hWa 1 n f w (c + 1) (zup (b) (c) 10)) := by
  refine zMi.of (by decide) (Nat.le_of_ble_eq_true rfl) (fun x hx hF => ?_)
  refine z_aload_n hx dX10_askSize_0 rfl ?_
  refine z_bipush (v := nI 10) hx dX10_askSize_1 (by decide) ?_
  refine z_callvvE hx [1, 2] (qX0_leave n f w (c) (b) (by omega) 10) dX10_askSize_3 sX10_7 rfl rfl rfl rfl rfl (by decide) (by decide) rfl (Nat.le_of_ble_eq_true rfl) (by decide) ?_
  refine z_heap (show _ = hWa 1 n f w (c + 1) (zup (b) (c) 10) from rfl) ?_
  refine z_aload_n hx dX10_askSize_6 rfl ?_
  refine z_get hx dX10_askSize_7 fX10_13 rfl rfl ?_
  exact z_iret hx hF dX10_askSize_10 rfl rfl ⟨rfl, rfl⟩

set_option maxHeartbeats 4000000 in
set_option maxRecDepth 100000 in
theorem qX10_askMark_1 (n f w c : Nat) (b : Nat → Nat) (hc : c + 1 ≤ 16) : zMi mX10_askMark 1 ([.ref 0, .ref 1]) (hWa 1 n f w c b) (fun z u => z = nI n ∧ u = hWa 1 n f w (c + 1) (zup (b) (c) 20)) := by
  refine zMi.of (by decide) (Nat.le_of_ble_eq_true rfl) (fun x hx hF => ?_)
  refine z_aload_n hx dX10_askMark_0 rfl ?_
  refine z_bipush (v := nI 20) hx dX10_askMark_1 (by decide) ?_
  refine z_callvvE hx [1, 2] (qX0_leave n f w (c) (b) (by omega) 20) dX10_askMark_3 sX10_7 rfl rfl rfl rfl rfl (by decide) (by decide) rfl (Nat.le_of_ble_eq_true rfl) (by decide) ?_
  refine z_heap (show _ = hWa 1 n f w (c + 1) (zup (b) (c) 20) from rfl) ?_
  refine z_aload_n hx dX10_askMark_6 rfl ?_
  refine z_get hx dX10_askMark_7 fX10_17 rfl rfl ?_
  exact z_iret hx hF dX10_askMark_10 rfl rfl ⟨rfl, rfl⟩

set_option maxHeartbeats 4000000 in
set_option maxRecDepth 100000 in
theorem qX10_askSize_7 (n f w c : Nat) (b : Nat → Nat) (hc : c + 1 ≤ 16) : zMi mX10_askSize 1 ([.ref 0, .ref 1]) (hWa 7 n f w c b) (fun z u => z = nI f ∧ u = hWa 7 n f w (c + 1) (zup (b) (c) 10)) := by
  refine zMi.of (by decide) (Nat.le_of_ble_eq_true rfl) (fun x hx hF => ?_)
  refine z_aload_n hx dX10_askSize_0 rfl ?_
  refine z_bipush (v := nI 10) hx dX10_askSize_1 (by decide) ?_
  refine z_callvvE hx [1, 2] (qX0_leave n f w (c) (b) (by omega) 10) dX10_askSize_3 sX10_7 rfl rfl rfl rfl rfl (by decide) (by decide) rfl (Nat.le_of_ble_eq_true rfl) (by decide) ?_
  refine z_heap (show _ = hWa 7 n f w (c + 1) (zup (b) (c) 10) from rfl) ?_
  refine z_aload_n hx dX10_askSize_6 rfl ?_
  refine z_get hx dX10_askSize_7 fX10_13 rfl rfl ?_
  exact z_iret hx hF dX10_askSize_10 rfl rfl ⟨rfl, rfl⟩

set_option maxHeartbeats 4000000 in
set_option maxRecDepth 100000 in
theorem qX10_askMark_7 (n f w c : Nat) (b : Nat → Nat) (hc : c + 1 ≤ 16) : zMi mX10_askMark 1 ([.ref 0, .ref 1]) (hWa 7 n f w c b) (fun z u => z = nI n ∧ u = hWa 7 n f w (c + 1) (zup (b) (c) 20)) := by
  refine zMi.of (by decide) (Nat.le_of_ble_eq_true rfl) (fun x hx hF => ?_)
  refine z_aload_n hx dX10_askMark_0 rfl ?_
  refine z_bipush (v := nI 20) hx dX10_askMark_1 (by decide) ?_
  refine z_callvvE hx [1, 2] (qX0_leave n f w (c) (b) (by omega) 20) dX10_askMark_3 sX10_7 rfl rfl rfl rfl rfl (by decide) (by decide) rfl (Nat.le_of_ble_eq_true rfl) (by decide) ?_
  refine z_heap (show _ = hWa 7 n f w (c + 1) (zup (b) (c) 20) from rfl) ?_
  refine z_aload_n hx dX10_askMark_6 rfl ?_
  refine z_get hx dX10_askMark_7 fX10_17 rfl rfl ?_
  exact z_iret hx hF dX10_askMark_10 rfl rfl ⟨rfl, rfl⟩

set_option maxHeartbeats 4000000 in
set_option maxRecDepth 100000 in
theorem qX6_askMark_6 (n f w c : Nat) (b : Nat → Nat) (hc : c + 2 ≤ 16) : zMi mX6_askMark 2 ([.ref 0, .ref 1]) (hWa 6 n f w c b) (fun z u => z = nI (n + w) ∧ u = hWa 6 n f w (c + 1 + 1) (zup (zup (b) (c) 21) (c + 1) 20)) := by
  refine zMi.of (by decide) (Nat.le_of_ble_eq_true rfl) (fun x hx hF => ?_)
  refine z_aload_n hx dX6_askMark_0 rfl ?_
  refine z_bipush (v := nI 21) hx dX6_askMark_1 (by decide) ?_
  refine z_callvvE hx [1, 2] (qX0_leave n f w (c) (b) (by omega) 21) dX6_askMark_3 sX6_7 rfl rfl rfl rfl rfl (by decide) (by decide) rfl (Nat.le_of_ble_eq_true rfl) (by decide) ?_
  refine z_heap (show _ = hWa 6 n f w (c + 1) (zup (b) (c) 21) from rfl) ?_
  refine z_aload_n hx dX6_askMark_6 rfl ?_
  refine z_aload_n hx dX6_askMark_7 rfl ?_
  refine z_calliuF hx (qX10_askMark_6 n f w (c + 1) (zup (b) (c) 21) (by omega)) dX6_askMark_8 uX6_22 rfl rfl rfl rfl (Nat.le_of_ble_eq_true rfl) rfl (Nat.le_of_ble_eq_true rfl) (by decide) ?_
  refine z_aload_n hx dX6_askMark_11 rfl ?_
  refine z_get hx dX6_askMark_12 fX6_23 rfl rfl ?_
  first | refine z_iaddN hx dX6_askMark_15 ?_ | refine z_iadd hx dX6_askMark_15 ?_
  exact z_iret hx hF dX6_askMark_16 rfl rfl ⟨rfl, rfl⟩

set_option maxHeartbeats 4000000 in
set_option maxRecDepth 100000 in
theorem qX6_askMark_2 (n f w c : Nat) (b : Nat → Nat) (hc : c + 2 ≤ 16) : zMi mX6_askMark 2 ([.ref 0, .ref 1]) (hWa 2 n f w c b) (fun z u => z = nI (n + w) ∧ u = hWa 2 n f w (c + 1 + 1) (zup (zup (b) (c) 21) (c + 1) 20)) := by
  refine zMi.of (by decide) (Nat.le_of_ble_eq_true rfl) (fun x hx hF => ?_)
  refine z_aload_n hx dX6_askMark_0 rfl ?_
  refine z_bipush (v := nI 21) hx dX6_askMark_1 (by decide) ?_
  refine z_callvvE hx [1, 2] (qX0_leave n f w (c) (b) (by omega) 21) dX6_askMark_3 sX6_7 rfl rfl rfl rfl rfl (by decide) (by decide) rfl (Nat.le_of_ble_eq_true rfl) (by decide) ?_
  refine z_heap (show _ = hWa 2 n f w (c + 1) (zup (b) (c) 21) from rfl) ?_
  refine z_aload_n hx dX6_askMark_6 rfl ?_
  refine z_aload_n hx dX6_askMark_7 rfl ?_
  refine z_calliuF hx (qX10_askMark_2 n f w (c + 1) (zup (b) (c) 21) (by omega)) dX6_askMark_8 uX6_22 rfl rfl rfl rfl (Nat.le_of_ble_eq_true rfl) rfl (Nat.le_of_ble_eq_true rfl) (by decide) ?_
  refine z_aload_n hx dX6_askMark_11 rfl ?_
  refine z_get hx dX6_askMark_12 fX6_23 rfl rfl ?_
  first | refine z_iaddN hx dX6_askMark_15 ?_ | refine z_iadd hx dX6_askMark_15 ?_
  exact z_iret hx hF dX6_askMark_16 rfl rfl ⟨rfl, rfl⟩

set_option maxHeartbeats 4000000 in
set_option maxRecDepth 100000 in
theorem qX6_askMark_3 (n f w c : Nat) (b : Nat → Nat) (hc : c + 2 ≤ 16) : zMi mX6_askMark 2 ([.ref 0, .ref 1]) (hWa 3 n f w c b) (fun z u => z = nI (n + w) ∧ u = hWa 3 n f w (c + 1 + 1) (zup (zup (b) (c) 21) (c + 1) 20)) := by
  refine zMi.of (by decide) (Nat.le_of_ble_eq_true rfl) (fun x hx hF => ?_)
  refine z_aload_n hx dX6_askMark_0 rfl ?_
  refine z_bipush (v := nI 21) hx dX6_askMark_1 (by decide) ?_
  refine z_callvvE hx [1, 2] (qX0_leave n f w (c) (b) (by omega) 21) dX6_askMark_3 sX6_7 rfl rfl rfl rfl rfl (by decide) (by decide) rfl (Nat.le_of_ble_eq_true rfl) (by decide) ?_
  refine z_heap (show _ = hWa 3 n f w (c + 1) (zup (b) (c) 21) from rfl) ?_
  refine z_aload_n hx dX6_askMark_6 rfl ?_
  refine z_aload_n hx dX6_askMark_7 rfl ?_
  refine z_calliuF hx (qX10_askMark_3 n f w (c + 1) (zup (b) (c) 21) (by omega)) dX6_askMark_8 uX6_22 rfl rfl rfl rfl (Nat.le_of_ble_eq_true rfl) rfl (Nat.le_of_ble_eq_true rfl) (by decide) ?_
  refine z_aload_n hx dX6_askMark_11 rfl ?_
  refine z_get hx dX6_askMark_12 fX6_23 rfl rfl ?_
  first | refine z_iaddN hx dX6_askMark_15 ?_ | refine z_iadd hx dX6_askMark_15 ?_
  exact z_iret hx hF dX6_askMark_16 rfl rfl ⟨rfl, rfl⟩

set_option maxHeartbeats 4000000 in
set_option maxRecDepth 100000 in
theorem qX2_askMark (n f w c : Nat) (b : Nat → Nat) (hc : c + 3 ≤ 16) : zMi mX2_askMark 3 ([.ref 0, .ref 1]) (hWa 2 n f w c b) (fun z u => z = nI (2 * (n + w)) ∧ u = hWa 2 n f w (c + 1 + 1 + 1) (zup (zup (zup (b) (c) 24) (c + 1) 21) (c + 1 + 1) 20)) := by
  refine zMi.of (by decide) (Nat.le_of_ble_eq_true rfl) (fun x hx hF => ?_)
  refine z_aload_n hx dX2_askMark_0 rfl ?_
  refine z_bipush (v := nI 24) hx dX2_askMark_1 (by decide) ?_
  refine z_callvvE hx [1, 2] (qX0_leave n f w (c) (b) (by omega) 24) dX2_askMark_3 sX2_7 rfl rfl rfl rfl rfl (by decide) (by decide) rfl (Nat.le_of_ble_eq_true rfl) (by decide) ?_
  refine z_heap (show _ = hWa 2 n f w (c + 1) (zup (b) (c) 24) from rfl) ?_
  refine z_iconst (v := nI 2) hx dX2_askMark_6 (by decide) ?_
  refine z_aload_n hx dX2_askMark_7 rfl ?_
  refine z_aload_n hx dX2_askMark_8 rfl ?_
  refine z_calliuF hx (qX6_askMark_2 n f w (c + 1) (zup (b) (c) 24) (by omega)) dX2_askMark_9 uX2_17 rfl rfl rfl rfl (Nat.le_of_ble_eq_true rfl) rfl (Nat.le_of_ble_eq_true rfl) (by decide) ?_
  first | refine z_imulN hx dX2_askMark_12 ?_ | refine z_imul hx dX2_askMark_12 ?_
  exact z_iret hx hF dX2_askMark_13 rfl rfl ⟨rfl, rfl⟩

set_option maxHeartbeats 4000000 in
set_option maxRecDepth 100000 in
theorem qX3_askMark (n f w c : Nat) (b : Nat → Nat) (hc : c + 3 ≤ 16) : zMi mX3_askMark 3 ([.ref 0, .ref 1]) (hWa 3 n f w c b) (fun z u => z = nI (n + w) - nI 1000 ∧ u = hWa 3 n f w (c + 1 + 1 + 1) (zup (zup (zup (b) (c) 22) (c + 1) 21) (c + 1 + 1) 20)) := by
  refine zMi.of (by decide) (Nat.le_of_ble_eq_true rfl) (fun x hx hF => ?_)
  refine z_aload_n hx dX3_askMark_0 rfl ?_
  refine z_bipush (v := nI 22) hx dX3_askMark_1 (by decide) ?_
  refine z_callvvE hx [1, 2] (qX0_leave n f w (c) (b) (by omega) 22) dX3_askMark_3 sX3_7 rfl rfl rfl rfl rfl (by decide) (by decide) rfl (Nat.le_of_ble_eq_true rfl) (by decide) ?_
  refine z_heap (show _ = hWa 3 n f w (c + 1) (zup (b) (c) 22) from rfl) ?_
  refine z_aload_n hx dX3_askMark_6 rfl ?_
  refine z_aload_n hx dX3_askMark_7 rfl ?_
  refine z_calliuF hx (qX6_askMark_3 n f w (c + 1) (zup (b) (c) 22) (by omega)) dX3_askMark_8 uX3_13 rfl rfl rfl rfl (Nat.le_of_ble_eq_true rfl) rfl (Nat.le_of_ble_eq_true rfl) (by decide) ?_
  refine z_sipush (v := nI 1000) hx dX3_askMark_11 (by decide) ?_
  refine z_isub hx dX3_askMark_14 ?_
  exact z_iret hx hF dX3_askMark_15 rfl rfl ⟨rfl, rfl⟩

set_option maxHeartbeats 4000000 in
set_option maxRecDepth 100000 in
theorem qX6_askSize_6 (n f w c : Nat) (b : Nat → Nat) (hc : c + 4 ≤ 16) : zMi mX6_askSize 4 ([.ref 0, .ref 1]) (hWa 6 n f w c b) (fun z u => z = nI f + (nI (n + w)) ∧ u = hWa 6 n f w (c + 1 + 1 + 1 + 1) (zup (zup (zup (zup (b) (c) 11) (c + 1) 10) (c + 1 + 1) 21) (c + 1 + 1 + 1) 20)) := by
  refine zMi.of (by decide) (Nat.le_of_ble_eq_true rfl) (fun x hx hF => ?_)
  refine z_aload_n hx dX6_askSize_0 rfl ?_
  refine z_bipush (v := nI 11) hx dX6_askSize_1 (by decide) ?_
  refine z_callvvE hx [1, 2] (qX0_leave n f w (c) (b) (by omega) 11) dX6_askSize_3 sX6_7 rfl rfl rfl rfl rfl (by decide) (by decide) rfl (Nat.le_of_ble_eq_true rfl) (by decide) ?_
  refine z_heap (show _ = hWa 6 n f w (c + 1) (zup (b) (c) 11) from rfl) ?_
  refine z_aload_n hx dX6_askSize_6 rfl ?_
  refine z_aload_n hx dX6_askSize_7 rfl ?_
  refine z_calliuF hx (qX10_askSize_6 n f w (c + 1) (zup (b) (c) 11) (by omega)) dX6_askSize_8 uX6_13 rfl rfl rfl rfl (Nat.le_of_ble_eq_true rfl) rfl (Nat.le_of_ble_eq_true rfl) (by decide) ?_
  refine z_aload_n hx dX6_askSize_11 rfl ?_
  refine z_aload_n hx dX6_askSize_12 rfl ?_
  refine z_callioF hx (qX6_askMark_6 n f w (c + 1 + 1) (zup (zup (b) (c) 11) (c + 1) 10) (by omega)) dX6_askSize_13 oX6_17_X6 rfl rfl rfl rfl (Nat.le_of_ble_eq_true rfl) rfl (Nat.le_of_ble_eq_true rfl) (by decide) ?_
  refine z_iadd hx dX6_askSize_16 ?_
  exact z_iret hx hF dX6_askSize_17 rfl rfl ⟨rfl, rfl⟩

set_option maxHeartbeats 4000000 in
set_option maxRecDepth 100000 in
theorem qX6_askSize_2 (n f w c : Nat) (b : Nat → Nat) (hc : c + 5 ≤ 16) : zMi mX6_askSize 4 ([.ref 0, .ref 1]) (hWa 2 n f w c b) (fun z u => z = nI f + (nI (2 * (n + w))) ∧ u = hWa 2 n f w (c + 1 + 1 + 1 + 1 + 1) (zup (zup (zup (zup (zup (b) (c) 11) (c + 1) 10) (c + 1 + 1) 24) (c + 1 + 1 + 1) 21) (c + 1 + 1 + 1 + 1) 20)) := by
  refine zMi.of (by decide) (Nat.le_of_ble_eq_true rfl) (fun x hx hF => ?_)
  refine z_aload_n hx dX6_askSize_0 rfl ?_
  refine z_bipush (v := nI 11) hx dX6_askSize_1 (by decide) ?_
  refine z_callvvE hx [1, 2] (qX0_leave n f w (c) (b) (by omega) 11) dX6_askSize_3 sX6_7 rfl rfl rfl rfl rfl (by decide) (by decide) rfl (Nat.le_of_ble_eq_true rfl) (by decide) ?_
  refine z_heap (show _ = hWa 2 n f w (c + 1) (zup (b) (c) 11) from rfl) ?_
  refine z_aload_n hx dX6_askSize_6 rfl ?_
  refine z_aload_n hx dX6_askSize_7 rfl ?_
  refine z_calliuF hx (qX10_askSize_2 n f w (c + 1) (zup (b) (c) 11) (by omega)) dX6_askSize_8 uX6_13 rfl rfl rfl rfl (Nat.le_of_ble_eq_true rfl) rfl (Nat.le_of_ble_eq_true rfl) (by decide) ?_
  refine z_aload_n hx dX6_askSize_11 rfl ?_
  refine z_aload_n hx dX6_askSize_12 rfl ?_
  refine z_callioF hx (qX2_askMark n f w (c + 1 + 1) (zup (zup (b) (c) 11) (c + 1) 10) (by omega)) dX6_askSize_13 oX6_17_X2 rfl rfl rfl rfl (Nat.le_of_ble_eq_true rfl) rfl (Nat.le_of_ble_eq_true rfl) (by decide) ?_
  refine z_iadd hx dX6_askSize_16 ?_
  exact z_iret hx hF dX6_askSize_17 rfl rfl ⟨rfl, rfl⟩

set_option maxHeartbeats 4000000 in
set_option maxRecDepth 100000 in
theorem qX6_askSize_3 (n f w c : Nat) (b : Nat → Nat) (hc : c + 5 ≤ 16) : zMi mX6_askSize 4 ([.ref 0, .ref 1]) (hWa 3 n f w c b) (fun z u => z = nI f + (nI (n + w) - nI 1000) ∧ u = hWa 3 n f w (c + 1 + 1 + 1 + 1 + 1) (zup (zup (zup (zup (zup (b) (c) 11) (c + 1) 10) (c + 1 + 1) 22) (c + 1 + 1 + 1) 21) (c + 1 + 1 + 1 + 1) 20)) := by
  refine zMi.of (by decide) (Nat.le_of_ble_eq_true rfl) (fun x hx hF => ?_)
  refine z_aload_n hx dX6_askSize_0 rfl ?_
  refine z_bipush (v := nI 11) hx dX6_askSize_1 (by decide) ?_
  refine z_callvvE hx [1, 2] (qX0_leave n f w (c) (b) (by omega) 11) dX6_askSize_3 sX6_7 rfl rfl rfl rfl rfl (by decide) (by decide) rfl (Nat.le_of_ble_eq_true rfl) (by decide) ?_
  refine z_heap (show _ = hWa 3 n f w (c + 1) (zup (b) (c) 11) from rfl) ?_
  refine z_aload_n hx dX6_askSize_6 rfl ?_
  refine z_aload_n hx dX6_askSize_7 rfl ?_
  refine z_calliuF hx (qX10_askSize_3 n f w (c + 1) (zup (b) (c) 11) (by omega)) dX6_askSize_8 uX6_13 rfl rfl rfl rfl (Nat.le_of_ble_eq_true rfl) rfl (Nat.le_of_ble_eq_true rfl) (by decide) ?_
  refine z_aload_n hx dX6_askSize_11 rfl ?_
  refine z_aload_n hx dX6_askSize_12 rfl ?_
  refine z_callioF hx (qX3_askMark n f w (c + 1 + 1) (zup (zup (b) (c) 11) (c + 1) 10) (by omega)) dX6_askSize_13 oX6_17_X3 rfl rfl rfl rfl (Nat.le_of_ble_eq_true rfl) rfl (Nat.le_of_ble_eq_true rfl) (by decide) ?_
  refine z_iadd hx dX6_askSize_16 ?_
  exact z_iret hx hF dX6_askSize_17 rfl rfl ⟨rfl, rfl⟩

set_option maxHeartbeats 4000000 in
set_option maxRecDepth 100000 in
theorem qX2_askSize (n f w c : Nat) (b : Nat → Nat) (hc : c + 6 ≤ 16) : zMi mX2_askSize 5 ([.ref 0, .ref 1]) (hWa 2 n f w c b) (fun z u => z = -(nI f + nI (2 * (n + w))) ∧ u = hWa 2 n f w (c + 1 + 1 + 1 + 1 + 1 + 1) (zup (zup (zup (zup (zup (zup (b) (c) 12) (c + 1) 11) (c + 1 + 1) 10) (c + 1 + 1 + 1) 24) (c + 1 + 1 + 1 + 1) 21) (c + 1 + 1 + 1 + 1 + 1) 20)) := by
  refine zMi.of (by decide) (Nat.le_of_ble_eq_true rfl) (fun x hx hF => ?_)
  refine z_aload_n hx dX2_askSize_0 rfl ?_
  refine z_bipush (v := nI 12) hx dX2_askSize_1 (by decide) ?_
  refine z_callvvE hx [1, 2] (qX0_leave n f w (c) (b) (by omega) 12) dX2_askSize_3 sX2_7 rfl rfl rfl rfl rfl (by decide) (by decide) rfl (Nat.le_of_ble_eq_true rfl) (by decide) ?_
  refine z_heap (show _ = hWa 2 n f w (c + 1) (zup (b) (c) 12) from rfl) ?_
  refine z_aload_n hx dX2_askSize_6 rfl ?_
  refine z_aload_n hx dX2_askSize_7 rfl ?_
  refine z_calliuF hx (qX6_askSize_2 n f w (c + 1) (zup (b) (c) 12) (by omega)) dX2_askSize_8 uX2_13 rfl rfl rfl rfl (Nat.le_of_ble_eq_true rfl) rfl (Nat.le_of_ble_eq_true rfl) (by decide) ?_
  refine z_ineg hx dX2_askSize_11 ?_
  exact z_iret hx hF dX2_askSize_12 rfl rfl ⟨rfl, rfl⟩

set_option maxHeartbeats 4000000 in
set_option maxRecDepth 100000 in
theorem qX1_askSize_1 (n f w c : Nat) (b : Nat → Nat) (hc : c + 2 ≤ 16) : zMi mX1_askSize 2 ([.ref 0, .ref 1]) (hWa 1 n f w c b) (fun z u => z = nI f - nI 100 ∧ u = hWa 1 n f w (c + 1 + 1) (zup (zup (b) (c) 13) (c + 1) 10)) := by
  refine zMi.of (by decide) (Nat.le_of_ble_eq_true rfl) (fun x hx hF => ?_)
  refine z_aload_n hx dX1_askSize_0 rfl ?_
  refine z_bipush (v := nI 13) hx dX1_askSize_1 (by decide) ?_
  refine z_callvvE hx [1, 2] (qX0_leave n f w (c) (b) (by omega) 13) dX1_askSize_3 sX1_7 rfl rfl rfl rfl rfl (by decide) (by decide) rfl (Nat.le_of_ble_eq_true rfl) (by decide) ?_
  refine z_heap (show _ = hWa 1 n f w (c + 1) (zup (b) (c) 13) from rfl) ?_
  refine z_aload_n hx dX1_askSize_6 rfl ?_
  refine z_aload_n hx dX1_askSize_7 rfl ?_
  refine z_calliuF hx (qX10_askSize_1 n f w (c + 1) (zup (b) (c) 13) (by omega)) dX1_askSize_8 uX1_13 rfl rfl rfl rfl (Nat.le_of_ble_eq_true rfl) rfl (Nat.le_of_ble_eq_true rfl) (by decide) ?_
  refine z_bipush (v := nI 100) hx dX1_askSize_11 (by decide) ?_
  refine z_isub hx dX1_askSize_13 ?_
  exact z_iret hx hF dX1_askSize_14 rfl rfl ⟨rfl, rfl⟩

set_option maxHeartbeats 4000000 in
set_option maxRecDepth 100000 in
theorem qX1_askSize_7 (n f w c : Nat) (b : Nat → Nat) (hc : c + 2 ≤ 16) : zMi mX1_askSize 2 ([.ref 0, .ref 1]) (hWa 7 n f w c b) (fun z u => z = nI f - nI 100 ∧ u = hWa 7 n f w (c + 1 + 1) (zup (zup (b) (c) 13) (c + 1) 10)) := by
  refine zMi.of (by decide) (Nat.le_of_ble_eq_true rfl) (fun x hx hF => ?_)
  refine z_aload_n hx dX1_askSize_0 rfl ?_
  refine z_bipush (v := nI 13) hx dX1_askSize_1 (by decide) ?_
  refine z_callvvE hx [1, 2] (qX0_leave n f w (c) (b) (by omega) 13) dX1_askSize_3 sX1_7 rfl rfl rfl rfl rfl (by decide) (by decide) rfl (Nat.le_of_ble_eq_true rfl) (by decide) ?_
  refine z_heap (show _ = hWa 7 n f w (c + 1) (zup (b) (c) 13) from rfl) ?_
  refine z_aload_n hx dX1_askSize_6 rfl ?_
  refine z_aload_n hx dX1_askSize_7 rfl ?_
  refine z_calliuF hx (qX10_askSize_7 n f w (c + 1) (zup (b) (c) 13) (by omega)) dX1_askSize_8 uX1_13 rfl rfl rfl rfl (Nat.le_of_ble_eq_true rfl) rfl (Nat.le_of_ble_eq_true rfl) (by decide) ?_
  refine z_bipush (v := nI 100) hx dX1_askSize_11 (by decide) ?_
  refine z_isub hx dX1_askSize_13 ?_
  exact z_iret hx hF dX1_askSize_14 rfl rfl ⟨rfl, rfl⟩

set_option maxHeartbeats 4000000 in
set_option maxRecDepth 100000 in
theorem qX7_askSize (n f w c : Nat) (b : Nat → Nat) (hc : c + 3 ≤ 16) : zMi mX7_askSize 3 ([.ref 0, .ref 1]) (hWa 7 n f w c b) (fun z u => z = nI 2 * (nI f - nI 100) ∧ u = hWa 7 n f w (c + 1 + 1 + 1) (zup (zup (zup (b) (c) 14) (c + 1) 13) (c + 1 + 1) 10)) := by
  refine zMi.of (by decide) (Nat.le_of_ble_eq_true rfl) (fun x hx hF => ?_)
  refine z_aload_n hx dX7_askSize_0 rfl ?_
  refine z_bipush (v := nI 14) hx dX7_askSize_1 (by decide) ?_
  refine z_callvvE hx [1, 2] (qX0_leave n f w (c) (b) (by omega) 14) dX7_askSize_3 sX7_7 rfl rfl rfl rfl rfl (by decide) (by decide) rfl (Nat.le_of_ble_eq_true rfl) (by decide) ?_
  refine z_heap (show _ = hWa 7 n f w (c + 1) (zup (b) (c) 14) from rfl) ?_
  refine z_iconst (v := nI 2) hx dX7_askSize_6 (by decide) ?_
  refine z_aload_n hx dX7_askSize_7 rfl ?_
  refine z_aload_n hx dX7_askSize_8 rfl ?_
  refine z_calliuF hx (qX1_askSize_7 n f w (c + 1) (zup (b) (c) 14) (by omega)) dX7_askSize_9 uX7_13 rfl rfl rfl rfl (Nat.le_of_ble_eq_true rfl) rfl (Nat.le_of_ble_eq_true rfl) (by decide) ?_
  refine z_imul hx dX7_askSize_12 ?_
  exact z_iret hx hF dX7_askSize_13 rfl rfl ⟨rfl, rfl⟩

set_option maxHeartbeats 4000000 in
set_option maxRecDepth 100000 in
theorem qX1_askMark_1 (n f w c : Nat) (b : Nat → Nat) (hc : c + 4 ≤ 16) : zMi mX1_askMark 4 ([.ref 0, .ref 1]) (hWa 1 n f w c b) (fun z u => z = nI n - (nI f - nI 100) ∧ u = hWa 1 n f w (c + 1 + 1 + 1 + 1) (zup (zup (zup (zup (b) (c) 23) (c + 1) 20) (c + 1 + 1) 13) (c + 1 + 1 + 1) 10)) := by
  refine zMi.of (by decide) (Nat.le_of_ble_eq_true rfl) (fun x hx hF => ?_)
  refine z_aload_n hx dX1_askMark_0 rfl ?_
  refine z_bipush (v := nI 23) hx dX1_askMark_1 (by decide) ?_
  refine z_callvvE hx [1, 2] (qX0_leave n f w (c) (b) (by omega) 23) dX1_askMark_3 sX1_7 rfl rfl rfl rfl rfl (by decide) (by decide) rfl (Nat.le_of_ble_eq_true rfl) (by decide) ?_
  refine z_heap (show _ = hWa 1 n f w (c + 1) (zup (b) (c) 23) from rfl) ?_
  refine z_aload_n hx dX1_askMark_6 rfl ?_
  refine z_aload_n hx dX1_askMark_7 rfl ?_
  refine z_calliuF hx (qX10_askMark_1 n f w (c + 1) (zup (b) (c) 23) (by omega)) dX1_askMark_8 uX1_17 rfl rfl rfl rfl (Nat.le_of_ble_eq_true rfl) rfl (Nat.le_of_ble_eq_true rfl) (by decide) ?_
  refine z_aload_n hx dX1_askMark_11 rfl ?_
  refine z_aload_n hx dX1_askMark_12 rfl ?_
  refine z_callioF hx (qX1_askSize_1 n f w (c + 1 + 1) (zup (zup (b) (c) 23) (c + 1) 20) (by omega)) dX1_askMark_13 oX1_20_X1 rfl rfl rfl rfl (Nat.le_of_ble_eq_true rfl) rfl (Nat.le_of_ble_eq_true rfl) (by decide) ?_
  refine z_isub hx dX1_askMark_16 ?_
  exact z_iret hx hF dX1_askMark_17 rfl rfl ⟨rfl, rfl⟩

set_option maxHeartbeats 4000000 in
set_option maxRecDepth 100000 in
theorem qX1_askMark_7 (n f w c : Nat) (b : Nat → Nat) (hc : c + 5 ≤ 16) : zMi mX1_askMark 4 ([.ref 0, .ref 1]) (hWa 7 n f w c b) (fun z u => z = nI n - (nI 2 * (nI f - nI 100)) ∧ u = hWa 7 n f w (c + 1 + 1 + 1 + 1 + 1) (zup (zup (zup (zup (zup (b) (c) 23) (c + 1) 20) (c + 1 + 1) 14) (c + 1 + 1 + 1) 13) (c + 1 + 1 + 1 + 1) 10)) := by
  refine zMi.of (by decide) (Nat.le_of_ble_eq_true rfl) (fun x hx hF => ?_)
  refine z_aload_n hx dX1_askMark_0 rfl ?_
  refine z_bipush (v := nI 23) hx dX1_askMark_1 (by decide) ?_
  refine z_callvvE hx [1, 2] (qX0_leave n f w (c) (b) (by omega) 23) dX1_askMark_3 sX1_7 rfl rfl rfl rfl rfl (by decide) (by decide) rfl (Nat.le_of_ble_eq_true rfl) (by decide) ?_
  refine z_heap (show _ = hWa 7 n f w (c + 1) (zup (b) (c) 23) from rfl) ?_
  refine z_aload_n hx dX1_askMark_6 rfl ?_
  refine z_aload_n hx dX1_askMark_7 rfl ?_
  refine z_calliuF hx (qX10_askMark_7 n f w (c + 1) (zup (b) (c) 23) (by omega)) dX1_askMark_8 uX1_17 rfl rfl rfl rfl (Nat.le_of_ble_eq_true rfl) rfl (Nat.le_of_ble_eq_true rfl) (by decide) ?_
  refine z_aload_n hx dX1_askMark_11 rfl ?_
  refine z_aload_n hx dX1_askMark_12 rfl ?_
  refine z_callioF hx (qX7_askSize n f w (c + 1 + 1) (zup (zup (b) (c) 23) (c + 1) 20) (by omega)) dX1_askMark_13 oX1_20_X7 rfl rfl rfl rfl (Nat.le_of_ble_eq_true rfl) rfl (Nat.le_of_ble_eq_true rfl) (by decide) ?_
  refine z_isub hx dX1_askMark_16 ?_
  exact z_iret hx hF dX1_askMark_17 rfl rfl ⟨rfl, rfl⟩

/-- sizes and marks by kind -/
def zMa (k n w : Nat) : Int32 := if k = 1 then nI (n + w) else if k = 2 then nI (2 * (n + w)) else nI (n + w) - nI 1000
def zSa (k n f w : Nat) : Int32 := if k = 1 then nI f + nI (n + w) else if k = 2 then -(nI f + nI (2 * (n + w))) else if k = 3 then nI f + (nI (n + w) - nI 1000) else if k = 4 then nI f - nI 100 else nI 2 * (nI f - nI 100)
def zNa (k n f w : Nat) : Int32 := if k = 1 then nI (n + w) else if k = 2 then nI (2 * (n + w)) else if k = 3 then nI (n + w) - nI 1000 else if k = 4 then nI n - (nI f - nI 100) else nI n - (nI 2 * (nI f - nI 100))
def zSl (k : Nat) : List Nat := if k = 1 then [11, 10, 21, 20] else if k = 2 then [12, 11, 10, 24, 21, 20] else if k = 3 then [11, 10, 22, 21, 20] else if k = 4 then [13, 10] else [14, 13, 10]
def zNl (k : Nat) : List Nat := if k = 1 then [21, 20] else if k = 2 then [24, 21, 20] else if k = 3 then [22, 21, 20] else if k = 4 then [23, 20, 13, 10] else [23, 20, 14, 13, 10]
noncomputable def aAsk (L : zL) (v w : Int32) : Int32 := zII (inP (lP L) v ∧ inR 0 1 w) (if w = nI 0 then zSa (lK L (zNat v)) (zNat v) (lF L (zNat v)) (lT L (zNat v)) else zNa (lK L (zNat v)) (zNat v) (lF L (zNat v)) (lT L (zNat v))) (-1000001)
/-- which bodies were begun -/
noncomputable def aBod (L : zL) (v w : Int32) : Option (List Nat) := zIG (inP (lP L) v ∧ inR 0 1 w) (some (if w = nI 0 then zSl (lK L (zNat v)) else zNl (lK L (zNat v)))) none
def zOa (o : Option (List Nat)) (L : zL) (v : Int32) (a : zAs) : zAs := match o with | none => a | some l => (zNat v, lF L (zNat v), lT L (zNat v), l.length, zBd a.2.2.2.2 0 l)
noncomputable def aAs (L : zL) (s : Nat) (v w : Int32) : Int32 × Nat := zIG (inP (lP L) v ∧ inR 0 5 w) (zIG (zIs (lK L (zNat v)) (zNat w)) (v, 0) (-1000010 - nI 3, 3)) (-1000001, s)
noncomputable def aTrc (a : zAs) (v : Int32) : Int32 := zII (inP a.2.2.2.1 v) (nI (a.2.2.2.2 (zNat v))) (-1000000)
set_option maxHeartbeats 4000000 in
set_option maxRecDepth 100000 in
theorem qX11_as (r : zRw) (t : zTp) (L : zL) (cr ho : Nat → Nat) (p : zLk) (i : zLk × zLk) (y : zPy) (a : zAs) (f1 f2 : Nat) (hw : zWf L) (v w : Int32) : zMi mX11_as 2 ([.ref 0, .int v, .int w]) (hC (r, t, (L, cr, ho), p, i, y, a, (f1, f2))) (fun z u => ∃ s9, (z, s9) = aAs L f2 v w ∧ u = hC (r, t, (L, cr, ho), p, i, y, a, (f1, s9))) := by
  refine zMi.of (by decide) (Nat.le_of_ble_eq_true rfl) (fun x hx hF => ?_)
  obtain ⟨w1, w2, w3, w4, w5⟩ := id hw
  refine z_aload_n hx dX11_as_0 rfl ?_
  refine z_iload_n hx dX11_as_1 rfl ?_
  refine z_callivF hx (qX11_isPerson r t p i y a (f1, f2) L cr ho hw _) dX11_as_2 sX11_161 hC_0 rfl rfl rfl (Nat.le_of_ble_eq_true rfl) rfl (Nat.le_of_ble_eq_true rfl) (by decide) ?_
  first | refine z_if_eqB (tgt := 17) hx dX11_as_5 (by decide) (fun zc5 => ?_) (fun zc5 => ?_) | refine z_if_eqN (tgt := 17) hx dX11_as_5 (by decide) (by omega) (fun zc5 => ?_) (fun zc5 => ?_) | refine z_if_eq (tgt := 17) hx dX11_as_5 (by decide) (fun zc5 => ?_) (fun zc5 => ?_)
  · skip
    refine z_ldc hx dX11_as_17 kX11_78 ?_
    exact z_iret hx hF dX11_as_19 rfl rfl ⟨_, by unfold aAs; first | rw [zIG_f (fun h => zc5 h.1)] | rw [zIG_f (fun h => zc14 h.2)] | rw [zIG_t ⟨⟨zj, zhj, rfl⟩, ⟨ze, Nat.zero_le _, zhe, rfl⟩⟩, hnj, hne, e9, zIG_t zc32] | rw [zIG_t ⟨⟨zj, zhj, rfl⟩, ⟨ze, Nat.zero_le _, zhe, rfl⟩⟩, hnj, hne, e9, zIG_f zc32] | exact zzz_open, rfl⟩
  · skip
    obtain ⟨zj, zhj, rfl⟩ := zc5
    have w6 := w5 zj zhj
    have hnj : zNat (nI zj) = zj := zNat_nI (by omega)
    refine z_iload_n hx dX11_as_8 rfl ?_
    refine z_iconst (v := nI 0) hx dX11_as_9 (by decide) ?_
    refine z_iconst (v := nI 5) hx dX11_as_10 (by decide) ?_
    refine z_callisP hx [] (qX11_isWithinN _ _ _ (by decide)) dX11_as_11 sX11_74 rfl rfl rfl (by decide) (by decide) rfl (Nat.le_of_ble_eq_true rfl) (by decide) ?_
    first | refine z_if_neB (tgt := 20) hx dX11_as_14 (by decide) (fun zc14 => ?_) (fun zc14 => ?_) | refine z_if_neN (tgt := 20) hx dX11_as_14 (by decide) (by omega) (fun zc14 => ?_) (fun zc14 => ?_) | refine z_if_ne (tgt := 20) hx dX11_as_14 (by decide) (fun zc14 => ?_) (fun zc14 => ?_)
    · skip
      obtain ⟨ze, -, zhe, rfl⟩ := zc14
      have hne : zNat (nI ze) = ze := zNat_nI (by omega)
      refine z_aload_n hx dX11_as_20 rfl ?_
      refine z_get hx dX11_as_21 fX11_45 hC_0 rfl ?_
      refine z_iload_n hx dX11_as_24 rfl ?_
      refine z_callrvP hx gLn (qX4_waiter L cr ho hw zj zhj) dX11_as_25 sX11_256 rfl rfl (sub_Ln _ _ _ _ _ _ _ _ _ _) rfl rfl (by decide) (by decide) rfl (Nat.le_of_ble_eq_true rfl) (by decide) ?_
      rcases (show lK L zj = 1 ∨ lK L zj = 2 ∨ lK L zj = 3 ∨ lK L zj = 4 ∨ lK L zj = 5 by omega) with e9 | e9 | e9 | e9 | e9
      · skip
        refine z_topR 53 (by rw [e9]; rfl) ?_
        refine z_iload_n hx dX11_as_28 rfl ?_
        first | refine z_callisP hx [53] (qX11_isOne_6 ze (by omega)) dX11_as_29 sX11_260 rfl rfl rfl (by decide) (by decide) rfl (Nat.le_of_ble_eq_true rfl) (by decide) ?_ | refine z_callisP hx [54] (qX11_isOne_2 ze (by omega)) dX11_as_29 sX11_260 rfl rfl rfl (by decide) (by decide) rfl (Nat.le_of_ble_eq_true rfl) (by decide) ?_ | refine z_callisP hx [55] (qX11_isOne_3 ze (by omega)) dX11_as_29 sX11_260 rfl rfl rfl (by decide) (by decide) rfl (Nat.le_of_ble_eq_true rfl) (by decide) ?_ | refine z_callisP hx [56] (qX11_isOne_1 ze (by omega)) dX11_as_29 sX11_260 rfl rfl rfl (by decide) (by decide) rfl (Nat.le_of_ble_eq_true rfl) (by decide) ?_ | refine z_callisP hx [57] (qX11_isOne_7 ze (by omega)) dX11_as_29 sX11_260 rfl rfl rfl (by decide) (by decide) rfl (Nat.le_of_ble_eq_true rfl) (by decide) ?_
        refine z_if_neB (tgt := 41) hx dX11_as_32 (by decide) (fun zc32 => ?_) (fun zc32 => ?_)
        · skip
          refine z_aload_n hx dX11_as_41 rfl ?_
          refine z_iload_n hx dX11_as_42 rfl ?_
          refine z_callivF hx (qX11_foundNothing r t (L, cr, ho) p i y a f1 f2 (nI zj)) dX11_as_43 sX11_87 hC_0 rfl rfl rfl (Nat.le_of_ble_eq_true rfl) rfl (Nat.le_of_ble_eq_true rfl) (by decide) ?_
          exact z_iret hx hF dX11_as_46 rfl rfl ⟨_, by unfold aAs; first | rw [zIG_f (fun h => zc5 h.1)] | rw [zIG_f (fun h => zc14 h.2)] | rw [zIG_t ⟨⟨zj, zhj, rfl⟩, ⟨ze, Nat.zero_le _, zhe, rfl⟩⟩, hnj, hne, e9, zIG_t zc32] | rw [zIG_t ⟨⟨zj, zhj, rfl⟩, ⟨ze, Nat.zero_le _, zhe, rfl⟩⟩, hnj, hne, e9, zIG_f zc32] | exact zzz_open, rfl⟩
        · skip
          refine z_aload_n hx dX11_as_35 rfl ?_
          refine z_iconst (v := nI 3) hx dX11_as_36 (by decide) ?_
          refine z_callivF hx (qX11_found r t (L, cr, ho) p i y a f1 f2 3 (by decide)) dX11_as_37 sX11_79 hC_0 rfl rfl rfl (Nat.le_of_ble_eq_true rfl) rfl (Nat.le_of_ble_eq_true rfl) (by decide) ?_
          exact z_iret hx hF dX11_as_40 rfl rfl ⟨_, by unfold aAs; first | rw [zIG_f (fun h => zc5 h.1)] | rw [zIG_f (fun h => zc14 h.2)] | rw [zIG_t ⟨⟨zj, zhj, rfl⟩, ⟨ze, Nat.zero_le _, zhe, rfl⟩⟩, hnj, hne, e9, zIG_t zc32] | rw [zIG_t ⟨⟨zj, zhj, rfl⟩, ⟨ze, Nat.zero_le _, zhe, rfl⟩⟩, hnj, hne, e9, zIG_f zc32] | exact zzz_open, rfl⟩
      · skip
        refine z_topR 54 (by rw [e9]; rfl) ?_
        refine z_iload_n hx dX11_as_28 rfl ?_
        first | refine z_callisP hx [53] (qX11_isOne_6 ze (by omega)) dX11_as_29 sX11_260 rfl rfl rfl (by decide) (by decide) rfl (Nat.le_of_ble_eq_true rfl) (by decide) ?_ | refine z_callisP hx [54] (qX11_isOne_2 ze (by omega)) dX11_as_29 sX11_260 rfl rfl rfl (by decide) (by decide) rfl (Nat.le_of_ble_eq_true rfl) (by decide) ?_ | refine z_callisP hx [55] (qX11_isOne_3 ze (by omega)) dX11_as_29 sX11_260 rfl rfl rfl (by decide) (by decide) rfl (Nat.le_of_ble_eq_true rfl) (by decide) ?_ | refine z_callisP hx [56] (qX11_isOne_1 ze (by omega)) dX11_as_29 sX11_260 rfl rfl rfl (by decide) (by decide) rfl (Nat.le_of_ble_eq_true rfl) (by decide) ?_ | refine z_callisP hx [57] (qX11_isOne_7 ze (by omega)) dX11_as_29 sX11_260 rfl rfl rfl (by decide) (by decide) rfl (Nat.le_of_ble_eq_true rfl) (by decide) ?_
        refine z_if_neB (tgt := 41) hx dX11_as_32 (by decide) (fun zc32 => ?_) (fun zc32 => ?_)
        · skip
          refine z_aload_n hx dX11_as_41 rfl ?_
          refine z_iload_n hx dX11_as_42 rfl ?_
          refine z_callivF hx (qX11_foundNothing r t (L, cr, ho) p i y a f1 f2 (nI zj)) dX11_as_43 sX11_87 hC_0 rfl rfl rfl (Nat.le_of_ble_eq_true rfl) rfl (Nat.le_of_ble_eq_true rfl) (by decide) ?_
          exact z_iret hx hF dX11_as_46 rfl rfl ⟨_, by unfold aAs; first | rw [zIG_f (fun h => zc5 h.1)] | rw [zIG_f (fun h => zc14 h.2)] | rw [zIG_t ⟨⟨zj, zhj, rfl⟩, ⟨ze, Nat.zero_le _, zhe, rfl⟩⟩, hnj, hne, e9, zIG_t zc32] | rw [zIG_t ⟨⟨zj, zhj, rfl⟩, ⟨ze, Nat.zero_le _, zhe, rfl⟩⟩, hnj, hne, e9, zIG_f zc32] | exact zzz_open, rfl⟩
        · skip
          refine z_aload_n hx dX11_as_35 rfl ?_
          refine z_iconst (v := nI 3) hx dX11_as_36 (by decide) ?_
          refine z_callivF hx (qX11_found r t (L, cr, ho) p i y a f1 f2 3 (by decide)) dX11_as_37 sX11_79 hC_0 rfl rfl rfl (Nat.le_of_ble_eq_true rfl) rfl (Nat.le_of_ble_eq_true rfl) (by decide) ?_
          exact z_iret hx hF dX11_as_40 rfl rfl ⟨_, by unfold aAs; first | rw [zIG_f (fun h => zc5 h.1)] | rw [zIG_f (fun h => zc14 h.2)] | rw [zIG_t ⟨⟨zj, zhj, rfl⟩, ⟨ze, Nat.zero_le _, zhe, rfl⟩⟩, hnj, hne, e9, zIG_t zc32] | rw [zIG_t ⟨⟨zj, zhj, rfl⟩, ⟨ze, Nat.zero_le _, zhe, rfl⟩⟩, hnj, hne, e9, zIG_f zc32] | exact zzz_open, rfl⟩
      · skip
        refine z_topR 55 (by rw [e9]; rfl) ?_
        refine z_iload_n hx dX11_as_28 rfl ?_
        first | refine z_callisP hx [53] (qX11_isOne_6 ze (by omega)) dX11_as_29 sX11_260 rfl rfl rfl (by decide) (by decide) rfl (Nat.le_of_ble_eq_true rfl) (by decide) ?_ | refine z_callisP hx [54] (qX11_isOne_2 ze (by omega)) dX11_as_29 sX11_260 rfl rfl rfl (by decide) (by decide) rfl (Nat.le_of_ble_eq_true rfl) (by decide) ?_ | refine z_callisP hx [55] (qX11_isOne_3 ze (by omega)) dX11_as_29 sX11_260 rfl rfl rfl (by decide) (by decide) rfl (Nat.le_of_ble_eq_true rfl) (by decide) ?_ | refine z_callisP hx [56] (qX11_isOne_1 ze (by omega)) dX11_as_29 sX11_260 rfl rfl rfl (by decide) (by decide) rfl (Nat.le_of_ble_eq_true rfl) (by decide) ?_ | refine z_callisP hx [57] (qX11_isOne_7 ze (by omega)) dX11_as_29 sX11_260 rfl rfl rfl (by decide) (by decide) rfl (Nat.le_of_ble_eq_true rfl) (by decide) ?_
        refine z_if_neB (tgt := 41) hx dX11_as_32 (by decide) (fun zc32 => ?_) (fun zc32 => ?_)
        · skip
          refine z_aload_n hx dX11_as_41 rfl ?_
          refine z_iload_n hx dX11_as_42 rfl ?_
          refine z_callivF hx (qX11_foundNothing r t (L, cr, ho) p i y a f1 f2 (nI zj)) dX11_as_43 sX11_87 hC_0 rfl rfl rfl (Nat.le_of_ble_eq_true rfl) rfl (Nat.le_of_ble_eq_true rfl) (by decide) ?_
          exact z_iret hx hF dX11_as_46 rfl rfl ⟨_, by unfold aAs; first | rw [zIG_f (fun h => zc5 h.1)] | rw [zIG_f (fun h => zc14 h.2)] | rw [zIG_t ⟨⟨zj, zhj, rfl⟩, ⟨ze, Nat.zero_le _, zhe, rfl⟩⟩, hnj, hne, e9, zIG_t zc32] | rw [zIG_t ⟨⟨zj, zhj, rfl⟩, ⟨ze, Nat.zero_le _, zhe, rfl⟩⟩, hnj, hne, e9, zIG_f zc32] | exact zzz_open, rfl⟩
        · skip
          refine z_aload_n hx dX11_as_35 rfl ?_
          refine z_iconst (v := nI 3) hx dX11_as_36 (by decide) ?_
          refine z_callivF hx (qX11_found r t (L, cr, ho) p i y a f1 f2 3 (by decide)) dX11_as_37 sX11_79 hC_0 rfl rfl rfl (Nat.le_of_ble_eq_true rfl) rfl (Nat.le_of_ble_eq_true rfl) (by decide) ?_
          exact z_iret hx hF dX11_as_40 rfl rfl ⟨_, by unfold aAs; first | rw [zIG_f (fun h => zc5 h.1)] | rw [zIG_f (fun h => zc14 h.2)] | rw [zIG_t ⟨⟨zj, zhj, rfl⟩, ⟨ze, Nat.zero_le _, zhe, rfl⟩⟩, hnj, hne, e9, zIG_t zc32] | rw [zIG_t ⟨⟨zj, zhj, rfl⟩, ⟨ze, Nat.zero_le _, zhe, rfl⟩⟩, hnj, hne, e9, zIG_f zc32] | exact zzz_open, rfl⟩
      · skip
        refine z_topR 56 (by rw [e9]; rfl) ?_
        refine z_iload_n hx dX11_as_28 rfl ?_
        first | refine z_callisP hx [53] (qX11_isOne_6 ze (by omega)) dX11_as_29 sX11_260 rfl rfl rfl (by decide) (by decide) rfl (Nat.le_of_ble_eq_true rfl) (by decide) ?_ | refine z_callisP hx [54] (qX11_isOne_2 ze (by omega)) dX11_as_29 sX11_260 rfl rfl rfl (by decide) (by decide) rfl (Nat.le_of_ble_eq_true rfl) (by decide) ?_ | refine z_callisP hx [55] (qX11_isOne_3 ze (by omega)) dX11_as_29 sX11_260 rfl rfl rfl (by decide) (by decide) rfl (Nat.le_of_ble_eq_true rfl) (by decide) ?_ | refine z_callisP hx [56] (qX11_isOne_1 ze (by omega)) dX11_as_29 sX11_260 rfl rfl rfl (by decide) (by decide) rfl (Nat.le_of_ble_eq_true rfl) (by decide) ?_ | refine z_callisP hx [57] (qX11_isOne_7 ze (by omega)) dX11_as_29 sX11_260 rfl rfl rfl (by decide) (by decide) rfl (Nat.le_of_ble_eq_true rfl) (by decide) ?_
        refine z_if_neB (tgt := 41) hx dX11_as_32 (by decide) (fun zc32 => ?_) (fun zc32 => ?_)
        · skip
          refine z_aload_n hx dX11_as_41 rfl ?_
          refine z_iload_n hx dX11_as_42 rfl ?_
          refine z_callivF hx (qX11_foundNothing r t (L, cr, ho) p i y a f1 f2 (nI zj)) dX11_as_43 sX11_87 hC_0 rfl rfl rfl (Nat.le_of_ble_eq_true rfl) rfl (Nat.le_of_ble_eq_true rfl) (by decide) ?_
          exact z_iret hx hF dX11_as_46 rfl rfl ⟨_, by unfold aAs; first | rw [zIG_f (fun h => zc5 h.1)] | rw [zIG_f (fun h => zc14 h.2)] | rw [zIG_t ⟨⟨zj, zhj, rfl⟩, ⟨ze, Nat.zero_le _, zhe, rfl⟩⟩, hnj, hne, e9, zIG_t zc32] | rw [zIG_t ⟨⟨zj, zhj, rfl⟩, ⟨ze, Nat.zero_le _, zhe, rfl⟩⟩, hnj, hne, e9, zIG_f zc32] | exact zzz_open, rfl⟩
        · skip
          refine z_aload_n hx dX11_as_35 rfl ?_
          refine z_iconst (v := nI 3) hx dX11_as_36 (by decide) ?_
          refine z_callivF hx (qX11_found r t (L, cr, ho) p i y a f1 f2 3 (by decide)) dX11_as_37 sX11_79 hC_0 rfl rfl rfl (Nat.le_of_ble_eq_true rfl) rfl (Nat.le_of_ble_eq_true rfl) (by decide) ?_
          exact z_iret hx hF dX11_as_40 rfl rfl ⟨_, by unfold aAs; first | rw [zIG_f (fun h => zc5 h.1)] | rw [zIG_f (fun h => zc14 h.2)] | rw [zIG_t ⟨⟨zj, zhj, rfl⟩, ⟨ze, Nat.zero_le _, zhe, rfl⟩⟩, hnj, hne, e9, zIG_t zc32] | rw [zIG_t ⟨⟨zj, zhj, rfl⟩, ⟨ze, Nat.zero_le _, zhe, rfl⟩⟩, hnj, hne, e9, zIG_f zc32] | exact zzz_open, rfl⟩
      · skip
        refine z_topR 57 (by rw [e9]; rfl) ?_
        refine z_iload_n hx dX11_as_28 rfl ?_
        first | refine z_callisP hx [53] (qX11_isOne_6 ze (by omega)) dX11_as_29 sX11_260 rfl rfl rfl (by decide) (by decide) rfl (Nat.le_of_ble_eq_true rfl) (by decide) ?_ | refine z_callisP hx [54] (qX11_isOne_2 ze (by omega)) dX11_as_29 sX11_260 rfl rfl rfl (by decide) (by decide) rfl (Nat.le_of_ble_eq_true rfl) (by decide) ?_ | refine z_callisP hx [55] (qX11_isOne_3 ze (by omega)) dX11_as_29 sX11_260 rfl rfl rfl (by decide) (by decide) rfl (Nat.le_of_ble_eq_true rfl) (by decide) ?_ | refine z_callisP hx [56] (qX11_isOne_1 ze (by omega)) dX11_as_29 sX11_260 rfl rfl rfl (by decide) (by decide) rfl (Nat.le_of_ble_eq_true rfl) (by decide) ?_ | refine z_callisP hx [57] (qX11_isOne_7 ze (by omega)) dX11_as_29 sX11_260 rfl rfl rfl (by decide) (by decide) rfl (Nat.le_of_ble_eq_true rfl) (by decide) ?_
        refine z_if_neB (tgt := 41) hx dX11_as_32 (by decide) (fun zc32 => ?_) (fun zc32 => ?_)
        · skip
          refine z_aload_n hx dX11_as_41 rfl ?_
          refine z_iload_n hx dX11_as_42 rfl ?_
          refine z_callivF hx (qX11_foundNothing r t (L, cr, ho) p i y a f1 f2 (nI zj)) dX11_as_43 sX11_87 hC_0 rfl rfl rfl (Nat.le_of_ble_eq_true rfl) rfl (Nat.le_of_ble_eq_true rfl) (by decide) ?_
          exact z_iret hx hF dX11_as_46 rfl rfl ⟨_, by unfold aAs; first | rw [zIG_f (fun h => zc5 h.1)] | rw [zIG_f (fun h => zc14 h.2)] | rw [zIG_t ⟨⟨zj, zhj, rfl⟩, ⟨ze, Nat.zero_le _, zhe, rfl⟩⟩, hnj, hne, e9, zIG_t zc32] | rw [zIG_t ⟨⟨zj, zhj, rfl⟩, ⟨ze, Nat.zero_le _, zhe, rfl⟩⟩, hnj, hne, e9, zIG_f zc32] | exact zzz_open, rfl⟩
        · skip
          refine z_aload_n hx dX11_as_35 rfl ?_
          refine z_iconst (v := nI 3) hx dX11_as_36 (by decide) ?_
          refine z_callivF hx (qX11_found r t (L, cr, ho) p i y a f1 f2 3 (by decide)) dX11_as_37 sX11_79 hC_0 rfl rfl rfl (Nat.le_of_ble_eq_true rfl) rfl (Nat.le_of_ble_eq_true rfl) (by decide) ?_
          exact z_iret hx hF dX11_as_40 rfl rfl ⟨_, by unfold aAs; first | rw [zIG_f (fun h => zc5 h.1)] | rw [zIG_f (fun h => zc14 h.2)] | rw [zIG_t ⟨⟨zj, zhj, rfl⟩, ⟨ze, Nat.zero_le _, zhe, rfl⟩⟩, hnj, hne, e9, zIG_t zc32] | rw [zIG_t ⟨⟨zj, zhj, rfl⟩, ⟨ze, Nat.zero_le _, zhe, rfl⟩⟩, hnj, hne, e9, zIG_f zc32] | exact zzz_open, rfl⟩
    · skip
      refine z_ldc hx dX11_as_17 kX11_78 ?_
      exact z_iret hx hF dX11_as_19 rfl rfl ⟨_, by unfold aAs; first | rw [zIG_f (fun h => zc5 h.1)] | rw [zIG_f (fun h => zc14 h.2)] | rw [zIG_t ⟨⟨zj, zhj, rfl⟩, ⟨ze, Nat.zero_le _, zhe, rfl⟩⟩, hnj, hne, e9, zIG_t zc32] | rw [zIG_t ⟨⟨zj, zhj, rfl⟩, ⟨ze, Nat.zero_le _, zhe, rfl⟩⟩, hnj, hne, e9, zIG_f zc32] | exact zzz_open, rfl⟩

