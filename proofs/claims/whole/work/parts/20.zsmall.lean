set_option maxHeartbeats 4000000 in
set_option maxRecDepth 100000 in
theorem qX11_isWithin (v a b : Int32) : zMi mX11_isWithin 0 ([.int v, .int a, .int b]) ([]) (fun r u => r = bP (a ≤ v ∧ v ≤ b) ∧ u = []) := by
  refine zMi.of (by decide) (Nat.le_of_ble_eq_true rfl) (fun x hx hF => ?_)
  refine z_iload_n hx dX11_isWithin_0 rfl ?_
  refine z_iload_n hx dX11_isWithin_1 rfl ?_
  first | refine z_icmp_ltN (tgt := 14) hx dX11_isWithin_2 (by decide) (by omega) (by omega) (fun c2 => ?_) (fun c2 => ?_) | refine z_icmp_lt (tgt := 14) hx dX11_isWithin_2 (by decide) (fun c2 => ?_) (fun c2 => ?_)
  · skip
    refine z_iconst (v := nI 0) hx dX11_isWithin_14 (by decide) ?_
    exact z_zret hx hF dX11_isWithin_15 rfl (by first | exact bP_nar _ | rfl) rfl ⟨by first | exact (bP_t ⟨by first | exact c2 | exact Int32.not_lt.mp c2, by first | exact c7 | exact Int32.not_lt.mp c7⟩).symm | exact (bP_f (fun q => absurd q.1 (Int32.not_le.mpr c2))).symm | exact (bP_f (fun q => absurd q.2 (Int32.not_le.mpr c7))).symm, rfl⟩
  · skip
    refine z_iload_n hx dX11_isWithin_5 rfl ?_
    refine z_iload_n hx dX11_isWithin_6 rfl ?_
    first | refine z_icmp_gtN (tgt := 14) hx dX11_isWithin_7 (by decide) (by omega) (by omega) (fun c7 => ?_) (fun c7 => ?_) | refine z_icmp_gt (tgt := 14) hx dX11_isWithin_7 (by decide) (fun c7 => ?_) (fun c7 => ?_)
    · skip
      refine z_iconst (v := nI 0) hx dX11_isWithin_14 (by decide) ?_
      exact z_zret hx hF dX11_isWithin_15 rfl (by first | exact bP_nar _ | rfl) rfl ⟨by first | exact (bP_t ⟨by first | exact c2 | exact Int32.not_lt.mp c2, by first | exact c7 | exact Int32.not_lt.mp c7⟩).symm | exact (bP_f (fun q => absurd q.1 (Int32.not_le.mpr c2))).symm | exact (bP_f (fun q => absurd q.2 (Int32.not_le.mpr c7))).symm, rfl⟩
    · skip
      refine z_iconst (v := nI 1) hx dX11_isWithin_10 (by decide) ?_
      refine z_goto (tgt := 15) hx dX11_isWithin_11 (by decide) ?_
      exact z_zret hx hF dX11_isWithin_15 rfl (by first | exact bP_nar _ | rfl) rfl ⟨by first | exact (bP_t ⟨by first | exact c2 | exact Int32.not_lt.mp c2, by first | exact c7 | exact Int32.not_lt.mp c7⟩).symm | exact (bP_f (fun q => absurd q.1 (Int32.not_le.mpr c2))).symm | exact (bP_f (fun q => absurd q.2 (Int32.not_le.mpr c7))).symm, rfl⟩

set_option maxHeartbeats 4000000 in
set_option maxRecDepth 100000 in
theorem qX12_in (v a b : Int32) : zMi mX12_in 0 ([.int v, .int a, .int b]) ([]) (fun r u => r = bP (a ≤ v ∧ v ≤ b) ∧ u = []) := by
  refine zMi.of (by decide) (Nat.le_of_ble_eq_true rfl) (fun x hx hF => ?_)
  refine z_iload_n hx dX12_in_0 rfl ?_
  refine z_iload_n hx dX12_in_1 rfl ?_
  first | refine z_icmp_ltN (tgt := 14) hx dX12_in_2 (by decide) (by omega) (by omega) (fun c2 => ?_) (fun c2 => ?_) | refine z_icmp_lt (tgt := 14) hx dX12_in_2 (by decide) (fun c2 => ?_) (fun c2 => ?_)
  · skip
    refine z_iconst (v := nI 0) hx dX12_in_14 (by decide) ?_
    exact z_zret hx hF dX12_in_15 rfl (by first | exact bP_nar _ | rfl) rfl ⟨by first | exact (bP_t ⟨by first | exact c2 | exact Int32.not_lt.mp c2, by first | exact c7 | exact Int32.not_lt.mp c7⟩).symm | exact (bP_f (fun q => absurd q.1 (Int32.not_le.mpr c2))).symm | exact (bP_f (fun q => absurd q.2 (Int32.not_le.mpr c7))).symm, rfl⟩
  · skip
    refine z_iload_n hx dX12_in_5 rfl ?_
    refine z_iload_n hx dX12_in_6 rfl ?_
    first | refine z_icmp_gtN (tgt := 14) hx dX12_in_7 (by decide) (by omega) (by omega) (fun c7 => ?_) (fun c7 => ?_) | refine z_icmp_gt (tgt := 14) hx dX12_in_7 (by decide) (fun c7 => ?_) (fun c7 => ?_)
    · skip
      refine z_iconst (v := nI 0) hx dX12_in_14 (by decide) ?_
      exact z_zret hx hF dX12_in_15 rfl (by first | exact bP_nar _ | rfl) rfl ⟨by first | exact (bP_t ⟨by first | exact c2 | exact Int32.not_lt.mp c2, by first | exact c7 | exact Int32.not_lt.mp c7⟩).symm | exact (bP_f (fun q => absurd q.1 (Int32.not_le.mpr c2))).symm | exact (bP_f (fun q => absurd q.2 (Int32.not_le.mpr c7))).symm, rfl⟩
    · skip
      refine z_iconst (v := nI 1) hx dX12_in_10 (by decide) ?_
      refine z_goto (tgt := 15) hx dX12_in_11 (by decide) ?_
      exact z_zret hx hF dX12_in_15 rfl (by first | exact bP_nar _ | rfl) rfl ⟨by first | exact (bP_t ⟨by first | exact c2 | exact Int32.not_lt.mp c2, by first | exact c7 | exact Int32.not_lt.mp c7⟩).symm | exact (bP_f (fun q => absurd q.1 (Int32.not_le.mpr c2))).symm | exact (bP_f (fun q => absurd q.2 (Int32.not_le.mpr c7))).symm, rfl⟩

theorem qX11_isWithinN (v : Int32) (a b : Nat) (hb : b < 2147483648 ∧ a ≤ b) : zMiE mX11_isWithin 0 [.int v, .int (nI a), .int (nI b)] [] (bP (∃ j, a ≤ j ∧ j ≤ b ∧ v = nI j)) [] := by
  rw [← bP_c (zinN2 hb.1 hb.2)]
  exact qX11_isWithin v (nI a) (nI b)
theorem qX11_isWithinP (v : Int32) (p : Nat) (hp : p < 1000000) : zMiE mX11_isWithin 0 [.int v, .int (nI 0), .int (nI p - nI 1)] [] (bP (∃ j, j < p ∧ v = nI j)) [] := by
  rw [← bP_c (zinP hp)]
  exact qX11_isWithin v (nI 0) (nI p - nI 1)
theorem qX12_inN (v : Int32) (a b : Nat) (hb : b < 2147483648 ∧ a ≤ b) : zMiE mX12_in 0 [.int v, .int (nI a), .int (nI b)] [] (bP (∃ j, a ≤ j ∧ j ≤ b ∧ v = nI j)) [] := by
  rw [← bP_c (zinN2 hb.1 hb.2)]
  exact qX12_in v (nI a) (nI b)
theorem qX12_inP (v : Int32) (p : Nat) (hp : p < 1000000) : zMiE mX12_in 0 [.int v, .int (nI 0), .int (nI p - nI 1)] [] (bP (∃ j, j < p ∧ v = nI j)) [] := by
  rw [← bP_c (zinP hp)]
  exact qX12_in v (nI 0) (nI p - nI 1)
