theorem zL1_d (ls : Nat → Nat) (sz : Nat) : zL1 ls sz = zSgn ls sz 116 (0, 0) := rfl
theorem zL2_d {ls : Nat → Nat} {sz p : Nat} (h : zL1 ls sz = (p, 0)) : zL2 ls sz = zFgs ls sz 2 8 (p, 0) ∧ zLS ls sz = zFgv ls sz 2 8 (p, 0) := by unfold zL2 zLS; rw [h]; exact ⟨rfl, rfl⟩
theorem zL3_d {ls : Nat → Nat} {sz p : Nat} (h : zL2 ls sz = (p, 0)) : zL3 ls sz = zSgn ls sz 44 (p, 0) := by unfold zL3; rw [h]
theorem zL4_d {ls : Nat → Nat} {sz p : Nat} (h : zL3 ls sz = (p, 0)) : zL4 ls sz = zFgs ls sz 0 40 (p, 0) ∧ zLB ls sz = zFgv ls sz 0 40 (p, 0) := by unfold zL4 zLB; rw [h]; exact ⟨rfl, rfl⟩
theorem zL5_d {ls : Nat → Nat} {sz p : Nat} (h : zL4 ls sz = (p, 0)) : zL5 ls sz = zSgn ls sz 59 (p, 0) := by unfold zL5; rw [h]
theorem zL5_4 {ls : Nat → Nat} {sz : Nat} (h : ¬ (zL4 ls sz).2 = 0) : zL5 ls sz = zL4 ls sz := zSgn_f h
theorem zL5_3 {ls : Nat → Nat} {sz : Nat} (h : ¬ (zL3 ls sz).2 = 0) : zL5 ls sz = zL3 ls sz := by have e : zL4 ls sz = zL3 ls sz := zFgs_f h; rw [zL5_4 (by rw [e]; exact h), e]
theorem zL5_2 {ls : Nat → Nat} {sz : Nat} (h : ¬ (zL2 ls sz).2 = 0) : zL5 ls sz = zL2 ls sz := by have e : zL3 ls sz = zL2 ls sz := zSgn_f h; rw [zL5_3 (by rw [e]; exact h), e]
theorem zL5_1 {ls : Nat → Nat} {sz : Nat} (h : ¬ (zL1 ls sz).2 = 0) : zL5 ls sz = zL1 ls sz := by have e : zL2 ls sz = zL1 ls sz := zFgs_f h; rw [zL5_2 (by rw [e]; exact h), e]
section ZPD
variable {ls : Nat → Nat} {sz S : Nat} {st : zSt}
theorem zP2_d {p : Nat} (h : zP1 ls sz S st = (p, 0)) : zP2 ls sz S st = zSgn ls sz 44 (p, 0) := by unfold zP2; rw [h]
theorem zP3_d {p : Nat} (h : zP2 ls sz S st = (p, 0)) : zP3 ls sz S st = zFgs ls sz 0 20 (p, 0) := by unfold zP3; rw [h]
theorem zP4_d {p : Nat} (h : zP3 ls sz S st = (p, 0)) : zP4 ls sz S st = zSgn ls sz 44 (p, 0) := by unfold zP4; rw [h]
theorem zP5_d {p : Nat} (h : zP4 ls sz S st = (p, 0)) : zP5 ls sz S st = zFgs ls sz 0 (S - 1) (p, 0) := by unfold zP5; rw [h]
theorem zP6_d {p : Nat} (h : zP5 ls sz S st = (p, 0)) : zP6 ls sz S st = zSgn ls sz 59 (p, 0) := by unfold zP6; rw [h]
theorem zP6_5 (h : ¬ (zP5 ls sz S st).2 = 0) : zP6 ls sz S st = zP5 ls sz S st := zSgn_f h
theorem zP6_4 (h : ¬ (zP4 ls sz S st).2 = 0) : zP6 ls sz S st = zP4 ls sz S st := by have e : zP5 ls sz S st = zP4 ls sz S st := zFgs_f h; rw [zP6_5 (by rw [e]; exact h), e]
theorem zP6_3 (h : ¬ (zP3 ls sz S st).2 = 0) : zP6 ls sz S st = zP3 ls sz S st := by have e : zP4 ls sz S st = zP3 ls sz S st := zSgn_f h; rw [zP6_4 (by rw [e]; exact h), e]
theorem zP6_2 (h : ¬ (zP2 ls sz S st).2 = 0) : zP6 ls sz S st = zP2 ls sz S st := by have e : zP3 ls sz S st = zP2 ls sz S st := zFgs_f h; rw [zP6_3 (by rw [e]; exact h), e]
theorem zP6_1 (h : ¬ (zP1 ls sz S st).2 = 0) : zP6 ls sz S st = zP1 ls sz S st := by have e : zP2 ls sz S st = zP1 ls sz S st := zSgn_f h; rw [zP6_2 (by rw [e]; exact h), e]
end ZPD
set_option maxHeartbeats 4000000 in
set_option maxRecDepth 100000 in
theorem qX9_readLaw (sz fa fp : Nat) (ls : Nat → Nat) (nm : Nat) (L : zL) (cr ho : Nat → Nat) (hsz : sz ≤ 100) (hls : ∀ j, ls j ≤ 255) : zMi mX9_readLaw 2 ([.ref 0, .ref 2]) (hTL sz fa fp ls (0) (nm) (L) cr ho) (fun z u => ((zL5 ls sz).2 = 0 → z = nI 1 ∧ ∃ nm9, u = hTL sz fa fp ls ((zL5 ls sz).1) (nm9) (((zLS ls sz, zLB ls sz, 0, 0), lK L, lA L, lF L, lW L, lT L)) cr ho) ∧ (¬ (zL5 ls sz).2 = 0 → z = nI 0 ∧ ∃ nm9, u = hTy sz fa fp ls nm9 (zL5 ls sz) L cr ho)) := by
  refine zMi.of (by decide) (Nat.le_of_ble_eq_true rfl) (fun x hx hF => ?_)
  refine z_aload_n hx dX9_readLaw_0 rfl ?_
  refine z_bipush (v := nI 116) hx dX9_readLaw_1 (by decide) ?_
  refine z_callivE hx [0, 1] (qX9_takeSign sz fa fp ls 0 nm hsz hls (by omega) 116 (by decide)) dX9_readLaw_3 sX9_29 rfl rfl sub_Tt rfl rfl (by decide) (by decide) rfl (Nat.le_of_ble_eq_true rfl) (by decide) ?_
  refine z_heap pt_Tz ?_
  refine z_if_eqB (tgt := 28) hx dX9_readLaw_6 (by decide) (fun zc6 => ?_) (fun zc6 => ?_)
  · skip
    refine z_iconst (v := nI 0) hx dX9_readLaw_28 (by decide) ?_
    first
    | exact z_zret hx hF dX9_readLaw_29 rfl rfl rfl (by have z9 : ¬ (zL1 ls sz).2 = 0 := (by rw [zL1_d ls sz]; exact zc6); have e9 : zL5 ls sz = zL1 ls sz := zL5_1 z9; exact ⟨fun h => absurd (by rw [← e9]; exact h) z9, fun _ => ⟨rfl, _, by rw [e9, zL1_d ls sz]⟩⟩)
    | exact z_zret hx hF dX9_readLaw_29 rfl rfl rfl (by have z9 : ¬ (zL2 ls sz).2 = 0 := (by rw [(zL2_d h1).1]; exact zc16); have e9 : zL5 ls sz = zL2 ls sz := zL5_2 z9; exact ⟨fun h => absurd (by rw [← e9]; exact h) z9, fun _ => ⟨rfl, _, by rw [e9, (zL2_d h1).1]⟩⟩)
    | exact z_zret hx hF dX9_readLaw_29 rfl rfl rfl (by have z9 : ¬ (zL3 ls sz).2 = 0 := (by rw [zL3_d h2]; exact zc25); have e9 : zL5 ls sz = zL3 ls sz := zL5_3 z9; exact ⟨fun h => absurd (by rw [← e9]; exact h) z9, fun _ => ⟨rfl, _, by rw [e9, zL3_d h2]⟩⟩)
  · skip
    obtain ⟨p1, g1⟩ := zst_ok zc6
    have h1 := (zL1_d ls sz).trans g1
    have l1 : p1 ≤ sz := by have := zSgn_le (ls := ls) (sz := sz) (s := 116) (st := (0, 0)) (by show 0 ≤ sz; omega); rw [g1] at this; exact this.1
    rw [g1]
    refine z_heap hTy_t ?_
    refine z_aload_n hx dX9_readLaw_9 rfl ?_
    refine z_iconst (v := nI 2) hx dX9_readLaw_10 (by decide) ?_
    refine z_bipush (v := nI 8) hx dX9_readLaw_11 (by decide) ?_
    refine z_calliv hx [0, 1] (qX9_takeNumber sz fa fp ls p1 nm hsz hls (by omega) 2 8 (by omega) (by omega)) dX9_readLaw_13 sX9_33 rfl rfl sub_Tt rfl rfl (by decide) (by decide) rfl (Nat.le_of_ble_eq_true rfl) (by decide) (fun r13 u13 l13 q13 => ?_)
    obtain ⟨rfl, nm2, hnm2, rfl⟩ := q13
    refine z_heap pt_Tz ?_
    refine z_if_eqB (tgt := 28) hx dX9_readLaw_16 (by decide) (fun zc16 => ?_) (fun zc16 => ?_)
    · skip
      refine z_iconst (v := nI 0) hx dX9_readLaw_28 (by decide) ?_
      first
      | exact z_zret hx hF dX9_readLaw_29 rfl rfl rfl (by have z9 : ¬ (zL1 ls sz).2 = 0 := (by rw [zL1_d ls sz]; exact zc6); have e9 : zL5 ls sz = zL1 ls sz := zL5_1 z9; exact ⟨fun h => absurd (by rw [← e9]; exact h) z9, fun _ => ⟨rfl, _, by rw [e9, zL1_d ls sz]⟩⟩)
      | exact z_zret hx hF dX9_readLaw_29 rfl rfl rfl (by have z9 : ¬ (zL2 ls sz).2 = 0 := (by rw [(zL2_d h1).1]; exact zc16); have e9 : zL5 ls sz = zL2 ls sz := zL5_2 z9; exact ⟨fun h => absurd (by rw [← e9]; exact h) z9, fun _ => ⟨rfl, _, by rw [e9, (zL2_d h1).1]⟩⟩)
      | exact z_zret hx hF dX9_readLaw_29 rfl rfl rfl (by have z9 : ¬ (zL3 ls sz).2 = 0 := (by rw [zL3_d h2]; exact zc25); have e9 : zL5 ls sz = zL3 ls sz := zL5_3 z9; exact ⟨fun h => absurd (by rw [← e9]; exact h) z9, fun _ => ⟨rfl, _, by rw [e9, zL3_d h2]⟩⟩)
    · skip
      have v2 := hnm2 zc16
      obtain ⟨p2, g2⟩ := zst_ok zc16
      have h2 := (zL2_d h1).1.trans g2
      have l2 : p2 ≤ sz := by have := zFgs_le (ls := ls) (sz := sz) (lo := 2) (hi := 8) (st := (p1, 0)) (by show p1 ≤ sz; omega); rw [g2] at this; exact this.1
      rw [g2]
      refine z_heap hTy_t ?_
      refine z_aload_n hx dX9_readLaw_19 rfl ?_
      refine z_bipush (v := nI 44) hx dX9_readLaw_20 (by decide) ?_
      refine z_callivE hx [0, 1] (qX9_takeSign sz fa fp ls p2 nm2 hsz hls (by omega) 44 (by decide)) dX9_readLaw_22 sX9_29 rfl rfl sub_Tt rfl rfl (by decide) (by decide) rfl (Nat.le_of_ble_eq_true rfl) (by decide) ?_
      refine z_heap pt_Tz ?_
      refine z_if_neB (tgt := 30) hx dX9_readLaw_25 (by decide) (fun zc25 => ?_) (fun zc25 => ?_)
      · skip
        obtain ⟨p3, g3⟩ := zst_ok zc25
        have h3 := (zL3_d h2).trans g3
        have l3 : p3 ≤ sz := by have := zSgn_le (ls := ls) (sz := sz) (s := 44) (st := (p2, 0)) (by show p2 ≤ sz; omega); rw [g3] at this; exact this.1
        rw [g3]
        refine z_heap hTy_t ?_
        refine z_aload_n hx dX9_readLaw_30 rfl ?_
        refine z_get hx dX9_readLaw_31 fX9_37 rfl rfl ?_
        refine z_topN (b := zLS ls sz) (by rw [v2, (zL2_d h1).2]) ?_
        refine z_istore_n hx dX9_readLaw_34 (Nat.le_of_ble_eq_true rfl) rfl ?_
        refine z_aload_n hx dX9_readLaw_35 rfl ?_
        refine z_iconst (v := nI 0) hx dX9_readLaw_36 (by decide) ?_
        refine z_bipush (v := nI 40) hx dX9_readLaw_37 (by decide) ?_
        refine z_calliv hx [0, 1] (qX9_takeNumber sz fa fp ls p3 nm2 hsz hls (by omega) 0 40 (by omega) (by omega)) dX9_readLaw_39 sX9_33 rfl rfl sub_Tt rfl rfl (by decide) (by decide) rfl (Nat.le_of_ble_eq_true rfl) (by decide) (fun r39 u39 l39 q39 => ?_)
        obtain ⟨rfl, nm4, hnm4, rfl⟩ := q39
        refine z_heap pt_Tz ?_
        refine z_if_eqB (tgt := 54) hx dX9_readLaw_42 (by decide) (fun zc42 => ?_) (fun zc42 => ?_)
        · skip
          refine z_iconst (v := nI 0) hx dX9_readLaw_54 (by decide) ?_
          first
          | exact z_zret hx hF dX9_readLaw_55 rfl rfl rfl (by have z9 : ¬ (zL4 ls sz).2 = 0 := (by rw [(zL4_d h3).1]; exact zc42); have e9 : zL5 ls sz = zL4 ls sz := zL5_4 z9; exact ⟨fun h => absurd (by rw [← e9]; exact h) z9, fun _ => ⟨rfl, _, by rw [e9, (zL4_d h3).1]⟩⟩)
          | exact z_zret hx hF dX9_readLaw_55 rfl rfl rfl (by have z9 : ¬ (zL5 ls sz).2 = 0 := (by rw [zL5_d h4]; exact zc51); exact ⟨fun h => absurd h z9, fun _ => ⟨rfl, _, by rw [zL5_d h4]⟩⟩)
        · skip
          have v4 := hnm4 zc42
          obtain ⟨p4, g4⟩ := zst_ok zc42
          have h4 := (zL4_d h3).1.trans g4
          have l4 : p4 ≤ sz := by have := zFgs_le (ls := ls) (sz := sz) (lo := 0) (hi := 40) (st := (p3, 0)) (by show p3 ≤ sz; omega); rw [g4] at this; exact this.1
          rw [g4]
          refine z_heap hTy_t ?_
          refine z_aload_n hx dX9_readLaw_45 rfl ?_
          refine z_bipush (v := nI 59) hx dX9_readLaw_46 (by decide) ?_
          refine z_callivE hx [0, 1] (qX9_takeSign sz fa fp ls p4 nm4 hsz hls (by omega) 59 (by decide)) dX9_readLaw_48 sX9_29 rfl rfl sub_Tt rfl rfl (by decide) (by decide) rfl (Nat.le_of_ble_eq_true rfl) (by decide) ?_
          refine z_heap pt_Tz ?_
          refine z_if_neB (tgt := 56) hx dX9_readLaw_51 (by decide) (fun zc51 => ?_) (fun zc51 => ?_)
          · skip
            obtain ⟨p5, g5⟩ := zst_ok zc51
            have h5 := (zL5_d h4).trans g5
            have l5 : p5 ≤ sz := by have := zSgn_le (ls := ls) (sz := sz) (s := 59) (st := (p4, 0)) (by show p4 ≤ sz; omega); rw [g5] at this; exact this.1
            rw [g5]
            refine z_heap hTy_t ?_
            refine z_aload_n hx dX9_readLaw_56 rfl ?_
            refine z_iload_n hx dX9_readLaw_57 rfl ?_
            refine z_aload_n hx dX9_readLaw_58 rfl ?_
            refine z_get hx dX9_readLaw_59 fX9_37 rfl rfl ?_
            refine z_topN (b := zLB ls sz) (by rw [v4, (zL4_d h3).2]) ?_
            refine z_callvvE hx gTd (qX4_begin L cr ho (zLS ls sz) (zLB ls sz)) dX9_readLaw_62 sX9_40 rfl rfl sub_Td rfl rfl (by decide) (by decide) rfl (Nat.le_of_ble_eq_true rfl) (by decide) ?_
            refine z_heap pt_Td ?_
            refine z_iconst (v := nI 1) hx dX9_readLaw_65 (by decide) ?_
            exact z_zret hx hF dX9_readLaw_66 rfl (by first | exact bP_nar _ | rfl) rfl (by have z9 : (zL5 ls sz).2 = 0 := (by rw [h5]); exact ⟨fun _ => ⟨rfl, _, by rw [h5]⟩, fun h => absurd z9 h⟩)
          · skip
            refine z_iconst (v := nI 0) hx dX9_readLaw_54 (by decide) ?_
            first
            | exact z_zret hx hF dX9_readLaw_55 rfl rfl rfl (by have z9 : ¬ (zL4 ls sz).2 = 0 := (by rw [(zL4_d h3).1]; exact zc42); have e9 : zL5 ls sz = zL4 ls sz := zL5_4 z9; exact ⟨fun h => absurd (by rw [← e9]; exact h) z9, fun _ => ⟨rfl, _, by rw [e9, (zL4_d h3).1]⟩⟩)
            | exact z_zret hx hF dX9_readLaw_55 rfl rfl rfl (by have z9 : ¬ (zL5 ls sz).2 = 0 := (by rw [zL5_d h4]; exact zc51); exact ⟨fun h => absurd h z9, fun _ => ⟨rfl, _, by rw [zL5_d h4]⟩⟩)
      · skip
        refine z_iconst (v := nI 0) hx dX9_readLaw_28 (by decide) ?_
        first
        | exact z_zret hx hF dX9_readLaw_29 rfl rfl rfl (by have z9 : ¬ (zL1 ls sz).2 = 0 := (by rw [zL1_d ls sz]; exact zc6); have e9 : zL5 ls sz = zL1 ls sz := zL5_1 z9; exact ⟨fun h => absurd (by rw [← e9]; exact h) z9, fun _ => ⟨rfl, _, by rw [e9, zL1_d ls sz]⟩⟩)
        | exact z_zret hx hF dX9_readLaw_29 rfl rfl rfl (by have z9 : ¬ (zL2 ls sz).2 = 0 := (by rw [(zL2_d h1).1]; exact zc16); have e9 : zL5 ls sz = zL2 ls sz := zL5_2 z9; exact ⟨fun h => absurd (by rw [← e9]; exact h) z9, fun _ => ⟨rfl, _, by rw [e9, (zL2_d h1).1]⟩⟩)
        | exact z_zret hx hF dX9_readLaw_29 rfl rfl rfl (by have z9 : ¬ (zL3 ls sz).2 = 0 := (by rw [zL3_d h2]; exact zc25); have e9 : zL5 ls sz = zL3 ls sz := zL5_3 z9; exact ⟨fun h => absurd (by rw [← e9]; exact h) z9, fun _ => ⟨rfl, _, by rw [e9, zL3_d h2]⟩⟩)

set_option maxHeartbeats 4000000 in
set_option maxRecDepth 100000 in
theorem qX9_readPerson (sz fa fp : Nat) (ls : Nat → Nat) (p nm : Nat) (L : zL) (cr ho : Nat → Nat) (hsz : sz ≤ 100) (hls : ∀ j, ls j ≤ 255) (hp : p ≤ sz) (hS : 2 ≤ lS L ∧ lS L ≤ 8) (hP : lP L < 6) (k : Nat) : zMi mX9_readPerson 2 ([.ref 0, .ref 2, .int (nI k)]) (hTL sz fa fp ls (p) (nm) (L) cr ho) (fun z u => ((zP6 ls sz (lS L) (p, 0)).2 = 0 → z = nI 1 ∧ ∃ nm9, u = hTL sz fa fp ls ((zP6 ls sz (lS L) (p, 0)).1) (nm9) (zPA ls sz L k (p, 0)) cr ho) ∧ (¬ (zP6 ls sz (lS L) (p, 0)).2 = 0 → z = nI 0 ∧ ∃ nm9, u = hTy sz fa fp ls nm9 (zP6 ls sz (lS L) (p, 0)) L cr ho)) := by
  refine zMi.of (by decide) (Nat.le_of_ble_eq_true rfl) (fun x hx hF => ?_)
  refine z_aload_n hx dX9_readPerson_0 rfl ?_
  refine z_get hx dX9_readPerson_1 fX9_62 rfl rfl ?_
  refine z_iconst (v := nI 1) hx dX9_readPerson_4 (by decide) ?_
  first | refine z_isubN hx dX9_readPerson_5 (by omega) ?_ | refine z_isub hx dX9_readPerson_5 ?_
  refine z_istore_n hx dX9_readPerson_6 (Nat.le_of_ble_eq_true rfl) rfl ?_
  refine z_aload_n hx dX9_readPerson_7 rfl ?_
  refine z_iconst (v := nI 0) hx dX9_readPerson_8 (by decide) ?_
  refine z_iload_n hx dX9_readPerson_9 rfl ?_
  refine z_calliv hx [0, 1] (qX9_takeNumber sz fa fp ls p nm hsz hls (by omega) 0 (lS L - 1) (by omega) (by omega)) dX9_readPerson_10 sX9_33 rfl rfl sub_Tt rfl rfl (by decide) (by decide) rfl (Nat.le_of_ble_eq_true rfl) (by decide) (fun r10 u10 l10 q10 => ?_)
  obtain ⟨rfl, nm1, hnm1, rfl⟩ := q10
  refine z_heap pt_Tz ?_
  refine z_if_eqB (tgt := 25) hx dX9_readPerson_13 (by decide) (fun zc13 => ?_) (fun zc13 => ?_)
  · skip
    refine z_iconst (v := nI 0) hx dX9_readPerson_25 (by decide) ?_
    first
    | exact z_zret hx hF dX9_readPerson_26 rfl rfl rfl (by have z9 : ¬ (zP1 ls sz (lS L) (p, 0)).2 = 0 := (by rw [show zP1 ls sz (lS L) (p, 0) = zFgs ls sz 0 (lS L - 1) (p, 0) from rfl]; exact zc13); have e9 : zP6 ls sz (lS L) (p, 0) = zP1 ls sz (lS L) (p, 0) := zP6_1 z9; exact ⟨fun h => absurd (by rw [← e9]; exact h) z9, fun _ => ⟨rfl, _, by rw [e9, show zP1 ls sz (lS L) (p, 0) = zFgs ls sz 0 (lS L - 1) (p, 0) from rfl]⟩⟩)
    | exact z_zret hx hF dX9_readPerson_26 rfl rfl rfl (by have z9 : ¬ (zP2 ls sz (lS L) (p, 0)).2 = 0 := (by rw [zP2_d h1]; exact zc22); have e9 : zP6 ls sz (lS L) (p, 0) = zP2 ls sz (lS L) (p, 0) := zP6_2 z9; exact ⟨fun h => absurd (by rw [← e9]; exact h) z9, fun _ => ⟨rfl, _, by rw [e9, zP2_d h1]⟩⟩)
  · skip
    have v1 := hnm1 zc13
    obtain ⟨p1, g1⟩ := zst_ok zc13
    have h1 := (show zP1 ls sz (lS L) (p, 0) = zFgs ls sz 0 (lS L - 1) (p, 0) from rfl).trans g1
    have l1 : p1 ≤ sz := by have := zFgs_le (ls := ls) (sz := sz) (lo := 0) (hi := (lS L - 1)) (st := (p, 0)) (by show p ≤ sz; omega); rw [g1] at this; exact this.1
    rw [g1]
    refine z_heap hTy_t ?_
    refine z_aload_n hx dX9_readPerson_16 rfl ?_
    refine z_bipush (v := nI 44) hx dX9_readPerson_17 (by decide) ?_
    refine z_callivE hx [0, 1] (qX9_takeSign sz fa fp ls p1 nm1 hsz hls (by omega) 44 (by decide)) dX9_readPerson_19 sX9_29 rfl rfl sub_Tt rfl rfl (by decide) (by decide) rfl (Nat.le_of_ble_eq_true rfl) (by decide) ?_
    refine z_heap pt_Tz ?_
    refine z_if_neB (tgt := 27) hx dX9_readPerson_22 (by decide) (fun zc22 => ?_) (fun zc22 => ?_)
    · skip
      obtain ⟨p2, g2⟩ := zst_ok zc22
      have h2 := (zP2_d h1).trans g2
      have l2 : p2 ≤ sz := by have := zSgn_le (ls := ls) (sz := sz) (s := 44) (st := (p1, 0)) (by show p1 ≤ sz; omega); rw [g2] at this; exact this.1
      rw [g2]
      refine z_heap hTy_t ?_
      refine z_aload_n hx dX9_readPerson_27 rfl ?_
      refine z_get hx dX9_readPerson_28 fX9_37 rfl rfl ?_
      refine z_topN v1 ?_
      refine z_istore hx dX9_readPerson_31 (Nat.le_of_ble_eq_true rfl) rfl ?_
      refine z_aload_n hx dX9_readPerson_33 rfl ?_
      refine z_iconst (v := nI 0) hx dX9_readPerson_34 (by decide) ?_
      refine z_bipush (v := nI 20) hx dX9_readPerson_35 (by decide) ?_
      refine z_calliv hx [0, 1] (qX9_takeNumber sz fa fp ls p2 nm1 hsz hls (by omega) 0 20 (by omega) (by omega)) dX9_readPerson_37 sX9_33 rfl rfl sub_Tt rfl rfl (by decide) (by decide) rfl (Nat.le_of_ble_eq_true rfl) (by decide) (fun r37 u37 l37 q37 => ?_)
      obtain ⟨rfl, nm3, hnm3, rfl⟩ := q37
      refine z_heap pt_Tz ?_
      refine z_if_eqB (tgt := 52) hx dX9_readPerson_40 (by decide) (fun zc40 => ?_) (fun zc40 => ?_)
      · skip
        refine z_iconst (v := nI 0) hx dX9_readPerson_52 (by decide) ?_
        first
        | exact z_zret hx hF dX9_readPerson_53 rfl rfl rfl (by have z9 : ¬ (zP3 ls sz (lS L) (p, 0)).2 = 0 := (by rw [zP3_d h2]; exact zc40); have e9 : zP6 ls sz (lS L) (p, 0) = zP3 ls sz (lS L) (p, 0) := zP6_3 z9; exact ⟨fun h => absurd (by rw [← e9]; exact h) z9, fun _ => ⟨rfl, _, by rw [e9, zP3_d h2]⟩⟩)
        | exact z_zret hx hF dX9_readPerson_53 rfl rfl rfl (by have z9 : ¬ (zP4 ls sz (lS L) (p, 0)).2 = 0 := (by rw [zP4_d h3]; exact zc49); have e9 : zP6 ls sz (lS L) (p, 0) = zP4 ls sz (lS L) (p, 0) := zP6_4 z9; exact ⟨fun h => absurd (by rw [← e9]; exact h) z9, fun _ => ⟨rfl, _, by rw [e9, zP4_d h3]⟩⟩)
      · skip
        have v3 := hnm3 zc40
        obtain ⟨p3, g3⟩ := zst_ok zc40
        have h3 := (zP3_d h2).trans g3
        have l3 : p3 ≤ sz := by have := zFgs_le (ls := ls) (sz := sz) (lo := 0) (hi := 20) (st := (p2, 0)) (by show p2 ≤ sz; omega); rw [g3] at this; exact this.1
        rw [g3]
        refine z_heap hTy_t ?_
        refine z_aload_n hx dX9_readPerson_43 rfl ?_
        refine z_bipush (v := nI 44) hx dX9_readPerson_44 (by decide) ?_
        refine z_callivE hx [0, 1] (qX9_takeSign sz fa fp ls p3 nm3 hsz hls (by omega) 44 (by decide)) dX9_readPerson_46 sX9_29 rfl rfl sub_Tt rfl rfl (by decide) (by decide) rfl (Nat.le_of_ble_eq_true rfl) (by decide) ?_
        refine z_heap pt_Tz ?_
        refine z_if_neB (tgt := 54) hx dX9_readPerson_49 (by decide) (fun zc49 => ?_) (fun zc49 => ?_)
        · skip
          obtain ⟨p4, g4⟩ := zst_ok zc49
          have h4 := (zP4_d h3).trans g4
          have l4 : p4 ≤ sz := by have := zSgn_le (ls := ls) (sz := sz) (s := 44) (st := (p3, 0)) (by show p3 ≤ sz; omega); rw [g4] at this; exact this.1
          rw [g4]
          refine z_heap hTy_t ?_
          refine z_aload_n hx dX9_readPerson_54 rfl ?_
          refine z_get hx dX9_readPerson_55 fX9_37 rfl rfl ?_
          refine z_topN (b := zFgv ls sz 0 20 (zP2 ls sz (lS L) (p, 0))) (by rw [v3, h2]) ?_
          refine z_istore hx dX9_readPerson_58 (Nat.le_of_ble_eq_true rfl) rfl ?_
          refine z_aload_n hx dX9_readPerson_60 rfl ?_
          refine z_iconst (v := nI 0) hx dX9_readPerson_61 (by decide) ?_
          refine z_iload_n hx dX9_readPerson_62 rfl ?_
          refine z_calliv hx [0, 1] (qX9_takeNumber sz fa fp ls p4 nm3 hsz hls (by omega) 0 (lS L - 1) (by omega) (by omega)) dX9_readPerson_63 sX9_33 rfl rfl sub_Tt rfl rfl (by decide) (by decide) rfl (Nat.le_of_ble_eq_true rfl) (by decide) (fun r63 u63 l63 q63 => ?_)
          obtain ⟨rfl, nm5, hnm5, rfl⟩ := q63
          refine z_heap pt_Tz ?_
          refine z_if_eqB (tgt := 78) hx dX9_readPerson_66 (by decide) (fun zc66 => ?_) (fun zc66 => ?_)
          · skip
            refine z_iconst (v := nI 0) hx dX9_readPerson_78 (by decide) ?_
            first
            | exact z_zret hx hF dX9_readPerson_79 rfl rfl rfl (by have z9 : ¬ (zP5 ls sz (lS L) (p, 0)).2 = 0 := (by rw [zP5_d h4]; exact zc66); have e9 : zP6 ls sz (lS L) (p, 0) = zP5 ls sz (lS L) (p, 0) := zP6_5 z9; exact ⟨fun h => absurd (by rw [← e9]; exact h) z9, fun _ => ⟨rfl, _, by rw [e9, zP5_d h4]⟩⟩)
            | exact z_zret hx hF dX9_readPerson_79 rfl rfl rfl (by have z9 : ¬ (zP6 ls sz (lS L) (p, 0)).2 = 0 := (by rw [zP6_d h5]; exact zc75); exact ⟨fun h => absurd h z9, fun _ => ⟨rfl, _, by rw [zP6_d h5]⟩⟩)
          · skip
            have v5 := hnm5 zc66
            obtain ⟨p5, g5⟩ := zst_ok zc66
            have h5 := (zP5_d h4).trans g5
            have l5 : p5 ≤ sz := by have := zFgs_le (ls := ls) (sz := sz) (lo := 0) (hi := (lS L - 1)) (st := (p4, 0)) (by show p4 ≤ sz; omega); rw [g5] at this; exact this.1
            rw [g5]
            refine z_heap hTy_t ?_
            refine z_aload_n hx dX9_readPerson_69 rfl ?_
            refine z_bipush (v := nI 59) hx dX9_readPerson_70 (by decide) ?_
            refine z_callivE hx [0, 1] (qX9_takeSign sz fa fp ls p5 nm5 hsz hls (by omega) 59 (by decide)) dX9_readPerson_72 sX9_29 rfl rfl sub_Tt rfl rfl (by decide) (by decide) rfl (Nat.le_of_ble_eq_true rfl) (by decide) ?_
            refine z_heap pt_Tz ?_
            refine z_if_neB (tgt := 80) hx dX9_readPerson_75 (by decide) (fun zc75 => ?_) (fun zc75 => ?_)
            · skip
              obtain ⟨p6, g6⟩ := zst_ok zc75
              have h6 := (zP6_d h5).trans g6
              have l6 : p6 ≤ sz := by have := zSgn_le (ls := ls) (sz := sz) (s := 59) (st := (p5, 0)) (by show p5 ≤ sz; omega); rw [g6] at this; exact this.1
              rw [g6]
              refine z_heap hTy_t ?_
              refine z_aload_n hx dX9_readPerson_80 rfl ?_
              refine z_iload_n hx dX9_readPerson_81 rfl ?_
              refine z_iload hx dX9_readPerson_82 rfl ?_
              refine z_iload hx dX9_readPerson_84 rfl ?_
              refine z_aload_n hx dX9_readPerson_86 rfl ?_
              refine z_get hx dX9_readPerson_87 fX9_37 rfl rfl ?_
              refine z_topN (b := zFgv ls sz 0 (lS L - 1) (zP4 ls sz (lS L) (p, 0))) (by rw [v5, h4]) ?_
              refine z_callvvE hx gTd (qX4_add L cr ho hP k (zFgv ls sz 0 (lS L - 1) (p, 0)) (zFgv ls sz 0 20 (zP2 ls sz (lS L) (p, 0))) (zFgv ls sz 0 (lS L - 1) (zP4 ls sz (lS L) (p, 0)))) dX9_readPerson_90 sX9_65 rfl rfl sub_Td rfl rfl (by decide) (by decide) rfl (Nat.le_of_ble_eq_true rfl) (by decide) ?_
              refine z_heap pt_Td ?_
              refine z_iconst (v := nI 1) hx dX9_readPerson_93 (by decide) ?_
              exact z_zret hx hF dX9_readPerson_94 rfl (by first | exact bP_nar _ | rfl) rfl (by have z9 : (zP6 ls sz (lS L) (p, 0)).2 = 0 := (by rw [h6]); exact ⟨fun _ => ⟨rfl, _, by rw [h6]; rfl⟩, fun h => absurd z9 h⟩)
            · skip
              refine z_iconst (v := nI 0) hx dX9_readPerson_78 (by decide) ?_
              first
              | exact z_zret hx hF dX9_readPerson_79 rfl rfl rfl (by have z9 : ¬ (zP5 ls sz (lS L) (p, 0)).2 = 0 := (by rw [zP5_d h4]; exact zc66); have e9 : zP6 ls sz (lS L) (p, 0) = zP5 ls sz (lS L) (p, 0) := zP6_5 z9; exact ⟨fun h => absurd (by rw [← e9]; exact h) z9, fun _ => ⟨rfl, _, by rw [e9, zP5_d h4]⟩⟩)
              | exact z_zret hx hF dX9_readPerson_79 rfl rfl rfl (by have z9 : ¬ (zP6 ls sz (lS L) (p, 0)).2 = 0 := (by rw [zP6_d h5]; exact zc75); exact ⟨fun h => absurd h z9, fun _ => ⟨rfl, _, by rw [zP6_d h5]⟩⟩)
        · skip
          refine z_iconst (v := nI 0) hx dX9_readPerson_52 (by decide) ?_
          first
          | exact z_zret hx hF dX9_readPerson_53 rfl rfl rfl (by have z9 : ¬ (zP3 ls sz (lS L) (p, 0)).2 = 0 := (by rw [zP3_d h2]; exact zc40); have e9 : zP6 ls sz (lS L) (p, 0) = zP3 ls sz (lS L) (p, 0) := zP6_3 z9; exact ⟨fun h => absurd (by rw [← e9]; exact h) z9, fun _ => ⟨rfl, _, by rw [e9, zP3_d h2]⟩⟩)
          | exact z_zret hx hF dX9_readPerson_53 rfl rfl rfl (by have z9 : ¬ (zP4 ls sz (lS L) (p, 0)).2 = 0 := (by rw [zP4_d h3]; exact zc49); have e9 : zP6 ls sz (lS L) (p, 0) = zP4 ls sz (lS L) (p, 0) := zP6_4 z9; exact ⟨fun h => absurd (by rw [← e9]; exact h) z9, fun _ => ⟨rfl, _, by rw [e9, zP4_d h3]⟩⟩)
    · skip
      refine z_iconst (v := nI 0) hx dX9_readPerson_25 (by decide) ?_
      first
      | exact z_zret hx hF dX9_readPerson_26 rfl rfl rfl (by have z9 : ¬ (zP1 ls sz (lS L) (p, 0)).2 = 0 := (by rw [show zP1 ls sz (lS L) (p, 0) = zFgs ls sz 0 (lS L - 1) (p, 0) from rfl]; exact zc13); have e9 : zP6 ls sz (lS L) (p, 0) = zP1 ls sz (lS L) (p, 0) := zP6_1 z9; exact ⟨fun h => absurd (by rw [← e9]; exact h) z9, fun _ => ⟨rfl, _, by rw [e9, show zP1 ls sz (lS L) (p, 0) = zFgs ls sz 0 (lS L - 1) (p, 0) from rfl]⟩⟩)
      | exact z_zret hx hF dX9_readPerson_26 rfl rfl rfl (by have z9 : ¬ (zP2 ls sz (lS L) (p, 0)).2 = 0 := (by rw [zP2_d h1]; exact zc22); have e9 : zP6 ls sz (lS L) (p, 0) = zP2 ls sz (lS L) (p, 0) := zP6_2 z9; exact ⟨fun h => absurd (by rw [← e9]; exact h) z9, fun _ => ⟨rfl, _, by rw [e9, zP2_d h1]⟩⟩)

