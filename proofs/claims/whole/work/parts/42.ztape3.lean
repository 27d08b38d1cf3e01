theorem zP6_le {ls : Nat → Nat} {sz S : Nat} {st : zSt} (h : st.1 ≤ sz) : (zP6 ls sz S st).1 ≤ sz := (zSgn_le (zFgs_le (zSgn_le (zFgs_le (zSgn_le (zFgs_le h).1).1).1).1).1).1
theorem zL5_le (ls : Nat → Nat) (sz : Nat) : (zL5 ls sz).1 ≤ sz := (zSgn_le (zFgs_le (zSgn_le (zFgs_le (zSgn_le (Nat.zero_le sz)).1).1).1).1).1
theorem zPe_a {ls : Nat → Nat} {sz n : Nat} {L : zL} {st : zSt} (h : ¬ zMor ls sz st) : zPe ls sz n L st = (L, zEnd sz st) := by unfold zPe; rw [zPpl_f h]
theorem zPe_b {ls : Nat → Nat} {sz n : Nat} {L : zL} {st : zSt} (h : zMor ls sz st) : zPe ls sz (n + 1) L st = zPe ls sz n (zPp ls sz L st).1 (zPp ls sz L st).2 := by unfold zPe; rw [zPpl_t h]
theorem zEnd_n {sz p : Nat} (h : ¬ p < sz) : zEnd sz (p, 0) = (p, 0) := if_neg (fun q => h q.2)
theorem zEnd_y {sz p : Nat} (h : p < sz) : zEnd sz (p, 0) = (p, 1) := if_pos ⟨rfl, h⟩
theorem zEnd_f {sz : Nat} {st : zSt} (h : ¬ st.2 = 0) : zEnd sz st = st := if_neg (fun q => h q.1)
theorem zPp_3 {ls : Nat → Nat} {sz : Nat} {L : zL} {st : zSt} (h : ¬ lP L < 6) : zPp ls sz L st = (L, (st.1, 3)) := if_neg h
theorem zPp_y {ls : Nat → Nat} {sz : Nat} {L : zL} {st : zSt} (h : lP L < 6) (h2 : (zP6 ls sz (lS L) (st.1 + 1, 0)).2 = 0) : zPp ls sz L st = (zPA ls sz L (zKd (ls st.1)) (st.1 + 1, 0), zP6 ls sz (lS L) (st.1 + 1, 0)) := by unfold zPp; rw [if_pos h, if_pos h2]
theorem zPp_n {ls : Nat → Nat} {sz : Nat} {L : zL} {st : zSt} (h : lP L < 6) (h2 : ¬ (zP6 ls sz (lS L) (st.1 + 1, 0)).2 = 0) : zPp ls sz L st = (L, zP6 ls sz (lS L) (st.1 + 1, 0)) := by unfold zPp; rw [if_pos h, if_neg h2]
/-- a fault in what follows -/
theorem zPe_y {ls : Nat → Nat} {sz q p1 : Nat} {L1 : zL} (hq : q < 6) (h : zMor ls sz (p1, 0)) (h6 : lP L1 < 6) (h7 : (zP6 ls sz (lS L1) (p1 + 1, 0)).2 = 0) : zPe ls sz (7 - q) L1 (p1, 0) = zPe ls sz (7 - (q + 1)) (zPA ls sz L1 (zKd (ls p1)) (p1 + 1, 0)) (zP6 ls sz (lS L1) (p1 + 1, 0)) := by
  have e0 : 7 - q = (7 - (q + 1)) + 1 := by clear h7; omega
  have e := zPe_b (n := 7 - (q + 1)) (L := L1) h
  have e2 : zPp ls sz L1 (p1, 0) = (zPA ls sz L1 (zKd (ls p1)) (p1 + 1, 0), zP6 ls sz (lS L1) (p1 + 1, 0)) := zPp_y (st := (p1, 0)) h6 h7
  rw [e2] at e
  rw [e0]
  exact e
theorem zPe_x {ls : Nat → Nat} {sz n : Nat} {L : zL} {st : zSt} (h : ¬ st.2 = 0) : zPe ls sz n L st = (L, st) := by rw [zPe_a (fun q => h q.1), zEnd_f h]
theorem zPe_n {ls : Nat → Nat} {sz q p1 : Nat} {L1 : zL} (hq : q < 6) (h : zMor ls sz (p1, 0)) (h6 : lP L1 < 6) (h7 : ¬ (zP6 ls sz (lS L1) (p1 + 1, 0)).2 = 0) : zPe ls sz (7 - q) L1 (p1, 0) = (L1, zP6 ls sz (lS L1) (p1 + 1, 0)) := by
  have e0 : 7 - q = (7 - (q + 1)) + 1 := by clear h7; omega
  have e := zPe_b (n := 7 - (q + 1)) (L := L1) h
  have e2 : zPp ls sz L1 (p1, 0) = (L1, zP6 ls sz (lS L1) (p1 + 1, 0)) := zPp_n (st := (p1, 0)) h6 h7
  rw [e2] at e
  rw [e0]
  exact e.trans (zPe_x h7)
set_option maxHeartbeats 4000000 in
set_option maxRecDepth 100000 in
theorem qX9_readPeople (sz fa fp : Nat) (ls : Nat → Nat) (p nm : Nat) (L : zL) (cr ho : Nat → Nat) (hsz : sz ≤ 100) (hls : ∀ j, ls j ≤ 255) (hp : p ≤ sz) (hS : 2 ≤ lS L ∧ lS L ≤ 8) (hP : lP L = 0) : zMi mX9_readPeople 4 ([.ref 0, .ref 2]) (hTL sz (fa) (fp) ls (p) (nm) (L) cr ho) (fun z u => ((zPe ls sz 7 L (p, 0)).2.2 = 0 → z = nI 1 ∧ ∃ nm9, u = hTL sz (fa) (fp) ls ((zPe ls sz 7 L (p, 0)).2.1) (nm9) ((zPe ls sz 7 L (p, 0)).1) cr ho) ∧ (¬ (zPe ls sz 7 L (p, 0)).2.2 = 0 → z = nI 0 ∧ ∃ nm9 L9, u = hTL sz ((zPe ls sz 7 L (p, 0)).2.2) ((zPe ls sz 7 L (p, 0)).2.1) ls ((zPe ls sz 7 L (p, 0)).2.1) (nm9) (L9) cr ho)) := by
  refine zMi.of (by decide) (Nat.le_of_ble_eq_true rfl) (fun x hx hF => ?_)
  obtain ⟨pp, hpp⟩ : ∃ pp, pp = p := ⟨p, rfl⟩
  have loop2 : ∀ (n2 : Nat) (q p nm : Nat) (L1 : zL) (e9 : Option Value), 6 - q = n2 → q ≤ 6 → lP L1 = q → (2 ≤ lS L1 ∧ lS L1 ≤ 8) → p ≤ sz → zPe ls sz 7 L (pp, 0) = zPe ls sz (7 - q) L1 (p, 0) → zV x 2 [some (.ref 0), some (.ref 2), some (.int (nI q)), e9] ([]) (hTL sz (fa) (fp) ls (p) (nm) (L1) cr ho) := by
    intro n2
    induction n2 using Nat.strongRecOn with
    | ind n2 ih =>
      intro q p1 nm1 L1 e9 hn hq hP1 hS1 hp1 hz
      have hl9 := hls p1
      refine z_iload_n hx dX9_readPeople_2 rfl ?_
      refine z_bipush (v := nI 6) hx dX9_readPeople_3 (by decide) ?_
      first | refine z_icmp_gtN (tgt := 86) hx dX9_readPeople_5 (by decide) (by omega) (by omega) (fun zc5 => ?_) (fun zc5 => ?_) | refine z_icmp_gt (tgt := 86) hx dX9_readPeople_5 (by decide) (fun zc5 => ?_) (fun zc5 => ?_)
      · skip
        exfalso; omega
      · skip
        refine z_aload_n hx dX9_readPeople_8 rfl ?_
        refine z_get hx dX9_readPeople_9 fX9_19 rfl rfl ?_
        refine z_aload_n hx dX9_readPeople_12 rfl ?_
        refine z_get hx dX9_readPeople_13 fX9_15 rfl rfl ?_
        first | refine z_icmp_geN (tgt := 86) hx dX9_readPeople_16 (by decide) (by omega) (by omega) (fun zc16 => ?_) (fun zc16 => ?_) | refine z_icmp_ge (tgt := 86) hx dX9_readPeople_16 (by decide) (fun zc16 => ?_) (fun zc16 => ?_)
        · skip
          refine z_iconst (v := nI 1) hx dX9_readPeople_86 (by decide) ?_
          have e9 : zPe ls sz 7 L (p, 0) = (L1, (p1, 0)) := by rw [← hpp, hz, zPe_a (fun h => absurd h.2.1 (by show ¬ p1 < sz; omega)), zEnd_n (by omega)]
          exact z_zret hx hF dX9_readPeople_87 rfl rfl rfl ⟨fun h => ⟨rfl, nm1, by rw [e9]⟩, fun h => absurd (by rw [e9]) h⟩
        · skip
          refine z_ldcS hx rfl dX9_readPeople_19 ?_
          refine z_aload_n hx dX9_readPeople_21 rfl ?_
          refine z_get hx dX9_readPeople_22 fX9_9 rfl rfl ?_
          refine z_aload_n hx dX9_readPeople_25 rfl ?_
          refine z_get hx dX9_readPeople_26 fX9_19 rfl rfl ?_
          refine z_ialdJ hx dX9_readPeople_29 rfl (by decide) (by omega) ?_
          refine z_i2c hx dX9_readPeople_30 ?_
          refine z_top (zi2c _ (by omega)) ?_
          refine z_callivT hx (qJ0_indexOf_0f7a4 (ls p1) (by omega)) dX9_readPeople_31 sX9_48 rfl rfl rfl rfl (Nat.le_of_ble_eq_true rfl) (by decide) ?_
          refine z_iconst (v := nI 1) hx dX9_readPeople_34 (by decide) ?_
          refine z_iadd hx dX9_readPeople_35 ?_
          refine z_top (zIx_Kd _) ?_
          have hk9 := zKd_le (ls p1)
          refine z_istore_n hx dX9_readPeople_36 (Nat.le_of_ble_eq_true rfl) rfl ?_
          refine z_iload_n hx dX9_readPeople_37 rfl ?_
          first | refine z_if_neB (tgt := 47) hx dX9_readPeople_38 (by decide) (fun zc38 => ?_) (fun zc38 => ?_) | refine z_if_neN (tgt := 47) hx dX9_readPeople_38 (by decide) (by omega) (fun zc38 => ?_) (fun zc38 => ?_) | refine z_if_ne (tgt := 47) hx dX9_readPeople_38 (by decide) (fun zc38 => ?_) (fun zc38 => ?_)
          · skip
            refine z_iload_n hx dX9_readPeople_47 rfl ?_
            refine z_bipush (v := nI 6) hx dX9_readPeople_48 (by decide) ?_
            first | refine z_icmp_neN (tgt := 59) hx dX9_readPeople_50 (by decide) (by omega) (by omega) (fun zc50 => ?_) (fun zc50 => ?_) | refine z_icmp_ne (tgt := 59) hx dX9_readPeople_50 (by decide) (fun zc50 => ?_) (fun zc50 => ?_)
            · skip
              refine z_aload_n hx dX9_readPeople_59 rfl ?_
              refine z_dup hx dX9_readPeople_60 rfl ?_
              refine z_get hx dX9_readPeople_61 fX9_19 rfl rfl ?_
              refine z_iconst (v := nI 1) hx dX9_readPeople_64 (by decide) ?_
              first | refine z_iaddN hx dX9_readPeople_65 ?_ | refine z_iadd hx dX9_readPeople_65 ?_
              refine z_puti hx dX9_readPeople_66 pX9_19 rfl (Nat.le_of_ble_eq_true rfl) ?_
              refine z_heap (show _ = hTL sz (fa) (fp) ls (p1 + 1) (nm1) (L1) cr ho from rfl) ?_
              have hq6 : q < 6 := by omega
              have hp6 : p1 + 1 ≤ sz := by omega
              have hl6 : lP L1 < 6 := by omega
              have hmo : zMor ls sz (p1, 0) := ⟨rfl, by show p1 < sz; omega, zc38⟩
              refine z_aload_n hx dX9_readPeople_69 rfl ?_
              refine z_aload_n hx dX9_readPeople_70 rfl ?_
              refine z_iload_n hx dX9_readPeople_71 rfl ?_
              refine z_callivG hx (qX9_readPerson sz fa fp ls (p1 + 1) nm1 L1 cr ho hsz hls hp6 hS1 hl6 (zKd (ls p1))) dX9_readPeople_72 sX9_58 rfl rfl rfl rfl (Nat.le_of_ble_eq_true rfl) rfl (Nat.le_of_ble_eq_true rfl) (by decide) (fun r72 u72 l72 q72 => ?_)
              have l6 := zP6_le (ls := ls) (sz := sz) (S := lS L1) (st := (p1 + 1, 0)) hp6
              have eP : lP (zPA ls sz L1 (zKd (ls p1)) (p1 + 1, 0)) = lP L1 + 1 := rfl
              have eS : lS (zPA ls sz L1 (zKd (ls p1)) (p1 + 1, 0)) = lS L1 := rfl
              have hy6 := fun h6 => hz.trans (zPe_y hq6 hmo hl6 h6)
              have hn6 := fun h6 => hz.trans (zPe_n hq6 hmo hl6 h6)
              generalize zP6 ls sz (lS L1) (p1 + 1, 0) = s6 at q72 l6 hy6 hn6
              generalize zPA ls sz L1 (zKd (ls p1)) (p1 + 1, 0) = L6 at q72 eP eS hy6
              by_cases h6 : s6.2 = 0
              · skip
                obtain ⟨rfl, nm9, rfl⟩ := q72.1 h6
                refine z_if_neN (tgt := 80) hx dX9_readPeople_75 (by decide) (by decide) (fun zc75 => ?_) (fun zc75 => absurd zc75 (by decide))
                first | refine z_iincN (z := 1) hx dX9_readPeople_80 rfl rfl ?_ | refine z_iinc hx dX9_readPeople_80 rfl rfl rfl ?_
                refine z_goto (tgt := 2) hx dX9_readPeople_83 (by decide) ?_
                exact ih _ (by omega) (q + 1) s6.1 nm9 L6 _ rfl (by omega) (by omega) (by omega) l6 ((hy6 h6).trans (congrArg (zPe ls sz (7 - (q + 1)) L6) (zst_0 h6)))
              · skip
                obtain ⟨rfl, nm9, rfl⟩ := q72.2 h6
                refine z_if_neN (tgt := 80) hx dX9_readPeople_75 (by decide) (by decide) (fun zc75 => absurd zc75 (by decide)) (fun zc75 => ?_)
                refine z_iconst (v := nI 0) hx dX9_readPeople_78 (by decide) ?_
                have e9 : zPe ls sz 7 L (p, 0) = (L1, s6) := (by rw [← hpp]; exact hn6 h6)
                exact z_zret hx hF dX9_readPeople_79 rfl rfl rfl ⟨fun h => by rw [e9] at h; exact absurd h h6, fun _ => ⟨rfl, nm9, L1, by rw [e9, hTy_f h6]⟩⟩
            · skip
              refine z_aload_n hx dX9_readPeople_53 rfl ?_
              refine z_iconst (v := nI 3) hx dX9_readPeople_54 (by decide) ?_
              refine z_callivE hx [0, 1] (qX9_fails sz fa fp ls p1 nm1 3) dX9_readPeople_55 sX9_54 rfl rfl sub_Tt rfl rfl (by decide) (by decide) rfl (Nat.le_of_ble_eq_true rfl) (by decide) ?_
              refine z_heap pt_Tt ?_
              have e9 : zPe ls sz 7 L (p, 0) = (L1, (p1, 3)) := by rw [← hpp, hz, show 7 - q = 0 + 1 by omega, zPe_b ⟨rfl, by show p1 < sz; omega, zc38⟩, zPp_3 (by omega), zPe_x (show ¬ (3 : Nat) = 0 by decide)]
              exact z_zret hx hF dX9_readPeople_58 rfl rfl rfl ⟨fun h => by rw [e9] at h; exact absurd h (show ¬ (3 : Nat) = 0 by decide), fun _ => ⟨rfl, nm1, L1, by rw [e9]⟩⟩
          · skip
            refine z_aload_n hx dX9_readPeople_41 rfl ?_
            refine z_iconst (v := nI 1) hx dX9_readPeople_42 (by decide) ?_
            refine z_callivE hx [0, 1] (qX9_fails sz fa fp ls p1 nm1 1) dX9_readPeople_43 sX9_54 rfl rfl sub_Tt rfl rfl (by decide) (by decide) rfl (Nat.le_of_ble_eq_true rfl) (by decide) ?_
            refine z_heap pt_Tt ?_
            have e9 : zPe ls sz 7 L (p, 0) = (L1, (p1, 1)) := by rw [← hpp, hz, zPe_a (fun h => absurd h.2.2 (by show ¬ 0 < zKd (ls p1); omega)), zEnd_y (by omega)]
            exact z_zret hx hF dX9_readPeople_46 rfl rfl rfl ⟨fun h => by rw [e9] at h; exact absurd h (show ¬ (1 : Nat) = 0 by decide), fun _ => ⟨rfl, nm1, L1, by rw [e9]⟩⟩
  refine z_iconst (v := nI 0) hx dX9_readPeople_0 (by decide) ?_
  refine z_istore_n hx dX9_readPeople_1 (Nat.le_of_ble_eq_true rfl) rfl ?_
  exact loop2 _ 0 p nm L _ rfl (by omega) hP hS hp (by rw [hpp])

/-- a line read whole -/
def zLi (ls : Nat → Nat) (sz : Nat) (L : zL) : zL × zSt := if (zL5 ls sz).2 = 0 then zPe ls sz 7 ((zLS ls sz, zLB ls sz, 0, 0), lK L, lA L, lF L, lW L, lT L) (zL5 ls sz) else (L, zL5 ls sz)
theorem zLi_t {ls : Nat → Nat} {sz : Nat} {L : zL} (h : (zL5 ls sz).2 = 0) : zLi ls sz L = zPe ls sz 7 ((zLS ls sz, zLB ls sz, 0, 0), lK L, lA L, lF L, lW L, lT L) ((zL5 ls sz).1, 0) := by unfold zLi; rw [if_pos h]; exact congrArg _ (zst_0 h)
theorem zLi_f {ls : Nat → Nat} {sz : Nat} {L : zL} (h : ¬ (zL5 ls sz).2 = 0) : zLi ls sz L = (L, zL5 ls sz) := if_neg h
theorem zL4_5 {ls : Nat → Nat} {sz : Nat} (h : (zL5 ls sz).2 = 0) : ∃ p1 p3, zL1 ls sz = (p1, 0) ∧ (zFgs ls sz 2 8 (p1, 0)).2 = 0 ∧ zL3 ls sz = (p3, 0) ∧ (zFgs ls sz 0 40 (p3, 0)).2 = 0 := by
  have a4 : (zL4 ls sz).2 = 0 := Classical.byContradiction fun q => q (by rw [← zL5_4 q]; exact h)
  have a3 : (zL3 ls sz).2 = 0 := Classical.byContradiction fun q => q (by rw [← zL5_3 q]; exact h)
  have a2 : (zL2 ls sz).2 = 0 := Classical.byContradiction fun q => q (by rw [← zL5_2 q]; exact h)
  have a1 : (zL1 ls sz).2 = 0 := Classical.byContradiction fun q => q (by rw [← zL5_1 q]; exact h)
  refine ⟨(zL1 ls sz).1, (zL3 ls sz).1, zst_0 a1, ?_, zst_0 a3, ?_⟩
  · rw [← zst_0 a1]; exact a2
  · rw [← zst_0 a3]; exact a4
theorem zLS_ok {ls : Nat → Nat} {sz : Nat} (h : (zL5 ls sz).2 = 0) : 2 ≤ zLS ls sz ∧ zLS ls sz ≤ 8 ∧ zLB ls sz ≤ 40 := by
  obtain ⟨p1, p3, e1, f1, e3, f3⟩ := zL4_5 h
  have h1 := zFgv_ok f1
  have h3 := zFgv_ok f3
  unfold zLS zLB
  rw [e1, e3]
  omega
set_option maxHeartbeats 4000000 in
set_option maxRecDepth 100000 in
theorem qX9_readInto (sz fa fp : Nat) (ls : Nat → Nat) (p nm : Nat) (L : zL) (cr ho : Nat → Nat) (hsz : sz ≤ 100) (hls : ∀ j, ls j ≤ 255) : zMi mX9_readInto 5 ([.ref 0, .ref 2]) (hTL sz (fa) (fp) ls (p) (nm) (L) cr ho) (fun z u => ((zLi ls sz L).2.2 = 0 → z = nI 1 ∧ ∃ nm9, u = hTL sz (fa) (fp) ls ((zLi ls sz L).2.1) (nm9) ((zLi ls sz L).1) cr ho) ∧ (¬ (zLi ls sz L).2.2 = 0 → z = nI 0 ∧ ∃ nm9 L9, u = hTL sz ((zLi ls sz L).2.2) ((zLi ls sz L).2.1) ls ((zLi ls sz L).2.1) (nm9) (L9) cr ho)) := by
  refine zMi.of (by decide) (Nat.le_of_ble_eq_true rfl) (fun x hx hF => ?_)
  refine z_aload_n hx dX9_readInto_0 rfl ?_
  refine z_iconst (v := nI 0) hx dX9_readInto_1 (by decide) ?_
  refine z_puti hx dX9_readInto_2 pX9_19 rfl (Nat.le_of_ble_eq_true rfl) ?_
  refine z_heap (show _ = hTL sz (fa) (fp) ls (0) (nm) (L) cr ho from rfl) ?_
  refine z_aload_n hx dX9_readInto_5 rfl ?_
  refine z_aload_n hx dX9_readInto_6 rfl ?_
  refine z_callivG hx (qX9_readLaw sz fa fp ls nm L cr ho hsz hls) dX9_readInto_7 sX9_22 rfl rfl rfl rfl (Nat.le_of_ble_eq_true rfl) rfl (Nat.le_of_ble_eq_true rfl) (by decide) (fun r7 u7 l7 q7 => ?_)
  have l5 := zL5_le ls sz
  have hy5 := fun h => zLi_t (ls := ls) (sz := sz) (L := L) h
  have hn5 := fun h => zLi_f (ls := ls) (sz := sz) (L := L) h
  have hS5 := fun h => zLS_ok (ls := ls) (sz := sz) h
  generalize zL5 ls sz = s5 at q7 l5 hy5 hn5 hS5
  generalize zLS ls sz = S5 at q7 hy5 hS5
  generalize zLB ls sz = B5 at q7 hy5 hS5
  by_cases h5 : s5.2 = 0
  · skip
    obtain ⟨rfl, nm9, rfl⟩ := q7.1 h5
    have hSS := hS5 h5
    refine z_if_eqN (tgt := 25) hx dX9_readInto_10 (by decide) (by decide) (fun zc10 => absurd zc10 (by decide)) (fun zc10 => ?_)
    refine z_aload_n hx dX9_readInto_13 rfl ?_
    refine z_aload_n hx dX9_readInto_14 rfl ?_
    refine z_callivG hx (qX9_readPeople sz fa fp ls s5.1 nm9 ((S5, B5, 0, 0), lK L, lA L, lF L, lW L, lT L) cr ho hsz hls l5 ⟨hSS.1, hSS.2.1⟩ rfl) dX9_readInto_15 sX9_26 rfl rfl rfl rfl (Nat.le_of_ble_eq_true rfl) rfl (Nat.le_of_ble_eq_true rfl) (by decide) (fun r15 u15 l15 q15 => ?_)
    rw [← hy5 h5] at q15
    generalize zLi ls sz L = F5 at q15 hF
    by_cases h6 : F5.2.2 = 0
    · skip
      obtain ⟨rfl, nm8, rfl⟩ := q15.1 h6
      refine z_if_eqN (tgt := 25) hx dX9_readInto_18 (by decide) (by decide) (fun zc18 => absurd zc18 (by decide)) (fun zc18 => ?_)
      refine z_iconst (v := nI 1) hx dX9_readInto_21 (by decide) ?_
      refine z_goto (tgt := 26) hx dX9_readInto_22 (by decide) ?_
      exact z_zret hx hF dX9_readInto_26 rfl rfl rfl ⟨fun _ => ⟨rfl, nm8, rfl⟩, fun h => absurd h6 h⟩
    · skip
      obtain ⟨rfl, nm8, L8, rfl⟩ := q15.2 h6
      refine z_if_eqN (tgt := 25) hx dX9_readInto_18 (by decide) (by decide) (fun zc18 => ?_) (fun zc18 => absurd zc18 (by decide))
      refine z_iconst (v := nI 0) hx dX9_readInto_25 (by decide) ?_
      exact z_zret hx hF dX9_readInto_26 rfl rfl rfl ⟨fun h => absurd h h6, fun _ => ⟨rfl, nm8, L8, rfl⟩⟩
  · skip
    obtain ⟨rfl, nm9, rfl⟩ := q7.2 h5
    refine z_if_eqN (tgt := 25) hx dX9_readInto_10 (by decide) (by decide) (fun zc10 => ?_) (fun zc10 => absurd zc10 (by decide))
    refine z_iconst (v := nI 0) hx dX9_readInto_25 (by decide) ?_
    exact z_zret hx hF dX9_readInto_26 rfl rfl rfl ⟨fun h => by rw [hn5 h5] at h; exact absurd h h5, fun _ => ⟨rfl, nm9, L, by rw [hn5 h5, hTy_f h5]⟩⟩

