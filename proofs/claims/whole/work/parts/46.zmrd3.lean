set_option maxHeartbeats 4000000 in
set_option maxRecDepth 100000 in
theorem qX12_kindOf (c : Nat) (hc : c < 1000) : zMi mX12_kindOf 0 ([.int (nI c)]) ([]) (fun z u => z = nI (zKd c) ∧ u = []) := by
  refine zMi.of (by decide) (Nat.le_of_ble_eq_true rfl) (fun x hx hF => ?_)
  refine z_iload_n hx dX12_kindOf_0 rfl ?_
  refine z_bipush (v := nI 112) hx dX12_kindOf_1 (by decide) ?_
  first | refine z_icmp_neN (tgt := 10) hx dX12_kindOf_3 (by decide) (by omega) (by omega) (fun zc3 => ?_) (fun zc3 => ?_) | refine z_icmp_ne (tgt := 10) hx dX12_kindOf_3 (by decide) (fun zc3 => ?_) (fun zc3 => ?_)
  · skip
    refine z_iload_n hx dX12_kindOf_10 rfl ?_
    refine z_bipush (v := nI 99) hx dX12_kindOf_11 (by decide) ?_
    first | refine z_icmp_neN (tgt := 20) hx dX12_kindOf_13 (by decide) (by omega) (by omega) (fun zc13 => ?_) (fun zc13 => ?_) | refine z_icmp_ne (tgt := 20) hx dX12_kindOf_13 (by decide) (fun zc13 => ?_) (fun zc13 => ?_)
    · skip
      refine z_iload_n hx dX12_kindOf_20 rfl ?_
      refine z_bipush (v := nI 100) hx dX12_kindOf_21 (by decide) ?_
      first | refine z_icmp_neN (tgt := 30) hx dX12_kindOf_23 (by decide) (by omega) (by omega) (fun zc23 => ?_) (fun zc23 => ?_) | refine z_icmp_ne (tgt := 30) hx dX12_kindOf_23 (by decide) (fun zc23 => ?_) (fun zc23 => ?_)
      · skip
        refine z_iload_n hx dX12_kindOf_30 rfl ?_
        refine z_bipush (v := nI 107) hx dX12_kindOf_31 (by decide) ?_
        first | refine z_icmp_neN (tgt := 40) hx dX12_kindOf_33 (by decide) (by omega) (by omega) (fun zc33 => ?_) (fun zc33 => ?_) | refine z_icmp_ne (tgt := 40) hx dX12_kindOf_33 (by decide) (fun zc33 => ?_) (fun zc33 => ?_)
        · skip
          refine z_iload_n hx dX12_kindOf_40 rfl ?_
          refine z_bipush (v := nI 115) hx dX12_kindOf_41 (by decide) ?_
          first | refine z_icmp_neN (tgt := 50) hx dX12_kindOf_43 (by decide) (by omega) (by omega) (fun zc43 => ?_) (fun zc43 => ?_) | refine z_icmp_ne (tgt := 50) hx dX12_kindOf_43 (by decide) (fun zc43 => ?_) (fun zc43 => ?_)
          · skip
            refine z_iconst (v := nI 0) hx dX12_kindOf_50 (by decide) ?_
            exact z_iret hx hF dX12_kindOf_51 rfl rfl ⟨by unfold zKd; first | rw [if_pos zc3] | rw [if_neg zc3, if_pos zc13] | rw [if_neg zc3, if_neg zc13, if_pos zc23] | rw [if_neg zc3, if_neg zc13, if_neg zc23, if_pos zc33] | rw [if_neg zc3, if_neg zc13, if_neg zc23, if_neg zc33, if_pos zc43] | rw [if_neg zc3, if_neg zc13, if_neg zc23, if_neg zc33, if_neg zc43], rfl⟩
          · skip
            refine z_iconst (v := nI 5) hx dX12_kindOf_46 (by decide) ?_
            refine z_goto (tgt := 51) hx dX12_kindOf_47 (by decide) ?_
            exact z_iret hx hF dX12_kindOf_51 rfl rfl ⟨by unfold zKd; first | rw [if_pos zc3] | rw [if_neg zc3, if_pos zc13] | rw [if_neg zc3, if_neg zc13, if_pos zc23] | rw [if_neg zc3, if_neg zc13, if_neg zc23, if_pos zc33] | rw [if_neg zc3, if_neg zc13, if_neg zc23, if_neg zc33, if_pos zc43] | rw [if_neg zc3, if_neg zc13, if_neg zc23, if_neg zc33, if_neg zc43], rfl⟩
        · skip
          refine z_iconst (v := nI 4) hx dX12_kindOf_36 (by decide) ?_
          refine z_goto (tgt := 51) hx dX12_kindOf_37 (by decide) ?_
          exact z_iret hx hF dX12_kindOf_51 rfl rfl ⟨by unfold zKd; first | rw [if_pos zc3] | rw [if_neg zc3, if_pos zc13] | rw [if_neg zc3, if_neg zc13, if_pos zc23] | rw [if_neg zc3, if_neg zc13, if_neg zc23, if_pos zc33] | rw [if_neg zc3, if_neg zc13, if_neg zc23, if_neg zc33, if_pos zc43] | rw [if_neg zc3, if_neg zc13, if_neg zc23, if_neg zc33, if_neg zc43], rfl⟩
      · skip
        refine z_iconst (v := nI 3) hx dX12_kindOf_26 (by decide) ?_
        refine z_goto (tgt := 51) hx dX12_kindOf_27 (by decide) ?_
        exact z_iret hx hF dX12_kindOf_51 rfl rfl ⟨by unfold zKd; first | rw [if_pos zc3] | rw [if_neg zc3, if_pos zc13] | rw [if_neg zc3, if_neg zc13, if_pos zc23] | rw [if_neg zc3, if_neg zc13, if_neg zc23, if_pos zc33] | rw [if_neg zc3, if_neg zc13, if_neg zc23, if_neg zc33, if_pos zc43] | rw [if_neg zc3, if_neg zc13, if_neg zc23, if_neg zc33, if_neg zc43], rfl⟩
    · skip
      refine z_iconst (v := nI 2) hx dX12_kindOf_16 (by decide) ?_
      refine z_goto (tgt := 51) hx dX12_kindOf_17 (by decide) ?_
      exact z_iret hx hF dX12_kindOf_51 rfl rfl ⟨by unfold zKd; first | rw [if_pos zc3] | rw [if_neg zc3, if_pos zc13] | rw [if_neg zc3, if_neg zc13, if_pos zc23] | rw [if_neg zc3, if_neg zc13, if_neg zc23, if_pos zc33] | rw [if_neg zc3, if_neg zc13, if_neg zc23, if_neg zc33, if_pos zc43] | rw [if_neg zc3, if_neg zc13, if_neg zc23, if_neg zc33, if_neg zc43], rfl⟩
  · skip
    refine z_iconst (v := nI 1) hx dX12_kindOf_6 (by decide) ?_
    refine z_goto (tgt := 51) hx dX12_kindOf_7 (by decide) ?_
    exact z_iret hx hF dX12_kindOf_51 rfl rfl ⟨by unfold zKd; first | rw [if_pos zc3] | rw [if_neg zc3, if_pos zc13] | rw [if_neg zc3, if_neg zc13, if_pos zc23] | rw [if_neg zc3, if_neg zc13, if_neg zc23, if_pos zc33] | rw [if_neg zc3, if_neg zc13, if_neg zc23, if_neg zc33, if_pos zc43] | rw [if_neg zc3, if_neg zc13, if_neg zc23, if_neg zc33, if_neg zc43], rfl⟩

def lsS (L : zL) (v : Nat) : zL := ((v, lB L, lP L, lM L), lK L, lA L, lF L, lW L, lT L)
def lsP (L : zL) (v : Nat) : zL := ((lS L, lB L, v, lM L), lK L, lA L, lF L, lW L, lT L)
theorem fl_sS (L : zL) (v : Nat) : zup (fl L) 0 v = fl (lsS L v) := by
  funext j
  unfold zup fl
  by_cases h : j = 0
  · subst h; rfl
  · rw [if_neg h, if_neg h, if_neg h]; rfl
theorem fl_sP (L : zL) (v : Nat) : zup (fl L) 3 v = fl (lsP L v) := by
  funext j
  unfold zup fl
  by_cases h : j = 3
  · subst h; rfl
  · rw [if_neg h]
    by_cases h0 : j = 0
    · subst h0; rfl
    · by_cases h1 : j = 1
      · subst h1; rfl
      · by_cases h2 : j = 2
        · subst h2; rfl
        · rw [if_neg h0, if_neg h0, if_neg h1, if_neg h1, if_neg h2, if_neg h2, if_neg h, if_neg h]; rfl
theorem zAdd_m {D : zL} (h : lT D = fun _ => 0) (k a f w : Nat) : lsP (lsW (lsF (lsA (lsK D (lP D) k) (lP D) a) (lP D) f) (lP D) w) (lP D + 1) = zAdd D k a f w := by
  unfold zAdd
  rw [show zup (lT D) (lP D) 0 = lT D by rw [h]; funext j; unfold zup; split <;> rfl]
  rfl
theorem zVI_o {ls : Nat → Nat} {sz p : Nat} (h1 : p < sz) (h2 : ¬ zDg ls sz p) : zVI ls sz p = nI (ls p) := (zAV_o h1 h2).2
theorem zKd_l {c : Nat} (h : 0 < zKd c) : 97 ≤ c ∧ c ≤ 122 := by
  unfold zKd at h
  by_cases h1 : c = 112
  · omega
  · rw [if_neg h1] at h
    by_cases h2 : c = 99
    · omega
    · rw [if_neg h2] at h
      by_cases h3 : c = 100
      · omega
      · rw [if_neg h3] at h
        by_cases h4 : c = 107
        · omega
        · rw [if_neg h4] at h
          by_cases h5 : c = 115
          · omega
          · rw [if_neg h5] at h; omega
/-- the line's draft behind one of the people -/
theorem zPp_st {ls : Nat → Nat} {sz p : Nat} {D : zL} (hm : zMor ls sz (p, 0)) (h6 : lP D < 6) : zTks ls sz (lP D < 6) 3 (p, 0) = (p + 1, 0) := by
  have hk := zKd_l hm.2.2
  have hk : 97 ≤ ls p ∧ ls p ≤ 122 := hk
  rw [zTks_t h6, (zAV_o hm.2.1 (fun q => by have := q.2.2; have q2 : ls p ≤ 57 := this; omega)).1]
theorem zbt9 {c : Prop} {b : Int32} (h : b = bP c) : b = bP c := h
def zQ6 (ls : Nat → Nat) (sz S : Nat) (st : zSt) : zSt := zP6 ls sz S st
theorem zTks_le {ls : Nat → Nat} {sz : Nat} {c : Prop} {k : Nat} {st : zSt} (h : st.1 ≤ sz) : (zTks ls sz c k st).1 ≤ sz := by
  by_cases h0 : st.2 = 0
  · obtain ⟨p, rfl⟩ := zst_ok h0
    by_cases hc : c
    · rw [zTks_t hc]; exact zAd_le h
    · rw [zTks_n hc]; exact h
  · rw [zTks_f h0]; exact h
theorem zTokK {ls : Nat → Nat} {sz p : Nat} (hm : zMor ls sz (p, 0)) : zVI ls sz p = nI (ls p) := by
  have hk : 97 ≤ ls p ∧ ls p ≤ 122 := zKd_l hm.2.2
  exact zVI_o hm.2.1 (fun q => by have q2 : ls p ≤ 57 := q.2.2; omega)
set_option maxHeartbeats 4000000 in
set_option maxHeartbeats 4000000 in
set_option maxRecDepth 100000 in
theorem qX12_readsPerson (r : zMR) (ls : Nat → Nat) (sz fk : Nat) (p : Nat) (L : zL) (D : zL) (tr : Nat → Nat) (y : zMY) (a : zMA) (hsz : sz ≤ 100) (hls : ∀ j, ls j ≤ 255) (hp : p ≤ sz) (hmo : zMor ls sz (p, 0)) (hS : 2 ≤ lS D ∧ lS D ≤ 8) (hP : lP D ≤ 6) (hT : lT D = fun _ => 0) (s9 : zSt) (hs9 : s9 = zTks ls sz (lP D < 6) 3 (p, 0)) (q9 : Nat) (hq9 : q9 = if lP D < 6 then lP D else 0) : zMv mX12_readsPerson 5 ([.ref 0]) (hMs r ls sz fk ((p, 0)) L (fl (D)) tr y a) (fun u => ((zP6 ls sz (lS D) s9).2 = 0 → u = hMs r ls sz fk (zP6 ls sz (lS D) s9) L (fl (lsP (lsW (lsF (lsA (lsK D q9 (zKd (ls p))) q9 (zFgv ls sz 0 (lS D - 1) s9)) q9 (zFgv ls sz 0 20 (zP2 ls sz (lS D) s9))) q9 (zFgv ls sz 0 (lS D - 1) (zP4 ls sz (lS D) s9))) (lP D + 1))) tr y a) ∧ (¬ (zP6 ls sz (lS D) s9).2 = 0 → u = hMs r ls sz fk (zP6 ls sz (lS D) s9) L (fl (D)) tr y a)) := by
  refine zMv.of (by decide) (Nat.le_of_ble_eq_true rfl) (fun x hx hF => ?_)
  have hl9 := hls p
  have hk9 := zKd_le (ls p)
  have l9 : s9.1 ≤ sz := by rw [hs9]; exact zTks_le hp
  have hq6 : q9 < 6 := by rw [hq9]; split <;> omega
  have l1 := (zFgs_le (ls := ls) (lo := 0) (hi := lS D - 1) l9).1
  have l2 := (zSgn_le (ls := ls) (s := 44) l1).1
  have l3 := (zFgs_le (ls := ls) (lo := 0) (hi := 20) l2).1
  have l4 := (zSgn_le (ls := ls) (s := 44) l3).1
  have l5 := (zFgs_le (ls := ls) (lo := 0) (hi := lS D - 1) l4).1
  have l6 := (zSgn_le (ls := ls) (s := 59) l5).1
  have loop108 : ∀ (b9 : Int32), b9 = bP (zTok ls sz (zP5 ls sz (lS D) s9).1 = 4) →  zV x 108 [some (.ref 0), some (.int (nI (zKd (ls p)))), some (.int (nI (4 + 5 * q9))), some (.int (nI (zFgv ls sz 0 (lS D - 1) s9))), some (.int (nI (zFgv ls sz 0 20 (zP2 ls sz (lS D) s9)))), some (.int (nI (zFgv ls sz 0 (lS D - 1) (zP4 ls sz (lS D) s9))))] ([.int b9, .ref 0]) (hMs r ls sz fk (zP5 ls sz (lS D) s9) L (fl (D)) tr y a) := by
    intro b9 hb9
    subst hb9
    refine z_iconst (v := nI 1) hx dX12_readsPerson_108 (by decide) ?_
    refine z_callivF hx (qX12_takes r ls sz fk (zP5 ls sz (lS D) s9) L (fl D) tr y a hsz hls l5 (zTok ls sz (zP5 ls sz (lS D) s9).1 = 4) 1 (by decide)) dX12_readsPerson_109 sX12_111 rfl rfl rfl rfl (Nat.le_of_ble_eq_true rfl) rfl (Nat.le_of_ble_eq_true rfl) (by decide) ?_
    rw [zsg_s]
    refine z_heap (show _ = hMs r ls sz fk (zP6 ls sz (lS D) s9) L (fl (D)) tr y a from rfl) ?_
    refine z_pop hx dX12_readsPerson_112 rfl ?_
    refine z_aload_n hx dX12_readsPerson_113 rfl ?_
    refine z_callivF hx (qX12_isWell r ls sz fk (zP6 ls sz (lS D) s9) L (fl D) tr y a hsz hls l6) dX12_readsPerson_114 sX12_101 rfl rfl rfl rfl (Nat.le_of_ble_eq_true rfl) rfl (Nat.le_of_ble_eq_true rfl) (by decide) ?_
    refine z_if_eqB (tgt := 166) hx dX12_readsPerson_117 (by decide) (fun zc117 => ?_) (fun zc117 => ?_)
    · skip
      exact z_vret hx hF dX12_readsPerson_166 rfl rfl ⟨fun h => by first | rfl | exact absurd h zc117, fun h => by first | rfl | exact absurd zc117 h⟩
    · skip
      refine z_aload_n hx dX12_readsPerson_120 rfl ?_
      refine z_get hx dX12_readsPerson_121 fX12_28 rfl rfl ?_
      refine z_iload_n hx dX12_readsPerson_124 rfl ?_
      refine z_iload_n hx dX12_readsPerson_125 rfl ?_
      first | refine z_iastN hx dX12_readsPerson_126 rfl (by decide) (by omega) ?_ | refine z_iastJ hx dX12_readsPerson_126 rfl (by decide) (by omega) ?_
      refine z_heap (show _ = hMs r ls sz fk (zP6 ls sz (lS D) s9) L (fl (lsK D q9 (zKd (ls p)))) tr y a by unfold hMs hMt; rw [← fl_sK]; rfl) ?_
      refine z_aload_n hx dX12_readsPerson_127 rfl ?_
      refine z_get hx dX12_readsPerson_128 fX12_28 rfl rfl ?_
      refine z_iload_n hx dX12_readsPerson_131 rfl ?_
      refine z_iconst (v := nI 1) hx dX12_readsPerson_132 (by decide) ?_
      first | refine z_iaddN hx dX12_readsPerson_133 ?_ | refine z_iadd hx dX12_readsPerson_133 ?_
      refine z_iload_n hx dX12_readsPerson_134 rfl ?_
      first | refine z_iastN hx dX12_readsPerson_135 rfl (by decide) (by omega) ?_ | refine z_iastJ hx dX12_readsPerson_135 rfl (by decide) (by omega) ?_
      refine z_heap (show _ = hMs r ls sz fk (zP6 ls sz (lS D) s9) L (fl (lsA (lsK D q9 (zKd (ls p))) q9 (zFgv ls sz 0 (lS D - 1) s9))) tr y a by unfold hMs hMt; rw [← fl_sA]; rfl) ?_
      refine z_aload_n hx dX12_readsPerson_136 rfl ?_
      refine z_get hx dX12_readsPerson_137 fX12_28 rfl rfl ?_
      refine z_iload_n hx dX12_readsPerson_140 rfl ?_
      refine z_iconst (v := nI 2) hx dX12_readsPerson_141 (by decide) ?_
      first | refine z_iaddN hx dX12_readsPerson_142 ?_ | refine z_iadd hx dX12_readsPerson_142 ?_
      refine z_iload hx dX12_readsPerson_143 rfl ?_
      first | refine z_iastN hx dX12_readsPerson_145 rfl (by decide) (by omega) ?_ | refine z_iastJ hx dX12_readsPerson_145 rfl (by decide) (by omega) ?_
      refine z_heap (show _ = hMs r ls sz fk (zP6 ls sz (lS D) s9) L (fl (lsF (lsA (lsK D q9 (zKd (ls p))) q9 (zFgv ls sz 0 (lS D - 1) s9)) q9 (zFgv ls sz 0 20 (zP2 ls sz (lS D) s9)))) tr y a by unfold hMs hMt; rw [← fl_sF]; rfl) ?_
      refine z_aload_n hx dX12_readsPerson_146 rfl ?_
      refine z_get hx dX12_readsPerson_147 fX12_28 rfl rfl ?_
      refine z_iload_n hx dX12_readsPerson_150 rfl ?_
      refine z_iconst (v := nI 3) hx dX12_readsPerson_151 (by decide) ?_
      first | refine z_iaddN hx dX12_readsPerson_152 ?_ | refine z_iadd hx dX12_readsPerson_152 ?_
      refine z_iload hx dX12_readsPerson_153 rfl ?_
      first | refine z_iastN hx dX12_readsPerson_155 rfl (by decide) (by omega) ?_ | refine z_iastJ hx dX12_readsPerson_155 rfl (by decide) (by omega) ?_
      refine z_heap (show _ = hMs r ls sz fk (zP6 ls sz (lS D) s9) L (fl (lsW (lsF (lsA (lsK D q9 (zKd (ls p))) q9 (zFgv ls sz 0 (lS D - 1) s9)) q9 (zFgv ls sz 0 20 (zP2 ls sz (lS D) s9))) q9 (zFgv ls sz 0 (lS D - 1) (zP4 ls sz (lS D) s9)))) tr y a by unfold hMs hMt; rw [← fl_sW]; rfl) ?_
      refine z_aload_n hx dX12_readsPerson_156 rfl ?_
      refine z_get hx dX12_readsPerson_157 fX12_28 rfl rfl ?_
      refine z_iconst (v := nI 3) hx dX12_readsPerson_160 (by decide) ?_
      refine z_dup2 hx dX12_readsPerson_161 rfl rfl ?_
      refine z_ialdJ hx dX12_readsPerson_162 rfl (by decide) (by omega) ?_
      refine z_topN (b := lP D) rfl ?_
      refine z_iconst (v := nI 1) hx dX12_readsPerson_163 (by decide) ?_
      first | refine z_iaddN hx dX12_readsPerson_164 ?_ | refine z_iadd hx dX12_readsPerson_164 ?_
      refine z_iastN hx dX12_readsPerson_165 rfl (by decide) (by omega) ?_
      refine z_heap (show _ = hMs r ls sz fk (zP6 ls sz (lS D) s9) L (fl (lsP (lsW (lsF (lsA (lsK D q9 (zKd (ls p))) q9 (zFgv ls sz 0 (lS D - 1) s9)) q9 (zFgv ls sz 0 20 (zP2 ls sz (lS D) s9))) q9 (zFgv ls sz 0 (lS D - 1) (zP4 ls sz (lS D) s9))) (lP D + 1))) tr y a by unfold hMs hMt; rw [← fl_sP]; rfl) ?_
      exact z_vret hx hF dX12_readsPerson_166 rfl rfl ⟨fun h => by first | rfl | exact absurd h zc117, fun h => by first | rfl | exact absurd zc117 h⟩
  have loop25 : ∀ (b9 : Int32), b9 = bP (lP D < 6) →  zV x 25 [some (.ref 0), some (.int (nI (zKd (ls p)))), none, none, none, none] ([.int b9, .ref 0]) (hMs r ls sz fk ((p, 0)) L (fl (D)) tr y a) := by
    intro b9 hb9
    subst hb9
    refine z_iconst (v := nI 3) hx dX12_readsPerson_25 (by decide) ?_
    refine z_callivF hx (qX12_takes r ls sz fk (p, 0) L (fl D) tr y a hsz hls hp (lP D < 6) 3 (by decide)) dX12_readsPerson_26 sX12_111 rfl rfl rfl rfl (Nat.le_of_ble_eq_true rfl) rfl (Nat.le_of_ble_eq_true rfl) (by decide) ?_
    rw [← hs9]
    refine z_pop hx dX12_readsPerson_29 rfl ?_
    refine z_iconst (v := nI 4) hx dX12_readsPerson_30 (by decide) ?_
    refine z_iconst (v := nI 5) hx dX12_readsPerson_31 (by decide) ?_
    refine z_aload_n hx dX12_readsPerson_32 rfl ?_
    refine z_get hx dX12_readsPerson_33 fX12_28 rfl rfl ?_
    refine z_iconst (v := nI 3) hx dX12_readsPerson_36 (by decide) ?_
    refine z_ialdJ hx dX12_readsPerson_37 rfl (by decide) (by omega) ?_
    first | refine z_topN (fl_A D _) ?_ | refine z_topN (fl_F D _) ?_ | refine z_topN (fl_W D _) ?_ | refine z_topN (fl_T D _) ?_ | refine z_topN (fl_K D _) ?_ | refine z_topN (fl_0 D) ?_ | refine z_topN (fl_1 D) ?_ | refine z_topN (fl_2 D) ?_ | refine z_topN (fl_3 D) ?_
    refine z_bipush (v := nI 6) hx dX12_readsPerson_38 (by decide) ?_
    refine z_icmp_geN (tgt := 52) hx dX12_readsPerson_40 (by decide) (by omega) (by omega) (fun zc40 => ?_) (fun zc40 => ?_)
    · skip
      refine z_iconst (v := nI 0) hx dX12_readsPerson_52 (by decide) ?_
      first | refine z_topN (b := q9) (by rw [hq9, if_pos zc40]) ?_ | refine z_topN (b := q9) (by rw [hq9, if_neg (by omega)]) ?_
      first | refine z_imulN hx dX12_readsPerson_53 ?_ | refine z_imul hx dX12_readsPerson_53 ?_
      first | refine z_iaddN hx dX12_readsPerson_54 ?_ | refine z_iadd hx dX12_readsPerson_54 ?_
      refine z_istore_n hx dX12_readsPerson_55 (Nat.le_of_ble_eq_true rfl) rfl ?_
      refine z_aload_n hx dX12_readsPerson_56 rfl ?_
      refine z_iconst (v := nI 0) hx dX12_readsPerson_57 (by decide) ?_
      refine z_aload_n hx dX12_readsPerson_58 rfl ?_
      refine z_get hx dX12_readsPerson_59 fX12_28 rfl rfl ?_
      refine z_iconst (v := nI 0) hx dX12_readsPerson_62 (by decide) ?_
      refine z_ialdJ hx dX12_readsPerson_63 rfl (by decide) (by omega) ?_
      first | refine z_topN (fl_A D _) ?_ | refine z_topN (fl_F D _) ?_ | refine z_topN (fl_W D _) ?_ | refine z_topN (fl_T D _) ?_ | refine z_topN (fl_K D _) ?_ | refine z_topN (fl_0 D) ?_ | refine z_topN (fl_1 D) ?_ | refine z_topN (fl_2 D) ?_ | refine z_topN (fl_3 D) ?_
      refine z_iconst (v := nI 1) hx dX12_readsPerson_64 (by decide) ?_
      first | refine z_isubN hx dX12_readsPerson_65 (by omega) ?_ | refine z_isub hx dX12_readsPerson_65 ?_
      refine z_callivF hx (qX12_figure r ls sz fk s9 L (fl D) tr y a hsz hls l9 0 (lS D - 1) (by omega) (by omega)) dX12_readsPerson_66 sX12_115 rfl rfl rfl rfl (Nat.le_of_ble_eq_true rfl) rfl (Nat.le_of_ble_eq_true rfl) (by decide) ?_
      refine z_heap (show _ = hMs r ls sz fk (zP1 ls sz (lS D) s9) L (fl (D)) tr y a from rfl) ?_
      refine z_istore_n hx dX12_readsPerson_69 (Nat.le_of_ble_eq_true rfl) rfl ?_
      refine z_aload_n hx dX12_readsPerson_70 rfl ?_
      refine z_iconst (v := nI 0) hx dX12_readsPerson_71 (by decide) ?_
      refine z_bipush (v := nI 20) hx dX12_readsPerson_72 (by decide) ?_
      refine z_callivF hx (qX12_next r ls sz fk (zP1 ls sz (lS D) s9) L (fl D) tr y a hsz hls l1 0 20 (by omega) (by omega)) dX12_readsPerson_74 sX12_121 rfl rfl rfl rfl (Nat.le_of_ble_eq_true rfl) rfl (Nat.le_of_ble_eq_true rfl) (by decide) ?_
      refine z_heap (show _ = hMs r ls sz fk (zP3 ls sz (lS D) s9) L (fl (D)) tr y a from rfl) ?_
      refine z_istore hx dX12_readsPerson_77 (Nat.le_of_ble_eq_true rfl) rfl ?_
      refine z_aload_n hx dX12_readsPerson_79 rfl ?_
      refine z_iconst (v := nI 0) hx dX12_readsPerson_80 (by decide) ?_
      refine z_aload_n hx dX12_readsPerson_81 rfl ?_
      refine z_get hx dX12_readsPerson_82 fX12_28 rfl rfl ?_
      refine z_iconst (v := nI 0) hx dX12_readsPerson_85 (by decide) ?_
      refine z_ialdJ hx dX12_readsPerson_86 rfl (by decide) (by omega) ?_
      first | refine z_topN (fl_A D _) ?_ | refine z_topN (fl_F D _) ?_ | refine z_topN (fl_W D _) ?_ | refine z_topN (fl_T D _) ?_ | refine z_topN (fl_K D _) ?_ | refine z_topN (fl_0 D) ?_ | refine z_topN (fl_1 D) ?_ | refine z_topN (fl_2 D) ?_ | refine z_topN (fl_3 D) ?_
      refine z_iconst (v := nI 1) hx dX12_readsPerson_87 (by decide) ?_
      first | refine z_isubN hx dX12_readsPerson_88 (by omega) ?_ | refine z_isub hx dX12_readsPerson_88 ?_
      refine z_callivF hx (qX12_next r ls sz fk (zP3 ls sz (lS D) s9) L (fl D) tr y a hsz hls l3 0 (lS D - 1) (by omega) (by omega)) dX12_readsPerson_89 sX12_121 rfl rfl rfl rfl (Nat.le_of_ble_eq_true rfl) rfl (Nat.le_of_ble_eq_true rfl) (by decide) ?_
      refine z_heap (show _ = hMs r ls sz fk (zP5 ls sz (lS D) s9) L (fl (D)) tr y a from rfl) ?_
      have htl := zTok_le ls sz (zP5 ls sz (lS D) s9).1
      refine z_istore hx dX12_readsPerson_92 (Nat.le_of_ble_eq_true rfl) rfl ?_
      refine z_aload_n hx dX12_readsPerson_94 rfl ?_
      refine z_aload_n hx dX12_readsPerson_95 rfl ?_
      refine z_get hx dX12_readsPerson_96 fX12_95 rfl rfl ?_
      refine z_iconst (v := nI 4) hx dX12_readsPerson_99 (by decide) ?_
      refine z_icmp_neN (tgt := 107) hx dX12_readsPerson_100 (by decide) (by omega) (by omega) (fun zc100 => ?_) (fun zc100 => ?_)
      · skip
        refine z_iconst (v := nI 0) hx dX12_readsPerson_107 (by decide) ?_
        first | exact loop108 _ (bP_t zc100).symm | exact loop108 _ (bP_f zc100).symm
      · skip
        refine z_iconst (v := nI 1) hx dX12_readsPerson_103 (by decide) ?_
        refine z_goto (tgt := 108) hx dX12_readsPerson_104 (by decide) ?_
        first | exact loop108 _ (bP_t zc100).symm | exact loop108 _ (bP_f zc100).symm
    · skip
      refine z_aload_n hx dX12_readsPerson_43 rfl ?_
      refine z_get hx dX12_readsPerson_44 fX12_28 rfl rfl ?_
      refine z_iconst (v := nI 3) hx dX12_readsPerson_47 (by decide) ?_
      refine z_ialdJ hx dX12_readsPerson_48 rfl (by decide) (by omega) ?_
      first | refine z_topN (fl_A D _) ?_ | refine z_topN (fl_F D _) ?_ | refine z_topN (fl_W D _) ?_ | refine z_topN (fl_T D _) ?_ | refine z_topN (fl_K D _) ?_ | refine z_topN (fl_0 D) ?_ | refine z_topN (fl_1 D) ?_ | refine z_topN (fl_2 D) ?_ | refine z_topN (fl_3 D) ?_
      refine z_goto (tgt := 53) hx dX12_readsPerson_49 (by decide) ?_
      first | refine z_topN (b := q9) (by rw [hq9, if_pos zc40]) ?_ | refine z_topN (b := q9) (by rw [hq9, if_neg (by omega)]) ?_
      first | refine z_imulN hx dX12_readsPerson_53 ?_ | refine z_imul hx dX12_readsPerson_53 ?_
      first | refine z_iaddN hx dX12_readsPerson_54 ?_ | refine z_iadd hx dX12_readsPerson_54 ?_
      refine z_istore_n hx dX12_readsPerson_55 (Nat.le_of_ble_eq_true rfl) rfl ?_
      refine z_aload_n hx dX12_readsPerson_56 rfl ?_
      refine z_iconst (v := nI 0) hx dX12_readsPerson_57 (by decide) ?_
      refine z_aload_n hx dX12_readsPerson_58 rfl ?_
      refine z_get hx dX12_readsPerson_59 fX12_28 rfl rfl ?_
      refine z_iconst (v := nI 0) hx dX12_readsPerson_62 (by decide) ?_
      refine z_ialdJ hx dX12_readsPerson_63 rfl (by decide) (by omega) ?_
      first | refine z_topN (fl_A D _) ?_ | refine z_topN (fl_F D _) ?_ | refine z_topN (fl_W D _) ?_ | refine z_topN (fl_T D _) ?_ | refine z_topN (fl_K D _) ?_ | refine z_topN (fl_0 D) ?_ | refine z_topN (fl_1 D) ?_ | refine z_topN (fl_2 D) ?_ | refine z_topN (fl_3 D) ?_
      refine z_iconst (v := nI 1) hx dX12_readsPerson_64 (by decide) ?_
      first | refine z_isubN hx dX12_readsPerson_65 (by omega) ?_ | refine z_isub hx dX12_readsPerson_65 ?_
      refine z_callivF hx (qX12_figure r ls sz fk s9 L (fl D) tr y a hsz hls l9 0 (lS D - 1) (by omega) (by omega)) dX12_readsPerson_66 sX12_115 rfl rfl rfl rfl (Nat.le_of_ble_eq_true rfl) rfl (Nat.le_of_ble_eq_true rfl) (by decide) ?_
      refine z_heap (show _ = hMs r ls sz fk (zP1 ls sz (lS D) s9) L (fl (D)) tr y a from rfl) ?_
      refine z_istore_n hx dX12_readsPerson_69 (Nat.le_of_ble_eq_true rfl) rfl ?_
      refine z_aload_n hx dX12_readsPerson_70 rfl ?_
      refine z_iconst (v := nI 0) hx dX12_readsPerson_71 (by decide) ?_
      refine z_bipush (v := nI 20) hx dX12_readsPerson_72 (by decide) ?_
      refine z_callivF hx (qX12_next r ls sz fk (zP1 ls sz (lS D) s9) L (fl D) tr y a hsz hls l1 0 20 (by omega) (by omega)) dX12_readsPerson_74 sX12_121 rfl rfl rfl rfl (Nat.le_of_ble_eq_true rfl) rfl (Nat.le_of_ble_eq_true rfl) (by decide) ?_
      refine z_heap (show _ = hMs r ls sz fk (zP3 ls sz (lS D) s9) L (fl (D)) tr y a from rfl) ?_
      refine z_istore hx dX12_readsPerson_77 (Nat.le_of_ble_eq_true rfl) rfl ?_
      refine z_aload_n hx dX12_readsPerson_79 rfl ?_
      refine z_iconst (v := nI 0) hx dX12_readsPerson_80 (by decide) ?_
      refine z_aload_n hx dX12_readsPerson_81 rfl ?_
      refine z_get hx dX12_readsPerson_82 fX12_28 rfl rfl ?_
      refine z_iconst (v := nI 0) hx dX12_readsPerson_85 (by decide) ?_
      refine z_ialdJ hx dX12_readsPerson_86 rfl (by decide) (by omega) ?_
      first | refine z_topN (fl_A D _) ?_ | refine z_topN (fl_F D _) ?_ | refine z_topN (fl_W D _) ?_ | refine z_topN (fl_T D _) ?_ | refine z_topN (fl_K D _) ?_ | refine z_topN (fl_0 D) ?_ | refine z_topN (fl_1 D) ?_ | refine z_topN (fl_2 D) ?_ | refine z_topN (fl_3 D) ?_
      refine z_iconst (v := nI 1) hx dX12_readsPerson_87 (by decide) ?_
      first | refine z_isubN hx dX12_readsPerson_88 (by omega) ?_ | refine z_isub hx dX12_readsPerson_88 ?_
      refine z_callivF hx (qX12_next r ls sz fk (zP3 ls sz (lS D) s9) L (fl D) tr y a hsz hls l3 0 (lS D - 1) (by omega) (by omega)) dX12_readsPerson_89 sX12_121 rfl rfl rfl rfl (Nat.le_of_ble_eq_true rfl) rfl (Nat.le_of_ble_eq_true rfl) (by decide) ?_
      refine z_heap (show _ = hMs r ls sz fk (zP5 ls sz (lS D) s9) L (fl (D)) tr y a from rfl) ?_
      have htl := zTok_le ls sz (zP5 ls sz (lS D) s9).1
      refine z_istore hx dX12_readsPerson_92 (Nat.le_of_ble_eq_true rfl) rfl ?_
      refine z_aload_n hx dX12_readsPerson_94 rfl ?_
      refine z_aload_n hx dX12_readsPerson_95 rfl ?_
      refine z_get hx dX12_readsPerson_96 fX12_95 rfl rfl ?_
      refine z_iconst (v := nI 4) hx dX12_readsPerson_99 (by decide) ?_
      refine z_icmp_neN (tgt := 107) hx dX12_readsPerson_100 (by decide) (by omega) (by omega) (fun zc100 => ?_) (fun zc100 => ?_)
      · skip
        refine z_iconst (v := nI 0) hx dX12_readsPerson_107 (by decide) ?_
        first | exact loop108 _ (bP_t zc100).symm | exact loop108 _ (bP_f zc100).symm
      · skip
        refine z_iconst (v := nI 1) hx dX12_readsPerson_103 (by decide) ?_
        refine z_goto (tgt := 108) hx dX12_readsPerson_104 (by decide) ?_
        first | exact loop108 _ (bP_t zc100).symm | exact loop108 _ (bP_f zc100).symm
  refine z_aload_n hx dX12_readsPerson_0 rfl ?_
  refine z_get hx dX12_readsPerson_1 fX12_92 rfl rfl ?_
  refine z_top (zTokK hmo) ?_
  refine z_callisP hx [] (qX12_kindOf (ls p) (by omega)) dX12_readsPerson_4 sX12_118 rfl rfl rfl (by decide) (by decide) rfl (Nat.le_of_ble_eq_true rfl) (by decide) ?_
  refine z_istore_n hx dX12_readsPerson_7 (Nat.le_of_ble_eq_true rfl) rfl ?_
  refine z_aload_n hx dX12_readsPerson_8 rfl ?_
  refine z_aload_n hx dX12_readsPerson_9 rfl ?_
  refine z_get hx dX12_readsPerson_10 fX12_28 rfl rfl ?_
  refine z_iconst (v := nI 3) hx dX12_readsPerson_13 (by decide) ?_
  refine z_ialdJ hx dX12_readsPerson_14 rfl (by decide) (by omega) ?_
  first | refine z_topN (fl_A D _) ?_ | refine z_topN (fl_F D _) ?_ | refine z_topN (fl_W D _) ?_ | refine z_topN (fl_T D _) ?_ | refine z_topN (fl_K D _) ?_ | refine z_topN (fl_0 D) ?_ | refine z_topN (fl_1 D) ?_ | refine z_topN (fl_2 D) ?_ | refine z_topN (fl_3 D) ?_
  refine z_bipush (v := nI 6) hx dX12_readsPerson_15 (by decide) ?_
  refine z_icmp_geN (tgt := 24) hx dX12_readsPerson_17 (by decide) (by omega) (by omega) (fun zc17 => ?_) (fun zc17 => ?_)
  · skip
    refine z_iconst (v := nI 0) hx dX12_readsPerson_24 (by decide) ?_
    first | exact loop25 _ (bP_t (by omega)).symm | exact loop25 _ (bP_f (by omega)).symm
  · skip
    refine z_iconst (v := nI 1) hx dX12_readsPerson_20 (by decide) ?_
    refine z_goto (tgt := 25) hx dX12_readsPerson_21 (by decide) ?_
    first | exact loop25 _ (bP_t (by omega)).symm | exact loop25 _ (bP_f (by omega)).symm

