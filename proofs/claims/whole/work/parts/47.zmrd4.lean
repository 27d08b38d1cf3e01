/-! the reference reads a line -/
def zZ0 : zL := ((0, 0, 0, 0), (fun _ => 0), (fun _ => 0), (fun _ => 0), (fun _ => 0), (fun _ => 0))
theorem fl_Z (j : Nat) : fl zZ0 j = 0 := by
  unfold fl
  repeat' split
  all_goals rfl
def zD0 (S B : Nat) : zL := ((S, B, 0, 0), (fun _ => 0), (fun _ => 0), (fun _ => 0), (fun _ => 0), (fun _ => 0))
theorem zTok_t {ls : Nat → Nat} {sz p : Nat} (hls : ∀ j, ls j ≤ 255) : (zTok ls sz p = 1 ∧ zVI ls sz p = nI 116) ↔ (p < sz ∧ ls p = 116) := by
  have hl := hls p
  constructor
  · rintro ⟨h1, h2⟩
    by_cases hp : p < sz
    · by_cases hd : zDg ls sz p
      · rw [(zAV_d hd).2.2] at h1
        split at h1 <;> exact absurd h1 (by decide)
      · rw [zVI_o hp hd] at h2
        exact ⟨hp, (nI_eq (by omega) (by omega)).mp h2⟩
    · unfold zTok at h1
      rw [if_neg hp] at h1
      exact absurd h1 (by decide)
  · rintro ⟨h1, h2⟩
    have hd : ¬ zDg ls sz p := fun q => by have := q.2.2; omega
    exact ⟨zTok_1 h1 hd (by omega), by rw [zVI_o h1 hd, h2]⟩
theorem zTok_l {ls : Nat → Nat} {sz p : Nat} (h : zTok ls sz p = 1) : p < sz ∧ ¬ zDg ls sz p := by
  by_cases hp : p < sz
  · refine ⟨hp, fun hd => ?_⟩
    rw [(zAV_d hd).2.2] at h
    split at h <;> exact absurd h (by decide)
  · unfold zTok at h
    rw [if_neg hp] at h
    exact absurd h (by decide)
theorem zMor_t {ls : Nat → Nat} {sz : Nat} {st : zSt} (h : zMor ls sz st) : zTok ls sz st.1 = 1 := by
  have hk := zKd_l h.2.2
  exact zTok_1 h.2.1 (fun q => by have := q.2.2; omega) hk
theorem zTok_e {ls : Nat → Nat} {sz p : Nat} : zTok ls sz p = 0 ↔ ¬ p < sz := by
  constructor
  · intro h hp
    unfold zTok at h
    rw [if_pos hp] at h
    revert h
    repeat' split
    all_goals (intro h; exact absurd h (by decide))
  · intro h; unfold zTok; rw [if_neg h]
theorem zEnd_k {ls : Nat → Nat} {sz : Nat} {st : zSt} (h0 : st.2 = 0) (h : ¬ zTok ls sz st.1 = 0) : zTks ls sz False 1 st = zEnd sz st := by
  obtain ⟨p, rfl⟩ := zst_ok h0
  have hp : p < sz := Classical.byContradiction fun q => h (zTok_e.mpr q)
  rw [zTks_n id, zEnd_y hp]
theorem zP6_x {ls : Nat → Nat} {sz S : Nat} {st : zSt} (h : ¬ st.2 = 0) : zP6 ls sz S st = st := by
  have e : zP1 ls sz S st = st := zFgs_f h
  rw [zP6_1 (by rw [e]; exact h), e]
def zK5 (ls : Nat → Nat) (sz p : Nat) (D : zL) (s9 : zSt) (q9 : Nat) : zL := lsP (lsW (lsF (lsA (lsK D q9 (zKd (ls p))) q9 (zFgv ls sz 0 (lS D - 1) s9)) q9 (zFgv ls sz 0 20 (zP2 ls sz (lS D) s9))) q9 (zFgv ls sz 0 (lS D - 1) (zP4 ls sz (lS D) s9))) (lP D + 1)
theorem zRd {ls : Nat → Nat} {sz p : Nat} {D : zL} (hm : zMor ls sz (p, 0)) (hT : lT D = fun _ => 0) {s9 : zSt} (hs9 : s9 = zTks ls sz (lP D < 6) 3 (p, 0)) {q9 : Nat} (hq9 : q9 = if lP D < 6 then lP D else 0) :
    ((zP6 ls sz (lS D) s9).2 = 0 → zPp ls sz D (p, 0) = (zK5 ls sz p D s9 q9, zP6 ls sz (lS D) s9)) ∧ (¬ (zP6 ls sz (lS D) s9).2 = 0 → zPp ls sz D (p, 0) = (D, zP6 ls sz (lS D) s9)) := by
  by_cases h6 : lP D < 6
  · rw [zPp_st hm h6] at hs9
    rw [if_pos h6] at hq9
    subst hs9
    subst hq9
    exact ⟨fun h => by rw [zPp_y (st := (p, 0)) h6 h]; unfold zK5; rw [zAdd_m hT]; rfl, fun h => zPp_n (st := (p, 0)) h6 h⟩
  · rw [zTks_n h6] at hs9
    subst hs9
    have e : zP6 ls sz (lS D) (p, 3) = (p, 3) := zP6_x (show ¬ (3 : Nat) = 0 by decide)
    rw [e]
    exact ⟨fun h => absurd h (show ¬ (3 : Nat) = 0 by decide), fun _ => zPp_3 h6⟩
theorem zPp_inv {ls : Nat → Nat} {sz p : Nat} {D : zL} (h : (zPp ls sz D (p, 0)).2.2 = 0) : lP D < 6 ∧ (zP6 ls sz (lS D) (p + 1, 0)).2 = 0 ∧ (zPp ls sz D (p, 0)).1 = zPA ls sz D (zKd (ls p)) (p + 1, 0) := by
  by_cases h6 : lP D < 6
  · by_cases h7 : (zP6 ls sz (lS D) (p + 1, 0)).2 = 0
    · exact ⟨h6, h7, by rw [zPp_y (st := (p, 0)) h6 h7]⟩
    · rw [zPp_n (st := (p, 0)) h6 h7] at h; exact absurd h h7
  · rw [zPp_3 h6] at h; exact absurd h (show ¬ (3 : Nat) = 0 by decide)
theorem zPp_le {ls : Nat → Nat} {sz p : Nat} {D : zL} (h : p < sz) : (zPp ls sz D (p, 0)).2.1 ≤ sz := by
  by_cases h6 : lP D < 6
  · by_cases h7 : (zP6 ls sz (lS D) (p + 1, 0)).2 = 0
    · rw [zPp_y (st := (p, 0)) h6 h7]; exact zP6_le h
    · rw [zPp_n (st := (p, 0)) h6 h7]; exact zP6_le h
  · rw [zPp_3 h6]; exact Nat.le_of_lt h
/-- what holds of the draft while people are read -/
def zDi (D : zL) : Prop := lP D ≤ 6 ∧ 2 ≤ lS D ∧ lS D ≤ 8 ∧ lT D = fun _ => 0
theorem zDi_n {ls : Nat → Nat} {sz p : Nat} {D : zL} (hD : zDi D) (h : (zPp ls sz D (p, 0)).2.2 = 0) : zDi (zPp ls sz D (p, 0)).1 ∧ lP (zPp ls sz D (p, 0)).1 = lP D + 1 := by
  obtain ⟨h6, -, e⟩ := zPp_inv h
  rw [e]
  refine ⟨⟨?_, hD.2.1, hD.2.2.1, ?_⟩, rfl⟩
  · show lP D + 1 ≤ 6; omega
  · show zup (lT D) (lP D) 0 = fun _ => 0
    rw [hD.2.2.2]; funext j; unfold zup; split <;> rfl
set_option maxHeartbeats 4000000 in
set_option maxRecDepth 100000 in
theorem qX12_isWellT (r : zMR) (ls : Nat → Nat) (sz fk : Nat) (fp : Int32) (ca cs ct : Nat) (cv : Int32) (L : zL) (dr tr : Nat → Nat) (y : zMY) (a : zMA) : zMi mX12_isWell 0 ([.ref 0]) (hMt r ls sz fk fp ca cs ct cv L dr tr y a) (fun z u => z = bP (fp < 0) ∧ u = hMt r ls sz fk fp ca cs ct cv L dr tr y a) := by
  refine zMi.of (by decide) (Nat.le_of_ble_eq_true rfl) (fun x hx hF => ?_)
  refine z_aload_n hx dX12_isWell_0 rfl ?_
  refine z_get hx dX12_isWell_1 fX12_98 rfl rfl ?_
  refine z_if_ge (tgt := 11) hx dX12_isWell_4 (by decide) (fun zc4 => ?_) (fun zc4 => ?_)
  · skip
    refine z_iconst (v := nI 0) hx dX12_isWell_11 (by decide) ?_
    exact z_zret hx hF dX12_isWell_12 rfl (by first | exact bP_nar _ | rfl) rfl ⟨by first | exact (bP_f (Int32.not_lt.mpr zc4)).symm | exact (bP_t (Int32.not_le.mp zc4)).symm, rfl⟩
  · skip
    refine z_iconst (v := nI 1) hx dX12_isWell_7 (by decide) ?_
    refine z_goto (tgt := 12) hx dX12_isWell_8 (by decide) ?_
    exact z_zret hx hF dX12_isWell_12 rfl (by first | exact bP_nar _ | rfl) rfl ⟨by first | exact (bP_f (Int32.not_lt.mpr zc4)).symm | exact (bP_t (Int32.not_le.mp zc4)).symm, rfl⟩

theorem zLe1 (ls : Nat → Nat) (sz : Nat) : (zL1 ls sz).1 ≤ sz := (zSgn_le (Nat.zero_le sz)).1
theorem zLe2 (ls : Nat → Nat) (sz : Nat) : (zL2 ls sz).1 ≤ sz := (zFgs_le (zLe1 ls sz)).1
theorem zLe3 (ls : Nat → Nat) (sz : Nat) : (zL3 ls sz).1 ≤ sz := (zSgn_le (zLe2 ls sz)).1
theorem zLe4 (ls : Nat → Nat) (sz : Nat) : (zL4 ls sz).1 ≤ sz := (zFgs_le (zLe3 ls sz)).1
theorem zzero_up (dr : Nat → Nat) (k : Nat) : zup (fun j => if j < k then 0 else dr j) k 0 = fun j => if j < k + 1 then 0 else dr j := by
  funext j
  unfold zup
  show (if j = k then 0 else if j < k then 0 else dr j) = if j < k + 1 then 0 else dr j
  by_cases h : j = k
  · rw [if_pos h, if_pos (by omega)]
  · rw [if_neg h]
    by_cases h2 : j < k
    · rw [if_pos h2, if_pos (by omega)]
    · rw [if_neg h2, if_neg (by omega)]
theorem zzero_0 (dr : Nat → Nat) : dr = fun j => if j < 0 then 0 else dr j := funext fun j => (if_neg (by omega)).symm
theorem zPpl_le {ls : Nat → Nat} {sz : Nat} : ∀ n (q : zL × zSt), q.2.1 ≤ sz → (zPpl ls sz n q).2.1 ≤ sz
  | 0, q, h => h
  | n + 1, q, h => by
    by_cases hm : zMor ls sz q.2
    · obtain ⟨L, p, k⟩ := q
      have h0 : k = 0 := hm.1
      subst h0
      rw [zPpl_t hm]
      exact zPpl_le n _ (zPp_le hm.2.1)
    · obtain ⟨L, st⟩ := q
      rw [zPpl_f hm]; exact h
theorem zRd_u {r : zMR} {ls : Nat → Nat} {sz fk p : Nat} {L D : zL} {tr : Nat → Nat} {y : zMY} {a : zMA} (hm : zMor ls sz (p, 0)) (hT : lT D = fun _ => 0) (u : List zE) (h : ((zP6 ls sz (lS D) (zTks ls sz (lP D < 6) 3 (p, 0))).2 = 0 → u = hMs r ls sz fk (zP6 ls sz (lS D) (zTks ls sz (lP D < 6) 3 (p, 0))) L (fl (zK5 ls sz p D (zTks ls sz (lP D < 6) 3 (p, 0)) (if lP D < 6 then lP D else 0))) tr y a) ∧ (¬ (zP6 ls sz (lS D) (zTks ls sz (lP D < 6) 3 (p, 0))).2 = 0 → u = hMs r ls sz fk (zP6 ls sz (lS D) (zTks ls sz (lP D < 6) 3 (p, 0))) L (fl D) tr y a)) : u = hMs r ls sz fk (zPp ls sz D (p, 0)).2 L (fl (zPp ls sz D (p, 0)).1) tr y a := by
  obtain ⟨h1, h2⟩ := zRd hm hT (s9 := zTks ls sz (lP D < 6) 3 (p, 0)) rfl (q9 := if lP D < 6 then lP D else 0) rfl
  by_cases h0 : (zP6 ls sz (lS D) (zTks ls sz (lP D < 6) 3 (p, 0))).2 = 0
  · rw [h1 h0]; exact h.1 h0
  · rw [h2 h0]; exact h.2 h0
set_option maxHeartbeats 4000000 in
set_option maxRecDepth 100000 in
theorem qX12_line (r : zMR) (ls : Nat → Nat) (sz fk : Nat) (fp : Int32) (ca cs ct : Nat) (cv : Int32) (L : zL) (dr tr : Nat → Nat) (y : zMY) (a : zMA) (hsz : sz ≤ 100) (hls : ∀ j, ls j ≤ 255) (F9 : zL × zSt) (hF9 : zPe ls sz 7 (zD0 (zLS ls sz) (zLB ls sz)) (zL5 ls sz) = F9) : zMi mX12_line 6 ([.ref 0]) (hMt r ls sz fk fp ca cs ct cv L dr tr y a) (fun z u => ((F9).2.2 = 0 → z = nI (lP (F9).1) ∧ ∃ ca cs ct cv dr, u = hMt r ls 0 fk (-1) ca cs ct cv (F9).1 dr tr (y.1, 0, y.2.2) a) ∧ (¬ (F9).2.2 = 0 → z = -1000100 - nI (F9).2.1 ∧ ∃ fp ca cs ct cv dr, u = hMt r ls 0 (F9).2.2 fp ca cs ct cv L dr tr y a)) := by
  refine zMi.of (by decide) (Nat.le_of_ble_eq_true rfl) (fun x hx hF => ?_)
  have l1 := zLe1 ls sz
  have l2 := zLe2 ls sz
  have l4 := zLe4 ls sz
  have l5 := zL5_le ls sz
  have loop161 : ∀ (D : zL) (st : zSt) (e9 : Option Value), st.1 ≤ sz → F9 = (D, st) →  zV x 161 [some (.ref 0), e9] ([]) (hMs r ls sz fk (st) L (fl (D)) tr y a) := by
    intro D st e9 hst hz
    subst hz
    have hlt := zFq_lt (st := st) (by omega)
    refine z_aload_n hx dX12_line_161 rfl ?_
    refine z_iconst (v := nI 0) hx dX12_line_162 (by decide) ?_
    refine z_puti hx dX12_line_163 pX12_79 rfl (Nat.le_of_ble_eq_true rfl) ?_
    refine z_heap (show _ = hMt r ls 0 (if st.2 = 0 then fk else st.2) (zFq st) (zAd ls sz st.1) st.1 (zTok ls sz st.1) (zVI ls sz st.1) L (fl D) tr y a from rfl) ?_
    refine z_aload_n hx dX12_line_166 rfl ?_
    refine z_callivF hx (qX12_isWellT r ls 0 (if st.2 = 0 then fk else st.2) (zFq st) (zAd ls sz st.1) st.1 (zTok ls sz st.1) (zVI ls sz st.1) L (fl D) tr y a) dX12_line_167 sX12_101 rfl rfl rfl rfl (Nat.le_of_ble_eq_true rfl) rfl (Nat.le_of_ble_eq_true rfl) (by decide) ?_
    refine z_if_neB (tgt := 181) hx dX12_line_170 (by decide) (fun zc170 => ?_) (fun zc170 => ?_)
    · skip
      have z9 : st.2 = 0 := hlt.mp zc170
      refine z_aload_n hx dX12_line_181 rfl ?_
      refine z_get hx dX12_line_182 fX12_28 rfl rfl ?_
      refine z_iconst (v := nI 0) hx dX12_line_185 (by decide) ?_
      refine z_aload_n hx dX12_line_186 rfl ?_
      refine z_get hx dX12_line_187 fX12_25 rfl rfl ?_
      refine z_iconst (v := nI 0) hx dX12_line_190 (by decide) ?_
      refine z_callvsE hx [7, 6] (qX12_copies 34 34 (fun j => nI (fl D j)) (fun j => nI (fl L j)) 0 0 (by decide) (by decide) (by decide) (by decide)) dX12_line_191 sX12_128 rfl rfl rfl (by decide) (by decide) rfl (Nat.le_of_ble_eq_true rfl) (by decide) ?_
      refine z_cell (q := 6) (fun j => nI (fl D j)) rfl (fun j hj => by simp [va_cpy, hj]) ?_
      refine z_heap (show _ = hMt r ls 0 (if st.2 = 0 then fk else st.2) (zFq st) (zAd ls sz st.1) st.1 (zTok ls sz st.1) (zVI ls sz st.1) D (fl D) tr y a from rfl) ?_
      refine z_aload_n hx dX12_line_194 rfl ?_
      refine z_iconst (v := nI 0) hx dX12_line_195 (by decide) ?_
      refine z_puti hx dX12_line_196 pX12_132 rfl (Nat.le_of_ble_eq_true rfl) ?_
      refine z_aload_n hx dX12_line_199 rfl ?_
      refine z_get hx dX12_line_200 fX12_25 rfl rfl ?_
      refine z_iconst (v := nI 3) hx dX12_line_203 (by decide) ?_
      refine z_ialdJ hx dX12_line_204 rfl (by decide) (by omega) ?_
      exact z_iret hx hF dX12_line_205 rfl rfl ⟨fun _ => ⟨rfl, zAd ls sz st.1, st.1, zTok ls sz st.1, zVI ls sz st.1, fl D, by unfold zFq; rw [if_pos z9, if_pos z9]; rfl⟩, fun h => absurd z9 h⟩
    · skip
      have z9 : ¬ st.2 = 0 := fun e => zc170 (hlt.mpr e)
      refine z_ldc hx dX12_line_173 kX12_127 ?_
      refine z_aload_n hx dX12_line_175 rfl ?_
      refine z_get hx dX12_line_176 fX12_98 rfl rfl ?_
      refine z_isub hx dX12_line_179 ?_
      exact z_iret hx hF dX12_line_180 rfl rfl ⟨fun h => absurd h z9, fun _ => ⟨by unfold zFq; rw [if_neg z9], zFq st, zAd ls sz st.1, st.1, zTok ls sz st.1, zVI ls sz st.1, fl D, by rw [if_neg z9]⟩⟩
  have loop140 : ∀ (D : zL) (st : zSt) (e9 : Option Value), st.1 ≤ sz → F9 = (D, zEnd sz st) →  zV x 140 [some (.ref 0), e9] ([]) (hMs r ls sz fk (st) L (fl (D)) tr y a) := by
    intro D st e9 hst hz
    have htl := zTok_le ls sz st.1
    refine z_aload_n hx dX12_line_140 rfl ?_
    refine z_callivF hx (qX12_isWell r ls sz fk st L (fl D) tr y a hsz hls hst) dX12_line_141 sX12_101 rfl rfl rfl rfl (Nat.le_of_ble_eq_true rfl) rfl (Nat.le_of_ble_eq_true rfl) (by decide) ?_
    refine z_if_eqB (tgt := 161) hx dX12_line_144 (by decide) (fun zc144 => ?_) (fun zc144 => ?_)
    · skip
      first | exact loop161 D st _ hst (by rw [hz, zEnd_f zc144]) | exact loop161 D st _ hst (by rw [hz]; exact congrArg _ (if_neg (fun q => (zTok_e (ls := ls)).mp zc151 q.2))) | exact loop161 D (zEnd sz st) _ (by unfold zEnd; split <;> exact hst) hz
    · skip
      refine z_aload_n hx dX12_line_147 rfl ?_
      refine z_get hx dX12_line_148 fX12_95 rfl rfl ?_
      refine z_if_eqN (tgt := 161) hx dX12_line_151 (by decide) (by omega) (fun zc151 => ?_) (fun zc151 => ?_)
      · skip
        first | exact loop161 D st _ hst (by rw [hz, zEnd_f zc144]) | exact loop161 D st _ hst (by rw [hz]; exact congrArg _ (if_neg (fun q => (zTok_e (ls := ls)).mp zc151 q.2))) | exact loop161 D (zEnd sz st) _ (by unfold zEnd; split <;> exact hst) hz
      · skip
        refine z_aload_n hx dX12_line_154 rfl ?_
        refine z_iconst (v := nI 0) hx dX12_line_155 (by decide) ?_
        refine z_top (b := bP False) bP_F.symm ?_
        refine z_iconst (v := nI 1) hx dX12_line_156 (by decide) ?_
        refine z_callivF hx (qX12_takes r ls sz fk st L (fl D) tr y a hsz hls hst False 1 (by decide)) dX12_line_157 sX12_111 rfl rfl rfl rfl (Nat.le_of_ble_eq_true rfl) rfl (Nat.le_of_ble_eq_true rfl) (by decide) ?_
        rw [zEnd_k zc144 (Nat.ne_of_gt zc151)]
        refine z_pop hx dX12_line_160 rfl ?_
        first | exact loop161 D st _ hst (by rw [hz, zEnd_f zc144]) | exact loop161 D st _ hst (by rw [hz]; exact congrArg _ (if_neg (fun q => (zTok_e (ls := ls)).mp zc151 q.2))) | exact loop161 D (zEnd sz st) _ (by unfold zEnd; split <;> exact hst) hz
  have loop108 : ∀ (n108 : Nat) (n9 : Nat) (D : zL) (st : zSt) (e9 : Option Value), n9 = n108 → st.1 ≤ sz → (st.2 = 0 → zDi D ∧ n9 + lP D = 7) → F9 = ((zPpl ls sz n9 (D, st)).1, zEnd sz (zPpl ls sz n9 (D, st)).2) → zV x 108 [some (.ref 0), e9] ([]) (hMs r ls sz fk (st) L (fl (D)) tr y a) := by
    intro n108
    induction n108 using Nat.strongRecOn with
    | ind n108 ih =>
      intro n9 D st e9 hn hst hi hz
      have htl := zTok_le ls sz st.1
      have hl9 := hls st.1
      have hk9 := zKd_le (ls st.1)
      refine z_aload_n hx dX12_line_108 rfl ?_
      refine z_callivF hx (qX12_isWell r ls sz fk st L (fl D) tr y a hsz hls hst) dX12_line_109 sX12_101 rfl rfl rfl rfl (Nat.le_of_ble_eq_true rfl) rfl (Nat.le_of_ble_eq_true rfl) (by decide) ?_
      refine z_if_eqB (tgt := 140) hx dX12_line_112 (by decide) (fun zc112 => ?_) (fun zc112 => ?_)
      · skip
        first | exact loop140 D st _ hst (by rw [hz, zPpl_f (fun q => zc112 q.1)]) | exact loop140 D st _ hst (by rw [hz, zPpl_f (fun q => zc120 (zMor_t q))]) | exact loop140 D st _ hst (by rw [hz, zPpl_f (fun q => absurd q.2.2 (by omega))])
      · skip
        refine z_aload_n hx dX12_line_115 rfl ?_
        refine z_get hx dX12_line_116 fX12_95 rfl rfl ?_
        refine z_iconst (v := nI 1) hx dX12_line_119 (by decide) ?_
        refine z_icmp_neN (tgt := 140) hx dX12_line_120 (by decide) (by omega) (by omega) (fun zc120 => ?_) (fun zc120 => ?_)
        · skip
          first | exact loop140 D st _ hst (by rw [hz, zPpl_f (fun q => zc112 q.1)]) | exact loop140 D st _ hst (by rw [hz, zPpl_f (fun q => zc120 (zMor_t q))]) | exact loop140 D st _ hst (by rw [hz, zPpl_f (fun q => absurd q.2.2 (by omega))])
        · skip
          skip
          refine z_aload_n hx dX12_line_123 rfl ?_
          refine z_get hx dX12_line_124 fX12_92 rfl rfl ?_
          refine z_top (zVI_o (zTok_l zc120).1 (zTok_l zc120).2) ?_
          refine z_callisP hx [] (qX12_kindOf (ls st.1) (by omega)) dX12_line_127 sX12_118 rfl rfl rfl (by decide) (by decide) rfl (Nat.le_of_ble_eq_true rfl) (by decide) ?_
          refine z_if_leN (tgt := 140) hx dX12_line_130 (by decide) (by omega) (fun zc130 => ?_) (fun zc130 => ?_)
          · skip
            first | exact loop140 D st _ hst (by rw [hz, zPpl_f (fun q => zc112 q.1)]) | exact loop140 D st _ hst (by rw [hz, zPpl_f (fun q => zc120 (zMor_t q))]) | exact loop140 D st _ hst (by rw [hz, zPpl_f (fun q => absurd q.2.2 (by omega))])
          · skip
            have hmo : zMor ls sz st := ⟨zc112, (zTok_l zc120).1, zc130⟩
            have hdi := hi zc112
            obtain ⟨p9, rfl⟩ := zst_ok zc112
            obtain ⟨m9, rfl⟩ : ∃ m9, n9 = m9 + 1 := ⟨n9 - 1, by have := hdi.1.1; omega⟩
            have hRu : ∀ u : List zE, ((zP6 ls sz (lS D) (zTks ls sz (lP D < 6) 3 (p9, 0))).2 = 0 → u = hMs r ls sz fk (zP6 ls sz (lS D) (zTks ls sz (lP D < 6) 3 (p9, 0))) L (fl (zK5 ls sz p9 D (zTks ls sz (lP D < 6) 3 (p9, 0)) (if lP D < 6 then lP D else 0))) tr y a) ∧ (¬ (zP6 ls sz (lS D) (zTks ls sz (lP D < 6) 3 (p9, 0))).2 = 0 → u = hMs r ls sz fk (zP6 ls sz (lS D) (zTks ls sz (lP D < 6) 3 (p9, 0))) L (fl D) tr y a) → u = hMs r ls sz fk (zPp ls sz D (p9, 0)).2 L (fl (zPp ls sz D (p9, 0)).1) tr y a := zRd_u hmo hdi.1.2.2.2
            have hIn := fun h => zDi_n (ls := ls) (sz := sz) (p := p9) hdi.1 h
            have hLe := zPp_le (ls := ls) (D := D) hmo.2.1
            refine z_aload_n hx dX12_line_133 rfl ?_
            refine z_callvvG hx (qX12_readsPerson r ls sz fk p9 L D tr y a hsz hls hst hmo ⟨hdi.1.2.1, hdi.1.2.2.1⟩ hdi.1.1 hdi.1.2.2.2 _ rfl _ rfl) dX12_line_134 sX12_124 rfl rfl rfl rfl (Nat.le_of_ble_eq_true rfl) rfl (Nat.le_of_ble_eq_true rfl) (by decide) (fun u134 l134 q134 => ?_)
            have hu9 : u134 = hMs r ls sz fk (zPp ls sz D (p9, 0)).2 L (fl (zPp ls sz D (p9, 0)).1) tr y a := hRu _ q134
            clear q134
            have hin9 := hIn
            have hle9 := hLe
            rw [zPpl_t hmo] at hz
            clear hRu hIn hLe
            generalize zPp ls sz D (p9, 0) = Q6 at hu9 hin9 hle9 hz
            obtain ⟨D6, s6⟩ := Q6
            subst hu9
            refine z_goto (tgt := 108) hx dX12_line_137 (by decide) ?_
            exact ih _ (by omega) m9 D6 s6 _ rfl hle9 (fun h => ⟨(hin9 h).1, by have h8 : lP D6 = lP D + 1 := (hin9 h).2; have h7 := hdi.2; omega⟩) hz
  have loop103 : ∀ (b9 : Int32) (e9 : Option Value), b9 = bP (zTok ls sz (zL4 ls sz).1 = 4) →  zV x 103 [some (.ref 0), e9] ([.int b9, .ref 0]) (hMs r ls sz fk (zL4 ls sz) L (fl (zD0 (zLS ls sz) (zLB ls sz))) tr y a) := by
    intro b9 e9 hb9
    subst hb9
    refine z_iconst (v := nI 1) hx dX12_line_103 (by decide) ?_
    refine z_callivF hx (qX12_takes r ls sz fk (zL4 ls sz) L (fl (zD0 (zLS ls sz) (zLB ls sz))) tr y a hsz hls l4 (zTok ls sz (zL4 ls sz).1 = 4) 1 (by decide)) dX12_line_104 sX12_111 rfl rfl rfl rfl (Nat.le_of_ble_eq_true rfl) rfl (Nat.le_of_ble_eq_true rfl) (by decide) ?_
    rw [zsg_s]
    refine z_pop hx dX12_line_107 rfl ?_
    exact loop108 _ 7 (zD0 (zLS ls sz) (zLB ls sz)) (zL5 ls sz) _ rfl l5 (fun h => ⟨⟨Nat.zero_le _, (zLS_ok h).1, (zLS_ok h).2.1, rfl⟩, rfl⟩) hF9.symm
  have loop58 : ∀ (b9 : Int32) (e9 : Option Value), b9 = bP (zTok ls sz 0 = 1 ∧ zVI ls sz 0 = nI 116) →  zV x 58 [some (.ref 0), e9] ([.int b9, .ref 0]) (hMs r ls sz fk ((0, 0)) L (fl (zZ0)) tr y a) := by
    intro b9 e9 hb9
    subst hb9
    have htl := zTok_le ls sz (zL4 ls sz).1
    refine z_iconst (v := nI 1) hx dX12_line_58 (by decide) ?_
    refine z_callivF hx (qX12_takes r ls sz fk (0, 0) L (fl zZ0) tr y a hsz hls (Nat.zero_le _) (zTok ls sz 0 = 1 ∧ zVI ls sz 0 = nI 116) 1 (by decide)) dX12_line_59 sX12_111 rfl rfl rfl rfl (Nat.le_of_ble_eq_true rfl) rfl (Nat.le_of_ble_eq_true rfl) (by decide) ?_
    rw [show zTks ls sz (zTok ls sz 0 = 1 ∧ zVI ls sz 0 = nI 116) 1 (0, 0) = zL1 ls sz from zSgn_k (fun _ _ => trivial) (0, 0) (zTok_t hls) (by decide)]
    refine z_pop hx dX12_line_62 rfl ?_
    refine z_aload_n hx dX12_line_63 rfl ?_
    refine z_get hx dX12_line_64 fX12_28 rfl rfl ?_
    refine z_iconst (v := nI 0) hx dX12_line_67 (by decide) ?_
    refine z_aload_n hx dX12_line_68 rfl ?_
    refine z_iconst (v := nI 2) hx dX12_line_69 (by decide) ?_
    refine z_bipush (v := nI 8) hx dX12_line_70 (by decide) ?_
    refine z_callivF hx (qX12_figure r ls sz fk (zL1 ls sz) L (fl zZ0) tr y a hsz hls l1 2 8 (by decide) (by decide)) dX12_line_72 sX12_115 rfl rfl rfl rfl (Nat.le_of_ble_eq_true rfl) rfl (Nat.le_of_ble_eq_true rfl) (by decide) ?_
    first | refine z_iastN hx dX12_line_75 rfl (by decide) (by omega) ?_ | refine z_iastJ hx dX12_line_75 rfl (by decide) (by omega) ?_
    refine z_heap (show _ = hMs r ls sz fk (zL2 ls sz) L (fl (lsS zZ0 (zLS ls sz))) tr y a by unfold hMs hMt; rw [← fl_sS]; rfl) ?_
    refine z_aload_n hx dX12_line_76 rfl ?_
    refine z_get hx dX12_line_77 fX12_28 rfl rfl ?_
    refine z_iconst (v := nI 1) hx dX12_line_80 (by decide) ?_
    refine z_aload_n hx dX12_line_81 rfl ?_
    refine z_iconst (v := nI 0) hx dX12_line_82 (by decide) ?_
    refine z_bipush (v := nI 40) hx dX12_line_83 (by decide) ?_
    refine z_callivF hx (qX12_next r ls sz fk (zL2 ls sz) L (fl (lsS zZ0 (zLS ls sz))) tr y a hsz hls l2 0 40 (by decide) (by decide)) dX12_line_85 sX12_121 rfl rfl rfl rfl (Nat.le_of_ble_eq_true rfl) rfl (Nat.le_of_ble_eq_true rfl) (by decide) ?_
    first | refine z_iastN hx dX12_line_88 rfl (by decide) (by omega) ?_ | refine z_iastJ hx dX12_line_88 rfl (by decide) (by omega) ?_
    refine z_heap (show _ = hMs r ls sz fk (zL4 ls sz) L (fl (zD0 (zLS ls sz) (zLB ls sz))) tr y a by unfold hMs hMt; rw [show zD0 (zLS ls sz) (zLB ls sz) = lsB (lsS zZ0 (zLS ls sz)) (zLB ls sz) from rfl, ← fl_sB]; rfl) ?_
    refine z_aload_n hx dX12_line_89 rfl ?_
    refine z_aload_n hx dX12_line_90 rfl ?_
    refine z_get hx dX12_line_91 fX12_95 rfl rfl ?_
    refine z_iconst (v := nI 4) hx dX12_line_94 (by decide) ?_
    refine z_icmp_neN (tgt := 102) hx dX12_line_95 (by decide) (by omega) (by omega) (fun zc95 => ?_) (fun zc95 => ?_)
    · skip
      refine z_iconst (v := nI 0) hx dX12_line_102 (by decide) ?_
      first | exact loop103 _ _ (bP_t zc95).symm | exact loop103 _ _ (bP_f zc95).symm
    · skip
      refine z_iconst (v := nI 1) hx dX12_line_98 (by decide) ?_
      refine z_goto (tgt := 103) hx dX12_line_99 (by decide) ?_
      first | exact loop103 _ _ (bP_t zc95).symm | exact loop103 _ _ (bP_f zc95).symm
  have loop2 : ∀ (n2 : Nat) (k : Nat), 34 - k = n2 → k ≤ 34 → zV x 2 [some (.ref 0), some (.int (nI k))] ([]) (hMt r ls sz fk fp ca cs ct cv L (fun j => if j < k then 0 else dr j) tr y a) := by
    intro n2
    induction n2 using Nat.strongRecOn with
    | ind n2 ih =>
      intro k hn hk
      refine z_iload_n hx dX12_line_2 rfl ?_
      refine z_bipush (v := nI 34) hx dX12_line_3 (by decide) ?_
      first | refine z_icmp_geN (tgt := 21) hx dX12_line_5 (by decide) (by omega) (by omega) (fun zc5 => ?_) (fun zc5 => ?_) | refine z_icmp_ge (tgt := 21) hx dX12_line_5 (by decide) (fun zc5 => ?_) (fun zc5 => ?_)
      · skip
        refine z_cell (q := 7) (fun j => nI (fl zZ0 j)) rfl (fun j hj => by rw [fl_Z]; exact congrArg nI (if_pos (by omega))) ?_
        have ht0 := zTok_le ls sz 0
        refine z_aload_n hx dX12_line_21 rfl ?_
        refine z_iconst (v := nI 0) hx dX12_line_22 (by decide) ?_
        refine z_puti hx dX12_line_23 pX12_83 rfl (Nat.le_of_ble_eq_true rfl) ?_
        refine z_aload_n hx dX12_line_26 rfl ?_
        refine z_iconst (v := -1) hx dX12_line_27 (by decide) ?_
        refine z_puti hx dX12_line_28 pX12_98 rfl (Nat.le_of_ble_eq_true rfl) ?_
        refine z_heap (show _ = hMt r ls sz fk (-1) 0 cs ct cv L (fl zZ0) tr y a from rfl) ?_
        refine z_aload_n hx dX12_line_31 rfl ?_
        refine z_callvvF hx (qX12_advances r ls sz fk (-1) 0 cs ct cv L (fl zZ0) tr y a hsz hls (Nat.zero_le _)) dX12_line_32 sX12_108 rfl rfl rfl rfl (Nat.le_of_ble_eq_true rfl) rfl (Nat.le_of_ble_eq_true rfl) (by decide) ?_
        refine z_heap (show _ = hMs r ls sz fk ((0, 0)) L (fl (zZ0)) tr y a from rfl) ?_
        refine z_aload_n hx dX12_line_35 rfl ?_
        refine z_aload_n hx dX12_line_36 rfl ?_
        refine z_get hx dX12_line_37 fX12_95 rfl rfl ?_
        refine z_topN (b := zTok ls sz 0) rfl ?_
        refine z_iconst (v := nI 1) hx dX12_line_40 (by decide) ?_
        refine z_icmp_neN (tgt := 57) hx dX12_line_41 (by decide) (by omega) (by omega) (fun zc41 => ?_) (fun zc41 => ?_)
        · skip
          refine z_iconst (v := nI 0) hx dX12_line_57 (by decide) ?_
          first | exact loop58 _ _ (bP_t ⟨zc41, zc50⟩).symm | exact loop58 _ _ (bP_f (fun q => zc50 q.2)).symm | exact loop58 _ _ (bP_f (fun q => zc41 q.1)).symm
        · skip
          refine z_aload_n hx dX12_line_44 rfl ?_
          refine z_get hx dX12_line_45 fX12_92 rfl rfl ?_
          refine z_top (b := zVI ls sz 0) rfl ?_
          refine z_bipush (v := nI 116) hx dX12_line_48 (by decide) ?_
          refine z_icmp_ne (tgt := 57) hx dX12_line_50 (by decide) (fun zc50 => ?_) (fun zc50 => ?_)
          · skip
            refine z_iconst (v := nI 0) hx dX12_line_57 (by decide) ?_
            first | exact loop58 _ _ (bP_t ⟨zc41, zc50⟩).symm | exact loop58 _ _ (bP_f (fun q => zc50 q.2)).symm | exact loop58 _ _ (bP_f (fun q => zc41 q.1)).symm
          · skip
            refine z_iconst (v := nI 1) hx dX12_line_53 (by decide) ?_
            refine z_goto (tgt := 58) hx dX12_line_54 (by decide) ?_
            first | exact loop58 _ _ (bP_t ⟨zc41, zc50⟩).symm | exact loop58 _ _ (bP_f (fun q => zc50 q.2)).symm | exact loop58 _ _ (bP_f (fun q => zc41 q.1)).symm
      · skip
        refine z_aload_n hx dX12_line_8 rfl ?_
        refine z_get hx dX12_line_9 fX12_28 rfl rfl ?_
        refine z_iload_n hx dX12_line_12 rfl ?_
        refine z_iconst (v := nI 0) hx dX12_line_13 (by decide) ?_
        first | refine z_iastN hx dX12_line_14 rfl (by decide) (by omega) ?_ | refine z_iastJ hx dX12_line_14 rfl (by decide) (by omega) ?_
        refine z_heap (show _ = hMt r ls sz fk fp ca cs ct cv L (fun j => if j < k + 1 then 0 else dr j) tr y a by rw [← zzero_up]; rfl) ?_
        first | refine z_iincN (z := 1) hx dX12_line_15 rfl rfl ?_ | refine z_iinc hx dX12_line_15 rfl rfl rfl ?_
        refine z_goto (tgt := 2) hx dX12_line_18 (by decide) ?_
        exact ih _ (by omega) (k + 1) rfl (by omega)
  refine z_iconst (v := nI 0) hx dX12_line_0 (by decide) ?_
  refine z_istore_n hx dX12_line_1 (Nat.le_of_ble_eq_true rfl) rfl ?_
  exact z_heap (congrArg (fun q => hMt r ls sz fk fp ca cs ct cv L q tr y a) (zzero_0 dr)) (loop2 _ 0 rfl (by omega))

