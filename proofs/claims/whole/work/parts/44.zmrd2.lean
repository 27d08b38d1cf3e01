/-! the reference's reader, by the place and the fault -/
def zFq (st : zSt) : Int32 := if st.2 = 0 then -1 else nI st.1
def hMs (r : zMR) (ls : Nat → Nat) (sz fk : Nat) (st : zSt) (L : zL) (dr tr : Nat → Nat) (y : zMY) (a : zMA) : List zE := hMt r ls sz (if st.2 = 0 then fk else st.2) (zFq st) (zAd ls sz st.1) st.1 (zTok ls sz st.1) (zVI ls sz st.1) L dr tr y a
theorem zFq_lt {st : zSt} (h : st.1 ≤ 100) : zFq st < 0 ↔ st.2 = 0 := by
  unfold zFq
  by_cases h0 : st.2 = 0
  · rw [if_pos h0]; exact ⟨fun _ => h0, fun _ => by decide⟩
  · rw [if_neg h0]; exact ⟨fun q => absurd q (nI_lt0 (by omega)), fun q => absurd q h0⟩
/-- one step: taken, or the fault k -/
noncomputable def zTks (ls : Nat → Nat) (sz : Nat) (c : Prop) (k : Nat) (st : zSt) : zSt := zIG (st.2 = 0) (zIG c (zAd ls sz st.1, 0) (st.1, k)) st
theorem zTks_f {ls : Nat → Nat} {sz : Nat} {c : Prop} {k : Nat} {st : zSt} (h : ¬ st.2 = 0) : zTks ls sz c k st = st := zIG_f h
theorem zTks_t {ls : Nat → Nat} {sz p : Nat} {c : Prop} {k : Nat} (h : c) : zTks ls sz c k (p, 0) = (zAd ls sz p, 0) := by unfold zTks; rw [zIG_t rfl, zIG_t h]
theorem zTks_n {ls : Nat → Nat} {sz p : Nat} {c : Prop} {k : Nat} (h : ¬ c) : zTks ls sz c k (p, 0) = (p, k) := by unfold zTks; rw [zIG_t rfl, zIG_f h]
theorem zTok_44 {ls : Nat → Nat} {sz p : Nat} : zTok ls sz p = 3 ↔ (p < sz ∧ ls p = 44) := by
  constructor
  · unfold zTok
    repeat' split
    all_goals first | (intro h; exact absurd h (by decide)) | skip
    intro _
    exact ⟨by assumption, by assumption⟩
  · intro h; exact zTok_3 h.1 h.2
theorem zTok_59 {ls : Nat → Nat} {sz p : Nat} : zTok ls sz p = 4 ↔ (p < sz ∧ ls p = 59) := by
  constructor
  · unfold zTok
    repeat' split
    all_goals first | (intro h; exact absurd h (by decide)) | skip
    intro _
    exact ⟨by assumption, by assumption⟩
  · intro h; exact zTok_4 h.1 h.2
theorem zSgn_k {ls : Nat → Nat} {sz s : Nat} {c : Prop} (hc : ∀ p, c = (p < sz ∧ ls p = s) → True) (st : zSt) (h : c ↔ (st.1 < sz ∧ ls st.1 = s)) (ho : ¬ (48 ≤ s ∧ s ≤ 57)) : zTks ls sz c 1 st = zSgn ls sz s st := by
  by_cases h0 : st.2 = 0
  · obtain ⟨p, rfl⟩ := zst_ok h0
    by_cases hc : c
    · have hp := h.mp hc
      rw [zTks_t hc, zSgn_t hp, (zAV_o hp.1 (fun q => ho ⟨by have := q.2.1; rw [← hp.2]; exact this, by have := q.2.2; rw [← hp.2]; exact this⟩)).1]
    · rw [zTks_n hc, zSgn_n (fun q => hc (h.mpr q))]
  · rw [zTks_f h0, zSgn_f h0]
theorem zTok_dg {ls : Nat → Nat} {sz p : Nat} : zTok ls sz p = 2 ↔ (1 ≤ zEd ls sz p - p ∧ zEd ls sz p - p ≤ 2) := by
  by_cases hd : zDg ls sz p
  · have h1 := zEd_t hd
    have h2 := zEd_le ls sz (p + 1)
    rw [(zAV_d hd).2.2]
    split <;> omega
  · rw [zEd_f hd]
    constructor
    · unfold zTok
      repeat' split
      all_goals first | (intro h; exact absurd h (by decide)) | skip
      all_goals (rename_i hq; exact absurd hq hd)
    · intro h; omega
theorem zDg_ed {ls : Nat → Nat} {sz p : Nat} (h : 1 ≤ zEd ls sz p - p) : zDg ls sz p := Classical.byContradiction fun q => by rw [zEd_f q] at h; omega
set_option maxHeartbeats 4000000 in
set_option maxRecDepth 100000 in
theorem qX12_isWell (r : zMR) (ls : Nat → Nat) (sz fk : Nat) (st : zSt) (L : zL) (dr tr : Nat → Nat) (y : zMY) (a : zMA) (hsz : sz ≤ 100) (hls : ∀ j, ls j ≤ 255) (hst : st.1 ≤ sz) : zMi mX12_isWell 0 ([.ref 0]) (hMs r ls sz fk (st) (L) (dr) tr y a) (fun z u => z = bP (st.2 = 0) ∧ u = hMs r ls sz fk (st) (L) (dr) tr y a) := by
  refine zMi.of (by decide) (Nat.le_of_ble_eq_true rfl) (fun x hx hF => ?_)
  have hlt := zFq_lt (st := st) (by omega)
  refine z_aload_n hx dX12_isWell_0 rfl ?_
  refine z_get hx dX12_isWell_1 fX12_98 rfl rfl ?_
  refine z_if_ge (tgt := 11) hx dX12_isWell_4 (by decide) (fun zc4 => ?_) (fun zc4 => ?_)
  · skip
    refine z_iconst (v := nI 0) hx dX12_isWell_11 (by decide) ?_
    exact z_zret hx hF dX12_isWell_12 rfl (by first | exact bP_nar _ | rfl) rfl ⟨by first | exact (bP_f (fun e => absurd (hlt.mpr e) (Int32.not_lt.mpr zc4))).symm | exact (bP_t (hlt.mp (Int32.not_le.mp zc4))).symm, rfl⟩
  · skip
    refine z_iconst (v := nI 1) hx dX12_isWell_7 (by decide) ?_
    refine z_goto (tgt := 12) hx dX12_isWell_8 (by decide) ?_
    exact z_zret hx hF dX12_isWell_12 rfl (by first | exact bP_nar _ | rfl) rfl ⟨by first | exact (bP_f (fun e => absurd (hlt.mpr e) (Int32.not_lt.mpr zc4))).symm | exact (bP_t (hlt.mp (Int32.not_le.mp zc4))).symm, rfl⟩

set_option maxHeartbeats 4000000 in
set_option maxRecDepth 100000 in
theorem qX12_takes (r : zMR) (ls : Nat → Nat) (sz fk : Nat) (st : zSt) (L : zL) (dr tr : Nat → Nat) (y : zMY) (a : zMA) (hsz : sz ≤ 100) (hls : ∀ j, ls j ≤ 255) (hst : st.1 ≤ sz) (c : Prop) (k : Nat) (hk : 0 < k) : zMi mX12_takes 2 ([.ref 0, .int (bP c), .int (nI k)]) (hMs r ls sz fk (st) (L) (dr) tr y a) (fun z u => z = zII (st.2 = 0 ∧ c) (zVI ls sz st.1) (nI 0) ∧ u = hMs r ls sz fk (zTks ls sz c k st) (L) (dr) tr y a) := by
  refine zMi.of (by decide) (Nat.le_of_ble_eq_true rfl) (fun x hx hF => ?_)
  refine z_aload_n hx dX12_takes_0 rfl ?_
  refine z_callivF hx (qX12_isWell r ls sz fk (st) L (dr) tr y a hsz hls (hst)) dX12_takes_1 sX12_101 rfl rfl rfl rfl (Nat.le_of_ble_eq_true rfl) rfl (Nat.le_of_ble_eq_true rfl) (by decide) ?_
  refine z_if_neB (tgt := 9) hx dX12_takes_4 (by decide) (fun zc4 => ?_) (fun zc4 => ?_)
  · skip
    obtain ⟨p, rfl⟩ := zst_ok zc4
    refine z_iload_n hx dX12_takes_9 rfl ?_
    refine z_if_neB (tgt := 28) hx dX12_takes_10 (by decide) (fun zc10 => ?_) (fun zc10 => ?_)
    · skip
      refine z_heap (show _ = hMt r ls sz fk (-1) (zAd ls sz p) p (zTok ls sz p) (zVI ls sz p) L dr tr y a from rfl) ?_
      refine z_aload_n hx dX12_takes_28 rfl ?_
      refine z_get hx dX12_takes_29 fX12_92 rfl rfl ?_
      refine z_istore_n hx dX12_takes_32 (Nat.le_of_ble_eq_true rfl) rfl ?_
      refine z_aload_n hx dX12_takes_33 rfl ?_
      refine z_callvvF hx (qX12_advances r ls sz fk (-1) (zAd ls sz p) p (zTok ls sz p) (zVI ls sz p) L dr tr y a hsz hls (zAd_le hst)) dX12_takes_34 sX12_108 rfl rfl rfl rfl (Nat.le_of_ble_eq_true rfl) rfl (Nat.le_of_ble_eq_true rfl) (by decide) ?_
      refine z_iload_n hx dX12_takes_37 rfl ?_
      exact z_iret hx hF dX12_takes_38 rfl rfl (by first | (rw [zTks_f zc4, zII_f (fun h => zc4 h.1)]; exact ⟨rfl, rfl⟩) | (rw [zTks_t zc10, zII_t ⟨rfl, zc10⟩]; exact ⟨rfl, rfl⟩) | (rw [zTks_n zc10, zII_f (fun h => zc10 h.2)]; exact ⟨rfl, by unfold hMs zFq; rw [if_neg (Nat.ne_of_gt hk), if_neg (Nat.ne_of_gt hk)]; rfl⟩) | exact zzz_open)
    · skip
      refine z_aload_n hx dX12_takes_13 rfl ?_
      refine z_aload_n hx dX12_takes_14 rfl ?_
      refine z_get hx dX12_takes_15 fX12_86 rfl rfl ?_
      refine z_puti hx dX12_takes_18 pX12_98 rfl (Nat.le_of_ble_eq_true rfl) ?_
      refine z_aload_n hx dX12_takes_21 rfl ?_
      refine z_iload_n hx dX12_takes_22 rfl ?_
      refine z_puti hx dX12_takes_23 pX12_105 rfl (Nat.le_of_ble_eq_true rfl) ?_
      refine z_iconst (v := nI 0) hx dX12_takes_26 (by decide) ?_
      exact z_iret hx hF dX12_takes_27 rfl rfl (by first | (rw [zTks_f zc4, zII_f (fun h => zc4 h.1)]; exact ⟨rfl, rfl⟩) | (rw [zTks_t zc10, zII_t ⟨rfl, zc10⟩]; exact ⟨rfl, rfl⟩) | (rw [zTks_n zc10, zII_f (fun h => zc10 h.2)]; exact ⟨rfl, by unfold hMs zFq; rw [if_neg (Nat.ne_of_gt hk), if_neg (Nat.ne_of_gt hk)]; rfl⟩) | exact zzz_open)
  · skip
    refine z_iconst (v := nI 0) hx dX12_takes_7 (by decide) ?_
    exact z_iret hx hF dX12_takes_8 rfl rfl (by first | (rw [zTks_f zc4, zII_f (fun h => zc4 h.1)]; exact ⟨rfl, rfl⟩) | (rw [zTks_t zc10, zII_t ⟨rfl, zc10⟩]; exact ⟨rfl, rfl⟩) | (rw [zTks_n zc10, zII_f (fun h => zc10 h.2)]; exact ⟨rfl, by unfold hMs zFq; rw [if_neg (Nat.ne_of_gt hk), if_neg (Nat.ne_of_gt hk)]; rfl⟩) | exact zzz_open)

theorem bP_F : bP False = nI 0 := bP_f id
theorem zfg_1 {ls : Nat → Nat} {sz lo hi : Nat} {st : zSt} (h0 : st.2 = 0) (h : ¬ zTok ls sz st.1 = 2) : zFgs ls sz lo hi st = zTks ls sz False 1 st ∧ zFgv ls sz lo hi st = 0 := by
  obtain ⟨p, rfl⟩ := zst_ok h0
  have e := zFgs_1 (lo := lo) (hi := hi) (fun q => h (zTok_dg.mpr q))
  exact ⟨by rw [e, zTks_n id], zFgv_0 (by rw [e]; exact (show ¬ (1 : Nat) = 0 by decide))⟩
theorem zfg_2 {ls : Nat → Nat} {sz lo hi : Nat} (hls : ∀ j, ls j ≤ 255) (hhi : hi < 1000) {st : zSt} (h : ¬ (st.2 = 0 ∧ ¬ zTok ls sz st.1 = 2)) : zFgs ls sz lo hi st = zTks ls sz (∃ j, lo ≤ j ∧ j ≤ hi ∧ zVI ls sz st.1 = nI j) 2 st ∧ zII (st.2 = 0 ∧ ∃ j, lo ≤ j ∧ j ≤ hi ∧ zVI ls sz st.1 = nI j) (zVI ls sz st.1) (nI 0) = nI (zFgv ls sz lo hi st) := by
  by_cases h0 : st.2 = 0
  · obtain ⟨p, rfl⟩ := zst_ok h0
    have ht : zTok ls sz p = 2 := Classical.byContradiction fun q => h ⟨rfl, q⟩
    have h1 := zTok_dg.mp ht
    have hd := zDg_ed h1.1
    obtain ⟨e1, e2, -⟩ := zAV_d hd
    have hv := zVd_le hls p (zEd ls sz p - p)
    have hv2 : zNv ls sz p ≤ 10000 := hv
    have hi9 := zin9 (c := zNv ls sz p) (a := lo) (b := hi) (by omega) (by omega)
    by_cases hc : lo ≤ zNv ls sz p ∧ zNv ls sz p ≤ hi
    · have hc2 : ∃ j, lo ≤ j ∧ j ≤ hi ∧ zVI ls sz p = nI j := by rw [e2]; exact hi9.mpr hc
      have e3 := zFgs_t h1 hc
      refine ⟨?_, ?_⟩
      · rw [zTks_t hc2, e3, e1]
      · rw [zII_t ⟨rfl, hc2⟩, e2, zFgv_t (by rw [e3])]
    · have hc2 : ¬ ∃ j, lo ≤ j ∧ j ≤ hi ∧ zVI ls sz p = nI j := by rw [e2]; exact fun q => hc (hi9.mp q)
      have e3 := zFgs_2 h1 hc
      refine ⟨?_, ?_⟩
      · rw [zTks_n hc2, e3]
      · rw [zII_f (fun q => hc2 q.2), zFgv_0 (by rw [e3]; exact (show ¬ (2 : Nat) = 0 by decide))]
  · refine ⟨by rw [zTks_f h0, zFgs_f h0], ?_⟩
    rw [zII_f (fun q => h0 q.1), zFgv_0 (by rw [zFgs_f h0]; exact h0)]
set_option maxHeartbeats 4000000 in
set_option maxRecDepth 100000 in
theorem qX12_figure (r : zMR) (ls : Nat → Nat) (sz fk : Nat) (st : zSt) (L : zL) (dr tr : Nat → Nat) (y : zMY) (a : zMA) (hsz : sz ≤ 100) (hls : ∀ j, ls j ≤ 255) (hst : st.1 ≤ sz) (lo hi : Nat) (hlh : lo ≤ hi) (hhi : hi < 1000) : zMi mX12_figure 3 ([.ref 0, .int (nI lo), .int (nI hi)]) (hMs r ls sz fk (st) (L) (dr) tr y a) (fun z u => z = nI (zFgv ls sz lo hi st) ∧ u = hMs r ls sz fk (zFgs ls sz lo hi st) (L) (dr) tr y a) := by
  refine zMi.of (by decide) (Nat.le_of_ble_eq_true rfl) (fun x hx hF => ?_)
  have htl := zTok_le ls sz st.1
  refine z_aload_n hx dX12_figure_0 rfl ?_
  refine z_callivF hx (qX12_isWell r ls sz fk (st) L (dr) tr y a hsz hls (hst)) dX12_figure_1 sX12_101 rfl rfl rfl rfl (Nat.le_of_ble_eq_true rfl) rfl (Nat.le_of_ble_eq_true rfl) (by decide) ?_
  refine z_if_eqB (tgt := 22) hx dX12_figure_4 (by decide) (fun zc4 => ?_) (fun zc4 => ?_)
  · skip
    refine z_aload_n hx dX12_figure_22 rfl ?_
    refine z_aload_n hx dX12_figure_23 rfl ?_
    refine z_get hx dX12_figure_24 fX12_92 rfl rfl ?_
    refine z_iload_n hx dX12_figure_27 rfl ?_
    refine z_iload_n hx dX12_figure_28 rfl ?_
    refine z_callisP hx [] (qX12_inN _ _ _ ⟨by omega, by omega⟩) dX12_figure_29 sX12_53 rfl rfl rfl (by decide) (by decide) rfl (Nat.le_of_ble_eq_true rfl) (by decide) ?_
    refine z_iconst (v := nI 2) hx dX12_figure_32 (by decide) ?_
    refine z_callivF hx (qX12_takes r ls sz fk (st) L (dr) tr y a hsz hls (hst) (∃ j, lo ≤ j ∧ j ≤ hi ∧ zVI ls sz st.1 = nI j) 2 (by omega)) dX12_figure_33 sX12_111 rfl rfl rfl rfl (Nat.le_of_ble_eq_true rfl) rfl (Nat.le_of_ble_eq_true rfl) (by decide) ?_
    exact z_iret hx hF dX12_figure_36 rfl rfl (by first | (obtain ⟨e1, e2⟩ := zfg_1 (lo := lo) (hi := hi) zc4 zc12; rw [e1, e2, zII_f (fun q => q.2)]; exact ⟨rfl, rfl⟩) | (obtain ⟨e1, e2⟩ := zfg_2 (lo := lo) (hi := hi) hls hhi (st := st) (fun q => by first | exact zc4 q.1 | exact q.2 zc12); rw [e1, ← e2]; exact ⟨rfl, rfl⟩) | exact zzz_open)
  · skip
    refine z_aload_n hx dX12_figure_7 rfl ?_
    refine z_get hx dX12_figure_8 fX12_95 rfl rfl ?_
    refine z_iconst (v := nI 2) hx dX12_figure_11 (by decide) ?_
    refine z_icmp_eqN (tgt := 22) hx dX12_figure_12 (by decide) (by omega) (by omega) (fun zc12 => ?_) (fun zc12 => ?_)
    · skip
      refine z_aload_n hx dX12_figure_22 rfl ?_
      refine z_aload_n hx dX12_figure_23 rfl ?_
      refine z_get hx dX12_figure_24 fX12_92 rfl rfl ?_
      refine z_iload_n hx dX12_figure_27 rfl ?_
      refine z_iload_n hx dX12_figure_28 rfl ?_
      refine z_callisP hx [] (qX12_inN _ _ _ ⟨by omega, by omega⟩) dX12_figure_29 sX12_53 rfl rfl rfl (by decide) (by decide) rfl (Nat.le_of_ble_eq_true rfl) (by decide) ?_
      refine z_iconst (v := nI 2) hx dX12_figure_32 (by decide) ?_
      refine z_callivF hx (qX12_takes r ls sz fk (st) L (dr) tr y a hsz hls (hst) (∃ j, lo ≤ j ∧ j ≤ hi ∧ zVI ls sz st.1 = nI j) 2 (by omega)) dX12_figure_33 sX12_111 rfl rfl rfl rfl (Nat.le_of_ble_eq_true rfl) rfl (Nat.le_of_ble_eq_true rfl) (by decide) ?_
      exact z_iret hx hF dX12_figure_36 rfl rfl (by first | (obtain ⟨e1, e2⟩ := zfg_1 (lo := lo) (hi := hi) zc4 zc12; rw [e1, e2, zII_f (fun q => q.2)]; exact ⟨rfl, rfl⟩) | (obtain ⟨e1, e2⟩ := zfg_2 (lo := lo) (hi := hi) hls hhi (st := st) (fun q => by first | exact zc4 q.1 | exact q.2 zc12); rw [e1, ← e2]; exact ⟨rfl, rfl⟩) | exact zzz_open)
    · skip
      refine z_aload_n hx dX12_figure_15 rfl ?_
      refine z_iconst (v := nI 0) hx dX12_figure_16 (by decide) ?_
      refine z_top (b := bP False) bP_F.symm ?_
      refine z_iconst (v := nI 1) hx dX12_figure_17 (by decide) ?_
      refine z_callivF hx (qX12_takes r ls sz fk (st) L (dr) tr y a hsz hls (hst) (False) 1 (by omega)) dX12_figure_18 sX12_111 rfl rfl rfl rfl (Nat.le_of_ble_eq_true rfl) rfl (Nat.le_of_ble_eq_true rfl) (by decide) ?_
      exact z_iret hx hF dX12_figure_21 rfl rfl (by first | (obtain ⟨e1, e2⟩ := zfg_1 (lo := lo) (hi := hi) zc4 zc12; rw [e1, e2, zII_f (fun q => q.2)]; exact ⟨rfl, rfl⟩) | (obtain ⟨e1, e2⟩ := zfg_2 (lo := lo) (hi := hi) hls hhi (st := st) (fun q => by first | exact zc4 q.1 | exact q.2 zc12); rw [e1, ← e2]; exact ⟨rfl, rfl⟩) | exact zzz_open)

theorem zsg_k {ls : Nat → Nat} {sz : Nat} (st : zSt) : zTks ls sz (zTok ls sz st.1 = 3) 1 st = zSgn ls sz 44 st := zSgn_k (fun _ _ => trivial) st zTok_44 (by decide)
theorem zsg_s {ls : Nat → Nat} {sz : Nat} (st : zSt) : zTks ls sz (zTok ls sz st.1 = 4) 1 st = zSgn ls sz 59 st := zSgn_k (fun _ _ => trivial) st zTok_59 (by decide)
set_option maxHeartbeats 4000000 in
set_option maxRecDepth 100000 in
theorem qX12_next (r : zMR) (ls : Nat → Nat) (sz fk : Nat) (st : zSt) (L : zL) (dr tr : Nat → Nat) (y : zMY) (a : zMA) (hsz : sz ≤ 100) (hls : ∀ j, ls j ≤ 255) (hst : st.1 ≤ sz) (lo hi : Nat) (hlh : lo ≤ hi) (hhi : hi < 1000) : zMi mX12_next 4 ([.ref 0, .int (nI lo), .int (nI hi)]) (hMs r ls sz fk (st) (L) (dr) tr y a) (fun z u => z = nI (zFgv ls sz lo hi (zSgn ls sz 44 st)) ∧ u = hMs r ls sz fk (zFgs ls sz lo hi (zSgn ls sz 44 st)) (L) (dr) tr y a) := by
  refine zMi.of (by decide) (Nat.le_of_ble_eq_true rfl) (fun x hx hF => ?_)
  have htl := zTok_le ls sz st.1
  have loop14 : ∀ (b9 : Int32), b9 = bP (zTok ls sz st.1 = 3) →  zV x 14 [some (.ref 0), some (.int (nI lo)), some (.int (nI hi))] ([.int b9, .ref 0]) (hMs r ls sz fk (st) (L) (dr) tr y a) := by
    intro b9 hb9
    subst hb9
    refine z_iconst (v := nI 1) hx dX12_next_14 (by decide) ?_
    refine z_callivF hx (qX12_takes r ls sz fk (st) L (dr) tr y a hsz hls (hst) (zTok ls sz st.1 = 3) 1 (by omega)) dX12_next_15 sX12_111 rfl rfl rfl rfl (Nat.le_of_ble_eq_true rfl) rfl (Nat.le_of_ble_eq_true rfl) (by decide) ?_
    rw [zsg_k]
    refine z_pop hx dX12_next_18 rfl ?_
    refine z_aload_n hx dX12_next_19 rfl ?_
    refine z_iload_n hx dX12_next_20 rfl ?_
    refine z_iload_n hx dX12_next_21 rfl ?_
    refine z_callivF hx (qX12_figure r ls sz fk (zSgn ls sz 44 st) L (dr) tr y a hsz hls ((zSgn_le hst).1) (lo) (hi) (by omega) (by omega)) dX12_next_22 sX12_115 rfl rfl rfl rfl (Nat.le_of_ble_eq_true rfl) rfl (Nat.le_of_ble_eq_true rfl) (by decide) ?_
    exact z_iret hx hF dX12_next_25 rfl rfl ⟨rfl, rfl⟩
  refine z_aload_n hx dX12_next_0 rfl ?_
  refine z_aload_n hx dX12_next_1 rfl ?_
  refine z_get hx dX12_next_2 fX12_95 rfl rfl ?_
  refine z_iconst (v := nI 3) hx dX12_next_5 (by decide) ?_
  refine z_icmp_neN (tgt := 13) hx dX12_next_6 (by decide) (by omega) (by omega) (fun zc6 => ?_) (fun zc6 => ?_)
  · skip
    refine z_iconst (v := nI 0) hx dX12_next_13 (by decide) ?_
    first | exact loop14 _ (bP_t zc6).symm | exact loop14 _ (bP_f zc6).symm
  · skip
    refine z_iconst (v := nI 1) hx dX12_next_9 (by decide) ?_
    refine z_goto (tgt := 14) hx dX12_next_10 (by decide) ?_
    first | exact loop14 _ (bP_t zc6).symm | exact loop14 _ (bP_f zc6).symm

