/-! the reference's rows -/
theorem zsh9 (x : BitVec 32) (k w : Nat) (hk : k + w = 32) (hw : 0 < w) : (x <<< k).sshiftRight k = (x.signExtend w).signExtend 32 := by
  apply BitVec.eq_of_getLsbD_eq
  intro i hi
  simp only [BitVec.getLsbD_sshiftRight, BitVec.msb_eq_getLsbD_last, BitVec.getLsbD_signExtend, BitVec.getLsbD_shiftLeft]
  by_cases h : i < w
  · have h1 : k + i < 32 := by omega
    have h2 : ¬ k + i < k := by omega
    have h3 : k + i - k = i := by omega
    simp [hi, h, h1, h2, h3]
  · have h1 : ¬ k + i < 32 := by omega
    have h2 : ¬ 31 < k := by omega
    have h3 : 31 - k = w - 1 := by omega
    have h4 : w - 1 < w := by omega
    have h5 : w - 1 < 32 := by omega
    simp [hi, h, h1, h2, h3, h4, h5]
theorem zcut8 (v : Int32) : (v <<< (nI 24 &&& 31)) >>> (nI 24 &&& 31) = v.toInt8.toInt32 := by
  apply Int32.toBitVec_inj.mp
  rw [Int32.toBitVec_shiftRight, Int32.toBitVec_shiftLeft, Int8.toBitVec_toInt32, Int32.toBitVec_toInt8]
  have e : (nI 24 &&& 31).toBitVec.smod 32 = 24#32 := by decide
  rw [e]
  exact zsh9 v.toBitVec 24 8 rfl (by decide)
theorem zcut16 (v : Int32) : (v <<< (nI 16 &&& 31)) >>> (nI 16 &&& 31) = v.toInt16.toInt32 := by
  apply Int32.toBitVec_inj.mp
  rw [Int32.toBitVec_shiftRight, Int32.toBitVec_shiftLeft, Int16.toBitVec_toInt32, Int32.toBitVec_toInt16]
  have e : (nI 16 &&& 31).toBitVec.smod 32 = 16#32 := by decide
  rw [e]
  exact zsh9 v.toBitVec 16 16 rfl (by decide)
def mLa (la : Nat → Nat) (sz : Nat → Option Nat) : Nat → Int32 := fun j => match sz j with | none => -1000000 | some _ => nI (la j)
def mIt (it : Nat → Nat → Int32) : Nat → Int32 := fun x => it (x / 40) (x % 40)
def zMn (sz : Nat → Option Nat) (mn : Nat → Nat) : Prop := ∀ j s, sz j = some s → mn j = s
def hMr (ln : Nat → Int32) (mn : Nat → Nat) (im sp : Nat → Int32) (st : Nat) (t : zMT) (L : zL) (dr tr : Nat → Nat) (y : zMY) (a : zMA) : List zE :=
  [zO 11 [.ref 1, .ref 2, .ref 3, .ref 4, .int (nI st), .ref 5, .int (nI t.2.1), .int (nI t.2.2.1), .int t.2.2.2.1, .int (nI t.2.2.2.2.1), .int (nI t.2.2.2.2.2.1), .int (nI t.2.2.2.2.2.2.1), .int t.2.2.2.2.2.2.2, .ref 6, .ref 7, .ref 8, .ref 9, .int (nI y.2.1), .ref 10, .ref 11, .ref 12, .int (nI a.2)],
   zI 8 ln, zN 8 mn, zI 320 im, zI 40 sp, zN 100 t.1, zN 34 (fl L), zN 34 dr, zN 34 tr, zN 816 y.1, zN 68 y.2.2.1, zZ 2 y.2.2.2, zN 16 a.1]
theorem mLa_none {la : Nat → Nat} {sz : Nat → Option Nat} (hla : ∀ j, la j ≤ 2) (j : Nat) : mLa la sz j = -1000000 ↔ sz j = none := by
  unfold mLa
  cases h : sz j with
  | none => exact ⟨fun _ => rfl, fun _ => rfl⟩
  | some n =>
    have := hla j
    constructor
    · intro e
      have e : nI (la j) = -1000000 := e
      have h2 := congrArg Int32.toInt e
      have h3 : (nI (la j)).toInt = la j := nI_toInt (by omega)
      have h4 : (-1000000 : Int32).toInt = -1000000 := by decide
      omega
    · intro e; cases e
theorem mLa_some {la : Nat → Nat} {sz : Nat → Option Nat} {j n : Nat} (h : sz j = some n) : mLa la sz j = nI (la j) := by unfold mLa; rw [h]
theorem mLa_up (la : Nat → Nat) (sz : Nat → Option Nat) (j l n : Nat) : upd (mLa la sz) j (nI l) = mLa (zup la j l) (zuo sz j (some n)) := by
  funext k
  by_cases h : k = j
  · subst h; unfold mLa; rw [zuo_s, zup_s]; exact if_pos rfl
  · unfold mLa; rw [zuo_n h, zup_n h]; exact if_neg h
theorem mLa_dn (la : Nat → Nat) (sz : Nat → Option Nat) (j : Nat) : upd (mLa la sz) j (-1000000) = mLa la (zuo sz j none) := by
  funext k
  by_cases h : k = j
  · subst h; unfold mLa; rw [zuo_s]; exact if_pos rfl
  · unfold mLa; rw [zuo_n h]; exact if_neg h
theorem mIt_up (it : Nat → Nat → Int32) (j k : Nat) (hk : k < 40) (v : Int32) : upd (mIt it) (40 * j + k) v = mIt (zuo it j (upd (it j) k v)) := by
  funext x
  by_cases h : x = 40 * j + k
  · subst h
    have e1 : (40 * j + k) / 40 = j := by omega
    have e2 : (40 * j + k) % 40 = k := by omega
    unfold mIt
    rw [e1, e2, zuo_s]
    exact (if_pos rfl).trans (if_pos rfl).symm
  · unfold mIt
    by_cases h2 : x / 40 = j
    · rw [h2, zuo_s]
      exact (if_neg h).trans ((congrArg (fun q => it q (x % 40)) h2).trans (if_neg (fun e => h (by omega))).symm)
    · rw [zuo_n h2]; exact if_neg h
theorem mIt_at (it : Nat → Nat → Int32) (j k : Nat) (hk : k < 40) : mIt it (40 * j + k) = it j k := by
  unfold mIt
  rw [show (40 * j + k) / 40 = j by omega, show (40 * j + k) % 40 = k by omega]
set_option maxHeartbeats 4000000 in
set_option maxRecDepth 100000 in
theorem qX12_cut (l : Nat) (hl : l ≤ 2) (v : Int32) : zMi mX12_cut 0 ([.int (nI l), .int v]) ([]) (fun z u => z = zCut l v ∧ u = []) := by
  refine zMi.of (by decide) (Nat.le_of_ble_eq_true rfl) (fun x hx hF => ?_)
  refine z_iload_n hx dX12_cut_0 rfl ?_
  first | refine z_if_neB (tgt := 14) hx dX12_cut_1 (by decide) (fun zc1 => ?_) (fun zc1 => ?_) | refine z_if_neN (tgt := 14) hx dX12_cut_1 (by decide) (by omega) (fun zc1 => ?_) (fun zc1 => ?_) | refine z_if_ne (tgt := 14) hx dX12_cut_1 (by decide) (fun zc1 => ?_) (fun zc1 => ?_)
  · skip
    refine z_iload_n hx dX12_cut_14 rfl ?_
    refine z_iconst (v := nI 1) hx dX12_cut_15 (by decide) ?_
    first | refine z_icmp_neN (tgt := 29) hx dX12_cut_16 (by decide) (by omega) (by omega) (fun zc16 => ?_) (fun zc16 => ?_) | refine z_icmp_ne (tgt := 29) hx dX12_cut_16 (by decide) (fun zc16 => ?_) (fun zc16 => ?_)
    · skip
      refine z_iload_n hx dX12_cut_29 rfl ?_
      exact z_iret hx hF dX12_cut_30 rfl rfl ⟨by unfold zCut; first | rw [if_pos zc1, zcut8] | rw [if_neg (by omega), if_pos zc16, zcut16] | rw [if_neg (by omega), if_neg zc16], rfl⟩
    · skip
      refine z_iload_n hx dX12_cut_19 rfl ?_
      refine z_bipush (v := nI 16) hx dX12_cut_20 (by decide) ?_
      refine z_ishl hx dX12_cut_22 ?_
      refine z_bipush (v := nI 16) hx dX12_cut_23 (by decide) ?_
      refine z_ishr hx dX12_cut_25 ?_
      refine z_goto (tgt := 30) hx dX12_cut_26 (by decide) ?_
      exact z_iret hx hF dX12_cut_30 rfl rfl ⟨by unfold zCut; first | rw [if_pos zc1, zcut8] | rw [if_neg (by omega), if_pos zc16, zcut16] | rw [if_neg (by omega), if_neg zc16], rfl⟩
  · skip
    refine z_iload_n hx dX12_cut_4 rfl ?_
    refine z_bipush (v := nI 24) hx dX12_cut_5 (by decide) ?_
    refine z_ishl hx dX12_cut_7 ?_
    refine z_bipush (v := nI 24) hx dX12_cut_8 (by decide) ?_
    refine z_ishr hx dX12_cut_10 ?_
    refine z_goto (tgt := 30) hx dX12_cut_11 (by decide) ?_
    exact z_iret hx hF dX12_cut_30 rfl rfl ⟨by unfold zCut; first | rw [if_pos zc1, zcut8] | rw [if_neg (by omega), if_pos zc16, zcut16] | rw [if_neg (by omega), if_neg zc16], rfl⟩

set_option maxHeartbeats 4000000 in
set_option maxRecDepth 100000 in
theorem qX12_isMissing (la : Nat → Nat) (sz : Nat → Option Nat) (it : Nat → Nat → Int32) (mn : Nat → Nat) (sp : Nat → Int32) (st : Nat) (t : zMT) (L : zL) (dr tr : Nat → Nat) (y : zMY) (a : zMA) (hs : zRok sz) (hla : ∀ j, la j ≤ 2) (hmn : zMn sz mn) (j : Nat) (hj : j < 8) : zMi mX12_isMissing 0 ([.ref 0, .int (nI j)]) (hMr (mLa la sz) (mn) (mIt it) (sp) (st) t L dr tr y a) (fun z u => z = bP (sz j = none) ∧ u = hMr (mLa la sz) (mn) (mIt it) (sp) (st) t L dr tr y a) := by
  refine zMi.of (by decide) (Nat.le_of_ble_eq_true rfl) (fun x hx hF => ?_)
  refine z_aload_n hx dX12_isMissing_0 rfl ?_
  refine z_get hx dX12_isMissing_1 fX12_7 rfl rfl ?_
  refine z_iload_n hx dX12_isMissing_4 rfl ?_
  refine z_ialdJ hx dX12_isMissing_5 rfl (by decide) (by omega) ?_
  refine z_ldc hx dX12_isMissing_6 kX12_47 ?_
  refine z_icmp_ne (tgt := 15) hx dX12_isMissing_8 (by decide) (fun zc8 => ?_) (fun zc8 => ?_)
  · skip
    refine z_iconst (v := nI 0) hx dX12_isMissing_15 (by decide) ?_
    exact z_zret hx hF dX12_isMissing_16 rfl (by first | exact bP_nar _ | rfl) rfl ⟨by first | exact (bP_t ((mLa_none hla j).mp zc8)).symm | exact (bP_f (fun e => zc8 ((mLa_none hla j).mpr e))).symm, rfl⟩
  · skip
    refine z_iconst (v := nI 1) hx dX12_isMissing_11 (by decide) ?_
    refine z_goto (tgt := 16) hx dX12_isMissing_12 (by decide) ?_
    exact z_zret hx hF dX12_isMissing_16 rfl (by first | exact bP_nar _ | rfl) rfl ⟨by first | exact (bP_t ((mLa_none hla j).mp zc8)).symm | exact (bP_f (fun e => zc8 ((mLa_none hla j).mpr e))).symm, rfl⟩

theorem zspan2 {s : Nat} {i n : Int32} (hs : s ≤ 40) : zPart s i n ↔ (¬ i < 0 ∧ ¬ n < 0 ∧ ¬ nI s < i ∧ ¬ nI s - i < n) := by
  have hn := fb_rng n
  have hi := fb_rng i
  have hsI : (nI s).toInt = s := nI_toInt (by omega)
  rw [Int32.lt_iff_toInt_lt, Int32.lt_iff_toInt_lt, Int32.lt_iff_toInt_lt, Int32.lt_iff_toInt_lt, zi0, hsI]
  constructor
  · rintro ⟨a, b, rfl, rfl, h⟩
    have ha : (nI a).toInt = a := nI_toInt (by omega)
    have hb : (nI b).toInt = b := nI_toInt (by omega)
    rw [fb_subI (by omega) (by omega), hsI, ha, hb]
    omega
  · rintro ⟨h1, h2, h3, h4⟩
    rw [fb_subI (by omega) (by omega), hsI] at h4
    refine ⟨i.toInt.toNat, n.toInt.toNat, Int32.toInt_inj.mp ?_, Int32.toInt_inj.mp ?_, by omega⟩
    · rw [nI_toInt (by omega)]; omega
    · rw [nI_toInt (by omega)]; omega
set_option maxHeartbeats 4000000 in
set_option maxRecDepth 100000 in
theorem qX12_isPart (la : Nat → Nat) (sz : Nat → Option Nat) (it : Nat → Nat → Int32) (mn : Nat → Nat) (sp : Nat → Int32) (st : Nat) (t : zMT) (L : zL) (dr tr : Nat → Nat) (y : zMY) (a : zMA) (hs : zRok sz) (hla : ∀ j, la j ≤ 2) (hmn : zMn sz mn) (j s : Nat) (hj : j < 8) (hsj : sz j = some s) (i n : Int32) : zMi mX12_isPart 0 ([.ref 0, .int (nI j), .int i, .int n]) (hMr (mLa la sz) (mn) (mIt it) (sp) (st) t L dr tr y a) (fun z u => z = bP (zPart s i n) ∧ u = hMr (mLa la sz) (mn) (mIt it) (sp) (st) t L dr tr y a) := by
  refine zMi.of (by decide) (Nat.le_of_ble_eq_true rfl) (fun x hx hF => ?_)
  have h40 := hs _ _ hsj
  have hmj := hmn _ _ hsj
  have hsp := zspan2 (s := s) (i := i) (n := n) h40
  refine z_iload_n hx dX12_isPart_0 rfl ?_
  refine z_if_lt (tgt := 34) hx dX12_isPart_1 (by decide) (fun zc1 => ?_) (fun zc1 => ?_)
  · skip
    refine z_iconst (v := nI 0) hx dX12_isPart_34 (by decide) ?_
    exact z_zret hx hF dX12_isPart_35 rfl (by first | exact bP_nar _ | rfl) rfl ⟨by first | exact (bP_t (hsp.mpr ⟨zc1, zc5, zc15, zc27⟩)).symm | exact (bP_f (fun e => (hsp.mp e).1 zc1)).symm | exact (bP_f (fun e => (hsp.mp e).2.1 zc5)).symm | exact (bP_f (fun e => (hsp.mp e).2.2.1 zc15)).symm | exact (bP_f (fun e => (hsp.mp e).2.2.2 zc27)).symm | exact zzz_open, rfl⟩
  · skip
    refine z_iload_n hx dX12_isPart_4 rfl ?_
    refine z_if_lt (tgt := 34) hx dX12_isPart_5 (by decide) (fun zc5 => ?_) (fun zc5 => ?_)
    · skip
      refine z_iconst (v := nI 0) hx dX12_isPart_34 (by decide) ?_
      exact z_zret hx hF dX12_isPart_35 rfl (by first | exact bP_nar _ | rfl) rfl ⟨by first | exact (bP_t (hsp.mpr ⟨zc1, zc5, zc15, zc27⟩)).symm | exact (bP_f (fun e => (hsp.mp e).1 zc1)).symm | exact (bP_f (fun e => (hsp.mp e).2.1 zc5)).symm | exact (bP_f (fun e => (hsp.mp e).2.2.1 zc15)).symm | exact (bP_f (fun e => (hsp.mp e).2.2.2 zc27)).symm | exact zzz_open, rfl⟩
    · skip
      refine z_iload_n hx dX12_isPart_8 rfl ?_
      refine z_aload_n hx dX12_isPart_9 rfl ?_
      refine z_get hx dX12_isPart_10 fX12_13 rfl rfl ?_
      refine z_iload_n hx dX12_isPart_13 rfl ?_
      refine z_ialdJ hx dX12_isPart_14 rfl (by decide) (by omega) ?_
      refine z_topN hmj ?_
      refine z_icmp_gt (tgt := 34) hx dX12_isPart_15 (by decide) (fun zc15 => ?_) (fun zc15 => ?_)
      · skip
        refine z_iconst (v := nI 0) hx dX12_isPart_34 (by decide) ?_
        exact z_zret hx hF dX12_isPart_35 rfl (by first | exact bP_nar _ | rfl) rfl ⟨by first | exact (bP_t (hsp.mpr ⟨zc1, zc5, zc15, zc27⟩)).symm | exact (bP_f (fun e => (hsp.mp e).1 zc1)).symm | exact (bP_f (fun e => (hsp.mp e).2.1 zc5)).symm | exact (bP_f (fun e => (hsp.mp e).2.2.1 zc15)).symm | exact (bP_f (fun e => (hsp.mp e).2.2.2 zc27)).symm | exact zzz_open, rfl⟩
      · skip
        refine z_iload_n hx dX12_isPart_18 rfl ?_
        refine z_aload_n hx dX12_isPart_19 rfl ?_
        refine z_get hx dX12_isPart_20 fX12_13 rfl rfl ?_
        refine z_iload_n hx dX12_isPart_23 rfl ?_
        refine z_ialdJ hx dX12_isPart_24 rfl (by decide) (by omega) ?_
        refine z_topN hmj ?_
        refine z_iload_n hx dX12_isPart_25 rfl ?_
        refine z_isub hx dX12_isPart_26 ?_
        refine z_icmp_gt (tgt := 34) hx dX12_isPart_27 (by decide) (fun zc27 => ?_) (fun zc27 => ?_)
        · skip
          refine z_iconst (v := nI 0) hx dX12_isPart_34 (by decide) ?_
          exact z_zret hx hF dX12_isPart_35 rfl (by first | exact bP_nar _ | rfl) rfl ⟨by first | exact (bP_t (hsp.mpr ⟨zc1, zc5, zc15, zc27⟩)).symm | exact (bP_f (fun e => (hsp.mp e).1 zc1)).symm | exact (bP_f (fun e => (hsp.mp e).2.1 zc5)).symm | exact (bP_f (fun e => (hsp.mp e).2.2.1 zc15)).symm | exact (bP_f (fun e => (hsp.mp e).2.2.2 zc27)).symm | exact zzz_open, rfl⟩
        · skip
          refine z_iconst (v := nI 1) hx dX12_isPart_30 (by decide) ?_
          refine z_goto (tgt := 35) hx dX12_isPart_31 (by decide) ?_
          exact z_zret hx hF dX12_isPart_35 rfl (by first | exact bP_nar _ | rfl) rfl ⟨by first | exact (bP_t (hsp.mpr ⟨zc1, zc5, zc15, zc27⟩)).symm | exact (bP_f (fun e => (hsp.mp e).1 zc1)).symm | exact (bP_f (fun e => (hsp.mp e).2.1 zc5)).symm | exact (bP_f (fun e => (hsp.mp e).2.2.1 zc15)).symm | exact (bP_f (fun e => (hsp.mp e).2.2.2 zc27)).symm | exact zzz_open, rfl⟩

theorem zMn_up {sz : Nat → Option Nat} {mn : Nat → Nat} (h : zMn sz mn) (j n : Nat) : zMn (zuo sz j (some n)) (zup mn j n) := fun k s hk => by
  by_cases e : k = j
  · subst e; rw [zuo_s] at hk; rw [zup_s]; exact Option.some.inj hk
  · rw [zuo_n e] at hk; rw [zup_n e]; exact h k s hk
theorem zMn_dn {sz : Nat → Option Nat} {mn : Nat → Nat} (h : zMn sz mn) (j : Nat) : zMn (zuo sz j none) mn := fun k s hk => by
  by_cases e : k = j
  · subst e; rw [zuo_s] at hk; cases hk
  · rw [zuo_n e] at hk; exact h k s hk
/-- a row whose first k items are 0 -/
def zZr (it : Nat → Nat → Int32) (j k : Nat) : Nat → Nat → Int32 := zuo it j (fun c => if c < k then 0 else it j c)
theorem zZr_0 (it : Nat → Nat → Int32) (j : Nat) : it = zZr it j 0 := by
  funext a b
  unfold zZr
  by_cases h : a = j
  · subst h; rw [zuo_s]; exact (if_neg (by omega)).symm
  · rw [zuo_n h]
theorem zZr_s (it : Nat → Nat → Int32) (j k : Nat) (hk : k < 40) : upd (mIt (zZr it j k)) (40 * j + k) 0 = mIt (zZr it j (k + 1)) := by
  rw [mIt_up _ j k hk]
  congr 1
  funext a b
  by_cases h : a = j
  · subst h
    unfold zZr
    rw [zuo_s, zuo_s, zuo_s]
    by_cases hb : b = k
    · subst hb; exact (if_pos rfl).trans (if_pos (by omega)).symm
    · refine (if_neg hb).trans ?_
      show (if b < k then 0 else it a b) = if b < k + 1 then 0 else it a b
      by_cases hk2 : b < k
      · rw [if_pos hk2, if_pos (by omega)]
      · rw [if_neg hk2, if_neg (by omega)]
  · unfold zZr
    rw [zuo_n h, zuo_n h, zuo_n h]
theorem zZr_e (it : Nat → Nat → Int32) (j x : Nat) (hx : x < 320) : mIt (zZr it j 40) x = mIt (zuo it j (fun _ => 0)) x := by
  unfold mIt zZr
  by_cases h : x / 40 = j
  · rw [h, zuo_s, zuo_s]; exact if_pos (by omega)
  · rw [zuo_n h, zuo_n h]
set_option maxHeartbeats 4000000 in
set_option maxRecDepth 100000 in
theorem qX12_row (la : Nat → Nat) (sz : Nat → Option Nat) (it : Nat → Nat → Int32) (mn : Nat → Nat) (sp : Nat → Int32) (st : Nat) (t : zMT) (L : zL) (dr tr : Nat → Nat) (y : zMY) (a : zMA) (hs : zRok sz) (hla : ∀ j, la j ≤ 2) (hmn : zMn sz mn) (v w x9 : Int32) : zMi mX12_row 2 ([.ref 0, .int v, .int w, .int x9]) (hMr (mLa la sz) (mn) (mIt it) (sp) (st) t L dr tr y a) (fun z u => ∃ R9 s9 mn9 sp9, (z, R9, s9) = aRow (la, sz, it) st v w x9 ∧ zMn R9.2.1 mn9 ∧ u = hMr (mLa R9.1 R9.2.1) mn9 (mIt R9.2.2) sp9 s9 t L dr tr y a) := by
  refine zMi.of (by decide) (Nat.le_of_ble_eq_true rfl) (fun x hx hF => ?_)
  have hloop : ∀ (zj : Nat) (zhj : zj ≤ 7) (ze : Nat) (zhe : ze ≤ 2) (zx : Nat) (zhx : zx ≤ 40) (zc19 : nI zx ≤ nI 40) (zc26 : 0 ≤ nI zx) (hF : zFi x (hMr (mLa la sz) (mn) (mIt it) (sp) (st) t L dr tr y a).length (fun z u => ∃ R9 s9 mn9 sp9, (z, R9, s9) = aRow (la, sz, it) st (nI zj) (nI ze) (nI zx) ∧ zMn R9.2.1 mn9 ∧ u = hMr (mLa R9.1 R9.2.1) mn9 (mIt R9.2.2) sp9 s9 t L dr tr y a)) (n52 k : Nat), 40 - k = n52 → k ≤ 40 → zV x 52 [some (.ref 0), some (.int (nI zj)), some (.int (nI ze)), some (.int (nI zx)), some (.int (nI k))] [] (hMr (mLa (zup la zj ze) (zuo sz zj (some zx))) (zup mn zj zx) (mIt (zZr it zj k)) (sp) (st) t L dr tr y a) := by
    intro zj zhj ze zhe zx zhx zc19 zc26 hF n52
    induction n52 using Nat.strongRecOn with
    | ind n52 ih =>
      intro k hn hk
      refine z_iload hx dX12_row_52 rfl ?_
      refine z_bipush (v := nI 40) hx dX12_row_54 (by decide) ?_
      first | refine z_icmp_geN (tgt := 78) hx dX12_row_56 (by decide) (by omega) (by omega) (fun zc56 => ?_) (fun zc56 => ?_) | refine z_icmp_ge (tgt := 78) hx dX12_row_56 (by decide) (fun zc56 => ?_) (fun zc56 => ?_)
      · skip
        refine z_cell (q := 3) (mIt (zuo it zj (fun _ => 0))) rfl (fun q9 h9 => by rw [show k = 40 by omega]; exact zZr_e it zj q9 h9) ?_
        refine z_heap (show _ = hMr (mLa (zup la zj ze) (zuo sz zj (some zx))) (zup mn zj zx) (mIt (zuo it zj (fun _ => 0))) (sp) (st) t L dr tr y a from rfl) ?_
        refine z_aload_n hx dX12_row_78 rfl ?_
        refine z_iload_n hx dX12_row_79 rfl ?_
        refine z_callivF hx (qX12_well (mLa (zup la zj ze) (zuo sz zj (some zx)), zup mn zj zx, mIt (zuo it zj (fun _ => 0)), sp, st) t L dr tr y a (nI zx)) dX12_row_80 sX12_66 rfl rfl rfl rfl (Nat.le_of_ble_eq_true rfl) rfl (Nat.le_of_ble_eq_true rfl) (by decide) ?_
        refine z_heap (show _ = hMr (mLa (zup la zj ze) (zuo sz zj (some zx))) (zup mn zj zx) (mIt (zuo it zj (fun _ => 0))) (sp) (0) t L dr tr y a from rfl) ?_
        exact z_iret hx hF dX12_row_83 rfl rfl ⟨(zup la zj ze, zuo sz zj (some zx), zuo it zj (fun _ => 0)), 0, zup mn zj zx, sp, by unfold aRow; first | (rw [zIG_t ⟨⟨zj, Nat.zero_le _, zhj, rfl⟩, ⟨ze, Nat.zero_le _, zhe, rfl⟩, zc19⟩, zIG_f (Int32.not_lt.mpr zc26), zNat_nI (by omega), zNat_nI (by omega), zNat_nI (by omega)]) | exact zzz_open, zMn_up hmn zj zx, rfl⟩
      · skip
        refine z_aload_n hx dX12_row_59 rfl ?_
        refine z_get hx dX12_row_60 fX12_16 rfl rfl ?_
        refine z_bipush (v := nI 40) hx dX12_row_63 (by decide) ?_
        refine z_iload_n hx dX12_row_65 rfl ?_
        first | refine z_imulN hx dX12_row_66 ?_ | refine z_imul hx dX12_row_66 ?_
        refine z_iload hx dX12_row_67 rfl ?_
        first | refine z_iaddN hx dX12_row_69 ?_ | refine z_iadd hx dX12_row_69 ?_
        refine z_iconst (v := nI 0) hx dX12_row_70 (by decide) ?_
        refine z_iastJ hx dX12_row_71 rfl (by decide) (by omega) ?_
        refine z_heap (show _ = hMr (mLa (zup la zj ze) (zuo sz zj (some zx))) (zup mn zj zx) (mIt (zZr it zj (k + 1))) (sp) (st) t L dr tr y a by rw [← zZr_s it zj k (by omega)]; rfl) ?_
        first | refine z_iincN (z := 1) hx dX12_row_72 rfl rfl ?_ | refine z_iinc hx dX12_row_72 rfl rfl rfl ?_
        refine z_goto (tgt := 52) hx dX12_row_75 (by decide) ?_
        exact ih _ (by omega) (k + 1) rfl (by omega)
  refine z_iload_n hx dX12_row_0 rfl ?_
  refine z_callisP hx [] (qX12_isRow _) dX12_row_1 sX12_57 rfl rfl rfl (by decide) (by decide) rfl (Nat.le_of_ble_eq_true rfl) (by decide) ?_
  first | refine z_if_eqB (tgt := 22) hx dX12_row_4 (by decide) (fun zc4 => ?_) (fun zc4 => ?_) | refine z_if_eqN (tgt := 22) hx dX12_row_4 (by decide) (by omega) (fun zc4 => ?_) (fun zc4 => ?_) | refine z_if_eq (tgt := 22) hx dX12_row_4 (by decide) (fun zc4 => ?_) (fun zc4 => ?_)
  · skip
    refine z_ldc hx dX12_row_22 kX12_61 ?_
    exact z_iret hx hF dX12_row_24 rfl rfl ⟨(la, sz, it), st, mn, sp, by unfold aRow; first | (rw [zIG_f (fun h => zc4 h.1)]) | (rw [zIG_f (fun h => zc13 h.2.1)]) | (rw [zIG_f (fun h => zc19 h.2.2)]) | (rw [zIG_t ⟨⟨zj, Nat.zero_le _, zhj, rfl⟩, ⟨ze, Nat.zero_le _, zhe, rfl⟩, zc19⟩, zIG_t (Int32.not_le.mp zc26)]) | exact zzz_open, hmn, rfl⟩
  · skip
    obtain ⟨zj, -, zhj, rfl⟩ := zc4
    refine z_iload_n hx dX12_row_7 rfl ?_
    refine z_iconst (v := nI 0) hx dX12_row_8 (by decide) ?_
    refine z_iconst (v := nI 2) hx dX12_row_9 (by decide) ?_
    refine z_callisP hx [] (qX12_inN _ _ _ (by decide)) dX12_row_10 sX12_53 rfl rfl rfl (by decide) (by decide) rfl (Nat.le_of_ble_eq_true rfl) (by decide) ?_
    first | refine z_if_eqB (tgt := 22) hx dX12_row_13 (by decide) (fun zc13 => ?_) (fun zc13 => ?_) | refine z_if_eqN (tgt := 22) hx dX12_row_13 (by decide) (by omega) (fun zc13 => ?_) (fun zc13 => ?_) | refine z_if_eq (tgt := 22) hx dX12_row_13 (by decide) (fun zc13 => ?_) (fun zc13 => ?_)
    · skip
      refine z_ldc hx dX12_row_22 kX12_61 ?_
      exact z_iret hx hF dX12_row_24 rfl rfl ⟨(la, sz, it), st, mn, sp, by unfold aRow; first | (rw [zIG_f (fun h => zc4 h.1)]) | (rw [zIG_f (fun h => zc13 h.2.1)]) | (rw [zIG_f (fun h => zc19 h.2.2)]) | (rw [zIG_t ⟨⟨zj, Nat.zero_le _, zhj, rfl⟩, ⟨ze, Nat.zero_le _, zhe, rfl⟩, zc19⟩, zIG_t (Int32.not_le.mp zc26)]) | exact zzz_open, hmn, rfl⟩
    · skip
      obtain ⟨ze, -, zhe, rfl⟩ := zc13
      refine z_iload_n hx dX12_row_16 rfl ?_
      refine z_bipush (v := nI 40) hx dX12_row_17 (by decide) ?_
      refine z_icmp_le (tgt := 25) hx dX12_row_19 (by decide) (fun zc19 => ?_) (fun zc19 => ?_)
      · skip
        refine z_iload_n hx dX12_row_25 rfl ?_
        refine z_if_ge (tgt := 35) hx dX12_row_26 (by decide) (fun zc26 => ?_) (fun zc26 => ?_)
        · skip
          obtain ⟨zx, zhx, rfl⟩ := z_nn zc19 (Int32.not_lt.mpr zc26) (by decide)
          refine z_aload_n hx dX12_row_35 rfl ?_
          refine z_get hx dX12_row_36 fX12_7 rfl rfl ?_
          refine z_iload_n hx dX12_row_39 rfl ?_
          refine z_iload_n hx dX12_row_40 rfl ?_
          refine z_iastJ hx dX12_row_41 rfl (by decide) (by omega) ?_
          refine z_heap (show _ = hMr (mLa (zup la zj ze) (zuo sz zj (some zx))) (mn) (mIt it) (sp) (st) t L dr tr y a by rw [← mLa_up la sz zj ze zx]; rfl) ?_
          refine z_aload_n hx dX12_row_42 rfl ?_
          refine z_get hx dX12_row_43 fX12_13 rfl rfl ?_
          refine z_iload_n hx dX12_row_46 rfl ?_
          refine z_iload_n hx dX12_row_47 rfl ?_
          refine z_iastN hx dX12_row_48 rfl (by decide) (by omega) ?_
          refine z_heap (show _ = hMr (mLa (zup la zj ze) (zuo sz zj (some zx))) (zup mn zj zx) (mIt it) (sp) (st) t L dr tr y a from rfl) ?_
          refine z_iconst (v := nI 0) hx dX12_row_49 (by decide) ?_
          refine z_istore hx dX12_row_50 (Nat.le_of_ble_eq_true rfl) rfl ?_
          exact z_heap (congrArg (fun q => hMr (mLa (zup la zj ze) (zuo sz zj (some zx))) (zup mn zj zx) (mIt q) sp st t L dr tr y a) (zZr_0 it zj)) (hloop zj zhj ze zhe zx zhx zc19 zc26 hF _ 0 rfl (Nat.zero_le _))
        · skip
          refine z_aload_n hx dX12_row_29 rfl ?_
          refine z_iconst (v := nI 4) hx dX12_row_30 (by decide) ?_
          refine z_callivF hx (qX12_found (mLa la sz, mn, mIt it, sp, st) t L dr tr y a (4)) dX12_row_31 sX12_62 rfl rfl rfl rfl (Nat.le_of_ble_eq_true rfl) rfl (Nat.le_of_ble_eq_true rfl) (by decide) ?_
          refine z_heap (show _ = hMr (mLa la sz) (mn) (mIt it) (sp) (4) t L dr tr y a from rfl) ?_
          exact z_iret hx hF dX12_row_34 rfl rfl ⟨(la, sz, it), 4, mn, sp, by unfold aRow; first | (rw [zIG_f (fun h => zc4 h.1)]) | (rw [zIG_f (fun h => zc13 h.2.1)]) | (rw [zIG_f (fun h => zc19 h.2.2)]) | (rw [zIG_t ⟨⟨zj, Nat.zero_le _, zhj, rfl⟩, ⟨ze, Nat.zero_le _, zhe, rfl⟩, zc19⟩, zIG_t (Int32.not_le.mp zc26)]) | exact zzz_open, hmn, rfl⟩
      · skip
        refine z_ldc hx dX12_row_22 kX12_61 ?_
        exact z_iret hx hF dX12_row_24 rfl rfl ⟨(la, sz, it), st, mn, sp, by unfold aRow; first | (rw [zIG_f (fun h => zc4 h.1)]) | (rw [zIG_f (fun h => zc13 h.2.1)]) | (rw [zIG_f (fun h => zc19 h.2.2)]) | (rw [zIG_t ⟨⟨zj, Nat.zero_le _, zhj, rfl⟩, ⟨ze, Nat.zero_le _, zhe, rfl⟩, zc19⟩, zIG_t (Int32.not_le.mp zc26)]) | exact zzz_open, hmn, rfl⟩

theorem zFnd_n {s : Option Nat} {i n : Int32} (h : s = none) : zFnd s i n = 1 := by subst h; rfl
theorem zFnd_s {s m : Nat} {x : Option Nat} {i n : Int32} (h : x = some s) (hp : zPart s i n) : zFnd x i n = 0 := by subst h; exact zIf_t hp
theorem zFnd_p {s : Nat} {x : Option Nat} {i n : Int32} (h : x = some s) (hp : ¬ zPart s i n) : zFnd x i n = 2 := by subst h; exact zIf_f hp
theorem zPart_1 {s : Nat} {i : Int32} (hs : s ≤ 40) : zPart s i (nI 1) ↔ inP s i := by
  constructor
  · rintro ⟨a, b, rfl, hb, h⟩
    have := (nI_eq (a := 1) (b := b) (by omega) (by omega)).mp hb
    exact ⟨a, by omega, rfl⟩
  · rintro ⟨j, hj, rfl⟩
    exact ⟨j, 1, rfl, rfl, by omega⟩
theorem zne1 : ¬ (1 : Nat) = 0 := by decide
theorem zne2 : ¬ (2 : Nat) = 0 := by decide
theorem zne5 : ¬ (5 : Nat) = 0 := by decide
set_option maxHeartbeats 4000000 in
set_option maxRecDepth 100000 in
theorem qX12_set (la : Nat → Nat) (sz : Nat → Option Nat) (it : Nat → Nat → Int32) (mn : Nat → Nat) (sp : Nat → Int32) (st : Nat) (t : zMT) (L : zL) (dr tr : Nat → Nat) (y : zMY) (a : zMA) (hs : zRok sz) (hla : ∀ j, la j ≤ 2) (hmn : zMn sz mn) (v w x9 : Int32) : zMi mX12_set 2 ([.ref 0, .int v, .int w, .int x9]) (hMr (mLa la sz) (mn) (mIt it) (sp) (st) t L dr tr y a) (fun z u => ∃ R9 s9 mn9 sp9, (z, R9, s9) = aSet (la, sz, it) st v w x9 ∧ zMn R9.2.1 mn9 ∧ u = hMr (mLa R9.1 R9.2.1) mn9 (mIt R9.2.2) sp9 s9 t L dr tr y a) := by
  refine zMi.of (by decide) (Nat.le_of_ble_eq_true rfl) (fun x hx hF => ?_)
  refine z_iload_n hx dX12_set_0 rfl ?_
  refine z_callisP hx [] (qX12_isRow _) dX12_set_1 sX12_57 rfl rfl rfl (by decide) (by decide) rfl (Nat.le_of_ble_eq_true rfl) (by decide) ?_
  first | refine z_if_neB (tgt := 10) hx dX12_set_4 (by decide) (fun zc4 => ?_) (fun zc4 => ?_) | refine z_if_neN (tgt := 10) hx dX12_set_4 (by decide) (by omega) (fun zc4 => ?_) (fun zc4 => ?_) | refine z_if_ne (tgt := 10) hx dX12_set_4 (by decide) (fun zc4 => ?_) (fun zc4 => ?_)
  · skip
    obtain ⟨zj, -, zhj, rfl⟩ := zc4
    have hnj : zNat (nI zj) = zj := zNat_nI (by omega)
    have hl9 := hla zj
    refine z_aload_n hx dX12_set_10 rfl ?_
    refine z_iload_n hx dX12_set_11 rfl ?_
    refine z_callivF hx (qX12_isMissing la sz it mn sp st t L dr tr y a hs hla hmn zj (by omega)) dX12_set_12 sX12_69 rfl rfl rfl rfl (Nat.le_of_ble_eq_true rfl) rfl (Nat.le_of_ble_eq_true rfl) (by decide) ?_
    first | refine z_if_eqB (tgt := 24) hx dX12_set_15 (by decide) (fun zc15 => ?_) (fun zc15 => ?_) | refine z_if_eqN (tgt := 24) hx dX12_set_15 (by decide) (by omega) (fun zc15 => ?_) (fun zc15 => ?_) | refine z_if_eq (tgt := 24) hx dX12_set_15 (by decide) (fun zc15 => ?_) (fun zc15 => ?_)
    · skip
      obtain ⟨zs, hzs⟩ := Option.ne_none_iff_exists'.mp zc15
      have h40 := hs _ _ hzs
      have hmj := hmn _ _ hzs
      have hp1 := zPart_1 (i := w) h40
      refine z_iload_n hx dX12_set_24 rfl ?_
      refine z_iconst (v := nI 0) hx dX12_set_25 (by decide) ?_
      refine z_aload_n hx dX12_set_26 rfl ?_
      refine z_get hx dX12_set_27 fX12_13 rfl rfl ?_
      refine z_iload_n hx dX12_set_30 rfl ?_
      refine z_ialdJ hx dX12_set_31 rfl (by decide) (by omega) ?_
      refine z_topN hmj ?_
      refine z_iconst (v := nI 1) hx dX12_set_32 (by decide) ?_
      refine z_isub hx dX12_set_33 ?_
      refine z_callisP hx [] (qX12_inP _ _ (by omega)) dX12_set_34 sX12_53 rfl rfl rfl (by decide) (by decide) rfl (Nat.le_of_ble_eq_true rfl) (by decide) ?_
      first | refine z_if_neB (tgt := 46) hx dX12_set_37 (by decide) (fun zc37 => ?_) (fun zc37 => ?_) | refine z_if_neN (tgt := 46) hx dX12_set_37 (by decide) (by omega) (fun zc37 => ?_) (fun zc37 => ?_) | refine z_if_ne (tgt := 46) hx dX12_set_37 (by decide) (fun zc37 => ?_) (fun zc37 => ?_)
      · skip
        obtain ⟨zk, zhk, rfl⟩ := id zc37
        have hnk : zNat (nI zk) = zk := zNat_nI (by omega)
        refine z_aload_n hx dX12_set_46 rfl ?_
        refine z_get hx dX12_set_47 fX12_16 rfl rfl ?_
        refine z_bipush (v := nI 40) hx dX12_set_50 (by decide) ?_
        refine z_iload_n hx dX12_set_52 rfl ?_
        first | refine z_imulN hx dX12_set_53 ?_ | refine z_imul hx dX12_set_53 ?_
        refine z_iload_n hx dX12_set_54 rfl ?_
        first | refine z_iaddN hx dX12_set_55 ?_ | refine z_iadd hx dX12_set_55 ?_
        refine z_aload_n hx dX12_set_56 rfl ?_
        refine z_get hx dX12_set_57 fX12_7 rfl rfl ?_
        refine z_iload_n hx dX12_set_60 rfl ?_
        refine z_ialdJ hx dX12_set_61 rfl (by decide) (by omega) ?_
        refine z_top (b := nI (la zj)) (mLa_some hzs) ?_
        refine z_iload_n hx dX12_set_62 rfl ?_
        refine z_callisP hx [] (qX12_cut (la zj) hl9 x9) dX12_set_63 sX12_72 rfl rfl rfl (by decide) (by decide) rfl (Nat.le_of_ble_eq_true rfl) (by decide) ?_
        refine z_iastJ hx dX12_set_66 rfl (by decide) (by omega) ?_
        refine z_heap (show _ = hMr (mLa la sz) (mn) (mIt (zuo it zj (upd (it zj) zk (zCut (la zj) x9)))) (sp) (st) t L dr tr y a by rw [← mIt_up it zj zk (by omega)]; rfl) ?_
        refine z_aload_n hx dX12_set_67 rfl ?_
        refine z_aload_n hx dX12_set_68 rfl ?_
        refine z_get hx dX12_set_69 fX12_16 rfl rfl ?_
        refine z_bipush (v := nI 40) hx dX12_set_72 (by decide) ?_
        refine z_iload_n hx dX12_set_74 rfl ?_
        first | refine z_imulN hx dX12_set_75 ?_ | refine z_imul hx dX12_set_75 ?_
        refine z_iload_n hx dX12_set_76 rfl ?_
        first | refine z_iaddN hx dX12_set_77 ?_ | refine z_iadd hx dX12_set_77 ?_
        refine z_ialdJ hx dX12_set_78 rfl (by decide) (by omega) ?_
        refine z_top (b := zCut (la zj) x9) (by rw [mIt_at _ zj zk (by omega), zuo_s]; exact if_pos rfl) ?_
        refine z_callivF hx (qX12_well (mLa la sz, mn, mIt (zuo it zj (upd (it zj) zk (zCut (la zj) x9))), sp, st) t L dr tr y a (zCut (la zj) x9)) dX12_set_79 sX12_66 rfl rfl rfl rfl (Nat.le_of_ble_eq_true rfl) rfl (Nat.le_of_ble_eq_true rfl) (by decide) ?_
        refine z_heap (show _ = hMr (mLa la sz) (mn) (mIt (zuo it zj (upd (it zj) zk (zCut (la zj) x9)))) (sp) (0) t L dr tr y a from rfl) ?_
        exact z_iret hx hF dX12_set_82 rfl rfl ⟨(la, sz, zuo it zj (upd (it zj) zk (zCut (la zj) x9))), 0, mn, sp, by unfold aSet; first | (rw [zIG_t ⟨zj, Nat.zero_le _, zhj, rfl⟩, hnj, show ((la, sz, it) : zRw).2.1 = sz from rfl, zIG_t (zFnd_s (m := 0) hzs (hp1.mpr zc37)), hnk]) | exact zzz_open, hmn, rfl⟩
      · skip
        refine z_aload_n hx dX12_set_40 rfl ?_
        refine z_iconst (v := nI 2) hx dX12_set_41 (by decide) ?_
        refine z_callivF hx (qX12_found (mLa la sz, mn, mIt it, sp, st) t L dr tr y a (2)) dX12_set_42 sX12_62 rfl rfl rfl rfl (Nat.le_of_ble_eq_true rfl) rfl (Nat.le_of_ble_eq_true rfl) (by decide) ?_
        refine z_heap (show _ = hMr (mLa la sz) (mn) (mIt it) (sp) (2) t L dr tr y a from rfl) ?_
        exact z_iret hx hF dX12_set_45 rfl rfl ⟨(la, sz, it), 2, mn, sp, by unfold aSet; first | (rw [zIG_t ⟨zj, Nat.zero_le _, zhj, rfl⟩, hnj, show ((la, sz, it) : zRw).2.1 = sz from rfl, zFnd_p hzs (fun q => zc37 (hp1.mp q)), zIG_f zne2]) | exact zzz_open, hmn, rfl⟩
    · skip
      refine z_aload_n hx dX12_set_18 rfl ?_
      refine z_iconst (v := nI 1) hx dX12_set_19 (by decide) ?_
      refine z_callivF hx (qX12_found (mLa la sz, mn, mIt it, sp, st) t L dr tr y a (1)) dX12_set_20 sX12_62 rfl rfl rfl rfl (Nat.le_of_ble_eq_true rfl) rfl (Nat.le_of_ble_eq_true rfl) (by decide) ?_
      refine z_heap (show _ = hMr (mLa la sz) (mn) (mIt it) (sp) (1) t L dr tr y a from rfl) ?_
      exact z_iret hx hF dX12_set_23 rfl rfl ⟨(la, sz, it), 1, mn, sp, by unfold aSet; first | (rw [zIG_t ⟨zj, Nat.zero_le _, zhj, rfl⟩, hnj, zIG_f (by rw [show ((la, sz, it) : zRw).2.1 = sz from rfl, zFnd_n zc15]; exact zne1), show ((la, sz, it) : zRw).2.1 = sz from rfl, zFnd_n zc15]) | exact zzz_open, hmn, rfl⟩
  · skip
    refine z_ldc hx dX12_set_7 kX12_61 ?_
    exact z_iret hx hF dX12_set_9 rfl rfl ⟨(la, sz, it), st, mn, sp, by unfold aSet; first | (rw [zIG_f (c := inR 0 7 v) zc4]) | exact zzz_open, hmn, rfl⟩

set_option maxHeartbeats 4000000 in
set_option maxRecDepth 100000 in
theorem qX12_drop (la : Nat → Nat) (sz : Nat → Option Nat) (it : Nat → Nat → Int32) (mn : Nat → Nat) (sp : Nat → Int32) (st : Nat) (t : zMT) (L : zL) (dr tr : Nat → Nat) (y : zMY) (a : zMA) (hs : zRok sz) (hla : ∀ j, la j ≤ 2) (hmn : zMn sz mn) (v : Int32) : zMi mX12_drop 2 ([.ref 0, .int v]) (hMr (mLa la sz) (mn) (mIt it) (sp) (st) t L dr tr y a) (fun z u => ∃ R9 s9 mn9 sp9, (z, R9, s9) = aDrop (la, sz, it) st v ∧ zMn R9.2.1 mn9 ∧ u = hMr (mLa R9.1 R9.2.1) mn9 (mIt R9.2.2) sp9 s9 t L dr tr y a) := by
  refine zMi.of (by decide) (Nat.le_of_ble_eq_true rfl) (fun x hx hF => ?_)
  refine z_iload_n hx dX12_drop_0 rfl ?_
  refine z_callisP hx [] (qX12_isRow _) dX12_drop_1 sX12_57 rfl rfl rfl (by decide) (by decide) rfl (Nat.le_of_ble_eq_true rfl) (by decide) ?_
  first | refine z_if_neB (tgt := 10) hx dX12_drop_4 (by decide) (fun zc4 => ?_) (fun zc4 => ?_) | refine z_if_neN (tgt := 10) hx dX12_drop_4 (by decide) (by omega) (fun zc4 => ?_) (fun zc4 => ?_) | refine z_if_ne (tgt := 10) hx dX12_drop_4 (by decide) (fun zc4 => ?_) (fun zc4 => ?_)
  · skip
    obtain ⟨zj, -, zhj, rfl⟩ := zc4
    have hnj : zNat (nI zj) = zj := zNat_nI (by omega)
    refine z_aload_n hx dX12_drop_10 rfl ?_
    refine z_iload_n hx dX12_drop_11 rfl ?_
    refine z_callivF hx (qX12_isMissing la sz it mn sp st t L dr tr y a hs hla hmn zj (by omega)) dX12_drop_12 sX12_69 rfl rfl rfl rfl (Nat.le_of_ble_eq_true rfl) rfl (Nat.le_of_ble_eq_true rfl) (by decide) ?_
    first | refine z_if_eqB (tgt := 24) hx dX12_drop_15 (by decide) (fun zc15 => ?_) (fun zc15 => ?_) | refine z_if_eqN (tgt := 24) hx dX12_drop_15 (by decide) (by omega) (fun zc15 => ?_) (fun zc15 => ?_) | refine z_if_eq (tgt := 24) hx dX12_drop_15 (by decide) (fun zc15 => ?_) (fun zc15 => ?_)
    · skip
      obtain ⟨zs, hzs⟩ := Option.ne_none_iff_exists'.mp zc15
      have hmj := hmn _ _ hzs
      refine z_aload_n hx dX12_drop_24 rfl ?_
      refine z_get hx dX12_drop_25 fX12_7 rfl rfl ?_
      refine z_iload_n hx dX12_drop_28 rfl ?_
      refine z_ldc hx dX12_drop_29 kX12_47 ?_
      refine z_iastJ hx dX12_drop_31 rfl (by decide) (by omega) ?_
      refine z_heap (show _ = hMr (mLa la (zuo sz zj none)) (mn) (mIt it) (sp) (st) t L dr tr y a by rw [← mLa_dn]; rfl) ?_
      refine z_aload_n hx dX12_drop_32 rfl ?_
      refine z_aload_n hx dX12_drop_33 rfl ?_
      refine z_get hx dX12_drop_34 fX12_13 rfl rfl ?_
      refine z_iload_n hx dX12_drop_37 rfl ?_
      refine z_ialdJ hx dX12_drop_38 rfl (by decide) (by omega) ?_
      refine z_top (b := tI (sz zj)) (by rw [hmj, hzs]; rfl) ?_
      refine z_callivF hx (qX12_well (mLa la (zuo sz zj none), mn, mIt it, sp, st) t L dr tr y a (tI (sz zj))) dX12_drop_39 sX12_66 rfl rfl rfl rfl (Nat.le_of_ble_eq_true rfl) rfl (Nat.le_of_ble_eq_true rfl) (by decide) ?_
      refine z_heap (show _ = hMr (mLa la (zuo sz zj none)) (mn) (mIt it) (sp) (0) t L dr tr y a from rfl) ?_
      exact z_iret hx hF dX12_drop_42 rfl rfl ⟨(la, zuo sz zj none, it), 0, mn, sp, by unfold aDrop; first | (rw [zIG_f (c := inR 0 7 v) zc4]) | (rw [zIG_t ⟨zj, Nat.zero_le _, zhj, rfl⟩, hnj, zIG_t zc15]) | (rw [zIG_t ⟨zj, Nat.zero_le _, zhj, rfl⟩, hnj, zIG_f zc15]) | exact zzz_open, zMn_dn hmn zj, rfl⟩
    · skip
      refine z_aload_n hx dX12_drop_18 rfl ?_
      refine z_iconst (v := nI 1) hx dX12_drop_19 (by decide) ?_
      refine z_callivF hx (qX12_found (mLa la sz, mn, mIt it, sp, st) t L dr tr y a (1)) dX12_drop_20 sX12_62 rfl rfl rfl rfl (Nat.le_of_ble_eq_true rfl) rfl (Nat.le_of_ble_eq_true rfl) (by decide) ?_
      refine z_heap (show _ = hMr (mLa la sz) (mn) (mIt it) (sp) (1) t L dr tr y a from rfl) ?_
      exact z_iret hx hF dX12_drop_23 rfl rfl ⟨(la, sz, it), 1, mn, sp, by unfold aDrop; first | (rw [zIG_f (c := inR 0 7 v) zc4]) | (rw [zIG_t ⟨zj, Nat.zero_le _, zhj, rfl⟩, hnj, zIG_t zc15]) | (rw [zIG_t ⟨zj, Nat.zero_le _, zhj, rfl⟩, hnj, zIG_f zc15]) | exact zzz_open, hmn, rfl⟩
  · skip
    refine z_ldc hx dX12_drop_7 kX12_61 ?_
    exact z_iret hx hF dX12_drop_9 rfl rfl ⟨(la, sz, it), st, mn, sp, by unfold aDrop; first | (rw [zIG_f (c := inR 0 7 v) zc4]) | (rw [zIG_t ⟨zj, Nat.zero_le _, zhj, rfl⟩, hnj, zIG_t zc15]) | (rw [zIG_t ⟨zj, Nat.zero_le _, zhj, rfl⟩, hnj, zIG_f zc15]) | exact zzz_open, hmn, rfl⟩

theorem zspr (f g : Nat → Int32) (k : Nat) (v : Int32) (hv : v = f k) : upd (fun j => if j < k then f j else g j) k v = fun j => if j < k + 1 then f j else g j := by
  subst hv
  funext j
  by_cases h : j = k
  · subst h; exact (if_pos rfl).trans (if_pos (by omega)).symm
  · refine (if_neg h).trans ?_
    show (if j < k then f j else g j) = if j < k + 1 then f j else g j
    by_cases h2 : j < k
    · rw [if_pos h2, if_pos (by omega)]
    · rw [if_neg h2, if_neg (by omega)]
theorem zspr_0 (f g : Nat → Int32) : g = fun j => if j < 0 then f j else g j := funext fun j => (if_neg (by omega)).symm
/-- the row b behind k items of the move -/
def zMvd (it : Nat → Nat → Int32) (b j : Nat) (f : Nat → Int32) (k : Nat) : Nat → Nat → Int32 := zuo it b (fun c => if j ≤ c ∧ c < j + k then f (c - j) else it b c)
theorem zMvd_0 (it : Nat → Nat → Int32) (b j : Nat) (f : Nat → Int32) : it = zMvd it b j f 0 := by
  funext a c
  unfold zMvd
  by_cases h : a = b
  · subst h; rw [zuo_s]; exact (if_neg (by omega)).symm
  · rw [zuo_n h]
theorem zMvd_s (it : Nat → Nat → Int32) (b j k : Nat) (f : Nat → Int32) (v : Int32) (hv : v = f k) (hk : j + k < 40) : upd (mIt (zMvd it b j f k)) (40 * b + j + k) v = mIt (zMvd it b j f (k + 1)) := by
  subst hv
  rw [show 40 * b + j + k = 40 * b + (j + k) by omega, mIt_up _ b (j + k) hk]
  congr 1
  funext a c
  by_cases h : a = b
  · subst h
    unfold zMvd
    rw [zuo_s, zuo_s, zuo_s]
    by_cases hc : c = j + k
    · subst hc
      refine (if_pos rfl).trans ?_
      show f k = if j ≤ j + k ∧ j + k < j + (k + 1) then f (j + k - j) else it a (j + k)
      rw [if_pos (by omega), show j + k - j = k by omega]
    · refine (if_neg hc).trans ?_
      show (if j ≤ c ∧ c < j + k then f (c - j) else it a c) = if j ≤ c ∧ c < j + (k + 1) then f (c - j) else it a c
      by_cases h2 : j ≤ c ∧ c < j + k
      · rw [if_pos h2, if_pos (by omega)]
      · rw [if_neg h2, if_neg (by omega)]
  · unfold zMvd
    rw [zuo_n h, zuo_n h, zuo_n h]
theorem zMvd_e (it : Nat → Nat → Int32) (a i b j n : Nat) : zMvd it b j (fun k => mIt it (40 * a + i + k)) n = zMvd it b j (fun k => mIt it (40 * a + i + k)) n := rfl
theorem zMvd_c (it : Nat → Nat → Int32) (a i b j n : Nat) (hi : i + n ≤ 40) : zMvd it b j (fun k => mIt it (40 * a + i + k)) n = zuo it b (va_cpy (it a) (it b) i j n) := by
  unfold zMvd
  congr 1
  funext c
  unfold va_cpy
  by_cases h : j ≤ c ∧ c < j + n
  · rw [if_pos h, if_pos h]
    show mIt it (40 * a + i + (c - j)) = _
    rw [show 40 * a + i + (c - j) = 40 * a + (i + (c - j)) by omega, mIt_at it a (i + (c - j)) (by omega)]
  · rw [if_neg h, if_neg h]
theorem zFnm_n {la : Nat → Nat} {sz : Nat → Option Nat} {a b : Nat} {i j n : Int32} (h : sz a = none ∨ sz b = none) : zFnm la sz a b i j n = 1 := by
  unfold zFnm
  rcases h with h | h
  · rw [h]
  · rw [h]; cases sz a <;> rfl
theorem zFnm_5 {la : Nat → Nat} {sz : Nat → Option Nat} {a b s1 s2 : Nat} {i j n : Int32} (h1 : sz a = some s1) (h2 : sz b = some s2) (h : ¬ la a = la b) : zFnm la sz a b i j n = 5 := by
  unfold zFnm
  rw [h1, h2]
  exact if_pos h
theorem zFnm_y {la : Nat → Nat} {sz : Nat → Option Nat} {a b s1 s2 : Nat} {i j n : Int32} (h1 : sz a = some s1) (h2 : sz b = some s2) (h : la a = la b) (hp : zPart s1 i n ∧ zPart s2 j n) : zFnm la sz a b i j n = 0 := by
  unfold zFnm
  rw [h1, h2]
  exact (if_neg (fun q => q h)).trans (zIf_t hp)
theorem zFnm_p {la : Nat → Nat} {sz : Nat → Option Nat} {a b s1 s2 : Nat} {i j n : Int32} (h1 : sz a = some s1) (h2 : sz b = some s2) (h : la a = la b) (hp : ¬ (zPart s1 i n ∧ zPart s2 j n)) : zFnm la sz a b i j n = 2 := by
  unfold zFnm
  rw [h1, h2]
  exact (if_neg (fun q => q h)).trans (zIf_f hp)
set_option maxHeartbeats 4000000 in
set_option maxRecDepth 100000 in
theorem qX12_copy (la : Nat → Nat) (sz : Nat → Option Nat) (it : Nat → Nat → Int32) (mn : Nat → Nat) (sp : Nat → Int32) (st : Nat) (t : zMT) (L : zL) (dr tr : Nat → Nat) (y : zMY) (a : zMA) (hs : zRok sz) (hla : ∀ j, la j ≤ 2) (hmn : zMn sz mn) (v i9 w j9 x9 : Int32) : zMi mX12_copy 2 ([.ref 0, .int v, .int i9, .int w, .int j9, .int x9]) (hMr (mLa la sz) (mn) (mIt it) (sp) (st) t L dr tr y a) (fun z u => ∃ R9 s9 mn9 sp9, (z, R9, s9) = aCopy (la, sz, it) st v i9 w j9 x9 ∧ zMn R9.2.1 mn9 ∧ u = hMr (mLa R9.1 R9.2.1) mn9 (mIt R9.2.2) sp9 s9 t L dr tr y a) := by
  refine zMi.of (by decide) (Nat.le_of_ble_eq_true rfl) (fun x hx hF => ?_)
  have hloop2 : ∀ (zj : Nat) (zhj : zj ≤ 7) (ze : Nat) (zhe : ze ≤ 7) (ka kc kn : Nat) (hka : ka + kn ≤ 40) (hkc : kc + kn ≤ 40) (hnm : zFnm la sz zj ze (nI ka) (nI kc) (nI kn) = 0) (hF : zFi x (hMr (mLa la sz) (mn) (mIt it) (sp) (st) t L dr tr y a).length (fun z u => ∃ R9 s9 mn9 sp9, (z, R9, s9) = aCopy (la, sz, it) st (nI zj) (nI ka) (nI ze) (nI kc) (nI kn) ∧ zMn R9.2.1 mn9 ∧ u = hMr (mLa R9.1 R9.2.1) mn9 (mIt R9.2.2) sp9 s9 t L dr tr y a)) (n129 k : Nat), kn - k = n129 → k ≤ kn → zV x 129 [some (.ref 0), some (.int (nI zj)), some (.int (nI ka)), some (.int (nI ze)), some (.int (nI kc)), some (.int (nI kn)), some (.int (nI k))] [] (hMr (mLa la sz) (mn) (mIt (zMvd it ze kc (fun q => mIt it (40 * zj + ka + q)) k)) ((fun q => if q < kn then mIt it (40 * zj + ka + q) else sp q)) (st) t L dr tr y a) := by
    intro zj zhj ze zhe ka kc kn hka hkc hnm hF n129
    induction n129 using Nat.strongRecOn with
    | ind n129 ih =>
      intro k hn hk
      refine z_iload hx dX12_copy_129 rfl ?_
      refine z_iload hx dX12_copy_131 rfl ?_
      first | refine z_icmp_geN (tgt := 164) hx dX12_copy_133 (by decide) (by omega) (by omega) (fun zc133 => ?_) (fun zc133 => ?_) | refine z_icmp_ge (tgt := 164) hx dX12_copy_133 (by decide) (fun zc133 => ?_) (fun zc133 => ?_)
      · skip
        have hnj : zNat (nI zj) = zj := zNat_nI (by omega)
        have hne : zNat (nI ze) = ze := zNat_nI (by omega)
        have hna : zNat (nI ka) = ka := zNat_nI (by omega)
        have hnc : zNat (nI kc) = kc := zNat_nI (by omega)
        have hnn : zNat (nI kn) = kn := zNat_nI (by omega)
        rw [show k = kn by omega, zMvd_c it zj ka ze kc kn hka]
        refine z_aload_n hx dX12_copy_164 rfl ?_
        refine z_iload hx dX12_copy_165 rfl ?_
        refine z_callivF hx (qX12_well (mLa la sz, mn, mIt (zuo it ze (va_cpy (it zj) (it ze) ka kc kn)), (fun q => if q < kn then mIt it (40 * zj + ka + q) else sp q), st) t L dr tr y a (nI kn)) dX12_copy_167 sX12_66 rfl rfl rfl rfl (Nat.le_of_ble_eq_true rfl) rfl (Nat.le_of_ble_eq_true rfl) (by decide) ?_
        refine z_heap (show _ = hMr (mLa la sz) (mn) (mIt (zuo it ze (va_cpy (it zj) (it ze) ka kc kn))) ((fun q => if q < kn then mIt it (40 * zj + ka + q) else sp q)) (0) t L dr tr y a from rfl) ?_
        exact z_iret hx hF dX12_copy_170 rfl rfl ⟨(la, sz, zuo it ze (va_cpy (it zj) (it ze) ka kc kn)), 0, mn, _, by unfold aCopy; rw [zIG_t ⟨⟨zj, Nat.zero_le _, zhj, rfl⟩, ⟨ze, Nat.zero_le _, zhe, rfl⟩⟩, hnj, hne, hna, hnc, hnn, zIG_t hnm], hmn, rfl⟩
      · skip
        refine z_aload_n hx dX12_copy_136 rfl ?_
        refine z_get hx dX12_copy_137 fX12_16 rfl rfl ?_
        refine z_bipush (v := nI 40) hx dX12_copy_140 (by decide) ?_
        refine z_iload_n hx dX12_copy_142 rfl ?_
        first | refine z_imulN hx dX12_copy_143 ?_ | refine z_imul hx dX12_copy_143 ?_
        refine z_iload hx dX12_copy_144 rfl ?_
        first | refine z_iaddN hx dX12_copy_146 ?_ | refine z_iadd hx dX12_copy_146 ?_
        refine z_iload hx dX12_copy_147 rfl ?_
        first | refine z_iaddN hx dX12_copy_149 ?_ | refine z_iadd hx dX12_copy_149 ?_
        refine z_aload_n hx dX12_copy_150 rfl ?_
        refine z_get hx dX12_copy_151 fX12_19 rfl rfl ?_
        refine z_iload hx dX12_copy_154 rfl ?_
        refine z_ialdJ hx dX12_copy_156 rfl (by decide) (by omega) ?_
        refine z_iastJ hx dX12_copy_157 rfl (by decide) (by omega) ?_
        refine z_heap (show _ = hMr (mLa la sz) (mn) (mIt (zMvd it ze kc (fun q => mIt it (40 * zj + ka + q)) (k + 1))) ((fun q => if q < kn then mIt it (40 * zj + ka + q) else sp q)) (st) t L dr tr y a by rw [← zMvd_s it ze kc k (fun q => mIt it (40 * zj + ka + q)) _ (if_pos (by omega)) (by omega)]; rfl) ?_
        first | refine z_iincN (z := 1) hx dX12_copy_158 rfl rfl ?_ | refine z_iinc hx dX12_copy_158 rfl rfl rfl ?_
        refine z_goto (tgt := 129) hx dX12_copy_161 (by decide) ?_
        exact ih _ (by omega) (k + 1) rfl (by omega)
  have hloop1 : ∀ (zj : Nat) (zhj : zj ≤ 7) (ze : Nat) (zhe : ze ≤ 7) (ka kc kn : Nat) (hka : ka + kn ≤ 40) (hkc : kc + kn ≤ 40) (hnm : zFnm la sz zj ze (nI ka) (nI kc) (nI kn) = 0) (hF : zFi x (hMr (mLa la sz) (mn) (mIt it) (sp) (st) t L dr tr y a).length (fun z u => ∃ R9 s9 mn9 sp9, (z, R9, s9) = aCopy (la, sz, it) st (nI zj) (nI ka) (nI ze) (nI kc) (nI kn) ∧ zMn R9.2.1 mn9 ∧ u = hMr (mLa R9.1 R9.2.1) mn9 (mIt R9.2.2) sp9 s9 t L dr tr y a)) (n92 k : Nat), kn - k = n92 → k ≤ kn → zV x 92 [some (.ref 0), some (.int (nI zj)), some (.int (nI ka)), some (.int (nI ze)), some (.int (nI kc)), some (.int (nI kn)), some (.int (nI k))] [] (hMr (mLa la sz) (mn) (mIt it) ((fun q => if q < k then mIt it (40 * zj + ka + q) else sp q)) (st) t L dr tr y a) := by
    intro zj zhj ze zhe ka kc kn hka hkc hnm hF n92
    induction n92 using Nat.strongRecOn with
    | ind n92 ih =>
      intro k hn hk
      refine z_iload hx dX12_copy_92 rfl ?_
      refine z_iload hx dX12_copy_94 rfl ?_
      first | refine z_icmp_geN (tgt := 126) hx dX12_copy_96 (by decide) (by omega) (by omega) (fun zc96 => ?_) (fun zc96 => ?_) | refine z_icmp_ge (tgt := 126) hx dX12_copy_96 (by decide) (fun zc96 => ?_) (fun zc96 => ?_)
      · skip
        refine z_iconst (v := nI 0) hx dX12_copy_126 (by decide) ?_
        refine z_istore hx dX12_copy_127 (Nat.le_of_ble_eq_true rfl) rfl ?_
        exact z_heap (show _ = hMr (mLa la sz) (mn) (mIt (zMvd it ze kc (fun q => mIt it (40 * zj + ka + q)) 0)) ((fun q => if q < kn then mIt it (40 * zj + ka + q) else sp q)) (st) t L dr tr y a by rw [show k = kn by omega]; exact congrArg (fun q => hMr (mLa la sz) mn (mIt q) (fun q => if q < kn then mIt it (40 * zj + ka + q) else sp q) st t L dr tr y a) (zMvd_0 it ze kc (fun q => mIt it (40 * zj + ka + q)))) (hloop2 zj zhj ze zhe ka kc kn hka hkc hnm hF _ 0 rfl (Nat.zero_le _))
      · skip
        refine z_aload_n hx dX12_copy_99 rfl ?_
        refine z_get hx dX12_copy_100 fX12_19 rfl rfl ?_
        refine z_iload hx dX12_copy_103 rfl ?_
        refine z_aload_n hx dX12_copy_105 rfl ?_
        refine z_get hx dX12_copy_106 fX12_16 rfl rfl ?_
        refine z_bipush (v := nI 40) hx dX12_copy_109 (by decide) ?_
        refine z_iload_n hx dX12_copy_111 rfl ?_
        first | refine z_imulN hx dX12_copy_112 ?_ | refine z_imul hx dX12_copy_112 ?_
        refine z_iload_n hx dX12_copy_113 rfl ?_
        first | refine z_iaddN hx dX12_copy_114 ?_ | refine z_iadd hx dX12_copy_114 ?_
        refine z_iload hx dX12_copy_115 rfl ?_
        first | refine z_iaddN hx dX12_copy_117 ?_ | refine z_iadd hx dX12_copy_117 ?_
        refine z_ialdJ hx dX12_copy_118 rfl (by decide) (by omega) ?_
        refine z_iastJ hx dX12_copy_119 rfl (by decide) (by omega) ?_
        refine z_heap (show _ = hMr (mLa la sz) (mn) (mIt it) ((fun q => if q < k + 1 then mIt it (40 * zj + ka + q) else sp q)) (st) t L dr tr y a by rw [← zspr (fun q => mIt it (40 * zj + ka + q)) sp k _ rfl]; rfl) ?_
        first | refine z_iincN (z := 1) hx dX12_copy_120 rfl rfl ?_ | refine z_iinc hx dX12_copy_120 rfl rfl rfl ?_
        refine z_goto (tgt := 92) hx dX12_copy_123 (by decide) ?_
        exact ih _ (by omega) (k + 1) rfl (by omega)
  refine z_iload_n hx dX12_copy_0 rfl ?_
  refine z_callisP hx [] (qX12_isRow _) dX12_copy_1 sX12_57 rfl rfl rfl (by decide) (by decide) rfl (Nat.le_of_ble_eq_true rfl) (by decide) ?_
  first | refine z_if_eqB (tgt := 14) hx dX12_copy_4 (by decide) (fun zc4 => ?_) (fun zc4 => ?_) | refine z_if_eqN (tgt := 14) hx dX12_copy_4 (by decide) (by omega) (fun zc4 => ?_) (fun zc4 => ?_) | refine z_if_eq (tgt := 14) hx dX12_copy_4 (by decide) (fun zc4 => ?_) (fun zc4 => ?_)
  · skip
    refine z_ldc hx dX12_copy_14 kX12_61 ?_
    exact z_iret hx hF dX12_copy_16 rfl rfl ⟨(la, sz, it), st, mn, sp, by unfold aCopy; first | rw [zIG_f (fun h => zc4 h.1)] | rw [zIG_f (fun h => zc11 h.2)], hmn, rfl⟩
  · skip
    obtain ⟨zj, -, zhj, rfl⟩ := zc4
    have hnj : zNat (nI zj) = zj := zNat_nI (by omega)
    have hl1 := hla zj
    refine z_iload_n hx dX12_copy_7 rfl ?_
    refine z_callisP hx [] (qX12_isRow _) dX12_copy_8 sX12_57 rfl rfl rfl (by decide) (by decide) rfl (Nat.le_of_ble_eq_true rfl) (by decide) ?_
    first | refine z_if_neB (tgt := 17) hx dX12_copy_11 (by decide) (fun zc11 => ?_) (fun zc11 => ?_) | refine z_if_neN (tgt := 17) hx dX12_copy_11 (by decide) (by omega) (fun zc11 => ?_) (fun zc11 => ?_) | refine z_if_ne (tgt := 17) hx dX12_copy_11 (by decide) (fun zc11 => ?_) (fun zc11 => ?_)
    · skip
      obtain ⟨ze, -, zhe, rfl⟩ := zc11
      have hne : zNat (nI ze) = ze := zNat_nI (by omega)
      have hl2 := hla ze
      refine z_aload_n hx dX12_copy_17 rfl ?_
      refine z_iload_n hx dX12_copy_18 rfl ?_
      refine z_callivF hx (qX12_isMissing la sz it mn sp st t L dr tr y a hs hla hmn zj (by omega)) dX12_copy_19 sX12_69 rfl rfl rfl rfl (Nat.le_of_ble_eq_true rfl) rfl (Nat.le_of_ble_eq_true rfl) (by decide) ?_
      first | refine z_if_neB (tgt := 33) hx dX12_copy_22 (by decide) (fun zc22 => ?_) (fun zc22 => ?_) | refine z_if_neN (tgt := 33) hx dX12_copy_22 (by decide) (by omega) (fun zc22 => ?_) (fun zc22 => ?_) | refine z_if_ne (tgt := 33) hx dX12_copy_22 (by decide) (fun zc22 => ?_) (fun zc22 => ?_)
      · skip
        refine z_aload_n hx dX12_copy_33 rfl ?_
        refine z_iconst (v := nI 1) hx dX12_copy_34 (by decide) ?_
        refine z_callivF hx (qX12_found (mLa la sz, mn, mIt it, sp, st) t L dr tr y a (1)) dX12_copy_35 sX12_62 rfl rfl rfl rfl (Nat.le_of_ble_eq_true rfl) rfl (Nat.le_of_ble_eq_true rfl) (by decide) ?_
        refine z_heap (show _ = hMr (mLa la sz) (mn) (mIt it) (sp) (1) t L dr tr y a from rfl) ?_
        exact z_iret hx hF dX12_copy_38 rfl rfl ⟨(la, sz, it), 1, mn, sp, by unfold aCopy; first | rw [zIG_t ⟨⟨zj, Nat.zero_le _, zhj, rfl⟩, ⟨ze, Nat.zero_le _, zhe, rfl⟩⟩, hnj, hne, show zFnm ((la, sz, it) : zRw).1 ((la, sz, it) : zRw).2.1 zj ze i9 j9 x9 = _ from zFnm_n (Or.inl zc22), zIG_f zne1] | rw [zIG_t ⟨⟨zj, Nat.zero_le _, zhj, rfl⟩, ⟨ze, Nat.zero_le _, zhe, rfl⟩⟩, hnj, hne, show zFnm ((la, sz, it) : zRw).1 ((la, sz, it) : zRw).2.1 zj ze i9 j9 x9 = _ from zFnm_n (Or.inr zc30), zIG_f zne1], hmn, rfl⟩
      · skip
        refine z_aload_n hx dX12_copy_25 rfl ?_
        refine z_iload_n hx dX12_copy_26 rfl ?_
        refine z_callivF hx (qX12_isMissing la sz it mn sp st t L dr tr y a hs hla hmn ze (by omega)) dX12_copy_27 sX12_69 rfl rfl rfl rfl (Nat.le_of_ble_eq_true rfl) rfl (Nat.le_of_ble_eq_true rfl) (by decide) ?_
        first | refine z_if_eqB (tgt := 39) hx dX12_copy_30 (by decide) (fun zc30 => ?_) (fun zc30 => ?_) | refine z_if_eqN (tgt := 39) hx dX12_copy_30 (by decide) (by omega) (fun zc30 => ?_) (fun zc30 => ?_) | refine z_if_eq (tgt := 39) hx dX12_copy_30 (by decide) (fun zc30 => ?_) (fun zc30 => ?_)
        · skip
          obtain ⟨s1, hz1⟩ := Option.ne_none_iff_exists'.mp zc22
          obtain ⟨s2, hz2⟩ := Option.ne_none_iff_exists'.mp zc30
          have h40 := hs _ _ hz1
          have h41 := hs _ _ hz2
          refine z_aload_n hx dX12_copy_39 rfl ?_
          refine z_get hx dX12_copy_40 fX12_7 rfl rfl ?_
          refine z_iload_n hx dX12_copy_43 rfl ?_
          refine z_ialdJ hx dX12_copy_44 rfl (by decide) (by omega) ?_
          refine z_top (b := nI (la zj)) (mLa_some hz1) ?_
          refine z_aload_n hx dX12_copy_45 rfl ?_
          refine z_get hx dX12_copy_46 fX12_7 rfl rfl ?_
          refine z_iload_n hx dX12_copy_49 rfl ?_
          refine z_ialdJ hx dX12_copy_50 rfl (by decide) (by omega) ?_
          refine z_top (b := nI (la ze)) (mLa_some hz2) ?_
          refine z_icmp_eqN (tgt := 60) hx dX12_copy_51 (by decide) (by omega) (by omega) (fun zc51 => ?_) (fun zc51 => ?_)
          · skip
            refine z_aload_n hx dX12_copy_60 rfl ?_
            refine z_iload_n hx dX12_copy_61 rfl ?_
            refine z_iload_n hx dX12_copy_62 rfl ?_
            refine z_iload hx dX12_copy_63 rfl ?_
            refine z_callivF hx (qX12_isPart la sz it mn sp st t L dr tr y a hs hla hmn zj s1 (by omega) hz1 i9 x9) dX12_copy_65 sX12_76 rfl rfl rfl rfl (Nat.le_of_ble_eq_true rfl) rfl (Nat.le_of_ble_eq_true rfl) (by decide) ?_
            first | refine z_if_eqB (tgt := 83) hx dX12_copy_68 (by decide) (fun zc68 => ?_) (fun zc68 => ?_) | refine z_if_eqN (tgt := 83) hx dX12_copy_68 (by decide) (by omega) (fun zc68 => ?_) (fun zc68 => ?_) | refine z_if_eq (tgt := 83) hx dX12_copy_68 (by decide) (fun zc68 => ?_) (fun zc68 => ?_)
            · skip
              refine z_aload_n hx dX12_copy_83 rfl ?_
              refine z_iconst (v := nI 2) hx dX12_copy_84 (by decide) ?_
              refine z_callivF hx (qX12_found (mLa la sz, mn, mIt it, sp, st) t L dr tr y a (2)) dX12_copy_85 sX12_62 rfl rfl rfl rfl (Nat.le_of_ble_eq_true rfl) rfl (Nat.le_of_ble_eq_true rfl) (by decide) ?_
              refine z_heap (show _ = hMr (mLa la sz) (mn) (mIt it) (sp) (2) t L dr tr y a from rfl) ?_
              exact z_iret hx hF dX12_copy_88 rfl rfl ⟨(la, sz, it), 2, mn, sp, by unfold aCopy; first | rw [zIG_t ⟨⟨zj, Nat.zero_le _, zhj, rfl⟩, ⟨ze, Nat.zero_le _, zhe, rfl⟩⟩, hnj, hne, show zFnm ((la, sz, it) : zRw).1 ((la, sz, it) : zRw).2.1 zj ze i9 j9 x9 = _ from zFnm_p hz1 hz2 zc51 (fun q => zc68 q.1), zIG_f zne2] | rw [zIG_t ⟨⟨zj, Nat.zero_le _, zhj, rfl⟩, ⟨ze, Nat.zero_le _, zhe, rfl⟩⟩, hnj, hne, show zFnm ((la, sz, it) : zRw).1 ((la, sz, it) : zRw).2.1 zj ze i9 j9 x9 = _ from zFnm_p hz1 hz2 zc51 (fun q => zc80 q.2), zIG_f zne2], hmn, rfl⟩
            · skip
              refine z_aload_n hx dX12_copy_71 rfl ?_
              refine z_iload_n hx dX12_copy_72 rfl ?_
              refine z_iload hx dX12_copy_73 rfl ?_
              refine z_iload hx dX12_copy_75 rfl ?_
              refine z_callivF hx (qX12_isPart la sz it mn sp st t L dr tr y a hs hla hmn ze s2 (by omega) hz2 j9 x9) dX12_copy_77 sX12_76 rfl rfl rfl rfl (Nat.le_of_ble_eq_true rfl) rfl (Nat.le_of_ble_eq_true rfl) (by decide) ?_
              first | refine z_if_neB (tgt := 89) hx dX12_copy_80 (by decide) (fun zc80 => ?_) (fun zc80 => ?_) | refine z_if_neN (tgt := 89) hx dX12_copy_80 (by decide) (by omega) (fun zc80 => ?_) (fun zc80 => ?_) | refine z_if_ne (tgt := 89) hx dX12_copy_80 (by decide) (fun zc80 => ?_) (fun zc80 => ?_)
              · skip
                obtain ⟨ka, kb, rfl, rfl, hab⟩ := id zc68
                obtain ⟨kc, kd, rfl, hd1, hcd⟩ := id zc80
                have hd2 : kd = kb := ((nI_eq (by omega) (by omega)).mp hd1).symm
                subst hd2
                have hnm := zFnm_y hz1 hz2 zc51 ⟨zc68, zc80⟩
                refine z_iconst (v := nI 0) hx dX12_copy_89 (by decide) ?_
                refine z_istore hx dX12_copy_90 (Nat.le_of_ble_eq_true rfl) rfl ?_
                exact z_heap (congrArg (fun q => hMr (mLa la sz) mn (mIt it) q st t L dr tr y a) (zspr_0 (fun q => mIt it (40 * zj + ka + q)) sp)) (hloop1 zj zhj ze zhe ka kc kd (by omega) (by omega) hnm hF _ 0 rfl (Nat.zero_le _))
              · skip
                refine z_aload_n hx dX12_copy_83 rfl ?_
                refine z_iconst (v := nI 2) hx dX12_copy_84 (by decide) ?_
                refine z_callivF hx (qX12_found (mLa la sz, mn, mIt it, sp, st) t L dr tr y a (2)) dX12_copy_85 sX12_62 rfl rfl rfl rfl (Nat.le_of_ble_eq_true rfl) rfl (Nat.le_of_ble_eq_true rfl) (by decide) ?_
                refine z_heap (show _ = hMr (mLa la sz) (mn) (mIt it) (sp) (2) t L dr tr y a from rfl) ?_
                exact z_iret hx hF dX12_copy_88 rfl rfl ⟨(la, sz, it), 2, mn, sp, by unfold aCopy; first | rw [zIG_t ⟨⟨zj, Nat.zero_le _, zhj, rfl⟩, ⟨ze, Nat.zero_le _, zhe, rfl⟩⟩, hnj, hne, show zFnm ((la, sz, it) : zRw).1 ((la, sz, it) : zRw).2.1 zj ze i9 j9 x9 = _ from zFnm_p hz1 hz2 zc51 (fun q => zc68 q.1), zIG_f zne2] | rw [zIG_t ⟨⟨zj, Nat.zero_le _, zhj, rfl⟩, ⟨ze, Nat.zero_le _, zhe, rfl⟩⟩, hnj, hne, show zFnm ((la, sz, it) : zRw).1 ((la, sz, it) : zRw).2.1 zj ze i9 j9 x9 = _ from zFnm_p hz1 hz2 zc51 (fun q => zc80 q.2), zIG_f zne2], hmn, rfl⟩
          · skip
            refine z_aload_n hx dX12_copy_54 rfl ?_
            refine z_iconst (v := nI 5) hx dX12_copy_55 (by decide) ?_
            refine z_callivF hx (qX12_found (mLa la sz, mn, mIt it, sp, st) t L dr tr y a (5)) dX12_copy_56 sX12_62 rfl rfl rfl rfl (Nat.le_of_ble_eq_true rfl) rfl (Nat.le_of_ble_eq_true rfl) (by decide) ?_
            refine z_heap (show _ = hMr (mLa la sz) (mn) (mIt it) (sp) (5) t L dr tr y a from rfl) ?_
            exact z_iret hx hF dX12_copy_59 rfl rfl ⟨(la, sz, it), 5, mn, sp, by unfold aCopy; rw [zIG_t ⟨⟨zj, Nat.zero_le _, zhj, rfl⟩, ⟨ze, Nat.zero_le _, zhe, rfl⟩⟩, hnj, hne, show zFnm ((la, sz, it) : zRw).1 ((la, sz, it) : zRw).2.1 zj ze i9 j9 x9 = _ from zFnm_5 hz1 hz2 zc51, zIG_f zne5], hmn, rfl⟩
        · skip
          refine z_aload_n hx dX12_copy_33 rfl ?_
          refine z_iconst (v := nI 1) hx dX12_copy_34 (by decide) ?_
          refine z_callivF hx (qX12_found (mLa la sz, mn, mIt it, sp, st) t L dr tr y a (1)) dX12_copy_35 sX12_62 rfl rfl rfl rfl (Nat.le_of_ble_eq_true rfl) rfl (Nat.le_of_ble_eq_true rfl) (by decide) ?_
          refine z_heap (show _ = hMr (mLa la sz) (mn) (mIt it) (sp) (1) t L dr tr y a from rfl) ?_
          exact z_iret hx hF dX12_copy_38 rfl rfl ⟨(la, sz, it), 1, mn, sp, by unfold aCopy; first | rw [zIG_t ⟨⟨zj, Nat.zero_le _, zhj, rfl⟩, ⟨ze, Nat.zero_le _, zhe, rfl⟩⟩, hnj, hne, show zFnm ((la, sz, it) : zRw).1 ((la, sz, it) : zRw).2.1 zj ze i9 j9 x9 = _ from zFnm_n (Or.inl zc22), zIG_f zne1] | rw [zIG_t ⟨⟨zj, Nat.zero_le _, zhj, rfl⟩, ⟨ze, Nat.zero_le _, zhe, rfl⟩⟩, hnj, hne, show zFnm ((la, sz, it) : zRw).1 ((la, sz, it) : zRw).2.1 zj ze i9 j9 x9 = _ from zFnm_n (Or.inr zc30), zIG_f zne1], hmn, rfl⟩
    · skip
      refine z_ldc hx dX12_copy_14 kX12_61 ?_
      exact z_iret hx hF dX12_copy_16 rfl rfl ⟨(la, sz, it), st, mn, sp, by unfold aCopy; first | rw [zIG_f (fun h => zc4 h.1)] | rw [zIG_f (fun h => zc11 h.2)], hmn, rfl⟩

