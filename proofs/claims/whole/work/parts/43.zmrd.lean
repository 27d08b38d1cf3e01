/-! the reference's reader -/
def hMt (r : zMR) (ls : Nat → Nat) (sz fk : Nat) (fp : Int32) (ca cs ct : Nat) (cv : Int32) (L : zL) (dr tr : Nat → Nat) (y : zMY) (a : zMA) : List zE :=
  [zO 11 [.ref 1, .ref 2, .ref 3, .ref 4, .int (nI r.2.2.2.2), .ref 5, .int (nI sz), .int (nI fk), .int fp, .int (nI ca), .int (nI cs), .int (nI ct), .int cv, .ref 6, .ref 7, .ref 8, .ref 9, .int (nI y.2.1), .ref 10, .ref 11, .ref 12, .int (nI a.2)],
   zI 8 r.1, zN 8 r.2.1, zI 320 r.2.2.1, zI 40 r.2.2.2.1, zN 100 ls, zN 34 (fl L), zN 34 dr, zN 34 tr, zN 816 y.1, zN 68 y.2.2.1, zZ 2 y.2.2.2, zN 16 a.1]
def zBt (ls : Nat → Nat) (sz p : Nat) : Int32 := if p < sz then nI (ls p) else -1
def zTok (ls : Nat → Nat) (sz p : Nat) : Nat := if p < sz then (if zDg ls sz p then (if zEd ls sz p - p < 3 then 2 else 5) else if 97 ≤ ls p ∧ ls p ≤ 122 then 1 else if ls p = 44 then 3 else if ls p = 59 then 4 else 5) else 0
def zVI (ls : Nat → Nat) (sz p : Nat) : Int32 := if p < sz then (if zDg ls sz p then nI (zNv ls sz p) else nI (ls p)) else -1
def zAd (ls : Nat → Nat) (sz p : Nat) : Nat := if p < sz then (if zDg ls sz p then zEd ls sz p else p + 1) else p
theorem zAd_le {ls : Nat → Nat} {sz p : Nat} (h : p ≤ sz) : zAd ls sz p ≤ sz := by
  have := zEd_le ls sz p
  unfold zAd
  split
  · split <;> omega
  · omega
theorem zTok_le (ls : Nat → Nat) (sz p : Nat) : zTok ls sz p ≤ 5 := by
  unfold zTok
  repeat' split
  all_goals omega
theorem zm1 {j : Nat} (h : j < 2147483648) : ¬ (-1 : Int32) = nI j := fun e => by
  have h2 := congrArg Int32.toInt e
  rw [nI_toInt (by omega)] at h2
  have h4 : (-1 : Int32).toInt = -1 := by decide
  omega
set_option maxHeartbeats 4000000 in
set_option maxRecDepth 100000 in
theorem qX12_byteAt (r : zMR) (ls : Nat → Nat) (sz fk : Nat) (fp : Int32) (ca cs ct : Nat) (cv : Int32) (L : zL) (dr tr : Nat → Nat) (y : zMY) (a : zMA) (hsz : sz ≤ 100) (hls : ∀ j, ls j ≤ 255) (k : Nat) (hk : k ≤ 1000) : zMi mX12_byteAt 0 ([.ref 0, .int (nI k)]) (hMt r ls sz (fk) (fp) (ca) (cs) (ct) (cv) (L) (dr) tr y a) (fun z u => z = zBt ls sz k ∧ u = hMt r ls sz (fk) (fp) (ca) (cs) (ct) (cv) (L) (dr) tr y a) := by
  refine zMi.of (by decide) (Nat.le_of_ble_eq_true rfl) (fun x hx hF => ?_)
  refine z_iload_n hx dX12_byteAt_0 rfl ?_
  refine z_aload_n hx dX12_byteAt_1 rfl ?_
  refine z_get hx dX12_byteAt_2 fX12_79 rfl rfl ?_
  first | refine z_icmp_geN (tgt := 17) hx dX12_byteAt_5 (by decide) (by omega) (by omega) (fun zc5 => ?_) (fun zc5 => ?_) | refine z_icmp_ge (tgt := 17) hx dX12_byteAt_5 (by decide) (fun zc5 => ?_) (fun zc5 => ?_)
  · skip
    refine z_iconst (v := -1) hx dX12_byteAt_17 (by decide) ?_
    exact z_iret hx hF dX12_byteAt_18 rfl rfl ⟨by unfold zBt; first | rw [if_pos (by omega)] | rw [if_neg (by omega)], rfl⟩
  · skip
    refine z_aload_n hx dX12_byteAt_8 rfl ?_
    refine z_get hx dX12_byteAt_9 fX12_22 rfl rfl ?_
    refine z_iload_n hx dX12_byteAt_12 rfl ?_
    refine z_ialdJ hx dX12_byteAt_13 rfl (by decide) (by omega) ?_
    refine z_goto (tgt := 18) hx dX12_byteAt_14 (by decide) ?_
    exact z_iret hx hF dX12_byteAt_18 rfl rfl ⟨by unfold zBt; first | rw [if_pos (by omega)] | rw [if_neg (by omega)], rfl⟩

set_option maxHeartbeats 4000000 in
set_option maxRecDepth 100000 in
theorem qX12_adv_e (r : zMR) (ls : Nat → Nat) (sz fk : Nat) (fp : Int32) (ca cs ct : Nat) (cv : Int32) (L : zL) (dr tr : Nat → Nat) (y : zMY) (a : zMA) (hsz : sz ≤ 100) (hls : ∀ j, ls j ≤ 255) (hca : ca ≤ sz) (h9 : ¬ ca < sz) : zMv mX12_advances 1 ([.ref 0]) (hMt r ls sz (fk) (fp) (ca) (cs) (ct) (cv) (L) (dr) tr y a) (fun u => u = hMt r ls sz (fk) (fp) (zAd ls sz ca) (ca) (zTok ls sz ca) (zVI ls sz ca) (L) (dr) tr y a) := by
  refine zMv.of (by decide) (Nat.le_of_ble_eq_true rfl) (fun x hx hF => ?_)
  refine z_aload_n hx dX12_advances_0 rfl ?_
  refine z_aload_n hx dX12_advances_1 rfl ?_
  refine z_get hx dX12_advances_2 fX12_83 rfl rfl ?_
  refine z_puti hx dX12_advances_5 pX12_86 rfl (Nat.le_of_ble_eq_true rfl) ?_
  refine z_heap (show _ = hMt r ls sz (fk) (fp) (ca) (ca) (ct) (cv) (L) (dr) tr y a from rfl) ?_
  refine z_aload_n hx dX12_advances_8 rfl ?_
  refine z_aload_n hx dX12_advances_9 rfl ?_
  refine z_get hx dX12_advances_10 fX12_83 rfl rfl ?_
  refine z_callivF hx (qX12_byteAt r ls sz fk fp ca ca ct cv L dr tr y a hsz hls ca (by omega)) dX12_advances_13 sX12_89 rfl rfl rfl rfl (Nat.le_of_ble_eq_true rfl) rfl (Nat.le_of_ble_eq_true rfl) (by decide) ?_
  refine z_top (b := -1) (if_neg h9) ?_
  refine z_istore_n hx dX12_advances_16 (Nat.le_of_ble_eq_true rfl) rfl ?_
  refine z_aload_n hx dX12_advances_17 rfl ?_
  refine z_iload_n hx dX12_advances_18 rfl ?_
  refine z_puti hx dX12_advances_19 pX12_92 rfl (Nat.le_of_ble_eq_true rfl) ?_
  refine z_heap (show _ = hMt r ls sz (fk) (fp) (ca) (ca) (ct) (-1) (L) (dr) tr y a from rfl) ?_
  refine z_iload_n hx dX12_advances_22 rfl ?_
  refine z_bipush (v := nI 48) hx dX12_advances_23 (by decide) ?_
  refine z_bipush (v := nI 57) hx dX12_advances_25 (by decide) ?_
  refine z_callisP hx [] (qX12_inN _ _ _ (by decide)) dX12_advances_27 sX12_53 rfl rfl rfl (by decide) (by decide) rfl (Nat.le_of_ble_eq_true rfl) (by decide) ?_
  first | refine z_if_eqB (tgt := 135) hx dX12_advances_30 (by decide) (fun zc30 => ?_) (fun zc30 => ?_) | refine z_if_eqN (tgt := 135) hx dX12_advances_30 (by decide) (by omega) (fun zc30 => ?_) (fun zc30 => ?_) | refine z_if_eq (tgt := 135) hx dX12_advances_30 (by decide) (fun zc30 => ?_) (fun zc30 => ?_)
  · skip
    refine z_aload_n hx dX12_advances_135 rfl ?_
    refine z_iload_n hx dX12_advances_136 rfl ?_
    refine z_if_ge (tgt := 144) hx dX12_advances_137 (by decide) (fun zc137 => ?_) (fun zc137 => ?_)
    · skip
      exact absurd zc137 (by decide)
    · skip
      refine z_iconst (v := nI 0) hx dX12_advances_140 (by decide) ?_
      refine z_goto (tgt := 180) hx dX12_advances_141 (by decide) ?_
      refine z_puti hx dX12_advances_180 pX12_95 rfl (Nat.le_of_ble_eq_true rfl) ?_
      refine z_aload_n hx dX12_advances_183 rfl ?_
      refine z_dup hx dX12_advances_184 rfl ?_
      refine z_get hx dX12_advances_185 fX12_83 rfl rfl ?_
      refine z_aload_n hx dX12_advances_188 rfl ?_
      refine z_get hx dX12_advances_189 fX12_95 rfl rfl ?_
      refine z_if_neN (tgt := 199) hx dX12_advances_192 (by decide) (by omega) (fun zc192 => ?_) (fun zc192 => ?_)
      · skip
        exfalso; omega
      · skip
        refine z_iconst (v := nI 0) hx dX12_advances_195 (by decide) ?_
        refine z_goto (tgt := 200) hx dX12_advances_196 (by decide) ?_
        first | refine z_iaddN hx dX12_advances_200 ?_ | refine z_iadd hx dX12_advances_200 ?_
        refine z_puti hx dX12_advances_201 pX12_83 rfl (Nat.le_of_ble_eq_true rfl) ?_
        exact z_vret hx hF dX12_advances_204 rfl rfl (by unfold zAd zTok zVI; rw [if_neg h9, if_neg h9, if_neg h9]; rfl)
  · skip
    obtain ⟨j, j1, j2, j3⟩ := zc30
    exact absurd j3 (zm1 (by omega))

theorem zin9 {c a b : Nat} (hc : c < 2147483648) (hb : b < 2147483648) : (∃ j, a ≤ j ∧ j ≤ b ∧ nI c = nI j) ↔ (a ≤ c ∧ c ≤ b) := by
  constructor
  · rintro ⟨j, h1, h2, h3⟩
    have := (nI_eq (by omega) (by omega)).mp h3
    omega
  · intro h
    exact ⟨c, h.1, h.2, rfl⟩
theorem zTok_1 {ls : Nat → Nat} {sz p : Nat} (h1 : p < sz) (h2 : ¬ zDg ls sz p) (h3 : 97 ≤ ls p ∧ ls p ≤ 122) : zTok ls sz p = 1 := by unfold zTok; rw [if_pos h1, if_neg h2, if_pos h3]
theorem zTok_3 {ls : Nat → Nat} {sz p : Nat} (h1 : p < sz) (h3 : ls p = 44) : zTok ls sz p = 3 := by unfold zTok; rw [if_pos h1, if_neg (fun h => by have := h.2.1; omega), if_neg (by omega), if_pos h3]
theorem zTok_4 {ls : Nat → Nat} {sz p : Nat} (h1 : p < sz) (h3 : ls p = 59) : zTok ls sz p = 4 := by unfold zTok; rw [if_pos h1, if_neg (fun h => by have := h.2.2; omega), if_neg (by omega), if_neg (by omega), if_pos h3]
theorem zTok_5 {ls : Nat → Nat} {sz p : Nat} (h1 : p < sz) (h2 : ¬ zDg ls sz p) (h3 : ¬ (97 ≤ ls p ∧ ls p ≤ 122)) (h4 : ¬ ls p = 44) (h5 : ¬ ls p = 59) : zTok ls sz p = 5 := by unfold zTok; rw [if_pos h1, if_neg h2, if_neg h3, if_neg h4, if_neg h5]
theorem zAV_o {ls : Nat → Nat} {sz p : Nat} (h1 : p < sz) (h2 : ¬ zDg ls sz p) : zAd ls sz p = p + 1 ∧ zVI ls sz p = nI (ls p) := by
  unfold zAd zVI
  rw [if_pos h1, if_pos h1, if_neg h2, if_neg h2]
  exact ⟨rfl, rfl⟩
theorem zAV_d {ls : Nat → Nat} {sz p : Nat} (h2 : zDg ls sz p) : zAd ls sz p = zEd ls sz p ∧ zVI ls sz p = nI (zNv ls sz p) ∧ zTok ls sz p = (if zEd ls sz p - p < 3 then 2 else 5) := by
  unfold zAd zVI zTok
  rw [if_pos h2.1, if_pos h2.1, if_pos h2.1, if_pos h2, if_pos h2, if_pos h2]
  exact ⟨rfl, rfl, rfl⟩
set_option maxHeartbeats 4000000 in
set_option maxRecDepth 100000 in
theorem qX12_adv_o (r : zMR) (ls : Nat → Nat) (sz fk : Nat) (fp : Int32) (ca cs ct : Nat) (cv : Int32) (L : zL) (dr tr : Nat → Nat) (y : zMY) (a : zMA) (hsz : sz ≤ 100) (hls : ∀ j, ls j ≤ 255) (hca : ca ≤ sz) (h1 : ca < sz) (h2 : ¬ zDg ls sz ca) : zMv mX12_advances 1 ([.ref 0]) (hMt r ls sz (fk) (fp) (ca) (cs) (ct) (cv) (L) (dr) tr y a) (fun u => u = hMt r ls sz (fk) (fp) (zAd ls sz ca) (ca) (zTok ls sz ca) (zVI ls sz ca) (L) (dr) tr y a) := by
  refine zMv.of (by decide) (Nat.le_of_ble_eq_true rfl) (fun x hx hF => ?_)
  refine z_aload_n hx dX12_advances_0 rfl ?_
  refine z_aload_n hx dX12_advances_1 rfl ?_
  refine z_get hx dX12_advances_2 fX12_83 rfl rfl ?_
  refine z_puti hx dX12_advances_5 pX12_86 rfl (Nat.le_of_ble_eq_true rfl) ?_
  refine z_heap (show _ = hMt r ls sz (fk) (fp) (ca) (ca) (ct) (cv) (L) (dr) tr y a from rfl) ?_
  refine z_aload_n hx dX12_advances_8 rfl ?_
  refine z_aload_n hx dX12_advances_9 rfl ?_
  refine z_get hx dX12_advances_10 fX12_83 rfl rfl ?_
  refine z_callivF hx (qX12_byteAt r ls sz fk fp ca ca ct cv L dr tr y a hsz hls ca (by omega)) dX12_advances_13 sX12_89 rfl rfl rfl rfl (Nat.le_of_ble_eq_true rfl) rfl (Nat.le_of_ble_eq_true rfl) (by decide) ?_
  refine z_top (b := nI (ls ca)) (if_pos h1) ?_
  have hl9 := hls ca
  refine z_istore_n hx dX12_advances_16 (Nat.le_of_ble_eq_true rfl) rfl ?_
  refine z_aload_n hx dX12_advances_17 rfl ?_
  refine z_iload_n hx dX12_advances_18 rfl ?_
  refine z_puti hx dX12_advances_19 pX12_92 rfl (Nat.le_of_ble_eq_true rfl) ?_
  refine z_heap (show _ = hMt r ls sz (fk) (fp) (ca) (ca) (ct) (nI (ls ca)) (L) (dr) tr y a from rfl) ?_
  refine z_iload_n hx dX12_advances_22 rfl ?_
  refine z_bipush (v := nI 48) hx dX12_advances_23 (by decide) ?_
  refine z_bipush (v := nI 57) hx dX12_advances_25 (by decide) ?_
  refine z_callisP hx [] (qX12_inN _ _ _ (by decide)) dX12_advances_27 sX12_53 rfl rfl rfl (by decide) (by decide) rfl (Nat.le_of_ble_eq_true rfl) (by decide) ?_
  first | refine z_if_eqB (tgt := 135) hx dX12_advances_30 (by decide) (fun zc30 => ?_) (fun zc30 => ?_) | refine z_if_eqN (tgt := 135) hx dX12_advances_30 (by decide) (by omega) (fun zc30 => ?_) (fun zc30 => ?_) | refine z_if_eq (tgt := 135) hx dX12_advances_30 (by decide) (fun zc30 => ?_) (fun zc30 => ?_)
  · skip
    refine z_aload_n hx dX12_advances_135 rfl ?_
    refine z_iload_n hx dX12_advances_136 rfl ?_
    refine z_if_geN (tgt := 144) hx dX12_advances_137 (by decide) (by omega) ?_
    refine z_iload_n hx dX12_advances_144 rfl ?_
    refine z_bipush (v := nI 97) hx dX12_advances_145 (by decide) ?_
    refine z_bipush (v := nI 122) hx dX12_advances_147 (by decide) ?_
    refine z_callisP hx [] (qX12_inN _ _ _ (by decide)) dX12_advances_149 sX12_53 rfl rfl rfl (by decide) (by decide) rfl (Nat.le_of_ble_eq_true rfl) (by decide) ?_
    first | refine z_if_eqB (tgt := 159) hx dX12_advances_152 (by decide) (fun zc152 => ?_) (fun zc152 => ?_) | refine z_if_eqN (tgt := 159) hx dX12_advances_152 (by decide) (by omega) (fun zc152 => ?_) (fun zc152 => ?_) | refine z_if_eq (tgt := 159) hx dX12_advances_152 (by decide) (fun zc152 => ?_) (fun zc152 => ?_)
    · skip
      refine z_iload_n hx dX12_advances_159 rfl ?_
      refine z_bipush (v := nI 44) hx dX12_advances_160 (by decide) ?_
      refine z_icmp_neN (tgt := 169) hx dX12_advances_162 (by decide) (by omega) (by omega) (fun zc162 => ?_) (fun zc162 => ?_)
      · skip
        refine z_iload_n hx dX12_advances_169 rfl ?_
        refine z_bipush (v := nI 59) hx dX12_advances_170 (by decide) ?_
        refine z_icmp_neN (tgt := 179) hx dX12_advances_172 (by decide) (by omega) (by omega) (fun zc172 => ?_) (fun zc172 => ?_)
        · skip
          refine z_iconst (v := nI 5) hx dX12_advances_179 (by decide) ?_
          refine z_puti hx dX12_advances_180 pX12_95 rfl (Nat.le_of_ble_eq_true rfl) ?_
          refine z_aload_n hx dX12_advances_183 rfl ?_
          refine z_dup hx dX12_advances_184 rfl ?_
          refine z_get hx dX12_advances_185 fX12_83 rfl rfl ?_
          refine z_aload_n hx dX12_advances_188 rfl ?_
          refine z_get hx dX12_advances_189 fX12_95 rfl rfl ?_
          refine z_if_neN (tgt := 199) hx dX12_advances_192 (by decide) (by omega) (fun zc192 => ?_) (fun zc192 => ?_)
          · skip
            refine z_iconst (v := nI 1) hx dX12_advances_199 (by decide) ?_
            first | refine z_iaddN hx dX12_advances_200 ?_ | refine z_iadd hx dX12_advances_200 ?_
            refine z_puti hx dX12_advances_201 pX12_83 rfl (Nat.le_of_ble_eq_true rfl) ?_
            exact z_vret hx hF dX12_advances_204 rfl rfl (by obtain ⟨e1, e2⟩ := zAV_o h1 h2; rw [e1, e2]; first | (rw [zTok_1 h1 h2 ((zin9 (by omega) (by decide)).mp zc152)]; rfl) | (rw [zTok_3 h1 zc162]; rfl) | (rw [zTok_4 h1 zc172]; rfl) | (rw [zTok_5 h1 h2 (fun h => zc152 ((zin9 (by omega) (by decide)).mpr h)) zc162 zc172]; rfl) | exact zzz_open)
          · skip
            exfalso; omega
        · skip
          refine z_iconst (v := nI 4) hx dX12_advances_175 (by decide) ?_
          refine z_goto (tgt := 180) hx dX12_advances_176 (by decide) ?_
          refine z_puti hx dX12_advances_180 pX12_95 rfl (Nat.le_of_ble_eq_true rfl) ?_
          refine z_aload_n hx dX12_advances_183 rfl ?_
          refine z_dup hx dX12_advances_184 rfl ?_
          refine z_get hx dX12_advances_185 fX12_83 rfl rfl ?_
          refine z_aload_n hx dX12_advances_188 rfl ?_
          refine z_get hx dX12_advances_189 fX12_95 rfl rfl ?_
          refine z_if_neN (tgt := 199) hx dX12_advances_192 (by decide) (by omega) (fun zc192 => ?_) (fun zc192 => ?_)
          · skip
            refine z_iconst (v := nI 1) hx dX12_advances_199 (by decide) ?_
            first | refine z_iaddN hx dX12_advances_200 ?_ | refine z_iadd hx dX12_advances_200 ?_
            refine z_puti hx dX12_advances_201 pX12_83 rfl (Nat.le_of_ble_eq_true rfl) ?_
            exact z_vret hx hF dX12_advances_204 rfl rfl (by obtain ⟨e1, e2⟩ := zAV_o h1 h2; rw [e1, e2]; first | (rw [zTok_1 h1 h2 ((zin9 (by omega) (by decide)).mp zc152)]; rfl) | (rw [zTok_3 h1 zc162]; rfl) | (rw [zTok_4 h1 zc172]; rfl) | (rw [zTok_5 h1 h2 (fun h => zc152 ((zin9 (by omega) (by decide)).mpr h)) zc162 zc172]; rfl) | exact zzz_open)
          · skip
            exfalso; omega
      · skip
        refine z_iconst (v := nI 3) hx dX12_advances_165 (by decide) ?_
        refine z_goto (tgt := 180) hx dX12_advances_166 (by decide) ?_
        refine z_puti hx dX12_advances_180 pX12_95 rfl (Nat.le_of_ble_eq_true rfl) ?_
        refine z_aload_n hx dX12_advances_183 rfl ?_
        refine z_dup hx dX12_advances_184 rfl ?_
        refine z_get hx dX12_advances_185 fX12_83 rfl rfl ?_
        refine z_aload_n hx dX12_advances_188 rfl ?_
        refine z_get hx dX12_advances_189 fX12_95 rfl rfl ?_
        refine z_if_neN (tgt := 199) hx dX12_advances_192 (by decide) (by omega) (fun zc192 => ?_) (fun zc192 => ?_)
        · skip
          refine z_iconst (v := nI 1) hx dX12_advances_199 (by decide) ?_
          first | refine z_iaddN hx dX12_advances_200 ?_ | refine z_iadd hx dX12_advances_200 ?_
          refine z_puti hx dX12_advances_201 pX12_83 rfl (Nat.le_of_ble_eq_true rfl) ?_
          exact z_vret hx hF dX12_advances_204 rfl rfl (by obtain ⟨e1, e2⟩ := zAV_o h1 h2; rw [e1, e2]; first | (rw [zTok_1 h1 h2 ((zin9 (by omega) (by decide)).mp zc152)]; rfl) | (rw [zTok_3 h1 zc162]; rfl) | (rw [zTok_4 h1 zc172]; rfl) | (rw [zTok_5 h1 h2 (fun h => zc152 ((zin9 (by omega) (by decide)).mpr h)) zc162 zc172]; rfl) | exact zzz_open)
        · skip
          exfalso; omega
    · skip
      refine z_iconst (v := nI 1) hx dX12_advances_155 (by decide) ?_
      refine z_goto (tgt := 180) hx dX12_advances_156 (by decide) ?_
      refine z_puti hx dX12_advances_180 pX12_95 rfl (Nat.le_of_ble_eq_true rfl) ?_
      refine z_aload_n hx dX12_advances_183 rfl ?_
      refine z_dup hx dX12_advances_184 rfl ?_
      refine z_get hx dX12_advances_185 fX12_83 rfl rfl ?_
      refine z_aload_n hx dX12_advances_188 rfl ?_
      refine z_get hx dX12_advances_189 fX12_95 rfl rfl ?_
      refine z_if_neN (tgt := 199) hx dX12_advances_192 (by decide) (by omega) (fun zc192 => ?_) (fun zc192 => ?_)
      · skip
        refine z_iconst (v := nI 1) hx dX12_advances_199 (by decide) ?_
        first | refine z_iaddN hx dX12_advances_200 ?_ | refine z_iadd hx dX12_advances_200 ?_
        refine z_puti hx dX12_advances_201 pX12_83 rfl (Nat.le_of_ble_eq_true rfl) ?_
        exact z_vret hx hF dX12_advances_204 rfl rfl (by obtain ⟨e1, e2⟩ := zAV_o h1 h2; rw [e1, e2]; first | (rw [zTok_1 h1 h2 ((zin9 (by omega) (by decide)).mp zc152)]; rfl) | (rw [zTok_3 h1 zc162]; rfl) | (rw [zTok_4 h1 zc172]; rfl) | (rw [zTok_5 h1 h2 (fun h => zc152 ((zin9 (by omega) (by decide)).mpr h)) zc162 zc172]; rfl) | exact zzz_open)
      · skip
        exfalso; omega
  · skip
    obtain ⟨j, j1, j2, j3⟩ := zc30
    have j4 := (nI_eq (by omega) (by omega)).mp j3
    exact absurd ⟨h1, by omega, by omega⟩ h2

set_option maxHeartbeats 4000000 in
set_option maxRecDepth 100000 in
theorem qX12_adv_d (r : zMR) (ls : Nat → Nat) (sz fk : Nat) (fp : Int32) (ca cs ct : Nat) (cv : Int32) (L : zL) (dr tr : Nat → Nat) (y : zMY) (a : zMA) (hsz : sz ≤ 100) (hls : ∀ j, ls j ≤ 255) (hca : ca ≤ sz) (h2 : zDg ls sz ca) : zMv mX12_advances 1 ([.ref 0]) (hMt r ls sz (fk) (fp) (ca) (cs) (ct) (cv) (L) (dr) tr y a) (fun u => u = hMt r ls sz (fk) (fp) (zAd ls sz ca) (ca) (zTok ls sz ca) (zVI ls sz ca) (L) (dr) tr y a) := by
  refine zMv.of (by decide) (Nat.le_of_ble_eq_true rfl) (fun x hx hF => ?_)
  have h1 := h2.1
  have hl0 := hls ca
  have loop38 : ∀ (n38 : Nat) (e : Nat), sz - e = n38 → ca ≤ e → e ≤ sz → zEd ls sz ca = zEd ls sz e → zV x 38 [some (.ref 0), some (.int (nI (ls ca)))] ([]) (hMt r ls sz (fk) (fp) (e) (ca) (ct) (nI (zVd ls ca (e - ca))) (L) (dr) tr y a) := by
    intro n38
    induction n38 using Nat.strongRecOn with
    | ind n38 ih =>
      intro e hn he1 he2 hen
      have hl9 := hls e
      have hv9 := zVd_le hls ca (e - ca)
      refine z_aload_n hx dX12_advances_38 rfl ?_
      refine z_aload_n hx dX12_advances_39 rfl ?_
      refine z_get hx dX12_advances_40 fX12_83 rfl rfl ?_
      refine z_callivF hx (qX12_byteAt r ls sz fk fp e ca ct (nI (zVd ls ca (e - ca))) L dr tr y a hsz hls e (by omega)) dX12_advances_43 sX12_89 rfl rfl rfl rfl (Nat.le_of_ble_eq_true rfl) rfl (Nat.le_of_ble_eq_true rfl) (by decide) ?_
      by_cases hps : e < sz
      · skip
        refine z_top (b := nI (ls e)) (if_pos hps) ?_
        refine z_bipush (v := nI 48) hx dX12_advances_46 (by decide) ?_
        refine z_bipush (v := nI 57) hx dX12_advances_48 (by decide) ?_
        refine z_callisP hx [] (qX12_inN _ _ _ (by decide)) dX12_advances_50 sX12_53 rfl rfl rfl (by decide) (by decide) rfl (Nat.le_of_ble_eq_true rfl) (by decide) ?_
        first | refine z_if_eqB (tgt := 112) hx dX12_advances_53 (by decide) (fun zc53 => ?_) (fun zc53 => ?_) | refine z_if_eqN (tgt := 112) hx dX12_advances_53 (by decide) (by omega) (fun zc53 => ?_) (fun zc53 => ?_) | refine z_if_eq (tgt := 112) hx dX12_advances_53 (by decide) (fun zc53 => ?_) (fun zc53 => ?_)
        · skip
          have hnd9 : ¬ zDg ls sz e := fun h => by first | exact absurd h.1 hps | exact zc53 ((zin9 (by omega) (by decide)).mpr h.2)
          have hee : zEd ls sz ca = e := by rw [hen, zEd_f hnd9]
          refine z_aload_n hx dX12_advances_112 rfl ?_
          refine z_aload_n hx dX12_advances_113 rfl ?_
          refine z_get hx dX12_advances_114 fX12_83 rfl rfl ?_
          refine z_aload_n hx dX12_advances_117 rfl ?_
          refine z_get hx dX12_advances_118 fX12_86 rfl rfl ?_
          first | refine z_isubN hx dX12_advances_121 (by omega) ?_ | refine z_isub hx dX12_advances_121 ?_
          refine z_iconst (v := nI 3) hx dX12_advances_122 (by decide) ?_
          first | refine z_icmp_geN (tgt := 130) hx dX12_advances_123 (by decide) (by omega) (by omega) (fun zc123 => ?_) (fun zc123 => ?_) | refine z_icmp_ge (tgt := 130) hx dX12_advances_123 (by decide) (fun zc123 => ?_) (fun zc123 => ?_)
          · skip
            refine z_iconst (v := nI 5) hx dX12_advances_130 (by decide) ?_
            refine z_puti hx dX12_advances_131 pX12_95 rfl (Nat.le_of_ble_eq_true rfl) ?_
            exact z_vret hx hF dX12_advances_134 rfl rfl (by obtain ⟨e1, e2, e3⟩ := zAV_d h2; rw [e1, e2, e3]; unfold zNv; rw [hee]; first | (rw [if_pos (by omega)]; rfl) | (rw [if_neg (by omega)]; rfl) | exact zzz_open)
          · skip
            refine z_iconst (v := nI 2) hx dX12_advances_126 (by decide) ?_
            refine z_goto (tgt := 131) hx dX12_advances_127 (by decide) ?_
            refine z_puti hx dX12_advances_131 pX12_95 rfl (Nat.le_of_ble_eq_true rfl) ?_
            exact z_vret hx hF dX12_advances_134 rfl rfl (by obtain ⟨e1, e2, e3⟩ := zAV_d h2; rw [e1, e2, e3]; unfold zNv; rw [hee]; first | (rw [if_pos (by omega)]; rfl) | (rw [if_neg (by omega)]; rfl) | exact zzz_open)
        · skip
          have hd9 : zDg ls sz e := ⟨hps, (zin9 (by omega) (by decide)).mp zc53⟩
          have hd8 := hd9.2
          refine z_aload_n hx dX12_advances_56 rfl ?_
          refine z_aload_n hx dX12_advances_57 rfl ?_
          refine z_get hx dX12_advances_58 fX12_83 rfl rfl ?_
          refine z_aload_n hx dX12_advances_61 rfl ?_
          refine z_get hx dX12_advances_62 fX12_86 rfl rfl ?_
          first | refine z_isubN hx dX12_advances_65 (by omega) ?_ | refine z_isub hx dX12_advances_65 ?_
          refine z_iconst (v := nI 2) hx dX12_advances_66 (by decide) ?_
          first | refine z_icmp_geN (tgt := 92) hx dX12_advances_67 (by decide) (by omega) (by omega) (fun zc67 => ?_) (fun zc67 => ?_) | refine z_icmp_ge (tgt := 92) hx dX12_advances_67 (by decide) (fun zc67 => ?_) (fun zc67 => ?_)
          · skip
            refine z_aload_n hx dX12_advances_92 rfl ?_
            refine z_get hx dX12_advances_93 fX12_92 rfl rfl ?_
            refine z_puti hx dX12_advances_96 pX12_92 rfl (Nat.le_of_ble_eq_true rfl) ?_
            first | refine z_heap (show _ = hMt r ls sz (fk) (fp) (e) (ca) (ct) (nI (zVd ls ca (e + 1 - ca))) (L) (dr) tr y a from rfl) ?_ | refine z_heap (show _ = hMt r ls sz (fk) (fp) (e) (ca) (ct) (nI (zVd ls ca (e + 1 - ca))) (L) (dr) tr y a by rw [← zVd_k (by omega)]; rfl) ?_
            refine z_aload_n hx dX12_advances_99 rfl ?_
            refine z_dup hx dX12_advances_100 rfl ?_
            refine z_get hx dX12_advances_101 fX12_83 rfl rfl ?_
            refine z_iconst (v := nI 1) hx dX12_advances_104 (by decide) ?_
            first | refine z_iaddN hx dX12_advances_105 ?_ | refine z_iadd hx dX12_advances_105 ?_
            refine z_puti hx dX12_advances_106 pX12_83 rfl (Nat.le_of_ble_eq_true rfl) ?_
            refine z_goto (tgt := 38) hx dX12_advances_109 (by decide) ?_
            exact z_heap (show _ = hMt r ls sz (fk) (fp) ((e + 1)) (ca) (ct) (nI (zVd ls ca ((e + 1) - ca))) (L) (dr) tr y a from rfl) (ih _ (by omega) (e + 1) rfl (by omega) (by omega) (by rw [hen, zEd_t hd9]))
          · skip
            refine z_bipush (v := nI 10) hx dX12_advances_70 (by decide) ?_
            refine z_aload_n hx dX12_advances_72 rfl ?_
            refine z_get hx dX12_advances_73 fX12_92 rfl rfl ?_
            first | refine z_imulN hx dX12_advances_76 ?_ | refine z_imul hx dX12_advances_76 ?_
            refine z_aload_n hx dX12_advances_77 rfl ?_
            refine z_aload_n hx dX12_advances_78 rfl ?_
            refine z_get hx dX12_advances_79 fX12_83 rfl rfl ?_
            refine z_callivF hx (qX12_byteAt r ls sz fk fp e ca ct (nI (zVd ls ca (e - ca))) L dr tr y a hsz hls e (by omega)) dX12_advances_82 sX12_89 rfl rfl rfl rfl (Nat.le_of_ble_eq_true rfl) rfl (Nat.le_of_ble_eq_true rfl) (by decide) ?_
            refine z_top (b := nI (ls e)) (if_pos hps) ?_
            first | refine z_iaddN hx dX12_advances_85 ?_ | refine z_iadd hx dX12_advances_85 ?_
            refine z_bipush (v := nI 48) hx dX12_advances_86 (by decide) ?_
            refine z_isubN hx dX12_advances_88 (by omega) ?_
            refine z_topN (b := zVd ls ca (e + 1 - ca)) (by have := (zVd_s (ls := ls) (p := ca) (e := e) (by omega) he1).resolve_right (by omega); omega) ?_
            refine z_goto (tgt := 96) hx dX12_advances_89 (by decide) ?_
            refine z_puti hx dX12_advances_96 pX12_92 rfl (Nat.le_of_ble_eq_true rfl) ?_
            first | refine z_heap (show _ = hMt r ls sz (fk) (fp) (e) (ca) (ct) (nI (zVd ls ca (e + 1 - ca))) (L) (dr) tr y a from rfl) ?_ | refine z_heap (show _ = hMt r ls sz (fk) (fp) (e) (ca) (ct) (nI (zVd ls ca (e + 1 - ca))) (L) (dr) tr y a by rw [← zVd_k (by omega)]; rfl) ?_
            refine z_aload_n hx dX12_advances_99 rfl ?_
            refine z_dup hx dX12_advances_100 rfl ?_
            refine z_get hx dX12_advances_101 fX12_83 rfl rfl ?_
            refine z_iconst (v := nI 1) hx dX12_advances_104 (by decide) ?_
            first | refine z_iaddN hx dX12_advances_105 ?_ | refine z_iadd hx dX12_advances_105 ?_
            refine z_puti hx dX12_advances_106 pX12_83 rfl (Nat.le_of_ble_eq_true rfl) ?_
            refine z_goto (tgt := 38) hx dX12_advances_109 (by decide) ?_
            exact z_heap (show _ = hMt r ls sz (fk) (fp) ((e + 1)) (ca) (ct) (nI (zVd ls ca ((e + 1) - ca))) (L) (dr) tr y a from rfl) (ih _ (by omega) (e + 1) rfl (by omega) (by omega) (by rw [hen, zEd_t hd9]))
      · skip
        refine z_top (b := -1) (if_neg hps) ?_
        refine z_bipush (v := nI 48) hx dX12_advances_46 (by decide) ?_
        refine z_bipush (v := nI 57) hx dX12_advances_48 (by decide) ?_
        refine z_callisP hx [] (qX12_inN _ _ _ (by decide)) dX12_advances_50 sX12_53 rfl rfl rfl (by decide) (by decide) rfl (Nat.le_of_ble_eq_true rfl) (by decide) ?_
        refine z_if_eqB (tgt := 112) hx dX12_advances_53 (by decide) (fun zc53 => ?_) (fun zc53 => by obtain ⟨j, j1, j2, j3⟩ := zc53; exact absurd j3 (zm1 (by omega)))
        have hnd9 : ¬ zDg ls sz e := fun h => by first | exact absurd h.1 hps | exact zc53 ((zin9 (by omega) (by decide)).mpr h.2)
        have hee : zEd ls sz ca = e := by rw [hen, zEd_f hnd9]
        refine z_aload_n hx dX12_advances_112 rfl ?_
        refine z_aload_n hx dX12_advances_113 rfl ?_
        refine z_get hx dX12_advances_114 fX12_83 rfl rfl ?_
        refine z_aload_n hx dX12_advances_117 rfl ?_
        refine z_get hx dX12_advances_118 fX12_86 rfl rfl ?_
        first | refine z_isubN hx dX12_advances_121 (by omega) ?_ | refine z_isub hx dX12_advances_121 ?_
        refine z_iconst (v := nI 3) hx dX12_advances_122 (by decide) ?_
        first | refine z_icmp_geN (tgt := 130) hx dX12_advances_123 (by decide) (by omega) (by omega) (fun zc123 => ?_) (fun zc123 => ?_) | refine z_icmp_ge (tgt := 130) hx dX12_advances_123 (by decide) (fun zc123 => ?_) (fun zc123 => ?_)
        · skip
          refine z_iconst (v := nI 5) hx dX12_advances_130 (by decide) ?_
          refine z_puti hx dX12_advances_131 pX12_95 rfl (Nat.le_of_ble_eq_true rfl) ?_
          exact z_vret hx hF dX12_advances_134 rfl rfl (by obtain ⟨e1, e2, e3⟩ := zAV_d h2; rw [e1, e2, e3]; unfold zNv; rw [hee]; first | (rw [if_pos (by omega)]; rfl) | (rw [if_neg (by omega)]; rfl) | exact zzz_open)
        · skip
          refine z_iconst (v := nI 2) hx dX12_advances_126 (by decide) ?_
          refine z_goto (tgt := 131) hx dX12_advances_127 (by decide) ?_
          refine z_puti hx dX12_advances_131 pX12_95 rfl (Nat.le_of_ble_eq_true rfl) ?_
          exact z_vret hx hF dX12_advances_134 rfl rfl (by obtain ⟨e1, e2, e3⟩ := zAV_d h2; rw [e1, e2, e3]; unfold zNv; rw [hee]; first | (rw [if_pos (by omega)]; rfl) | (rw [if_neg (by omega)]; rfl) | exact zzz_open)
  refine z_aload_n hx dX12_advances_0 rfl ?_
  refine z_aload_n hx dX12_advances_1 rfl ?_
  refine z_get hx dX12_advances_2 fX12_83 rfl rfl ?_
  refine z_puti hx dX12_advances_5 pX12_86 rfl (Nat.le_of_ble_eq_true rfl) ?_
  refine z_heap (show _ = hMt r ls sz (fk) (fp) (ca) (ca) (ct) (cv) (L) (dr) tr y a from rfl) ?_
  refine z_aload_n hx dX12_advances_8 rfl ?_
  refine z_aload_n hx dX12_advances_9 rfl ?_
  refine z_get hx dX12_advances_10 fX12_83 rfl rfl ?_
  refine z_callivF hx (qX12_byteAt r ls sz fk fp ca ca ct cv L dr tr y a hsz hls ca (by omega)) dX12_advances_13 sX12_89 rfl rfl rfl rfl (Nat.le_of_ble_eq_true rfl) rfl (Nat.le_of_ble_eq_true rfl) (by decide) ?_
  refine z_top (b := nI (ls ca)) (if_pos h1) ?_
  refine z_istore_n hx dX12_advances_16 (Nat.le_of_ble_eq_true rfl) rfl ?_
  refine z_aload_n hx dX12_advances_17 rfl ?_
  refine z_iload_n hx dX12_advances_18 rfl ?_
  refine z_puti hx dX12_advances_19 pX12_92 rfl (Nat.le_of_ble_eq_true rfl) ?_
  refine z_heap (show _ = hMt r ls sz (fk) (fp) (ca) (ca) (ct) (nI (ls ca)) (L) (dr) tr y a from rfl) ?_
  refine z_iload_n hx dX12_advances_22 rfl ?_
  refine z_bipush (v := nI 48) hx dX12_advances_23 (by decide) ?_
  refine z_bipush (v := nI 57) hx dX12_advances_25 (by decide) ?_
  refine z_callisP hx [] (qX12_inN _ _ _ (by decide)) dX12_advances_27 sX12_53 rfl rfl rfl (by decide) (by decide) rfl (Nat.le_of_ble_eq_true rfl) (by decide) ?_
  first | refine z_if_eqB (tgt := 135) hx dX12_advances_30 (by decide) (fun zc30 => ?_) (fun zc30 => ?_) | refine z_if_eqN (tgt := 135) hx dX12_advances_30 (by decide) (by omega) (fun zc30 => ?_) (fun zc30 => ?_) | refine z_if_eq (tgt := 135) hx dX12_advances_30 (by decide) (fun zc30 => ?_) (fun zc30 => ?_)
  · skip
    exact absurd ⟨ls ca, h2.2.1, h2.2.2, rfl⟩ zc30
  · skip
    refine z_aload_n hx dX12_advances_33 rfl ?_
    refine z_iconst (v := nI 0) hx dX12_advances_34 (by decide) ?_
    refine z_puti hx dX12_advances_35 pX12_92 rfl (Nat.le_of_ble_eq_true rfl) ?_
    exact z_heap (show _ = hMt r ls sz (fk) (fp) (ca) (ca) (ct) (nI (zVd ls ca (ca - ca))) (L) (dr) tr y a by rw [Nat.sub_self]; rfl) (loop38 _ ca rfl (by omega) (by omega) rfl)

theorem qX12_advances (r : zMR) (ls : Nat → Nat) (sz fk : Nat) (fp : Int32) (ca cs ct : Nat) (cv : Int32) (L : zL) (dr tr : Nat → Nat) (y : zMY) (a : zMA) (hsz : sz ≤ 100) (hls : ∀ j, ls j ≤ 255) (hca : ca ≤ sz) : zMv mX12_advances 1 [.ref 0] (hMt r ls sz (fk) (fp) (ca) (cs) (ct) (cv) (L) (dr) tr y a) (fun u => u = hMt r ls sz (fk) (fp) (zAd ls sz ca) (ca) (zTok ls sz ca) (zVI ls sz ca) (L) (dr) tr y a) := by
  by_cases h1 : ca < sz
  · by_cases h2 : zDg ls sz ca
    · exact qX12_adv_d r ls sz fk fp ca cs ct cv L dr tr y a hsz hls hca h2
    · exact qX12_adv_o r ls sz fk fp ca cs ct cv L dr tr y a hsz hls hca h1 h2
  · exact qX12_adv_e r ls sz fk fp ca cs ct cv L dr tr y a hsz hls hca h1
