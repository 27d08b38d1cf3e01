/-! a tape read: the place, and the fault's kind (0: none) -/
abbrev zDg (ls : Nat → Nat) (sz p : Nat) : Prop := p < sz ∧ 48 ≤ ls p ∧ ls p ≤ 57
def zEn (ls : Nat → Nat) (sz : Nat) : Nat → Nat → Nat
  | 0, p => p
  | k + 1, p => if zDg ls sz p then zEn ls sz k (p + 1) else p
/-- the end of the figures from p on -/
def zEd (ls : Nat → Nat) (sz p : Nat) : Nat := zEn ls sz (sz - p) p
theorem zEd_t {ls : Nat → Nat} {sz p : Nat} (h : zDg ls sz p) : zEd ls sz p = zEd ls sz (p + 1) := by
  unfold zEd
  rw [show sz - p = (sz - (p + 1)) + 1 by have := h.1; omega, zEn, if_pos h]
theorem zEd_f {ls : Nat → Nat} {sz p : Nat} (h : ¬ zDg ls sz p) : zEd ls sz p = p := by
  unfold zEd
  cases sz - p with
  | zero => rfl
  | succ k => rw [zEn, if_neg h]
theorem zEn_le (ls : Nat → Nat) (sz : Nat) : ∀ k p, p ≤ zEn ls sz k p ∧ zEn ls sz k p ≤ p + k
  | 0, p => ⟨Nat.le_refl _, Nat.le_refl _⟩
  | k + 1, p => by
    rw [zEn]
    split
    · have := zEn_le ls sz k (p + 1); omega
    · omega
theorem zEd_le (ls : Nat → Nat) (sz p : Nat) : p ≤ zEd ls sz p ∧ (p ≤ sz → zEd ls sz p ≤ sz) := by
  have := zEn_le ls sz (sz - p) p
  unfold zEd
  omega
/-- the number of n figures from p on, of which two count -/
def zVd (ls : Nat → Nat) (p n : Nat) : Nat := if n = 0 then 0 else if n = 1 then ls p - 48 else 10 * (ls p - 48) + (ls (p + 1) - 48)
abbrev zSt : Type := Nat × Nat
def zSgn (ls : Nat → Nat) (sz s : Nat) (st : zSt) : zSt := if st.2 = 0 then (if st.1 < sz ∧ ls st.1 = s then (st.1 + 1, 0) else (st.1, 1)) else st
def zNv (ls : Nat → Nat) (sz p : Nat) : Nat := zVd ls p (zEd ls sz p - p)
def zFgs (ls : Nat → Nat) (sz lo hi : Nat) (st : zSt) : zSt := if st.2 = 0 then (if 1 ≤ zEd ls sz st.1 - st.1 ∧ zEd ls sz st.1 - st.1 ≤ 2 then (if lo ≤ zNv ls sz st.1 ∧ zNv ls sz st.1 ≤ hi then (zEd ls sz st.1, 0) else (st.1, 2)) else (st.1, 1)) else st
def zFgv (ls : Nat → Nat) (sz lo hi : Nat) (st : zSt) : Nat := if (zFgs ls sz lo hi st).2 = 0 then zNv ls sz st.1 else 0
theorem zSgn_f {ls : Nat → Nat} {sz s : Nat} {st : zSt} (h : ¬ st.2 = 0) : zSgn ls sz s st = st := if_neg h
theorem zFgs_f {ls : Nat → Nat} {sz lo hi : Nat} {st : zSt} (h : ¬ st.2 = 0) : zFgs ls sz lo hi st = st := if_neg h
theorem zSgn_t {ls : Nat → Nat} {sz s p : Nat} (h : p < sz ∧ ls p = s) : zSgn ls sz s (p, 0) = (p + 1, 0) := by unfold zSgn; rw [if_pos rfl, if_pos h]
theorem zSgn_n {ls : Nat → Nat} {sz s p : Nat} (h : ¬ (p < sz ∧ ls p = s)) : zSgn ls sz s (p, 0) = (p, 1) := by unfold zSgn; rw [if_pos rfl, if_neg h]
theorem zFgs_t {ls : Nat → Nat} {sz lo hi p : Nat} (h1 : 1 ≤ zEd ls sz p - p ∧ zEd ls sz p - p ≤ 2) (h2 : lo ≤ zNv ls sz p ∧ zNv ls sz p ≤ hi) : zFgs ls sz lo hi (p, 0) = (zEd ls sz p, 0) := by unfold zFgs; rw [if_pos rfl, if_pos h1, if_pos h2]
theorem zFgs_2 {ls : Nat → Nat} {sz lo hi p : Nat} (h1 : 1 ≤ zEd ls sz p - p ∧ zEd ls sz p - p ≤ 2) (h2 : ¬ (lo ≤ zNv ls sz p ∧ zNv ls sz p ≤ hi)) : zFgs ls sz lo hi (p, 0) = (p, 2) := by unfold zFgs; rw [if_pos rfl, if_pos h1, if_neg h2]
theorem zFgs_1 {ls : Nat → Nat} {sz lo hi p : Nat} (h1 : ¬ (1 ≤ zEd ls sz p - p ∧ zEd ls sz p - p ≤ 2)) : zFgs ls sz lo hi (p, 0) = (p, 1) := by unfold zFgs; rw [if_pos rfl, if_neg h1]
theorem zst_0 {st : zSt} (h : st.2 = 0) : st = (st.1, 0) := Prod.ext rfl h
theorem zst_ok {st : zSt} (h : st.2 = 0) : ∃ p, st = (p, 0) := ⟨st.1, zst_0 h⟩
theorem zSgn_le {ls : Nat → Nat} {sz s : Nat} {st : zSt} (h : st.1 ≤ sz) : (zSgn ls sz s st).1 ≤ sz ∧ ((zSgn ls sz s st).2 ≤ 3 ∨ (zSgn ls sz s st).2 = st.2) := by
  unfold zSgn
  split
  · split
    · exact ⟨by show st.1 + 1 ≤ sz; omega, Or.inl (by show 0 ≤ 3; decide)⟩
    · exact ⟨h, Or.inl (by show 1 ≤ 3; decide)⟩
  · exact ⟨h, Or.inr rfl⟩
theorem zFgs_le {ls : Nat → Nat} {sz lo hi : Nat} {st : zSt} (h : st.1 ≤ sz) : (zFgs ls sz lo hi st).1 ≤ sz ∧ ((zFgs ls sz lo hi st).2 ≤ 3 ∨ (zFgs ls sz lo hi st).2 = st.2) := by
  have := zEd_le ls sz st.1
  unfold zFgs
  split
  · split
    · split
      · exact ⟨this.2 h, Or.inl (by show 0 ≤ 3; decide)⟩
      · exact ⟨h, Or.inl (by show 2 ≤ 3; decide)⟩
    · exact ⟨h, Or.inl (by show 1 ≤ 3; decide)⟩
  · exact ⟨h, Or.inr rfl⟩
theorem zFgv_ok {ls : Nat → Nat} {sz lo hi p : Nat} (h : (zFgs ls sz lo hi (p, 0)).2 = 0) : lo ≤ zFgv ls sz lo hi (p, 0) ∧ zFgv ls sz lo hi (p, 0) ≤ hi := by
  unfold zFgv
  rw [if_pos h]
  by_cases h1 : 1 ≤ zEd ls sz p - p ∧ zEd ls sz p - p ≤ 2
  · by_cases h2 : lo ≤ zNv ls sz p ∧ zNv ls sz p ≤ hi
    · exact h2
    · rw [zFgs_2 h1 h2] at h; exact absurd h (show ¬ (2 : Nat) = 0 by decide)
  · rw [zFgs_1 h1] at h; exact absurd h (show ¬ (1 : Nat) = 0 by decide)
theorem zFgv_0 {ls : Nat → Nat} {sz lo hi : Nat} {st : zSt} (h : ¬ (zFgs ls sz lo hi st).2 = 0) : zFgv ls sz lo hi st = 0 := if_neg h
theorem zFgv_t {ls : Nat → Nat} {sz lo hi p : Nat} (h : (zFgs ls sz lo hi (p, 0)).2 = 0) : zFgv ls sz lo hi (p, 0) = zNv ls sz p := if_pos h
/-- the law of a line -/
def zL1 (ls : Nat → Nat) (sz : Nat) : zSt := zSgn ls sz 116 (0, 0)
def zL2 (ls : Nat → Nat) (sz : Nat) : zSt := zFgs ls sz 2 8 (zL1 ls sz)
def zL3 (ls : Nat → Nat) (sz : Nat) : zSt := zSgn ls sz 44 (zL2 ls sz)
def zL4 (ls : Nat → Nat) (sz : Nat) : zSt := zFgs ls sz 0 40 (zL3 ls sz)
def zL5 (ls : Nat → Nat) (sz : Nat) : zSt := zSgn ls sz 59 (zL4 ls sz)
def zLS (ls : Nat → Nat) (sz : Nat) : Nat := zFgv ls sz 2 8 (zL1 ls sz)
def zLB (ls : Nat → Nat) (sz : Nat) : Nat := zFgv ls sz 0 40 (zL3 ls sz)
/-- a person -/
def zP1 (ls : Nat → Nat) (sz S : Nat) (st : zSt) : zSt := zFgs ls sz 0 (S - 1) st
def zP2 (ls : Nat → Nat) (sz S : Nat) (st : zSt) : zSt := zSgn ls sz 44 (zP1 ls sz S st)
def zP3 (ls : Nat → Nat) (sz S : Nat) (st : zSt) : zSt := zFgs ls sz 0 20 (zP2 ls sz S st)
def zP4 (ls : Nat → Nat) (sz S : Nat) (st : zSt) : zSt := zSgn ls sz 44 (zP3 ls sz S st)
def zP5 (ls : Nat → Nat) (sz S : Nat) (st : zSt) : zSt := zFgs ls sz 0 (S - 1) (zP4 ls sz S st)
def zP6 (ls : Nat → Nat) (sz S : Nat) (st : zSt) : zSt := zSgn ls sz 59 (zP5 ls sz S st)
def zAdd (L : zL) (k a f w : Nat) : zL := ((lS L, lB L, lP L + 1, lM L), zup (lK L) (lP L) k, zup (lA L) (lP L) a, zup (lF L) (lP L) f, zup (lW L) (lP L) w, zup (lT L) (lP L) 0)
def zPA (ls : Nat → Nat) (sz : Nat) (L : zL) (k : Nat) (st : zSt) : zL := zAdd L k (zFgv ls sz 0 (lS L - 1) st) (zFgv ls sz 0 20 (zP2 ls sz (lS L) st)) (zFgv ls sz 0 (lS L - 1) (zP4 ls sz (lS L) st))
/-- one of the people, his kind's letter ahead -/
def zPp (ls : Nat → Nat) (sz : Nat) (L : zL) (st : zSt) : zL × zSt := if lP L < 6 then (if (zP6 ls sz (lS L) (st.1 + 1, 0)).2 = 0 then (zPA ls sz L (zKd (ls st.1)) (st.1 + 1, 0), zP6 ls sz (lS L) (st.1 + 1, 0)) else (L, zP6 ls sz (lS L) (st.1 + 1, 0))) else (L, (st.1, 3))
abbrev zMor (ls : Nat → Nat) (sz : Nat) (st : zSt) : Prop := st.2 = 0 ∧ st.1 < sz ∧ 0 < zKd (ls st.1)
def zPpl (ls : Nat → Nat) (sz : Nat) : Nat → zL × zSt → zL × zSt
  | 0, q => q
  | n + 1, q => if zMor ls sz q.2 then zPpl ls sz n (zPp ls sz q.1 q.2) else q
theorem zPpl_f {ls : Nat → Nat} {sz : Nat} {L : zL} {st : zSt} (h : ¬ zMor ls sz st) : ∀ n, zPpl ls sz n (L, st) = (L, st)
  | 0 => rfl
  | n + 1 => by rw [zPpl]; exact if_neg h
theorem zPpl_t {ls : Nat → Nat} {sz : Nat} {L : zL} {st : zSt} (h : zMor ls sz st) (n : Nat) : zPpl ls sz (n + 1) (L, st) = zPpl ls sz n (zPp ls sz L st) := by rw [zPpl]; exact if_pos h
/-- the end: nothing may be left -/
def zEnd (sz : Nat) (st : zSt) : zSt := if st.2 = 0 ∧ st.1 < sz then (st.1, 1) else st
def zPe (ls : Nat → Nat) (sz n : Nat) (L : zL) (st : zSt) : zL × zSt := ((zPpl ls sz n (L, st)).1, zEnd sz (zPpl ls sz n (L, st)).2)
def hTp (sz fa fp : Nat) (ls : Nat → Nat) (p nm : Nat) : List zE := [zO 9 [.int (nI sz), .int (nI fa), .int (nI fp), .ref 1, .int (nI p), .int (nI nm)], zN 100 ls]
def hTL (sz fa fp : Nat) (ls : Nat → Nat) (p nm : Nat) (L : zL) (cr ho : Nat → Nat) : List zE := [zO 9 [.int (nI sz), .int (nI fa), .int (nI fp), .ref 1, .int (nI p), .int (nI nm)], zN 100 ls, zO 4 [.int (nI (lS L)), .int (nI (lB L)), .int (nI (lP L)), .int (nI (lM L)), .ref 3, .ref 4, .ref 5, .ref 6, .ref 7, .ref 10, .ref 8, .ref 9], zN 6 (lK L), zN 6 (lA L), zN 6 (lF L), zN 6 (lW L), zN 6 (lT L), zN 8 cr, zN 8 ho, zR 3 [.ref 11, .ref 12, .ref 13, .ref 14, .ref 15], zO 6 [], zO 2 [], zO 3 [], zO 1 [], zO 7 []]
abbrev gTd : List Nat := [2, 3, 4, 5, 6, 7, 8, 9, 10, 11, 12, 13, 14, 15]
theorem sub_Td {sz fa fp p nm : Nat} {ls : Nat → Nat} {L : zL} {cr ho : Nat → Nat} : zsub (hTL sz fa fp ls p nm L cr ho) gTd (hLc L cr ho) := rfl
theorem pt_Td {sz fa fp p nm : Nat} {ls : Nat → Nat} {L L' : zL} {cr ho : Nat → Nat} : zpt (hTL sz fa fp ls p nm L cr ho) gTd (hLc L' cr ho) = hTL sz fa fp ls p nm L' cr ho := rfl
theorem sub_Tt {sz fa fp p nm : Nat} {ls : Nat → Nat} {L : zL} {cr ho : Nat → Nat} : zsub (hTL sz fa fp ls p nm L cr ho) [0, 1] (hTp sz fa fp ls p nm) := rfl
theorem pt_Tt {sz fa fp p nm sz' fa' fp' p' nm' : Nat} {ls ls' : Nat → Nat} {L : zL} {cr ho : Nat → Nat} : zpt (hTL sz fa fp ls p nm L cr ho) [0, 1] (hTp sz' fa' fp' ls' p' nm') = hTL sz' fa' fp' ls' p' nm' L cr ho := rfl
abbrev gTL : List Nat := [13, 14, 23, 24, 25, 26, 27, 28, 29, 30, 52, 53, 54, 55, 56, 57]
theorem sub_TL {r : zRw} {sz fa fp p nm : Nat} {ls : Nat → Nat} {l : zLk} {P : zL} {pr po : Nat → Nat} {i : zLk × zLk} {y : zPy} {a : zAs} {f : Nat × Nat} : zsub (hC (r, (sz, fa, fp, ls, p, nm), l, (P, pr, po), i, y, a, f)) gTL (hTL sz fa fp ls p nm P pr po) := rfl
theorem pt_TL {r : zRw} {sz fa fp p nm sz' fa' fp' p' nm' : Nat} {ls : Nat → Nat} {l : zLk} {P L : zL} {pr po : Nat → Nat} {i : zLk × zLk} {y : zPy} {a : zAs} {f : Nat × Nat} : zpt (hC (r, (sz, fa, fp, ls, p, nm), l, (P, pr, po), i, y, a, f)) gTL (hTL sz' fa' fp' ls p' nm' L pr po) = hC (r, (sz', fa', fp', ls, p', nm'), l, (L, pr, po), i, y, a, f) := by
  have e : hTL sz' fa' fp' ls p' nm' L pr po = (((((((hTL sz fa fp ls p nm P pr po).set 0 (zO 9 [.int (nI sz'), .int (nI fa'), .int (nI fp'), .ref 1, .int (nI p'), .int (nI nm')])).set 2 (zO 4 [.int (nI (lS L)), .int (nI (lB L)), .int (nI (lP L)), .int (nI (lM L)), .ref 3, .ref 4, .ref 5, .ref 6, .ref 7, .ref 10, .ref 8, .ref 9])).set 3 (zN 6 (lK L))).set 4 (zN 6 (lA L))).set 5 (zN 6 (lF L))).set 6 (zN 6 (lW L))).set 7 (zN 6 (lT L)) := rfl
  rw [e, zpt_upd (by decide) rfl 7 28 rfl, zpt_upd (by decide) rfl 6 27 rfl, zpt_upd (by decide) rfl 5 26 rfl, zpt_upd (by decide) rfl 4 25 rfl, zpt_upd (by decide) rfl 3 24 rfl, zpt_upd (by decide) rfl 2 23 rfl, zpt_upd (by decide) rfl 0 13 rfl, zpt_same sub_TL]
  rfl
/-- the tape behind a step -/
def hTz (sz fa fp : Nat) (ls : Nat → Nat) (nm : Nat) (st : zSt) : List zE := hTp sz (if st.2 = 0 then fa else st.2) (if st.2 = 0 then fp else st.1) ls st.1 nm
def hTy (sz fa fp : Nat) (ls : Nat → Nat) (nm : Nat) (st : zSt) (L : zL) (cr ho : Nat → Nat) : List zE := hTL sz (if st.2 = 0 then fa else st.2) (if st.2 = 0 then fp else st.1) ls st.1 nm L cr ho
theorem pt_Tz {sz fa fp p nm nm' : Nat} {ls : Nat → Nat} {st : zSt} {L : zL} {cr ho : Nat → Nat} : zpt (hTL sz fa fp ls p nm L cr ho) [0, 1] (hTz sz fa fp ls nm' st) = hTy sz fa fp ls nm' st L cr ho := rfl
theorem hTy_f {sz fa fp nm : Nat} {ls : Nat → Nat} {st : zSt} {L : zL} {cr ho : Nat → Nat} (h : ¬ st.2 = 0) : hTy sz fa fp ls nm st L cr ho = hTL sz st.2 st.1 ls st.1 nm L cr ho := by unfold hTy; rw [if_neg h, if_neg h]
theorem hTy_t {sz fa fp nm p : Nat} {ls : Nat → Nat} {L : zL} {cr ho : Nat → Nat} : hTy sz fa fp ls nm (p, 0) L cr ho = hTL sz fa fp ls p nm L cr ho := rfl
set_option maxHeartbeats 4000000 in
set_option maxRecDepth 100000 in
theorem qX9_fails (sz fa fp : Nat) (ls : Nat → Nat) (p nm : Nat) (k : Nat) : zMi mX9_fails 0 ([.ref 0, .int (nI k)]) (hTp sz fa fp ls p nm) (fun z u => z = nI 0 ∧ u = hTp sz k p ls p nm) := by
  refine zMi.of (by decide) (Nat.le_of_ble_eq_true rfl) (fun x hx hF => ?_)
  refine z_aload_n hx dX9_fails_0 rfl ?_
  refine z_iload_n hx dX9_fails_1 rfl ?_
  refine z_puti hx dX9_fails_2 pX9_73 rfl (Nat.le_of_ble_eq_true rfl) ?_
  refine z_aload_n hx dX9_fails_5 rfl ?_
  refine z_aload_n hx dX9_fails_6 rfl ?_
  refine z_get hx dX9_fails_7 fX9_19 rfl rfl ?_
  refine z_puti hx dX9_fails_10 pX9_76 rfl (Nat.le_of_ble_eq_true rfl) ?_
  refine z_iconst (v := nI 0) hx dX9_fails_13 (by decide) ?_
  exact z_zret hx hF dX9_fails_14 rfl (by first | exact bP_nar _ | rfl) rfl ⟨rfl, rfl⟩

set_option maxHeartbeats 4000000 in
set_option maxRecDepth 100000 in
theorem qX9_put (sz fa fp : Nat) (ls : Nat → Nat) (p nm : Nat) (hsz : sz < 100) (c : Nat) : zMv mX9_put 0 ([.ref 0, .int (nI c)]) (hTp sz fa fp ls p nm) (fun u => u = hTp (sz + 1) fa fp (zup ls sz c) p nm) := by
  refine zMv.of (by decide) (Nat.le_of_ble_eq_true rfl) (fun x hx hF => ?_)
  refine z_aload_n hx dX9_put_0 rfl ?_
  refine z_get hx dX9_put_1 fX9_15 rfl rfl ?_
  refine z_bipush (v := nI 100) hx dX9_put_4 (by decide) ?_
  first | refine z_icmp_geN (tgt := 29) hx dX9_put_6 (by decide) (by omega) (by omega) (fun zc6 => ?_) (fun zc6 => ?_) | refine z_icmp_ge (tgt := 29) hx dX9_put_6 (by decide) (fun zc6 => ?_) (fun zc6 => ?_)
  · skip
    exfalso; omega
  · skip
    refine z_aload_n hx dX9_put_9 rfl ?_
    refine z_get hx dX9_put_10 fX9_9 rfl rfl ?_
    refine z_aload_n hx dX9_put_13 rfl ?_
    refine z_get hx dX9_put_14 fX9_15 rfl rfl ?_
    refine z_iload_n hx dX9_put_17 rfl ?_
    first | refine z_iastN hx dX9_put_18 rfl (by decide) (by omega) ?_ | refine z_iastJ hx dX9_put_18 rfl (by decide) (by omega) ?_
    refine z_aload_n hx dX9_put_19 rfl ?_
    refine z_dup hx dX9_put_20 rfl ?_
    refine z_get hx dX9_put_21 fX9_15 rfl rfl ?_
    refine z_iconst (v := nI 1) hx dX9_put_24 (by decide) ?_
    first | refine z_iaddN hx dX9_put_25 ?_ | refine z_iadd hx dX9_put_25 ?_
    refine z_puti hx dX9_put_26 pX9_15 rfl (Nat.le_of_ble_eq_true rfl) ?_
    exact z_vret hx hF dX9_put_29 rfl rfl rfl

set_option maxHeartbeats 4000000 in
set_option maxRecDepth 100000 in
theorem qX9_takeSign (sz fa fp : Nat) (ls : Nat → Nat) (p nm : Nat) (hsz : sz ≤ 100) (hls : ∀ j, ls j ≤ 255) (hp : p ≤ sz) (s : Nat) (hs : s < 1000) : zMi mX9_takeSign 1 ([.ref 0, .int (nI s)]) (hTp sz fa fp ls p nm) (fun z u => z = bP ((zSgn ls sz s (p, 0)).2 = 0) ∧ u = (hTz sz fa fp ls nm (zSgn ls sz s (p, 0)))) := by
  refine zMi.of (by decide) (Nat.le_of_ble_eq_true rfl) (fun x hx hF => ?_)
  refine z_aload_n hx dX9_takeSign_0 rfl ?_
  refine z_get hx dX9_takeSign_1 fX9_19 rfl rfl ?_
  refine z_aload_n hx dX9_takeSign_4 rfl ?_
  refine z_get hx dX9_takeSign_5 fX9_15 rfl rfl ?_
  first | refine z_icmp_geN (tgt := 24) hx dX9_takeSign_8 (by decide) (by omega) (by omega) (fun zc8 => ?_) (fun zc8 => ?_) | refine z_icmp_ge (tgt := 24) hx dX9_takeSign_8 (by decide) (fun zc8 => ?_) (fun zc8 => ?_)
  · skip
    refine z_aload_n hx dX9_takeSign_24 rfl ?_
    refine z_iconst (v := nI 1) hx dX9_takeSign_25 (by decide) ?_
    refine z_callivF hx (qX9_fails sz fa fp ls p nm 1) dX9_takeSign_26 sX9_54 rfl rfl rfl rfl (Nat.le_of_ble_eq_true rfl) rfl (Nat.le_of_ble_eq_true rfl) (by decide) ?_
    exact z_zret hx hF dX9_takeSign_29 rfl (by first | exact bP_nar _ | rfl) rfl (by first | (rw [zSgn_t ⟨by omega, zc21⟩]; exact ⟨(bP_t rfl).symm, rfl⟩) | (rw [zSgn_n (fun h => absurd h.1 (by omega))]; exact ⟨(bP_f (show ¬ (1 : Nat) = 0 by decide)).symm, rfl⟩) | (rw [zSgn_n (fun h => zc21 h.2)]; exact ⟨(bP_f (show ¬ (1 : Nat) = 0 by decide)).symm, rfl⟩) | exact zzz_open)
  · skip
    have hl9 := hls p
    refine z_aload_n hx dX9_takeSign_11 rfl ?_
    refine z_get hx dX9_takeSign_12 fX9_9 rfl rfl ?_
    refine z_aload_n hx dX9_takeSign_15 rfl ?_
    refine z_get hx dX9_takeSign_16 fX9_19 rfl rfl ?_
    refine z_ialdJ hx dX9_takeSign_19 rfl (by decide) (by omega) ?_
    refine z_iload_n hx dX9_takeSign_20 rfl ?_
    first | refine z_icmp_eqN (tgt := 30) hx dX9_takeSign_21 (by decide) (by omega) (by omega) (fun zc21 => ?_) (fun zc21 => ?_) | refine z_icmp_eq (tgt := 30) hx dX9_takeSign_21 (by decide) (fun zc21 => ?_) (fun zc21 => ?_)
    · skip
      refine z_aload_n hx dX9_takeSign_30 rfl ?_
      refine z_dup hx dX9_takeSign_31 rfl ?_
      refine z_get hx dX9_takeSign_32 fX9_19 rfl rfl ?_
      refine z_iconst (v := nI 1) hx dX9_takeSign_35 (by decide) ?_
      first | refine z_iaddN hx dX9_takeSign_36 ?_ | refine z_iadd hx dX9_takeSign_36 ?_
      refine z_puti hx dX9_takeSign_37 pX9_19 rfl (Nat.le_of_ble_eq_true rfl) ?_
      refine z_iconst (v := nI 1) hx dX9_takeSign_40 (by decide) ?_
      exact z_zret hx hF dX9_takeSign_41 rfl (by first | exact bP_nar _ | rfl) rfl (by first | (rw [zSgn_t ⟨by omega, zc21⟩]; exact ⟨(bP_t rfl).symm, rfl⟩) | (rw [zSgn_n (fun h => absurd h.1 (by omega))]; exact ⟨(bP_f (show ¬ (1 : Nat) = 0 by decide)).symm, rfl⟩) | (rw [zSgn_n (fun h => zc21 h.2)]; exact ⟨(bP_f (show ¬ (1 : Nat) = 0 by decide)).symm, rfl⟩) | exact zzz_open)
    · skip
      refine z_aload_n hx dX9_takeSign_24 rfl ?_
      refine z_iconst (v := nI 1) hx dX9_takeSign_25 (by decide) ?_
      refine z_callivF hx (qX9_fails sz fa fp ls p nm 1) dX9_takeSign_26 sX9_54 rfl rfl rfl rfl (Nat.le_of_ble_eq_true rfl) rfl (Nat.le_of_ble_eq_true rfl) (by decide) ?_
      exact z_zret hx hF dX9_takeSign_29 rfl (by first | exact bP_nar _ | rfl) rfl (by first | (rw [zSgn_t ⟨by omega, zc21⟩]; exact ⟨(bP_t rfl).symm, rfl⟩) | (rw [zSgn_n (fun h => absurd h.1 (by omega))]; exact ⟨(bP_f (show ¬ (1 : Nat) = 0 by decide)).symm, rfl⟩) | (rw [zSgn_n (fun h => zc21 h.2)]; exact ⟨(bP_f (show ¬ (1 : Nat) = 0 by decide)).symm, rfl⟩) | exact zzz_open)

theorem zVd_s {ls : Nat → Nat} {p e : Nat} (h : e - p < 2) (hp : p ≤ e) : zVd ls p (e - p) * 10 + ls e - 48 = zVd ls p (e + 1 - p) ∨ ls e < 48 := by
  by_cases h4 : ls e < 48
  · exact Or.inr h4
  · refine Or.inl ?_
    rcases (show e = p ∨ e = p + 1 by omega) with rfl | rfl
    · rw [show e - e = 0 by omega, show e + 1 - e = 1 by omega]
      unfold zVd
      rw [if_pos rfl, if_neg (by decide), if_pos rfl]
      omega
    · rw [show p + 1 - p = 1 by omega, show p + 1 + 1 - p = 2 by omega]
      unfold zVd
      rw [if_neg (by decide), if_pos rfl, if_neg (by decide), if_neg (by decide)]
      omega
theorem zVd_k {ls : Nat → Nat} {p e : Nat} (h : 2 ≤ e - p) : zVd ls p (e - p) = zVd ls p (e + 1 - p) := by
  unfold zVd
  rw [if_neg (by omega), if_neg (by omega), if_neg (by omega), if_neg (by omega)]
theorem zVd_le {ls : Nat → Nat} (h : ∀ j, ls j ≤ 255) (p n : Nat) : zVd ls p n ≤ 10000 := by
  have h1 := h p
  have h2 := h (p + 1)
  unfold zVd
  split
  · omega
  · split <;> omega
set_option maxHeartbeats 4000000 in
set_option maxRecDepth 100000 in
theorem qX9_takeNumber (sz fa fp : Nat) (ls : Nat → Nat) (p nm : Nat) (hsz : sz ≤ 100) (hls : ∀ j, ls j ≤ 255) (hp : p ≤ sz) (lo hi : Nat) (hlo : lo ≤ hi) (hhi : hi < 100) : zMi mX9_takeNumber 1 ([.ref 0, .int (nI lo), .int (nI hi)]) (hTp sz fa fp ls p nm) (fun z u => z = bP ((zFgs ls sz lo hi (p, 0)).2 = 0) ∧ ∃ nm9, ((zFgs ls sz lo hi (p, 0)).2 = 0 → nm9 = zFgv ls sz lo hi (p, 0)) ∧ u = (hTz sz fa fp ls nm9 (zFgs ls sz lo hi (p, 0)))) := by
  refine zMi.of (by decide) (Nat.le_of_ble_eq_true rfl) (fun x hx hF => ?_)
  have loop8 : ∀ (n8 : Nat) (e : Nat), sz - e = n8 → p ≤ e → e ≤ sz → zEd ls sz p = zEd ls sz e → zV x 8 [some (.ref 0), some (.int (nI lo)), some (.int (nI hi)), some (.int (nI e)), some (.int (nI (zVd ls p (e - p))))] ([]) (hTp sz fa fp ls p nm) := by
    intro n8
    induction n8 using Nat.strongRecOn with
    | ind n8 ih =>
      intro e hn he1 he2 hen
      refine z_iload_n hx dX9_takeNumber_8 rfl ?_
      refine z_aload_n hx dX9_takeNumber_9 rfl ?_
      refine z_get hx dX9_takeNumber_10 fX9_15 rfl rfl ?_
      first | refine z_icmp_geN (tgt := 65) hx dX9_takeNumber_13 (by decide) (by omega) (by omega) (fun zc13 => ?_) (fun zc13 => ?_) | refine z_icmp_ge (tgt := 65) hx dX9_takeNumber_13 (by decide) (fun zc13 => ?_) (fun zc13 => ?_)
      · skip
        have hnd9 : ¬ zDg ls sz e := fun h => by first | (have := h.1; omega) | exact zc29 ⟨ls e, h.2.1, h.2.2, rfl⟩
        have hee : zEd ls sz p = e := by rw [hen, zEd_f hnd9]
        have hvv : zNv ls sz p = zVd ls p (e - p) := by unfold zNv; rw [hee]
        have hv9 := zVd_le hls p (e - p)
        refine z_iload_n hx dX9_takeNumber_65 rfl ?_
        refine z_aload_n hx dX9_takeNumber_66 rfl ?_
        refine z_get hx dX9_takeNumber_67 fX9_19 rfl rfl ?_
        first | refine z_isubN hx dX9_takeNumber_70 (by omega) ?_ | refine z_isub hx dX9_takeNumber_70 ?_
        refine z_iconst (v := nI 1) hx dX9_takeNumber_71 (by decide) ?_
        refine z_iconst (v := nI 2) hx dX9_takeNumber_72 (by decide) ?_
        refine z_callinP hx [] (qX11_isWithinN _ _ _ (by decide)) dX9_takeNumber_73 sX9_69 rfl rfl rfl (by decide) (by decide) rfl (Nat.le_of_ble_eq_true rfl) (by decide) ?_
        first | refine z_if_neB (tgt := 85) hx dX9_takeNumber_76 (by decide) (fun zc76 => ?_) (fun zc76 => ?_) | refine z_if_neN (tgt := 85) hx dX9_takeNumber_76 (by decide) (by omega) (fun zc76 => ?_) (fun zc76 => ?_) | refine z_if_ne (tgt := 85) hx dX9_takeNumber_76 (by decide) (fun zc76 => ?_) (fun zc76 => ?_)
        · skip
          refine z_iload hx dX9_takeNumber_85 rfl ?_
          refine z_iload_n hx dX9_takeNumber_87 rfl ?_
          refine z_iload_n hx dX9_takeNumber_88 rfl ?_
          refine z_callinP hx [] (qX11_isWithinN _ _ _ ⟨by omega, by omega⟩) dX9_takeNumber_89 sX9_69 rfl rfl rfl (by decide) (by decide) rfl (Nat.le_of_ble_eq_true rfl) (by decide) ?_
          first | refine z_if_neB (tgt := 101) hx dX9_takeNumber_92 (by decide) (fun zc92 => ?_) (fun zc92 => ?_) | refine z_if_neN (tgt := 101) hx dX9_takeNumber_92 (by decide) (by omega) (fun zc92 => ?_) (fun zc92 => ?_) | refine z_if_ne (tgt := 101) hx dX9_takeNumber_92 (by decide) (fun zc92 => ?_) (fun zc92 => ?_)
          · skip
            refine z_aload_n hx dX9_takeNumber_101 rfl ?_
            refine z_iload hx dX9_takeNumber_102 rfl ?_
            refine z_puti hx dX9_takeNumber_104 pX9_37 rfl (Nat.le_of_ble_eq_true rfl) ?_
            refine z_aload_n hx dX9_takeNumber_107 rfl ?_
            refine z_iload_n hx dX9_takeNumber_108 rfl ?_
            refine z_puti hx dX9_takeNumber_109 pX9_19 rfl (Nat.le_of_ble_eq_true rfl) ?_
            refine z_iconst (v := nI 1) hx dX9_takeNumber_112 (by decide) ?_
            exact z_zret hx hF dX9_takeNumber_113 rfl (by first | exact bP_nar _ | rfl) rfl (by first | (have h1 := zFgs_t (ls := ls) (sz := sz) (lo := lo) (hi := hi) (p := p) (by rw [hee]; obtain ⟨zk, zk1, zk2, zke⟩ := zc76; have := (nI_eq (by omega) (by omega)).mp zke; omega) (by rw [hvv]; obtain ⟨zk, zk1, zk2, zke⟩ := zc92; have := (nI_eq (by omega) (by omega)).mp zke; omega); have h2 : (zFgs ls sz lo hi (p, 0)).2 = 0 := (by rw [h1]); exact ⟨(bP_t h2).symm, zVd ls p (e - p), fun h => by rw [zFgv_t h, hvv], by rw [h1, hee]; rfl⟩) | (have h1 := zFgs_2 (ls := ls) (sz := sz) (lo := lo) (hi := hi) (p := p) (by rw [hee]; obtain ⟨zk, zk1, zk2, zke⟩ := zc76; have := (nI_eq (by omega) (by omega)).mp zke; omega) (by rw [hvv]; intro h; exact zc92 ⟨_, h.1, h.2, rfl⟩); rw [h1]; exact ⟨(bP_f (show ¬ (2 : Nat) = 0 by decide)).symm, nm, fun h => absurd h (show ¬ (2 : Nat) = 0 by decide), rfl⟩) | (have h1 := zFgs_1 (ls := ls) (sz := sz) (lo := lo) (hi := hi) (p := p) (by rw [hee]; intro h; exact zc76 ⟨_, h.1, h.2, rfl⟩); rw [h1]; exact ⟨(bP_f (show ¬ (1 : Nat) = 0 by decide)).symm, nm, fun h => absurd h (show ¬ (1 : Nat) = 0 by decide), rfl⟩) | exact zzz_open)
          · skip
            refine z_aload_n hx dX9_takeNumber_95 rfl ?_
            refine z_iconst (v := nI 2) hx dX9_takeNumber_96 (by decide) ?_
            refine z_callivF hx (qX9_fails sz fa fp ls p nm 2) dX9_takeNumber_97 sX9_54 rfl rfl rfl rfl (Nat.le_of_ble_eq_true rfl) rfl (Nat.le_of_ble_eq_true rfl) (by decide) ?_
            exact z_zret hx hF dX9_takeNumber_100 rfl (by first | exact bP_nar _ | rfl) rfl (by first | (have h1 := zFgs_t (ls := ls) (sz := sz) (lo := lo) (hi := hi) (p := p) (by rw [hee]; obtain ⟨zk, zk1, zk2, zke⟩ := zc76; have := (nI_eq (by omega) (by omega)).mp zke; omega) (by rw [hvv]; obtain ⟨zk, zk1, zk2, zke⟩ := zc92; have := (nI_eq (by omega) (by omega)).mp zke; omega); have h2 : (zFgs ls sz lo hi (p, 0)).2 = 0 := (by rw [h1]); exact ⟨(bP_t h2).symm, zVd ls p (e - p), fun h => by rw [zFgv_t h, hvv], by rw [h1, hee]; rfl⟩) | (have h1 := zFgs_2 (ls := ls) (sz := sz) (lo := lo) (hi := hi) (p := p) (by rw [hee]; obtain ⟨zk, zk1, zk2, zke⟩ := zc76; have := (nI_eq (by omega) (by omega)).mp zke; omega) (by rw [hvv]; intro h; exact zc92 ⟨_, h.1, h.2, rfl⟩); rw [h1]; exact ⟨(bP_f (show ¬ (2 : Nat) = 0 by decide)).symm, nm, fun h => absurd h (show ¬ (2 : Nat) = 0 by decide), rfl⟩) | (have h1 := zFgs_1 (ls := ls) (sz := sz) (lo := lo) (hi := hi) (p := p) (by rw [hee]; intro h; exact zc76 ⟨_, h.1, h.2, rfl⟩); rw [h1]; exact ⟨(bP_f (show ¬ (1 : Nat) = 0 by decide)).symm, nm, fun h => absurd h (show ¬ (1 : Nat) = 0 by decide), rfl⟩) | exact zzz_open)
        · skip
          refine z_aload_n hx dX9_takeNumber_79 rfl ?_
          refine z_iconst (v := nI 1) hx dX9_takeNumber_80 (by decide) ?_
          refine z_callivF hx (qX9_fails sz fa fp ls p nm 1) dX9_takeNumber_81 sX9_54 rfl rfl rfl rfl (Nat.le_of_ble_eq_true rfl) rfl (Nat.le_of_ble_eq_true rfl) (by decide) ?_
          exact z_zret hx hF dX9_takeNumber_84 rfl (by first | exact bP_nar _ | rfl) rfl (by first | (have h1 := zFgs_t (ls := ls) (sz := sz) (lo := lo) (hi := hi) (p := p) (by rw [hee]; obtain ⟨zk, zk1, zk2, zke⟩ := zc76; have := (nI_eq (by omega) (by omega)).mp zke; omega) (by rw [hvv]; obtain ⟨zk, zk1, zk2, zke⟩ := zc92; have := (nI_eq (by omega) (by omega)).mp zke; omega); have h2 : (zFgs ls sz lo hi (p, 0)).2 = 0 := (by rw [h1]); exact ⟨(bP_t h2).symm, zVd ls p (e - p), fun h => by rw [zFgv_t h, hvv], by rw [h1, hee]; rfl⟩) | (have h1 := zFgs_2 (ls := ls) (sz := sz) (lo := lo) (hi := hi) (p := p) (by rw [hee]; obtain ⟨zk, zk1, zk2, zke⟩ := zc76; have := (nI_eq (by omega) (by omega)).mp zke; omega) (by rw [hvv]; intro h; exact zc92 ⟨_, h.1, h.2, rfl⟩); rw [h1]; exact ⟨(bP_f (show ¬ (2 : Nat) = 0 by decide)).symm, nm, fun h => absurd h (show ¬ (2 : Nat) = 0 by decide), rfl⟩) | (have h1 := zFgs_1 (ls := ls) (sz := sz) (lo := lo) (hi := hi) (p := p) (by rw [hee]; intro h; exact zc76 ⟨_, h.1, h.2, rfl⟩); rw [h1]; exact ⟨(bP_f (show ¬ (1 : Nat) = 0 by decide)).symm, nm, fun h => absurd h (show ¬ (1 : Nat) = 0 by decide), rfl⟩) | exact zzz_open)
      · skip
        have hl9 := hls e
        have hv9 := zVd_le hls p (e - p)
        refine z_aload_n hx dX9_takeNumber_16 rfl ?_
        refine z_get hx dX9_takeNumber_17 fX9_9 rfl rfl ?_
        refine z_iload_n hx dX9_takeNumber_20 rfl ?_
        refine z_ialdJ hx dX9_takeNumber_21 rfl (by decide) (by omega) ?_
        refine z_bipush (v := nI 48) hx dX9_takeNumber_22 (by decide) ?_
        refine z_bipush (v := nI 57) hx dX9_takeNumber_24 (by decide) ?_
        refine z_callinP hx [] (qX11_isWithinN _ _ _ (by decide)) dX9_takeNumber_26 sX9_69 rfl rfl rfl (by decide) (by decide) rfl (Nat.le_of_ble_eq_true rfl) (by decide) ?_
        first | refine z_if_eqB (tgt := 65) hx dX9_takeNumber_29 (by decide) (fun zc29 => ?_) (fun zc29 => ?_) | refine z_if_eqN (tgt := 65) hx dX9_takeNumber_29 (by decide) (by omega) (fun zc29 => ?_) (fun zc29 => ?_) | refine z_if_eq (tgt := 65) hx dX9_takeNumber_29 (by decide) (fun zc29 => ?_) (fun zc29 => ?_)
        · skip
          have hnd9 : ¬ zDg ls sz e := fun h => by first | (have := h.1; omega) | exact zc29 ⟨ls e, h.2.1, h.2.2, rfl⟩
          have hee : zEd ls sz p = e := by rw [hen, zEd_f hnd9]
          have hvv : zNv ls sz p = zVd ls p (e - p) := by unfold zNv; rw [hee]
          have hv9 := zVd_le hls p (e - p)
          refine z_iload_n hx dX9_takeNumber_65 rfl ?_
          refine z_aload_n hx dX9_takeNumber_66 rfl ?_
          refine z_get hx dX9_takeNumber_67 fX9_19 rfl rfl ?_
          first | refine z_isubN hx dX9_takeNumber_70 (by omega) ?_ | refine z_isub hx dX9_takeNumber_70 ?_
          refine z_iconst (v := nI 1) hx dX9_takeNumber_71 (by decide) ?_
          refine z_iconst (v := nI 2) hx dX9_takeNumber_72 (by decide) ?_
          refine z_callinP hx [] (qX11_isWithinN _ _ _ (by decide)) dX9_takeNumber_73 sX9_69 rfl rfl rfl (by decide) (by decide) rfl (Nat.le_of_ble_eq_true rfl) (by decide) ?_
          first | refine z_if_neB (tgt := 85) hx dX9_takeNumber_76 (by decide) (fun zc76 => ?_) (fun zc76 => ?_) | refine z_if_neN (tgt := 85) hx dX9_takeNumber_76 (by decide) (by omega) (fun zc76 => ?_) (fun zc76 => ?_) | refine z_if_ne (tgt := 85) hx dX9_takeNumber_76 (by decide) (fun zc76 => ?_) (fun zc76 => ?_)
          · skip
            refine z_iload hx dX9_takeNumber_85 rfl ?_
            refine z_iload_n hx dX9_takeNumber_87 rfl ?_
            refine z_iload_n hx dX9_takeNumber_88 rfl ?_
            refine z_callinP hx [] (qX11_isWithinN _ _ _ ⟨by omega, by omega⟩) dX9_takeNumber_89 sX9_69 rfl rfl rfl (by decide) (by decide) rfl (Nat.le_of_ble_eq_true rfl) (by decide) ?_
            first | refine z_if_neB (tgt := 101) hx dX9_takeNumber_92 (by decide) (fun zc92 => ?_) (fun zc92 => ?_) | refine z_if_neN (tgt := 101) hx dX9_takeNumber_92 (by decide) (by omega) (fun zc92 => ?_) (fun zc92 => ?_) | refine z_if_ne (tgt := 101) hx dX9_takeNumber_92 (by decide) (fun zc92 => ?_) (fun zc92 => ?_)
            · skip
              refine z_aload_n hx dX9_takeNumber_101 rfl ?_
              refine z_iload hx dX9_takeNumber_102 rfl ?_
              refine z_puti hx dX9_takeNumber_104 pX9_37 rfl (Nat.le_of_ble_eq_true rfl) ?_
              refine z_aload_n hx dX9_takeNumber_107 rfl ?_
              refine z_iload_n hx dX9_takeNumber_108 rfl ?_
              refine z_puti hx dX9_takeNumber_109 pX9_19 rfl (Nat.le_of_ble_eq_true rfl) ?_
              refine z_iconst (v := nI 1) hx dX9_takeNumber_112 (by decide) ?_
              exact z_zret hx hF dX9_takeNumber_113 rfl (by first | exact bP_nar _ | rfl) rfl (by first | (have h1 := zFgs_t (ls := ls) (sz := sz) (lo := lo) (hi := hi) (p := p) (by rw [hee]; obtain ⟨zk, zk1, zk2, zke⟩ := zc76; have := (nI_eq (by omega) (by omega)).mp zke; omega) (by rw [hvv]; obtain ⟨zk, zk1, zk2, zke⟩ := zc92; have := (nI_eq (by omega) (by omega)).mp zke; omega); have h2 : (zFgs ls sz lo hi (p, 0)).2 = 0 := (by rw [h1]); exact ⟨(bP_t h2).symm, zVd ls p (e - p), fun h => by rw [zFgv_t h, hvv], by rw [h1, hee]; rfl⟩) | (have h1 := zFgs_2 (ls := ls) (sz := sz) (lo := lo) (hi := hi) (p := p) (by rw [hee]; obtain ⟨zk, zk1, zk2, zke⟩ := zc76; have := (nI_eq (by omega) (by omega)).mp zke; omega) (by rw [hvv]; intro h; exact zc92 ⟨_, h.1, h.2, rfl⟩); rw [h1]; exact ⟨(bP_f (show ¬ (2 : Nat) = 0 by decide)).symm, nm, fun h => absurd h (show ¬ (2 : Nat) = 0 by decide), rfl⟩) | (have h1 := zFgs_1 (ls := ls) (sz := sz) (lo := lo) (hi := hi) (p := p) (by rw [hee]; intro h; exact zc76 ⟨_, h.1, h.2, rfl⟩); rw [h1]; exact ⟨(bP_f (show ¬ (1 : Nat) = 0 by decide)).symm, nm, fun h => absurd h (show ¬ (1 : Nat) = 0 by decide), rfl⟩) | exact zzz_open)
            · skip
              refine z_aload_n hx dX9_takeNumber_95 rfl ?_
              refine z_iconst (v := nI 2) hx dX9_takeNumber_96 (by decide) ?_
              refine z_callivF hx (qX9_fails sz fa fp ls p nm 2) dX9_takeNumber_97 sX9_54 rfl rfl rfl rfl (Nat.le_of_ble_eq_true rfl) rfl (Nat.le_of_ble_eq_true rfl) (by decide) ?_
              exact z_zret hx hF dX9_takeNumber_100 rfl (by first | exact bP_nar _ | rfl) rfl (by first | (have h1 := zFgs_t (ls := ls) (sz := sz) (lo := lo) (hi := hi) (p := p) (by rw [hee]; obtain ⟨zk, zk1, zk2, zke⟩ := zc76; have := (nI_eq (by omega) (by omega)).mp zke; omega) (by rw [hvv]; obtain ⟨zk, zk1, zk2, zke⟩ := zc92; have := (nI_eq (by omega) (by omega)).mp zke; omega); have h2 : (zFgs ls sz lo hi (p, 0)).2 = 0 := (by rw [h1]); exact ⟨(bP_t h2).symm, zVd ls p (e - p), fun h => by rw [zFgv_t h, hvv], by rw [h1, hee]; rfl⟩) | (have h1 := zFgs_2 (ls := ls) (sz := sz) (lo := lo) (hi := hi) (p := p) (by rw [hee]; obtain ⟨zk, zk1, zk2, zke⟩ := zc76; have := (nI_eq (by omega) (by omega)).mp zke; omega) (by rw [hvv]; intro h; exact zc92 ⟨_, h.1, h.2, rfl⟩); rw [h1]; exact ⟨(bP_f (show ¬ (2 : Nat) = 0 by decide)).symm, nm, fun h => absurd h (show ¬ (2 : Nat) = 0 by decide), rfl⟩) | (have h1 := zFgs_1 (ls := ls) (sz := sz) (lo := lo) (hi := hi) (p := p) (by rw [hee]; intro h; exact zc76 ⟨_, h.1, h.2, rfl⟩); rw [h1]; exact ⟨(bP_f (show ¬ (1 : Nat) = 0 by decide)).symm, nm, fun h => absurd h (show ¬ (1 : Nat) = 0 by decide), rfl⟩) | exact zzz_open)
          · skip
            refine z_aload_n hx dX9_takeNumber_79 rfl ?_
            refine z_iconst (v := nI 1) hx dX9_takeNumber_80 (by decide) ?_
            refine z_callivF hx (qX9_fails sz fa fp ls p nm 1) dX9_takeNumber_81 sX9_54 rfl rfl rfl rfl (Nat.le_of_ble_eq_true rfl) rfl (Nat.le_of_ble_eq_true rfl) (by decide) ?_
            exact z_zret hx hF dX9_takeNumber_84 rfl (by first | exact bP_nar _ | rfl) rfl (by first | (have h1 := zFgs_t (ls := ls) (sz := sz) (lo := lo) (hi := hi) (p := p) (by rw [hee]; obtain ⟨zk, zk1, zk2, zke⟩ := zc76; have := (nI_eq (by omega) (by omega)).mp zke; omega) (by rw [hvv]; obtain ⟨zk, zk1, zk2, zke⟩ := zc92; have := (nI_eq (by omega) (by omega)).mp zke; omega); have h2 : (zFgs ls sz lo hi (p, 0)).2 = 0 := (by rw [h1]); exact ⟨(bP_t h2).symm, zVd ls p (e - p), fun h => by rw [zFgv_t h, hvv], by rw [h1, hee]; rfl⟩) | (have h1 := zFgs_2 (ls := ls) (sz := sz) (lo := lo) (hi := hi) (p := p) (by rw [hee]; obtain ⟨zk, zk1, zk2, zke⟩ := zc76; have := (nI_eq (by omega) (by omega)).mp zke; omega) (by rw [hvv]; intro h; exact zc92 ⟨_, h.1, h.2, rfl⟩); rw [h1]; exact ⟨(bP_f (show ¬ (2 : Nat) = 0 by decide)).symm, nm, fun h => absurd h (show ¬ (2 : Nat) = 0 by decide), rfl⟩) | (have h1 := zFgs_1 (ls := ls) (sz := sz) (lo := lo) (hi := hi) (p := p) (by rw [hee]; intro h; exact zc76 ⟨_, h.1, h.2, rfl⟩); rw [h1]; exact ⟨(bP_f (show ¬ (1 : Nat) = 0 by decide)).symm, nm, fun h => absurd h (show ¬ (1 : Nat) = 0 by decide), rfl⟩) | exact zzz_open)
        · skip
          obtain ⟨zk, zk1, zk2, zke⟩ := zc29
          have zkk : ls e = zk := (nI_eq (by omega) (by omega)).mp zke
          have hd9 : zDg ls sz e := ⟨by omega, by omega, by omega⟩
          refine z_iload_n hx dX9_takeNumber_32 rfl ?_
          refine z_aload_n hx dX9_takeNumber_33 rfl ?_
          refine z_get hx dX9_takeNumber_34 fX9_19 rfl rfl ?_
          first | refine z_isubN hx dX9_takeNumber_37 (by omega) ?_ | refine z_isub hx dX9_takeNumber_37 ?_
          refine z_iconst (v := nI 2) hx dX9_takeNumber_38 (by decide) ?_
          first | refine z_icmp_geN (tgt := 59) hx dX9_takeNumber_39 (by decide) (by omega) (by omega) (fun zc39 => ?_) (fun zc39 => ?_) | refine z_icmp_ge (tgt := 59) hx dX9_takeNumber_39 (by decide) (fun zc39 => ?_) (fun zc39 => ?_)
          · skip
            first | refine z_iincN (z := 1) hx dX9_takeNumber_59 rfl rfl ?_ | refine z_iinc hx dX9_takeNumber_59 rfl rfl rfl ?_
            refine z_goto (tgt := 8) hx dX9_takeNumber_62 (by decide) ?_
            first | exact ih _ (by omega) (e + 1) rfl (by omega) (by omega) (by rw [hen, zEd_t hd9]) | exact z_eq (by rw [zVd_k (by omega)]; rfl) rfl rfl (ih _ (by omega) (e + 1) rfl (by omega) (by omega) (by rw [hen, zEd_t hd9]))
          · skip
            refine z_iload hx dX9_takeNumber_42 rfl ?_
            refine z_bipush (v := nI 10) hx dX9_takeNumber_44 (by decide) ?_
            first | refine z_imulN hx dX9_takeNumber_46 ?_ | refine z_imul hx dX9_takeNumber_46 ?_
            refine z_aload_n hx dX9_takeNumber_47 rfl ?_
            refine z_get hx dX9_takeNumber_48 fX9_9 rfl rfl ?_
            refine z_iload_n hx dX9_takeNumber_51 rfl ?_
            refine z_ialdJ hx dX9_takeNumber_52 rfl (by decide) (by omega) ?_
            first | refine z_iaddN hx dX9_takeNumber_53 ?_ | refine z_iadd hx dX9_takeNumber_53 ?_
            refine z_bipush (v := nI 48) hx dX9_takeNumber_54 (by decide) ?_
            refine z_isubN hx dX9_takeNumber_56 (by omega) ?_
            refine z_topN (b := zVd ls p (e + 1 - p)) ((zVd_s (by omega) he1).resolve_right (by omega)) ?_
            refine z_istore hx dX9_takeNumber_57 (Nat.le_of_ble_eq_true rfl) rfl ?_
            first | refine z_iincN (z := 1) hx dX9_takeNumber_59 rfl rfl ?_ | refine z_iinc hx dX9_takeNumber_59 rfl rfl rfl ?_
            refine z_goto (tgt := 8) hx dX9_takeNumber_62 (by decide) ?_
            first | exact ih _ (by omega) (e + 1) rfl (by omega) (by omega) (by rw [hen, zEd_t hd9]) | exact z_eq (by rw [zVd_k (by omega)]; rfl) rfl rfl (ih _ (by omega) (e + 1) rfl (by omega) (by omega) (by rw [hen, zEd_t hd9]))
  refine z_aload_n hx dX9_takeNumber_0 rfl ?_
  refine z_get hx dX9_takeNumber_1 fX9_19 rfl rfl ?_
  refine z_istore_n hx dX9_takeNumber_4 (Nat.le_of_ble_eq_true rfl) rfl ?_
  refine z_iconst (v := nI 0) hx dX9_takeNumber_5 (by decide) ?_
  refine z_istore hx dX9_takeNumber_6 (Nat.le_of_ble_eq_true rfl) rfl ?_
  exact z_eq (by rw [show zVd ls p (p - p) = 0 by rw [Nat.sub_self]; rfl]; rfl) rfl rfl (loop8 _ p rfl (by omega) (by omega) rfl)

