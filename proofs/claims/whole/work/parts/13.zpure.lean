/-! THE MEANING: a line's state, and what is asked of it, as numbers -/
abbrev zL : Type := (Nat × Nat × Nat × Nat) × (Nat → Nat) × (Nat → Nat) × (Nat → Nat) × (Nat → Nat) × (Nat → Nat)
def lS (L : zL) : Nat := L.1.1
def lB (L : zL) : Nat := L.1.2.1
def lP (L : zL) : Nat := L.1.2.2.1
def lM (L : zL) : Nat := L.1.2.2.2
def lK (L : zL) : Nat → Nat := L.2.1
def lA (L : zL) : Nat → Nat := L.2.2.1
def lF (L : zL) : Nat → Nat := L.2.2.2.1
def lW (L : zL) : Nat → Nat := L.2.2.2.2.1
def lT (L : zL) : Nat → Nat := L.2.2.2.2.2
def zWf (L : zL) : Prop := lS L ≤ 8 ∧ lB L ≤ 40 ∧ lP L ≤ 6 ∧ lM L ≤ 2000 ∧ ∀ q, q < lP L → 1 ≤ lK L q ∧ lK L q ≤ 5 ∧ lA L q < lS L ∧ lF L q ≤ 60 ∧ lW L q < lS L ∧ lT L q ≤ 99
/-- who is THERE, of the first ones -/
def zTh (L : zL) : Nat → Nat
  | 0 => 0
  | q + 1 => zTh L q ||| (if lA L q = lW L q then 2 ^ q else 0)
/-- who is at a stop, of the first ones -/
def zWh (L : zL) (k : Nat) : Nat → Nat
  | 0 => 0
  | q + 1 => zWh L k q ||| (if lA L q = k then 2 ^ q else 0)
/-- how many are at a stop, of the first ones -/
def zCn (L : zL) : Nat → Nat → Nat
  | 0, _ => 0
  | q + 1, k => zCn L q k + (if lA L q = k then 1 else 0)
/-- by how much one hopes, by his kind, faith, waiting, and how many are with him -/
def zHk (k f t o : Nat) : Nat := if k = 1 then f else if k = 2 then f + o else if k = 3 then f - t else if k = 4 then 3 else if o = 0 then 13 else 3
def zHp (L : zL) (q : Nat) : Nat := zHk (lK L q) (lF L q) (lT L q) (zCn L (lP L) (lA L q) - 1)
/-- the hope of a stop, of the first ones, but the silent ones -/
def zHo (L : zL) (but : Nat) : Nat → Nat → Nat
  | 0, _ => 0
  | q + 1, k => zHo L but q k + (if lA L q = k ∧ but.testBit q = false then zHp L q else 0)
def zHs (L : zL) (but : Nat) : Nat → Nat := zHo L but (lP L)
/-- the most hope among the first stops, and the first stop that has it -/
def zMx (L : zL) (but : Nat) : Nat → Nat
  | 0 => 0
  | k + 1 => if zMx L but k < zHs L but k then zHs L but k else zMx L but k
def zBs (L : zL) (but : Nat) : Nat → Option Nat
  | 0 => none
  | k + 1 => if zMx L but k < zHs L but k then some k else zBs L but k
/-- where the tram is -/
def zTr (L : zL) (but : Nat) : Option Nat := if 0 < zMx L but (lS L) ∧ lB L ≤ zMx L but (lS L) then zBs L but (lS L) else none
/-- one moves in a minute -/
def zMv1 (L : zL) (walk : Nat) (q : Nat) : Prop := ¬ lA L q = lW L q ∧ (zTr L 0 = some (lA L q) ∨ walk.testBit q = true)
noncomputable def zIf (c : Prop) (a b : Nat) : Nat := @ite _ c (Classical.propDecidable c) a b
theorem zIf_t {c : Prop} {a b : Nat} (h : c) : zIf c a b = a := by unfold zIf; rw [if_pos h]
theorem zIf_f {c : Prop} {a b : Nat} (h : ¬ c) : zIf c a b = b := by unfold zIf; rw [if_neg h]
noncomputable def zPa (L : zL) (walk n : Nat) : Nat → Nat := fun q => zIf (q < n ∧ zMv1 L walk q) (if lA L q < lW L q then lA L q + 1 else lA L q - 1) (lA L q)
noncomputable def zPt (L : zL) (walk n : Nat) : Nat → Nat := fun q => if q < n then zIf (zMv1 L walk q) 0 (if lT L q < 99 then lT L q + 1 else lT L q) else lT L q
/-- the state behind a minute -/
noncomputable def zPs (L : zL) (walk : Nat) : zL := ((lS L, lB L, lP L, lM L + 1), lK L, zPa L walk (lP L), lF L, lW L, zPt L walk (lP L))
noncomputable def zIt (L : zL) (walk : Nat) : Nat → zL
  | 0 => L
  | d + 1 => zPs (zIt L walk d) walk
/-- a line's cells in the class -/
def hLc (L : zL) (cr ho : Nat → Nat) : List zE := [zO 4 [.int (nI (lS L)), .int (nI (lB L)), .int (nI (lP L)), .int (nI (lM L)), .ref 1, .ref 2, .ref 3, .ref 4, .ref 5, .ref 8, .ref 6, .ref 7], zN 6 (lK L), zN 6 (lA L), zN 6 (lF L), zN 6 (lW L), zN 6 (lT L), zN 8 cr, zN 8 ho, zR 3 [.ref 9, .ref 10, .ref 11, .ref 12, .ref 13], zO 6 [], zO 2 [], zO 3 [], zO 1 [], zO 7 []]
/-- a line's cell in the reference -/
def fl (L : zL) : Nat → Nat := fun j => if j = 0 then lS L else if j = 1 then lB L else if j = 2 then lM L else if j = 3 then lP L else
  if (j - 4) % 5 = 0 then lK L ((j - 4) / 5) else if (j - 4) % 5 = 1 then lA L ((j - 4) / 5) else if (j - 4) % 5 = 2 then lF L ((j - 4) / 5) else if (j - 4) % 5 = 3 then lW L ((j - 4) / 5) else lT L ((j - 4) / 5)
theorem fl_0 (L : zL) : fl L 0 = lS L := rfl
theorem fl_1 (L : zL) : fl L 1 = lB L := rfl
theorem fl_2 (L : zL) : fl L 2 = lM L := rfl
theorem fl_3 (L : zL) : fl L 3 = lP L := rfl
theorem fl_K (L : zL) (q : Nat) : fl L (4 + 5 * q) = lK L q := by
  unfold fl
  rw [if_neg (by omega), if_neg (by omega), if_neg (by omega), if_neg (by omega), if_pos (by omega)]
  congr 1; omega
theorem fl_A (L : zL) (q : Nat) : fl L (4 + 5 * q + 1) = lA L q := by
  unfold fl
  rw [if_neg (by omega), if_neg (by omega), if_neg (by omega), if_neg (by omega), if_neg (by omega), if_pos (by omega)]
  congr 1; omega
theorem fl_F (L : zL) (q : Nat) : fl L (4 + 5 * q + 2) = lF L q := by
  unfold fl
  rw [if_neg (by omega), if_neg (by omega), if_neg (by omega), if_neg (by omega), if_neg (by omega), if_neg (by omega), if_pos (by omega)]
  congr 1; omega
theorem fl_W (L : zL) (q : Nat) : fl L (4 + 5 * q + 3) = lW L q := by
  unfold fl
  rw [if_neg (by omega), if_neg (by omega), if_neg (by omega), if_neg (by omega), if_neg (by omega), if_neg (by omega), if_neg (by omega), if_pos (by omega)]
  congr 1; omega
theorem fl_T (L : zL) (q : Nat) : fl L (4 + 5 * q + 4) = lT L q := by
  unfold fl
  rw [if_neg (by omega), if_neg (by omega), if_neg (by omega), if_neg (by omega), if_neg (by omega), if_neg (by omega), if_neg (by omega), if_neg (by omega)]
  congr 1; omega
theorem fl_up {L : zL} {v q : Nat} {f : Nat → Nat} (c : Nat) (hc : c < 5) (e : ∀ j, j < 4 → fl L j = f j) (e2 : ∀ p d, d < 5 → f (4 + 5 * p + d) = if p = q ∧ d = c then v else fl L (4 + 5 * p + d)) : zup (fl L) (4 + 5 * q + c) v = f := by
  funext j
  unfold zup
  by_cases h4 : j < 4
  · rw [if_neg (by omega), e j h4]
  · have hj : j = 4 + 5 * ((j - 4) / 5) + (j - 4) % 5 := by omega
    have h5 := e2 ((j - 4) / 5) ((j - 4) % 5) (by omega)
    rw [← hj] at h5
    rw [h5]
    by_cases hq : j = 4 + 5 * q + c
    · rw [if_pos hq, if_pos (by omega)]
    · rw [if_neg hq, if_neg (by omega)]
theorem fl_five (L : zL) (p d : Nat) (hd : d < 5) : fl L (4 + 5 * p + d) = if d = 0 then lK L p else if d = 1 then lA L p else if d = 2 then lF L p else if d = 3 then lW L p else lT L p := by
  rcases (show d = 0 ∨ d = 1 ∨ d = 2 ∨ d = 3 ∨ d = 4 by omega) with rfl | rfl | rfl | rfl | rfl
  · exact fl_K L p
  · exact fl_A L p
  · exact fl_F L p
  · exact fl_W L p
  · exact fl_T L p
theorem fl_lt (L : zL) (j : Nat) (h : j < 4) : fl L j = if j = 0 then lS L else if j = 1 then lB L else if j = 2 then lM L else lP L := by
  rcases (show j = 0 ∨ j = 1 ∨ j = 2 ∨ j = 3 by omega) with rfl | rfl | rfl | rfl <;> rfl
/-- writes -/
def lsK (L : zL) (q v : Nat) : zL := (L.1, zup (lK L) q v, lA L, lF L, lW L, lT L)
def lsA (L : zL) (q v : Nat) : zL := (L.1, lK L, zup (lA L) q v, lF L, lW L, lT L)
def lsF (L : zL) (q v : Nat) : zL := (L.1, lK L, lA L, zup (lF L) q v, lW L, lT L)
def lsW (L : zL) (q v : Nat) : zL := (L.1, lK L, lA L, lF L, zup (lW L) q v, lT L)
def lsT (L : zL) (q v : Nat) : zL := (L.1, lK L, lA L, lF L, lW L, zup (lT L) q v)
def lsB (L : zL) (v : Nat) : zL := ((lS L, v, lP L, lM L), lK L, lA L, lF L, lW L, lT L)
def lsM (L : zL) (v : Nat) : zL := ((lS L, lB L, lP L, v), lK L, lA L, lF L, lW L, lT L)
theorem fl_sK (L : zL) (q v : Nat) : zup (fl L) (4 + 5 * q) v = fl (lsK L q v) := by
  refine fl_up (L := L) 0 (by omega) (fun j h => by rw [fl_lt _ _ h, fl_lt _ _ h]; rfl) (fun p d hd => ?_)
  rw [fl_five _ _ _ hd, fl_five _ _ _ hd]
  by_cases h1 : d = 0
  · subst h1; simp [lsK, lK, zup]
  · simp [h1]; rfl
theorem fl_sA (L : zL) (q v : Nat) : zup (fl L) (4 + 5 * q + 1) v = fl (lsA L q v) := by
  refine fl_up (L := L) 1 (by omega) (fun j h => by rw [fl_lt _ _ h, fl_lt _ _ h]; rfl) (fun p d hd => ?_)
  rw [fl_five _ _ _ hd, fl_five _ _ _ hd]
  by_cases h1 : d = 1
  · subst h1; simp [lsA, lA, zup]
  · simp [h1]; rfl
theorem fl_sF (L : zL) (q v : Nat) : zup (fl L) (4 + 5 * q + 2) v = fl (lsF L q v) := by
  refine fl_up (L := L) 2 (by omega) (fun j h => by rw [fl_lt _ _ h, fl_lt _ _ h]; rfl) (fun p d hd => ?_)
  rw [fl_five _ _ _ hd, fl_five _ _ _ hd]
  by_cases h1 : d = 2
  · subst h1; simp [lsF, lF, zup]
  · simp [h1]; rfl
theorem fl_sW (L : zL) (q v : Nat) : zup (fl L) (4 + 5 * q + 3) v = fl (lsW L q v) := by
  refine fl_up (L := L) 3 (by omega) (fun j h => by rw [fl_lt _ _ h, fl_lt _ _ h]; rfl) (fun p d hd => ?_)
  rw [fl_five _ _ _ hd, fl_five _ _ _ hd]
  by_cases h1 : d = 3
  · subst h1; simp [lsW, lW, zup]
  · simp [h1]; rfl
theorem fl_sT (L : zL) (q v : Nat) : zup (fl L) (4 + 5 * q + 4) v = fl (lsT L q v) := by
  refine fl_up (L := L) 4 (by omega) (fun j h => by rw [fl_lt _ _ h, fl_lt _ _ h]; rfl) (fun p d hd => ?_)
  rw [fl_five _ _ _ hd, fl_five _ _ _ hd]
  by_cases h1 : d = 4
  · subst h1; simp [lsT, lT, zup]
  · rcases (show d = 0 ∨ d = 1 ∨ d = 2 ∨ d = 3 by omega) with rfl | rfl | rfl | rfl <;> (simp; rfl)
theorem fl_sB (L : zL) (v : Nat) : zup (fl L) 1 v = fl (lsB L v) := by
  funext j
  unfold zup fl
  by_cases h : j = 1
  · subst h; rfl
  · rw [if_neg h]
    by_cases h0 : j = 0
    · subst h0; rfl
    · rw [if_neg h0, if_neg h0, if_neg h, if_neg h]; rfl
theorem fl_sM (L : zL) (v : Nat) : zup (fl L) 2 v = fl (lsM L v) := by
  funext j
  unfold zup fl
  by_cases h : j = 2
  · subst h; rfl
  · rw [if_neg h]
    by_cases h0 : j = 0
    · subst h0; rfl
    · by_cases h1 : j = 1
      · subst h1; rfl
      · rw [if_neg h0, if_neg h0, if_neg h1, if_neg h1, if_neg h, if_neg h]; rfl
theorem zinN {v : Int32} {a b : Nat} (hb : b < 2147483648) : (nI a ≤ v ∧ v ≤ nI b ∧ a ≤ b) ↔ (∃ j, a ≤ j ∧ j ≤ b ∧ v = nI j) := by
  constructor
  · rintro ⟨h1, h2, h3⟩
    rw [Int32.le_iff_toInt_le, nI_toInt (by omega)] at h1 h2
    refine ⟨v.toInt.toNat, by omega, by omega, Int32.toInt_inj.mp ?_⟩
    rw [nI_toInt (by omega)]
    omega
  · rintro ⟨j, h1, h2, rfl⟩
    exact ⟨nI_le h1 (by omega), nI_le h2 (by omega), by omega⟩
theorem zinN2 {v : Int32} {a b : Nat} (hb : b < 2147483648) (hab : a ≤ b) : (nI a ≤ v ∧ v ≤ nI b) ↔ (∃ j, a ≤ j ∧ j ≤ b ∧ v = nI j) :=
  ⟨fun h => (zinN hb).mp ⟨h.1, h.2, hab⟩, fun h => ⟨((zinN hb).mpr h).1, ((zinN hb).mpr h).2.1⟩⟩
theorem zinP {v : Int32} {p : Nat} (hp : p < 1000000) : (nI 0 ≤ v ∧ v ≤ nI p - nI 1) ↔ (∃ j, j < p ∧ v = nI j) := by
  have e := pk_sub_toInt (a := p) (b := 1) (by omega) (by omega)
  constructor
  · rintro ⟨h1, h2⟩
    rw [Int32.le_iff_toInt_le, nI_toInt (by omega)] at h1
    rw [Int32.le_iff_toInt_le, e] at h2
    refine ⟨v.toInt.toNat, by omega, Int32.toInt_inj.mp ?_⟩
    rw [nI_toInt (by omega)]
    omega
  · rintro ⟨j, h1, rfl⟩
    refine ⟨nI_le (by omega) (by omega), ?_⟩
    rw [Int32.le_iff_toInt_le, e, nI_toInt (by omega)]
    omega
/-- an array's function may be another one below its length -/
theorem z_cell {x : zC} {pc : Nat} {lv : List (Option Value)} {st : List Value} {h : List zE} {q N : Nat} {f : Nat → Int32} (g : Nat → Int32) (hq : h[q]? = some (zI N f)) (e : ∀ j, j < N → f j = g j) (k : zV x pc lv st (h.set q (zI N g))) : zV x pc lv st h := by
  obtain ⟨p, l, en, R, s, m, args, below, meth, c, D, ca, ad, A, Q⟩ := x
  intro H locs ls hl hP hD hS
  have hql := (List.getElem?_eq_some_iff.mp hq).1
  refine k H locs ls hl ?_ (zD_len hD List.length_set) hS
  intro i z hz
  obtain ⟨e1, h1, rfl⟩ := zcw_of hz
  rw [List.getElem?_set] at h1
  by_cases hi : q = i
  · subst hi
    rw [if_pos rfl, if_pos hql] at h1
    cases h1
    have h2 := hP q _ (zcw_get hq)
    have h3 : vp_cell (ca 0) (N, .inl g) = vp_cell (ca 0) (N, .inl f) := by
      simp only [vp_cell, arrV]
      congr 1
      apply Array.ext
      · simp
      · intro j hj1 hj2
        simp at hj1
        simp [e j hj1]
    show H[ad q]? = some (vp_cell (ca 0) (N, .inl g))
    rw [h3]
    exact h2
  · rw [if_neg hi] at h1
    exact hP i _ (zcw_get h1)
