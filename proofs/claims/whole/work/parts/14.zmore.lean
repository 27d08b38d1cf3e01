theorem aX8_33 : Cond.methodLink RX8 33 arraycopyName ∈ zG := zin 358 (by decide +kernel) (by decide +kernel)
theorem aX4_50 : Cond.methodLink RX4 50 arraycopyName ∈ zG := zin 512 (by decide +kernel) (by decide +kernel)
theorem aX5_34 : Cond.methodLink RX5 34 arraycopyName ∈ zG := zin 539 (by decide +kernel) (by decide +kernel)
theorem zac_nat : Cond.native arraycopyName ∈ zG := zin 360 (by decide +kernel) (by decide +kernel)
theorem zac_sta : Cond.static arraycopyName ∈ zG := zin 359 (by decide +kernel) (by decide +kernel)
theorem zac_ini : Cond.initialized "java/lang/System" ∈ zG := zin 67 (by decide +kernel) (by decide +kernel)
section ZAC
variable {x : zC} {M : zM} {n pc : Nat} {lv : List (Option Value)} {st : List Value} {h : List zE}
theorem z_iushr (hx : zOk x M n) {a b : Int32} (d : decode M.2.1 pc = .ok (.iushr, 1)) (k : zV x (pc + 1) lv (.int ((a.toUInt32 >>> (b.toUInt32 &&& Int32.toUInt32 31)).toInt32) :: st) h) : zV x pc lv (.int b :: .int a :: st) h := by
  obtain ⟨p, l, e, R, s, m, args, below, meth, c, D, ca, ad, A, Q⟩ := x
  obtain ⟨hx, hb, hml, hown, hts, hKK, hA, hR, hr, hlk⟩ := hx
  intro H locs ls hl hP hD hS
  exact lv_iushr (x := a) (y := b) hx hb d rfl (k H locs ls hl hP hD hS)
theorem z_acopy (hx : zOk x M n) {idx q0 q1 N0 N1 sp dp cnt : Nat} {f g : Nat → Int32} (d : decode M.2.1 pc = .ok (.invokestatic idx, 3)) (hlink : Cond.methodLink M.1.cls idx arraycopyName ∈ zG) (hq0 : h[q0]? = some (zI N0 f)) (hq1 : h[q1]? = some (zI N1 g)) (hN0 : N0 < 2147483648) (hN1 : N1 < 2147483648) (h4 : sp + cnt ≤ N0) (h5 : dp + cnt ≤ N1) (hlv : lv.length = M.2.2.1) (hn : 1 ≤ n) (hcat : (st.map fun v => v.category).sum ≤ 8) (k : zV x (pc + 3) lv st (h.set q1 (zI N1 (va_cpy f g sp dp cnt)))) : zV x pc lv (.int (nI cnt) :: .int (nI dp) :: .ref q1 :: .int (nI sp) :: .ref q0 :: st) h := by
  obtain ⟨p, l, e, R, s, m, args, below, meth, c, D, ca, ad, A, Q⟩ := x
  obtain ⟨hx, hb, hml, hown, hts, hKK, hA, hR, hr, hlk⟩ := hx
  subst hR
  intro H locs ls hl hP hD hS
  have g' : ∀ {w : Cond}, w ∈ zG → w.before args s = true := fun hw => hts _ (List.mem_cons_of_mem _ hw)
  have c1 : (nI sp).toNatClampNeg = sp := nI_cl (by omega)
  have c2 : (nI dp).toNatClampNeg = dp := nI_cl (by omega)
  have c3 : (nI cnt).toNatClampNeg = cnt := nI_cl (by omega)
  have hw : nativeFrameWords "java/lang/System" "arraycopy" 5 ≤ 20 := by decide +kernel
  have hcat2 : ((st.map (zcv ad)).map fun v => v.category).sum ≤ 8 := by
    rw [List.map_map]
    have : ((fun v : Value => v.category) ∘ zcv ad) = fun v => v.category := funext fun v => zcv_cat ad v
    rw [this]
    exact hcat
  refine va_copyi (ty := .int) (f := f) (g := g) (sp := nI sp) (dp := nI dp) (n := nI cnt) hx hb (hml.trans (hlv.symm.trans hl.1.symm)) hown (g' hlink) (g' zac_nat) (g' zac_sta) (g' zac_ini) hKK.1 hP hD hS q0 q1 0 0 (zcw_get hq0) (zcw_get hq1) rfl rfl rfl (nI_lt0 (by omega)) (nI_lt0 (by omega)) (nI_lt0 (by omega)) (by rw [c1, c3]; exact h4) (by rw [c2, c3]; exact h5) (fun _ _ => rfl) hn (by show _ ≤ 40 * n; omega) d (fun H1 locs1 hP1 hD1 hS1 => ?_)
  rw [c1, c2, c3] at hP1 hD1
  have e9 := zcw_set (ad := ad) (ca := ca) (h := h) q1 (zI N1 (va_cpy f g sp dp cnt))
  rw [zce] at e9
  rw [e9] at hP1 hD1
  exact k H1 locs1 ls hl hP1 hD1 hS1
theorem zmm_max : yJ9_max_7cf53 = Lib.Math.max.name ∧ cJ9_max_7cf53 = Lib.Math.max.code := ⟨by decide +kernel, by decide +kernel⟩
theorem zmm_min : yJ9_min_7cf53 = Lib.Math.min.name ∧ cJ9_min_7cf53 = Lib.Math.min.code := ⟨by decide +kernel, by decide +kernel⟩
theorem z_mmax (hx : zOk x M n) {idx a b : Nat} (d : decode M.2.1 pc = .ok (.invokestatic idx, 3)) (site : zLs M.1.cls idx mJ9_max_7cf53 2) (ha : a < 2147483648) (hb2 : b < 2147483648) (hlv : lv.length = M.2.2.1) (hn : 1 ≤ n) (hcat : (st.map fun v => v.category).sum ≤ 8) (k : zV x (pc + 3) lv (.int (nI (if a < b then b else a)) :: st) h) : zV x pc lv (.int (nI b) :: .int (nI a) :: st) h := by
  obtain ⟨p, l, e, R, s, m, args, below, meth, c, D, ca, ad, A, Q⟩ := x
  obtain ⟨hx, hb, hml, hown, hts, hKK, hA, hR, hr, hlk⟩ := hx
  subst hR
  intro H locs ls hl hP hD hS
  have g' : ∀ {w : Cond}, w ∈ zG → w.before args s = true := fun hw => hts _ (List.mem_cons_of_mem _ hw)
  have hcat2 : ((st.map (zcv ad)).map fun v => v.category).sum ≤ 8 := by
    rw [List.map_map]
    have : ((fun v : Value => v.category) ∘ zcv ad) = fun v => v.category := funext fun v => zcv_cat ad v
    rw [this]
    exact hcat
  obtain ⟨⟨s1, s2, -, -, -, -⟩, s3, s4⟩ := site
  have s1 : Cond.code yJ9_max_7cf53 cJ9_max_7cf53 2 (some .int) ∈ zG := s1
  have s3 : Cond.methodLink M.1.cls idx yJ9_max_7cf53 ∈ zG := s3
  have s4 : Cond.static yJ9_max_7cf53 ∈ zG := s4
  rw [zmm_max.1, zmm_max.2] at s1
  rw [zmm_max.1] at s3 s4
  refine va_mmax (x := nI a) (y := nI b) hx hb (hml.trans (hlv.symm.trans hl.1.symm)) hown (g' s3) (g' s4) (g' s2) (g' s1) hn (by show _ ≤ 40 * n; omega) (Nat.le_refl _) (Nat.le_refl _) d ?_
  have e9 : (if nI a < nI b then nI b else nI a) = nI (if a < b then b else a) := by
    by_cases q : a < b
    · rw [if_pos q, if_pos ((nI_ltI (by omega) (by omega)).mpr q)]
    · rw [if_neg q, if_neg (fun z => q ((nI_ltI (by omega) (by omega)).mp z))]
  rw [e9]
  exact k H locs ls hl hP hD hS
theorem z_mmin (hx : zOk x M n) {idx a b : Nat} (d : decode M.2.1 pc = .ok (.invokestatic idx, 3)) (site : zLs M.1.cls idx mJ9_min_7cf53 2) (ha : a < 2147483648) (hb2 : b < 2147483648) (hlv : lv.length = M.2.2.1) (hn : 1 ≤ n) (hcat : (st.map fun v => v.category).sum ≤ 8) (k : zV x (pc + 3) lv (.int (nI (if b < a then b else a)) :: st) h) : zV x pc lv (.int (nI b) :: .int (nI a) :: st) h := by
  obtain ⟨p, l, e, R, s, m, args, below, meth, c, D, ca, ad, A, Q⟩ := x
  obtain ⟨hx, hb, hml, hown, hts, hKK, hA, hR, hr, hlk⟩ := hx
  subst hR
  intro H locs ls hl hP hD hS
  have g' : ∀ {w : Cond}, w ∈ zG → w.before args s = true := fun hw => hts _ (List.mem_cons_of_mem _ hw)
  have hcat2 : ((st.map (zcv ad)).map fun v => v.category).sum ≤ 8 := by
    rw [List.map_map]
    have : ((fun v : Value => v.category) ∘ zcv ad) = fun v => v.category := funext fun v => zcv_cat ad v
    rw [this]
    exact hcat
  obtain ⟨⟨s1, s2, -, -, -, -⟩, s3, s4⟩ := site
  have s1 : Cond.code yJ9_min_7cf53 cJ9_min_7cf53 2 (some .int) ∈ zG := s1
  have s3 : Cond.methodLink M.1.cls idx yJ9_min_7cf53 ∈ zG := s3
  have s4 : Cond.static yJ9_min_7cf53 ∈ zG := s4
  rw [zmm_min.1, zmm_min.2] at s1
  rw [zmm_min.1] at s3 s4
  refine va_mmin (x := nI a) (y := nI b) hx hb (hml.trans (hlv.symm.trans hl.1.symm)) hown (g' s3) (g' s4) (g' s2) (g' s1) hn (by show _ ≤ 40 * n; omega) (Nat.le_refl _) (Nat.le_refl _) d ?_
  have e9 : (if nI b < nI a then nI b else nI a) = nI (if b < a then b else a) := by
    by_cases q : b < a
    · rw [if_pos q, if_pos ((nI_ltI (by omega) (by omega)).mpr q)]
    · rw [if_neg q, if_neg (fun z => q ((nI_ltI (by omega) (by omega)).mp z))]
  rw [e9]
  exact k H locs ls hl hP hD hS
end ZAC
/-! bits and counts -/
theorem zbit (b n : Nat) : (b / 2 ^ n &&& 1 = 1) ↔ b.testBit n = true := by
  rw [Nat.testBit_eq_decide_div_mod_eq, decide_eq_true_iff, Nat.and_one_is_mod]
def zOk8 (x : Nat) : Nat → Nat
  | 0 => 0
  | k + 1 => zOk8 x k + x / 2 ^ k % 2
def zOn (x : Nat) : Nat := zOk8 x 8
theorem zOn_or : ∀ q, q < 7 → ∀ y, y < 128 → y < 2 ^ q → (zOn (y ||| 2 ^ q) = zOn y + 1 ∧ y ||| 2 ^ q < 2 ^ (q + 1)) := by decide +kernel
theorem zWh_lt (L : zL) (k : Nat) : ∀ q, q ≤ 7 → zWh L k q < 2 ^ q ∧ zOn (zWh L k q) = zCn L q k
  | 0, _ => ⟨by rw [zWh]; decide, by rw [zWh, zCn]; decide⟩
  | q + 1, hq => by
    obtain ⟨h1, h2⟩ := zWh_lt L k q (by omega)
    have h3 : 2 ^ q ≤ 2 ^ 6 := Nat.pow_le_pow_right (by decide) (by omega)
    have h4 := zOn_or q (by omega) (zWh L k q) (by omega) h1
    rw [zWh, zCn]
    by_cases hc : lA L q = k
    · rw [if_pos hc, if_pos hc, h4.1, h2]
      exact ⟨h4.2, rfl⟩
    · rw [if_neg hc, if_neg hc, Nat.or_zero, h2]
      exact ⟨Nat.lt_of_lt_of_le h1 (Nat.pow_le_pow_right (by decide) (by omega)), rfl⟩
theorem zTh_lt (L : zL) : ∀ q, zTh L q < 2 ^ q
  | 0 => by rw [zTh]; decide
  | q + 1 => by
    rw [zTh]
    apply Nat.or_lt_two_pow
    · exact Nat.lt_of_lt_of_le (zTh_lt L q) (Nat.pow_le_pow_right (by decide) (by omega))
    · split
      · exact Nat.pow_lt_pow_right (by decide) (by omega)
      · exact Nat.two_pow_pos _
theorem zCn_up (L : zL) (q : Nat) : zup (zCn L q) (lA L q) (zCn L q (lA L q) + 1) = zCn L (q + 1) := by
  funext k
  unfold zup
  rw [zCn]
  by_cases h : k = lA L q
  · subst h; rw [if_pos rfl, if_pos rfl]
  · rw [if_neg h, if_neg (fun e => h e.symm)]; rfl
theorem zCn_le (L : zL) (k : Nat) : ∀ q, zCn L q k ≤ q
  | 0 => Nat.le_refl _
  | q + 1 => by
    have := zCn_le L k q
    rw [zCn]
    split <;> omega
theorem zCn_mono (L : zL) (k : Nat) {a : Nat} : ∀ d, zCn L a k ≤ zCn L (a + d) k
  | 0 => Nat.le_refl _
  | d + 1 => Nat.le_trans (zCn_mono L k d) (by show _ ≤ zCn L (a + d) k + _; omega)
theorem zCn_pos (L : zL) {q n : Nat} (h : q < n) : 1 ≤ zCn L n (lA L q) := by
  have h1 : zCn L (q + 1) (lA L q) = zCn L q (lA L q) + 1 := by rw [zCn, if_pos rfl]
  have h2 := zCn_mono L (lA L q) (a := q + 1) (n - (q + 1))
  rw [show q + 1 + (n - (q + 1)) = n by omega] at h2
  omega
theorem zHk_le {k f t o : Nat} (hf : f ≤ 60) (ho : o ≤ 6) : zHk k f t o ≤ 100 := by
  unfold zHk
  repeat' split
  all_goals omega
theorem zHo_le {L : zL} (hw : zWf L) (but k : Nat) : ∀ q, q ≤ lP L → zHo L but q k ≤ 100 * q
  | 0, _ => by simp [zHo]
  | q + 1, hq => by
    have ih := zHo_le hw but k q (by omega)
    obtain ⟨w1, w2, w3, w4, w5⟩ := hw
    have h1 := w5 q (by omega)
    have h2 := zCn_le L (lA L q) (lP L)
    have h3 := zHk_le (k := lK L q) (t := lT L q) (o := zCn L (lP L) (lA L q) - 1) h1.2.2.2.1 (by omega)
    rw [zHo]
    unfold zHp
    split <;> omega
theorem zHs_le {L : zL} (hw : zWf L) (but k : Nat) : zHs L but k ≤ 600 := by
  have h1 := zHo_le hw but k (lP L) (Nat.le_refl _)
  have := hw.2.2.1
  unfold zHs
  omega
theorem zHo_up {L : zL} {but q : Nat} (hb : but.testBit q = false) : zup (zHo L but q) (lA L q) (zHo L but q (lA L q) + zHp L q) = zHo L but (q + 1) := by
  funext k
  unfold zup
  rw [zHo]
  by_cases h : k = lA L q
  · subst h; rw [if_pos rfl, if_pos ⟨rfl, hb⟩]
  · rw [if_neg h, if_neg (fun e => h e.1.symm)]; rfl
theorem zHo_no {L : zL} {but q : Nat} (hb : but.testBit q = true) : zHo L but q = zHo L but (q + 1) := by
  funext k
  rw [zHo, if_neg (fun e => by rw [hb] at e; exact absurd e.2 (by decide))]
  rfl
/-- the class's way to the tram -/
def zMc (L : zL) (but : Nat) : Nat → Nat
  | 0 => (if lB L < 1 then 1 else lB L) - 1
  | k + 1 => if zMc L but k < zHs L but k then zHs L but k else zMc L but k
def zBc (L : zL) (but : Nat) : Nat → Option Nat
  | 0 => none
  | k + 1 => if zMc L but k < zHs L but k then some k else zBc L but k
theorem zMc_Mx (L : zL) (but : Nat) : ∀ k, zMc L but k = max ((if lB L < 1 then 1 else lB L) - 1) (zMx L but k) ∧ (zBc L but k = if (if lB L < 1 then 1 else lB L) ≤ zMx L but k then zBs L but k else none)
  | 0 => by
    constructor
    · simp [zMc, zMx]
    · rw [zBc, zMx, if_neg]
      split <;> omega
  | k + 1 => by
    obtain ⟨h1, h2⟩ := zMc_Mx L but k
    have hm : 1 ≤ (if lB L < 1 then 1 else lB L) := by split <;> omega
    rw [zMc, zBc, zMx, zBs, h1, h2]
    generalize (if lB L < 1 then 1 else lB L) = m at hm ⊢
    by_cases ha : zMx L but k < zHs L but k
    · rw [if_pos ha, if_pos ha]
      by_cases hb : m ≤ zHs L but k
      · rw [if_pos (by omega), if_pos (by omega), if_pos hb]
        exact ⟨by omega, rfl⟩
      · rw [if_neg (by omega), if_neg (by omega), if_neg (by omega), if_neg hb]
        exact ⟨by omega, rfl⟩
    · rw [if_neg ha, if_neg ha, if_neg (by omega), if_neg (by omega)]
      exact ⟨rfl, rfl⟩
theorem zBc_Tr (L : zL) (but : Nat) : zBc L but (lS L) = zTr L but := by
  rw [(zMc_Mx L but (lS L)).2]
  unfold zTr
  by_cases h : lB L < 1
  · rw [if_pos h]
    by_cases h2 : 1 ≤ zMx L but (lS L)
    · rw [if_pos h2, if_pos ⟨by omega, by omega⟩]
    · rw [if_neg h2, if_neg (by omega)]
  · rw [if_neg h]
    by_cases h2 : lB L ≤ zMx L but (lS L)
    · rw [if_pos h2, if_pos ⟨by omega, h2⟩]
    · rw [if_neg h2, if_neg (by omega)]
theorem zMc_le {L : zL} (hw : zWf L) (but : Nat) : ∀ k, zMc L but k ≤ 600
  | 0 => by
    have := hw.2.1
    rw [zMc]
    split <;> omega
  | k + 1 => by
    have := zMc_le hw but k
    have := zHs_le hw but k
    rw [zMc]
    split <;> omega
/-- where, as the class tells it: -1 nowhere -/
def tI : Option Nat → Int32
  | none => -1
  | some k => nI k
theorem zBs_lt (L : zL) (but : Nat) : ∀ k j, zBs L but k = some j → j < k
  | 0, j, h => by cases h
  | k + 1, j, h => by
    rw [zBs] at h
    split at h
    · cases h; omega
    · have := zBs_lt L but k j h; omega
theorem zTr_lt {L : zL} {but j : Nat} (h : zTr L but = some j) : j < lS L := by
  unfold zTr at h
  split at h
  · exact zBs_lt L but _ j h
  · cases h
