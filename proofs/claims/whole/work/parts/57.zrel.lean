/-! what ties the class to the reference -/
theorem zEq.refl (L : zL) : zEq L L := ⟨rfl, fun _ _ => ⟨rfl, rfl, rfl, rfl, rfl⟩⟩
theorem zEq.trans {L M N : zL} (h : zEq L M) (g : zEq M N) : zEq L N := ⟨h.1.trans g.1, fun q hq => by
  have h2 := h.2 q hq
  have g2 := g.2 q (by rw [← h.n.2.2.1]; exact hq)
  exact ⟨h2.1.trans g2.1, h2.2.1.trans g2.2.1, h2.2.2.1.trans g2.2.2.1, h2.2.2.2.1.trans g2.2.2.2.1, h2.2.2.2.2.trans g2.2.2.2.2⟩⟩
def zGd (L : zL) : Prop := zWf L ∧ lM L ≤ 999 ∧ ∀ q, q < lP L → lF L q ≤ 20
theorem zGd_eq {L M : zL} (h : zEq L M) (g : zGd L) : zGd M := by
  obtain ⟨e1, e2, e3, e4⟩ := h.n
  refine ⟨zEq_Wf h g.1, by rw [← e4]; exact g.2.1, fun q hq => ?_⟩
  rw [← (h.2 q (by omega)).2.2.1]
  exact g.2.2 q (by omega)
/-- the kept lines -/
def zPst (L : zL) (y : zPy) (ps : Nat → Nat) : Prop := ∀ k, k < y.1 → zGd (zPl L y k) ∧ ∃ N, (∀ j, j < 34 → ps (34 * k + j) = fl N j) ∧ zEq (zPl L y k) N
def zImr (i : zLk × zLk) (im : Nat → Nat) (ke : Nat → Int32) : Prop := ∀ k, k < 2 → (ke k = 0 ∧ lS (zIm i k) = 0) ∨ (¬ ke k = 0 ∧ 0 < lS (zIm i k) ∧ zGd (zIm i k) ∧ ∃ N, (∀ j, j < 34 → im (34 * k + j) = fl N j) ∧ zEq (zIm i k) N)
def zInv (R : zRw) (mn : Nat → Nat) (t1 : Nat) (t4 : Nat → Nat) (L M : zL) (y : zPy) (a : zAs) (ps : Nat → Nat) (i : zLk × zLk) (im : Nat → Nat) (ke : Nat → Int32) : Prop :=
  (zRok R.2.1 ∧ (∀ j, R.1 j ≤ 2) ∧ zMn R.2.1 mn) ∧ (t1 ≤ 100 ∧ ∀ j, t4 j ≤ 255) ∧ (zGd L ∧ zEq L M) ∧ zYok y ∧ a.2.2.2.1 ≤ 16 ∧ zPst L y ps ∧ zImr i im ke
def zRel (u v : List zE) : Prop := ∃ (R : zRw) (t1 t2 t3 : Nat) (t4 : Nat → Nat) (t5 t6 : Nat) (L : zL) (cr ho : Nat → Nat) (P : zL) (pr po : Nat → Nat) (i : zLk × zLk) (y : zPy) (a : zAs) (f1 f2 : Nat) (mn : Nat → Nat) (sp : Nat → Int32) (fp : Int32) (ca cs ct : Nat) (cv : Int32) (M : zL) (dr tr ps im : Nat → Nat) (ke : Nat → Int32),
  u = hC (R, (t1, t2, t3, t4, t5, t6), (L, cr, ho), (P, pr, po), i, y, a, (f1, f2)) ∧ v = hMr (mLa R.1 R.2.1) mn (mIt R.2.2) sp f2 (t4, t1, f1, fp, ca, cs, ct, cv) M dr tr (ps, y.1, im, ke) (a.2.2.2.2, a.2.2.2.1) ∧ zInv R mn t1 t4 L M y a ps i im ke
theorem zRel_mk {R : zRw} {t1 t2 t3 : Nat} {t4 : Nat → Nat} {t5 t6 : Nat} {L : zL} {cr ho : Nat → Nat} {p : zLk} {i : zLk × zLk} {y : zPy} {a : zAs} {f1 f2 : Nat} {mn : Nat → Nat} {sp : Nat → Int32} {fp : Int32} {ca cs ct : Nat} {cv : Int32} {M : zL} {dr tr ps im : Nat → Nat} {ke : Nat → Int32} (h : zInv R mn t1 t4 L M y a ps i im ke) :
    zRel (hC (R, (t1, t2, t3, t4, t5, t6), (L, cr, ho), p, i, y, a, (f1, f2))) (hMr (mLa R.1 R.2.1) mn (mIt R.2.2) sp f2 (t4, t1, f1, fp, ca, cs, ct, cv) M dr tr (ps, y.1, im, ke) (a.2.2.2.2, a.2.2.2.1)) :=
  ⟨R, t1, t2, t3, t4, t5, t6, L, cr, ho, p.1, p.2.1, p.2.2, i, y, a, f1, f2, mn, sp, fp, ca, cs, ct, cv, M, dr, tr, ps, im, ke, rfl, rfl, h⟩
/-- one call of both: alike, and tied again -/
def zStep (Mc Mm : zM) (av : List Value) (u v : List zE) : Prop := ∃ (nc nm : Nat) (Qc Qm : Int32 → List zE → Prop), nc ≤ 9 ∧ nm ≤ 9 ∧ zMi Mc nc (.ref 0 :: av) u Qc ∧ zMi Mm nm (.ref 0 :: av) v Qm ∧ ∀ z u' z' v', Qc z u' → Qm z' v' → z = z' ∧ zRel u' v'
/-! the other answers of two lines alike -/
theorem zCa_eq {L M : zL} (h : zEq L M) {k m q : Nat} (hq : q < lP L) : zCa L k m q ↔ zCa M k m q := by
  have h2 := h.2 q hq
  unfold zCa
  rw [h2.2.1, h2.2.2.1, zTr_eq (lsF_eq h q _)]
theorem zCk_eq {L M : zL} (h : zEq L M) (k m : Nat) : zCk L k m ↔ zCk M k m := by
  unfold zCk
  rw [zFb_eq (lP L) (fun q hq => zCa_eq h hq), h.n.2.2.1]
theorem aCall_eq {L M : zL} (h : zEq L M) (v w : Int32) : aCall L v w = aCall M v w := by
  unfold aCall
  refine zII_c (by rw [h.n.1]) (fun _ => ?_) rfl
  unfold zCl
  rw [zFs_eq (zCk_eq h _)]
  cases zFs (zCk M (zNat v)) 0 40 with
  | none => rfl
  | some m =>
    show (if _ then _ else tN (zFb (zCa L (zNat v) m) (lP L))) = _
    rw [zFb_eq (lP L) (fun q hq => zCa_eq h hq), h.n.2.2.1]
theorem zGz_eq {L M : zL} (h : zEq L M) {q : Nat} (hq : q < lP L) (k : Nat) : zGz L q k = zGz M q k := by
  have h2 := h.2 q hq
  unfold zGz
  rw [h2.2.2.2.1, h2.2.1]
  by_cases hc : k = lW M q
  · rw [if_pos hc, if_pos hc]
  · rw [if_neg hc, if_neg hc]
    by_cases hd : k = lA M q
    · rw [if_pos hd, if_pos hd, zFs_eq (zAl_eq h 0 _)]
    · rw [if_neg hd, if_neg hd, zFs_eq (zAl_eq (lsT_eq (lsA_eq h q k) q 0) 0 _)]
theorem zGo_eq {L M : zL} (h : zEq L M) {q : Nat} (hq : q < lP L) : ∀ k, zGo L q k = zGo M q k
  | 0 => rfl
  | k + 1 => by
    have i1 := zGo_eq h hq k
    have e := zGz_eq h hq k
    cases hz : zGz M q k with
    | none => rw [zGo_n (e.trans hz), zGo_n hz, i1]
    | some d =>
      by_cases hl : zLess d (zGo M q k).2
      · rw [zGo_t (e.trans hz) (by rw [i1]; exact hl), zGo_t hz hl]
      · rw [zGo_f (e.trans hz) (by rw [i1]; exact hl), zGo_f hz hl, i1]
theorem aGo_eq {L M : zL} (h : zEq L M) (hw : zWf L) (v w : Int32) : aGo L v w = aGo M v w := by
  unfold aGo
  refine zII_c (by rw [h.n.2.2.1]) (fun c => ?_) rfl
  rw [zGo_eq h (inP_nat c.1 (by have := hw.2.2.1; omega)), h.n.1]
theorem zWa_eq {L M : zL} (h : zEq L M) (m d s : Nat) : zWa L m d s ↔ zWa M m d s := by
  unfold zWa
  rw [zFs_eq (zAl_eq h s _), h.n.2.2.1]
theorem zWk_eq {L M : zL} (h : zEq L M) (d m : Nat) : zWk L d m ↔ zWk M d m := by
  unfold zWk
  rw [zFb_eq _ (fun s _ => zWa_eq h m d s), h.n.2.2.1]
theorem aWalk_eq {L M : zL} (h : zEq L M) (v w : Int32) : aWalk L v w = aWalk M v w := by
  unfold aWalk
  rw [h.n.1]
  refine zII_c Iff.rfl (fun _ => zII_c Iff.rfl (fun _ => ?_) rfl) rfl
  unfold zWl
  rw [zFs_eq (zWk_eq h _), h.n.2.2.1]
  cases zFs (zWk M (zNat v)) 0 (lP M) with
  | none => rfl
  | some m =>
    show (if _ then _ else tN (zFb (zWa L m (zNat v)) (2 ^ lP M))) = _
    rw [zFb_eq _ (fun s _ => zWa_eq h m _ s)]
theorem zIG_c {α : Type} {c d : Prop} {a b a' b' : α} (h : c ↔ d) (h1 : c → a = a') (h2 : b = b') : zIG c a b = zIG d a' b' := by
  by_cases hc : c
  · rw [zIG_t hc, zIG_t (h.mp hc), h1 hc]
  · rw [zIG_f hc, zIG_f (fun z => hc (h.mpr z)), h2]
theorem zFts_eq {L M : zL} (h : zEq L M) (g : Nat → Int32) (q n : Nat) (w : Int32) : zFts L g q n w = zFts M g q n w := by
  unfold zFts
  rw [zBi_eq 21 (fun v _ => zTo_eq (lsF_eq h q v) g n), zBi_eq 6 (fun v _ => and_congr Iff.rfl (zTo_eq (lsK_eq h q v) g n))]
theorem aFits_eq {L M : zL} (h : zEq L M) (R : zRw) (s : Nat) (v rw i n w : Int32) : aFits R L s v rw i n w = aFits R M s v rw i n w := by
  unfold aFits
  rw [h.n.2.2.1, zFts_eq h]
theorem aBnds_eq {L M : zL} (h : zEq L M) (R : zRw) (s : Nat) (rw i n : Int32) : aBnds R L s rw i n = aBnds R M s rw i n := by
  unfold aBnds
  rw [h.n.1, zBi_eq 30 (fun v _ => zTo_eq (lsB_eq h v) _ _)]
theorem zRa_eq {L M : zL} (h : zEq L M) (k c : Nat) : ∀ s, zRa L k c s = zRa M k c s
  | 0 => rfl
  | s + 1 => by rw [zRa, zRa, zRa_eq h k c s, zTr_eq h, h.n.2.2.1]
theorem aRain_eq {L M : zL} (h : zEq L M) (v c w : Int32) : aRain L v c w = aRain M v c w := by
  unfold aRain
  rw [h.n.1, h.n.2.2.1, zRa_eq h]
theorem zPd_eq {L M : zL} (h : zEq L M) (X : Nat) : zEq (zPd L X) (zPd M X) := by
  unfold zPd
  rw [h.n.2.2.1]
  split
  · exact lsF_eq h _ _
  · exact h
theorem zDl_eq {L M : zL} (h : zEq L M) (s : Nat) : ∀ k, zEq (zDl L s k) (zDl M s k)
  | 0 => h
  | k + 1 => zPs_eq (zPd_eq (zDl_eq h s k) _) 0
theorem zDc_eq {L M : zL} (h : zEq L M) (s : Nat) : ∀ k, zDc L s k = zDc M s k
  | 0 => rfl
  | k + 1 => by rw [zDc, zDc, zDc_eq h s k, zTr_eq (zPd_eq (zDl_eq h s k) _)]
theorem aDrwn_eq {L M : zL} (h : zEq L M) (v s w : Int32) : aDrwn L v s w = aDrwn M v s w := by
  unfold aDrwn
  rw [h.n.1, zDc_eq h, zTh_eq (zDl_eq h _ _) _ (by rw [(zDl_P L _ _).1]; exact Nat.le_refl _), h.n.2.2.1]
theorem aMin_eq {L M : zL} (h : zEq L M) (v : Int32) : aMin L v = aMin M v := by
  unfold aMin
  rw [h.n.1, h.n.2.2.2, zTh_eq (zIt_eq h 0 _) _ (by rw [(zIt_P L 0 _).1]; exact Nat.le_refl _), h.n.2.2.1]
theorem aAs_eq {L M : zL} (h : zEq L M) (hw : zWf L) (s : Nat) (v w : Int32) : aAs L s v w = aAs M s v w := by
  unfold aAs
  refine zIG_c (by rw [h.n.2.2.1]) (fun c => ?_) rfl
  rw [(h.2 _ (inP_nat c.1 (by have := hw.2.2.1; omega))).1]
theorem aAsk_eq {L M : zL} (h : zEq L M) (hw : zWf L) (v w : Int32) : aAsk L v w = aAsk M v w := by
  unfold aAsk
  refine zII_c (by rw [h.n.2.2.1]) (fun c => ?_) rfl
  have h2 := h.2 _ (inP_nat c.1 (by have := hw.2.2.1; omega))
  rw [h2.1, h2.2.2.1, h2.2.2.2.2]
theorem aBod_eq {L M : zL} (h : zEq L M) (hw : zWf L) (v w : Int32) : aBod L v w = aBod M v w := by
  unfold aBod
  refine zIG_c (by rw [h.n.2.2.1]) (fun c => ?_) rfl
  rw [(h.2 _ (inP_nat c.1 (by have := hw.2.2.1; omega))).1]
theorem aCnt_eq {L M : zL} (h : zEq L M) (sz : Nat → Option Nat) (n m : Nat) (w : Int32) : aCnt sz L n m w = aCnt sz M n m w := by
  unfold aCnt
  rw [h.n.1, h.n.2.1, h.n.2.2.2, zTh_eq h _ (Nat.le_refl _), h.n.2.2.1]
/-- acts: answers alike, lines alike -/
def zOe (a b : Int32 × Option zL) : Prop := a.1 = b.1 ∧ ((a.2 = none ∧ b.2 = none) ∨ ∃ L M, a.2 = some L ∧ b.2 = some M ∧ zEq L M)
theorem aWlk_eq {L M : zL} (h : zEq L M) (hw : zWf L) (v w : Int32) : zOe (aWlk L v w) (aWlk M v w) := by
  unfold aWlk
  by_cases c : inP (lP L) v ∧ inR 0 1 w
  · have e : zNx L v w = zNx M v w := by unfold zNx; rw [(h.2 _ (inP_nat c.1 (by have := hw.2.2.1; omega))).2.1]
    have c2 : inP (lP M) v ∧ inR 0 1 w := by rw [← h.n.2.2.1]; exact c
    rw [zIG_t c, zIG_t c2, e, h.n.1]
    by_cases d : inP (lS M) (zNx M v w)
    · rw [zIG_t d, zIG_t d]; exact ⟨rfl, Or.inr ⟨_, _, rfl, rfl, lsT_eq (lsA_eq h _ _) _ 0⟩⟩
    · rw [zIG_f d, zIG_f d]; exact ⟨rfl, Or.inl ⟨rfl, rfl⟩⟩
  · rw [zIG_f c, zIG_f (by rw [← h.n.2.2.1]; exact c)]; exact ⟨rfl, Or.inl ⟨rfl, rfl⟩⟩
theorem aPre_eq {L M : zL} (h : zEq L M) (hw : zWf L) (v w : Int32) : zOe (aPre L v w) (aPre M v w) := by
  unfold aPre
  by_cases c : inP (lP L) v ∧ inR 0 20 w
  · rw [zIG_t c, zIG_t (by rw [← h.n.2.2.1]; exact c), (h.2 _ (inP_nat c.1 (by have := hw.2.2.1; omega))).2.2.1]
    exact ⟨rfl, Or.inr ⟨_, _, rfl, rfl, lsF_eq h _ _⟩⟩
  · rw [zIG_f c, zIG_f (by rw [← h.n.2.2.1]; exact c)]; exact ⟨rfl, Or.inl ⟨rfl, rfl⟩⟩
theorem aWsh_eq {L M : zL} (h : zEq L M) (hw : zWf L) (v w : Int32) : zOe (aWsh L v w) (aWsh M v w) := by
  unfold aWsh
  by_cases c : inP (lP L) v ∧ inP (lS L) w
  · rw [zIG_t c, zIG_t (by rw [← h.n.2.2.1, ← h.n.1]; exact c), (h.2 _ (inP_nat c.1 (by have := hw.2.2.1; omega))).2.2.2.1]
    exact ⟨rfl, Or.inr ⟨_, _, rfl, rfl, lsW_eq h _ _⟩⟩
  · rw [zIG_f c, zIG_f (by rw [← h.n.2.2.1, ← h.n.1]; exact c)]; exact ⟨rfl, Or.inl ⟨rfl, rfl⟩⟩
/-- an act keeps the law and the kinds, and is good -/
def zSm (L M : zL) : Prop := lS L = lS M ∧ lB L = lB M ∧ lP L = lP M ∧ lK L = lK M
theorem aWlk_gd {L : zL} (g : zGd L) (v w : Int32) {M : zL} (h : (aWlk L v w).2 = some M) : zGd M ∧ zSm L M := by
  unfold aWlk at h
  by_cases c : inP (lP L) v ∧ inR 0 1 w
  · rw [zIG_t c] at h
    by_cases d : inP (lS L) (zNx L v w)
    · rw [zIG_t d] at h
      cases h
      exact ⟨⟨zWf_mv g.1 (inP_nat d (by have := g.1.1; omega)), g.2.1, g.2.2⟩, rfl, rfl, rfl, rfl⟩
    · rw [zIG_f d] at h; cases h
  · rw [zIG_f c] at h; cases h
theorem aPre_gd {L : zL} (g : zGd L) (v w : Int32) {M : zL} (h : (aPre L v w).2 = some M) : zGd M ∧ zSm L M := by
  unfold aPre at h
  by_cases c : inP (lP L) v ∧ inR 0 20 w
  · rw [zIG_t c] at h
    cases h
    obtain ⟨k, -, hk, rfl⟩ := c.2
    rw [zNat_nI (by omega)]
    refine ⟨⟨zWf_F g.1 (by omega), g.2.1, fun q hq => ?_⟩, rfl, rfl, rfl, rfl⟩
    show zup (lF L) _ k q ≤ 20
    unfold zup
    split
    · exact hk
    · exact g.2.2 q hq
  · rw [zIG_f c] at h; cases h
theorem aWsh_gd {L : zL} (g : zGd L) (v w : Int32) {M : zL} (h : (aWsh L v w).2 = some M) : zGd M ∧ zSm L M := by
  unfold aWsh at h
  by_cases c : inP (lP L) v ∧ inP (lS L) w
  · rw [zIG_t c] at h
    cases h
    have hs := inP_nat c.2 (by have := g.1.1; omega)
    obtain ⟨w1, w2, w3, w4, w5⟩ := g.1
    refine ⟨⟨⟨w1, w2, w3, w4, fun q hq => ?_⟩, g.2.1, g.2.2⟩, rfl, rfl, rfl, rfl⟩
    have w6 := w5 q hq
    refine ⟨w6.1, w6.2.1, w6.2.2.1, w6.2.2.2.1, ?_, w6.2.2.2.2.2⟩
    show zup (lW L) _ _ q < lS L
    unfold zup
    split
    · exact hs
    · exact w6.2.2.2.2.1
  · rw [zIG_f c] at h; cases h
/-! the past, kept on -/
theorem zPl_sm {L M : zL} (h : zSm L M) (y : zPy) (k : Nat) : zPl L y k = zPl M y k := by
  unfold zPl
  rw [h.1, h.2.1, h.2.2.1, h.2.2.2]
theorem zPst_sm {L M : zL} {y : zPy} {ps : Nat → Nat} (h : zSm L M) (g : zPst L y ps) : zPst M y ps := fun k hk => by
  rw [← zPl_sm h]; exact g k hk
theorem zKg_o {b : Nat} {L : zL} {pg : Nat → Nat} {x : Nat} (h : x < b ∨ b + 25 ≤ x) : zKg b L pg x = pg x := by
  unfold zKg
  rcases h with h | h
  · rw [if_pos h]
  · rw [if_neg (by omega), if_neg (by omega), if_neg (by omega), if_neg (by omega), if_neg (by omega), if_neg (by omega)]
/-- by how much the places move -/
def zKd9 (n : Nat) : Nat := if n = 24 then 1 else 0
theorem zPl_k {L : zL} {y : zPy} (hL : zWf L) (hy : zYok y) {k : Nat} (hk : k < (zKo y.1 y.2.1).1) : zEq (zPl L (zKp y L) k) (zPl L y (k + zKd9 y.1)) := by
  have w3 := hL.2.2.1
  have ho := zKo_ok hy.1 hy.2
  have y1 := hy.1
  have y2 := hy.2
  have eb : ((zKo y.1 y.2.1).2 + k) % 24 = (y.2.1 + (k + zKd9 y.1)) % 24 := by
    unfold zKd9
    by_cases h : y.1 = 24
    · rw [zKo_b h, if_pos h]; show ((y.2.1 + 1) % 24 + k) % 24 = _; omega
    · rw [zKo_a h, if_neg h]; rfl
  have hb : ((zKo y.1 y.2.1).2 + k) % 24 * 25 + 25 ≤ ((zKo y.1 y.2.1).2 + (zKo y.1 y.2.1).1) % 24 * 25 ∨ ((zKo y.1 y.2.1).2 + (zKo y.1 y.2.1).1) % 24 * 25 + 25 ≤ ((zKo y.1 y.2.1).2 + k) % 24 * 25 := by
    generalize (zKo y.1 y.2.1).2 = o2 at ho ⊢
    generalize (zKo y.1 y.2.1).1 = k2 at ho hk ⊢
    omega
  have e : ∀ x, x < 25 → (zKp y L).2.2 (((zKp y L).2.1 + k) % 24 * 25 + x) = y.2.2 ((y.2.1 + (k + zKd9 y.1)) % 24 * 25 + x) := fun x hx => by
    rw [← eb]
    exact zKg_o (by show ((zKo y.1 y.2.1).2 + k) % 24 * 25 + x < _ ∨ _ ≤ ((zKo y.1 y.2.1).2 + k) % 24 * 25 + x; omega)
  refine ⟨?_, fun q hq => ?_⟩
  · show (lS L, lB L, lP L, (zKp y L).2.2 (((zKp y L).2.1 + k) % 24 * 25)) = (lS L, lB L, lP L, y.2.2 ((y.2.1 + (k + zKd9 y.1)) % 24 * 25))
    rw [show (zKp y L).2.2 (((zKp y L).2.1 + k) % 24 * 25) = _ from e 0 (by decide)]
    rfl
  · have hq : q < lP L := hq
    refine ⟨rfl, ?_, ?_, ?_, ?_⟩
    · show (zKp y L).2.2 (((zKp y L).2.1 + k) % 24 * 25 + 1 + q) = y.2.2 ((y.2.1 + (k + zKd9 y.1)) % 24 * 25 + 1 + q)
      rw [show ((zKp y L).2.1 + k) % 24 * 25 + 1 + q = ((zKp y L).2.1 + k) % 24 * 25 + (1 + q) by omega, show (y.2.1 + (k + zKd9 y.1)) % 24 * 25 + 1 + q = (y.2.1 + (k + zKd9 y.1)) % 24 * 25 + (1 + q) by omega]; exact e (1 + q) (by omega)
    · show (zKp y L).2.2 (((zKp y L).2.1 + k) % 24 * 25 + 1 + 6 + q) = y.2.2 ((y.2.1 + (k + zKd9 y.1)) % 24 * 25 + 1 + 6 + q)
      rw [show ((zKp y L).2.1 + k) % 24 * 25 + 1 + 6 + q = ((zKp y L).2.1 + k) % 24 * 25 + (7 + q) by omega, show (y.2.1 + (k + zKd9 y.1)) % 24 * 25 + 1 + 6 + q = (y.2.1 + (k + zKd9 y.1)) % 24 * 25 + (7 + q) by omega]; exact e (7 + q) (by omega)
    · show (zKp y L).2.2 (((zKp y L).2.1 + k) % 24 * 25 + 1 + 12 + q) = y.2.2 ((y.2.1 + (k + zKd9 y.1)) % 24 * 25 + 1 + 12 + q)
      rw [show ((zKp y L).2.1 + k) % 24 * 25 + 1 + 12 + q = ((zKp y L).2.1 + k) % 24 * 25 + (13 + q) by omega, show (y.2.1 + (k + zKd9 y.1)) % 24 * 25 + 1 + 12 + q = (y.2.1 + (k + zKd9 y.1)) % 24 * 25 + (13 + q) by omega]; exact e (13 + q) (by omega)
    · show (zKp y L).2.2 (((zKp y L).2.1 + k) % 24 * 25 + 1 + 18 + q) = y.2.2 ((y.2.1 + (k + zKd9 y.1)) % 24 * 25 + 1 + 18 + q)
      rw [show ((zKp y L).2.1 + k) % 24 * 25 + 1 + 18 + q = ((zKp y L).2.1 + k) % 24 * 25 + (19 + q) by omega, show (y.2.1 + (k + zKd9 y.1)) % 24 * 25 + 1 + 18 + q = (y.2.1 + (k + zKd9 y.1)) % 24 * 25 + (19 + q) by omega]; exact e (19 + q) (by omega)
theorem zKg_b {b : Nat} {L : zL} {pg : Nat → Nat} : zKg b L pg b = lM L := by
  unfold zKg
  rw [if_neg (by omega), if_pos rfl]
theorem zKg_A {b : Nat} {L : zL} {pg : Nat → Nat} {q : Nat} (hq : q < 6) : zKg b L pg (b + 1 + q) = lA L q := by
  unfold zKg
  rw [if_neg (by omega), if_neg (by omega), if_pos (by omega)]
  congr 1; omega
theorem zKg_F {b : Nat} {L : zL} {pg : Nat → Nat} {q : Nat} (hq : q < 6) : zKg b L pg (b + 1 + 6 + q) = lF L q := by
  unfold zKg
  rw [if_neg (by omega), if_neg (by omega), if_neg (by omega), if_pos (by omega)]
  congr 1; omega
theorem zKg_W {b : Nat} {L : zL} {pg : Nat → Nat} {q : Nat} (hq : q < 6) : zKg b L pg (b + 1 + 12 + q) = lW L q := by
  unfold zKg
  rw [if_neg (by omega), if_neg (by omega), if_neg (by omega), if_neg (by omega), if_pos (by omega)]
  congr 1; omega
theorem zKg_T {b : Nat} {L : zL} {pg : Nat → Nat} {q : Nat} (hq : q < 6) : zKg b L pg (b + 1 + 18 + q) = lT L q := by
  unfold zKg
  rw [if_neg (by omega), if_neg (by omega), if_neg (by omega), if_neg (by omega), if_neg (by omega), if_pos (by omega)]
  congr 1; omega
theorem zPl_l {L : zL} {y : zPy} (hL : zWf L) : zEq (zPl L (zKp y L) (zKo y.1 y.2.1).1) L := by
  have w3 := hL.2.2.1
  refine ⟨?_, fun q hq => ?_⟩
  · show (lS L, lB L, lP L, zKg _ L y.2.2 _) = L.1
    rw [show zKg (((zKo y.1 y.2.1).2 + (zKo y.1 y.2.1).1) % 24 * 25) L y.2.2 (((zKp y L).2.1 + (zKo y.1 y.2.1).1) % 24 * 25) = lM L from zKg_b]
    rfl
  · have hq : q < lP L := hq
    exact ⟨rfl, zKg_A (by omega), zKg_F (by omega), zKg_W (by omega), zKg_T (by omega)⟩
theorem zNq_1 (ps : Nat → Nat) (n o : Nat) : (zNq ps n).1 = (zKo n o).1 := by
  by_cases h : n = 24
  · rw [zNq_b h, zKo_b h]
  · rw [zNq_a h, zKo_a h]
theorem zNt_n (ps : Nat → Nat) (y : zPy) (L M : zL) : (zKp y L).1 = (zNt ps y.1 M).2 := by
  show (zKo y.1 y.2.1).1 + 1 = (zNq ps y.1).1 + 1
  rw [zNq_1 ps y.1 y.2.1]
theorem zNt_at {ps : Nat → Nat} {n o : Nat} {M : zL} {k j : Nat} (hn : n ≤ 24) (hk : k < (zKo n o).1) (hj : j < 34) : (zNt ps n M).1 (34 * k + j) = ps (34 * (k + zKd9 n) + j) := by
  show zSg (zNq ps n).2 (34 * (zNq ps n).1) M (34 * k + j) = _
  rw [zNq_1 ps n o]
  unfold zSg
  rw [if_neg (by omega)]
  unfold zKd9
  by_cases h : n = 24
  · rw [zNq_b h, if_pos h]
    rw [zKo_b h] at hk
    have hk : k < 23 := hk
    show (if 34 * k + j < 782 then ps (34 * k + j + 34) else ps (34 * k + j)) = _
    rw [if_pos (by omega)]
    congr 1
    omega
  · rw [zNq_a h, if_neg h]; rfl
theorem zNt_la {ps : Nat → Nat} {n o : Nat} {M : zL} {j : Nat} (hj : j < 34) : (zNt ps n M).1 (34 * (zKo n o).1 + j) = fl M j := by
  show zSg (zNq ps n).2 (34 * (zNq ps n).1) M (34 * (zKo n o).1 + j) = _
  rw [zNq_1 ps n o]
  unfold zSg
  rw [if_pos (by omega)]
  congr 1
  omega
theorem zPst_keep {L M : zL} {y : zPy} {ps : Nat → Nat} (hy : zYok y) (hL : zGd L) (hE : zEq L M) (g : zPst L y ps) : zPst L (zKp y L) (zNt ps y.1 M).1 := fun k hk => by
  have hk : k < (zKo y.1 y.2.1).1 + 1 := hk
  rcases (show k < (zKo y.1 y.2.1).1 ∨ k = (zKo y.1 y.2.1).1 by omega) with h | h
  · have h2 := zPl_k hL.1 hy h
    have h3 : k + zKd9 y.1 < y.1 := by
      unfold zKd9
      by_cases e : y.1 = 24
      · rw [zKo_b e] at h; rw [if_pos e]; have h : k < 23 := h; omega
      · rw [zKo_a e] at h; rw [if_neg e]; exact h
    obtain ⟨g1, N, g2, g3⟩ := g _ h3
    exact ⟨zGd_eq h2.symm g1, N, fun j hj => by rw [zNt_at hy.1 h hj]; exact g2 j hj, h2.trans g3⟩
  · subst h
    have h2 := zPl_l (y := y) hL.1
    exact ⟨zGd_eq h2.symm hL, M, fun j hj => zNt_la hj, h2.trans hE⟩
theorem zIt_sm (L : zL) (d : Nat) : zSm L (zIt L 0 d) := by
  have := zIt_P L 0 d
  exact ⟨this.2.1.symm, this.2.2.1.symm, this.1.symm, this.2.2.2.2.2.2.symm⟩
theorem zSm.symm {L M : zL} (h : zSm L M) : zSm M L := ⟨h.1.symm, h.2.1.symm, h.2.2.1.symm, h.2.2.2.symm⟩
theorem zSm.trans {L M N : zL} (h : zSm L M) (g : zSm M N) : zSm L N := ⟨h.1.trans g.1, h.2.1.trans g.2.1, h.2.2.1.trans g.2.2.1, h.2.2.2.trans g.2.2.2⟩
theorem zGd_it {L : zL} (g : zGd L) (d : Nat) (h : lM L + d ≤ 999) : zGd (zIt L 0 d) := by
  have := zIt_P L 0 d
  refine ⟨zWf_it g.1 0 d (by omega), by rw [this.2.2.2.1]; exact h, fun q hq => ?_⟩
  rw [this.2.2.2.2.2.1]
  exact g.2.2 q (by rw [← this.1]; exact hq)
theorem zPst_it {L M : zL} {y : zPy} {ps : Nat → Nat} (hy : zYok y) (hL : zGd L) (hE : zEq L M) (g : zPst L y ps) : ∀ d, lM L + d ≤ 999 → zPst (zIt L 0 d) (zKi L y d) (zNi M ps y.1 d).1 ∧ (zKi L y d).1 = (zNi M ps y.1 d).2
  | 0, _ => ⟨g, rfl⟩
  | d + 1, h => by
    obtain ⟨i1, i2⟩ := zPst_it hy hL hE g d (by omega)
    have k1 := zPst_keep (zKi_ok L hy d) (zGd_it hL d (by omega)) (zIt_eq hE 0 d) i1
    have k2 := zNt_n (zNi M ps y.1 d).1 (zKi L y d) (zIt L 0 d) (zIt M 0 d)
    rw [i2] at k1 k2
    exact ⟨zPst_sm ((zIt_sm L d).symm.trans (zIt_sm L (d + 1))) k1, k2⟩
