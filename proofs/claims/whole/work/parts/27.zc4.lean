theorem zFb_lt {c : Nat → Prop} : ∀ n j, zFb c n = some j → j < n
  | 0, j, h => by cases h
  | n + 1, j, h => by
    unfold zFb at h
    cases hz : zFb c n with
    | some k => rw [hz] at h; cases h; have := zFb_lt n _ hz; omega
    | none =>
      rw [hz] at h
      by_cases hc : c n
      · simp only [if_pos hc] at h; cases h; omega
      · simp only [if_neg hc] at h; cases h
def zCk (L : zL) (k : Nat) (m : Nat) : Prop := ¬ zFb (zCa L k m) (lP L) = none
noncomputable def zCl (L : zL) (k : Nat) (w : Int32) : Int32 := match zFs (zCk L k) 0 40 with
  | none => -1000000
  | some m => if w = nI 0 then nI m else tN (zFb (zCa L k m) (lP L))
theorem zCl_n {L : zL} {k : Nat} {w : Int32} (h : zFs (zCk L k) 0 40 = none) : zCl L k w = -1000000 := by unfold zCl; rw [h]
theorem zCl_s {L : zL} {k m : Nat} {w : Int32} (h : zFs (zCk L k) 0 40 = some m) : zCl L k w = if w = nI 0 then nI m else tN (zFb (zCa L k m) (lP L)) := by unfold zCl; rw [h]
noncomputable def aCall (L : zL) (v w : Int32) : Int32 := zII (inP (lS L) v ∧ inR 0 1 w) (zCl L (zNat v) w) (-1000001)
/-- to which stop one ought to go: which, how soon, of the first stops -/
noncomputable def zGz (L : zL) (q k : Nat) : Option Nat := if k = lW L q then none else zFs (zAl (if k = lA L q then L else lsT (lsA L q k) q 0) 0 (2 ^ q)) 0 60
def zLess (d : Nat) (s : Option Nat) : Prop := ∀ e, s = some e → d < e
noncomputable def zGo (L : zL) (q : Nat) : Nat → Option Nat × Option Nat
  | 0 => (none, none)
  | k + 1 => match zGz L q k with
    | none => zGo L q k
    | some d => @ite _ (zLess d (zGo L q k).2) (Classical.propDecidable _) (some k, some d) (zGo L q k)
theorem zGo_n {L : zL} {q k : Nat} (h : zGz L q k = none) : zGo L q (k + 1) = zGo L q k := by unfold zGo; rw [h]; cases k <;> rfl
theorem zGo_t {L : zL} {q k d : Nat} (h : zGz L q k = some d) (h2 : zLess d (zGo L q k).2) : zGo L q (k + 1) = (some k, some d) := by rw [zGo, h]; exact if_pos h2
theorem zGo_f {L : zL} {q k d : Nat} (h : zGz L q k = some d) (h2 : ¬ zLess d (zGo L q k).2) : zGo L q (k + 1) = zGo L q k := by rw [zGo, h]; exact if_neg h2
noncomputable def aGo (L : zL) (v w : Int32) : Int32 := zII (inP (lP L) v ∧ inR 0 1 w) (if w = nI 0 then tN (zGo L (zNat v) (lS L)).1 else tN (zGo L (zNat v) (lS L)).2) (-1000001)
/-- by how many walkers -/
def zWk (L : zL) (d : Nat) (m : Nat) : Prop := ¬ zFb (zWa L m d) (2 ^ lP L) = none
noncomputable def zWl (L : zL) (d : Nat) (w : Int32) : Int32 := match zFs (zWk L d) 0 (lP L) with
  | none => -1000000
  | some m => if w = nI 0 then nI m else tN (zFb (zWa L m d) (2 ^ lP L))
theorem zWl_n {L : zL} {d : Nat} {w : Int32} (h : zFs (zWk L d) 0 (lP L) = none) : zWl L d w = -1000000 := by unfold zWl; rw [h]
theorem zWl_s {L : zL} {d m : Nat} {w : Int32} (h : zFs (zWk L d) 0 (lP L) = some m) : zWl L d w = if w = nI 0 then nI m else tN (zFb (zWa L m d) (2 ^ lP L)) := by unfold zWl; rw [h]
noncomputable def aWalk (L : zL) (v w : Int32) : Int32 := zII (0 < lS L) (zII (inR 0 60 v ∧ inR 0 1 w) (zWl L (zNat v) w) (-1000001)) (-1000002)
theorem nI_ne {a b : Nat} (ha : a < 2147483648) (hb : b < 2147483648) (h : a ≠ b) : ¬ nI a = nI b := fun e => h ((nI_eq (by omega) (by omega)).mp e)
set_option maxHeartbeats 4000000 in
set_option maxRecDepth 100000 in
theorem qX11_call (r : zRw) (t : zTp) (L : zL) (cr ho : Nat → Nat) (P : zL) (pr po : Nat → Nat) (i : zLk × zLk) (y : zPy) (a : zAs) (f : Nat × Nat) (hw : zWf L) (hm : lM L ≤ 1000) (hf : ∀ q, q < lP L → lF L q ≤ 20) (v w : Int32) : zMi mX11_call 6 ([.ref 0, .int v, .int w]) (hC (r, t, (L, cr, ho), (P, pr, po), i, y, a, f)) (fun z u => z = aCall L v w ∧ hCx r t L i y a f u) := by
  refine zMi.of (by decide) (Nat.le_of_ble_eq_true rfl) (fun x hx hF => ?_)
  obtain ⟨w1, w2, w3, w4, w5⟩ := id hw
  have hloop : ∀ (zj : Nat) (zhj : zj < lS L) (ze : Nat) (zhe : ze ≤ 1) (hF : zFi x (hC (r, t, (L, cr, ho), (P, pr, po), i, y, a, f)).length fun z u => z = aCall L (nI zj) (nI ze) ∧ hCx r t L i y a f u) (n33 m : Nat) (pr po : Nat → Nat), 41 - m = n33 → m ≤ 41 → (m ≤ 40 → zFs (zCk L zj) m (40 - m) = zFs (zCk L zj) 0 40) ∧ (40 < m → zFs (zCk L zj) 0 40 = none) → zV x 33 [some (.ref 0), some (.int (nI zj)), some (.int (nI ze)), some (.int (nI m)), none] [] (hC (r, t, (L, cr, ho), (L, pr, po), i, y, a, f)) := by
    intro zj zhj ze zhe hF n33
    induction n33 using Nat.strongRecOn with
    | ind n33 ih =>
      intro m pr po hn hm1 hf1
      refine z_iload_n hx dX11_call_33 rfl ?_
      refine z_bipush (v := nI 40) hx dX11_call_34 (by decide) ?_
      first | refine z_icmp_gtN (tgt := 71) hx dX11_call_36 (by decide) (by omega) (by omega) (fun zc36 => ?_) (fun zc36 => ?_) | refine z_icmp_gt (tgt := 71) hx dX11_call_36 (by decide) (fun zc36 => ?_) (fun zc36 => ?_)
      · skip
        refine z_ldc hx dX11_call_71 kX11_205 ?_
        exact z_iret hx hF dX11_call_73 rfl rfl ⟨by unfold aCall; first | (rw [zII_t ⟨⟨zj, zhj, rfl⟩, ⟨ze, Nat.zero_le _, zhe, rfl⟩⟩, zNat_nI (by omega), zCl_s hs9, if_pos (by rw [show ze = 0 by omega])]) | (rw [zII_t ⟨⟨zj, zhj, rfl⟩, ⟨ze, Nat.zero_le _, zhe, rfl⟩⟩, zNat_nI (by omega), zCl_s hs9, if_neg (nI_ne (by omega) (by omega) (by omega))]) | (rw [zII_t ⟨⟨zj, zhj, rfl⟩, ⟨ze, Nat.zero_le _, zhe, rfl⟩⟩, zNat_nI (by omega), zCl_n (hf1.2 (by omega))]) | exact zzz_open, _, _, _, rfl⟩
      · skip
        refine z_aload_n hx dX11_call_39 rfl ?_
        refine z_iload_n hx dX11_call_40 rfl ?_
        refine z_iload_n hx dX11_call_41 rfl ?_
        refine z_callivG hx (qX11_callerBy r t (L, cr, ho) i y a f L pr po hw zj m (by omega) (by omega) hf) dX11_call_42 sX11_215 hC_0 rfl rfl rfl (Nat.le_of_ble_eq_true rfl) rfl (Nat.le_of_ble_eq_true rfl) (by decide) (fun r42 u42 l42 q42 => ?_)
        obtain ⟨rfl, pr9, po9, rfl⟩ := q42
        refine z_istore hx dX11_call_45 (Nat.le_of_ble_eq_true rfl) rfl ?_
        have hnn := tN_none (x := zFb (zCa L zj m) (lP L)) (fun n9 e9 => by have := zFb_lt _ _ e9; omega)
        refine z_iload hx dX11_call_47 rfl ?_
        refine z_ldc hx dX11_call_49 kX11_205 ?_
        refine z_icmp_eq (tgt := 65) hx dX11_call_51 (by decide) (fun zc51 => ?_) (fun zc51 => ?_)
        · skip
          first | refine z_iincN (z := 1) hx dX11_call_65 rfl rfl ?_ | refine z_iinc hx dX11_call_65 rfl rfl rfl ?_
          refine z_goto (tgt := 33) hx dX11_call_68 (by decide) ?_
          exact z_kill 4 (ih _ (by omega) (m + 1) _ _ rfl (by omega) ⟨fun h9 => by rw [← hf1.1 (by omega), show 40 - m = (40 - (m + 1)) + 1 by omega, zFs_f (fun z => z (hnn.mp zc51))], fun h9 => by rw [← hf1.1 (by omega), show 40 - m = 0 by omega, zFs_0 (fun z => z (hnn.mp zc51))]⟩)
        · skip
          have hs9 : zFs (zCk L zj) 0 40 = some m := by rw [← hf1.1 (by omega)]; exact zFs_t (fun z => zc51 (hnn.mpr z))
          refine z_iload_n hx dX11_call_54 rfl ?_
          first | refine z_if_neB (tgt := 62) hx dX11_call_55 (by decide) (fun zc55 => ?_) (fun zc55 => ?_) | refine z_if_neN (tgt := 62) hx dX11_call_55 (by decide) (by omega) (fun zc55 => ?_) (fun zc55 => ?_) | refine z_if_ne (tgt := 62) hx dX11_call_55 (by decide) (fun zc55 => ?_) (fun zc55 => ?_)
          · skip
            refine z_iload hx dX11_call_62 rfl ?_
            exact z_iret hx hF dX11_call_64 rfl rfl ⟨by unfold aCall; first | (rw [zII_t ⟨⟨zj, zhj, rfl⟩, ⟨ze, Nat.zero_le _, zhe, rfl⟩⟩, zNat_nI (by omega), zCl_s hs9, if_pos (by rw [show ze = 0 by omega])]) | (rw [zII_t ⟨⟨zj, zhj, rfl⟩, ⟨ze, Nat.zero_le _, zhe, rfl⟩⟩, zNat_nI (by omega), zCl_s hs9, if_neg (nI_ne (by omega) (by omega) (by omega))]) | (rw [zII_t ⟨⟨zj, zhj, rfl⟩, ⟨ze, Nat.zero_le _, zhe, rfl⟩⟩, zNat_nI (by omega), zCl_n (hf1.2 (by omega))]) | exact zzz_open, _, _, _, rfl⟩
          · skip
            refine z_iload_n hx dX11_call_58 rfl ?_
            refine z_goto (tgt := 64) hx dX11_call_59 (by decide) ?_
            exact z_iret hx hF dX11_call_64 rfl rfl ⟨by unfold aCall; first | (rw [zII_t ⟨⟨zj, zhj, rfl⟩, ⟨ze, Nat.zero_le _, zhe, rfl⟩⟩, zNat_nI (by omega), zCl_s hs9, if_pos (by rw [show ze = 0 by omega])]) | (rw [zII_t ⟨⟨zj, zhj, rfl⟩, ⟨ze, Nat.zero_le _, zhe, rfl⟩⟩, zNat_nI (by omega), zCl_s hs9, if_neg (nI_ne (by omega) (by omega) (by omega))]) | (rw [zII_t ⟨⟨zj, zhj, rfl⟩, ⟨ze, Nat.zero_le _, zhe, rfl⟩⟩, zNat_nI (by omega), zCl_n (hf1.2 (by omega))]) | exact zzz_open, _, _, _, rfl⟩
  refine z_aload_n hx dX11_call_0 rfl ?_
  refine z_iload_n hx dX11_call_1 rfl ?_
  refine z_callivF hx (qX11_isStop r t (P, pr, po) i y a f L cr ho hw _) dX11_call_2 sX11_168 hC_0 rfl rfl rfl (Nat.le_of_ble_eq_true rfl) rfl (Nat.le_of_ble_eq_true rfl) (by decide) ?_
  first | refine z_if_eqB (tgt := 17) hx dX11_call_5 (by decide) (fun zc5 => ?_) (fun zc5 => ?_) | refine z_if_eqN (tgt := 17) hx dX11_call_5 (by decide) (by omega) (fun zc5 => ?_) (fun zc5 => ?_) | refine z_if_eq (tgt := 17) hx dX11_call_5 (by decide) (fun zc5 => ?_) (fun zc5 => ?_)
  · skip
    refine z_ldc hx dX11_call_17 kX11_78 ?_
    exact z_iret hx hF dX11_call_19 rfl rfl ⟨by unfold aCall; first | (rw [zII_f (fun h => zc5 h.1)]) | (rw [zII_f (fun h => zc14 h.2)]) | exact zzz_open, _, _, _, rfl⟩
  · skip
    obtain ⟨zj, zhj, rfl⟩ := zc5
    refine z_iload_n hx dX11_call_8 rfl ?_
    refine z_iconst (v := nI 0) hx dX11_call_9 (by decide) ?_
    refine z_iconst (v := nI 1) hx dX11_call_10 (by decide) ?_
    refine z_callisP hx [] (qX11_isWithinN _ _ _ (by decide)) dX11_call_11 sX11_74 rfl rfl rfl (by decide) (by decide) rfl (Nat.le_of_ble_eq_true rfl) (by decide) ?_
    first | refine z_if_neB (tgt := 20) hx dX11_call_14 (by decide) (fun zc14 => ?_) (fun zc14 => ?_) | refine z_if_neN (tgt := 20) hx dX11_call_14 (by decide) (by omega) (fun zc14 => ?_) (fun zc14 => ?_) | refine z_if_ne (tgt := 20) hx dX11_call_14 (by decide) (fun zc14 => ?_) (fun zc14 => ?_)
    · skip
      obtain ⟨ze, -, zhe, rfl⟩ := zc14
      refine z_aload_n hx dX11_call_20 rfl ?_
      refine z_get hx dX11_call_21 fX11_49 hC_0 rfl ?_
      refine z_aload_n hx dX11_call_24 rfl ?_
      refine z_get hx dX11_call_25 fX11_45 hC_0 rfl ?_
      refine z_callvvE hx gPL (qX4_become P pr po L cr ho) dX11_call_28 sX11_133 rfl rfl sub_PL rfl rfl (by decide) (by decide) rfl (Nat.le_of_ble_eq_true rfl) (by decide) ?_
      refine z_heap pt_PL ?_
      refine z_iconst (v := nI 0) hx dX11_call_31 (by decide) ?_
      refine z_istore_n hx dX11_call_32 (Nat.le_of_ble_eq_true rfl) rfl ?_
      exact hloop zj zhj ze zhe hF _ 0 pr po rfl (by omega) ⟨fun _ => rfl, fun h => absurd h (by omega)⟩
    · skip
      refine z_ldc hx dX11_call_17 kX11_78 ?_
      exact z_iret hx hF dX11_call_19 rfl rfl ⟨by unfold aCall; first | (rw [zII_f (fun h => zc5 h.1)]) | (rw [zII_f (fun h => zc14 h.2)]) | exact zzz_open, _, _, _, rfl⟩

set_option maxHeartbeats 4000000 in
set_option maxRecDepth 100000 in
theorem qX11_walkers (r : zRw) (t : zTp) (L : zL) (cr ho : Nat → Nat) (P : zL) (pr po : Nat → Nat) (i : zLk × zLk) (y : zPy) (a : zAs) (f : Nat × Nat) (hw : zWf L) (hm : lM L ≤ 1000) (v w : Int32) : zMi mX11_walkers 7 ([.ref 0, .int v, .int w]) (hC (r, t, (L, cr, ho), (P, pr, po), i, y, a, f)) (fun z u => z = aWalk L v w ∧ hCx r t L i y a f u) := by
  refine zMi.of (by decide) (Nat.le_of_ble_eq_true rfl) (fun x hx hF => ?_)
  obtain ⟨w1, w2, w3, w4, w5⟩ := id hw
  have b1 : 2 ^ lP L ≤ 2 ^ 6 := Nat.pow_le_pow_right (by decide) w3
  have hloop : ∀ (zj : Nat) (zhj : zj ≤ 60) (ze : Nat) (zhe : ze ≤ 1) (hF : zFi x (hC (r, t, (L, cr, ho), (P, pr, po), i, y, a, f)).length fun z u => z = aWalk L (nI zj) (nI ze) ∧ hCx r t L i y a f u) (n34 m : Nat) (P : zL) (pr po : Nat → Nat), lP L + 1 - m = n34 → m ≤ lP L + 1 → (m ≤ lP L → zFs (zWk L zj) m (lP L - m) = zFs (zWk L zj) 0 (lP L)) ∧ (lP L < m → zFs (zWk L zj) 0 (lP L) = none) → 0 < lS L → zV x 34 [some (.ref 0), some (.int (nI zj)), some (.int (nI ze)), some (.int (nI m)), none] [] (hC (r, t, (L, cr, ho), (P, pr, po), i, y, a, f)) := by
    intro zj zhj ze zhe hF n34
    induction n34 using Nat.strongRecOn with
    | ind n34 ih =>
      intro m P pr po hn hm1 hf1 hS9
      refine z_iload_n hx dX11_walkers_34 rfl ?_
      refine z_aload_n hx dX11_walkers_35 rfl ?_
      refine z_get hx dX11_walkers_36 fX11_45 hC_0 rfl ?_
      refine z_get hx dX11_walkers_39 fX11_140 hC_15 rfl ?_
      first | refine z_icmp_gtN (tgt := 77) hx dX11_walkers_42 (by decide) (by omega) (by omega) (fun zc42 => ?_) (fun zc42 => ?_) | refine z_icmp_gt (tgt := 77) hx dX11_walkers_42 (by decide) (fun zc42 => ?_) (fun zc42 => ?_)
      · skip
        refine z_ldc hx dX11_walkers_77 kX11_205 ?_
        exact z_iret hx hF dX11_walkers_79 rfl rfl ⟨by unfold aWalk; first | (rw [zII_t hS9, zII_t ⟨⟨zj, Nat.zero_le _, zhj, rfl⟩, ⟨ze, Nat.zero_le _, zhe, rfl⟩⟩, zNat_nI (by omega), zWl_s hs9, if_pos (by rw [show ze = 0 by omega])]) | (rw [zII_t hS9, zII_t ⟨⟨zj, Nat.zero_le _, zhj, rfl⟩, ⟨ze, Nat.zero_le _, zhe, rfl⟩⟩, zNat_nI (by omega), zWl_s hs9, if_neg (nI_ne (by omega) (by omega) (by omega))]) | (rw [zII_t hS9, zII_t ⟨⟨zj, Nat.zero_le _, zhj, rfl⟩, ⟨ze, Nat.zero_le _, zhe, rfl⟩⟩, zNat_nI (by omega), zWl_n (hf1.2 (by omega))]) | exact zzz_open, _, _, _, rfl⟩
      · skip
        refine z_aload_n hx dX11_walkers_45 rfl ?_
        refine z_iload_n hx dX11_walkers_46 rfl ?_
        refine z_iload_n hx dX11_walkers_47 rfl ?_
        refine z_callivG hx (qX11_leastWalkers r t i y a f L cr ho P pr po hw hm m zj (by omega) zhj) dX11_walkers_48 sX11_225 hC_0 rfl rfl rfl (Nat.le_of_ble_eq_true rfl) rfl (Nat.le_of_ble_eq_true rfl) (by decide) (fun r48 u48 l48 q48 => ?_)
        obtain ⟨rfl, p9, rfl⟩ := q48
        obtain ⟨P9, pr9, po9⟩ := p9
        refine z_istore hx dX11_walkers_51 (Nat.le_of_ble_eq_true rfl) rfl ?_
        have hnn := tN_none (x := zFb (zWa L m zj) (2 ^ lP L)) (fun n9 e9 => by have := zFb_lt _ _ e9; omega)
        refine z_iload hx dX11_walkers_53 rfl ?_
        refine z_ldc hx dX11_walkers_55 kX11_205 ?_
        refine z_icmp_eq (tgt := 71) hx dX11_walkers_57 (by decide) (fun zc57 => ?_) (fun zc57 => ?_)
        · skip
          first | refine z_iincN (z := 1) hx dX11_walkers_71 rfl rfl ?_ | refine z_iinc hx dX11_walkers_71 rfl rfl rfl ?_
          refine z_goto (tgt := 34) hx dX11_walkers_74 (by decide) ?_
          exact z_kill 4 (ih _ (by omega) (m + 1) _ _ _ rfl (by omega) ⟨fun h9 => by rw [← hf1.1 (by omega), show lP L - m = (lP L - (m + 1)) + 1 by omega, zFs_f (fun z => z (hnn.mp zc57))], fun h9 => by rw [← hf1.1 (by omega), show lP L - m = 0 by omega, zFs_0 (fun z => z (hnn.mp zc57))]⟩ hS9)
        · skip
          have hs9 : zFs (zWk L zj) 0 (lP L) = some m := by rw [← hf1.1 (by omega)]; exact zFs_t (fun z => zc57 (hnn.mpr z))
          refine z_iload_n hx dX11_walkers_60 rfl ?_
          first | refine z_if_neB (tgt := 68) hx dX11_walkers_61 (by decide) (fun zc61 => ?_) (fun zc61 => ?_) | refine z_if_neN (tgt := 68) hx dX11_walkers_61 (by decide) (by omega) (fun zc61 => ?_) (fun zc61 => ?_) | refine z_if_ne (tgt := 68) hx dX11_walkers_61 (by decide) (fun zc61 => ?_) (fun zc61 => ?_)
          · skip
            refine z_iload hx dX11_walkers_68 rfl ?_
            exact z_iret hx hF dX11_walkers_70 rfl rfl ⟨by unfold aWalk; first | (rw [zII_t hS9, zII_t ⟨⟨zj, Nat.zero_le _, zhj, rfl⟩, ⟨ze, Nat.zero_le _, zhe, rfl⟩⟩, zNat_nI (by omega), zWl_s hs9, if_pos (by rw [show ze = 0 by omega])]) | (rw [zII_t hS9, zII_t ⟨⟨zj, Nat.zero_le _, zhj, rfl⟩, ⟨ze, Nat.zero_le _, zhe, rfl⟩⟩, zNat_nI (by omega), zWl_s hs9, if_neg (nI_ne (by omega) (by omega) (by omega))]) | (rw [zII_t hS9, zII_t ⟨⟨zj, Nat.zero_le _, zhj, rfl⟩, ⟨ze, Nat.zero_le _, zhe, rfl⟩⟩, zNat_nI (by omega), zWl_n (hf1.2 (by omega))]) | exact zzz_open, _, _, _, rfl⟩
          · skip
            refine z_iload_n hx dX11_walkers_64 rfl ?_
            refine z_goto (tgt := 70) hx dX11_walkers_65 (by decide) ?_
            exact z_iret hx hF dX11_walkers_70 rfl rfl ⟨by unfold aWalk; first | (rw [zII_t hS9, zII_t ⟨⟨zj, Nat.zero_le _, zhj, rfl⟩, ⟨ze, Nat.zero_le _, zhe, rfl⟩⟩, zNat_nI (by omega), zWl_s hs9, if_pos (by rw [show ze = 0 by omega])]) | (rw [zII_t hS9, zII_t ⟨⟨zj, Nat.zero_le _, zhj, rfl⟩, ⟨ze, Nat.zero_le _, zhe, rfl⟩⟩, zNat_nI (by omega), zWl_s hs9, if_neg (nI_ne (by omega) (by omega) (by omega))]) | (rw [zII_t hS9, zII_t ⟨⟨zj, Nat.zero_le _, zhj, rfl⟩, ⟨ze, Nat.zero_le _, zhe, rfl⟩⟩, zNat_nI (by omega), zWl_n (hf1.2 (by omega))]) | exact zzz_open, _, _, _, rfl⟩
  refine z_aload_n hx dX11_walkers_0 rfl ?_
  refine z_callivF hx (qX11_hasLine r t (P, pr, po) i y a f L cr ho hw) dX11_walkers_1 sX11_143 hC_0 rfl rfl rfl (Nat.le_of_ble_eq_true rfl) rfl (Nat.le_of_ble_eq_true rfl) (by decide) ?_
  first | refine z_if_neB (tgt := 10) hx dX11_walkers_4 (by decide) (fun zc4 => ?_) (fun zc4 => ?_) | refine z_if_neN (tgt := 10) hx dX11_walkers_4 (by decide) (by omega) (fun zc4 => ?_) (fun zc4 => ?_) | refine z_if_ne (tgt := 10) hx dX11_walkers_4 (by decide) (fun zc4 => ?_) (fun zc4 => ?_)
  · skip
    refine z_iload_n hx dX11_walkers_10 rfl ?_
    refine z_iconst (v := nI 0) hx dX11_walkers_11 (by decide) ?_
    refine z_bipush (v := nI 60) hx dX11_walkers_12 (by decide) ?_
    refine z_callisP hx [] (qX11_isWithinN _ _ _ (by decide)) dX11_walkers_14 sX11_74 rfl rfl rfl (by decide) (by decide) rfl (Nat.le_of_ble_eq_true rfl) (by decide) ?_
    first | refine z_if_eqB (tgt := 29) hx dX11_walkers_17 (by decide) (fun zc17 => ?_) (fun zc17 => ?_) | refine z_if_eqN (tgt := 29) hx dX11_walkers_17 (by decide) (by omega) (fun zc17 => ?_) (fun zc17 => ?_) | refine z_if_eq (tgt := 29) hx dX11_walkers_17 (by decide) (fun zc17 => ?_) (fun zc17 => ?_)
    · skip
      refine z_ldc hx dX11_walkers_29 kX11_78 ?_
      exact z_iret hx hF dX11_walkers_31 rfl rfl ⟨by unfold aWalk; first | (rw [zII_f zc4]) | (rw [zII_t zc4, zII_f (fun h => zc17 h.1)]) | (rw [zII_t zc4, zII_f (fun h => zc26 h.2)]) | exact zzz_open, _, _, _, rfl⟩
    · skip
      obtain ⟨zj, -, zhj, rfl⟩ := zc17
      refine z_iload_n hx dX11_walkers_20 rfl ?_
      refine z_iconst (v := nI 0) hx dX11_walkers_21 (by decide) ?_
      refine z_iconst (v := nI 1) hx dX11_walkers_22 (by decide) ?_
      refine z_callisP hx [] (qX11_isWithinN _ _ _ (by decide)) dX11_walkers_23 sX11_74 rfl rfl rfl (by decide) (by decide) rfl (Nat.le_of_ble_eq_true rfl) (by decide) ?_
      first | refine z_if_neB (tgt := 32) hx dX11_walkers_26 (by decide) (fun zc26 => ?_) (fun zc26 => ?_) | refine z_if_neN (tgt := 32) hx dX11_walkers_26 (by decide) (by omega) (fun zc26 => ?_) (fun zc26 => ?_) | refine z_if_ne (tgt := 32) hx dX11_walkers_26 (by decide) (fun zc26 => ?_) (fun zc26 => ?_)
      · skip
        obtain ⟨ze, -, zhe, rfl⟩ := zc26
        refine z_iconst (v := nI 0) hx dX11_walkers_32 (by decide) ?_
        refine z_istore_n hx dX11_walkers_33 (Nat.le_of_ble_eq_true rfl) rfl ?_
        exact hloop zj zhj ze zhe hF _ 0 P pr po rfl (by omega) ⟨fun _ => rfl, fun h => absurd h (by omega)⟩ zc4
      · skip
        refine z_ldc hx dX11_walkers_29 kX11_78 ?_
        exact z_iret hx hF dX11_walkers_31 rfl rfl ⟨by unfold aWalk; first | (rw [zII_f zc4]) | (rw [zII_t zc4, zII_f (fun h => zc17 h.1)]) | (rw [zII_t zc4, zII_f (fun h => zc26 h.2)]) | exact zzz_open, _, _, _, rfl⟩
  · skip
    refine z_ldc hx dX11_walkers_7 kX11_147 ?_
    exact z_iret hx hF dX11_walkers_9 rfl rfl ⟨by unfold aWalk; first | (rw [zII_f zc4]) | (rw [zII_t zc4, zII_f (fun h => zc17 h.1)]) | (rw [zII_t zc4, zII_f (fun h => zc26 h.2)]) | exact zzz_open, _, _, _, rfl⟩

