/-- the best set of walkers among the first ones -/
def zWp (L : zL) (d s : Nat) : Prop := ¬ zFs (zAl L s (2 ^ lP L - 1)) 0 d = none
noncomputable def zBw (L : zL) (d : Nat) : Nat → Option Nat
  | 0 => none
  | s + 1 => zIG ((∀ b, zBw L d s = some b → zOn s < zOn b) ∧ zWp L d s) (some s) (zBw L d s)
theorem zBw_t {L : zL} {d s : Nat} (h : ∀ b, zBw L d s = some b → zOn s < zOn b) (h2 : zWp L d s) : zBw L d (s + 1) = some s := by rw [zBw, zIG_t ⟨h, h2⟩]
theorem zBw_f {L : zL} {d s : Nat} (h : ¬ ((∀ b, zBw L d s = some b → zOn s < zOn b) ∧ zWp L d s)) : zBw L d (s + 1) = zBw L d s := by rw [zBw, zIG_f h]
theorem zBw_ok (L : zL) (d : Nat) : ∀ S, (zBw L d S = none → ∀ s, s < S → ¬ zWp L d s) ∧ (∀ b, zBw L d S = some b → b < S ∧ zWp L d b ∧ ∀ s, s < S → zWp L d s → zOn b < zOn s ∨ (zOn b = zOn s ∧ b ≤ s))
  | 0 => ⟨fun _ s hs => absurd hs (by omega), fun b h => by cases h⟩
  | S + 1 => by
    obtain ⟨i1, i2⟩ := zBw_ok L d S
    by_cases h : (∀ b, zBw L d S = some b → zOn S < zOn b) ∧ zWp L d S
    · rw [zBw_t h.1 h.2]
      refine ⟨fun q => (by cases q), fun b hb => ?_⟩
      cases hb
      refine ⟨by omega, h.2, fun s hs hp => ?_⟩
      rcases (show s < S ∨ s = S by omega) with q | q
      · cases hz : zBw L d S with
        | none => exact absurd hp (i1 hz s q)
        | some b =>
          have h1 := h.1 b hz
          have h2 := (i2 b hz).2.2 s q hp
          omega
      · subst q; exact Or.inr ⟨rfl, Nat.le_refl _⟩
    · rw [zBw_f h]
      refine ⟨fun q s hs hp => ?_, fun b hb => ?_⟩
      · rcases (show s < S ∨ s = S by omega) with z | z
        · exact i1 q s z hp
        · subst z; exact h ⟨fun b hb => (by rw [q] at hb; cases hb), hp⟩
      · obtain ⟨j1, j2, j3⟩ := i2 b hb
        refine ⟨by omega, j2, fun s hs hp => ?_⟩
        rcases (show s < S ∨ s = S by omega) with z | z
        · exact j3 s z hp
        · subst z
          have : ¬ zOn s < zOn b := fun e => h ⟨fun b2 h2 => (by rw [hb] at h2; cases h2; exact e), hp⟩
          omega
theorem zFb_nn {c : Nat → Prop} : ∀ n, (∀ k, k < n → ¬ c k) → zFb c n = none
  | 0, _ => rfl
  | n + 1, h => zFb_no (zFb_nn n (fun k hk => h k (by omega))) (h n (by omega))
theorem zFs_nn {c : Nat → Prop} : ∀ n a, (∀ k, ¬ c k) → zFs c a n = none
  | 0, a, h => zFs_0 (h a)
  | n + 1, a, h => by rw [zFs_f (h a)]; exact zFs_nn n (a + 1) h
theorem zFs_at {c : Nat → Prop} {m : Nat} : ∀ n a, (∀ k, a ≤ k → k < m → ¬ c k) → c m → a ≤ m → m ≤ a + n → zFs c a n = some m
  | 0, a, h, hm, h1, h2 => by rw [show m = a by omega] at hm ⊢; exact zFs_t hm
  | n + 1, a, h, hm, h1, h2 => by
    by_cases e : a = m
    · subst e; exact zFs_t hm
    · rw [zFs_f (h a (by omega) (by omega))]; exact zFs_at n (a + 1) (fun k q1 q2 => h k (by omega) q2) hm (by omega) (by omega)
theorem zOn_p : ∀ p, p < 7 → ∀ b, b < 64 → b < 2 ^ p → zOn b ≤ p := by decide +kernel
theorem zWl_b {L : zL} (hw : zWf L) (d : Nat) (w : Int32) : zWl L d w = match zBw L d (2 ^ lP L) with | none => -1000000 | some b => if w = nI 0 then nI (zOn b) else nI b := by
  have w3 := hw.2.2.1
  have h64 : 2 ^ lP L ≤ 2 ^ 6 := Nat.pow_le_pow_right (by decide) w3
  obtain ⟨i1, i2⟩ := zBw_ok L d (2 ^ lP L)
  cases hz : zBw L d (2 ^ lP L) with
  | none =>
    have h1 : ∀ m, zFb (zWa L m d) (2 ^ lP L) = none := fun m => zFb_nn _ (fun k hk e => i1 hz k hk e.2)
    exact zWl_n (zFs_nn _ _ (fun m e => e (h1 m)))
  | some b =>
    obtain ⟨j1, j2, j3⟩ := i2 b hz
    have hb := zOn_p (lP L) (by omega) b (by omega) j1
    have hfb : zFb (zWa L (zOn b) d) (2 ^ lP L) = some b := zFb_yes2 (zFb_nn b (fun k hk e => by have := j3 k (by omega) e.2; have := e.1; omega)) ⟨rfl, j2⟩ j1
    have hfs : zFs (zWk L d) 0 (lP L) = some (zOn b) := zFs_at _ 0 (fun m _ hm e => e (zFb_nn _ (fun k hk e2 => by have := j3 k hk e2.2; have := e2.1; omega))) (fun e => by rw [hfb] at e; cases e) (Nat.zero_le _) (by omega)
    rw [zWl_s hfs, hfb]
    rfl
set_option maxHeartbeats 4000000 in
set_option maxRecDepth 100000 in
theorem qX12_walkers (r : zMR) (t : zMT) (L : zL) (dr tr : Nat → Nat) (y : zMY) (a : zMA) (hw : zWf L) (hm : lM L ≤ 1000) (v w : Int32) : zMi mX12_walkers 6 ([.ref 0, .int v, .int w]) (hM r t L dr tr y a) (fun z u => z = aWalk L v w ∧ hMx r t L y a u) := by
  refine zMi.of (by decide) (Nat.le_of_ble_eq_true rfl) (fun x hx hF => ?_)
  obtain ⟨w1, w2, w3, w4, w5⟩ := id hw
  have h64 : 2 ^ lP L ≤ 2 ^ 6 := Nat.pow_le_pow_right (by decide) w3
  have h0p : 0 < 2 ^ lP L := Nat.pow_pos (by decide)
  have hloop : ∀ (hS9 : 0 < lS L) (zd : Nat) (zhd : zd ≤ 60) (ze : Nat) (zhe : ze ≤ 1) (hF : zFi x (hM r t L dr tr y a).length (fun z u => z = aWalk L (nI zd) (nI ze) ∧ hMx r t L y a u)) (n35 s : Nat) (tr : Nat → Nat), 2 ^ lP L - s = n35 → s ≤ 2 ^ lP L → zV x 35 [some (.ref 0), some (.int (nI zd)), some (.int (nI ze)), some (.int (tN (zBw L zd s))), some (.int (nI s))] [] (hM r t L dr tr y a) := by
    intro hS9 zd zhd ze zhe hF n35
    have hnd : zNat (nI zd) = zd := zNat_nI (by omega)
    have hwl := zWl_b hw zd (nI ze)
    induction n35 using Nat.strongRecOn with
    | ind n35 ih =>
      intro s tr hn hs9
      have hbk := zBw_ok L zd s
      have hnf := tN_none (x := zFs (zAl L s (2 ^ lP L - 1)) 0 zd) (fun n9 e9 => by have := zFs_le _ _ _ e9; omega)
      refine z_iload hx dX12_walkers_35 rfl ?_
      refine z_aload_n hx dX12_walkers_37 rfl ?_
      refine z_get hx dX12_walkers_38 fX12_25 rfl rfl ?_
      refine z_callisP hx [6] (qX12_everybody L hw) dX12_walkers_41 sX12_198 rfl rfl rfl (by decide) (by decide) rfl (Nat.le_of_ble_eq_true rfl) (by decide) ?_
      refine z_icmp_gtN (tgt := 102) hx dX12_walkers_44 (by decide) (by omega) (by omega) (fun zc44 => ?_) (fun zc44 => ?_)
      · skip
        rw [show s = 2 ^ lP L by omega] at hbk ⊢
        rcases hb9 : zBw L zd (2 ^ lP L) with _ | b9
        · skip
          rw [hb9] at hwl
          refine z_iload_n hx dX12_walkers_102 rfl ?_
          refine z_ldc hx dX12_walkers_103 kX12_47 ?_
          refine z_icmp_eq (tgt := 113) hx dX12_walkers_105 (by decide) (fun zc105 => ?_) (fun zc105 => absurd rfl zc105)
          refine z_iload_n hx dX12_walkers_113 rfl ?_
          refine z_goto (tgt := 121) hx dX12_walkers_114 (by decide) ?_
          first | exact z_iret hx hF dX12_walkers_121 rfl rfl ⟨by unfold aWalk; rw [zII_t hS9, zII_t ⟨⟨zd, Nat.zero_le _, zhd, rfl⟩, ⟨ze, Nat.zero_le _, zhe, rfl⟩⟩, hnd, hwl]; rfl, hMx_i _ _ _ _ _ _ _⟩ | exact z_iret hx hF dX12_walkers_121 rfl rfl ⟨by unfold aWalk; rw [zII_t hS9, zII_t ⟨⟨zd, Nat.zero_le _, zhd, rfl⟩, ⟨ze, Nat.zero_le _, zhe, rfl⟩⟩, hnd, hwl]; exact (if_neg (nI_ne (by omega) (by omega) (by omega))).symm, hMx_i _ _ _ _ _ _ _⟩ | exact z_iret hx hF dX12_walkers_121 rfl rfl ⟨by unfold aWalk; rw [zII_t hS9, zII_t ⟨⟨zd, Nat.zero_le _, zhd, rfl⟩, ⟨ze, Nat.zero_le _, zhe, rfl⟩⟩, hnd, hwl]; exact (if_pos (by rw [show ze = 0 by omega])).symm, hMx_i _ _ _ _ _ _ _⟩
        · skip
          rw [hb9] at hwl
          have hb8 := (hbk.2 b9 hb9).1
          refine z_iload_n hx dX12_walkers_102 rfl ?_
          refine z_ldc hx dX12_walkers_103 kX12_47 ?_
          refine z_icmp_eq (tgt := 113) hx dX12_walkers_105 (by decide) (fun zc105 => absurd zc105 (tN_ne (by omega))) (fun zc105 => ?_)
          refine z_iload_n hx dX12_walkers_108 rfl ?_
          refine z_iconst (v := nI 1) hx dX12_walkers_109 (by decide) ?_
          refine z_icmp_neN (tgt := 117) hx dX12_walkers_110 (by decide) (by omega) (by omega) (fun zc110 => ?_) (fun zc110 => ?_)
          · skip
            refine z_iload_n hx dX12_walkers_117 rfl ?_
            refine z_callisP hx [] (qX12_ones b9 (by omega)) dX12_walkers_118 sX12_139 rfl rfl rfl (by decide) (by decide) rfl (Nat.le_of_ble_eq_true rfl) (by decide) ?_
            first | exact z_iret hx hF dX12_walkers_121 rfl rfl ⟨by unfold aWalk; rw [zII_t hS9, zII_t ⟨⟨zd, Nat.zero_le _, zhd, rfl⟩, ⟨ze, Nat.zero_le _, zhe, rfl⟩⟩, hnd, hwl]; rfl, hMx_i _ _ _ _ _ _ _⟩ | exact z_iret hx hF dX12_walkers_121 rfl rfl ⟨by unfold aWalk; rw [zII_t hS9, zII_t ⟨⟨zd, Nat.zero_le _, zhd, rfl⟩, ⟨ze, Nat.zero_le _, zhe, rfl⟩⟩, hnd, hwl]; exact (if_neg (nI_ne (by omega) (by omega) (by omega))).symm, hMx_i _ _ _ _ _ _ _⟩ | exact z_iret hx hF dX12_walkers_121 rfl rfl ⟨by unfold aWalk; rw [zII_t hS9, zII_t ⟨⟨zd, Nat.zero_le _, zhd, rfl⟩, ⟨ze, Nat.zero_le _, zhe, rfl⟩⟩, hnd, hwl]; exact (if_pos (by rw [show ze = 0 by omega])).symm, hMx_i _ _ _ _ _ _ _⟩
          · skip
            refine z_iload_n hx dX12_walkers_113 rfl ?_
            refine z_goto (tgt := 121) hx dX12_walkers_114 (by decide) ?_
            first | exact z_iret hx hF dX12_walkers_121 rfl rfl ⟨by unfold aWalk; rw [zII_t hS9, zII_t ⟨⟨zd, Nat.zero_le _, zhd, rfl⟩, ⟨ze, Nat.zero_le _, zhe, rfl⟩⟩, hnd, hwl]; rfl, hMx_i _ _ _ _ _ _ _⟩ | exact z_iret hx hF dX12_walkers_121 rfl rfl ⟨by unfold aWalk; rw [zII_t hS9, zII_t ⟨⟨zd, Nat.zero_le _, zhd, rfl⟩, ⟨ze, Nat.zero_le _, zhe, rfl⟩⟩, hnd, hwl]; exact (if_neg (nI_ne (by omega) (by omega) (by omega))).symm, hMx_i _ _ _ _ _ _ _⟩ | exact z_iret hx hF dX12_walkers_121 rfl rfl ⟨by unfold aWalk; rw [zII_t hS9, zII_t ⟨⟨zd, Nat.zero_le _, zhd, rfl⟩, ⟨ze, Nat.zero_le _, zhe, rfl⟩⟩, hnd, hwl]; exact (if_pos (by rw [show ze = 0 by omega])).symm, hMx_i _ _ _ _ _ _ _⟩
      · skip
        rcases hb9 : zBw L zd s with _ | b9
        · skip
          refine z_iload_n hx dX12_walkers_47 rfl ?_
          refine z_ldc hx dX12_walkers_48 kX12_47 ?_
          refine z_icmp_eq (tgt := 65) hx dX12_walkers_50 (by decide) (fun zc50 => ?_) (fun zc50 => absurd rfl zc50)
          refine z_aload_n hx dX12_walkers_65 rfl ?_
          refine z_iconst (v := nI 0) hx dX12_walkers_66 (by decide) ?_
          refine z_callvvF hx (qX12_tries r t L dr tr y a hw hm 0 (by decide)) dX12_walkers_67 sX12_190 rfl rfl rfl rfl (Nat.le_of_ble_eq_true rfl) rfl (Nat.le_of_ble_eq_true rfl) (by decide) ?_
          refine z_heap (show _ = hM r t L dr (fl L) y a from rfl) ?_
          refine z_aload_n hx dX12_walkers_70 rfl ?_
          refine z_aload_n hx dX12_walkers_71 rfl ?_
          refine z_get hx dX12_walkers_72 fX12_25 rfl rfl ?_
          refine z_callisP hx [6] (qX12_everybody L hw) dX12_walkers_75 sX12_198 rfl rfl rfl (by decide) (by decide) rfl (Nat.le_of_ble_eq_true rfl) (by decide) ?_
          refine z_iload_n hx dX12_walkers_78 rfl ?_
          refine z_iload hx dX12_walkers_79 rfl ?_
          refine z_callivG hx (qX12_behind r t L dr y a L hw hm (2 ^ lP L - 1) zd s (by omega) (by omega) (by omega)) dX12_walkers_81 sX12_194 rfl rfl rfl rfl (Nat.le_of_ble_eq_true rfl) rfl (Nat.le_of_ble_eq_true rfl) (by decide) (fun r81 u81 l81 q81 => ?_)
          obtain ⟨rfl, tr9, rfl⟩ := q81
          refine z_ldc hx dX12_walkers_84 kX12_47 ?_
          refine z_icmp_eq (tgt := 94) hx dX12_walkers_86 (by decide) (fun zc86 => ?_) (fun zc86 => ?_)
          · skip
            refine z_iload_n hx dX12_walkers_94 rfl ?_
            refine z_istore_n hx dX12_walkers_95 (Nat.le_of_ble_eq_true rfl) rfl ?_
            first | refine z_iincN (z := 1) hx dX12_walkers_96 rfl rfl ?_ | refine z_iinc hx dX12_walkers_96 rfl rfl rfl ?_
            refine z_goto (tgt := 35) hx dX12_walkers_99 (by decide) ?_
            first | exact z_eq (by rw [zBw_t (fun b h => by rw [hb9] at h; cases h <;> omega) (fun e => zc86 (hnf.mpr e))] <;> rfl) rfl rfl (ih _ (by omega) (s + 1) _ rfl (by omega)) | exact z_eq (by rw [zBw_f (fun e => e.2 (hnf.mp zc86)), hb9] <;> rfl) rfl rfl (ih _ (by omega) (s + 1) _ rfl (by omega)) | exact z_eq (by rw [zBw_f (fun e => absurd (e.1 b9 hb9) (by omega)), hb9] <;> rfl) rfl rfl (ih _ (by omega) (s + 1) _ rfl (by omega)) | exact zzz_open
          · skip
            refine z_iload hx dX12_walkers_89 rfl ?_
            refine z_goto (tgt := 95) hx dX12_walkers_91 (by decide) ?_
            refine z_istore_n hx dX12_walkers_95 (Nat.le_of_ble_eq_true rfl) rfl ?_
            first | refine z_iincN (z := 1) hx dX12_walkers_96 rfl rfl ?_ | refine z_iinc hx dX12_walkers_96 rfl rfl rfl ?_
            refine z_goto (tgt := 35) hx dX12_walkers_99 (by decide) ?_
            first | exact z_eq (by rw [zBw_t (fun b h => by rw [hb9] at h; cases h <;> omega) (fun e => zc86 (hnf.mpr e))] <;> rfl) rfl rfl (ih _ (by omega) (s + 1) _ rfl (by omega)) | exact z_eq (by rw [zBw_f (fun e => e.2 (hnf.mp zc86)), hb9] <;> rfl) rfl rfl (ih _ (by omega) (s + 1) _ rfl (by omega)) | exact z_eq (by rw [zBw_f (fun e => absurd (e.1 b9 hb9) (by omega)), hb9] <;> rfl) rfl rfl (ih _ (by omega) (s + 1) _ rfl (by omega)) | exact zzz_open
        · skip
          have hb8 := (hbk.2 b9 hb9).1
          refine z_iload_n hx dX12_walkers_47 rfl ?_
          refine z_ldc hx dX12_walkers_48 kX12_47 ?_
          refine z_icmp_eq (tgt := 65) hx dX12_walkers_50 (by decide) (fun zc50 => absurd zc50 (tN_ne (by omega))) (fun zc50 => ?_)
          refine z_iload hx dX12_walkers_53 rfl ?_
          refine z_callisP hx [] (qX12_ones s (by omega)) dX12_walkers_55 sX12_139 rfl rfl rfl (by decide) (by decide) rfl (Nat.le_of_ble_eq_true rfl) (by decide) ?_
          refine z_iload_n hx dX12_walkers_58 rfl ?_
          refine z_callisP hx [] (qX12_ones b9 (by omega)) dX12_walkers_59 sX12_139 rfl rfl rfl (by decide) (by decide) rfl (Nat.le_of_ble_eq_true rfl) (by decide) ?_
          have ho1 := zOn_le s (by omega)
          have ho2 := zOn_le b9 (by omega)
          refine z_icmp_geN (tgt := 96) hx dX12_walkers_62 (by decide) (by omega) (by omega) (fun zc62 => ?_) (fun zc62 => ?_)
          · skip
            first | refine z_iincN (z := 1) hx dX12_walkers_96 rfl rfl ?_ | refine z_iinc hx dX12_walkers_96 rfl rfl rfl ?_
            refine z_goto (tgt := 35) hx dX12_walkers_99 (by decide) ?_
            first | exact z_eq (by rw [zBw_t (fun b h => by rw [hb9] at h; cases h <;> omega) (fun e => zc86 (hnf.mpr e))] <;> rfl) rfl rfl (ih _ (by omega) (s + 1) _ rfl (by omega)) | exact z_eq (by rw [zBw_f (fun e => e.2 (hnf.mp zc86)), hb9] <;> rfl) rfl rfl (ih _ (by omega) (s + 1) _ rfl (by omega)) | exact z_eq (by rw [zBw_f (fun e => absurd (e.1 b9 hb9) (by omega)), hb9] <;> rfl) rfl rfl (ih _ (by omega) (s + 1) _ rfl (by omega)) | exact zzz_open
          · skip
            refine z_aload_n hx dX12_walkers_65 rfl ?_
            refine z_iconst (v := nI 0) hx dX12_walkers_66 (by decide) ?_
            refine z_callvvF hx (qX12_tries r t L dr tr y a hw hm 0 (by decide)) dX12_walkers_67 sX12_190 rfl rfl rfl rfl (Nat.le_of_ble_eq_true rfl) rfl (Nat.le_of_ble_eq_true rfl) (by decide) ?_
            refine z_heap (show _ = hM r t L dr (fl L) y a from rfl) ?_
            refine z_aload_n hx dX12_walkers_70 rfl ?_
            refine z_aload_n hx dX12_walkers_71 rfl ?_
            refine z_get hx dX12_walkers_72 fX12_25 rfl rfl ?_
            refine z_callisP hx [6] (qX12_everybody L hw) dX12_walkers_75 sX12_198 rfl rfl rfl (by decide) (by decide) rfl (Nat.le_of_ble_eq_true rfl) (by decide) ?_
            refine z_iload_n hx dX12_walkers_78 rfl ?_
            refine z_iload hx dX12_walkers_79 rfl ?_
            refine z_callivG hx (qX12_behind r t L dr y a L hw hm (2 ^ lP L - 1) zd s (by omega) (by omega) (by omega)) dX12_walkers_81 sX12_194 rfl rfl rfl rfl (Nat.le_of_ble_eq_true rfl) rfl (Nat.le_of_ble_eq_true rfl) (by decide) (fun r81 u81 l81 q81 => ?_)
            obtain ⟨rfl, tr9, rfl⟩ := q81
            refine z_ldc hx dX12_walkers_84 kX12_47 ?_
            refine z_icmp_eq (tgt := 94) hx dX12_walkers_86 (by decide) (fun zc86 => ?_) (fun zc86 => ?_)
            · skip
              refine z_iload_n hx dX12_walkers_94 rfl ?_
              refine z_istore_n hx dX12_walkers_95 (Nat.le_of_ble_eq_true rfl) rfl ?_
              first | refine z_iincN (z := 1) hx dX12_walkers_96 rfl rfl ?_ | refine z_iinc hx dX12_walkers_96 rfl rfl rfl ?_
              refine z_goto (tgt := 35) hx dX12_walkers_99 (by decide) ?_
              first | exact z_eq (by rw [zBw_t (fun b h => by rw [hb9] at h; cases h <;> omega) (fun e => zc86 (hnf.mpr e))] <;> rfl) rfl rfl (ih _ (by omega) (s + 1) _ rfl (by omega)) | exact z_eq (by rw [zBw_f (fun e => e.2 (hnf.mp zc86)), hb9] <;> rfl) rfl rfl (ih _ (by omega) (s + 1) _ rfl (by omega)) | exact z_eq (by rw [zBw_f (fun e => absurd (e.1 b9 hb9) (by omega)), hb9] <;> rfl) rfl rfl (ih _ (by omega) (s + 1) _ rfl (by omega)) | exact zzz_open
            · skip
              refine z_iload hx dX12_walkers_89 rfl ?_
              refine z_goto (tgt := 95) hx dX12_walkers_91 (by decide) ?_
              refine z_istore_n hx dX12_walkers_95 (Nat.le_of_ble_eq_true rfl) rfl ?_
              first | refine z_iincN (z := 1) hx dX12_walkers_96 rfl rfl ?_ | refine z_iinc hx dX12_walkers_96 rfl rfl rfl ?_
              refine z_goto (tgt := 35) hx dX12_walkers_99 (by decide) ?_
              first | exact z_eq (by rw [zBw_t (fun b h => by rw [hb9] at h; cases h <;> omega) (fun e => zc86 (hnf.mpr e))] <;> rfl) rfl rfl (ih _ (by omega) (s + 1) _ rfl (by omega)) | exact z_eq (by rw [zBw_f (fun e => e.2 (hnf.mp zc86)), hb9] <;> rfl) rfl rfl (ih _ (by omega) (s + 1) _ rfl (by omega)) | exact z_eq (by rw [zBw_f (fun e => absurd (e.1 b9 hb9) (by omega)), hb9] <;> rfl) rfl rfl (ih _ (by omega) (s + 1) _ rfl (by omega)) | exact zzz_open
  refine z_aload_n hx dX12_walkers_0 rfl ?_
  refine z_callivF hx (qX12_isLine r t L dr tr y a hw) dX12_walkers_1 sX12_167 rfl rfl rfl rfl (Nat.le_of_ble_eq_true rfl) rfl (Nat.le_of_ble_eq_true rfl) (by decide) ?_
  first | refine z_if_neB (tgt := 10) hx dX12_walkers_4 (by decide) (fun zc4 => ?_) (fun zc4 => ?_) | refine z_if_neN (tgt := 10) hx dX12_walkers_4 (by decide) (by omega) (fun zc4 => ?_) (fun zc4 => ?_) | refine z_if_ne (tgt := 10) hx dX12_walkers_4 (by decide) (fun zc4 => ?_) (fun zc4 => ?_)
  · skip
    refine z_iload_n hx dX12_walkers_10 rfl ?_
    refine z_callisP hx [] (qX12_isFar _) dX12_walkers_11 sX12_187 rfl rfl rfl (by decide) (by decide) rfl (Nat.le_of_ble_eq_true rfl) (by decide) ?_
    first | refine z_if_eqB (tgt := 26) hx dX12_walkers_14 (by decide) (fun zc14 => ?_) (fun zc14 => ?_) | refine z_if_eqN (tgt := 26) hx dX12_walkers_14 (by decide) (by omega) (fun zc14 => ?_) (fun zc14 => ?_) | refine z_if_eq (tgt := 26) hx dX12_walkers_14 (by decide) (fun zc14 => ?_) (fun zc14 => ?_)
    · skip
      refine z_ldc hx dX12_walkers_26 kX12_61 ?_
      exact z_iret hx hF dX12_walkers_28 rfl rfl ⟨by unfold aWalk; first | rw [zII_f zc4] | rw [zII_t zc4, zII_f (fun h => zc14 h.1)] | rw [zII_t zc4, zII_f (fun h => zc23 h.2)] | exact zzz_open, hMx_i _ _ _ _ _ _ _⟩
    · skip
      obtain ⟨zd, -, zhd, rfl⟩ := zc14
      refine z_iload_n hx dX12_walkers_17 rfl ?_
      refine z_iconst (v := nI 0) hx dX12_walkers_18 (by decide) ?_
      refine z_iconst (v := nI 1) hx dX12_walkers_19 (by decide) ?_
      refine z_callisP hx [] (qX12_inN _ _ _ (by decide)) dX12_walkers_20 sX12_53 rfl rfl rfl (by decide) (by decide) rfl (Nat.le_of_ble_eq_true rfl) (by decide) ?_
      first | refine z_if_neB (tgt := 29) hx dX12_walkers_23 (by decide) (fun zc23 => ?_) (fun zc23 => ?_) | refine z_if_neN (tgt := 29) hx dX12_walkers_23 (by decide) (by omega) (fun zc23 => ?_) (fun zc23 => ?_) | refine z_if_ne (tgt := 29) hx dX12_walkers_23 (by decide) (fun zc23 => ?_) (fun zc23 => ?_)
      · skip
        obtain ⟨ze, -, zhe, rfl⟩ := zc23
        refine z_ldc hx dX12_walkers_29 kX12_47 ?_
        refine z_istore_n hx dX12_walkers_31 (Nat.le_of_ble_eq_true rfl) rfl ?_
        refine z_iconst (v := nI 0) hx dX12_walkers_32 (by decide) ?_
        refine z_istore hx dX12_walkers_33 (Nat.le_of_ble_eq_true rfl) rfl ?_
        exact hloop zc4 zd zhd ze zhe hF _ 0 tr rfl (Nat.zero_le _)
      · skip
        refine z_ldc hx dX12_walkers_26 kX12_61 ?_
        exact z_iret hx hF dX12_walkers_28 rfl rfl ⟨by unfold aWalk; first | rw [zII_f zc4] | rw [zII_t zc4, zII_f (fun h => zc14 h.1)] | rw [zII_t zc4, zII_f (fun h => zc23 h.2)] | exact zzz_open, hMx_i _ _ _ _ _ _ _⟩
  · skip
    refine z_ldc hx dX12_walkers_7 kX12_170 ?_
    exact z_iret hx hF dX12_walkers_9 rfl rfl ⟨by unfold aWalk; first | rw [zII_f zc4] | rw [zII_t zc4, zII_f (fun h => zc14 h.1)] | rw [zII_t zc4, zII_f (fun h => zc23 h.2)] | exact zzz_open, hMx_i _ _ _ _ _ _ _⟩

