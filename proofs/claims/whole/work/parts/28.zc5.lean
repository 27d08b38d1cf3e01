theorem zGz_le {L : zL} {q k d : Nat} (h : zGz L q k = some d) : d ≤ 60 := by
  unfold zGz at h
  split at h
  · cases h
  · have := zFs_le _ _ _ h; omega
theorem zGo_le {L : zL} {q : Nat} : ∀ k d, (zGo L q k).2 = some d → d ≤ 60
  | 0, d, h => by cases h
  | k + 1, d, h => by
    cases hz : zGz L q k with
    | none => rw [zGo_n hz] at h; exact zGo_le k d h
    | some e =>
      by_cases hl : zLess e (zGo L q k).2
      · rw [zGo_t hz hl] at h; cases h; exact zGz_le hz
      · rw [zGo_f hz hl] at h; exact zGo_le k d h
theorem zLess_n {d : Nat} : zLess d none := fun e h => by cases h
theorem zLess_s {d s : Nat} (h : d < s) : zLess d (some s) := fun e q => by cases q; exact h
theorem zLess_f {d s : Nat} (h : s ≤ d) : ¬ zLess d (some s) := fun q => absurd (q s rfl) (Nat.not_lt.mpr h)
theorem tN_ne {d : Nat} (h : d ≤ 1000) : ¬ tN (some d) = -1000000 := fun e => by
  have := (tN_none (x := some d) (fun n hn => by cases hn; exact h)).mp e
  cases this
set_option maxHeartbeats 4000000 in
set_option maxRecDepth 100000 in
theorem qX11_go (r : zRw) (t : zTp) (L : zL) (cr ho : Nat → Nat) (P : zL) (pr po : Nat → Nat) (i : zLk × zLk) (y : zPy) (a : zAs) (f : Nat × Nat) (hw : zWf L) (hm : lM L ≤ 1000) (v w : Int32) : zMi mX11_go 7 ([.ref 0, .int v, .int w]) (hC (r, t, (L, cr, ho), (P, pr, po), i, y, a, f)) (fun z u => z = aGo L v w ∧ hCx r t L i y a f u) := by
  refine zMi.of (by decide) (Nat.le_of_ble_eq_true rfl) (fun x hx hF => ?_)
  obtain ⟨w1, w2, w3, w4, w5⟩ := id hw
  have hloop : ∀ (zj : Nat) (zhj : zj < lP L) (ze : Nat) (zhe : ze ≤ 1) (hF : zFi x (hC (r, t, (L, cr, ho), (P, pr, po), i, y, a, f)).length fun z u => z = aGo L (nI zj) (nI ze) ∧ hCx r t L i y a f u) (n30 k : Nat) (P : zL) (pr po : Nat → Nat), lS L - k = n30 → k ≤ lS L → zV x 30 [some (.ref 0), some (.int (nI zj)), some (.int (nI ze)), some (.int (tN (zGo L zj k).1)), some (.int (tN (zGo L zj k).2)), some (.int (nI k)), none] [] (hC (r, t, (L, cr, ho), (P, pr, po), i, y, a, f)) := by
    intro zj zhj ze zhe hF n30
    have w6 := w5 zj zhj
    induction n30 using Nat.strongRecOn with
    | ind n30 ih =>
      intro k P pr po hn hk
      refine z_iload hx dX11_go_30 rfl ?_
      refine z_aload_n hx dX11_go_32 rfl ?_
      refine z_get hx dX11_go_33 fX11_45 hC_0 rfl ?_
      refine z_get hx dX11_go_36 fX11_219 hC_15 rfl ?_
      first | refine z_icmp_geN (tgt := 104) hx dX11_go_39 (by decide) (by omega) (by omega) (fun zc39 => ?_) (fun zc39 => ?_) | refine z_icmp_ge (tgt := 104) hx dX11_go_39 (by decide) (fun zc39 => ?_) (fun zc39 => ?_)
      · skip
        refine z_iload_n hx dX11_go_104 rfl ?_
        first | refine z_if_neB (tgt := 112) hx dX11_go_105 (by decide) (fun zc105 => ?_) (fun zc105 => ?_) | refine z_if_neN (tgt := 112) hx dX11_go_105 (by decide) (by omega) (fun zc105 => ?_) (fun zc105 => ?_) | refine z_if_ne (tgt := 112) hx dX11_go_105 (by decide) (fun zc105 => ?_) (fun zc105 => ?_)
        · skip
          refine z_iload hx dX11_go_112 rfl ?_
          exact z_iret hx hF dX11_go_114 rfl rfl ⟨by unfold aGo; first | (rw [zII_t ⟨⟨zj, zhj, rfl⟩, ⟨ze, Nat.zero_le _, zhe, rfl⟩⟩, zNat_nI (by omega), show lS L = k by omega, if_pos (by rw [show ze = 0 by omega])]) | (rw [zII_t ⟨⟨zj, zhj, rfl⟩, ⟨ze, Nat.zero_le _, zhe, rfl⟩⟩, zNat_nI (by omega), show lS L = k by omega, if_neg (nI_ne (by omega) (by omega) (by omega))]) | exact zzz_open, _, _, _, rfl⟩
        · skip
          refine z_iload_n hx dX11_go_108 rfl ?_
          refine z_goto (tgt := 114) hx dX11_go_109 (by decide) ?_
          exact z_iret hx hF dX11_go_114 rfl rfl ⟨by unfold aGo; first | (rw [zII_t ⟨⟨zj, zhj, rfl⟩, ⟨ze, Nat.zero_le _, zhe, rfl⟩⟩, zNat_nI (by omega), show lS L = k by omega, if_pos (by rw [show ze = 0 by omega])]) | (rw [zII_t ⟨⟨zj, zhj, rfl⟩, ⟨ze, Nat.zero_le _, zhe, rfl⟩⟩, zNat_nI (by omega), show lS L = k by omega, if_neg (nI_ne (by omega) (by omega) (by omega))]) | exact zzz_open, _, _, _, rfl⟩
      · skip
        refine z_iload hx dX11_go_42 rfl ?_
        refine z_aload_n hx dX11_go_44 rfl ?_
        refine z_get hx dX11_go_45 fX11_45 hC_0 rfl ?_
        refine z_get hx dX11_go_48 fX11_178 hC_15 rfl ?_
        refine z_iload_n hx dX11_go_51 rfl ?_
        refine z_ialdJ hx dX11_go_52 hC_19 (by decide) (by omega) ?_
        first | refine z_icmp_neN (tgt := 61) hx dX11_go_53 (by decide) (by omega) (by omega) (fun zc53 => ?_) (fun zc53 => ?_) | refine z_icmp_ne (tgt := 61) hx dX11_go_53 (by decide) (fun zc53 => ?_) (fun zc53 => ?_)
        · skip
          refine z_aload_n hx dX11_go_61 rfl ?_
          refine z_iload_n hx dX11_go_62 rfl ?_
          refine z_iload hx dX11_go_63 rfl ?_
          refine z_callivG hx (qX11_soonFrom r t i y a f L cr ho P pr po hw hm zj k zhj (by omega)) dX11_go_65 sX11_222 hC_0 rfl rfl rfl (Nat.le_of_ble_eq_true rfl) rfl (Nat.le_of_ble_eq_true rfl) (by decide) (fun r65 u65 l65 q65 => ?_)
          obtain ⟨rfl, p9, rfl⟩ := q65
          obtain ⟨P, pr, po⟩ := p9
          first | refine z_top (b := tN (zGz L zj k)) (by unfold zGz; rw [if_pos zc53]; rfl) ?_ | refine z_top (b := tN (zGz L zj k)) (by unfold zGz; rw [if_neg zc53]) ?_
          refine z_istore hx dX11_go_68 (Nat.le_of_ble_eq_true rfl) rfl ?_
          rcases hz9 : zGz L zj k with _ | d9
          · skip
            skip
            refine z_iload hx dX11_go_70 rfl ?_
            refine z_ldc hx dX11_go_72 kX11_205 ?_
            refine z_icmp_eq (tgt := 98) hx dX11_go_74 (by decide) (fun zc74 => ?_) (fun zc74 => ?_)
            · skip
              first | refine z_iincN (z := 1) hx dX11_go_98 rfl rfl ?_ | refine z_iinc hx dX11_go_98 rfl rfl rfl ?_
              refine z_goto (tgt := 30) hx dX11_go_101 (by decide) ?_
              first | exact absurd rfl zc74 | exact absurd zc74 (tN_ne (by omega)) | exact absurd rfl zc81 | exact absurd zc81 (tN_ne (by omega)) | exact z_kill 6 (z_eq (by rw [zGo_n hz9] <;> rfl) rfl rfl (ih _ (by omega) (k + 1) _ _ _ rfl (by omega))) | exact z_kill 6 (z_eq (by rw [zGo_t hz9 (by rw [hs9]; exact zLess_n)] <;> rfl) rfl rfl (ih _ (by omega) (k + 1) _ _ _ rfl (by omega))) | exact z_kill 6 (z_eq (by rw [zGo_t hz9 (by rw [hs9]; exact zLess_s (by omega))] <;> rfl) rfl rfl (ih _ (by omega) (k + 1) _ _ _ rfl (by omega))) | exact z_kill 6 (z_eq (by rw [zGo_f hz9 (by rw [hs9]; exact zLess_f (by omega)), hs9] <;> rfl) rfl rfl (ih _ (by omega) (k + 1) _ _ _ rfl (by omega))) | exact zzz_open
            · skip
              rcases hs9 : (zGo L zj k).2 with _ | s9
              · skip
                refine z_iload hx dX11_go_77 rfl ?_
                refine z_ldc hx dX11_go_79 kX11_205 ?_
                refine z_icmp_eq (tgt := 91) hx dX11_go_81 (by decide) (fun zc81 => ?_) (fun zc81 => ?_)
                · skip
                  refine z_iload hx dX11_go_91 rfl ?_
                  refine z_istore_n hx dX11_go_93 (Nat.le_of_ble_eq_true rfl) rfl ?_
                  refine z_iload hx dX11_go_94 rfl ?_
                  refine z_istore hx dX11_go_96 (Nat.le_of_ble_eq_true rfl) rfl ?_
                  first | refine z_iincN (z := 1) hx dX11_go_98 rfl rfl ?_ | refine z_iinc hx dX11_go_98 rfl rfl rfl ?_
                  refine z_goto (tgt := 30) hx dX11_go_101 (by decide) ?_
                  first | exact absurd rfl zc74 | exact absurd zc74 (tN_ne (by omega)) | exact absurd rfl zc81 | exact absurd zc81 (tN_ne (by omega)) | exact z_kill 6 (z_eq (by rw [zGo_n hz9] <;> rfl) rfl rfl (ih _ (by omega) (k + 1) _ _ _ rfl (by omega))) | exact z_kill 6 (z_eq (by rw [zGo_t hz9 (by rw [hs9]; exact zLess_n)] <;> rfl) rfl rfl (ih _ (by omega) (k + 1) _ _ _ rfl (by omega))) | exact z_kill 6 (z_eq (by rw [zGo_t hz9 (by rw [hs9]; exact zLess_s (by omega))] <;> rfl) rfl rfl (ih _ (by omega) (k + 1) _ _ _ rfl (by omega))) | exact z_kill 6 (z_eq (by rw [zGo_f hz9 (by rw [hs9]; exact zLess_f (by omega)), hs9] <;> rfl) rfl rfl (ih _ (by omega) (k + 1) _ _ _ rfl (by omega))) | exact zzz_open
                · skip
                  refine z_iload hx dX11_go_84 rfl ?_
                  refine z_iload hx dX11_go_86 rfl ?_
                  first | refine z_icmp_geN (tgt := 98) hx dX11_go_88 (by decide) (by omega) (by omega) (fun zc88 => ?_) (fun zc88 => ?_) | refine z_icmp_ge (tgt := 98) hx dX11_go_88 (by decide) (fun zc88 => ?_) (fun zc88 => ?_)
                  · skip
                    first | refine z_iincN (z := 1) hx dX11_go_98 rfl rfl ?_ | refine z_iinc hx dX11_go_98 rfl rfl rfl ?_
                    refine z_goto (tgt := 30) hx dX11_go_101 (by decide) ?_
                    first | exact absurd rfl zc74 | exact absurd zc74 (tN_ne (by omega)) | exact absurd rfl zc81 | exact absurd zc81 (tN_ne (by omega)) | exact z_kill 6 (z_eq (by rw [zGo_n hz9] <;> rfl) rfl rfl (ih _ (by omega) (k + 1) _ _ _ rfl (by omega))) | exact z_kill 6 (z_eq (by rw [zGo_t hz9 (by rw [hs9]; exact zLess_n)] <;> rfl) rfl rfl (ih _ (by omega) (k + 1) _ _ _ rfl (by omega))) | exact z_kill 6 (z_eq (by rw [zGo_t hz9 (by rw [hs9]; exact zLess_s (by omega))] <;> rfl) rfl rfl (ih _ (by omega) (k + 1) _ _ _ rfl (by omega))) | exact z_kill 6 (z_eq (by rw [zGo_f hz9 (by rw [hs9]; exact zLess_f (by omega)), hs9] <;> rfl) rfl rfl (ih _ (by omega) (k + 1) _ _ _ rfl (by omega))) | exact zzz_open
                  · skip
                    refine z_iload hx dX11_go_91 rfl ?_
                    refine z_istore_n hx dX11_go_93 (Nat.le_of_ble_eq_true rfl) rfl ?_
                    refine z_iload hx dX11_go_94 rfl ?_
                    refine z_istore hx dX11_go_96 (Nat.le_of_ble_eq_true rfl) rfl ?_
                    first | refine z_iincN (z := 1) hx dX11_go_98 rfl rfl ?_ | refine z_iinc hx dX11_go_98 rfl rfl rfl ?_
                    refine z_goto (tgt := 30) hx dX11_go_101 (by decide) ?_
                    first | exact absurd rfl zc74 | exact absurd zc74 (tN_ne (by omega)) | exact absurd rfl zc81 | exact absurd zc81 (tN_ne (by omega)) | exact z_kill 6 (z_eq (by rw [zGo_n hz9] <;> rfl) rfl rfl (ih _ (by omega) (k + 1) _ _ _ rfl (by omega))) | exact z_kill 6 (z_eq (by rw [zGo_t hz9 (by rw [hs9]; exact zLess_n)] <;> rfl) rfl rfl (ih _ (by omega) (k + 1) _ _ _ rfl (by omega))) | exact z_kill 6 (z_eq (by rw [zGo_t hz9 (by rw [hs9]; exact zLess_s (by omega))] <;> rfl) rfl rfl (ih _ (by omega) (k + 1) _ _ _ rfl (by omega))) | exact z_kill 6 (z_eq (by rw [zGo_f hz9 (by rw [hs9]; exact zLess_f (by omega)), hs9] <;> rfl) rfl rfl (ih _ (by omega) (k + 1) _ _ _ rfl (by omega))) | exact zzz_open
              · skip
                have s60 := zGo_le k s9 hs9
                refine z_iload hx dX11_go_77 rfl ?_
                refine z_ldc hx dX11_go_79 kX11_205 ?_
                refine z_icmp_eq (tgt := 91) hx dX11_go_81 (by decide) (fun zc81 => ?_) (fun zc81 => ?_)
                · skip
                  refine z_iload hx dX11_go_91 rfl ?_
                  refine z_istore_n hx dX11_go_93 (Nat.le_of_ble_eq_true rfl) rfl ?_
                  refine z_iload hx dX11_go_94 rfl ?_
                  refine z_istore hx dX11_go_96 (Nat.le_of_ble_eq_true rfl) rfl ?_
                  first | refine z_iincN (z := 1) hx dX11_go_98 rfl rfl ?_ | refine z_iinc hx dX11_go_98 rfl rfl rfl ?_
                  refine z_goto (tgt := 30) hx dX11_go_101 (by decide) ?_
                  first | exact absurd rfl zc74 | exact absurd zc74 (tN_ne (by omega)) | exact absurd rfl zc81 | exact absurd zc81 (tN_ne (by omega)) | exact z_kill 6 (z_eq (by rw [zGo_n hz9] <;> rfl) rfl rfl (ih _ (by omega) (k + 1) _ _ _ rfl (by omega))) | exact z_kill 6 (z_eq (by rw [zGo_t hz9 (by rw [hs9]; exact zLess_n)] <;> rfl) rfl rfl (ih _ (by omega) (k + 1) _ _ _ rfl (by omega))) | exact z_kill 6 (z_eq (by rw [zGo_t hz9 (by rw [hs9]; exact zLess_s (by omega))] <;> rfl) rfl rfl (ih _ (by omega) (k + 1) _ _ _ rfl (by omega))) | exact z_kill 6 (z_eq (by rw [zGo_f hz9 (by rw [hs9]; exact zLess_f (by omega)), hs9] <;> rfl) rfl rfl (ih _ (by omega) (k + 1) _ _ _ rfl (by omega))) | exact zzz_open
                · skip
                  refine z_iload hx dX11_go_84 rfl ?_
                  refine z_iload hx dX11_go_86 rfl ?_
                  first | refine z_icmp_geN (tgt := 98) hx dX11_go_88 (by decide) (by omega) (by omega) (fun zc88 => ?_) (fun zc88 => ?_) | refine z_icmp_ge (tgt := 98) hx dX11_go_88 (by decide) (fun zc88 => ?_) (fun zc88 => ?_)
                  · skip
                    first | refine z_iincN (z := 1) hx dX11_go_98 rfl rfl ?_ | refine z_iinc hx dX11_go_98 rfl rfl rfl ?_
                    refine z_goto (tgt := 30) hx dX11_go_101 (by decide) ?_
                    first | exact absurd rfl zc74 | exact absurd zc74 (tN_ne (by omega)) | exact absurd rfl zc81 | exact absurd zc81 (tN_ne (by omega)) | exact z_kill 6 (z_eq (by rw [zGo_n hz9] <;> rfl) rfl rfl (ih _ (by omega) (k + 1) _ _ _ rfl (by omega))) | exact z_kill 6 (z_eq (by rw [zGo_t hz9 (by rw [hs9]; exact zLess_n)] <;> rfl) rfl rfl (ih _ (by omega) (k + 1) _ _ _ rfl (by omega))) | exact z_kill 6 (z_eq (by rw [zGo_t hz9 (by rw [hs9]; exact zLess_s (by omega))] <;> rfl) rfl rfl (ih _ (by omega) (k + 1) _ _ _ rfl (by omega))) | exact z_kill 6 (z_eq (by rw [zGo_f hz9 (by rw [hs9]; exact zLess_f (by omega)), hs9] <;> rfl) rfl rfl (ih _ (by omega) (k + 1) _ _ _ rfl (by omega))) | exact zzz_open
                  · skip
                    refine z_iload hx dX11_go_91 rfl ?_
                    refine z_istore_n hx dX11_go_93 (Nat.le_of_ble_eq_true rfl) rfl ?_
                    refine z_iload hx dX11_go_94 rfl ?_
                    refine z_istore hx dX11_go_96 (Nat.le_of_ble_eq_true rfl) rfl ?_
                    first | refine z_iincN (z := 1) hx dX11_go_98 rfl rfl ?_ | refine z_iinc hx dX11_go_98 rfl rfl rfl ?_
                    refine z_goto (tgt := 30) hx dX11_go_101 (by decide) ?_
                    first | exact absurd rfl zc74 | exact absurd zc74 (tN_ne (by omega)) | exact absurd rfl zc81 | exact absurd zc81 (tN_ne (by omega)) | exact z_kill 6 (z_eq (by rw [zGo_n hz9] <;> rfl) rfl rfl (ih _ (by omega) (k + 1) _ _ _ rfl (by omega))) | exact z_kill 6 (z_eq (by rw [zGo_t hz9 (by rw [hs9]; exact zLess_n)] <;> rfl) rfl rfl (ih _ (by omega) (k + 1) _ _ _ rfl (by omega))) | exact z_kill 6 (z_eq (by rw [zGo_t hz9 (by rw [hs9]; exact zLess_s (by omega))] <;> rfl) rfl rfl (ih _ (by omega) (k + 1) _ _ _ rfl (by omega))) | exact z_kill 6 (z_eq (by rw [zGo_f hz9 (by rw [hs9]; exact zLess_f (by omega)), hs9] <;> rfl) rfl rfl (ih _ (by omega) (k + 1) _ _ _ rfl (by omega))) | exact zzz_open
          · skip
            have d60 := zGz_le hz9
            refine z_iload hx dX11_go_70 rfl ?_
            refine z_ldc hx dX11_go_72 kX11_205 ?_
            refine z_icmp_eq (tgt := 98) hx dX11_go_74 (by decide) (fun zc74 => ?_) (fun zc74 => ?_)
            · skip
              first | refine z_iincN (z := 1) hx dX11_go_98 rfl rfl ?_ | refine z_iinc hx dX11_go_98 rfl rfl rfl ?_
              refine z_goto (tgt := 30) hx dX11_go_101 (by decide) ?_
              first | exact absurd rfl zc74 | exact absurd zc74 (tN_ne (by omega)) | exact absurd rfl zc81 | exact absurd zc81 (tN_ne (by omega)) | exact z_kill 6 (z_eq (by rw [zGo_n hz9] <;> rfl) rfl rfl (ih _ (by omega) (k + 1) _ _ _ rfl (by omega))) | exact z_kill 6 (z_eq (by rw [zGo_t hz9 (by rw [hs9]; exact zLess_n)] <;> rfl) rfl rfl (ih _ (by omega) (k + 1) _ _ _ rfl (by omega))) | exact z_kill 6 (z_eq (by rw [zGo_t hz9 (by rw [hs9]; exact zLess_s (by omega))] <;> rfl) rfl rfl (ih _ (by omega) (k + 1) _ _ _ rfl (by omega))) | exact z_kill 6 (z_eq (by rw [zGo_f hz9 (by rw [hs9]; exact zLess_f (by omega)), hs9] <;> rfl) rfl rfl (ih _ (by omega) (k + 1) _ _ _ rfl (by omega))) | exact zzz_open
            · skip
              rcases hs9 : (zGo L zj k).2 with _ | s9
              · skip
                refine z_iload hx dX11_go_77 rfl ?_
                refine z_ldc hx dX11_go_79 kX11_205 ?_
                refine z_icmp_eq (tgt := 91) hx dX11_go_81 (by decide) (fun zc81 => ?_) (fun zc81 => ?_)
                · skip
                  refine z_iload hx dX11_go_91 rfl ?_
                  refine z_istore_n hx dX11_go_93 (Nat.le_of_ble_eq_true rfl) rfl ?_
                  refine z_iload hx dX11_go_94 rfl ?_
                  refine z_istore hx dX11_go_96 (Nat.le_of_ble_eq_true rfl) rfl ?_
                  first | refine z_iincN (z := 1) hx dX11_go_98 rfl rfl ?_ | refine z_iinc hx dX11_go_98 rfl rfl rfl ?_
                  refine z_goto (tgt := 30) hx dX11_go_101 (by decide) ?_
                  first | exact absurd rfl zc74 | exact absurd zc74 (tN_ne (by omega)) | exact absurd rfl zc81 | exact absurd zc81 (tN_ne (by omega)) | exact z_kill 6 (z_eq (by rw [zGo_n hz9] <;> rfl) rfl rfl (ih _ (by omega) (k + 1) _ _ _ rfl (by omega))) | exact z_kill 6 (z_eq (by rw [zGo_t hz9 (by rw [hs9]; exact zLess_n)] <;> rfl) rfl rfl (ih _ (by omega) (k + 1) _ _ _ rfl (by omega))) | exact z_kill 6 (z_eq (by rw [zGo_t hz9 (by rw [hs9]; exact zLess_s (by omega))] <;> rfl) rfl rfl (ih _ (by omega) (k + 1) _ _ _ rfl (by omega))) | exact z_kill 6 (z_eq (by rw [zGo_f hz9 (by rw [hs9]; exact zLess_f (by omega)), hs9] <;> rfl) rfl rfl (ih _ (by omega) (k + 1) _ _ _ rfl (by omega))) | exact zzz_open
                · skip
                  refine z_iload hx dX11_go_84 rfl ?_
                  refine z_iload hx dX11_go_86 rfl ?_
                  first | refine z_icmp_geN (tgt := 98) hx dX11_go_88 (by decide) (by omega) (by omega) (fun zc88 => ?_) (fun zc88 => ?_) | refine z_icmp_ge (tgt := 98) hx dX11_go_88 (by decide) (fun zc88 => ?_) (fun zc88 => ?_)
                  · skip
                    first | refine z_iincN (z := 1) hx dX11_go_98 rfl rfl ?_ | refine z_iinc hx dX11_go_98 rfl rfl rfl ?_
                    refine z_goto (tgt := 30) hx dX11_go_101 (by decide) ?_
                    first | exact absurd rfl zc74 | exact absurd zc74 (tN_ne (by omega)) | exact absurd rfl zc81 | exact absurd zc81 (tN_ne (by omega)) | exact z_kill 6 (z_eq (by rw [zGo_n hz9] <;> rfl) rfl rfl (ih _ (by omega) (k + 1) _ _ _ rfl (by omega))) | exact z_kill 6 (z_eq (by rw [zGo_t hz9 (by rw [hs9]; exact zLess_n)] <;> rfl) rfl rfl (ih _ (by omega) (k + 1) _ _ _ rfl (by omega))) | exact z_kill 6 (z_eq (by rw [zGo_t hz9 (by rw [hs9]; exact zLess_s (by omega))] <;> rfl) rfl rfl (ih _ (by omega) (k + 1) _ _ _ rfl (by omega))) | exact z_kill 6 (z_eq (by rw [zGo_f hz9 (by rw [hs9]; exact zLess_f (by omega)), hs9] <;> rfl) rfl rfl (ih _ (by omega) (k + 1) _ _ _ rfl (by omega))) | exact zzz_open
                  · skip
                    refine z_iload hx dX11_go_91 rfl ?_
                    refine z_istore_n hx dX11_go_93 (Nat.le_of_ble_eq_true rfl) rfl ?_
                    refine z_iload hx dX11_go_94 rfl ?_
                    refine z_istore hx dX11_go_96 (Nat.le_of_ble_eq_true rfl) rfl ?_
                    first | refine z_iincN (z := 1) hx dX11_go_98 rfl rfl ?_ | refine z_iinc hx dX11_go_98 rfl rfl rfl ?_
                    refine z_goto (tgt := 30) hx dX11_go_101 (by decide) ?_
                    first | exact absurd rfl zc74 | exact absurd zc74 (tN_ne (by omega)) | exact absurd rfl zc81 | exact absurd zc81 (tN_ne (by omega)) | exact z_kill 6 (z_eq (by rw [zGo_n hz9] <;> rfl) rfl rfl (ih _ (by omega) (k + 1) _ _ _ rfl (by omega))) | exact z_kill 6 (z_eq (by rw [zGo_t hz9 (by rw [hs9]; exact zLess_n)] <;> rfl) rfl rfl (ih _ (by omega) (k + 1) _ _ _ rfl (by omega))) | exact z_kill 6 (z_eq (by rw [zGo_t hz9 (by rw [hs9]; exact zLess_s (by omega))] <;> rfl) rfl rfl (ih _ (by omega) (k + 1) _ _ _ rfl (by omega))) | exact z_kill 6 (z_eq (by rw [zGo_f hz9 (by rw [hs9]; exact zLess_f (by omega)), hs9] <;> rfl) rfl rfl (ih _ (by omega) (k + 1) _ _ _ rfl (by omega))) | exact zzz_open
              · skip
                have s60 := zGo_le k s9 hs9
                refine z_iload hx dX11_go_77 rfl ?_
                refine z_ldc hx dX11_go_79 kX11_205 ?_
                refine z_icmp_eq (tgt := 91) hx dX11_go_81 (by decide) (fun zc81 => ?_) (fun zc81 => ?_)
                · skip
                  refine z_iload hx dX11_go_91 rfl ?_
                  refine z_istore_n hx dX11_go_93 (Nat.le_of_ble_eq_true rfl) rfl ?_
                  refine z_iload hx dX11_go_94 rfl ?_
                  refine z_istore hx dX11_go_96 (Nat.le_of_ble_eq_true rfl) rfl ?_
                  first | refine z_iincN (z := 1) hx dX11_go_98 rfl rfl ?_ | refine z_iinc hx dX11_go_98 rfl rfl rfl ?_
                  refine z_goto (tgt := 30) hx dX11_go_101 (by decide) ?_
                  first | exact absurd rfl zc74 | exact absurd zc74 (tN_ne (by omega)) | exact absurd rfl zc81 | exact absurd zc81 (tN_ne (by omega)) | exact z_kill 6 (z_eq (by rw [zGo_n hz9] <;> rfl) rfl rfl (ih _ (by omega) (k + 1) _ _ _ rfl (by omega))) | exact z_kill 6 (z_eq (by rw [zGo_t hz9 (by rw [hs9]; exact zLess_n)] <;> rfl) rfl rfl (ih _ (by omega) (k + 1) _ _ _ rfl (by omega))) | exact z_kill 6 (z_eq (by rw [zGo_t hz9 (by rw [hs9]; exact zLess_s (by omega))] <;> rfl) rfl rfl (ih _ (by omega) (k + 1) _ _ _ rfl (by omega))) | exact z_kill 6 (z_eq (by rw [zGo_f hz9 (by rw [hs9]; exact zLess_f (by omega)), hs9] <;> rfl) rfl rfl (ih _ (by omega) (k + 1) _ _ _ rfl (by omega))) | exact zzz_open
                · skip
                  refine z_iload hx dX11_go_84 rfl ?_
                  refine z_iload hx dX11_go_86 rfl ?_
                  first | refine z_icmp_geN (tgt := 98) hx dX11_go_88 (by decide) (by omega) (by omega) (fun zc88 => ?_) (fun zc88 => ?_) | refine z_icmp_ge (tgt := 98) hx dX11_go_88 (by decide) (fun zc88 => ?_) (fun zc88 => ?_)
                  · skip
                    first | refine z_iincN (z := 1) hx dX11_go_98 rfl rfl ?_ | refine z_iinc hx dX11_go_98 rfl rfl rfl ?_
                    refine z_goto (tgt := 30) hx dX11_go_101 (by decide) ?_
                    first | exact absurd rfl zc74 | exact absurd zc74 (tN_ne (by omega)) | exact absurd rfl zc81 | exact absurd zc81 (tN_ne (by omega)) | exact z_kill 6 (z_eq (by rw [zGo_n hz9] <;> rfl) rfl rfl (ih _ (by omega) (k + 1) _ _ _ rfl (by omega))) | exact z_kill 6 (z_eq (by rw [zGo_t hz9 (by rw [hs9]; exact zLess_n)] <;> rfl) rfl rfl (ih _ (by omega) (k + 1) _ _ _ rfl (by omega))) | exact z_kill 6 (z_eq (by rw [zGo_t hz9 (by rw [hs9]; exact zLess_s (by omega))] <;> rfl) rfl rfl (ih _ (by omega) (k + 1) _ _ _ rfl (by omega))) | exact z_kill 6 (z_eq (by rw [zGo_f hz9 (by rw [hs9]; exact zLess_f (by omega)), hs9] <;> rfl) rfl rfl (ih _ (by omega) (k + 1) _ _ _ rfl (by omega))) | exact zzz_open
                  · skip
                    refine z_iload hx dX11_go_91 rfl ?_
                    refine z_istore_n hx dX11_go_93 (Nat.le_of_ble_eq_true rfl) rfl ?_
                    refine z_iload hx dX11_go_94 rfl ?_
                    refine z_istore hx dX11_go_96 (Nat.le_of_ble_eq_true rfl) rfl ?_
                    first | refine z_iincN (z := 1) hx dX11_go_98 rfl rfl ?_ | refine z_iinc hx dX11_go_98 rfl rfl rfl ?_
                    refine z_goto (tgt := 30) hx dX11_go_101 (by decide) ?_
                    first | exact absurd rfl zc74 | exact absurd zc74 (tN_ne (by omega)) | exact absurd rfl zc81 | exact absurd zc81 (tN_ne (by omega)) | exact z_kill 6 (z_eq (by rw [zGo_n hz9] <;> rfl) rfl rfl (ih _ (by omega) (k + 1) _ _ _ rfl (by omega))) | exact z_kill 6 (z_eq (by rw [zGo_t hz9 (by rw [hs9]; exact zLess_n)] <;> rfl) rfl rfl (ih _ (by omega) (k + 1) _ _ _ rfl (by omega))) | exact z_kill 6 (z_eq (by rw [zGo_t hz9 (by rw [hs9]; exact zLess_s (by omega))] <;> rfl) rfl rfl (ih _ (by omega) (k + 1) _ _ _ rfl (by omega))) | exact z_kill 6 (z_eq (by rw [zGo_f hz9 (by rw [hs9]; exact zLess_f (by omega)), hs9] <;> rfl) rfl rfl (ih _ (by omega) (k + 1) _ _ _ rfl (by omega))) | exact zzz_open
        · skip
          refine z_ldc hx dX11_go_56 kX11_205 ?_
          refine z_goto (tgt := 68) hx dX11_go_58 (by decide) ?_
          first | refine z_top (b := tN (zGz L zj k)) (by unfold zGz; rw [if_pos zc53]; rfl) ?_ | refine z_top (b := tN (zGz L zj k)) (by unfold zGz; rw [if_neg zc53]) ?_
          refine z_istore hx dX11_go_68 (Nat.le_of_ble_eq_true rfl) rfl ?_
          rcases hz9 : zGz L zj k with _ | d9
          · skip
            skip
            refine z_iload hx dX11_go_70 rfl ?_
            refine z_ldc hx dX11_go_72 kX11_205 ?_
            refine z_icmp_eq (tgt := 98) hx dX11_go_74 (by decide) (fun zc74 => ?_) (fun zc74 => ?_)
            · skip
              first | refine z_iincN (z := 1) hx dX11_go_98 rfl rfl ?_ | refine z_iinc hx dX11_go_98 rfl rfl rfl ?_
              refine z_goto (tgt := 30) hx dX11_go_101 (by decide) ?_
              first | exact absurd rfl zc74 | exact absurd zc74 (tN_ne (by omega)) | exact absurd rfl zc81 | exact absurd zc81 (tN_ne (by omega)) | exact z_kill 6 (z_eq (by rw [zGo_n hz9] <;> rfl) rfl rfl (ih _ (by omega) (k + 1) _ _ _ rfl (by omega))) | exact z_kill 6 (z_eq (by rw [zGo_t hz9 (by rw [hs9]; exact zLess_n)] <;> rfl) rfl rfl (ih _ (by omega) (k + 1) _ _ _ rfl (by omega))) | exact z_kill 6 (z_eq (by rw [zGo_t hz9 (by rw [hs9]; exact zLess_s (by omega))] <;> rfl) rfl rfl (ih _ (by omega) (k + 1) _ _ _ rfl (by omega))) | exact z_kill 6 (z_eq (by rw [zGo_f hz9 (by rw [hs9]; exact zLess_f (by omega)), hs9] <;> rfl) rfl rfl (ih _ (by omega) (k + 1) _ _ _ rfl (by omega))) | exact zzz_open
            · skip
              rcases hs9 : (zGo L zj k).2 with _ | s9
              · skip
                refine z_iload hx dX11_go_77 rfl ?_
                refine z_ldc hx dX11_go_79 kX11_205 ?_
                refine z_icmp_eq (tgt := 91) hx dX11_go_81 (by decide) (fun zc81 => ?_) (fun zc81 => ?_)
                · skip
                  refine z_iload hx dX11_go_91 rfl ?_
                  refine z_istore_n hx dX11_go_93 (Nat.le_of_ble_eq_true rfl) rfl ?_
                  refine z_iload hx dX11_go_94 rfl ?_
                  refine z_istore hx dX11_go_96 (Nat.le_of_ble_eq_true rfl) rfl ?_
                  first | refine z_iincN (z := 1) hx dX11_go_98 rfl rfl ?_ | refine z_iinc hx dX11_go_98 rfl rfl rfl ?_
                  refine z_goto (tgt := 30) hx dX11_go_101 (by decide) ?_
                  first | exact absurd rfl zc74 | exact absurd zc74 (tN_ne (by omega)) | exact absurd rfl zc81 | exact absurd zc81 (tN_ne (by omega)) | exact z_kill 6 (z_eq (by rw [zGo_n hz9] <;> rfl) rfl rfl (ih _ (by omega) (k + 1) _ _ _ rfl (by omega))) | exact z_kill 6 (z_eq (by rw [zGo_t hz9 (by rw [hs9]; exact zLess_n)] <;> rfl) rfl rfl (ih _ (by omega) (k + 1) _ _ _ rfl (by omega))) | exact z_kill 6 (z_eq (by rw [zGo_t hz9 (by rw [hs9]; exact zLess_s (by omega))] <;> rfl) rfl rfl (ih _ (by omega) (k + 1) _ _ _ rfl (by omega))) | exact z_kill 6 (z_eq (by rw [zGo_f hz9 (by rw [hs9]; exact zLess_f (by omega)), hs9] <;> rfl) rfl rfl (ih _ (by omega) (k + 1) _ _ _ rfl (by omega))) | exact zzz_open
                · skip
                  refine z_iload hx dX11_go_84 rfl ?_
                  refine z_iload hx dX11_go_86 rfl ?_
                  first | refine z_icmp_geN (tgt := 98) hx dX11_go_88 (by decide) (by omega) (by omega) (fun zc88 => ?_) (fun zc88 => ?_) | refine z_icmp_ge (tgt := 98) hx dX11_go_88 (by decide) (fun zc88 => ?_) (fun zc88 => ?_)
                  · skip
                    first | refine z_iincN (z := 1) hx dX11_go_98 rfl rfl ?_ | refine z_iinc hx dX11_go_98 rfl rfl rfl ?_
                    refine z_goto (tgt := 30) hx dX11_go_101 (by decide) ?_
                    first | exact absurd rfl zc74 | exact absurd zc74 (tN_ne (by omega)) | exact absurd rfl zc81 | exact absurd zc81 (tN_ne (by omega)) | exact z_kill 6 (z_eq (by rw [zGo_n hz9] <;> rfl) rfl rfl (ih _ (by omega) (k + 1) _ _ _ rfl (by omega))) | exact z_kill 6 (z_eq (by rw [zGo_t hz9 (by rw [hs9]; exact zLess_n)] <;> rfl) rfl rfl (ih _ (by omega) (k + 1) _ _ _ rfl (by omega))) | exact z_kill 6 (z_eq (by rw [zGo_t hz9 (by rw [hs9]; exact zLess_s (by omega))] <;> rfl) rfl rfl (ih _ (by omega) (k + 1) _ _ _ rfl (by omega))) | exact z_kill 6 (z_eq (by rw [zGo_f hz9 (by rw [hs9]; exact zLess_f (by omega)), hs9] <;> rfl) rfl rfl (ih _ (by omega) (k + 1) _ _ _ rfl (by omega))) | exact zzz_open
                  · skip
                    refine z_iload hx dX11_go_91 rfl ?_
                    refine z_istore_n hx dX11_go_93 (Nat.le_of_ble_eq_true rfl) rfl ?_
                    refine z_iload hx dX11_go_94 rfl ?_
                    refine z_istore hx dX11_go_96 (Nat.le_of_ble_eq_true rfl) rfl ?_
                    first | refine z_iincN (z := 1) hx dX11_go_98 rfl rfl ?_ | refine z_iinc hx dX11_go_98 rfl rfl rfl ?_
                    refine z_goto (tgt := 30) hx dX11_go_101 (by decide) ?_
                    first | exact absurd rfl zc74 | exact absurd zc74 (tN_ne (by omega)) | exact absurd rfl zc81 | exact absurd zc81 (tN_ne (by omega)) | exact z_kill 6 (z_eq (by rw [zGo_n hz9] <;> rfl) rfl rfl (ih _ (by omega) (k + 1) _ _ _ rfl (by omega))) | exact z_kill 6 (z_eq (by rw [zGo_t hz9 (by rw [hs9]; exact zLess_n)] <;> rfl) rfl rfl (ih _ (by omega) (k + 1) _ _ _ rfl (by omega))) | exact z_kill 6 (z_eq (by rw [zGo_t hz9 (by rw [hs9]; exact zLess_s (by omega))] <;> rfl) rfl rfl (ih _ (by omega) (k + 1) _ _ _ rfl (by omega))) | exact z_kill 6 (z_eq (by rw [zGo_f hz9 (by rw [hs9]; exact zLess_f (by omega)), hs9] <;> rfl) rfl rfl (ih _ (by omega) (k + 1) _ _ _ rfl (by omega))) | exact zzz_open
              · skip
                have s60 := zGo_le k s9 hs9
                refine z_iload hx dX11_go_77 rfl ?_
                refine z_ldc hx dX11_go_79 kX11_205 ?_
                refine z_icmp_eq (tgt := 91) hx dX11_go_81 (by decide) (fun zc81 => ?_) (fun zc81 => ?_)
                · skip
                  refine z_iload hx dX11_go_91 rfl ?_
                  refine z_istore_n hx dX11_go_93 (Nat.le_of_ble_eq_true rfl) rfl ?_
                  refine z_iload hx dX11_go_94 rfl ?_
                  refine z_istore hx dX11_go_96 (Nat.le_of_ble_eq_true rfl) rfl ?_
                  first | refine z_iincN (z := 1) hx dX11_go_98 rfl rfl ?_ | refine z_iinc hx dX11_go_98 rfl rfl rfl ?_
                  refine z_goto (tgt := 30) hx dX11_go_101 (by decide) ?_
                  first | exact absurd rfl zc74 | exact absurd zc74 (tN_ne (by omega)) | exact absurd rfl zc81 | exact absurd zc81 (tN_ne (by omega)) | exact z_kill 6 (z_eq (by rw [zGo_n hz9] <;> rfl) rfl rfl (ih _ (by omega) (k + 1) _ _ _ rfl (by omega))) | exact z_kill 6 (z_eq (by rw [zGo_t hz9 (by rw [hs9]; exact zLess_n)] <;> rfl) rfl rfl (ih _ (by omega) (k + 1) _ _ _ rfl (by omega))) | exact z_kill 6 (z_eq (by rw [zGo_t hz9 (by rw [hs9]; exact zLess_s (by omega))] <;> rfl) rfl rfl (ih _ (by omega) (k + 1) _ _ _ rfl (by omega))) | exact z_kill 6 (z_eq (by rw [zGo_f hz9 (by rw [hs9]; exact zLess_f (by omega)), hs9] <;> rfl) rfl rfl (ih _ (by omega) (k + 1) _ _ _ rfl (by omega))) | exact zzz_open
                · skip
                  refine z_iload hx dX11_go_84 rfl ?_
                  refine z_iload hx dX11_go_86 rfl ?_
                  first | refine z_icmp_geN (tgt := 98) hx dX11_go_88 (by decide) (by omega) (by omega) (fun zc88 => ?_) (fun zc88 => ?_) | refine z_icmp_ge (tgt := 98) hx dX11_go_88 (by decide) (fun zc88 => ?_) (fun zc88 => ?_)
                  · skip
                    first | refine z_iincN (z := 1) hx dX11_go_98 rfl rfl ?_ | refine z_iinc hx dX11_go_98 rfl rfl rfl ?_
                    refine z_goto (tgt := 30) hx dX11_go_101 (by decide) ?_
                    first | exact absurd rfl zc74 | exact absurd zc74 (tN_ne (by omega)) | exact absurd rfl zc81 | exact absurd zc81 (tN_ne (by omega)) | exact z_kill 6 (z_eq (by rw [zGo_n hz9] <;> rfl) rfl rfl (ih _ (by omega) (k + 1) _ _ _ rfl (by omega))) | exact z_kill 6 (z_eq (by rw [zGo_t hz9 (by rw [hs9]; exact zLess_n)] <;> rfl) rfl rfl (ih _ (by omega) (k + 1) _ _ _ rfl (by omega))) | exact z_kill 6 (z_eq (by rw [zGo_t hz9 (by rw [hs9]; exact zLess_s (by omega))] <;> rfl) rfl rfl (ih _ (by omega) (k + 1) _ _ _ rfl (by omega))) | exact z_kill 6 (z_eq (by rw [zGo_f hz9 (by rw [hs9]; exact zLess_f (by omega)), hs9] <;> rfl) rfl rfl (ih _ (by omega) (k + 1) _ _ _ rfl (by omega))) | exact zzz_open
                  · skip
                    refine z_iload hx dX11_go_91 rfl ?_
                    refine z_istore_n hx dX11_go_93 (Nat.le_of_ble_eq_true rfl) rfl ?_
                    refine z_iload hx dX11_go_94 rfl ?_
                    refine z_istore hx dX11_go_96 (Nat.le_of_ble_eq_true rfl) rfl ?_
                    first | refine z_iincN (z := 1) hx dX11_go_98 rfl rfl ?_ | refine z_iinc hx dX11_go_98 rfl rfl rfl ?_
                    refine z_goto (tgt := 30) hx dX11_go_101 (by decide) ?_
                    first | exact absurd rfl zc74 | exact absurd zc74 (tN_ne (by omega)) | exact absurd rfl zc81 | exact absurd zc81 (tN_ne (by omega)) | exact z_kill 6 (z_eq (by rw [zGo_n hz9] <;> rfl) rfl rfl (ih _ (by omega) (k + 1) _ _ _ rfl (by omega))) | exact z_kill 6 (z_eq (by rw [zGo_t hz9 (by rw [hs9]; exact zLess_n)] <;> rfl) rfl rfl (ih _ (by omega) (k + 1) _ _ _ rfl (by omega))) | exact z_kill 6 (z_eq (by rw [zGo_t hz9 (by rw [hs9]; exact zLess_s (by omega))] <;> rfl) rfl rfl (ih _ (by omega) (k + 1) _ _ _ rfl (by omega))) | exact z_kill 6 (z_eq (by rw [zGo_f hz9 (by rw [hs9]; exact zLess_f (by omega)), hs9] <;> rfl) rfl rfl (ih _ (by omega) (k + 1) _ _ _ rfl (by omega))) | exact zzz_open
          · skip
            have d60 := zGz_le hz9
            refine z_iload hx dX11_go_70 rfl ?_
            refine z_ldc hx dX11_go_72 kX11_205 ?_
            refine z_icmp_eq (tgt := 98) hx dX11_go_74 (by decide) (fun zc74 => ?_) (fun zc74 => ?_)
            · skip
              first | refine z_iincN (z := 1) hx dX11_go_98 rfl rfl ?_ | refine z_iinc hx dX11_go_98 rfl rfl rfl ?_
              refine z_goto (tgt := 30) hx dX11_go_101 (by decide) ?_
              first | exact absurd rfl zc74 | exact absurd zc74 (tN_ne (by omega)) | exact absurd rfl zc81 | exact absurd zc81 (tN_ne (by omega)) | exact z_kill 6 (z_eq (by rw [zGo_n hz9] <;> rfl) rfl rfl (ih _ (by omega) (k + 1) _ _ _ rfl (by omega))) | exact z_kill 6 (z_eq (by rw [zGo_t hz9 (by rw [hs9]; exact zLess_n)] <;> rfl) rfl rfl (ih _ (by omega) (k + 1) _ _ _ rfl (by omega))) | exact z_kill 6 (z_eq (by rw [zGo_t hz9 (by rw [hs9]; exact zLess_s (by omega))] <;> rfl) rfl rfl (ih _ (by omega) (k + 1) _ _ _ rfl (by omega))) | exact z_kill 6 (z_eq (by rw [zGo_f hz9 (by rw [hs9]; exact zLess_f (by omega)), hs9] <;> rfl) rfl rfl (ih _ (by omega) (k + 1) _ _ _ rfl (by omega))) | exact zzz_open
            · skip
              rcases hs9 : (zGo L zj k).2 with _ | s9
              · skip
                refine z_iload hx dX11_go_77 rfl ?_
                refine z_ldc hx dX11_go_79 kX11_205 ?_
                refine z_icmp_eq (tgt := 91) hx dX11_go_81 (by decide) (fun zc81 => ?_) (fun zc81 => ?_)
                · skip
                  refine z_iload hx dX11_go_91 rfl ?_
                  refine z_istore_n hx dX11_go_93 (Nat.le_of_ble_eq_true rfl) rfl ?_
                  refine z_iload hx dX11_go_94 rfl ?_
                  refine z_istore hx dX11_go_96 (Nat.le_of_ble_eq_true rfl) rfl ?_
                  first | refine z_iincN (z := 1) hx dX11_go_98 rfl rfl ?_ | refine z_iinc hx dX11_go_98 rfl rfl rfl ?_
                  refine z_goto (tgt := 30) hx dX11_go_101 (by decide) ?_
                  first | exact absurd rfl zc74 | exact absurd zc74 (tN_ne (by omega)) | exact absurd rfl zc81 | exact absurd zc81 (tN_ne (by omega)) | exact z_kill 6 (z_eq (by rw [zGo_n hz9] <;> rfl) rfl rfl (ih _ (by omega) (k + 1) _ _ _ rfl (by omega))) | exact z_kill 6 (z_eq (by rw [zGo_t hz9 (by rw [hs9]; exact zLess_n)] <;> rfl) rfl rfl (ih _ (by omega) (k + 1) _ _ _ rfl (by omega))) | exact z_kill 6 (z_eq (by rw [zGo_t hz9 (by rw [hs9]; exact zLess_s (by omega))] <;> rfl) rfl rfl (ih _ (by omega) (k + 1) _ _ _ rfl (by omega))) | exact z_kill 6 (z_eq (by rw [zGo_f hz9 (by rw [hs9]; exact zLess_f (by omega)), hs9] <;> rfl) rfl rfl (ih _ (by omega) (k + 1) _ _ _ rfl (by omega))) | exact zzz_open
                · skip
                  refine z_iload hx dX11_go_84 rfl ?_
                  refine z_iload hx dX11_go_86 rfl ?_
                  first | refine z_icmp_geN (tgt := 98) hx dX11_go_88 (by decide) (by omega) (by omega) (fun zc88 => ?_) (fun zc88 => ?_) | refine z_icmp_ge (tgt := 98) hx dX11_go_88 (by decide) (fun zc88 => ?_) (fun zc88 => ?_)
                  · skip
                    first | refine z_iincN (z := 1) hx dX11_go_98 rfl rfl ?_ | refine z_iinc hx dX11_go_98 rfl rfl rfl ?_
                    refine z_goto (tgt := 30) hx dX11_go_101 (by decide) ?_
                    first | exact absurd rfl zc74 | exact absurd zc74 (tN_ne (by omega)) | exact absurd rfl zc81 | exact absurd zc81 (tN_ne (by omega)) | exact z_kill 6 (z_eq (by rw [zGo_n hz9] <;> rfl) rfl rfl (ih _ (by omega) (k + 1) _ _ _ rfl (by omega))) | exact z_kill 6 (z_eq (by rw [zGo_t hz9 (by rw [hs9]; exact zLess_n)] <;> rfl) rfl rfl (ih _ (by omega) (k + 1) _ _ _ rfl (by omega))) | exact z_kill 6 (z_eq (by rw [zGo_t hz9 (by rw [hs9]; exact zLess_s (by omega))] <;> rfl) rfl rfl (ih _ (by omega) (k + 1) _ _ _ rfl (by omega))) | exact z_kill 6 (z_eq (by rw [zGo_f hz9 (by rw [hs9]; exact zLess_f (by omega)), hs9] <;> rfl) rfl rfl (ih _ (by omega) (k + 1) _ _ _ rfl (by omega))) | exact zzz_open
                  · skip
                    refine z_iload hx dX11_go_91 rfl ?_
                    refine z_istore_n hx dX11_go_93 (Nat.le_of_ble_eq_true rfl) rfl ?_
                    refine z_iload hx dX11_go_94 rfl ?_
                    refine z_istore hx dX11_go_96 (Nat.le_of_ble_eq_true rfl) rfl ?_
                    first | refine z_iincN (z := 1) hx dX11_go_98 rfl rfl ?_ | refine z_iinc hx dX11_go_98 rfl rfl rfl ?_
                    refine z_goto (tgt := 30) hx dX11_go_101 (by decide) ?_
                    first | exact absurd rfl zc74 | exact absurd zc74 (tN_ne (by omega)) | exact absurd rfl zc81 | exact absurd zc81 (tN_ne (by omega)) | exact z_kill 6 (z_eq (by rw [zGo_n hz9] <;> rfl) rfl rfl (ih _ (by omega) (k + 1) _ _ _ rfl (by omega))) | exact z_kill 6 (z_eq (by rw [zGo_t hz9 (by rw [hs9]; exact zLess_n)] <;> rfl) rfl rfl (ih _ (by omega) (k + 1) _ _ _ rfl (by omega))) | exact z_kill 6 (z_eq (by rw [zGo_t hz9 (by rw [hs9]; exact zLess_s (by omega))] <;> rfl) rfl rfl (ih _ (by omega) (k + 1) _ _ _ rfl (by omega))) | exact z_kill 6 (z_eq (by rw [zGo_f hz9 (by rw [hs9]; exact zLess_f (by omega)), hs9] <;> rfl) rfl rfl (ih _ (by omega) (k + 1) _ _ _ rfl (by omega))) | exact zzz_open
              · skip
                have s60 := zGo_le k s9 hs9
                refine z_iload hx dX11_go_77 rfl ?_
                refine z_ldc hx dX11_go_79 kX11_205 ?_
                refine z_icmp_eq (tgt := 91) hx dX11_go_81 (by decide) (fun zc81 => ?_) (fun zc81 => ?_)
                · skip
                  refine z_iload hx dX11_go_91 rfl ?_
                  refine z_istore_n hx dX11_go_93 (Nat.le_of_ble_eq_true rfl) rfl ?_
                  refine z_iload hx dX11_go_94 rfl ?_
                  refine z_istore hx dX11_go_96 (Nat.le_of_ble_eq_true rfl) rfl ?_
                  first | refine z_iincN (z := 1) hx dX11_go_98 rfl rfl ?_ | refine z_iinc hx dX11_go_98 rfl rfl rfl ?_
                  refine z_goto (tgt := 30) hx dX11_go_101 (by decide) ?_
                  first | exact absurd rfl zc74 | exact absurd zc74 (tN_ne (by omega)) | exact absurd rfl zc81 | exact absurd zc81 (tN_ne (by omega)) | exact z_kill 6 (z_eq (by rw [zGo_n hz9] <;> rfl) rfl rfl (ih _ (by omega) (k + 1) _ _ _ rfl (by omega))) | exact z_kill 6 (z_eq (by rw [zGo_t hz9 (by rw [hs9]; exact zLess_n)] <;> rfl) rfl rfl (ih _ (by omega) (k + 1) _ _ _ rfl (by omega))) | exact z_kill 6 (z_eq (by rw [zGo_t hz9 (by rw [hs9]; exact zLess_s (by omega))] <;> rfl) rfl rfl (ih _ (by omega) (k + 1) _ _ _ rfl (by omega))) | exact z_kill 6 (z_eq (by rw [zGo_f hz9 (by rw [hs9]; exact zLess_f (by omega)), hs9] <;> rfl) rfl rfl (ih _ (by omega) (k + 1) _ _ _ rfl (by omega))) | exact zzz_open
                · skip
                  refine z_iload hx dX11_go_84 rfl ?_
                  refine z_iload hx dX11_go_86 rfl ?_
                  first | refine z_icmp_geN (tgt := 98) hx dX11_go_88 (by decide) (by omega) (by omega) (fun zc88 => ?_) (fun zc88 => ?_) | refine z_icmp_ge (tgt := 98) hx dX11_go_88 (by decide) (fun zc88 => ?_) (fun zc88 => ?_)
                  · skip
                    first | refine z_iincN (z := 1) hx dX11_go_98 rfl rfl ?_ | refine z_iinc hx dX11_go_98 rfl rfl rfl ?_
                    refine z_goto (tgt := 30) hx dX11_go_101 (by decide) ?_
                    first | exact absurd rfl zc74 | exact absurd zc74 (tN_ne (by omega)) | exact absurd rfl zc81 | exact absurd zc81 (tN_ne (by omega)) | exact z_kill 6 (z_eq (by rw [zGo_n hz9] <;> rfl) rfl rfl (ih _ (by omega) (k + 1) _ _ _ rfl (by omega))) | exact z_kill 6 (z_eq (by rw [zGo_t hz9 (by rw [hs9]; exact zLess_n)] <;> rfl) rfl rfl (ih _ (by omega) (k + 1) _ _ _ rfl (by omega))) | exact z_kill 6 (z_eq (by rw [zGo_t hz9 (by rw [hs9]; exact zLess_s (by omega))] <;> rfl) rfl rfl (ih _ (by omega) (k + 1) _ _ _ rfl (by omega))) | exact z_kill 6 (z_eq (by rw [zGo_f hz9 (by rw [hs9]; exact zLess_f (by omega)), hs9] <;> rfl) rfl rfl (ih _ (by omega) (k + 1) _ _ _ rfl (by omega))) | exact zzz_open
                  · skip
                    refine z_iload hx dX11_go_91 rfl ?_
                    refine z_istore_n hx dX11_go_93 (Nat.le_of_ble_eq_true rfl) rfl ?_
                    refine z_iload hx dX11_go_94 rfl ?_
                    refine z_istore hx dX11_go_96 (Nat.le_of_ble_eq_true rfl) rfl ?_
                    first | refine z_iincN (z := 1) hx dX11_go_98 rfl rfl ?_ | refine z_iinc hx dX11_go_98 rfl rfl rfl ?_
                    refine z_goto (tgt := 30) hx dX11_go_101 (by decide) ?_
                    first | exact absurd rfl zc74 | exact absurd zc74 (tN_ne (by omega)) | exact absurd rfl zc81 | exact absurd zc81 (tN_ne (by omega)) | exact z_kill 6 (z_eq (by rw [zGo_n hz9] <;> rfl) rfl rfl (ih _ (by omega) (k + 1) _ _ _ rfl (by omega))) | exact z_kill 6 (z_eq (by rw [zGo_t hz9 (by rw [hs9]; exact zLess_n)] <;> rfl) rfl rfl (ih _ (by omega) (k + 1) _ _ _ rfl (by omega))) | exact z_kill 6 (z_eq (by rw [zGo_t hz9 (by rw [hs9]; exact zLess_s (by omega))] <;> rfl) rfl rfl (ih _ (by omega) (k + 1) _ _ _ rfl (by omega))) | exact z_kill 6 (z_eq (by rw [zGo_f hz9 (by rw [hs9]; exact zLess_f (by omega)), hs9] <;> rfl) rfl rfl (ih _ (by omega) (k + 1) _ _ _ rfl (by omega))) | exact zzz_open
  refine z_aload_n hx dX11_go_0 rfl ?_
  refine z_iload_n hx dX11_go_1 rfl ?_
  refine z_callivF hx (qX11_isPerson r t (P, pr, po) i y a f L cr ho hw _) dX11_go_2 sX11_161 hC_0 rfl rfl rfl (Nat.le_of_ble_eq_true rfl) rfl (Nat.le_of_ble_eq_true rfl) (by decide) ?_
  first | refine z_if_eqB (tgt := 17) hx dX11_go_5 (by decide) (fun zc5 => ?_) (fun zc5 => ?_) | refine z_if_eqN (tgt := 17) hx dX11_go_5 (by decide) (by omega) (fun zc5 => ?_) (fun zc5 => ?_) | refine z_if_eq (tgt := 17) hx dX11_go_5 (by decide) (fun zc5 => ?_) (fun zc5 => ?_)
  · skip
    refine z_ldc hx dX11_go_17 kX11_78 ?_
    exact z_iret hx hF dX11_go_19 rfl rfl ⟨by unfold aGo; first | (rw [zII_f (fun h => zc5 h.1)]) | (rw [zII_f (fun h => zc14 h.2)]) | exact zzz_open, _, _, _, rfl⟩
  · skip
    obtain ⟨zj, zhj, rfl⟩ := zc5
    refine z_iload_n hx dX11_go_8 rfl ?_
    refine z_iconst (v := nI 0) hx dX11_go_9 (by decide) ?_
    refine z_iconst (v := nI 1) hx dX11_go_10 (by decide) ?_
    refine z_callisP hx [] (qX11_isWithinN _ _ _ (by decide)) dX11_go_11 sX11_74 rfl rfl rfl (by decide) (by decide) rfl (Nat.le_of_ble_eq_true rfl) (by decide) ?_
    first | refine z_if_neB (tgt := 20) hx dX11_go_14 (by decide) (fun zc14 => ?_) (fun zc14 => ?_) | refine z_if_neN (tgt := 20) hx dX11_go_14 (by decide) (by omega) (fun zc14 => ?_) (fun zc14 => ?_) | refine z_if_ne (tgt := 20) hx dX11_go_14 (by decide) (fun zc14 => ?_) (fun zc14 => ?_)
    · skip
      obtain ⟨ze, -, zhe, rfl⟩ := zc14
      refine z_ldc hx dX11_go_20 kX11_205 ?_
      refine z_istore_n hx dX11_go_22 (Nat.le_of_ble_eq_true rfl) rfl ?_
      refine z_ldc hx dX11_go_23 kX11_205 ?_
      refine z_istore hx dX11_go_25 (Nat.le_of_ble_eq_true rfl) rfl ?_
      refine z_iconst (v := nI 0) hx dX11_go_27 (by decide) ?_
      refine z_istore hx dX11_go_28 (Nat.le_of_ble_eq_true rfl) rfl ?_
      exact hloop zj zhj ze zhe hF _ 0 P pr po rfl (by omega)
    · skip
      refine z_ldc hx dX11_go_17 kX11_78 ?_
      exact z_iret hx hF dX11_go_19 rfl rfl ⟨by unfold aGo; first | (rw [zII_f (fun h => zc5 h.1)]) | (rw [zII_f (fun h => zc14 h.2)]) | exact zzz_open, _, _, _, rfl⟩

