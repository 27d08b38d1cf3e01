set_option maxHeartbeats 4000000 in
set_option maxRecDepth 100000 in
theorem qX11_line (r : zRw) (sz fa fp : Nat) (ls : Nat → Nat) (nx nm : Nat) (L : zL) (cr ho : Nat → Nat) (P : zL) (pr po : Nat → Nat) (i : zLk × zLk) (y : zPy) (a : zAs) (f1 f2 : Nat) (hsz : sz ≤ 100) (hls : ∀ j, ls j ≤ 255) (F9 : zL × zSt) (hF9 : zLi ls sz P = F9) : zMi mX11_line 7 ([.ref 0]) (hC (r, (sz, fa, fp, ls, nx, nm), (L, cr, ho), (P, pr, po), i, y, a, (f1, f2))) (fun z u => (F9.2.2 = 0 → z = nI (lP F9.1) ∧ ∃ t2 t3 t5 t6, u = hC (r, (0, t2, t3, ls, t5, t6), (F9.1, cr, ho), (F9.1, pr, po), i, (0, y.2.1, y.2.2), a, (f1, f2))) ∧ (¬ F9.2.2 = 0 → z = -1000100 - nI F9.2.1 ∧ ∃ t2 t3 t5 t6 p9, u = hC (r, (0, t2, t3, ls, t5, t6), (L, cr, ho), p9, i, y, a, (F9.2.2, f2)))) := by
  refine zMi.of (by decide) (Nat.le_of_ble_eq_true rfl) (fun x hx hF => ?_)
  refine z_aload_n hx dX11_line_0 rfl ?_
  refine z_get hx dX11_line_1 fX11_36 hC_0 rfl ?_
  refine z_aload_n hx dX11_line_4 rfl ?_
  refine z_get hx dX11_line_5 fX11_49 hC_0 rfl ?_
  refine z_calliv hx gTL (qX9_readInto sz fa fp ls nx nm P pr po hsz hls) dX11_line_8 sX11_119 rfl rfl sub_TL rfl rfl (by decide) (by decide) rfl (Nat.le_of_ble_eq_true rfl) (by decide) (fun r8 u8 l8 q8 => ?_)
  rw [hF9] at q8
  by_cases h0 : F9.2.2 = 0
  · skip
    obtain ⟨rfl, nm9, rfl⟩ := q8.1 h0
    refine z_heap pt_TL ?_
    refine z_istore_n hx dX11_line_11 (Nat.le_of_ble_eq_true rfl) rfl ?_
    refine z_aload_n hx dX11_line_12 rfl ?_
    refine z_get hx dX11_line_13 fX11_36 hC_0 rfl ?_
    refine z_iconst (v := nI 0) hx dX11_line_16 (by decide) ?_
    refine z_puti hx dX11_line_17 pX11_111 hC_13 (Nat.le_of_ble_eq_true rfl) ?_
    refine z_heap hS_13 ?_
    refine z_iload_n hx dX11_line_20 rfl ?_
    refine z_if_neN (a := 1) (tgt := 46) hx dX11_line_21 (by decide) (by decide) (fun zc21 => ?_) (fun zc21 => absurd zc21 (by decide))
    refine z_aload_n hx dX11_line_46 rfl ?_
    refine z_get hx dX11_line_47 fX11_45 hC_0 rfl ?_
    refine z_aload_n hx dX11_line_50 rfl ?_
    refine z_get hx dX11_line_51 fX11_49 hC_0 rfl ?_
    refine z_callvvE hx gLP (qX4_become L cr ho F9.1 pr po) dX11_line_54 sX11_133 rfl rfl sub_LP rfl rfl (by decide) (by decide) rfl (Nat.le_of_ble_eq_true rfl) (by decide) ?_
    refine z_heap pt_LP ?_
    refine z_aload_n hx dX11_line_57 rfl ?_
    refine z_get hx dX11_line_58 fX11_59 hC_0 rfl ?_
    refine z_callvvE hx gPa (qX5_forget y F9.1 cr ho) dX11_line_61 sX11_137 rfl rfl sub_Pa rfl rfl (by decide) (by decide) rfl (Nat.le_of_ble_eq_true rfl) (by decide) ?_
    refine z_heap pt_Pa ?_
    refine z_aload_n hx dX11_line_64 rfl ?_
    refine z_get hx dX11_line_65 fX11_45 hC_0 rfl ?_
    refine z_get hx dX11_line_68 fX11_140 hC_15 rfl ?_
    exact z_iret hx hF dX11_line_71 rfl rfl ⟨fun _ => ⟨rfl, _, _, _, _, rfl⟩, fun h => absurd h0 h⟩
  · skip
    obtain ⟨rfl, nm9, L9, rfl⟩ := q8.2 h0
    refine z_heap pt_TL ?_
    refine z_istore_n hx dX11_line_11 (Nat.le_of_ble_eq_true rfl) rfl ?_
    refine z_aload_n hx dX11_line_12 rfl ?_
    refine z_get hx dX11_line_13 fX11_36 hC_0 rfl ?_
    refine z_iconst (v := nI 0) hx dX11_line_16 (by decide) ?_
    refine z_puti hx dX11_line_17 pX11_111 hC_13 (Nat.le_of_ble_eq_true rfl) ?_
    refine z_heap hS_13 ?_
    refine z_iload_n hx dX11_line_20 rfl ?_
    refine z_if_neN (a := 0) (tgt := 46) hx dX11_line_21 (by decide) (by decide) (fun zc21 => absurd zc21 (by decide)) (fun zc21 => ?_)
    refine z_aload_n hx dX11_line_24 rfl ?_
    refine z_aload_n hx dX11_line_25 rfl ?_
    refine z_get hx dX11_line_26 fX11_36 hC_0 rfl ?_
    refine z_get hx dX11_line_29 fX11_123 hC_13 rfl ?_
    refine z_puti hx dX11_line_32 pX11_126 hC_0 (Nat.le_of_ble_eq_true rfl) ?_
    refine z_heap hS_0_a ?_
    refine z_ldc hx dX11_line_35 kX11_129 ?_
    refine z_aload_n hx dX11_line_37 rfl ?_
    refine z_get hx dX11_line_38 fX11_36 hC_0 rfl ?_
    refine z_get hx dX11_line_41 fX11_130 hC_13 rfl ?_
    refine z_isub hx dX11_line_44 ?_
    exact z_iret hx hF dX11_line_45 rfl rfl ⟨fun h => absurd h h0, fun _ => ⟨rfl, _, _, _, _, _, rfl⟩⟩

