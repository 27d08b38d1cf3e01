theorem zpC_nd : zpC.Nodup := by decide +kernel
set_option maxHeartbeats 4000000 in
set_option maxRecDepth 100000 in
/-- from the entry, for every script of at most 384 ints, the law comes to its end with true -/
theorem whole_start {p : Program} {e : Env} {s : State} {m : MethodId} {below : List Frame} {meth : Method} {c : Code} (l : Launch) {b L : Nat} {xs : Nat → Int32} (hL : L ≤ 384) (C0 : lw_At p s m meth c b L xs) : W p l e room_1 s m #[Value.ref b] below meth c s.heap [] 0 0 (lw_Z below #[Value.ref b] s) (entryFrame m ([Value.ref b] : List Value).toArray 4) := by
  obtain ⟨hx, hb, hr, hml, hown, hts, hX, hbl, hlocks, hgv⟩ := id C0
  obtain ⟨D, ca, a0, a1, hKK, hE⟩ := zs_KK hts hgv
  have hA : ∀ q : Nat, s.heap.size ≤ q → (fun q : Nat => s.heap.size ≤ q) q := fun _ h => h
  have hS : va_S (fun q : Nat => s.heap.size ≤ q) s.heap s.heap [] := va_S.rf
  have hl := lv_entry ([.ref b]) (n := 4) (Nat.le_of_ble_eq_true rfl)
  rw [lg_entry_eq]
  generalize (lg_sl ([.ref b]) ++ List.replicate (4 - (lg_sl ([.ref b])).length) Slot.unset).toArray = ls at hl ⊢
  have hl : lv_has ls 4 [(0, .ref b)] := hl
  have hP0 : va_P D vwCl [] s.heap := fun k q h => by simp at h
  have hD0 : va_D (fun q : Nat => s.heap.size ≤ q) [] := ⟨fun i j p q h => by simp at h, fun k q h => by simp at h⟩
  have hK := (hKK (zadd a0 a1 0) rfl rfl).1
  refine va_new (ci := 10) (fs := [.null, .null, .null, .null, .null, .null, .null, .int 0, .int 0]) (C := RX11) (T := TX11) (N := 9) hx hb hts inX11 tyX11 tyX11_ok hown (hts (.classLink RL 7 RX11) (by decide +kernel)) (hts (.instantiable RX11 9) (by decide +kernel)) (hts (.initialized RX11) (by decide +kernel)) hK hP0 hD0 hS hA rfl (fun j hj => by rcases (show j = 0 ∨ j = 1 ∨ j = 2 ∨ j = 3 ∨ j = 4 ∨ j = 5 ∨ j = 6 ∨ j = 7 ∨ j = 8 by omega) with rfl | rfl | rfl | rfl | rfl | rfl | rfl | rfl | rfl <;> rfl) (by show 0 + 1 ≤ 600000; omega) (by show 0 + 9 ≤ 7302250; omega) dL_law_0 (fun q1 H1 hP1 hD1 hS1 => ?_)
  refine lv_dup hx hb dL_law_3 rfl ?_
  have hPc : va_P D vwCl (zcw (zadd a0 a1 q1) ca [zO 10 [.null, .null, .null, .null, .null, .null, .null, .int 0, .int 0]]) H1 := hP1
  have hDc : va_D (fun q : Nat => s.heap.size ≤ q) (zcw (zadd a0 a1 q1) ca [zO 10 [.null, .null, .null, .null, .null, .null, .null, .int 0, .int 0]]) := hD1
  have hFc : ∀ q, va_A (zcw (zadd a0 a1 q1) ca [zO 10 [.null, .null, .null, .null, .null, .null, .null, .int 0, .int 0]]) H1.size q → s.heap.size ≤ q := by
    rintro q (⟨j, e2, hj⟩ | hj)
    · exact hDc.2 j _ hj
    · exact Nat.le_trans hS1.1 hj
  refine va_callv (va_runI (R := room_1) (cells := 0 + 1) (slots := 0 + 9) (As := []) (rest := [.ref q1]) ⟨hx, hb, hml, hown, hts⟩ (qX11_init l D ca (zadd a0 a1 q1) H1.size) (cwI (own := RL) (index := 9) 0 hts (zl_goodL (zws_G lX11_init.1)) rfl rfl rfl (hts (.initialized RX11) (by decide +kernel)) (hts (.methodLink RL 9 yX11_init) (by decide +kernel)) (hts (.instanceMethod yX11_init) (by decide +kernel)) rfl (by decide +kernel) ⟨Nat.le_of_ble_eq_true rfl, Nat.le_of_ble_eq_true rfl⟩) ⟨zblind2, fun U hU hW => ⟨rfl, ⟨by rw [hU], by rw [hU]; exact hPc, hDc.weaken (fun _ _ _ _ => trivial), by rw [hU]; exact (hKK (zadd a0 a1 q1) rfl rfl).warm hW hS1 hFc rfl rfl⟩, hE.warm hW⟩⟩ rfl rfl hl.1 rfl (lv_room (Nat.le_of_ble_eq_true rfl)) dL_law_4 ⟨by show 0 + 1 + 57 ≤ 600000; omega, by show 0 + 9 + 1316 ≤ 7302250; omega⟩) hS1 (fun q _ h => hFc q h) hFc (fun ad1 t H2 locs2 ht hvm hw hB hz2 hk2 hS2 => ?_)
  obtain ⟨hP2, hD2⟩ := hB
  rw [ht] at hP2
  have hP2 : va_P D vwCl (zcw ad1 ca zcC) H2 := hP2
  have hD2 : va_D (va_A (zcw (zadd a0 a1 q1) ca [zO 10 [.null, .null, .null, .null, .null, .null, .null, .int 0, .int 0]]) H1.size) (zcw ad1 ca zcC) := hD2
  have hD2' : va_D (fun q : Nat => s.heap.size ≤ q) (zcw ad1 ca zcC) := hD2.weaken (fun k q _ h => hFc q.1 h)
  have e10 : ad1 0 = q1 := hw 0 (Or.inl (by decide))
  refine lv_astore_n (lv' := [(1, .ref q1), (0, .ref b)]) hx hb dL_law_7 rfl hl (by decide) rfl (fun ls hl => ?_)
  refine va_new (ci := 11) (fs := [.null, .null, .null, .null, .int 0, .null, .int 0, .int 0, .int 0, .int 0, .int 0, .int 0, .int 0, .null, .null, .null, .null, .int 0, .null, .null, .null, .int 0]) (C := RX12) (T := TX12) (N := 22) hx hb hts inX12 tyX12 tyX12_ok hown (hts (.classLink RL 10 RX12) (by decide +kernel)) (hts (.instantiable RX12 22) (by decide +kernel)) (hts (.initialized RX12) (by decide +kernel)) hK hP2 hD2' hS2 hA rfl (fun j hj => by rcases (show j = 0 ∨ j = 1 ∨ j = 2 ∨ j = 3 ∨ j = 4 ∨ j = 5 ∨ j = 6 ∨ j = 7 ∨ j = 8 ∨ j = 9 ∨ j = 10 ∨ j = 11 ∨ j = 12 ∨ j = 13 ∨ j = 14 ∨ j = 15 ∨ j = 16 ∨ j = 17 ∨ j = 18 ∨ j = 19 ∨ j = 20 ∨ j = 21 by omega) with rfl | rfl | rfl | rfl | rfl | rfl | rfl | rfl | rfl | rfl | rfl | rfl | rfl | rfl | rfl | rfl | rfl | rfl | rfl | rfl | rfl | rfl <;> rfl) (by show 0 + 1 + 57 + 1 ≤ 600000; omega) (by show 0 + 9 + 1316 + 22 ≤ 7302250; omega) dL_law_8 (fun q2 H3 hP3 hD3 hS3 => ?_)
  refine lv_dup hx hb dL_law_11 rfl ?_
  have hlen : (zcw ad1 ca zcC).length = 58 := by unfold zcw; rw [List.length_mapIdx]; rfl
  have hPd : va_P D vwCl (zcw (zadd a0 a1 q2) ca [zO 11 [.null, .null, .null, .null, .int 0, .null, .int 0, .int 0, .int 0, .int 0, .int 0, .int 0, .int 0, .null, .null, .null, .null, .int 0, .null, .null, .null, .int 0]]) H3 := fun k q hq => by
    have hz : k < 1 := (List.getElem?_eq_some_iff.mp hq).1
    rcases (show k = 0 by omega) with rfl
    exact hP3 58 q (by rw [List.getElem?_append_right (by rw [hlen]; omega), hlen]; exact hq)
  have hDd : va_D (fun q : Nat => s.heap.size ≤ q) (zcw (zadd a0 a1 q2) ca [zO 11 [.null, .null, .null, .null, .int 0, .null, .int 0, .int 0, .int 0, .int 0, .int 0, .int 0, .int 0, .null, .null, .null, .null, .int 0, .null, .null, .null, .int 0]]) := by
    refine ⟨fun i j p q hp hq _ => ?_, fun k q hq => ?_⟩
    · have h1 : i < 1 := (List.getElem?_eq_some_iff.mp hp).1
      have h2 : j < 1 := (List.getElem?_eq_some_iff.mp hq).1
      omega
    · have hz : k < 1 := (List.getElem?_eq_some_iff.mp hq).1
      rcases (show k = 0 by omega) with rfl
      exact hD3.2 58 q (by rw [List.getElem?_append_right (by rw [hlen]; omega), hlen]; exact hq)
  have hPk : ∀ (k : Nat) (q : Nat × va_E), (zcw ad1 ca zcC)[k]? = some q → va_at D vwCl q H3 ∧ q.1 ≠ q2 := fun k q hq => by
    have hz : k < 58 := by rw [← hlen]; exact (List.getElem?_eq_some_iff.mp hq).1
    have h1 : (zcw ad1 ca zcC ++ [(q2, .inr (11, [.null, .null, .null, .null, .int 0, .null, .int 0, .int 0, .int 0, .int 0, .int 0, .int 0, .int 0, .null, .null, .null, .null, .int 0, .null, .null, .null, .int 0]))])[k]? = some q := by rw [List.getElem?_append_left (by rw [hlen]; exact hz)]; exact hq
    refine ⟨hP3 k q h1, fun h => ?_⟩
    have := hD3.1 k 58 q (q2, .inr (11, [.null, .null, .null, .null, .int 0, .null, .int 0, .int 0, .int 0, .int 0, .int 0, .int 0, .int 0, .null, .null, .null, .null, .int 0, .null, .null, .null, .int 0])) h1 (by rw [List.getElem?_append_right (by rw [hlen]; omega), hlen]; rfl) h
    omega
  have hFd : ∀ q, va_A (zcw (zadd a0 a1 q2) ca [zO 11 [.null, .null, .null, .null, .int 0, .null, .int 0, .int 0, .int 0, .int 0, .int 0, .int 0, .int 0, .null, .null, .null, .null, .int 0, .null, .null, .null, .int 0]]) H3.size q → s.heap.size ≤ q := by
    rintro q (⟨j, e2, hj⟩ | hj)
    · exact hDd.2 j _ hj
    · exact Nat.le_trans hS3.1 hj
  have hOut : ∀ (k : Nat) (q : Nat × va_E), (zcw ad1 ca zcC)[k]? = some q → ¬ va_A (zcw (zadd a0 a1 q2) ca [zO 11 [.null, .null, .null, .null, .int 0, .null, .int 0, .int 0, .int 0, .int 0, .int 0, .int 0, .int 0, .null, .null, .null, .null, .int 0, .null, .null, .null, .int 0]]) H3.size q.1 := fun k q hq h => by
    rcases h with ⟨j, e2, hj⟩ | hj
    · have hz : j < 1 := (List.getElem?_eq_some_iff.mp hj).1
      rcases (show j = 0 by omega) with rfl
      exact (hPk k q hq).2 (congrArg Prod.fst (Option.some.inj hj)).symm
    · exact absurd hj (Nat.not_le.mpr (hPk k q hq).1.lt)
  refine va_callv (va_runI (R := room_1) (cells := 0 + 1 + 57 + 1) (slots := 0 + 9 + 1316 + 22) (As := []) (rest := [.ref q2]) ⟨hx, hb, hml, hown, hts⟩ (qX12_init l D ca (zadd a0 a1 q2) H3.size) (cwI (own := RL) (index := 12) 0 hts (zl_goodL (zws_G lX12_init.1)) rfl rfl rfl (hts (.initialized RX12) (by decide +kernel)) (hts (.methodLink RL 12 yX12_init) (by decide +kernel)) (hts (.instanceMethod yX12_init) (by decide +kernel)) rfl (by decide +kernel) ⟨Nat.le_of_ble_eq_true rfl, Nat.le_of_ble_eq_true rfl⟩) ⟨zblind2, fun U hU hW => ⟨rfl, ⟨by rw [hU], by rw [hU]; exact hPd, hDd.weaken (fun _ _ _ _ => trivial), by rw [hU]; exact (hKK (zadd a0 a1 q2) rfl rfl).warm hW hS3 hFd rfl rfl⟩, hE.warm hW⟩⟩ rfl rfl hl.1 rfl (lv_room (Nat.le_of_ble_eq_true rfl)) dL_law_12 ⟨by show 0 + 1 + 57 + 1 + 12 ≤ 600000; omega, by show 0 + 9 + 1316 + 22 + 1480 ≤ 7302250; omega⟩) hS3 (fun q _ h => hFd q h) hFd (fun ad2 t4 H4 locs4 ht4 hvm4 hw4 hB4 hz4 hk4 hS4 => ?_)
  obtain ⟨hP4, hD4⟩ := hB4
  rw [ht4] at hP4
  have hP4 : va_P D vwCl (zcw ad2 ca zcM) H4 := hP4
  have hD4 : va_D (va_A (zcw (zadd a0 a1 q2) ca [zO 11 [.null, .null, .null, .null, .int 0, .null, .int 0, .int 0, .int 0, .int 0, .int 0, .int 0, .int 0, .null, .null, .null, .null, .int 0, .null, .null, .null, .int 0]]) H3.size) (zcw ad2 ca zcM) := hD4
  rw [zcM_eq] at hP4 hD4
  have e20 : ad2 0 = q2 := hw4 0 (Or.inl (by decide))
  have hP5 : va_P D vwCl (zcw ad1 ca zcC) H4 := fun k q hq => (hPk k q hq).1.kept (hk4 _ (hPk k q hq).1.lt (hOut k q hq))
  refine lv_astore_n (lv' := [(2, .ref q2), (1, .ref q1), (0, .ref b)]) hx hb dL_law_15 rfl hl (by decide) rfl (fun ls hl => ?_)
  refine lv_iconst (v := nI 0) hx hb dL_law_16 (by decide) ?_
  refine lv_istore_n (lv' := [(3, .int (nI 0)), (2, .ref q2), (1, .ref q1), (0, .ref b)]) hx hb dL_law_17 rfl hl (by decide) rfl (fun ls hl => ?_)
  refine W.widen (k := 600000) (n := 7302250) (by omega) (by omega) ?_
  have hDC : va_D (fun q : Nat => s.heap.size ≤ q) (zcw (fun j => ad1 (zpi zpC j)) ca zhC) := ⟨(zsub_D zsubC zpC_nd hD2').1, fun k q hq => by
    obtain ⟨i, -, h2⟩ := zsub_w zsubC hq
    exact hD2'.2 i q h2⟩
  have hlC : zhC.length = 58 := rfl
  have hlM : zhM.length = 13 := rfl
  have hx0 : zLO (p, l, e, s, m, below, meth, c, D, ca, (fun j => ad1 (zpi zpC j)), ad2, b, L, xs) := by
    refine ⟨C0, hL, hKK _ (hw 1000 (Or.inr (by decide))) (hw 1001 (Or.inr (by decide))), hKK _ (hw4 1000 (Or.inr (by decide))) (hw4 1001 (Or.inr (by decide))), zLD.of hDC (fun _ h => h) hlC, zLD.of hD4 (fun q h => hFd q h) hlM, fun i j hi hj h => ?_⟩
    have h1 := zcw_get (ad := fun j => ad1 (zpi zpC j)) (ca := ca) (List.getElem?_eq_getElem (show i < zhC.length by rw [hlC]; exact hi))
    obtain ⟨i2, -, h2⟩ := zsub_w zsubC h1
    have h3 := hD4.2 j _ (zcw_get (ad := ad2) (ca := ca) (List.getElem?_eq_getElem (show j < zhM.length by rw [hlM]; exact hj)))
    exact hOut i2 _ h2 (by show va_A _ _ (ad1 (zpi zpC i)); rw [show ad1 (zpi zpC i) = ad2 j from h]; exact h3)
  refine zl_loop hx0 (L + 6) 0 (Nat.zero_le _) (by show L + 6 ≤ 0 + (L + 6); omega) zhC zhM zRel0 H4 locs4 ls ?_ (zsub_P zsubC hP5) hP4 hS4
  show lv_has ls 4 [(0, .ref b), (1, .ref (ad1 0)), (2, .ref (ad2 0)), (3, .int (nI 0))]
  rw [e10, e20]
  exact lv_sub hl [3, 2, 1, 0] rfl
