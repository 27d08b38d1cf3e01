theorem zKK.sw {D : va_G} {ca ad bd : Nat → Nat} {A : Nat → Prop} {U : State} {H : Heap} (e0 : bd 1000 = ad 1000) (e1 : bd 1001 = ad 1001) (h : zKK D ca ad A U H) : zKK D ca bd A U H := by
  unfold zKK at h ⊢
  rw [e0, e1]
  exact h
theorem zblind2 {D : va_G} {ca ad : Nat → Nat} {h : List zE} {sz : Nat} {av : List Value} : FrameBlind (va_Pc av (fun U => zPre D ca ad h sz U ∧ zEx U)) := fun a U g mk q => by
  obtain ⟨q0, ⟨q1, q2, q3, q4⟩, q5⟩ := q
  exact ⟨q0, ⟨q1, q2, q3, q4.blind g mk a⟩, q5.blind g mk a⟩
/-- the new places of a callee that made ex cells -/
def zad2 (ad ad' : Nat → Nat) (n m : Nat) : Nat → Nat := fun k => if k < n ∨ 1000 ≤ k then ad k else ad' (k - n + m)
theorem zgrow2 {D : va_G} {ad ad' ca : Nat → Nat} {A : Nat → Prop} {h hc h' h2 : List zE} {g g' r : List Nat} {ex : Nat} {H H1 : Heap} (hs : zsub h g hc) (hP : va_P D vwCl (zcw ad ca h) H) (hD : va_D A (zcw ad ca h)) (hAA : ∀ q, va_A (zcw (fun j => ad (zpi g j)) ca hc) H.size q → A q)
    (hk : ∀ q : Nat, q < H.size → ¬ va_A (zcw (fun j => ad (zpi g j)) ca hc) H.size q → H1[q]? = H[q]?) (hag : ∀ j, j < hc.length ∨ 1000 ≤ j → ad' j = ad (zpi g j)) (hP1 : va_P D vwCl (zcw ad' ca h') H1) (hD1 : va_D (va_A (zcw (fun j => ad (zpi g j)) ca hc) H.size) (zcw ad' ca h'))
    (hg' : g' = g ++ List.range' h.length ex) (hlen : h'.length = hc.length + ex) (hs2 : zsub h2 g' h') (hr : ∀ k, k < h2.length → k ∈ g' ∨ k ∈ r) (hr2 : r.map (fun k => h2[k]?) = r.map (fun k => h[k]?)) (hr3 : ∀ k ∈ r, k < h.length ∧ k ∉ g') (hc1 : zcl h.length h = true) (hc2 : zcl h'.length h' = true) (hb : h.length + ex ≤ 1000) :
    va_P D vwCl (zcw (zad2 ad ad' h.length hc.length) ca h2) H1 ∧ va_D A (zcw (zad2 ad ad' h.length hc.length) ca h2) ∧ ∀ j, j < h.length ∨ 1000 ≤ j → zad2 ad ad' h.length hc.length j = ad j := by
  have e0 : ∀ j, j < h.length ∨ 1000 ≤ j → zad2 ad ad' h.length hc.length j = ad j := fun j hj => if_pos hj
  have hgl := zsub_len hs
  have gl : ∀ (j i : Nat), g[j]? = some i → i < h.length := fun j i hj => by
    have hj2 : j < hc.length := by rw [← hgl]; exact (List.getElem?_eq_some_iff.mp hj).1
    obtain ⟨i2, a1, a2, a3⟩ := zsub_at hs (List.getElem?_eq_getElem hj2)
    cases Option.some.inj (hj.symm.trans a1)
    exact (List.getElem?_eq_some_iff.mp a2).1
  have hagr : ∀ j, j < h'.length → zad2 ad ad' h.length hc.length (zpi g' j) = ad' j := fun j hj => by
    by_cases hj2 : j < hc.length
    · have h1 : g[j]? = some g[j] := List.getElem?_eq_getElem (by omega)
      have h2 : zpi g' j = g[j] := by
        unfold zpi
        rw [List.getD_eq_getElem?_getD, hg', List.getElem?_append_left (by omega), h1]
        rfl
      have h3 : zpi g j = g[j] := by
        unfold zpi
        rw [List.getD_eq_getElem?_getD, h1]
        rfl
      rw [h2, e0 _ (Or.inl (gl j _ h1)), hag j (Or.inl hj2), h3]
    · have h2 : zpi g' j = h.length + (j - hc.length) := by
        unfold zpi
        rw [List.getD_eq_getElem?_getD, hg', List.getElem?_append_right (by omega), List.getElem?_range' (by omega)]
        show h.length + 1 * (j - g.length) = _
        omega
      rw [h2]
      unfold zad2
      rw [if_neg (by omega)]
      congr 1
      omega
  have key : ∀ (k : Nat) (q : Nat × va_E), (zcw (zad2 ad ad' h.length hc.length) ca h2)[k]? = some q → (k ∉ g' ∧ (zcw ad ca h)[k]? = some q) ∨ (∃ j, g'[j]? = some k ∧ (zcw ad' ca h')[j]? = some q) := fun k q hq => by
    obtain ⟨e, h1, rfl⟩ := zcw_of hq
    rcases hr k (List.getElem?_eq_some_iff.mp h1).1 with hm | hm
    · right
      obtain ⟨j, hj, hj2⟩ := List.mem_iff_getElem.mp hm
      have hgj : g'[j]? = some k := by rw [List.getElem?_eq_getElem hj, hj2]
      have hju : j < h'.length := by rw [← zsub_len hs2]; exact hj
      obtain ⟨i, a1, a2, a3⟩ := zsub_at hs2 (List.getElem?_eq_getElem hju)
      cases Option.some.inj (hgj.symm.trans a1)
      cases Option.some.inj (h1.symm.trans a2)
      refine ⟨j, hgj, ?_⟩
      rw [zcw_get (List.getElem?_eq_getElem hju), zce_rn]
      rw [zc2_eq (bd := fun k => zad2 ad ad' h.length hc.length (zpi g' k)) (ad := ad') hagr (List.all_eq_true.mp hc2 _ (List.getElem_mem hju))]
      rw [← hagr j hju, a3]
    · left
      have hm2 := hr3 k hm
      have h3 : h2[k]? = h[k]? := List.map_inj_left.mp hr2 k hm
      have h4 : h[k]? = some e := h3.symm.trans h1
      refine ⟨hm2.2, ?_⟩
      rw [zcw_get h4, e0 k (Or.inl hm2.1), zc2_eq (bd := zad2 ad ad' h.length hc.length) (ad := ad) (fun j hj => e0 j (Or.inl hj)) (List.all_eq_true.mp hc1 _ (List.mem_of_getElem? h4))]
  have out : ∀ (k : Nat) (q : Nat × va_E), k ∉ g' → (zcw ad ca h)[k]? = some q → ¬ va_A (zcw (fun j => ad (zpi g j)) ca hc) H.size q.1 := fun k q hkg hq hA => by
    rcases hA with ⟨j, e2, hj⟩ | hj
    · obtain ⟨i, g1, g2⟩ := zsub_w hs hj
      have := hD.1 i k _ _ g2 hq rfl
      subst this
      exact hkg (by rw [hg']; exact List.mem_append_left _ (List.mem_of_getElem? g1))
    · exact absurd hj (Nat.not_le.mpr (hP k q hq).lt)
  refine ⟨fun k q hq => ?_, ⟨fun i j p q hp hq e => ?_, fun k q hq => ?_⟩, e0⟩
  · rcases key k q hq with ⟨a1, a2⟩ | ⟨j, a1, a2⟩
    · exact (hP k q a2).kept (hk _ (hP k q a2).lt (out k q a1 a2))
    · exact hP1 j q a2
  · rcases key i p hp with ⟨a1, a2⟩ | ⟨i1, a1, a2⟩ <;> rcases key j q hq with ⟨b1, b2⟩ | ⟨j1, b1, b2⟩
    · exact hD.1 i j p q a2 b2 e
    · exact absurd (by rw [e]; exact hD1.2 j1 q b2) (out i p a1 a2)
    · exact absurd (by rw [← e]; exact hD1.2 i1 p a2) (out j q b1 b2)
    · have := hD1.1 i1 j1 p q a2 b2 e
      subst this
      exact Option.some.inj (a1.symm.trans b1)
  · rcases key k q hq with ⟨a1, a2⟩ | ⟨j, a1, a2⟩
    · exact hD.2 k q a2
    · exact hAA _ (hD1.2 j q a2)
def zLp (own : String) (idx : Nat) (M : zM) (np : Nat) : Prop := zLc M np ∧ Cond.methodLink own idx M.1 ∈ zG ∧ Cond.instanceMethod M.1 ∈ zG ∧ M.1.name = "<init>" ∧ M.2.2.2 = none
def zLj (own : String) (idx : Nat) (M : zM) (np : Nat) : Prop := zLc M np ∧ (own, idx, M.1, RX11) ∈ zNI ∧ Cond.instanceMethod M.1 ∈ zG ∧ M.1.name = "<init>" ∧ M.2.2.2 = none
section ZUC
variable {x : zC} {M M' : zM} {n n' kc ks n0 k0 s0 kc' ks' ex pc idx np : Nat} {lv : List (Option Value)} {st rest : List Value} {h hc h' h2 : List zE} {av : List Value}
/-- a constructor's call: its cells hc at the places g grow to h', at the places g' -/
theorem u_ctI (hx : zOc x M n kc ks) {r0 : Nat} (g g' r : List Nat) (hM : zMk M' n' kc' ks' (.ref r0 :: av) hc h') (d : decode M.2.1 pc = .ok (.invokespecial idx, 3)) (site : zLp M.1.cls idx M' np) (hs : zsub h g hc) (hst : st = ((.ref r0 :: av).map (zcv (zpi g))).reverse ++ rest) (hlv : lv.length = M.2.2.1) (hnd : g.Nodup) (hg : g.length ≤ 1000) (hap : av.length = np) (hcat : (rest.map fun v => v.category).sum ≤ 8) (hn : n' + 1 ≤ n) (hk : k0 + kc' ≤ kc) (hs0 : s0 + ks' ≤ ks)
    (hg' : g' = g ++ List.range' h.length ex) (hlen : h'.length = hc.length + ex) (hs2 : zsub h2 g' h') (hr : ∀ k, k < h2.length → k ∈ g' ∨ k ∈ r) (hr2 : r.map (fun k => h2[k]?) = r.map (fun k => h[k]?)) (hr3 : ∀ k ∈ r, k < h.length ∧ k ∉ g') (hc1 : zcl h.length h = true) (hc2 : zcl h'.length h' = true) (hb : h.length + ex ≤ 1000) (hlc : lv.all (zco h.length) = true) (hsc : rest.all (zc1 h.length) = true) (hn0 : n0 ≤ h.length)
    (k : zU x n0 (k0 + kc') (s0 + ks') (pc + 3) lv rest h2) : zU x n0 k0 s0 pc lv st h := by
  subst hst
  obtain ⟨p, l, e, R, s, m, args, below, meth, c, D, ca, ad0, A, Q⟩ := x
  obtain ⟨hx, hb1, hml, hown, hts, hKK0, hA, hR, hrt, hlk, hnm, hex⟩ := hx
  subst hR
  intro ad H locs ls had hl hP hD hS
  have hKK : zKK D ca ad A s s.heap := zKK.sw (had 1000 (Or.inr (by decide))) (had 1001 (Or.inr (by decide))) hKK0
  have hstk : (((.ref r0 :: av).map (zcv (zpi g))).reverse ++ rest).map (zcv ad) = ((.ref r0 :: av).map (zcv (fun j => ad (zpi g j)))).reverse ++ rest.map (zcv ad) := by
    rw [List.map_append, List.map_reverse]
    congr 2
    rw [List.map_map]
    apply List.map_congr_left
    intro v _
    exact zcv_cv ad (zpi g) v
  have hcat : ((rest.map (zcv ad)).map fun v => v.category).sum ≤ 8 := by
    rw [List.map_map]
    have : ((fun v : Value => v.category) ∘ zcv ad) = fun v => v.category := funext fun v => zcv_cat ad v
    rw [this]
    exact hcat
  have hAA := zsub_A hs hD hA hS
  obtain ⟨⟨hcd, hin, hy1, hy2, hy3, hy4⟩, hl1, hl2, hl3, hret⟩ := site
  have hst2 : (F0 m pc ls ((((.ref r0 :: av).map (zcv (zpi g))).reverse ++ rest).map (zcv ad))).stack = (av.map (zcv (fun j => ad (zpi g j)))).reverse ++ .ref ((fun j => ad (zpi g j)) r0) :: rest.map (zcv ad) := by
    show _ = _
    rw [hstk, List.map_cons, List.reverse_cons, List.append_assoc]
    rfl
  have hpre : ∀ U : State, U.heap = H → s.WarmedH U.vm → va_Pc ((.ref r0 :: av).map (zcv (fun j => ad (zpi g j)))) (fun U => zPre D ca (fun j => ad (zpi g j)) hc H.size U ∧ zEx U) ((.ref r0 :: av).map (zcv (fun j => ad (zpi g j)))).toArray U := fun U hU hW => by
    obtain ⟨q1, q2⟩ := zpre (av := .ref r0 :: av) hs hnd hg hP hD hKK hA hS U hU hW
    exact ⟨q1, q2, hex.warm hW⟩
  have hrun := va_runI (p := p) (e := e) (below := below) (meth := meth) (R := zrc n kc ks) (locs := locs) (cells := k0) (slots := s0) (bytes := M'.2.1) (maxL := M'.2.2.1) (As := av.map (zcv (fun j => ad (zpi g j)))) (rest := rest.map (zcv ad)) (g := F0 m pc ls _) ⟨hx, hb1, hml, hown, hts⟩ (hM l D ca (fun j => ad (zpi g j)) H.size) (cwI (ws' := zG) np hts (zgood (zws_G hcd)) (by unfold zws; rw [hret]) rfl rfl (hts _ (List.mem_cons_of_mem _ hin)) (hts _ (List.mem_cons_of_mem _ hl1)) (hts _ (List.mem_cons_of_mem _ hl2)) hl3 ⟨hy1, hy2, hy3⟩ ⟨hn, by show 8 + (M'.2.2.1 + 11) + 40 * n' ≤ 40 * n; omega⟩) ⟨zblind2, hpre⟩ rfl (by rw [List.length_map]; exact hap) (hl.1.trans hlv) hst2 (lv_room hcat) d ⟨hk, hs0⟩
  refine va_callv hrun hS (fun q _ hq => hAA q hq) hAA (fun ad' t H1 locs1 ht hvm hw hB hz1 hk1 hS1 => ?_)
  obtain ⟨hP1, hD1⟩ := hB
  rw [ht] at hP1
  obtain ⟨hP2, hD2, e0⟩ := zgrow2 hs hP hD hAA hk1 hw hP1 hD1 hg' hlen hs2 hr hr2 hr3 hc1 hc2 hb
  have h9 := k (zad2 ad ad' h.length hc.length) H1 locs1 ls (fun j hj => (e0 j (by omega)).trans (had j hj)) (by rw [zco_eq (fun j hj => e0 j (Or.inl hj)) lv 0 hlc]; exact hl) hP2 hD2 hS1
  rw [zcs_eq (fun j hj => e0 j (Or.inl hj)) hsc] at h9
  exact h9
/-- a constructor's call: its cells hc at the places g grow to h', at the places g' -/
theorem u_ctN (hx : zOc x M n kc ks) {r0 : Nat} (g g' r : List Nat) (hM : zMk M' n' kc' ks' (.ref r0 :: av) hc h') (d : decode M.2.1 pc = .ok (.invokespecial idx, 3)) (site : zLj M.1.cls idx M' np) (hs : zsub h g hc) (hst : st = ((.ref r0 :: av).map (zcv (zpi g))).reverse ++ rest) (hlv : lv.length = M.2.2.1) (hnd : g.Nodup) (hg : g.length ≤ 1000) (hap : av.length = np) (hcat : (rest.map fun v => v.category).sum ≤ 8) (hn : n' + 1 ≤ n) (hk : k0 + kc' ≤ kc) (hs0 : s0 + ks' ≤ ks)
    (hg' : g' = g ++ List.range' h.length ex) (hlen : h'.length = hc.length + ex) (hs2 : zsub h2 g' h') (hr : ∀ k, k < h2.length → k ∈ g' ∨ k ∈ r) (hr2 : r.map (fun k => h2[k]?) = r.map (fun k => h[k]?)) (hr3 : ∀ k ∈ r, k < h.length ∧ k ∉ g') (hc1 : zcl h.length h = true) (hc2 : zcl h'.length h' = true) (hb : h.length + ex ≤ 1000) (hlc : lv.all (zco h.length) = true) (hsc : rest.all (zc1 h.length) = true) (hn0 : n0 ≤ h.length)
    (k : zU x n0 (k0 + kc') (s0 + ks') (pc + 3) lv rest h2) : zU x n0 k0 s0 pc lv st h := by
  subst hst
  obtain ⟨p, l, e, R, s, m, args, below, meth, c, D, ca, ad0, A, Q⟩ := x
  obtain ⟨hx, hb1, hml, hown, hts, hKK0, hA, hR, hrt, hlk, hnm, hex⟩ := hx
  subst hR
  intro ad H locs ls had hl hP hD hS
  have hKK : zKK D ca ad A s s.heap := zKK.sw (had 1000 (Or.inr (by decide))) (had 1001 (Or.inr (by decide))) hKK0
  have hstk : (((.ref r0 :: av).map (zcv (zpi g))).reverse ++ rest).map (zcv ad) = ((.ref r0 :: av).map (zcv (fun j => ad (zpi g j)))).reverse ++ rest.map (zcv ad) := by
    rw [List.map_append, List.map_reverse]
    congr 2
    rw [List.map_map]
    apply List.map_congr_left
    intro v _
    exact zcv_cv ad (zpi g) v
  have hcat : ((rest.map (zcv ad)).map fun v => v.category).sum ≤ 8 := by
    rw [List.map_map]
    have : ((fun v : Value => v.category) ∘ zcv ad) = fun v => v.category := funext fun v => zcv_cat ad v
    rw [this]
    exact hcat
  have hAA := zsub_A hs hD hA hS
  obtain ⟨⟨hcd, hin, hy1, hy2, hy3, hy4⟩, hl1, hl2, hl3, hret⟩ := site
  have hst2 : (F0 m pc ls ((((.ref r0 :: av).map (zcv (zpi g))).reverse ++ rest).map (zcv ad))).stack = (av.map (zcv (fun j => ad (zpi g j)))).reverse ++ .ref ((fun j => ad (zpi g j)) r0) :: rest.map (zcv ad) := by
    show _ = _
    rw [hstk, List.map_cons, List.reverse_cons, List.append_assoc]
    rfl
  have hpre : ∀ U : State, U.heap = H → s.WarmedH U.vm → va_Pc ((.ref r0 :: av).map (zcv (fun j => ad (zpi g j)))) (fun U => zPre D ca (fun j => ad (zpi g j)) hc H.size U ∧ zEx U) ((.ref r0 :: av).map (zcv (fun j => ad (zpi g j)))).toArray U := fun U hU hW => by
    obtain ⟨q1, q2⟩ := zpre (av := .ref r0 :: av) hs hnd hg hP hD hKK hA hS U hU hW
    exact ⟨q1, q2, hex.warm hW⟩
  have hrun := va_runIN (host := RX11) (p := p) (e := e) (below := below) (meth := meth) (R := zrc n kc ks) (locs := locs) (cells := k0) (slots := s0) (bytes := M'.2.1) (maxL := M'.2.2.1) (As := av.map (zcv (fun j => ad (zpi g j)))) (rest := rest.map (zcv ad)) (g := F0 m pc ls _) ⟨hx, hb1, hml, hown, hts⟩ (hM l D ca (fun j => ad (zpi g j)) H.size) ⟨va_cnB (ws' := zG) np hts (zgood (zws_G hcd)) (by unfold zws; rw [hret]) rfl rfl (hex.1 _ hl1) (hts _ (List.mem_cons_of_mem _ hin)) ⟨hy1, hy2, hy3⟩ ⟨hn, by show 8 + (M'.2.2.1 + 11) + 40 * n' ≤ 40 * n; omega⟩, hl3, hts _ (List.mem_cons_of_mem _ hl2)⟩ ⟨zblind2, hpre⟩ rfl (by rw [List.length_map]; exact hap) (hl.1.trans hlv) hst2 (lv_room hcat) d ⟨hk, hs0⟩
  refine va_callv hrun hS (fun q _ hq => hAA q hq) hAA (fun ad' t H1 locs1 ht hvm hw hB hz1 hk1 hS1 => ?_)
  obtain ⟨hP1, hD1⟩ := hB
  rw [ht] at hP1
  obtain ⟨hP2, hD2, e0⟩ := zgrow2 hs hP hD hAA hk1 hw hP1 hD1 hg' hlen hs2 hr hr2 hr3 hc1 hc2 hb
  have h9 := k (zad2 ad ad' h.length hc.length) H1 locs1 ls (fun j hj => (e0 j (by omega)).trans (had j hj)) (by rw [zco_eq (fun j hj => e0 j (Or.inl hj)) lv 0 hlc]; exact hl) hP2 hD2 hS1
  rw [zcs_eq (fun j hj => e0 j (Or.inl hj)) hsc] at h9
  exact h9
theorem u_callvs (hx : zOc x M n kc ks) {Qr : List zE → Prop} (g : List Nat) (hM : zMv M' n' (av) hc Qr) (d : decode M.2.1 pc = .ok (.invokestatic idx, 3)) (site : zLs M.1.cls idx M' np) (hs : zsub h g hc) (hst : st = ((av).map (zcv (zpi g))).reverse ++ rest) (hlv : lv.length = M.2.2.1) (hnd : g.Nodup) (hg : g.length ≤ 1000) (hap : (av).length = np) (hcat : (rest.map fun v => v.category).sum ≤ 8) (hn : n' + 1 ≤ n) (hk : k0 ≤ kc) (hs0 : s0 ≤ ks) (k : ∀ u, u.length = hc.length → Qr u → zU x n0 k0 s0 (pc + 3) lv rest (zpt h g u)) : zU x n0 k0 s0 pc lv st h := by
  subst hst
  obtain ⟨p, l, e, R, s, m, args, below, meth, c, D, ca, ad0, A, Q⟩ := x
  obtain ⟨hx, hb, hml, hown, hts, hKK0, hA, hR, hr, hlk, hnm, hex⟩ := hx
  subst hR
  intro ad H locs ls had hl hP hD hS
  have hKK : zKK D ca ad A s s.heap := zKK.sw (had 1000 (Or.inr (by decide))) (had 1001 (Or.inr (by decide))) hKK0
  have hstk : (((av).map (zcv (zpi g))).reverse ++ rest).map (zcv ad) = ((av).map (zcv (fun j => ad (zpi g j)))).reverse ++ rest.map (zcv ad) := by
    rw [List.map_append, List.map_reverse]
    congr 2
    rw [List.map_map]
    apply List.map_congr_left
    intro v _
    exact zcv_cv ad (zpi g) v
  have hcat : ((rest.map (zcv ad)).map fun v => v.category).sum ≤ 8 := by
    rw [List.map_map]
    have : ((fun v : Value => v.category) ∘ zcv ad) = fun v => v.category := funext fun v => zcv_cat ad v
    rw [this]
    exact hcat
  have hAA := zsub_A hs hD hA hS
  obtain ⟨⟨hcd, hin, hc1, hc2, hc3, hc4⟩, hsite⟩ := site
  have hrun := va_runS (p := p) (e := e) (below := below) (meth := meth) (R := zrc n kc ks) (locs := locs) (cells := k0) (slots := s0) (As := av.map (zcv (fun j => ad (zpi g j)))) (rest := rest.map (zcv ad)) (g := F0 m pc ls _) ⟨hx, hb, hml, hown, hts⟩ (hM l D ca (fun j => ad (zpi g j)) H.size) ⟨callB_of np hts (zgood (zws_G hcd)) rfl rfl rfl (hts _ (List.mem_cons_of_mem _ hin)) (hts _ (List.mem_cons_of_mem _ hsite.1)) ⟨hc1, hc2, hc3⟩ ⟨hn, by show 8 + (M'.2.2.1 + 11) + 40 * n' ≤ 40 * n; omega⟩, hts _ (List.mem_cons_of_mem _ hsite.2)⟩ ⟨zblind, (zpre (av := av) hs hnd hg hP hD hKK hA hS)⟩ rfl (by rw [List.length_map]; exact hap) (hl.1.trans hlv) hstk (lv_room hcat) d ⟨hk, hs0⟩
  refine va_callv hrun hS (fun q _ hq => hAA q hq) hAA (fun u t H1 locs1 ht hvm hw hB hz1 hk1 hS1 => ?_)
  have hP1 := hB.1
  rw [ht] at hP1
  exact k u hw.1 hw.2 ad H1 locs1 ls had hl (zjoin hs hnd hP hD hk1 hw.1 hP1) (zD_len hD (zpt0_len _ _ _)) hS1
theorem u_newq (hx : zOc x M n kc ks) {a : Int32} {N t0 : Nat} {C : String} (d : decode M.2.1 pc = .ok (.anewarray idx, 3)) (ha : a = nI N) (hN : N ≤ 100000) (hlc0 : Cond.classLink M.1.cls idx C ∈ zG) (hao : ∀ U, zEx U → va_AO C U) (ht : ∀ ca, (ztys ca)[t0]? = some (ca t0, .object C)) (hc : zcl h.length h = true) (hlc : lv.all (zco h.length) = true) (hsc : st.all (zc1 h.length) = true) (hn0 : n0 ≤ h.length) (hn1 : h.length < 1000) (hk : k0 + 1 ≤ kc) (hs : s0 + N ≤ ks) (k : zU x n0 (k0 + 1) (s0 + N) (pc + 3) lv (.ref h.length :: st) (h ++ [zR t0 (List.replicate N .null)])) : zU x n0 k0 s0 pc lv (.int a :: st) h := by
  subst ha
  obtain ⟨p, l, e, R, s, m, args, below, meth, c, D, ca, ad0, A, Q⟩ := x
  obtain ⟨hx, hb, hml, hown, hts, hKK, hA, hR, hr, hlk, hnm, hex⟩ := hx
  subst hR
  intro ad H locs ls had hl hP hD hS
  refine va_newq (C := C) (N' := N) hx hb hown (hts _ (List.mem_cons_of_mem _ hlc0)) (hao _ hex) hKK.1 hP hD hS hA (nI_pos (by omega)) (nI_clamp (by omega)) (by omega) hk hs d (fun q cA H1 hK1 hP1 hD1 hS1 => ?_)
  have hcA : cA = ca t0 := by
    obtain ⟨kA, comp, a1, a2, a3, a4⟩ := (hK1.2 5 (cA, .object C) rfl).2
    exact zarr_id hKK.1 (ht ca) a4
  have e9 : zce ad ca (zR t0 (List.replicate N .null)) = .inl (cA, N, .inr (.inr (.inr (.inr (fun _ => none))))) := by
    rw [hcA]
    simp only [zce, List.length_replicate]
    congr 7
    funext i
    rw [List.getElem?_replicate]
    split <;> rfl
  refine u_grow (e1 := zR t0 (List.replicate N .null)) k hc ?_ hlc hsc hn0 hn1 had hl (by rw [e9]; exact hP1) (by rw [e9]; exact hD1) hS1
  show (List.replicate N Value.null).all _ = true
  rw [List.all_eq_true]
  intro v hv
  rw [(List.mem_replicate.mp hv).2]
  rfl
theorem zce_set {ad ca : Nat → Nat} {t0 j r : Nat} {fs : List Value} (hj : j < fs.length) : zce ad ca (zR t0 (fs.set j (.ref r))) = .inl (ca t0, fs.length, .inr (.inr (.inr (.inr (va_up (fun i => zrf ad fs[i]?) j (some (ad r))))))) := by
  simp only [zce, List.length_set]
  congr 7
  funext i
  by_cases hi : i = j
  · subst hi
    rw [List.getElem?_set_self hj]
    simp [va_up, zrf]
  · rw [List.getElem?_set_ne (fun q => hi q.symm)]
    simp [va_up, hi]
theorem u_aastW (hx : zOc x M n kc ks) {q r j ci : Nat} {fs vs : List Value} {C : String} {T : u_T} {N : Nat} (d : decode M.2.1 pc = .ok (.aastore, 1)) (hq : h[q]? = some (zR 3 fs)) (hr0 : h[r]? = some (zO ci vs)) (hci : vwCl[ci]? = some (C, T, N)) (hC : C ∈ zNW) (hj : j < fs.length) (hL : fs.length ≤ 100) (k : zU x n0 k0 s0 (pc + 1) lv st (h.set q (zR 3 (fs.set j (.ref r))))) : zU x n0 k0 s0 pc lv (.ref r :: .int (nI j) :: .ref q :: st) h := by
  obtain ⟨p, l, e, R, s, m, args, below, meth, c, D, ca, ad0, A, Q⟩ := x
  obtain ⟨hx, hb, hml, hown, hts, hKK, hA, hR, hr, hlk, hnm, hex⟩ := hx
  intro ad H locs ls had hl hP hD hS
  refine va_astqO (r := (C, T, N)) hx hb hKK.1 hP hD hS q 3 r ci (zcw_get hq) rfl (hex.2.1 C hC) (zcw_get hr0) hci (vp_in_nI hj (by omega)) d (fun H1 locs1 hP1 hD1 hS1 => ?_)
  rw [nI_clamp (by omega), ← zce_set (ad := ad) (ca := ca) (t0 := 3) hj, zcw_set] at hP1 hD1
  exact k ad H1 locs1 ls had hl hP1 hD1 hS1
theorem u_aastL (hx : zOc x M n kc ks) {q r j : Nat} {fs vs : List Value} (d : decode M.2.1 pc = .ok (.aastore, 1)) (hq : h[q]? = some (zR 2 fs)) (hr0 : h[r]? = some (zO 4 vs)) (hj : j < fs.length) (hL : fs.length ≤ 100) (k : zU x n0 k0 s0 (pc + 1) lv st (h.set q (zR 2 (fs.set j (.ref r))))) : zU x n0 k0 s0 pc lv (.ref r :: .int (nI j) :: .ref q :: st) h := by
  obtain ⟨p, l, e, R, s, m, args, below, meth, c, D, ca, ad0, A, Q⟩ := x
  obtain ⟨hx, hb, hml, hown, hts, hKK, hA, hR, hr, hlk, hnm, hex⟩ := hx
  intro ad H locs ls had hl hP hD hS
  refine va_astq (r := (RX4, TX4, 12)) hx hb hKK.1 hP hD hS q 2 r 4 (zcw_get hq) rfl (zcw_get hr0) rfl (vp_in_nI hj (by omega)) d (fun H1 locs1 hP1 hD1 hS1 => ?_)
  rw [nI_clamp (by omega), ← zce_set (ad := ad) (ca := ca) (t0 := 2) hj, zcw_set] at hP1 hD1
  exact k ad H1 locs1 ls had hl hP1 hD1 hS1
end ZUC
