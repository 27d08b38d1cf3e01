/-! CALLS, with the frame: the callee's cells are those at the caller's places g -/
def zpi (g : List Nat) (k : Nat) : Nat := g.getD k k
def zpt0 : List zE → List Nat → List zE → List zE
  | h, i :: g, e :: u => zpt0 (h.set i e) g u
  | h, [], _ => h
  | h, _ :: _, [] => h
def zpt (h : List zE) (g : List Nat) (u : List zE) : List zE := zpt0 h g (u.map (zrn (zpi g)))
def zsub (h : List zE) (g : List Nat) (hc : List zE) : Prop := g.map (fun i => h[i]?) = hc.map (fun e => some (zrn (zpi g) e))
theorem zsub_at {h hc : List zE} {g : List Nat} (hs : zsub h g hc) {k : Nat} {e : zE} (hk : hc[k]? = some e) : ∃ i, g[k]? = some i ∧ h[i]? = some (zrn (zpi g) e) ∧ zpi g k = i := by
  have h1 : (g.map (fun i => h[i]?))[k]? = some (some (zrn (zpi g) e)) := by rw [hs, List.getElem?_map, hk]; rfl
  rw [List.getElem?_map] at h1
  cases hg : g[k]? with
  | none => rw [hg] at h1; cases h1
  | some i =>
    rw [hg] at h1
    exact ⟨i, rfl, Option.some.inj h1, by unfold zpi; rw [List.getD_eq_getElem?_getD, hg]; rfl⟩
theorem zsub_len {h hc : List zE} {g : List Nat} (hs : zsub h g hc) : g.length = hc.length := by
  have := congrArg List.length hs
  simpa using this
theorem zsub_w {ad ca : Nat → Nat} {h hc : List zE} {g : List Nat} (hs : zsub h g hc) {k : Nat} {q : Nat × va_E} (hq : (zcw (fun j => ad (zpi g j)) ca hc)[k]? = some q) : ∃ i, g[k]? = some i ∧ (zcw ad ca h)[i]? = some q := by
  obtain ⟨e, h1, h2⟩ := zcw_of hq
  obtain ⟨i, h3, h4, h5⟩ := zsub_at hs h1
  refine ⟨i, h3, ?_⟩
  rw [zcw_get h4, zce_rn, h2, h5]
theorem zpt0_len : ∀ (g : List Nat) (h us : List zE), (zpt0 h g us).length = h.length
  | [], h, us => by cases us <;> rfl
  | i :: g, h, [] => rfl
  | i :: g, h, e :: us => by rw [zpt0, zpt0_len g]; exact List.length_set
theorem zpt0_out : ∀ (g : List Nat) (h us : List zE) (k : Nat), k ∉ g → (zpt0 h g us)[k]? = h[k]?
  | [], h, us, k, _ => by cases us <;> rfl
  | i :: g, h, [], k, _ => rfl
  | i :: g, h, e :: us, k, hk => by
    rw [zpt0, zpt0_out g _ us k (fun q => hk (List.mem_cons_of_mem _ q)), List.getElem?_set_ne (fun q => hk (by rw [q]; exact List.mem_cons_self))]
theorem zpt0_in : ∀ (g : List Nat) (h us : List zE) (j k : Nat) (e : zE), g.Nodup → g[j]? = some k → us[j]? = some e → k < h.length → (zpt0 h g us)[k]? = some e
  | [], h, us, j, k, e, _, hg, _, _ => by simp at hg
  | i :: g, h, [], j, k, e, _, _, hu, _ => by simp at hu
  | i :: g, h, e0 :: us, j, k, e, hn, hg, hu, hl => by
    rw [zpt0]
    cases j with
    | zero =>
      simp at hg hu
      subst hg
      subst hu
      rw [zpt0_out g _ us i (List.nodup_cons.mp hn).1, List.getElem?_set_self hl]
    | succ j => exact zpt0_in g _ us j k e (List.nodup_cons.mp hn).2 (by simpa using hg) (by simpa using hu) (by rw [List.length_set]; exact hl)
theorem zD_len {ad ca : Nat → Nat} {A : Nat → Prop} {h h2 : List zE} (hD : va_D A (zcw ad ca h)) (hl : h2.length = h.length) : va_D A (zcw ad ca h2) := by
  have up : ∀ (k : Nat) (q : Nat × va_E), (zcw ad ca h2)[k]? = some q → ∃ e, (zcw ad ca h)[k]? = some (q.1, e) := fun k q hq => by
    obtain ⟨e, h1, h2⟩ := zcw_of hq
    have hk := (List.getElem?_eq_some_iff.mp h1).1
    rw [hl] at hk
    exact ⟨_, by rw [zcw_get (List.getElem?_eq_getElem hk), h2]⟩
  refine ⟨fun i j p q hp hq e => ?_, fun k q hq => ?_⟩
  · obtain ⟨e1, h1⟩ := up i p hp
    obtain ⟨e2, h2⟩ := up j q hq
    exact hD.1 i j _ _ h1 h2 e
  · obtain ⟨e1, h1⟩ := up k q hq
    exact hD.2 k (q.1, e1) h1
theorem zsub_P {D : va_G} {ad ca : Nat → Nat} {h hc : List zE} {g : List Nat} {H : Heap} (hs : zsub h g hc) (hP : va_P D vwCl (zcw ad ca h) H) : va_P D vwCl (zcw (fun j => ad (zpi g j)) ca hc) H := fun k q hq => by
  obtain ⟨i, -, h2⟩ := zsub_w hs hq
  exact hP i q h2
theorem zsub_D {ad ca : Nat → Nat} {A : Nat → Prop} {h hc : List zE} {g : List Nat} (hs : zsub h g hc) (hn : g.Nodup) (hD : va_D A (zcw ad ca h)) : va_D (fun _ => True) (zcw (fun j => ad (zpi g j)) ca hc) := by
  refine ⟨fun i j p q hp hq e => ?_, fun _ _ _ => trivial⟩
  obtain ⟨i1, g1, h1⟩ := zsub_w hs hp
  obtain ⟨i2, g2, h2⟩ := zsub_w hs hq
  have := hD.1 i1 i2 p q h1 h2 e
  subst this
  have hi := (List.getElem?_eq_some_iff.mp g1).1
  exact (List.getElem?_inj hi hn).mp (g1.trans g2.symm)
theorem zsub_A {ad ca : Nat → Nat} {A : Nat → Prop} {h hc : List zE} {g : List Nat} {H0 H : Heap} {locs : List Loc} (hs : zsub h g hc) (hD : va_D A (zcw ad ca h)) (hA : ∀ q, H0.size ≤ q → A q) (hS : va_S A H0 H locs) : ∀ q, va_A (zcw (fun j => ad (zpi g j)) ca hc) H.size q → A q := by
  rintro q (⟨k, e, hk⟩ | hk)
  · obtain ⟨i, -, h2⟩ := zsub_w hs hk
    exact hD.2 i _ h2
  · exact hA q (Nat.le_trans hS.1 hk)
theorem zjoin {D : va_G} {ad ca : Nat → Nat} {A : Nat → Prop} {h hc u : List zE} {g : List Nat} {H H1 : Heap} (hs : zsub h g hc) (hn : g.Nodup) (hP : va_P D vwCl (zcw ad ca h) H) (hD : va_D A (zcw ad ca h))
    (hk : ∀ q : Nat, q < H.size → ¬ va_A (zcw (fun j => ad (zpi g j)) ca hc) H.size q → H1[q]? = H[q]?) (hu : u.length = hc.length) (hP1 : va_P D vwCl (zcw (fun j => ad (zpi g j)) ca u) H1) : va_P D vwCl (zcw ad ca (zpt h g u)) H1 := by
  intro k q hq
  obtain ⟨e, h1, rfl⟩ := zcw_of hq
  have hkl : k < h.length := by
    have := (List.getElem?_eq_some_iff.mp h1).1
    rw [zpt, zpt0_len] at this
    exact this
  by_cases hm : k ∈ g
  · obtain ⟨j, hj, hj2⟩ := List.mem_iff_getElem.mp hm
    have hgj : g[j]? = some k := by rw [List.getElem?_eq_getElem hj, hj2]
    have hju : j < u.length := by rw [hu, ← zsub_len hs]; exact hj
    have h3 : (zpt h g u)[k]? = some (zrn (zpi g) u[j]) := zpt0_in g h _ j k _ hn hgj (by rw [List.getElem?_map, List.getElem?_eq_getElem hju]; rfl) hkl
    cases Option.some.inj (h1.symm.trans h3)
    have h4 := zcw_get (ad := fun j => ad (zpi g j)) (ca := ca) (List.getElem?_eq_getElem hju)
    have h5 : zpi g j = k := by unfold zpi; rw [List.getD_eq_getElem?_getD, hgj]; rfl
    have h6 := hP1 j _ h4
    rw [h5] at h6
    rw [zce_rn]
    exact h6
  · have h3 : (zpt h g u)[k]? = h[k]? := zpt0_out g h _ k hm
    have h4 := zcw_get (ad := ad) (ca := ca) (h3.symm.trans h1)
    have h5 := hP k _ h4
    refine h5.kept (hk _ h5.lt ?_)
    rintro (⟨j, e2, hj⟩ | hj)
    · obtain ⟨i, g1, g2⟩ := zsub_w hs hj
      have := hD.1 i k _ _ g2 h4 rfl
      subst this
      exact hm (List.mem_of_getElem? g1)
    · have := h5.lt
      exact absurd hj (Nat.not_le.mpr this)
theorem zgood {M : zM} {l : List Cond} (h : ∀ w ∈ l, w ∈ zG) : GoodIn (zws M) l := fun w hw => ⟨List.mem_cons_of_mem _ (h w hw), good_of_word (List.mem_filter.mp (h w hw)).2⟩
def zCd (M : zM) : Cond := Cond.code M.1 M.2.1 M.2.2.1 M.2.2.2
theorem zws_G {M : zM} (hc : zCd M ∈ zG) : ∀ w ∈ zws M, w ∈ zG := fun w hw => (List.mem_cons.mp hw).elim (fun e => by rw [e]; exact hc) id
/-- a call's place: its callee's words -/
def zLc (M : zM) (np : Nat) : Prop := zCd M ∈ zG ∧ Cond.initialized M.1.cls ∈ zG ∧ M.1.cls ≠ "java/lang/invoke/MethodHandle" ∧ M.1.cls ≠ "java/lang/invoke/VarHandle" ∧ (parseMethodDescriptor M.1.desc).map (fun d => d.parameters.length) = some np ∧ M.2.2.1 ≤ 21
def zLs (own : String) (idx : Nat) (M : zM) (np : Nat) : Prop := zLc M np ∧ Cond.methodLink own idx M.1 ∈ zG ∧ Cond.static M.1 ∈ zG
def zLn (own : String) (idx : Nat) (M : zM) (host : String) (np : Nat) : Prop := zLc M np ∧ (own, idx, M.1, host) ∈ zNM ∧ Cond.static M.1 ∈ zG
def zLv (own : String) (idx : Nat) (M : zM) (np : Nat) : Prop := zLc M np ∧ Cond.methodLink own idx M.1 ∈ zG ∧ Cond.instanceMethod M.1 ∈ zG ∧ Cond.selects M.1.cls M.1 M.1 ∈ zG
/-- above: the class own calls its superclass's method -/
def zLu (own : String) (idx : Nat) (M : zM) (np : Nat) : Prop := zLc M np ∧ Cond.methodLink own idx M.1 ∈ zG ∧ Cond.sameMethod M.1.cls M.1.cls M.1.name M.1.desc ∈ zG ∧ Cond.superclass own M.1.cls ∈ zG ∧ Cond.instanceMethod M.1 ∈ zG ∧ M.1.name ≠ "<init>"
/-- the named method y0 (declared at its class), taken by a receiver of class C to be M -/
def zLo (own : String) (idx : Nat) (C : String) (y0 : MethodName) (M : zM) (np : Nat) : Prop := zLc M np ∧ Cond.methodLink own idx y0 ∈ zG ∧ Cond.sameMethod y0.cls y0.cls y0.name y0.desc ∈ zG ∧ Cond.selects C y0 M.1 ∈ zG ∧ Cond.instanceMethod M.1 ∈ zG ∧ y0.cls ≠ "java/lang/invoke/MethodHandle" ∧ y0.cls ≠ "java/lang/invoke/VarHandle" ∧ (parseMethodDescriptor y0.desc).map (fun d => d.parameters.length) = some np ∧ (y0 = zyH ∨ (Cond.instanceMethod y0 ∈ zG ∧ ∃ b0 m0 r0, Cond.code y0 b0 m0 r0 ∈ zG))
theorem zblind {D : va_G} {ca ad : Nat → Nat} {h : List zE} {sz : Nat} {av : List Value} : FrameBlind (va_Pc av (zPre D ca ad h sz)) := fun a U g mk q => by
  obtain ⟨q0, q1, q2, q3, q4⟩ := q
  exact ⟨q0, q1, q2, q3, q4.blind g mk a⟩
theorem zpre {D : va_G} {ca ad : Nat → Nat} {A : Nat → Prop} {s : State} {h hc : List zE} {g : List Nat} {H : Heap} {locs : List Loc} {av : List Value} (hs : zsub h g hc) (hn : g.Nodup) (hg : g.length ≤ 1000) (hP : va_P D vwCl (zcw ad ca h) H) (hD : va_D A (zcw ad ca h)) (hKK : zKK D ca ad A s s.heap) (hA : ∀ q, s.heap.size ≤ q → A q) (hS : va_S A s.heap H locs) :
    ∀ U : State, U.heap = H → s.WarmedH U.vm → va_Pc (av.map (zcv (fun j => ad (zpi g j)))) (zPre D ca (fun j => ad (zpi g j)) hc H.size) (av.map (zcv (fun j => ad (zpi g j)))).toArray U := fun U hU hW => by
  have e : ∀ k, 1000 ≤ k → zpi g k = k := fun k hk => by unfold zpi; rw [List.getD_eq_getElem?_getD, List.getElem?_eq_none (by omega)]; rfl
  refine ⟨rfl, by rw [hU], by rw [hU]; exact zsub_P hs hP, zsub_D hs hn hD, ?_⟩
  rw [hU]
  exact hKK.warm hW hS (zsub_A hs hD hA hS) (by show ad (zpi g 1000) = _; rw [e 1000 (by omega)]) (by show ad (zpi g 1001) = _; rw [e 1001 (by omega)])
theorem z_aald2 {x : zC} {M : zM} {n pc : Nat} {lv : List (Option Value)} {st : List Value} {h : List zE} (hx : zOk x M n) {q r j : Nat} {fs : List Value} (d : decode M.2.1 pc = .ok (.aaload, 1)) (hq : h[q]? = some (zR 4 fs)) (hj : j < fs.length) (hL : fs.length < 2147483648) (hfr : fs[j]? = some (.ref r)) (k : zV x (pc + 1) lv (.ref r :: st) h) : zV x pc lv (.int (nI j) :: .ref q :: st) h := by
  obtain ⟨p, l, e, R, s, m, args, below, meth, c, D, ca, ad, A, Q⟩ := x
  obtain ⟨hx, hb, hml, hown, hts, hKK, hA, hR, hr, hlk⟩ := hx
  intro H locs ls hl hP hD hS
  have hi : vp_in (nI j) fs.length := vp_in_nI hj (by omega)
  have hcl : (nI j).toNatClampNeg = j := nI_clamp (by omega)
  have ha := hP q _ (zcw_get hq)
  refine W.aald (v := .ref (ad r)) (ty := .array .int) hx hb ha ((hKK.1.2 4 _ rfl).1 fs.length (fun j => va_rf (zrf ad fs[j]?))) rfl (fun q => by cases q) (by show ¬ (nI j < 0 ∨ (arrV _ _ _).slots.size ≤ _); rw [arrV_size]; exact hi) (by show (arrV _ _ _).slots[_]? = _; rw [hcl, arrV_read _ _ hj]; show some (va_rf (zrf ad fs[j]?)) = _; rw [hfr]; rfl) rfl rfl d (k H locs ls hl hP hD hS)
section ZCL
variable {x : zC} {M M' : zM} {n n' pc idx np : Nat} {lv : List (Option Value)} {st rest : List Value} {h hc : List zE} {av : List Value}
theorem z_callis (hx : zOk x M n) {Qr : Int32 → List zE → Prop} (g : List Nat) (hM : zMi M' n' (av) hc Qr) (d : decode M.2.1 pc = .ok (.invokestatic idx, 3)) (site : zLs M.1.cls idx M' np) (hs : zsub h g hc) (hst : st = ((av).map (zcv (zpi g))).reverse ++ rest) (hlv : lv.length = M.2.2.1) (hnd : g.Nodup) (hg : g.length ≤ 1000) (hap : (av).length = np) (hcat : (rest.map fun v => v.category).sum ≤ 8) (hn : n' + 1 ≤ n) (k : ∀ r u, u.length = hc.length → Qr r u → zV x (pc + 3) lv (.int r :: rest) (zpt h g u)) : zV x pc lv st h := by
  subst hst
  obtain ⟨p, l, e, R, s, m, args, below, meth, c, D, ca, ad, A, Q⟩ := x
  obtain ⟨hx, hb, hml, hown, hts, hKK, hA, hR, hr, hlk⟩ := hx
  subst hR
  intro H locs ls hl hP hD hS
  have hstk : (((av).map (zcv (zpi g))).reverse ++ rest).map (zcv ad) = ((av).map (zcv (fun j => ad (zpi g j)))).reverse ++ rest.map (zcv ad) := by
    rw [List.map_append, List.map_reverse]
    congr 2
    rw [List.map_map]
    apply List.map_congr_left
    intro v _
    exact zcv_cv ad (zpi g) v
  have hcat : ((rest.map (zcv ad)).map fun v => v.category).sum ≤ 8 := by
    rw [List.map_map]
    have : ((fun v : Value => v.category) ∘ zcv ad) = fun v => v.category := funext fun v => zcv_cat ad v
    rw [this]
    exact hcat
  have hAA := zsub_A hs hD hA hS
  obtain ⟨⟨hcd, hin, hc1, hc2, hc3, hc4⟩, hsite⟩ := site
  have hrun := va_runS (p := p) (e := e) (below := below) (meth := meth) (R := zrm n) (locs := locs) (cells := 0) (slots := 0) (As := av.map (zcv (fun j => ad (zpi g j)))) (rest := rest.map (zcv ad)) (g := F0 m pc ls _) ⟨hx, hb, hml, hown, hts⟩ (hM l D ca (fun j => ad (zpi g j)) H.size) ⟨callB_of np hts (zgood (zws_G hcd)) rfl rfl rfl (hts _ (List.mem_cons_of_mem _ hin)) (hts _ (List.mem_cons_of_mem _ hsite.1)) ⟨hc1, hc2, hc3⟩ ⟨hn, by show 8 + (M'.2.2.1 + 11) + 40 * n' ≤ 40 * n; omega⟩, hts _ (List.mem_cons_of_mem _ hsite.2)⟩ ⟨zblind, (zpre (av := av) hs hnd hg hP hD hKK hA hS)⟩ rfl (by rw [List.length_map]; exact hap) (hl.1.trans hlv) hstk (lv_room hcat) d ⟨Nat.le_refl _, Nat.le_refl _⟩
  refine va_calli hrun hS (fun q _ hq => hAA q hq) hAA (fun r u t H1 locs1 ht hvm hw hB hz1 hk1 hS1 => ?_)
  have hP1 := hB.1
  rw [ht] at hP1
  exact k r u hw.1 hw.2 H1 locs1 ls hl (zjoin hs hnd hP hD hk1 hw.1 hP1) (zD_len hD (zpt0_len _ _ _)) hS1
theorem z_callvs (hx : zOk x M n) {Qr : List zE → Prop} (g : List Nat) (hM : zMv M' n' (av) hc Qr) (d : decode M.2.1 pc = .ok (.invokestatic idx, 3)) (site : zLs M.1.cls idx M' np) (hs : zsub h g hc) (hst : st = ((av).map (zcv (zpi g))).reverse ++ rest) (hlv : lv.length = M.2.2.1) (hnd : g.Nodup) (hg : g.length ≤ 1000) (hap : (av).length = np) (hcat : (rest.map fun v => v.category).sum ≤ 8) (hn : n' + 1 ≤ n) (k : ∀ u, u.length = hc.length → Qr u → zV x (pc + 3) lv rest (zpt h g u)) : zV x pc lv st h := by
  subst hst
  obtain ⟨p, l, e, R, s, m, args, below, meth, c, D, ca, ad, A, Q⟩ := x
  obtain ⟨hx, hb, hml, hown, hts, hKK, hA, hR, hr, hlk⟩ := hx
  subst hR
  intro H locs ls hl hP hD hS
  have hstk : (((av).map (zcv (zpi g))).reverse ++ rest).map (zcv ad) = ((av).map (zcv (fun j => ad (zpi g j)))).reverse ++ rest.map (zcv ad) := by
    rw [List.map_append, List.map_reverse]
    congr 2
    rw [List.map_map]
    apply List.map_congr_left
    intro v _
    exact zcv_cv ad (zpi g) v
  have hcat : ((rest.map (zcv ad)).map fun v => v.category).sum ≤ 8 := by
    rw [List.map_map]
    have : ((fun v : Value => v.category) ∘ zcv ad) = fun v => v.category := funext fun v => zcv_cat ad v
    rw [this]
    exact hcat
  have hAA := zsub_A hs hD hA hS
  obtain ⟨⟨hcd, hin, hc1, hc2, hc3, hc4⟩, hsite⟩ := site
  have hrun := va_runS (p := p) (e := e) (below := below) (meth := meth) (R := zrm n) (locs := locs) (cells := 0) (slots := 0) (As := av.map (zcv (fun j => ad (zpi g j)))) (rest := rest.map (zcv ad)) (g := F0 m pc ls _) ⟨hx, hb, hml, hown, hts⟩ (hM l D ca (fun j => ad (zpi g j)) H.size) ⟨callB_of np hts (zgood (zws_G hcd)) rfl rfl rfl (hts _ (List.mem_cons_of_mem _ hin)) (hts _ (List.mem_cons_of_mem _ hsite.1)) ⟨hc1, hc2, hc3⟩ ⟨hn, by show 8 + (M'.2.2.1 + 11) + 40 * n' ≤ 40 * n; omega⟩, hts _ (List.mem_cons_of_mem _ hsite.2)⟩ ⟨zblind, (zpre (av := av) hs hnd hg hP hD hKK hA hS)⟩ rfl (by rw [List.length_map]; exact hap) (hl.1.trans hlv) hstk (lv_room hcat) d ⟨Nat.le_refl _, Nat.le_refl _⟩
  refine va_callv hrun hS (fun q _ hq => hAA q hq) hAA (fun u t H1 locs1 ht hvm hw hB hz1 hk1 hS1 => ?_)
  have hP1 := hB.1
  rw [ht] at hP1
  exact k u hw.1 hw.2 H1 locs1 ls hl (zjoin hs hnd hP hD hk1 hw.1 hP1) (zD_len hD (zpt0_len _ _ _)) hS1
theorem z_callin (hx : zOk x M n) {host : String} {Qr : Int32 → List zE → Prop} (g : List Nat) (hM : zMi M' n' (av) hc Qr) (d : decode M.2.1 pc = .ok (.invokestatic idx, 3)) (site : zLn M.1.cls idx M' host np) (hs : zsub h g hc) (hst : st = ((av).map (zcv (zpi g))).reverse ++ rest) (hlv : lv.length = M.2.2.1) (hnd : g.Nodup) (hg : g.length ≤ 1000) (hap : (av).length = np) (hcat : (rest.map fun v => v.category).sum ≤ 8) (hn : n' + 1 ≤ n) (k : ∀ r u, u.length = hc.length → Qr r u → zV x (pc + 3) lv (.int r :: rest) (zpt h g u)) : zV x pc lv st h := by
  subst hst
  obtain ⟨p, l, e, R, s, m, args, below, meth, c, D, ca, ad, A, Q⟩ := x
  obtain ⟨hx, hb, hml, hown, hts, hKK, hA, hR, hr, hlk⟩ := hx
  subst hR
  intro H locs ls hl hP hD hS
  have hstk : (((av).map (zcv (zpi g))).reverse ++ rest).map (zcv ad) = ((av).map (zcv (fun j => ad (zpi g j)))).reverse ++ rest.map (zcv ad) := by
    rw [List.map_append, List.map_reverse]
    congr 2
    rw [List.map_map]
    apply List.map_congr_left
    intro v _
    exact zcv_cv ad (zpi g) v
  have hcat : ((rest.map (zcv ad)).map fun v => v.category).sum ≤ 8 := by
    rw [List.map_map]
    have : ((fun v : Value => v.category) ∘ zcv ad) = fun v => v.category := funext fun v => zcv_cat ad v
    rw [this]
    exact hcat
  have hAA := zsub_A hs hD hA hS
  obtain ⟨⟨hcd, hin, hc1, hc2, hc3, hc4⟩, hsite⟩ := site
  have hrun := va_runSN (p := p) (e := e) (below := below) (meth := meth) (R := zrm n) (locs := locs) (cells := 0) (slots := 0) (As := av.map (zcv (fun j => ad (zpi g j)))) (rest := rest.map (zcv ad)) (g := F0 m pc ls _) ⟨hx, hb, hml, hown, hts⟩ (hM l D ca (fun j => ad (zpi g j)) H.size) ⟨va_cnB np hts (zgood (zws_G hcd)) rfl rfl rfl (hKK.2.1 _ hsite.1) (hts _ (List.mem_cons_of_mem _ hin)) ⟨hc1, hc2, hc3⟩ ⟨hn, by show 8 + (M'.2.2.1 + 11) + 40 * n' ≤ 40 * n; omega⟩, hts _ (List.mem_cons_of_mem _ hsite.2), trivial⟩ ⟨zblind, (zpre (av := av) hs hnd hg hP hD hKK hA hS)⟩ rfl (by rw [List.length_map]; exact hap) (hl.1.trans hlv) hstk (lv_room hcat) d ⟨Nat.le_refl _, Nat.le_refl _⟩
  refine va_calli hrun hS (fun q _ hq => hAA q hq) hAA (fun r u t H1 locs1 ht hvm hw hB hz1 hk1 hS1 => ?_)
  have hP1 := hB.1
  rw [ht] at hP1
  exact k r u hw.1 hw.2 H1 locs1 ls hl (zjoin hs hnd hP hD hk1 hw.1 hP1) (zD_len hD (zpt0_len _ _ _)) hS1
theorem z_calliv (hx : zOk x M n) {r0 ci : Nat} {fs : List Value} {T : u_T} {N : Nat} {Qr : Int32 → List zE → Prop} (g : List Nat) (hM : zMi M' n' (.ref r0 :: av) hc Qr) (d : decode M.2.1 pc = .ok (.invokevirtual idx, 3)) (site : zLv M.1.cls idx M' np) (hrc : hc[r0]? = some (zO ci fs)) (hci : vwCl[ci]? = some (M'.1.cls, T, N)) (hs : zsub h g hc) (hst : st = ((.ref r0 :: av).map (zcv (zpi g))).reverse ++ rest) (hlv : lv.length = M.2.2.1) (hnd : g.Nodup) (hg : g.length ≤ 1000) (hap : (av).length = np) (hcat : (rest.map fun v => v.category).sum ≤ 8) (hn : n' + 1 ≤ n) (k : ∀ r u, u.length = hc.length → Qr r u → zV x (pc + 3) lv (.int r :: rest) (zpt h g u)) : zV x pc lv st h := by
  subst hst
  obtain ⟨p, l, e, R, s, m, args, below, meth, c, D, ca, ad, A, Q⟩ := x
  obtain ⟨hx, hb, hml, hown, hts, hKK, hA, hR, hr, hlk⟩ := hx
  subst hR
  intro H locs ls hl hP hD hS
  have hstk : (((.ref r0 :: av).map (zcv (zpi g))).reverse ++ rest).map (zcv ad) = ((.ref r0 :: av).map (zcv (fun j => ad (zpi g j)))).reverse ++ rest.map (zcv ad) := by
    rw [List.map_append, List.map_reverse]
    congr 2
    rw [List.map_map]
    apply List.map_congr_left
    intro v _
    exact zcv_cv ad (zpi g) v
  have hcat : ((rest.map (zcv ad)).map fun v => v.category).sum ≤ 8 := by
    rw [List.map_map]
    have : ((fun v : Value => v.category) ∘ zcv ad) = fun v => v.category := funext fun v => zcv_cat ad v
    rw [this]
    exact hcat
  have hAA := zsub_A hs hD hA hS
  obtain ⟨⟨hcd, hin, hc1, hc2, hc3, hc4⟩, hsite⟩ := site
  have hrv := va_recv hKK.1 (zsub_P hs hP) hci (zcw_get (ad := fun j => ad (zpi g j)) (ca := ca) hrc)
  have hst2 : (F0 m pc ls ((((.ref r0 :: av).map (zcv (zpi g))).reverse ++ rest).map (zcv ad))).stack = (av.map (zcv (fun j => ad (zpi g j)))).reverse ++ .ref ((fun j => ad (zpi g j)) r0) :: rest.map (zcv ad) := by
    show _ = _
    rw [hstk, List.map_cons, List.reverse_cons, List.append_assoc]
    rfl
  have hrun := va_runV (p := p) (e := e) (below := below) (meth := meth) (R := zrm n) (locs := locs) (cells := 0) (slots := 0) (As := av.map (zcv (fun j => ad (zpi g j)))) (rest := rest.map (zcv ad)) (g := F0 m pc ls _) ⟨hx, hb, hml, hown, hts⟩ (hM l D ca (fun j => ad (zpi g j)) H.size) (cwV np hts (zgood (fun w hw => by
    rcases List.mem_append.mp hw with hw | hw
    · simp only [List.mem_cons, List.not_mem_nil, or_false] at hw
      rcases hw with rfl | rfl | rfl | rfl
      · exact hsite.1
      · exact hsite.2.1
      · exact hsite.2.2
      · exact hin
    · exact zws_G hcd w hw)) rfl rfl rfl ⟨rfl, hc1, hc2, hc3⟩ ⟨hn, by show 8 + (M'.2.2.1 + 11) + 40 * n' ≤ 40 * n; omega⟩) ⟨zblind, hrv, (zpre (av := .ref r0 :: av) hs hnd hg hP hD hKK hA hS)⟩ rfl (by rw [List.length_map]; exact hap) (hl.1.trans hlv) hst2 (lv_room hcat) d ⟨Nat.le_refl _, Nat.le_refl _⟩
  refine va_calli hrun hS (fun q _ hq => hAA q hq) hAA (fun r u t H1 locs1 ht hvm hw hB hz1 hk1 hS1 => ?_)
  have hP1 := hB.1
  rw [ht] at hP1
  exact k r u hw.1 hw.2 H1 locs1 ls hl (zjoin hs hnd hP hD hk1 hw.1 hP1) (zD_len hD (zpt0_len _ _ _)) hS1
theorem z_callvv (hx : zOk x M n) {r0 ci : Nat} {fs : List Value} {T : u_T} {N : Nat} {Qr : List zE → Prop} (g : List Nat) (hM : zMv M' n' (.ref r0 :: av) hc Qr) (d : decode M.2.1 pc = .ok (.invokevirtual idx, 3)) (site : zLv M.1.cls idx M' np) (hrc : hc[r0]? = some (zO ci fs)) (hci : vwCl[ci]? = some (M'.1.cls, T, N)) (hs : zsub h g hc) (hst : st = ((.ref r0 :: av).map (zcv (zpi g))).reverse ++ rest) (hlv : lv.length = M.2.2.1) (hnd : g.Nodup) (hg : g.length ≤ 1000) (hap : (av).length = np) (hcat : (rest.map fun v => v.category).sum ≤ 8) (hn : n' + 1 ≤ n) (k : ∀ u, u.length = hc.length → Qr u → zV x (pc + 3) lv rest (zpt h g u)) : zV x pc lv st h := by
  subst hst
  obtain ⟨p, l, e, R, s, m, args, below, meth, c, D, ca, ad, A, Q⟩ := x
  obtain ⟨hx, hb, hml, hown, hts, hKK, hA, hR, hr, hlk⟩ := hx
  subst hR
  intro H locs ls hl hP hD hS
  have hstk : (((.ref r0 :: av).map (zcv (zpi g))).reverse ++ rest).map (zcv ad) = ((.ref r0 :: av).map (zcv (fun j => ad (zpi g j)))).reverse ++ rest.map (zcv ad) := by
    rw [List.map_append, List.map_reverse]
    congr 2
    rw [List.map_map]
    apply List.map_congr_left
    intro v _
    exact zcv_cv ad (zpi g) v
  have hcat : ((rest.map (zcv ad)).map fun v => v.category).sum ≤ 8 := by
    rw [List.map_map]
    have : ((fun v : Value => v.category) ∘ zcv ad) = fun v => v.category := funext fun v => zcv_cat ad v
    rw [this]
    exact hcat
  have hAA := zsub_A hs hD hA hS
  obtain ⟨⟨hcd, hin, hc1, hc2, hc3, hc4⟩, hsite⟩ := site
  have hrv := va_recv hKK.1 (zsub_P hs hP) hci (zcw_get (ad := fun j => ad (zpi g j)) (ca := ca) hrc)
  have hst2 : (F0 m pc ls ((((.ref r0 :: av).map (zcv (zpi g))).reverse ++ rest).map (zcv ad))).stack = (av.map (zcv (fun j => ad (zpi g j)))).reverse ++ .ref ((fun j => ad (zpi g j)) r0) :: rest.map (zcv ad) := by
    show _ = _
    rw [hstk, List.map_cons, List.reverse_cons, List.append_assoc]
    rfl
  have hrun := va_runV (p := p) (e := e) (below := below) (meth := meth) (R := zrm n) (locs := locs) (cells := 0) (slots := 0) (As := av.map (zcv (fun j => ad (zpi g j)))) (rest := rest.map (zcv ad)) (g := F0 m pc ls _) ⟨hx, hb, hml, hown, hts⟩ (hM l D ca (fun j => ad (zpi g j)) H.size) (cwV np hts (zgood (fun w hw => by
    rcases List.mem_append.mp hw with hw | hw
    · simp only [List.mem_cons, List.not_mem_nil, or_false] at hw
      rcases hw with rfl | rfl | rfl | rfl
      · exact hsite.1
      · exact hsite.2.1
      · exact hsite.2.2
      · exact hin
    · exact zws_G hcd w hw)) rfl rfl rfl ⟨rfl, hc1, hc2, hc3⟩ ⟨hn, by show 8 + (M'.2.2.1 + 11) + 40 * n' ≤ 40 * n; omega⟩) ⟨zblind, hrv, (zpre (av := .ref r0 :: av) hs hnd hg hP hD hKK hA hS)⟩ rfl (by rw [List.length_map]; exact hap) (hl.1.trans hlv) hst2 (lv_room hcat) d ⟨Nat.le_refl _, Nat.le_refl _⟩
  refine va_callv hrun hS (fun q _ hq => hAA q hq) hAA (fun u t H1 locs1 ht hvm hw hB hz1 hk1 hS1 => ?_)
  have hP1 := hB.1
  rw [ht] at hP1
  exact k u hw.1 hw.2 H1 locs1 ls hl (zjoin hs hnd hP hD hk1 hw.1 hP1) (zD_len hD (zpt0_len _ _ _)) hS1
theorem z_callrv (hx : zOk x M n) {r0 ci : Nat} {fs : List Value} {T : u_T} {N : Nat} {Qr : Nat → List zE → Prop} (g : List Nat) (hM : zMr M' n' (.ref r0 :: av) hc Qr) (d : decode M.2.1 pc = .ok (.invokevirtual idx, 3)) (site : zLv M.1.cls idx M' np) (hrc : hc[r0]? = some (zO ci fs)) (hci : vwCl[ci]? = some (M'.1.cls, T, N)) (hs : zsub h g hc) (hst : st = ((.ref r0 :: av).map (zcv (zpi g))).reverse ++ rest) (hlv : lv.length = M.2.2.1) (hnd : g.Nodup) (hg : g.length ≤ 1000) (hap : (av).length = np) (hcat : (rest.map fun v => v.category).sum ≤ 8) (hn : n' + 1 ≤ n) (k : ∀ r u, u.length = hc.length → Qr r u → zV x (pc + 3) lv (.ref (zpi g r) :: rest) (zpt h g u)) : zV x pc lv st h := by
  subst hst
  obtain ⟨p, l, e, R, s, m, args, below, meth, c, D, ca, ad, A, Q⟩ := x
  obtain ⟨hx, hb, hml, hown, hts, hKK, hA, hR, hr, hlk⟩ := hx
  subst hR
  intro H locs ls hl hP hD hS
  have hstk : (((.ref r0 :: av).map (zcv (zpi g))).reverse ++ rest).map (zcv ad) = ((.ref r0 :: av).map (zcv (fun j => ad (zpi g j)))).reverse ++ rest.map (zcv ad) := by
    rw [List.map_append, List.map_reverse]
    congr 2
    rw [List.map_map]
    apply List.map_congr_left
    intro v _
    exact zcv_cv ad (zpi g) v
  have hcat : ((rest.map (zcv ad)).map fun v => v.category).sum ≤ 8 := by
    rw [List.map_map]
    have : ((fun v : Value => v.category) ∘ zcv ad) = fun v => v.category := funext fun v => zcv_cat ad v
    rw [this]
    exact hcat
  have hAA := zsub_A hs hD hA hS
  obtain ⟨⟨hcd, hin, hc1, hc2, hc3, hc4⟩, hsite⟩ := site
  have hrv := va_recv hKK.1 (zsub_P hs hP) hci (zcw_get (ad := fun j => ad (zpi g j)) (ca := ca) hrc)
  have hst2 : (F0 m pc ls ((((.ref r0 :: av).map (zcv (zpi g))).reverse ++ rest).map (zcv ad))).stack = (av.map (zcv (fun j => ad (zpi g j)))).reverse ++ .ref ((fun j => ad (zpi g j)) r0) :: rest.map (zcv ad) := by
    show _ = _
    rw [hstk, List.map_cons, List.reverse_cons, List.append_assoc]
    rfl
  have hrun := va_runV (p := p) (e := e) (below := below) (meth := meth) (R := zrm n) (locs := locs) (cells := 0) (slots := 0) (As := av.map (zcv (fun j => ad (zpi g j)))) (rest := rest.map (zcv ad)) (g := F0 m pc ls _) ⟨hx, hb, hml, hown, hts⟩ (hM l D ca (fun j => ad (zpi g j)) H.size) (cwV np hts (zgood (fun w hw => by
    rcases List.mem_append.mp hw with hw | hw
    · simp only [List.mem_cons, List.not_mem_nil, or_false] at hw
      rcases hw with rfl | rfl | rfl | rfl
      · exact hsite.1
      · exact hsite.2.1
      · exact hsite.2.2
      · exact hin
    · exact zws_G hcd w hw)) rfl rfl rfl ⟨rfl, hc1, hc2, hc3⟩ ⟨hn, by show 8 + (M'.2.2.1 + 11) + 40 * n' ≤ 40 * n; omega⟩) ⟨zblind, hrv, (zpre (av := .ref r0 :: av) hs hnd hg hP hD hKK hA hS)⟩ rfl (by rw [List.length_map]; exact hap) (hl.1.trans hlv) hst2 (lv_room hcat) d ⟨Nat.le_refl _, Nat.le_refl _⟩
  refine va_callr hrun hS (fun q _ hq => hAA q hq) hAA (fun u ra t H1 locs1 ht hvm hw hB hz1 hk1 hS1 => ?_)
  obtain ⟨hra, hB⟩ := hB
  subst hra
  have hP1 := hB.1
  rw [ht] at hP1
  exact k u.1 u.2 hw.1 hw.2 H1 locs1 ls hl (zjoin hs hnd hP hD hk1 hw.1 hP1) (zD_len hD (zpt0_len _ _ _)) hS1
theorem z_calliu (hx : zOk x M n) {C : String} {r0 ci : Nat} {fs : List Value} {T : u_T} {N : Nat} {Qr : Int32 → List zE → Prop} (g : List Nat) (hM : zMi M' n' (.ref r0 :: av) hc Qr) (d : decode M.2.1 pc = .ok (.invokespecial idx, 3)) (site : zLu M.1.cls idx M' np) (hrc : hc[r0]? = some (zO ci fs)) (hci : vwCl[ci]? = some (C, T, N)) (hs : zsub h g hc) (hst : st = ((.ref r0 :: av).map (zcv (zpi g))).reverse ++ rest) (hlv : lv.length = M.2.2.1) (hnd : g.Nodup) (hg : g.length ≤ 1000) (hap : (av).length = np) (hcat : (rest.map fun v => v.category).sum ≤ 8) (hn : n' + 1 ≤ n) (k : ∀ r u, u.length = hc.length → Qr r u → zV x (pc + 3) lv (.int r :: rest) (zpt h g u)) : zV x pc lv st h := by
  subst hst
  obtain ⟨p, l, e, R, s, m, args, below, meth, c, D, ca, ad, A, Q⟩ := x
  obtain ⟨hx, hb, hml, hown, hts, hKK, hA, hR, hr, hlk⟩ := hx
  subst hR
  intro H locs ls hl hP hD hS
  have hstk : (((.ref r0 :: av).map (zcv (zpi g))).reverse ++ rest).map (zcv ad) = ((.ref r0 :: av).map (zcv (fun j => ad (zpi g j)))).reverse ++ rest.map (zcv ad) := by
    rw [List.map_append, List.map_reverse]
    congr 2
    rw [List.map_map]
    apply List.map_congr_left
    intro v _
    exact zcv_cv ad (zpi g) v
  have hcat : ((rest.map (zcv ad)).map fun v => v.category).sum ≤ 8 := by
    rw [List.map_map]
    have : ((fun v : Value => v.category) ∘ zcv ad) = fun v => v.category := funext fun v => zcv_cat ad v
    rw [this]
    exact hcat
  have hAA := zsub_A hs hD hA hS
  obtain ⟨⟨hcd, hin, hc1, hc2, hc3, hc4⟩, hsite⟩ := site
  have hrv := va_recv hKK.1 (zsub_P hs hP) hci (zcw_get (ad := fun j => ad (zpi g j)) (ca := ca) hrc)
  have hst2 : (F0 m pc ls ((((.ref r0 :: av).map (zcv (zpi g))).reverse ++ rest).map (zcv ad))).stack = (av.map (zcv (fun j => ad (zpi g j)))).reverse ++ .ref ((fun j => ad (zpi g j)) r0) :: rest.map (zcv ad) := by
    show _ = _
    rw [hstk, List.map_cons, List.reverse_cons, List.append_assoc]
    rfl
  have hrun := va_runSU (p := p) (e := e) (below := below) (meth := meth) (R := zrm n) (locs := locs) (cells := 0) (slots := 0) (As := av.map (zcv (fun j => ad (zpi g j)))) (rest := rest.map (zcv ad)) (g := F0 m pc ls _) (hKK.1.1 _ _ hci).2 ⟨hx, hb, hml, hown, hts⟩ (hM l D ca (fun j => ad (zpi g j)) H.size) (va_cwSU np hts (zgood (fun w hw => by
    rcases List.mem_append.mp hw with hw | hw
    · simp only [List.mem_cons, List.not_mem_nil, or_false] at hw
      rcases hw with rfl | rfl | rfl | rfl | rfl
      · exact hsite.1
      · exact hsite.2.1
      · exact hsite.2.2.1
      · exact hsite.2.2.2.1
      · exact hin
    · exact zws_G hcd w hw)) rfl rfl rfl ⟨hsite.2.2.2.2, hc3⟩ ⟨hn, by show 8 + (M'.2.2.1 + 11) + 40 * n' ≤ 40 * n; omega⟩) ⟨zblind, hrv, (zpre (av := .ref r0 :: av) hs hnd hg hP hD hKK hA hS)⟩ rfl (by rw [List.length_map]; exact hap) (hl.1.trans hlv) hst2 (lv_room hcat) d ⟨Nat.le_refl _, Nat.le_refl _⟩
  refine va_calli hrun hS (fun q _ hq => hAA q hq) hAA (fun r u t H1 locs1 ht hvm hw hB hz1 hk1 hS1 => ?_)
  have hP1 := hB.1
  rw [ht] at hP1
  exact k r u hw.1 hw.2 H1 locs1 ls hl (zjoin hs hnd hP hD hk1 hw.1 hP1) (zD_len hD (zpt0_len _ _ _)) hS1
theorem z_callio (hx : zOk x M n) {C : String} {y0 : MethodName} {r0 ci : Nat} {fs : List Value} {T : u_T} {N : Nat} {Qr : Int32 → List zE → Prop} (g : List Nat) (hM : zMi M' n' (.ref r0 :: av) hc Qr) (d : decode M.2.1 pc = .ok (.invokevirtual idx, 3)) (site : zLo M.1.cls idx C y0 M' np) (hrc : hc[r0]? = some (zO ci fs)) (hci : vwCl[ci]? = some (C, T, N)) (hs : zsub h g hc) (hst : st = ((.ref r0 :: av).map (zcv (zpi g))).reverse ++ rest) (hlv : lv.length = M.2.2.1) (hnd : g.Nodup) (hg : g.length ≤ 1000) (hap : (av).length = np) (hcat : (rest.map fun v => v.category).sum ≤ 8) (hn : n' + 1 ≤ n) (k : ∀ r u, u.length = hc.length → Qr r u → zV x (pc + 3) lv (.int r :: rest) (zpt h g u)) : zV x pc lv st h := by
  subst hst
  obtain ⟨p, l, e, R, s, m, args, below, meth, c, D, ca, ad, A, Q⟩ := x
  obtain ⟨hx, hb, hml, hown, hts, hKK, hA, hR, hr, hlk⟩ := hx
  subst hR
  intro H locs ls hl hP hD hS
  have hstk : (((.ref r0 :: av).map (zcv (zpi g))).reverse ++ rest).map (zcv ad) = ((.ref r0 :: av).map (zcv (fun j => ad (zpi g j)))).reverse ++ rest.map (zcv ad) := by
    rw [List.map_append, List.map_reverse]
    congr 2
    rw [List.map_map]
    apply List.map_congr_left
    intro v _
    exact zcv_cv ad (zpi g) v
  have hcat : ((rest.map (zcv ad)).map fun v => v.category).sum ≤ 8 := by
    rw [List.map_map]
    have : ((fun v : Value => v.category) ∘ zcv ad) = fun v => v.category := funext fun v => zcv_cat ad v
    rw [this]
    exact hcat
  have hAA := zsub_A hs hD hA hS
  obtain ⟨⟨hcd, hin, hc1, hc2, hc3, hc4⟩, hsite⟩ := site
  have hrv := va_recv hKK.1 (zsub_P hs hP) hci (zcw_get (ad := fun j => ad (zpi g j)) (ca := ca) hrc)
  have hst2 : (F0 m pc ls ((((.ref r0 :: av).map (zcv (zpi g))).reverse ++ rest).map (zcv ad))).stack = (av.map (zcv (fun j => ad (zpi g j)))).reverse ++ .ref ((fun j => ad (zpi g j)) r0) :: rest.map (zcv ad) := by
    show _ = _
    rw [hstk, List.map_cons, List.reverse_cons, List.append_assoc]
    rfl
  obtain ⟨g1, g2, g3, g4, g5, g6, g7, g8⟩ := hsite
  have hdc : va_Decl s ⟨y0.cls, y0.name, y0.desc⟩ := by
    rcases g8 with g8 | ⟨g8, b0, m0, r9, g9⟩
    · rw [g8]; exact va_Decl.abs hKK.2.2.2.1
    · exact va_Decl.of (hts _ (List.mem_cons_of_mem _ g8)) (hts _ (List.mem_cons_of_mem _ g9))
  have hrun := va_runU (p := p) (e := e) (below := below) (meth := meth) (R := zrm n) (locs := locs) (cells := 0) (slots := 0) (owner := y0.cls) (As := av.map (zcv (fun j => ad (zpi g j)))) (rest := rest.map (zcv ad)) (g := F0 m pc ls _) ⟨hx, hb, hml, hown, hts⟩ (hM l D ca (fun j => ad (zpi g j)) H.size) ⟨⟨rfl, rfl, hn, by show 8 + (M'.2.2.1 + 11) + 40 * n' ≤ 40 * n; omega, pay_in hts (zgood (zws_G hcd)), List.mem_cons_self⟩, hts _ (List.mem_cons_of_mem _ hcd), hts _ (List.mem_cons_of_mem _ hin), ⟨g5, g6⟩, (fun sig h9 => by have h8 := g7; rw [h9] at h8; exact (Option.some.inj h8).symm), hts _ (List.mem_cons_of_mem _ g1), hts _ (List.mem_cons_of_mem _ g2), hdc, hts _ (List.mem_cons_of_mem _ g3), hts _ (List.mem_cons_of_mem _ g4)⟩ ⟨zblind, hrv, (zpre (av := .ref r0 :: av) hs hnd hg hP hD hKK hA hS)⟩ rfl (by rw [List.length_map]; exact hap) (hl.1.trans hlv) hst2 (lv_room hcat) d ⟨Nat.le_refl _, Nat.le_refl _⟩
  refine va_calli hrun hS (fun q _ hq => hAA q hq) hAA (fun r u t H1 locs1 ht hvm hw hB hz1 hk1 hS1 => ?_)
  have hP1 := hB.1
  rw [ht] at hP1
  exact k r u hw.1 hw.2 H1 locs1 ls hl (zjoin hs hnd hP hD hk1 hw.1 hP1) (zD_len hD (zpt0_len _ _ _)) hS1
end ZCL
