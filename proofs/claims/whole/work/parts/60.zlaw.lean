/-! THE CLAIM OUT OF ONE WALK OF THE LAW'S BODY. Your part is whole_start (and what it stands on); all else here is the same for every law, but numbers. -/
def R_law : String := "TramFaithLaw"
def lw_P (b : Addr) (xs : List Int32) (args : Array Value) (s : State) : Prop := args = #[.ref b] ∧ s.IntsAt b xs ∧ xs.length ≤ 384 ∧ (Jvm.Cond.and given_1 narrow_1).before args s = true
def lw_Q (_ : Array Value) (s : State) (o : Outcome) (t : State) : Prop := o = .returned (some (.int 1)) ∧ Framed s o t [] 600000 7302250
def lw_Z (below : List Frame) (a : Array Value) (s : State) : State → Prop := fun t => ∃ o, t.status = .running ∧ Ended t below o ∧ lw_Q a s o t
/-- the law's own end, with 1 on the stack, nothing written that was there before, its room as the claim has it -/
theorem lw_ret {p : Program} {l : Launch} {e : Env} {s : State} {m : MethodId} {below : List Frame} {meth : Method} {c : Code} {b : Nat} (hx : p.tables.exec = Jvm.exec) (hb : c.code = code) (hr : meth.sig.returnType = ret) (hlocks : meth.locks = false) {pc : Nat} {H : Heap} {ls : Array Slot} (hdg : decode code pc = .ok (.ireturn, 1)) : W p l e room_1 s m #[Value.ref b] below meth c H [] 600000 7302250 (lw_Z below #[Value.ref b] s) (F0 m pc ls [.int 1]) := by
  intro T hT X
  obtain ⟨fs, hret, hrun, hended, hW, hframe⟩ := X.leave (v := some (.int 1)) (hlocks := hlocks) (fun h => by rw [hr] at h; cases h)
  have hmeth' : T.vm.method? m = some meth := X.method'
  refine ⟨T.setFrames fs, ?_, .returned (some (.int 1)), hrun, hended, rfl, ⟨_, rfl⟩, hW, hframe⟩
  jvm_step X.here [X.here.top, hx, hb, hdg, hmeth', hr, ret, narrow_b1]
  (try refine ⟨rfl, ?_⟩); (try refine ⟨rfl, ?_⟩)
  first | (intro acts; rw [hret _ acts rfl rfl rfl]) | rw [hret _ _ rfl rfl rfl]
  exact Steps.refl _
/-- what holds at the law's entry: the machine, the code, the tables' words (any of lw_tbl by 'hts w (by decide +kernel)'), the script of L ints xs at the cell b, what the Statement gives of the start (any of its parts by flat_of_before) -/
def lw_At (p : Program) (s : State) (m : MethodId) (meth : Method) (c : Code) (b L : Nat) (xs : Nat → Int32) : Prop :=
  p.tables.exec = Jvm.exec ∧ c.code = code ∧ meth.sig.returnType = ret ∧ c.maxLocals = 4 ∧ s.vm.findClass R_law = some m.cls ∧ (∀ w ∈ lw_tbl, w.before #[Value.ref b] s = true) ∧ va_X b L xs s s.heap ∧ b < s.heap.size ∧ meth.locks = false ∧ (Jvm.Cond.and given_1 narrow_1).before #[Value.ref b] s = true
/-- the law's machine: the two objects' cells (class at adC, reference at adM), the script at b; on its stack place 0 is the class's object, 1 the reference's, 2 the script -/
abbrev zLx : Type := Program × Launch × Env × State × MethodId × List Frame × Method × Code × va_G × (Nat → Nat) × (Nat → Nat) × (Nat → Nat) × Nat × Nat × (Nat → Int32)
def zxx (x : zLx) : Nat → Int32 := x.2.2.2.2.2.2.2.2.2.2.2.2.2.2
def zxL (x : zLx) : Nat := x.2.2.2.2.2.2.2.2.2.2.2.2.2.1
def zla (adC adM : Nat → Nat) (b : Nat) : Nat → Nat
  | 0 => adC 0
  | 1 => adM 0
  | _ => b
def zLD (s : State) (ad : Nat → Nat) (n : Nat) : Prop := (∀ i j, i < n → j < n → ad i = ad j → i = j) ∧ ∀ i, i < n → s.heap.size ≤ ad i
theorem zLD.D {s : State} {ad ca : Nat → Nat} {n : Nat} (h : zLD s ad n) {u : List zE} (hu : u.length = n) : va_D (fun q : Nat => s.heap.size ≤ q) (zcw ad ca u) := by
  refine ⟨fun i j p q hp hq e => ?_, fun k q hq => ?_⟩
  · obtain ⟨e1, h1, rfl⟩ := zcw_of hp
    obtain ⟨e2, h2, rfl⟩ := zcw_of hq
    exact h.1 i j (by rw [← hu]; exact (List.getElem?_eq_some_iff.mp h1).1) (by rw [← hu]; exact (List.getElem?_eq_some_iff.mp h2).1) e
  · obtain ⟨e1, h1, rfl⟩ := zcw_of hq
    exact h.2 k (by rw [← hu]; exact (List.getElem?_eq_some_iff.mp h1).1)
def zLV (x : zLx) (pc j : Nat) (st : List Value) (u v : List zE) : Prop :=
  match x with
  | (p, l, e, s, m, below, meth, c, D, ca, adC, adM, b, _, _) => ∀ (H : Heap) (locs : List Loc) (ls : Array Slot), lv_has ls 4 [(0, .ref b), (1, .ref (adC 0)), (2, .ref (adM 0)), (3, .int (nI j))] → va_P D vwCl (zcw adC ca u) H → va_P D vwCl (zcw adM ca v) H → va_S (fun q : Nat => s.heap.size ≤ q) s.heap H locs → W p l e room_1 s m #[Value.ref b] below meth c H locs 600000 7302250 (lw_Z below #[Value.ref b] s) (F0 m pc ls (st.map (zcv (zla adC adM b))))
def zLO (x : zLx) : Prop :=
  match x with
  | (p, _, _, s, m, _, meth, c, D, ca, adC, adM, b, L, xs) => lw_At p s m meth c b L xs ∧ L ≤ 384 ∧ zKK D ca adC (fun q : Nat => s.heap.size ≤ q) s s.heap ∧ zKK D ca adM (fun q : Nat => s.heap.size ≤ q) s s.heap ∧ zLD s adC 58 ∧ zLD s adM 13 ∧ ∀ i j, i < 58 → j < 13 → adC i ≠ adM j
theorem zl_goodL {l : List Cond} (h : ∀ w ∈ l, w ∈ zG) : GoodIn lw_tbl l := fun w hw => ⟨(List.mem_filter.mp (h w hw)).1, good_of_word (List.mem_filter.mp (h w hw)).2⟩
/-- a call of the object at ad, beside the cells of the other at bd -/
theorem zl_call {p : Program} {l : Launch} {e : Env} {s : State} {m : MethodId} {below : List Frame} {meth : Method} {c : Code} {D : va_G} {ca ad bd : Nat → Nat} {b L : Nat} {xs : Nat → Int32} {N K : Nat} (C0 : lw_At p s m meth c b L xs) (hKK : zKK D ca ad (fun q : Nat => s.heap.size ≤ q) s s.heap) (hI : zLD s ad N) (ap : ∀ i j, i < N → j < K → ad i ≠ bd j)
    {u w : List zE} (hu : u.length = N) (hw : w.length = K) {M : zM} {n' idx np pc ci NF : Nat} {T : u_T} {fs av rest : List Value} {Qr : Int32 → List zE → Prop} (hM : zMi M n' (.ref 0 :: av) u Qr) (hn : n' ≤ 9) (hci : vwCl[ci]? = some (M.1.cls, T, NF)) (hu0 : u[0]? = some (zO ci fs)) (site : zLv RL idx M np) (hap : av.length = np) (hav : av.map (zcv ad) = av) (hcat : (rest.map fun v => v.category).sum ≤ 8) (d : decode code pc = .ok (.invokevirtual idx, 3))
    {H : Heap} {locs : List Loc} {ls : Array Slot} (hl : ls.size = 4) (hP : va_P D vwCl (zcw ad ca u) H) (hQ : va_P D vwCl (zcw bd ca w) H) (hS : va_S (fun q : Nat => s.heap.size ≤ q) s.heap H locs)
    (k : ∀ (r : Int32) (u' : List zE) (H1 : Heap) (locs1 : List Loc), u'.length = u.length → Qr r u' → va_P D vwCl (zcw ad ca u') H1 → va_P D vwCl (zcw bd ca w) H1 → va_S (fun q : Nat => s.heap.size ≤ q) s.heap H1 locs1 → W p l e room_1 s m #[Value.ref b] below meth c H1 locs1 600000 7302250 (lw_Z below #[Value.ref b] s) (F0 m (pc + 3) ls (.int r :: rest))) :
    W p l e room_1 s m #[Value.ref b] below meth c H locs 600000 7302250 (lw_Z below #[Value.ref b] s) (F0 m pc ls (av.reverse ++ .ref (ad 0) :: rest)) := by
  obtain ⟨hx, hb, hr, hml, hown, hts, hX, hbl, hlk, hgv⟩ := C0
  have hD : va_D (fun q : Nat => s.heap.size ≤ q) (zcw ad ca u) := hI.D hu
  obtain ⟨⟨hcd, hin, hc1, hc2, hc3, hc4⟩, hsite⟩ := site
  have hrv := va_recv hKK.1 hP hci (zcw_get (ad := ad) (ca := ca) hu0)
  have hAA : ∀ q, va_A (zcw ad ca u) H.size q → s.heap.size ≤ q := by
    rintro q (⟨j, e2, hj⟩ | hj)
    · exact hD.2 j _ hj
    · exact Nat.le_trans hS.1 hj
  have hrun := va_runV (p := p) (l := l) (e := e) (below := below) (meth := meth) (R := room_1) (locs := locs) (cells := 600000) (slots := 7302250) (As := av) (rest := rest) (g := F0 m pc ls (av.reverse ++ .ref (ad 0) :: rest)) ⟨hx, hb, hml, hown, hts⟩ (hM l D ca ad H.size) (cwV (own := RL) (index := idx) np hts (zl_goodL (fun w hw => by
    rcases List.mem_append.mp hw with hw | hw
    · simp only [List.mem_cons, List.not_mem_nil, or_false] at hw
      rcases hw with rfl | rfl | rfl | rfl
      · exact hsite.1
      · exact hsite.2.1
      · exact hsite.2.2
      · exact hin
    · exact zws_G hcd w hw)) rfl rfl rfl ⟨rfl, hc1, hc2, hc3⟩ ⟨by show n' + 1 ≤ 12; omega, by show 8 + (M.2.2.1 + 11) + 40 * n' ≤ 450; omega⟩) ⟨zblind, hrv, fun U hU hW => ⟨by rw [List.map_cons, hav]; rfl, by rw [hU], by rw [hU]; exact hP, hD.weaken (fun _ _ _ _ => trivial), by rw [hU]; exact hKK.warm hW hS hAA rfl rfl⟩⟩ rfl hap hl rfl (lv_room hcat) d ⟨Nat.le_refl _, Nat.le_refl _⟩
  refine va_calli hrun hS (fun q _ hq => hAA q hq) hAA (fun r u' t H1 locs1 ht hvm hw2 hB hz1 hk1 hS1 => ?_)
  have hP1 := hB.1
  rw [ht] at hP1
  refine k r u' H1 locs1 hw2.1 hw2.2 hP1 (fun j q hq => ?_) hS1
  have h5 := hQ j q hq
  refine h5.kept (hk1 _ h5.lt ?_)
  obtain ⟨e0, h0, rfl⟩ := zcw_of hq
  rintro (⟨i, e2, hi⟩ | hi)
  · obtain ⟨e3, h3, h4⟩ := zcw_of hi
    exact ap i j (by rw [← hu]; exact (List.getElem?_eq_some_iff.mp h3).1) (by rw [← hw]; exact (List.getElem?_eq_some_iff.mp h0).1) (congrArg Prod.fst h4).symm
  · exact absurd hi (Nat.not_le.mpr h5.lt)
section ZLR
variable {x : zLx} {pc j : Nat} {st rest : List Value} {u v : List zE}
theorem zl_aloadC (hx : zLO x) (d : decode code pc = .ok (.aload_n 1, 1)) (k : zLV x (pc + 1) j (.ref 0 :: st) u v) : zLV x pc j st u v := by
  obtain ⟨p, l, e, s, m, below, meth, c, D, ca, adC, adM, b, L, xs⟩ := x
  obtain ⟨⟨h1, h2, -⟩, -⟩ := hx
  intro H locs ls hl hP hQ hS
  exact lv_aload_n h1 h2 d rfl (lv_at hl 1 rfl) (k H locs ls hl hP hQ hS)
theorem zl_aloadM (hx : zLO x) (d : decode code pc = .ok (.aload_n 2, 1)) (k : zLV x (pc + 1) j (.ref 1 :: st) u v) : zLV x pc j st u v := by
  obtain ⟨p, l, e, s, m, below, meth, c, D, ca, adC, adM, b, L, xs⟩ := x
  obtain ⟨⟨h1, h2, -⟩, -⟩ := hx
  intro H locs ls hl hP hQ hS
  exact lv_aload_n h1 h2 d rfl (lv_at hl 2 rfl) (k H locs ls hl hP hQ hS)
theorem zl_at (hx : zLO x) (hj : j + 6 ≤ zxL x) (d1 : decode code pc = .ok (.aload_n 0, 1)) (d2 : decode code (pc + 1) = .ok (.iload_n 3, 1)) (d3 : decode code (pc + 2) = .ok (.iaload, 1)) (k : zLV x (pc + 3) j (.int (zxx x j) :: st) u v) : zLV x pc j st u v := by
  obtain ⟨p, l, e, s, m, below, meth, c, D, ca, adC, adM, b, L, xs⟩ := x
  obtain ⟨⟨h1, h2, -, -, -, -, hX, hbl, -⟩, hL, -⟩ := hx
  have hj : j + 6 ≤ L := hj
  intro H locs ls hl hP hQ hS
  refine lv_aload_n h1 h2 d1 rfl (lv_at hl 0 rfl) ?_
  refine lv_iload_n h1 h2 d2 rfl (lv_at hl 3 rfl) ?_
  refine va_sld h1 h2 hX hbl (Nat.not_le.mpr hbl) hS (vp_in_nI (by omega) (by omega)) d3 ?_
  rw [nI_clamp (by omega)]
  exact k H locs ls hl hP hQ hS
theorem zl_arg (hx : zLO x) (hj : j + 6 ≤ zxL x) {i : Nat} (hi : i < 6) (d1 : decode code pc = .ok (.aload_n 0, 1)) (d2 : decode code (pc + 1) = .ok (.iload_n 3, 1)) (d3 : decode code (pc + 2) = .ok (.iconst i, 1)) (d4 : decode code (pc + 3) = .ok (.iadd, 1)) (d5 : decode code (pc + 4) = .ok (.iaload, 1)) (k : zLV x (pc + 5) j (.int (zxx x (j + i)) :: st) u v) : zLV x pc j st u v := by
  obtain ⟨p, l, e, s, m, below, meth, c, D, ca, adC, adM, b, L, xs⟩ := x
  obtain ⟨⟨h1, h2, -, -, -, -, hX, hbl, -⟩, hL, -⟩ := hx
  have hj : j + 6 ≤ L := hj
  intro H locs ls hl hP hQ hS
  refine lv_aload_n h1 h2 d1 rfl (lv_at hl 0 rfl) ?_
  refine lv_iload_n h1 h2 d2 rfl (lv_at hl 3 rfl) ?_
  refine lv_iconst (v := nI i) h1 h2 d3 rfl ?_
  refine lv_iadd h1 h2 d4 ?_
  rw [nI_add]
  refine va_sld h1 h2 hX hbl (Nat.not_le.mpr hbl) hS (vp_in_nI (by omega) (by omega)) d5 ?_
  rw [nI_clamp (by omega)]
  exact k H locs ls hl hP hQ hS
theorem zl_callC (hx : zLO x) (hu : u.length = 58) (hv : v.length = 13) {M : zM} {n' idx np : Nat} {T : u_T} {NF : Nat} {fs av : List Value} {Qr : Int32 → List zE → Prop} (hM : zMi M n' (.ref 0 :: av) u Qr) (hn : n' ≤ 9) (hci : vwCl[10]? = some (M.1.cls, T, NF)) (hu0 : u[0]? = some (zO 10 fs)) (site : zLv RL idx M np) (hap : av.length = np) (hav : ∀ g, av.map (zcv g) = av) (hcat : (rest.map fun v => v.category).sum ≤ 8) (d : decode code pc = .ok (.invokevirtual idx, 3)) (hst : st = av.reverse ++ .ref 0 :: rest)
    (k : ∀ r u', u'.length = 58 → Qr r u' → zLV x (pc + 3) j (.int r :: rest) u' v) : zLV x pc j st u v := by
  subst hst
  obtain ⟨p, l, e, s, m, below, meth, c, D, ca, adC, adM, b, L, xs⟩ := x
  obtain ⟨C0, hL, hK1, hK2, hI1, hI2, ap⟩ := hx
  intro H locs ls hl hP hQ hS
  rw [List.map_append, List.map_reverse, hav]
  refine zl_call C0 hK1 hI1 ap hu hv hM hn hci hu0 site hap (hav _) (by
    rw [List.map_map]
    have : ((fun v : Value => v.category) ∘ zcv (zla adC adM b)) = fun v => v.category := funext fun v => zcv_cat _ v
    rw [this]
    exact hcat) d hl.1 hP hQ hS (fun r u' H1 locs1 e1 hq hP1 hQ1 hS1 => ?_)
  exact k r u' (e1.trans hu) hq H1 locs1 ls hl hP1 hQ1 hS1
theorem zl_callM (hx : zLO x) (hu : u.length = 58) (hv : v.length = 13) {M : zM} {n' idx np : Nat} {T : u_T} {NF : Nat} {fs av : List Value} {Qr : Int32 → List zE → Prop} (hM : zMi M n' (.ref 0 :: av) v Qr) (hn : n' ≤ 9) (hci : vwCl[11]? = some (M.1.cls, T, NF)) (hu0 : v[0]? = some (zO 11 fs)) (site : zLv RL idx M np) (hap : av.length = np) (hav : ∀ g, av.map (zcv g) = av) (hcat : (rest.map fun v => v.category).sum ≤ 8) (d : decode code pc = .ok (.invokevirtual idx, 3)) (hst : st = av.reverse ++ .ref 1 :: rest)
    (k : ∀ r v', v'.length = 13 → Qr r v' → zLV x (pc + 3) j (.int r :: rest) u v') : zLV x pc j st u v := by
  subst hst
  obtain ⟨p, l, e, s, m, below, meth, c, D, ca, adC, adM, b, L, xs⟩ := x
  obtain ⟨C0, hL, hK1, hK2, hI1, hI2, ap⟩ := hx
  intro H locs ls hl hP hQ hS
  rw [List.map_append, List.map_reverse, hav]
  refine zl_call C0 hK2 hI2 (fun i j h1 h2 h3 => ap j i h2 h1 h3.symm) hv hu hM hn hci hu0 site hap (hav _) (by
    rw [List.map_map]
    have : ((fun v : Value => v.category) ∘ zcv (zla adC adM b)) = fun v => v.category := funext fun v => zcv_cat _ v
    rw [this]
    exact hcat) d hl.1 hQ hP hS (fun r u' H1 locs1 e1 hq hP1 hQ1 hS1 => ?_)
  exact k r u' (e1.trans hv) hq H1 locs1 ls hl hQ1 hP1 hS1
theorem zl_eq (hx : zLO x) {a b : Int32} {off : Int} {tgt : Nat} (d : decode code pc = .ok (.if_icmp .eq off, 3)) (ht : (pc : Int) + off = (tgt : Int)) (h : a = b) (k : zLV x tgt j st u v) : zLV x pc j (.int b :: .int a :: st) u v := by
  obtain ⟨p, l, e, s, m, below, meth, c, D, ca, adC, adM, b, L, xs⟩ := x
  obtain ⟨⟨h1, h2, -⟩, -⟩ := hx
  intro H locs ls hl hP hQ hS
  exact lv_icmp_eq h1 h2 d ht (fun _ => k H locs ls hl hP hQ hS) (fun q => absurd h q)
theorem zRel_len {u v : List zE} (h : zRel u v) : u.length = 58 ∧ v.length = 13 ∧ (∃ fs, u[0]? = some (zO 10 fs)) ∧ ∃ fs, v[0]? = some (zO 11 fs) := by
  obtain ⟨R, t1, t2, t3, t4, t5, t6, L, cr, ho, P, pr, po, i, y, a, f1, f2, mn, sp, fp, ca, cs, ct, cv, M, dr, tr, ps, im, ke, rfl, rfl, hI⟩ := h
  exact ⟨rfl, rfl, ⟨_, rfl⟩, ⟨_, rfl⟩⟩
end ZLR
