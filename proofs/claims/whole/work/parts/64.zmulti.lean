/-! new int[8][40]: an instruction of its own row; the loop of the machine is walked by an invariant that holds the whole stand -/
def zmf (h0 i : Nat) : Nat → Value := fun j => if j < i then .ref (h0 + 1 + j) else .null
theorem zmf_up (h0 i : Nat) : updV (zmf h0 i) i (.ref (h0 + 1 + i)) = zmf h0 (i + 1) := by
  funext j
  by_cases h : j = i
  · subst h; simp [updV, zmf]
  · by_cases h2 : j < i
    · simp [updV, zmf, h, h2, show j < i + 1 by omega]
    · simp [updV, zmf, h, h2, show ¬ j < i + 1 by omega]
section ZMU
variable {p : Program} {l : Launch} {e : Env} {R : Room} {s : State} {m : MethodId} {args : Array Value} {below : List Frame} {meth : Method} {c : Code} {H : Heap} {locs : List Loc} {cells slots : Nat} {Q : State → Prop}
/-- after i rows -/
def zmS (T : State) (cA comp : ClassId) : Nat → State
  | 0 => T.pushCell (arrV cA 8 (fun _ => .null))
  | i + 1 => ((zmS T cA comp i).pushCell (arrV comp 40 (fun _ => .int 0))).setCell T.heap.size ((arrV cA 8 (zmf T.heap.size i)).setSlot i (.ref (T.heap.size + 1 + i)))
theorem zmS_top (T : State) (f : JFrame) (cA comp : ClassId) : ∀ i, zmS (T.setTop f) cA comp i = (zmS T cA comp i).setTop f
  | 0 => rfl
  | i + 1 => by rw [zmS, zmS, zmS_top T f cA comp i]; rfl
theorem zmS_ok {T : State} (cA comp : ClassId) (X : Stand p l e R s m args below meth c T locs cells slots) : ∀ i, ∃ L : List Loc, Stand p l e R s m args below meth c (zmS T cA comp i) (locs ++ L) (cells + 1 + i) (slots + 8 + 40 * i) ∧ (∀ q ∈ L, q.base = T.heap.size) ∧ (zmS T cA comp i).heap.size = T.heap.size + 1 + i ∧ (zmS T cA comp i).heap[T.heap.size]? = some (arrV cA 8 (zmf T.heap.size i)) ∧ (∀ j, j < i → (zmS T cA comp i).heap[T.heap.size + 1 + j]? = some (arrV comp 40 (fun _ => .int 0))) ∧ (∀ q, q < T.heap.size → (zmS T cA comp i).heap[q]? = T.heap[q]?) ∧ (zmS T cA comp i).vm = T.vm ∧ (zmS T cA comp i).slotsUsed = T.slotsUsed + 8 + 40 * i
  | 0 => by
    have e0 : zmf T.heap.size 0 = fun _ => .null := by funext j; rfl
    have h := X.pushed (arrV cA 8 (fun _ => .null))
    rw [arrV_size] at h
    refine ⟨[], (by rw [List.append_nil]; exact h), (fun q hq => absurd hq List.not_mem_nil), (by simp [zmS]), ?_, fun j hj => absurd hj (Nat.not_lt_zero j), fun q hq => State.heap_pushCell_of_lt _ _ hq, rfl, ?_⟩
    · rw [e0]; exact State.heap_pushCell_size _ _
    · simp [zmS, arrV_size]
  | i + 1 => by
    obtain ⟨L, XU, hL, z1, z2, z3, z4, z5, z6⟩ := zmS_ok cA comp X i
    have hlt : T.heap.size < (zmS T cA comp i).heap.size := by rw [z1]; omega
    have hc : ((zmS T cA comp i).pushCell (arrV comp 40 (fun _ => .int 0))).heap[T.heap.size]? = some (arrV cA 8 (zmf T.heap.size i)) := by rw [State.heap_pushCell_of_lt (h := hlt)]; exact z2
    have h := (XU.pushed (arrV comp 40 (fun _ => .int 0))).stored hc i (.ref (T.heap.size + 1 + i))
    rw [arrV_size] at h
    refine ⟨L ++ [⟨T.heap.size, i⟩], ?_, fun q hq => ?_, ?_, ?_, fun j hj => ?_, fun q hq => ?_, ?_, ?_⟩
    · rw [← List.append_assoc, show cells + 1 + (i + 1) = cells + 1 + i + 1 by omega, show slots + 8 + 40 * (i + 1) = slots + 8 + 40 * i + 40 by omega]
      exact h
    · rcases List.mem_append.mp hq with hq | hq
      · exact hL q hq
      · rw [List.mem_singleton.mp hq]
    · simp [zmS, State.setCell, z1]; omega
    · show (State.setCell _ _ _).heap[_]? = _
      rw [State.heap_setCell_self hc, arrV_store, zmf_up]
    · show (State.setCell _ _ _).heap[_]? = _
      rw [State.heap_setCell_other (show T.heap.size ≠ T.heap.size + 1 + j by omega)]
      by_cases hj2 : j < i
      · rw [State.heap_pushCell_of_lt (h := show T.heap.size + 1 + j < (zmS T cA comp i).heap.size by rw [z1]; omega)]
        exact z3 j hj2
      · rw [show T.heap.size + 1 + j = (zmS T cA comp i).heap.size by rw [z1]; omega]
        exact State.heap_pushCell_size _ _
    · show (State.setCell _ _ _).heap[_]? = _
      rw [State.heap_setCell_other (show T.heap.size ≠ q by omega), State.heap_pushCell_of_lt (h := show q < (zmS T cA comp i).heap.size by rw [z1]; omega)]
      exact z4 q hq
    · exact z5
    · simp [zmS, z6, arrV_size]; omega
theorem zw_newA {E : CtlPost} {d : Bool} {acts : List Action} {S : State} {cA comp : ClassId} {k : Class} {ty : FieldType} {len : Nat} {init : Value} (hk : S.vm.classes[cA]? = some k) (hkind : k.kind = .array comp ty) (hl : ¬ len > e.platform.arrayLengthLimit) (hh : ¬ len * componentBytes ty > e.platform.maxHeapBytes) (hf : fits ty init = true) (hd : init.isDefault = true) {Z : Addr → Pre}
    (h1 : S.heap.size < e.platform.maxCells) (h2 : S.slotsUsed + len ≤ e.platform.maxSlots) (hq : Z S.heap.size d acts (S.pushCell (arrV cA len (fun _ => init)))) : wp (Jvm.newArray cA len init) Z E e d acts S := by
  have e1 : allocActs (Array.replicate len init) S.heap.size acts = acts := by
    unfold allocActs
    rw [if_pos (by rw [Array.all_replicate]; split <;> simp [hd])]
  simp only [Jvm.newArray, Jvm.arrayFits, wp_bind', W.ask, W.ite, hl, if_false, wp_pure', W.theClass, hk, hkind, hh, W.alloc, W.stop, Option.some.injEq, exists_eq_left', Array.size_replicate, e1]
  rw [if_neg (by omega)]
  refine ⟨h1, h2, fun i v hv => ?_, by rw [arrV_new]; exact hq⟩
  rw [Array.getElem?_replicate] at hv
  split at hv
  · cases hv; simp [State.fitsSlot, State.slotType?, hk, hkind, hf]
  · cases hv
theorem zw_multi {cc : ByteArray} (hexec : p.tables.exec = Jvm.exec) (hb : c.code = cc) {own : String} {idx : Nat} (hown : s.vm.findClass own = some m.cls) (hclink : (Cond.classLink own idx "[[I").before args s = true) (hover : (Cond.arrayOver (.array .int)).before args s = true) (harr : (Cond.arrayClass .int).before args s = true)
    {g : JFrame} (hg : g.method = m) (hdg : decode cc g.pc = .ok (.multianewarray idx 2, 4)) {rest : List Value} (hstack : g.stack = .int (nI 40) :: .int (nI 8) :: rest) (hcells : cells + 9 ≤ R.cells) (hslots : slots + 328 ≤ R.slots)
    (kk : ∀ (cA comp : ClassId) (H1 : Heap) (L : List Loc), s.vm.findClass "[[I" = some cA → s.vm.findClass "[I" = some comp → H1.size = H.size + 9 → (∀ q, q < H.size → H1[q]? = H[q]?) → H1[H.size]? = some (arrV cA 8 (zmf H.size 8)) → (∀ j, j < 8 → H1[H.size + 1 + j]? = some (arrV comp 40 (fun _ => .int 0))) → (∀ q ∈ L, q.base = H.size) →
      W p l e R s m args below meth c H1 (locs ++ L) (cells + 9) (slots + 328) Q { g with pc := g.pc + 4, stack := .ref H.size :: rest }) : W p l e R s m args below meth c H locs cells slots Q g := by
  intro T hT X
  subst hT; subst hb; subst hg
  have hpl : e.platform.magicAccessors = ({} : Platform).magicAccessors := by rw [X.admits.platform]
  obtain ⟨comp, cA, kA, hcomp, -, hkA, hkindA, hnameA⟩ := arrayOverA_spec hover
  obtain ⟨comp', kC, c0, hcomp', hkC, hkindC⟩ := Cond.arrayClass_spec harr
  have ecomp : comp' = comp := Option.some.inj (hcomp'.symm.trans hcomp)
  subst ecomp
  obtain ⟨c1, hfc, hcl⟩ := Cond.classLink_spec hown hclink e.platform hpl
  cases hnameA.symm.trans hfc
  obtain ⟨hg1, hwarm, hready⟩ := State.classEntry (e := e) X.warmed hcl
  generalize T.vm.noted g.method.cls idx (.cls cA) = vm1 at hg1 hwarm hready
  have hal : s.vm.Alike vm1 := hwarm.alike
  obtain ⟨kA1, hkA1, heA⟩ := hal.2.2 _ _ hkA
  obtain ⟨kC1, hkC1, heC⟩ := hal.2.2 _ _ hkC
  have hkA2 : kA1.kind = .array comp' (.array .int) := by rw [heA]; exact hkindA
  have hkC2 : kC1.kind = .array c0 .int := by rw [heC]; exact hkindC
  have X1 := X.noted hwarm
  obtain ⟨hr1, hr2⟩ := X.roomAbove hcells hslots
  have hl1 : ¬ 8 > e.platform.arrayLengthLimit := by rw [Launch.admits_arrayLengthLimit X.admits]; omega
  have hl2 : ¬ 40 > e.platform.arrayLengthLimit := by rw [Launch.admits_arrayLengthLimit X.admits]; omega
  have hh1 : ¬ 8 * componentBytes (.array .int) > e.platform.maxHeapBytes := by rw [Launch.admits_maxHeapBytes X.admits]; show ¬ 8 * 4 > 536870912; omega
  have hh2 : ¬ 40 * componentBytes .int > e.platform.maxHeapBytes := by rw [Launch.admits_maxHeapBytes X.admits]; show ¬ 40 * 4 > 536870912; omega
  obtain ⟨L, XU, hL, z1, z2, z3, z4, z5, z6⟩ := zmS_ok cA comp' X1 8
  obtain ⟨t', a1, b1⟩ := kk cA comp' (zmS (T.setVm vm1) cA comp' 8).heap L hfc hcomp z1 z4 z2 z3 hL (zmS (T.setVm vm1) cA comp' 8) rfl XU
  refine ⟨t', ?_, b1⟩
  have n8 : ¬ nI 8 < 0 := by decide
  have n40 : ¬ nI 40 < 0 := by decide
  jvm_step X.here [hexec, hdg]
  simp only [multianewarray.sem, wp_bind', W.resolveClassAt_links (State.method?_setTop g X.here.top) hg1]
  rw [W.popN, if_neg (by decide)]
  refine ⟨g, State.topJava?_setTop' (s := T.setVm vm1) g X.here.top, [.int (nI 8), .int (nI 40)], rest, rfl, hstack, ?_⟩
  simp only [List.mapM_cons, List.mapM_nil, wp_bind', wp_pure']
  have eS : ((T.setTop g).setVm vm1).setTop { g with stack := rest } = (T.setVm vm1).setTop { g with stack := rest } := by
    show ((T.setVm vm1).setTop g).setTop _ = _
    rw [State.setTop_setTop]
  rw [eS]
  rw [multianewarray.make]
  simp only [wp_bind', W.ite, n8, if_false, wp_pure', W.theClass]
  refine ⟨kA1, hkA1, ?_⟩
  simp only [hkA2]
  rw [wp_bind']
  refine zw_newA (cA := cA) (k := kA1) (len := 8) (init := .null) ?_ hkA2 hl1 hh1 rfl rfl ?_ ?_ ?_
  · exact hkA1
  · show T.heap.size < _; omega
  · show T.slotsUsed + 8 ≤ _; omega
  rw [if_neg (by decide), wp_bind', show (nI 8).toNatClampNeg = 8 from by decide, Std.Legacy.Range.forIn_eq_forIn_range']
  have hsz : ([:8] : Std.Legacy.Range).size = 8 := by simp [Std.Legacy.Range.size]
  rw [hsz]
  show wp (forIn (List.range' 0 8 1) PUnit.unit _) _ _ e _ _ _
  refine wp_forIn_inv (fun ys S => ∃ i, i ≤ 8 ∧ ys = List.range' i (8 - i) ∧ S = (zmS (T.setVm vm1) cA comp' i).setTop { g with stack := rest }) _ _ ?_ ?_ ?_
  · exact ⟨0, Nat.zero_le _, rfl, rfl⟩
  · rintro y ys S d' acts' Q' ⟨i, hi, hy, rfl⟩ hnext
    have hlt : i < 8 := by
      rcases Nat.lt_or_ge i 8 with h | h
      · exact h
      · rw [show 8 - i = 0 by omega] at hy; cases hy
    rw [show 8 - i = (8 - (i + 1)) + 1 by omega, List.range'_succ] at hy
    obtain ⟨hy1, hy2⟩ := List.cons.inj hy
    subst hy1
    subst hy2
    obtain ⟨L, XU, hL, z1, z2, z3, z4, z5, z6⟩ := zmS_ok cA comp' X1 y
    have z1' : (zmS (T.setVm vm1) cA comp' y).heap.size = T.heap.size + 1 + y := z1
    have z6' : (zmS (T.setVm vm1) cA comp' y).slotsUsed = T.slotsUsed + 8 + 40 * y := z6
    rw [wp_bind', multianewarray.make]
    simp only [wp_bind', W.ite, n40, if_false, wp_pure', W.theClass]
    refine ⟨kC1, by show (zmS _ _ _ y).vm.classes[_]? = _; rw [z5]; exact hkC1, ?_⟩
    simp only [hkC2]
    refine zw_newA (cA := comp') (k := kC1) (len := 40) (init := .int 0) ?_ hkC2 hl2 hh2 rfl rfl ?_ ?_ ?_
    · show (zmS _ _ _ y).vm.classes[_]? = _; rw [z5]; exact hkC1
    · show (zmS _ _ _ y).heap.size < _; rw [z1']; omega
    · show (zmS _ _ _ y).slotsUsed + 40 ≤ _; rw [z6']; omega
    simp only [wp_bind', W.writeLoc, wp_pure']
    have hlt0 : T.heap.size < (zmS (T.setVm vm1) cA comp' y).heap.size := by rw [z1']; omega
    refine ⟨arrV cA 8 (zmf T.heap.size y), ?_, ?_, ?_, ?_, ?_⟩
    · show ((zmS (T.setVm vm1) cA comp' y).pushCell _).heap[T.heap.size]? = _
      rw [State.heap_pushCell_of_lt (h := hlt0)]; exact z2
    · intro q; cases q
    · rw [arrV_size]; exact hlt
    · show State.fitsSlot _ cA .none y _ = true
      simp [State.fitsSlot, State.slotType?, z5, hkA1, hkA2, fits]
    · refine hnext _ _ _ ⟨y + 1, hlt, rfl, ?_⟩
      show (State.setCell _ _ (Cell.setSlot _ _ (.ref (zmS (T.setVm vm1) cA comp' y).heap.size))) = _
      rw [z1']
      rfl
  · rintro S d' acts' ⟨i, hi, hy, rfl⟩
    have hi8 : i = 8 := by
      rcases Nat.lt_or_ge i 8 with h | h
      · rw [show 8 - i = (8 - (i + 1)) + 1 by omega, List.range'_succ] at hy; cases hy
      · omega
    subst hi8
    simp only [wp_pure', wp_bind', W.mark, W.pushRef, State.topJava?_setTop' _ XU.here.top, Option.some.injEq, exists_eq_left', State.setTop_setTop, State.heap_setTop]
    intro acts9
    simp [jvm, XU.here.top]
    exact a1
end ZMU
/-- the cells of new int[8][40], from the place n -/
def zMl (n : Nat) : List zE := [zR 4 [.ref (n + 1), .ref (n + 2), .ref (n + 3), .ref (n + 4), .ref (n + 5), .ref (n + 6), .ref (n + 7), .ref (n + 8)], zI 40 (fun _ => 0), zI 40 (fun _ => 0), zI 40 (fun _ => 0), zI 40 (fun _ => 0), zI 40 (fun _ => 0), zI 40 (fun _ => 0), zI 40 (fun _ => 0), zI 40 (fun _ => 0)]
theorem arrV_cg {cI : ClassId} {N : Nat} {f g : Nat → Value} (h : ∀ j, j < N → f j = g j) : arrV cI N f = arrV cI N g := by
  unfold arrV
  congr 2
  funext j
  exact h j.val j.isLt
def zam (ad : Nat → Nat) (n q : Nat) : Nat → Nat := fun j => if n ≤ j ∧ j < n + 9 then q + (j - n) else ad j
theorem zam_lt {ad : Nat → Nat} {n q : Nat} : ∀ j, j < n → zam ad n q j = ad j := fun j hj => if_neg (by omega)
theorem zam_in {ad : Nat → Nat} {n q i : Nat} (hi : i < 9) : zam ad n q (n + i) = q + i := by
  unfold zam
  rw [if_pos (by omega)]
  omega
theorem zMl_inner (n i : Nat) (h1 : 1 ≤ i) (h2 : i < 9) : (zMl n)[i]? = some (zI 40 (fun _ => 0)) := by
  rcases (show i = 1 ∨ i = 2 ∨ i = 3 ∨ i = 4 ∨ i = 5 ∨ i = 6 ∨ i = 7 ∨ i = 8 by omega) with rfl | rfl | rfl | rfl | rfl | rfl | rfl | rfl <;> rfl
theorem u_multi {x : zC} {M : zM} {n kc ks n0 k0 s0 pc idx : Nat} {lv : List (Option Value)} {st : List Value} {h : List zE} (hx : zOc x M n kc ks) (d : decode M.2.1 pc = .ok (.multianewarray idx 2, 4)) (hcl : Cond.classLink M.1.cls idx "[[I" ∈ zG) (hc : zcl h.length h = true) (hlc : lv.all (zco h.length) = true) (hsc : st.all (zc1 h.length) = true) (hn0 : n0 ≤ h.length) (hn1 : h.length + 9 ≤ 1000) (hk : k0 + 9 ≤ kc) (hs : s0 + 328 ≤ ks) (k : zU x n0 (k0 + 9) (s0 + 328) (pc + 4) lv (.ref h.length :: st) (h ++ zMl h.length)) : zU x n0 k0 s0 pc lv (.int (nI 40) :: .int (nI 8) :: st) h := by
  obtain ⟨p, l, e, R, s, m, args, below, meth, c, D, ca, ad0, A, Q⟩ := x
  obtain ⟨hx, hb, hml, hown, hts, hKK, hA, hR, hr, hlk, hnm, hex⟩ := hx
  subst hR
  intro ad H locs ls had hl hP hD hS
  refine zw_multi (rest := st.map (zcv ad)) hx hb hown (hts _ (List.mem_cons_of_mem _ hcl)) (over_moved (Vm.Alike.refl s.vm) hex.2.2.2.2) (hts _ (List.mem_cons_of_mem _ zarrI)) rfl d rfl hk hs (fun cA comp H1 L f1 f2 z1 o1 c1 c2 hL => ?_)
  have hcA : cA = ca 4 := zarr_id hKK.1 (i := 4) rfl f1
  have hcB : comp = ca 0 := zarr_id hKK.1 (i := 0) rfl f2
  have hl9 : (zMl h.length).length = 9 := rfl
  have hP2 : va_P D vwCl (zcw (zam ad h.length H.size) ca (h ++ zMl h.length)) H1 := by
    intro i q hq
    obtain ⟨e1, h1, rfl⟩ := zcw_of hq
    by_cases hi : i < h.length
    · rw [List.getElem?_append_left hi] at h1
      have h2 := hP i _ (zcw_get h1)
      rw [zam_lt i hi, zc2_eq zam_lt (List.all_eq_true.mp hc _ (List.mem_of_getElem? h1))]
      exact h2.kept (o1 _ h2.lt)
    · rw [List.getElem?_append_right (by omega)] at h1
      have h9 : i - h.length < 9 := by rw [← hl9]; exact (List.getElem?_eq_some_iff.mp h1).1
      obtain ⟨j, rfl⟩ : ∃ j, i = h.length + j := ⟨i - h.length, by omega⟩
      rw [show h.length + j - h.length = j by omega] at h1 h9
      rw [zam_in h9]
      by_cases hj : j = 0
      · subst hj
        cases Option.some.inj h1
        show H1[H.size + 0]? = some (vp_cell (ca 4) (8, _))
        rw [Nat.add_zero, c1, hcA, vp_cell_q]
        congr 1
        refine arrV_cg (fun j hj => ?_)
        rcases (show j = 0 ∨ j = 1 ∨ j = 2 ∨ j = 3 ∨ j = 4 ∨ j = 5 ∨ j = 6 ∨ j = 7 by omega) with rfl | rfl | rfl | rfl | rfl | rfl | rfl | rfl <;> exact congrArg Value.ref (by show H.size + 1 + _ = zam ad h.length H.size _; rw [zam_in (by omega)])
      · rw [zMl_inner _ j (by omega) h9] at h1
        cases Option.some.inj h1
        have h3 := c2 (j - 1) (by omega)
        rw [show H.size + 1 + (j - 1) = H.size + j by omega, hcB] at h3
        exact h3
  have hD2 : va_D A (zcw (zam ad h.length H.size) ca (h ++ zMl h.length)) := by
    have key : ∀ (i : Nat) (q : Nat × va_E), (zcw (zam ad h.length H.size) ca (h ++ zMl h.length))[i]? = some q → (i < h.length ∧ ∃ e, (zcw ad ca h)[i]? = some (q.1, e)) ∨ (h.length ≤ i ∧ q.1 = H.size + (i - h.length)) := fun i q hq => by
      obtain ⟨e1, h1, rfl⟩ := zcw_of hq
      by_cases hi : i < h.length
      · rw [List.getElem?_append_left hi] at h1
        exact Or.inl ⟨hi, _, by rw [zcw_get h1]; show _ = some (zam ad h.length H.size i, _); rw [zam_lt i hi]⟩
      · rw [List.getElem?_append_right (by omega)] at h1
        have h9 : i - h.length < 9 := by rw [← hl9]; exact (List.getElem?_eq_some_iff.mp h1).1
        refine Or.inr ⟨by omega, ?_⟩
        have := zam_in (ad := ad) (n := h.length) (q := H.size) h9
        rw [show h.length + (i - h.length) = i by omega] at this
        exact this
    refine ⟨fun i j a b ha hb2 e1 => ?_, fun i q hq => ?_⟩
    · rcases key i a ha with ⟨i1, x1, i2⟩ | ⟨i1, i2⟩ <;> rcases key j b hb2 with ⟨j1, y1, j2⟩ | ⟨j1, j2⟩
      · exact hD.1 i j _ _ i2 j2 e1
      · have := (hP i _ i2).lt
        have h4 : a.1 < H.size := this
        omega
      · have := (hP j _ j2).lt
        have h4 : b.1 < H.size := this
        omega
      · omega
    · rcases key i q hq with ⟨i1, x1, i2⟩ | ⟨i1, i2⟩
      · exact hD.2 i (q.1, x1) i2
      · rw [i2]; exact hA _ (Nat.le_trans hS.1 (by omega))
  have h1 := k (zam ad h.length H.size) H1 (locs ++ L) ls (fun j hj => (if_neg (by omega)).trans (had j hj)) (by rw [zco_eq zam_lt lv 0 hlc]; exact hl) hP2 hD2 ⟨Nat.le_trans hS.1 (by omega), fun q h1 h2 => (o1 q (Nat.lt_of_lt_of_le h1 hS.1)).trans (hS.2.1 q h1 h2), fun q hq => by
    rcases List.mem_append.mp hq with hq | hq
    · exact hS.2.2 q hq
    · rw [hL q hq]; exact hA _ hS.1⟩
  rw [List.map_cons, zcs_eq zam_lt hsc] at h1
  have e3 : zcv (zam ad h.length H.size) (.ref h.length) = .ref H.size := congrArg Value.ref (by have := zam_in (ad := ad) (n := h.length) (q := H.size) (i := 0) (by omega); exact this)
  rw [e3] at h1
  exact h1
