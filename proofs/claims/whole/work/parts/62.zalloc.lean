theorem zobjI : Cond.instanceMethod Lib.objectInit ∈ zG := List.mem_filter.mpr ⟨by decide +kernel, by decide +kernel⟩
theorem zobjC : Cond.code Lib.objectInit ⟨#[0xb1]⟩ 1 none ∈ zG := List.mem_filter.mpr ⟨by decide +kernel, by decide +kernel⟩
theorem zarrI : Cond.arrayClass (newarray.typeOf .int) ∈ zG := List.mem_filter.mpr ⟨by decide +kernel, by decide +kernel⟩
theorem zarrZ : Cond.arrayClass (newarray.typeOf .boolean) ∈ zG := List.mem_filter.mpr ⟨by decide +kernel, by decide +kernel⟩
/-! THE ALLOCATING LAYER, for the constructors: as zV, but the addresses of the places may grow: ad agrees with ad0 on the first n0 places and on those above 1000 -/
def zc1 (n : Nat) : Value → Bool
  | .ref k => decide (k < n)
  | _ => true
def zc2 (n : Nat) : zE → Bool
  | .inl (.inl _) => true
  | .inl (.inr (_, fs)) => fs.all (zc1 n)
  | .inr (_, fs) => fs.all (zc1 n)
def zcl (n : Nat) (h : List zE) : Bool := h.all (zc2 n)
def zco (n : Nat) : Option Value → Bool
  | some v => zc1 n v
  | none => true
theorem zc1_eq {n : Nat} {ad bd : Nat → Nat} (h : ∀ j, j < n → bd j = ad j) {v : Value} (hv : zc1 n v = true) : zcv bd v = zcv ad v := by
  cases v with
  | ref k => exact congrArg Value.ref (h k (of_decide_eq_true hv))
  | _ => rfl
theorem zc2_eq {n : Nat} {ad bd ca : Nat → Nat} (h : ∀ j, j < n → bd j = ad j) {e : zE} (he : zc2 n e = true) : zce bd ca e = zce ad ca e := by
  rcases e with (⟨c, x⟩ | ⟨ci, fs⟩) | ⟨t, fs⟩
  · rfl
  · have h2 : fs.map (zcv bd) = fs.map (zcv ad) := List.map_congr_left (fun v hv => zc1_eq h (List.all_eq_true.mp he v hv))
    simp only [zce, h2]
  · have h2 : ∀ i : Nat, zrf bd fs[i]? = zrf ad fs[i]? := fun i => by
      cases hi : fs[i]? with
      | none => rfl
      | some v =>
        have := zc1_eq h (List.all_eq_true.mp he v (List.mem_of_getElem? hi))
        cases v <;> first | rfl | exact congrArg some (Value.ref.inj this)
    simp only [zce, h2]
theorem zcl_eq {n : Nat} {ad bd ca : Nat → Nat} (h : ∀ j, j < n → bd j = ad j) {u : List zE} (hu : zcl n u = true) (hn : u.length ≤ n) : zcw bd ca u = zcw ad ca u := by
  apply List.ext_getElem?
  intro i
  simp only [zcw, List.getElem?_mapIdx]
  cases hi : u[i]? with
  | none => rfl
  | some e =>
    have h1 := (List.getElem?_eq_some_iff.mp hi).1
    show some (bd i, zce bd ca e) = some (ad i, zce ad ca e)
    rw [h i (by omega), zc2_eq h (List.all_eq_true.mp hu e (List.mem_of_getElem? hi))]
theorem zco_eq {n : Nat} {ad bd : Nat → Nat} (h : ∀ j, j < n → bd j = ad j) : ∀ (lv : List (Option Value)) (i : Nat), lv.all (zco n) = true → zpr bd i lv = zpr ad i lv
  | [], i, _ => rfl
  | none :: l, i, hl => by
    rw [zpr, zpr]
    exact zco_eq h l (i + 1) (by rw [List.all_cons, Bool.and_eq_true] at hl; exact hl.2)
  | some v :: l, i, hl => by
    rw [List.all_cons, Bool.and_eq_true] at hl
    rw [zpr, zpr, zco_eq h l (i + 1) hl.2, zc1_eq h hl.1]
theorem zcs_eq {n : Nat} {ad bd : Nat → Nat} (h : ∀ j, j < n → bd j = ad j) {st : List Value} (hs : st.all (zc1 n) = true) : st.map (zcv bd) = st.map (zcv ad) := List.map_congr_left (fun v hv => zc1_eq h (List.all_eq_true.mp hs v hv))
/-- one more place -/
def zax (ad : Nat → Nat) (n q : Nat) : Nat → Nat := fun j => if j = n then q else ad j
theorem zax_lt {ad : Nat → Nat} {n q : Nat} : ∀ j, j < n → zax ad n q j = ad j := fun j hj => if_neg (by omega)
theorem zext {ad ca : Nat → Nat} {h : List zE} {e : zE} {q : Nat} (hc : zcl h.length h = true) (he : zc2 h.length e = true) : zcw (zax ad h.length q) ca (h ++ [e]) = zcw ad ca h ++ [(q, zce ad ca e)] := by
  have h1 : zcw (zax ad h.length q) ca (h ++ [e]) = zcw (zax ad h.length q) ca h ++ [(zax ad h.length q h.length, zce (zax ad h.length q) ca e)] := by
    unfold zcw
    rw [List.mapIdx_append]
    simp
  rw [h1, zcl_eq zax_lt hc (Nat.le_refl _), zc2_eq zax_lt he]
  congr 3
  exact if_pos rfl
def zrc (n kc ks : Nat) : Room := { frames := n, cells := kc, slots := ks, locals := 40 * n }
theorem zAOa {u U : State} (hvm : u.vm.Alike U.vm) (h : va_Nw (.arrayOver (.array .int)) u) : va_Nw (.arrayOver (.array .int)) U := by
  exact over_moved hvm h
def zNI : List (String × Nat × MethodName × String) := [(RX11, 11, yX6_init, RX11), (RX6, 1, yX10_init, RX11), (RX11, 14, yX2_init, RX11), (RX2, 1, yX6_init, RX11), (RX11, 17, yX3_init, RX11), (RX3, 1, yX6_init, RX11), (RX11, 20, yX1_init, RX11), (RX1, 1, yX10_init, RX11), (RX11, 23, yX7_init, RX11), (RX7, 1, yX1_init, RX11), (RX11, 35, yX9_init, RX11), (RX11, 58, yX5_init, RX11), (RX11, 65, yX0_init, RX11)]
def zNW : List String := [RX6, RX2, RX3, RX1, RX7]
/-- what else the constructors want of the tables -/
def zEx (U : State) : Prop := (∀ q ∈ zNI, va_Nw (.methodLinkNest q.1 q.2.1 q.2.2.1 q.2.2.2) U) ∧ (∀ q ∈ zNW, va_Nw (.castable q RX10) U) ∧ va_AO RX4 U ∧ va_AO RX10 U ∧ va_Nw (.arrayOver (.array .int)) U
def zOc (x : zC) (M : zM) (n kc ks : Nat) : Prop :=
  match x with
  | (p, _, _, R, s, m, args, _, meth, c, D, ca, ad0, A, _) => p.tables.exec = Jvm.exec ∧ c.code = M.2.1 ∧ c.maxLocals = M.2.2.1 ∧ s.vm.findClass M.1.cls = some m.cls ∧ (∀ w ∈ zws M, w.before args s = true) ∧ zKK D ca ad0 A s s.heap ∧ (∀ q, s.heap.size ≤ q → A q) ∧ R = zrc n kc ks ∧ meth.sig.returnType = M.2.2.2 ∧ meth.locks = false ∧ meth.name = "<init>" ∧ zEx s
def zU (x : zC) (n0 k0 s0 : Nat) (pc : Nat) (lv : List (Option Value)) (st : List Value) (h : List zE) : Prop :=
  match x with
  | (p, l, e, R, s, m, args, below, meth, c, D, ca, ad0, A, Q) => ∀ (ad : Nat → Nat) (H : Heap) (locs : List Loc) (ls : Array Slot), (∀ j, j < n0 ∨ 1000 ≤ j → ad j = ad0 j) → lv_has ls lv.length (zpr ad 0 lv) → va_P D vwCl (zcw ad ca h) H → va_D A (zcw ad ca h) → va_S A s.heap H locs → W p l e R s m args below meth c H locs k0 s0 Q (F0 m pc ls (st.map (zcv ad)))
/-- a constructor's contract: from the cells h to the cells h2 (longer), with kc new cells of ks slots -/
def zMk (M : zM) (n kc ks : Nat) (av : List Value) (h h2 : List zE) : Prop := ∀ (l : Launch) (D : va_G) (ca ad : Nat → Nat) (sz : Nat),
  Met l M.1 (zws M) (zrc n kc ks) (va_Pc (av.map (zcv ad)) (fun U => zPre D ca ad h sz U ∧ zEx U)) (va_Qv (fun ad2 : Nat → Nat => ∀ j, j < h.length ∨ 1000 ≤ j → ad2 j = ad j) (fun ad2 t => zB D ca ad2 (va_A (zcw ad ca h) sz) h2 t) (va_A (zcw ad ca h) sz)) kc ks (va_A (zcw ad ca h) sz)
def zFc (x : zC) (n0 kc ks : Nat) (h2 : List zE) : Prop :=
  match x with
  | (_, _, _, _, s, _, args, below, _, _, D, ca, ad0, A, Q) => Q = MQ below (va_Qv (fun ad2 : Nat → Nat => ∀ j, j < n0 ∨ 1000 ≤ j → ad2 j = ad0 j) (fun ad2 t => zB D ca ad2 A h2 t) A) args s kc ks A
theorem zMk.of {M : zM} {n kc ks : Nat} {av : List Value} {h h2 : List zE} (hy : plainName M.1.cls = true) (hi : M.1.name = "<init>") (hlen : (zlo av).length ≤ M.2.2.1) (k : ∀ x : zC, zOc x M n kc ks → zFc x h.length kc ks h2 → zU x h.length 0 0 0 (zloc av M.2.2.1) [] h) : zMk M n kc ks av h h2 := by
  intro l D ca ad sz
  refine Met.ofW (cc := M.2.1) (maxL := M.2.2.1) (ret := M.2.2.2) hy rfl ?_
  intro p e s m args below meth c s₁ B hml hv
  obtain ⟨rfl, ⟨hsz, hP, hD0, hKK⟩, hE⟩ := hv
  have hD := hD0.self (sz := sz)
  have hnm : meth.name = "<init>" := (name_of_methodNamed B.named B.method).1.trans hi
  have hok : zOc (p, l, e, zrc n kc ks, s, m, (av.map (zcv ad)).toArray, below, meth, c, D, ca, ad, va_A (zcw ad ca h) sz, MQ below (va_Qv (fun ad2 : Nat → Nat => ∀ j, j < h.length ∨ 1000 ≤ j → ad2 j = ad j) (fun ad2 t => zB D ca ad2 (va_A (zcw ad ca h) sz) h2 t) (va_A (zcw ad ca h) sz)) (av.map (zcv ad)).toArray s kc ks (va_A (zcw ad ca h) sz)) M n kc ks :=
    ⟨B.exec, B.bytes, hml, findClass_of_methodNamed B.named, atoms_spec (ws := zws M) B.pre, hKK, fun q hq => Or.inr (by rw [← hsz]; exact hq), rfl, B.returns, B.notSynchronized, hnm, hE⟩
  have hlen2 : (lg_sl (av.map (zcv ad))).length ≤ M.2.2.1 := by rw [zlo_len]; exact hlen
  have hl := lv_entry (av.map (zcv ad)) (n := M.2.2.1) hlen2
  rw [lg_entry_eq]
  refine k _ hok rfl ad s.heap [] _ (fun _ _ => rfl) ?_ hP hD va_S.rf
  have h1 : (zloc av M.2.2.1).length = M.2.2.1 := by
    unfold zloc
    rw [List.length_append, List.length_replicate]
    omega
  rw [h1]
  unfold zloc
  rw [zpr_app, zpr_lo]
  exact hl
theorem zEx.warm {s U : State} (hW : s.WarmedH U.vm) (h : zEx s) : zEx U := by
  obtain ⟨h1, h2, h3, h4, h5⟩ := h
  exact ⟨fun q hq => va_Nw.warmM hW (h1 q hq), fun q hq => va_Nw.warmC hW (h2 q hq), va_AO.moved hW.alike h3, va_AO.moved hW.alike h4, zAOa hW.alike h5⟩
theorem zEx.blind {U : State} (g : JFrame) (mk : MethodId) (a : Array Value) (h : zEx U) : zEx (U.calling g mk a) := by
  obtain ⟨h1, h2, h3, h4, h5⟩ := h
  exact ⟨fun q hq => va_Nw.same (u := U) rfl rfl (h1 q hq), fun q hq => va_Nw.same (u := U) rfl rfl (h2 q hq), va_AO.moved (u := U) (U := U.calling g mk a) (Vm.Alike.refl U.vm) h3, va_AO.moved (u := U) (U := U.calling g mk a) (Vm.Alike.refl U.vm) h4, zAOa (u := U) (U := U.calling g mk a) (Vm.Alike.refl U.vm) h5⟩
section ZUR
variable {x : zC} {M : zM} {n kc ks n0 k0 s0 pc : Nat} {lv : List (Option Value)} {st : List Value} {h : List zE}
theorem u_iload_n (hx : zOc x M n kc ks) {j : Fin 4} {a : Int32} (d : decode M.2.1 pc = .ok (.iload_n j, 1)) (hv : lv[j.val]? = some (some (.int a))) (k : zU x n0 k0 s0 (pc + 1) lv (.int a :: st) h) : zU x n0 k0 s0 pc lv (st) h := by
  obtain ⟨p, l, e, R, s, m, args, below, meth, c, D, ca, ad0, A, Q⟩ := x
  obtain ⟨hx, hb, hml, hown, hts, hKK, hA, hR, hr, hlk, hnm, hex⟩ := hx
  intro ad H locs ls had hl hP hD hS
  exact lv_iload_n hx hb d rfl (zpr_at hl hv) (k ad H locs ls had hl hP hD hS)
theorem u_aload_n (hx : zOc x M n kc ks) {j : Fin 4} {a : Nat} (d : decode M.2.1 pc = .ok (.aload_n j, 1)) (hv : lv[j.val]? = some (some (.ref a))) (k : zU x n0 k0 s0 (pc + 1) lv (.ref a :: st) h) : zU x n0 k0 s0 pc lv (st) h := by
  obtain ⟨p, l, e, R, s, m, args, below, meth, c, D, ca, ad0, A, Q⟩ := x
  obtain ⟨hx, hb, hml, hown, hts, hKK, hA, hR, hr, hlk, hnm, hex⟩ := hx
  intro ad H locs ls had hl hP hD hS
  exact lv_aload_n hx hb d rfl (zpr_at hl hv) (k ad H locs ls had hl hP hD hS)
theorem u_iconst (hx : zOc x M n kc ks) {i : Int} {v : Int32} (d : decode M.2.1 pc = .ok (.iconst i, 1)) (hv : Int32.ofInt i = v) (k : zU x n0 k0 s0 (pc + 1) lv (.int v :: st) h) : zU x n0 k0 s0 pc lv (st) h := by
  obtain ⟨p, l, e, R, s, m, args, below, meth, c, D, ca, ad0, A, Q⟩ := x
  obtain ⟨hx, hb, hml, hown, hts, hKK, hA, hR, hr, hlk, hnm, hex⟩ := hx
  intro ad H locs ls had hl hP hD hS
  exact lv_iconst hx hb d hv (k ad H locs ls had hl hP hD hS)
theorem u_bipush (hx : zOc x M n kc ks) {i : Int} {v : Int32} (d : decode M.2.1 pc = .ok (.bipush i, 2)) (hv : (Int8.ofInt i).toInt32 = v) (k : zU x n0 k0 s0 (pc + 2) lv (.int v :: st) h) : zU x n0 k0 s0 pc lv (st) h := by
  obtain ⟨p, l, e, R, s, m, args, below, meth, c, D, ca, ad0, A, Q⟩ := x
  obtain ⟨hx, hb, hml, hown, hts, hKK, hA, hR, hr, hlk, hnm, hex⟩ := hx
  intro ad H locs ls had hl hP hD hS
  exact lv_bipush hx hb d hv (k ad H locs ls had hl hP hD hS)
theorem u_sipush (hx : zOc x M n kc ks) {i : Int} {v : Int32} (d : decode M.2.1 pc = .ok (.sipush i, 3)) (hv : (Int16.ofInt i).toInt32 = v) (k : zU x n0 k0 s0 (pc + 3) lv (.int v :: st) h) : zU x n0 k0 s0 pc lv (st) h := by
  obtain ⟨p, l, e, R, s, m, args, below, meth, c, D, ca, ad0, A, Q⟩ := x
  obtain ⟨hx, hb, hml, hown, hts, hKK, hA, hR, hr, hlk, hnm, hex⟩ := hx
  intro ad H locs ls had hl hP hD hS
  exact lv_sipush hx hb d hv (k ad H locs ls had hl hP hD hS)
theorem u_ldc (hx : zOc x M n kc ks) {i : Nat} {v : Int32} (d : decode M.2.1 pc = .ok (.ldc i, 2)) (hv : Cond.constant M.1.cls i v ∈ zG) (k : zU x n0 k0 s0 (pc + 2) lv (.int v :: st) h) : zU x n0 k0 s0 pc lv (st) h := by
  obtain ⟨p, l, e, R, s, m, args, below, meth, c, D, ca, ad0, A, Q⟩ := x
  obtain ⟨hx, hb, hml, hown, hts, hKK, hA, hR, hr, hlk, hnm, hex⟩ := hx
  intro ad H locs ls had hl hP hD hS
  exact lv_ldc hx hb hown (hts _ (List.mem_cons_of_mem _ hv)) d (k ad H locs ls had hl hP hD hS)
theorem u_dup (hx : zOc x M n kc ks) {v : Value} (d : decode M.2.1 pc = .ok (.dup, 1)) (hc : v.category = 1) (k : zU x n0 k0 s0 (pc + 1) lv (v :: v :: st) h) : zU x n0 k0 s0 pc lv (v :: st) h := by
  obtain ⟨p, l, e, R, s, m, args, below, meth, c, D, ca, ad0, A, Q⟩ := x
  obtain ⟨hx, hb, hml, hown, hts, hKK, hA, hR, hr, hlk, hnm, hex⟩ := hx
  intro ad H locs ls had hl hP hD hS
  exact lv_dup hx hb d (by rw [zcv_cat]; exact hc) (k ad H locs ls had hl hP hD hS)
theorem u_astore_n (hx : zOc x M n kc ks) {j : Fin 4} {a : Nat} (d : decode M.2.1 pc = .ok (.astore_n j, 1)) (hi : j.val < lv.length) (hn : zns lv j.val = true) (k : zU x n0 k0 s0 (pc + 1) (lv.set j.val (some (.ref a))) st h) : zU x n0 k0 s0 pc lv (.ref a :: st) h := by
  obtain ⟨p, l, e, R, s, m, args, below, meth, c, D, ca, ad0, A, Q⟩ := x
  obtain ⟨hx, hb, hml, hown, hts, hKK, hA, hR, hr, hlk, hnm, hex⟩ := hx
  intro ad H locs ls had hl hP hD hS
  exact lv_astore_n hx hb d rfl hl hi rfl (fun ls2 hl2 => k ad H locs ls2 had (zst (v := .ref a) hn hl2) hP hD hS)
theorem u_istore_n (hx : zOc x M n kc ks) {j : Fin 4} {a : Int32} (d : decode M.2.1 pc = .ok (.istore_n j, 1)) (hi : j.val < lv.length) (hn : zns lv j.val = true) (k : zU x n0 k0 s0 (pc + 1) (lv.set j.val (some (.int a))) st h) : zU x n0 k0 s0 pc lv (.int a :: st) h := by
  obtain ⟨p, l, e, R, s, m, args, below, meth, c, D, ca, ad0, A, Q⟩ := x
  obtain ⟨hx, hb, hml, hown, hts, hKK, hA, hR, hr, hlk, hnm, hex⟩ := hx
  intro ad H locs ls had hl hP hD hS
  exact lv_istore_n hx hb d rfl hl hi rfl (fun ls2 hl2 => k ad H locs ls2 had (zst (v := .int a) hn hl2) hP hD hS)
theorem u_iinc (hx : zOc x M n kc ks) {i : Nat} {z : Int} {a v : Int32} (d : decode M.2.1 pc = .ok (.iinc i z, 3)) (hv : lv[i]? = some (some (.int a))) (he : a + Int32.ofInt z = v) (hn : zns lv i = true) (k : zU x n0 k0 s0 (pc + 3) (lv.set i (some (.int v))) st h) : zU x n0 k0 s0 pc lv st h := by
  obtain ⟨p, l, e, R, s, m, args, below, meth, c, D, ca, ad0, A, Q⟩ := x
  obtain ⟨hx, hb, hml, hown, hts, hKK, hA, hR, hr, hlk, hnm, hex⟩ := hx
  intro ad H locs ls had hl hP hD hS
  have hi : i < lv.length := (List.getElem?_eq_some_iff.mp hv).1
  have hm : (i, Value.int a) ∈ zpr ad 0 lv := (zpr_mem ad lv 0 _).mpr ⟨i, .int a, hv, by simp [zcv]⟩
  obtain ⟨j, hj, hj2⟩ := List.mem_iff_getElem.mp hm
  exact lv_iinc hx hb d hl (k := j) (by rw [List.getElem?_eq_getElem hj, hj2]) he hi rfl (fun ls2 hl2 => k ad H locs ls2 had (zst (v := .int v) hn hl2) hP hD hS)
theorem u_goto (hx : zOc x M n kc ks) {off : Int} {tgt : Nat} (d : decode M.2.1 pc = .ok (.goto off, 3)) (ht : (pc : Int) + off = (tgt : Int)) (k : zU x n0 k0 s0 tgt lv st h) : zU x n0 k0 s0 pc lv (st) h := by
  obtain ⟨p, l, e, R, s, m, args, below, meth, c, D, ca, ad0, A, Q⟩ := x
  obtain ⟨hx, hb, hml, hown, hts, hKK, hA, hR, hr, hlk, hnm, hex⟩ := hx
  intro ad H locs ls had hl hP hD hS
  exact lv_goto hx hb d ht (k ad H locs ls had hl hP hD hS)
theorem u_icmp_ge (hx : zOc x M n kc ks) {a b : Int32} {off : Int} {tgt : Nat} (d : decode M.2.1 pc = .ok (.if_icmp .ge off, 3)) (ht : (pc : Int) + off = (tgt : Int)) (kt : b ≤ a → zU x n0 k0 s0 tgt lv st h) (kf : ¬ b ≤ a → zU x n0 k0 s0 (pc + 3) lv st h) : zU x n0 k0 s0 pc lv (.int b :: .int a :: st) h := by
  obtain ⟨p, l, e, R, s, m, args, below, meth, c, D, ca, ad0, A, Q⟩ := x
  obtain ⟨hx, hb, hml, hown, hts, hKK, hA, hR, hr, hlk, hnm, hex⟩ := hx
  intro ad H locs ls had hl hP hD hS
  exact lv_icmp_ge (x := a) (y := b) hx hb d ht (fun q => kt q ad H locs ls had hl hP hD hS) (fun q => kf q ad H locs ls had hl hP hD hS)
theorem u_get (hx : zOc x M n kc ks) {idx q ci : Nat} {C : String} {T : u_T} {N : Nat} {fs : List Value} {v : Value} {kf : Nat} (d : decode M.2.1 pc = .ok (.getfield idx, 3)) (f : zFd M.1.cls idx ci kf C T N) (hq : h[q]? = some (zO ci fs)) (hv : fs[kf]? = some v) (k : zU x n0 k0 s0 (pc + 3) lv (v :: st) h) : zU x n0 k0 s0 pc lv (.ref q :: st) h := by
  obtain ⟨p, l, e, R, s, m, args, below, meth, c, D, ca, ad0, A, Q⟩ := x
  obtain ⟨hx, hb, hml, hown, hts, hKK, hA, hR, hr, hlk, hnm, hex⟩ := hx
  intro ad H locs ls had hl hP hD hS
  obtain ⟨f1, f2, f3, f4, f5, f6, f7, f8⟩ := f
  exact va_get (D := D) (ci := ci) (v := zcv ad v) (C := C) (T := T) (N := N) hx hb hts (fun w hw => List.mem_cons_of_mem _ (f4 w hw)) hown hKK.1 hP q (zcw_get hq) f1 kf f2 (hts _ (List.mem_cons_of_mem _ f3)) (fun x9 h9 => by rw [f5] at h9; exact h9) (by rw [List.getElem?_map, hv]; rfl) d (k ad H locs ls had hl hP hD hS)
theorem u_iast (hx : zOc x M n kc ks) {q N : Nat} {f : Nat → Int32} {i a : Int32} (d : decode M.2.1 pc = .ok (.iastore, 1)) (hq : h[q]? = some (zI N f)) (hi : vp_in i N) (k : zU x n0 k0 s0 (pc + 1) lv st (h.set q (zI N (upd f i.toNatClampNeg a)))) : zU x n0 k0 s0 pc lv (.int a :: .int i :: .ref q :: st) h := by
  obtain ⟨p, l, e, R, s, m, args, below, meth, c, D, ca, ad0, A, Q⟩ := x
  obtain ⟨hx, hb, hml, hown, hts, hKK, hA, hR, hr, hlk, hnm, hex⟩ := hx
  intro ad H locs ls had hl hP hD hS
  refine va_iast (f := f) (i := i) (x := a) hx hb hKK.1 hP hD hS q 0 (zcw_get hq) rfl hi d (fun H1 locs1 hP1 hD1 hS1 => ?_)
  have e := zcw_set (ad := ad) (ca := ca) (h := h) q (zI N (upd f i.toNatClampNeg a))
  rw [zce] at e
  rw [e] at hP1 hD1
  exact k ad H1 locs1 ls had hl hP1 hD1 hS1
theorem u_vret (hx : zOc x M n kc ks) {h2 : List zE} (hF : zFc x n0 kc ks h2) (d : decode M.2.1 pc = .ok (.return_, 1)) (ht : M.2.2.2 = none) (hk : k0 ≤ kc) (hs : s0 ≤ ks) (hh : h = h2) : zU x n0 k0 s0 pc lv [] h := by
  subst hh
  obtain ⟨p, l, e, R, s, m, args, below, meth, c, D, ca, ad0, A, Q⟩ := x
  obtain ⟨hx, hb, hml, hown, hts, hKK, hA, hR, hr, hlk, hnm, hex⟩ := hx
  intro ad H locs ls had hl hP hD hS
  have hF : Q = _ := hF
  rw [hF]
  refine W.widen (k := kc) (n := ks) hk hs ?_
  exact W.vret hx hb (by rw [hr, ht]) (fun t ht hW => ⟨⟨ad, rfl, had, by rw [ht]; exact hP, hD⟩, hS.F ht⟩) hS.2.2 d hlk
theorem u_obj (hx : zOc x M n kc ks) {idx q : Nat} (d : decode M.2.1 pc = .ok (.invokespecial idx, 3)) (hlk : Cond.methodLink M.1.cls idx Lib.objectInit ∈ zG) (hn : 1 ≤ n) (hlv : lv.length = M.2.2.1) (hcat : (st.map fun v => v.category).sum ≤ 8) (k : zU x n0 k0 s0 (pc + 3) lv st h) : zU x n0 k0 s0 pc lv (.ref q :: st) h := by
  obtain ⟨p, l, e, R, s, m, args, below, meth, c, D, ca, ad0, A, Q⟩ := x
  obtain ⟨hx, hb, hml, hown, hts, hKK, hA, hR, hr, hlk2, hnm, hex⟩ := hx
  subst hR
  intro ad H locs ls had hl hP hD hS
  have hcat2 : ((st.map (zcv ad)).map fun v => v.category).sum ≤ 8 := by
    rw [List.map_map]
    have : ((fun v : Value => v.category) ∘ zcv ad) = fun v => v.category := funext fun v => zcv_cat ad v
    rw [this]
    exact hcat
  refine W.objInit (a := ad q) (rest := st.map (zcv ad)) hx hb hown (hts _ (List.mem_cons_of_mem _ hlk)) (hts _ (List.mem_cons_of_mem _ zobjI)) (hts _ (List.mem_cons_of_mem _ zobjC)) rfl (by rw [hml]; exact hl.1.trans hlv) rfl d hn (by
    show 2 * 0 + _ + 12 ≤ 40 * n
    omega) ?_
  exact k ad H locs ls had hl hP hD hS
theorem u_putF (hx : zOc x M n kc ks) {idx q ci kf : Nat} {C : String} {T : u_T} {N : Nat} {fs : List Value} {v : Value} {ty : FieldType} (d : decode M.2.1 pc = .ok (.putfield idx, 3)) (f : zFd M.1.cls idx ci kf C T N) (hC : C = M.1.cls) (hq : h[q]? = some (zO ci fs)) (hfin : (T kf).2.2.2 = true) (hty : parseFieldDescriptor (T kf).2.2.1 = some ty) (hn : ∀ g : Nat → Nat, narrow ty (zcv g v) = zcv g v) (hfit : ∀ g : Nat → Nat, fits ty (zcv g v) = true) (hl0 : kf < fs.length) (k : zU x n0 k0 s0 (pc + 3) lv st (h.set q (zO ci (fs.set kf v)))) : zU x n0 k0 s0 pc lv (v :: .ref q :: st) h := by
  obtain ⟨p, l, e, R, s, m, args, below, meth, c, D, ca, ad0, A, Q⟩ := x
  obtain ⟨hx, hb, hml, hown, hts, hKK, hA, hR, hr, hlk, hnm, hex⟩ := hx
  intro ad H locs ls had hl hP hD hS
  obtain ⟨f1, f2, f3, f4, f5, f6, f7, f8⟩ := f
  refine va_putF (D := D) (ci := ci) (v := zcv ad v) (ty := ty) (C := C) (T := T) (N := N) hx hb hts (fun w hw => List.mem_cons_of_mem _ (f4 w hw)) f6 f7 f8 hown hKK.1 hP hD hS q (zcw_get hq) f1 kf f2 (hts _ (List.mem_cons_of_mem _ f3)) (fun x9 h9 => by rw [f5] at h9; exact h9) hfin hnm (f5.trans hC) hty (hn ad) (hfit ad) (by rw [List.length_map]; exact hl0) d (fun H1 locs1 hP1 hD1 hS1 => ?_)
  have e : (zcw ad ca h).set q (ad q, .inr (ci, (fs.map (zcv ad)).set kf (zcv ad v))) = zcw ad ca (h.set q (zO ci (fs.set kf v))) := by
    rw [← zcw_set q (zO ci (fs.set kf v)), zce, List.map_set]
  rw [e] at hP1 hD1
  exact k ad H1 locs1 ls had hl hP1 hD1 hS1
theorem zarr_id {D : va_G} {ca : Nat → Nat} {s : State} (hK : va_K D vwCl (ztys ca) s) {i : Nat} {c0 cA : ClassId} {ty : FieldType} (hi : (ztys ca)[i]? = some (c0, ty)) (h : s.vm.findClass ("[" ++ ty.toString) = some cA) : cA = c0 := by
  have h2 := (hK.2 i _ hi).2
  have h3 : s.vm.findClass ("[" ++ ty.toString) = some c0 := by
    cases ty with
    | object C => obtain ⟨kA, comp, a1, a2, a3, a4⟩ := h2; exact a4
    | _ => exact h2
  exact Option.some.inj (h.symm.trans h3)
/-- the step of an allocation -/
theorem u_grow {p : Program} {l : Launch} {e : Env} {R : Room} {s : State} {m : MethodId} {args : Array Value} {below : List Frame} {meth : Method} {c : Code} {D : va_G} {ca ad0 ad : Nat → Nat} {A : Nat → Prop} {Q : State → Prop} {h : List zE} {k1 s1 pc1 : Nat} {e1 : zE} {H1 : Heap} {locs : List Loc} {ls : Array Slot} {q : Nat} (k : zU (p, l, e, R, s, m, args, below, meth, c, D, ca, ad0, A, Q) n0 k1 s1 pc1 lv (.ref h.length :: st) (h ++ [e1]))
    (hc : zcl h.length h = true) (he : zc2 h.length e1 = true) (hlc : lv.all (zco h.length) = true) (hsc : st.all (zc1 h.length) = true) (hn0 : n0 ≤ h.length) (hn1 : h.length < 1000) (had : ∀ j, j < n0 ∨ 1000 ≤ j → ad j = ad0 j) (hl : lv_has ls lv.length (zpr ad 0 lv))
    (hP : va_P D vwCl (zcw ad ca h ++ [(q, zce ad ca e1)]) H1) (hD : va_D A (zcw ad ca h ++ [(q, zce ad ca e1)])) (hS : va_S A s.heap H1 locs) : W p l e R s m args below meth c H1 locs k1 s1 Q (F0 m pc1 ls (.ref q :: st.map (zcv ad))) := by
  have e2 := zext (ad := ad) (ca := ca) (q := q) hc he
  have h1 := k (zax ad h.length q) H1 locs ls (fun j hj => (if_neg (by omega)).trans (had j hj)) (by rw [zco_eq zax_lt lv 0 hlc]; exact hl) (by rw [e2]; exact hP) (by rw [e2]; exact hD) hS
  rw [List.map_cons, zcs_eq zax_lt hsc] at h1
  have e3 : zcv (zax ad h.length q) (.ref h.length) = .ref q := congrArg Value.ref (if_pos rfl)
  rw [e3] at h1
  exact h1
theorem u_newI (hx : zOc x M n kc ks) {a : Int32} {N : Nat} (d : decode M.2.1 pc = .ok (.newarray .int, 2)) (ha : a = nI N) (hN : N ≤ 100000) (hc : zcl h.length h = true) (hlc : lv.all (zco h.length) = true) (hsc : st.all (zc1 h.length) = true) (hn0 : n0 ≤ h.length) (hn1 : h.length < 1000) (hk : k0 + 1 ≤ kc) (hs : s0 + N ≤ ks) (k : zU x n0 (k0 + 1) (s0 + N) (pc + 2) lv (.ref h.length :: st) (h ++ [zI N (fun _ => 0)])) : zU x n0 k0 s0 pc lv (.int a :: st) h := by
  subst ha
  obtain ⟨p, l, e, R, s, m, args, below, meth, c, D, ca, ad0, A, Q⟩ := x
  obtain ⟨hx, hb, hml, hown, hts, hKK, hA, hR, hr, hlk, hnm, hex⟩ := hx
  subst hR
  intro ad H locs ls had hl hP hD hS
  refine va_newaK (atype := .int) (N := N) (rest := st.map (zcv ad)) hx hb (hts _ (List.mem_cons_of_mem _ zarrI)) rfl d rfl (nI_pos (by omega)) (nI_clamp (by omega)) (by show N * 4 ≤ 536870912; omega) hk hs rfl (fun H1 cA e1 z1 o1 hAr hNm => ?_)
  have hcA : cA = ca 0 := zarr_id hKK.1 (i := 0) rfl hNm
  have hkp : ∀ (k : Nat) (x : Nat × va_E), (zcw ad ca h)[k]? = some x → H1[x.1]? = H[x.1]? := fun k x hx => o1 x.1 ((hP k x hx).lt)
  refine u_grow k hc rfl hlc hsc hn0 hn1 had hl ((hP.kept hkp).app (fun k x hx => ?_)) (hD.push hP rfl (hA _ hS.1)) ⟨Nat.le_trans hS.1 (by omega), fun x h1 h2 => (o1 x (Nat.lt_of_lt_of_le h1 hS.1)).trans (hS.2.1 x h1 h2), hS.2.2⟩
  have hz : k < 1 := (List.getElem?_eq_some_iff.mp hx).1
  rw [show k = 0 by omega] at hx
  cases hx
  rw [hcA] at e1
  exact e1
theorem u_newZ (hx : zOc x M n kc ks) {a : Int32} {N : Nat} (d : decode M.2.1 pc = .ok (.newarray .boolean, 2)) (ha : a = nI N) (hN : N ≤ 100000) (hc : zcl h.length h = true) (hlc : lv.all (zco h.length) = true) (hsc : st.all (zc1 h.length) = true) (hn0 : n0 ≤ h.length) (hn1 : h.length < 1000) (hk : k0 + 1 ≤ kc) (hs : s0 + N ≤ ks) (k : zU x n0 (k0 + 1) (s0 + N) (pc + 2) lv (.ref h.length :: st) (h ++ [zZ N (fun _ => 0)])) : zU x n0 k0 s0 pc lv (.int a :: st) h := by
  subst ha
  obtain ⟨p, l, e, R, s, m, args, below, meth, c, D, ca, ad0, A, Q⟩ := x
  obtain ⟨hx, hb, hml, hown, hts, hKK, hA, hR, hr, hlk, hnm, hex⟩ := hx
  subst hR
  intro ad H locs ls had hl hP hD hS
  refine va_newaK (atype := .boolean) (N := N) (rest := st.map (zcv ad)) hx hb (hts _ (List.mem_cons_of_mem _ zarrZ)) rfl d rfl (nI_pos (by omega)) (nI_clamp (by omega)) (by show N * 1 ≤ 536870912; omega) hk hs rfl (fun H1 cA e1 z1 o1 hAr hNm => ?_)
  have hcA : cA = ca 1 := zarr_id hKK.1 (i := 1) rfl hNm
  have hkp : ∀ (k : Nat) (x : Nat × va_E), (zcw ad ca h)[k]? = some x → H1[x.1]? = H[x.1]? := fun k x hx => o1 x.1 ((hP k x hx).lt)
  refine u_grow k hc rfl hlc hsc hn0 hn1 had hl ((hP.kept hkp).app (fun k x hx => ?_)) (hD.push hP rfl (hA _ hS.1)) ⟨Nat.le_trans hS.1 (by omega), fun x h1 h2 => (o1 x (Nat.lt_of_lt_of_le h1 hS.1)).trans (hS.2.1 x h1 h2), hS.2.2⟩
  have hz : k < 1 := (List.getElem?_eq_some_iff.mp hx).1
  rw [show k = 0 by omega] at hx
  cases hx
  rw [hcA] at e1
  exact e1
/-- the class C (of N fields, all fs at first) may be made at the pool's place idx -/
def zNo (own : String) (idx ci : Nat) (fs : List Value) (N : Nat) : Prop := ∃ (C : String) (T : u_T) (ty : Nat → FieldType), vwCl[ci]? = some (C, T, N) ∧ (∀ w ∈ u_ws C T N, w ∈ zG) ∧ (∀ k, k < N → parseFieldDescriptor (T k).2.2.1 = some (ty k)) ∧ Cond.classLink own idx C ∈ zG ∧ Cond.instantiable C N ∈ zG ∧ Cond.initialized C ∈ zG ∧ (∀ j, j < N → defaultValue (ty j) = vp_V fs j) ∧ ∀ g : Nat → Nat, fs.map (zcv g) = fs
theorem u_new (hx : zOc x M n kc ks) {idx ci N : Nat} {fs : List Value} (d : decode M.2.1 pc = .ok (.new idx, 3)) (f : zNo M.1.cls idx ci fs N) (hc : zcl h.length h = true) (hf : fs.all (zc1 h.length) = true) (hlc : lv.all (zco h.length) = true) (hsc : st.all (zc1 h.length) = true) (hn0 : n0 ≤ h.length) (hn1 : h.length < 1000) (hk : k0 + 1 ≤ kc) (hs : s0 + N ≤ ks) (k : zU x n0 (k0 + 1) (s0 + N) (pc + 3) lv (.ref h.length :: st) (h ++ [zO ci fs])) : zU x n0 k0 s0 pc lv st h := by
  obtain ⟨p, l, e, R, s, m, args, below, meth, c, D, ca, ad0, A, Q⟩ := x
  obtain ⟨hx, hb, hml, hown, hts, hKK, hA, hR, hr, hlk, hnm, hex⟩ := hx
  subst hR
  intro ad H locs ls had hl hP hD hS
  obtain ⟨C, T, ty, f1, f2, f3, f4, f5, f6, f7, f8⟩ := f
  refine va_new (ci := ci) (fs := fs) (C := C) (T := T) (N := N) hx hb hts (fun w hw => List.mem_cons_of_mem _ (f2 w hw)) ty f3 hown (hts _ (List.mem_cons_of_mem _ f4)) (hts _ (List.mem_cons_of_mem _ f5)) (hts _ (List.mem_cons_of_mem _ f6)) hKK.1 hP hD hS hA f1 f7 hk hs d (fun q H1 hP1 hD1 hS1 => ?_)
  refine u_grow (e1 := zO ci fs) k hc hf hlc hsc hn0 hn1 had hl ?_ ?_ hS1
  · show va_P D vwCl (zcw ad ca h ++ [(q, .inr (ci, fs.map (zcv ad)))]) H1
    rw [f8]; exact hP1
  · show va_D A (zcw ad ca h ++ [(q, .inr (ci, fs.map (zcv ad)))])
    rw [f8]; exact hD1
end ZUR
