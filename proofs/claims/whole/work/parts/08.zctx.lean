/-- the array classes, by their kinds: 0 int[], 1 boolean[], 2 Line[], 3 Waiter[], 4 int[][] -/
def ztys (ca : Nat → Nat) : List (ClassId × FieldType) := [(ca 0, .int), (ca 1, .boolean), (ca 2, .object "TramFaith$Line"), (ca 3, .object "TramFaith$Waiter"), (ca 4, .array .int)]
def zNM : List (String × Nat × MethodName × String) := [(RX9, 69, yX11_isWithin, RX11), (RX4, 86, yX11_isIn, RX11), (RX0, 28, yX11_isWithin, RX11)]
def zNC : List (String × String) := [(RX2, RX6), (RX3, RX6), (RX7, RX1)]
def zNN : List (String × String) := [(RX1, RX6), (RX7, RX6), (RX6, RX2), (RX3, RX2), (RX1, RX2), (RX7, RX2), (RX6, RX3), (RX2, RX3), (RX1, RX3), (RX7, RX3), (RX6, RX1), (RX2, RX1), (RX3, RX1), (RX6, RX7), (RX2, RX7), (RX3, RX7), (RX1, RX7)]
abbrev zyH : MethodName := ⟨"TramFaith$Waiter", "hopesBy", "(III)I"⟩
/-- what holds of the machine's tables and of the constants outside -/
def zKK (D : va_G) (ca ad : Nat → Nat) (A : Nat → Prop) (U : State) (H : Heap) : Prop :=
  va_K D vwCl (ztys ca) U ∧ (∀ q ∈ zNM, va_Nw (.methodLinkNest q.1 q.2.1 q.2.2.1 q.2.2.2) U) ∧ (∀ q ∈ zNC, va_Nw (.castable q.1 q.2) U) ∧ va_Nw (.declares zyH) U ∧ (∀ q ∈ zNN, va_Nc q.1 q.2 U) ∧ vk_R RX9 46 "pcdks" (ad 1000) U ∧
  vk_S 1 [5] [[112, 99, 100, 107, 115]] (fun _ => ad 1000) (fun _ => ad 1001) A U H ∧ va_Z "java/lang/String" "COMPACT_STRINGS" "Z" (.int 1) A U H
theorem zKK.blind {D : va_G} {ca ad : Nat → Nat} {A : Nat → Prop} {U : State} {H : Heap} (g : JFrame) (mk : MethodId) (a : Array Value) (h : zKK D ca ad A U H) : zKK D ca ad A (U.calling g mk a) H := by
  obtain ⟨h1, h2, h3, h4, h5, h6, h7, h8⟩ := h
  exact ⟨va_K.moved (u := U) (U := U.calling g mk a) (Vm.Alike.refl U.vm) h1, fun q hq => va_Nw.same (u := U) rfl rfl (h2 q hq), fun q hq => va_Nw.same (u := U) rfl rfl (h3 q hq), va_Nw.same (u := U) rfl rfl h4, fun q hq => va_Nc.moved (u := U) (U := U.calling g mk a) (Vm.Alike.refl U.vm) (h5 q hq), vk_R.same (u := U) rfl h6, vk_S.moved (u := U) (U := U.calling g mk a) (Vm.Alike.refl U.vm) h7, va_Z.moved (u := U) (U := U.calling g mk a) (Vm.Alike.refl U.vm) h8⟩
theorem zKK.warm {D : va_G} {ca ad ad' : Nat → Nat} {A A' : Nat → Prop} {s U : State} {H0 H : Heap} {locs : List Loc} (hW : s.WarmedH U.vm) (hS : va_S A H0 H locs) (hA : ∀ q, A' q → A q) (e0 : ad' 1000 = ad 1000) (e1 : ad' 1001 = ad 1001) (h : zKK D ca ad A s H0) : zKK D ca ad' A' U H := by
  obtain ⟨h1, h2, h3, h4, h5, h6, h7, h8⟩ := h
  refine ⟨va_K.moved hW.alike h1, fun q hq => va_Nw.warmM hW (h2 q hq), fun q hq => va_Nw.warmC hW (h3 q hq), va_Nw.warmD hW h4, fun q hq => va_Nc.moved hW.alike (h5 q hq), ?_, ?_, ?_⟩
  · rw [e0]; exact vk_R.warm hW h6
  · rw [e0, e1]; exact vk_S.moved hW.alike ((h7.kept hS.2.1).narrow hA)
  · exact va_Z.moved hW.alike ((h8.kept hS.2.1).narrow hA)
/-- a method: its name, code, locals, result -/
abbrev zM : Type := MethodName × ByteArray × Nat × Option FieldType
def zG : List Cond := lw_tbl.filter goodWord
def zws (M : zM) : List Cond := Cond.code M.1 M.2.1 M.2.2.1 M.2.2.2 :: zG
def zrm (n : Nat) : Room := { frames := n, cells := 0, slots := 0, locals := 40 * n }
/-- the context of a method's run -/
abbrev zC : Type := Program × Launch × Env × Room × State × MethodId × Array Value × List Frame × Method × Code × va_G × (Nat → Nat) × (Nat → Nat) × (Nat → Prop) × (State → Prop)
def zV (x : zC) (pc : Nat) (lv : List (Option Value)) (st : List Value) (h : List zE) : Prop :=
  match x with
  | (p, l, e, R, s, m, args, below, meth, c, D, ca, ad, A, Q) => ∀ (H : Heap) (locs : List Loc) (ls : Array Slot), lv_has ls lv.length (zpr ad 0 lv) → va_P D vwCl (zcw ad ca h) H → va_D A (zcw ad ca h) → va_S A s.heap H locs → W p l e R s m args below meth c H locs 0 0 Q (F0 m pc ls (st.map (zcv ad)))
def zOk (x : zC) (M : zM) (n : Nat) : Prop :=
  match x with
  | (p, _, _, R, s, m, args, _, meth, c, D, ca, ad, A, _) => p.tables.exec = Jvm.exec ∧ c.code = M.2.1 ∧ c.maxLocals = M.2.2.1 ∧ s.vm.findClass M.1.cls = some m.cls ∧ (∀ w ∈ zws M, w.before args s = true) ∧ zKK D ca ad A s s.heap ∧ (∀ q, s.heap.size ≤ q → A q) ∧ R = zrm n ∧ meth.sig.returnType = M.2.2.2 ∧ meth.locks = false
/-- the cells behind a method -/
def zB (D : va_G) (ca ad : Nat → Nat) (A : Nat → Prop) (u : List zE) (t : State) : Prop := va_P D vwCl (zcw ad ca u) t.heap ∧ va_D A (zcw ad ca u)
def zFi (x : zC) (N : Nat) (Qr : Int32 → List zE → Prop) : Prop :=
  match x with
  | (_, _, _, _, s, _, args, below, _, _, D, ca, ad, A, Q) => Q = MQ below (va_Qi (fun r u => u.length = N ∧ Qr r u) (zB D ca ad A) A) args s 0 0 A
def zFv (x : zC) (N : Nat) (Qr : List zE → Prop) : Prop :=
  match x with
  | (_, _, _, _, s, _, args, below, _, _, D, ca, ad, A, Q) => Q = MQ below (va_Qv (fun u => u.length = N ∧ Qr u) (zB D ca ad A) A) args s 0 0 A
def zFr (x : zC) (N : Nat) (Qr : Nat → List zE → Prop) : Prop :=
  match x with
  | (_, _, _, _, s, _, args, below, _, _, D, ca, ad, A, Q) => Q = MQ below (va_Qr (fun u : Nat × List zE => u.2.length = N ∧ Qr u.1 u.2) (fun u a t => a = ad u.1 ∧ zB D ca ad A u.2 t) A) args s 0 0 A
def zPre (D : va_G) (ca ad : Nat → Nat) (h : List zE) (sz : Nat) (U : State) : Prop := U.heap.size = sz ∧ va_P D vwCl (zcw ad ca h) U.heap ∧ va_D (fun _ => True) (zcw ad ca h) ∧ zKK D ca ad (va_A (zcw ad ca h) sz) U U.heap
/-- contracts: a method with an int (a boolean), with nothing, with a reference -/
def zMi (M : zM) (n : Nat) (av : List Value) (h : List zE) (Qr : Int32 → List zE → Prop) : Prop := ∀ (l : Launch) (D : va_G) (ca ad : Nat → Nat) (sz : Nat),
  Met l M.1 (zws M) (zrm n) (va_Pc (av.map (zcv ad)) (zPre D ca ad h sz)) (va_Qi (fun r u => u.length = h.length ∧ Qr r u) (zB D ca ad (va_A (zcw ad ca h) sz)) (va_A (zcw ad ca h) sz)) 0 0 (va_A (zcw ad ca h) sz)
def zMv (M : zM) (n : Nat) (av : List Value) (h : List zE) (Qr : List zE → Prop) : Prop := ∀ (l : Launch) (D : va_G) (ca ad : Nat → Nat) (sz : Nat),
  Met l M.1 (zws M) (zrm n) (va_Pc (av.map (zcv ad)) (zPre D ca ad h sz)) (va_Qv (fun u => u.length = h.length ∧ Qr u) (zB D ca ad (va_A (zcw ad ca h) sz)) (va_A (zcw ad ca h) sz)) 0 0 (va_A (zcw ad ca h) sz)
def zMr (M : zM) (n : Nat) (av : List Value) (h : List zE) (Qr : Nat → List zE → Prop) : Prop := ∀ (l : Launch) (D : va_G) (ca ad : Nat → Nat) (sz : Nat),
  Met l M.1 (zws M) (zrm n) (va_Pc (av.map (zcv ad)) (zPre D ca ad h sz)) (va_Qr (fun u : Nat × List zE => u.2.length = h.length ∧ Qr u.1 u.2) (fun u a t => a = ad u.1 ∧ zB D ca ad (va_A (zcw ad ca h) sz) u.2 t) (va_A (zcw ad ca h) sz)) 0 0 (va_A (zcw ad ca h) sz)
section ZOF
variable {M : zM} {n : Nat} {av : List Value} {h : List zE}
theorem zM_of (hy : plainName M.1.cls = true) (hlen : (zlo av).length ≤ M.2.2.1) {l : Launch} {D : va_G} {ca ad : Nat → Nat} {sz : Nat} {Qc : Array Value → State → Outcome → State → Prop}
    (k : ∀ (p : Program) (e : Env) (s : State) (m : MethodId) (args : Array Value) (below : List Frame) (meth : Method) (c : Code), s.heap.size = sz →
      zOk (p, l, e, zrm n, s, m, args, below, meth, c, D, ca, ad, va_A (zcw ad ca h) sz, MQ below Qc args s 0 0 (va_A (zcw ad ca h) sz)) M n →
      zV (p, l, e, zrm n, s, m, args, below, meth, c, D, ca, ad, va_A (zcw ad ca h) sz, MQ below Qc args s 0 0 (va_A (zcw ad ca h) sz)) 0 (zloc av M.2.2.1) [] h) :
    Met l M.1 (zws M) (zrm n) (va_Pc (av.map (zcv ad)) (zPre D ca ad h sz)) Qc 0 0 (va_A (zcw ad ca h) sz) := by
  refine Met.ofW (cc := M.2.1) (maxL := M.2.2.1) (ret := M.2.2.2) hy rfl ?_
  intro p e s m args below meth c s₁ B hml hv
  obtain ⟨rfl, hsz, hP, hD0, hKK⟩ := hv
  have hD := hD0.self (sz := sz)
  have hok : zOk (p, l, e, zrm n, s, m, (av.map (zcv ad)).toArray, below, meth, c, D, ca, ad, va_A (zcw ad ca h) sz, MQ below Qc (av.map (zcv ad)).toArray s 0 0 (va_A (zcw ad ca h) sz)) M n :=
    ⟨B.exec, B.bytes, hml, findClass_of_methodNamed B.named, atoms_spec (ws := zws M) B.pre, hKK, fun q hq => Or.inr (by rw [← hsz]; exact hq), rfl, B.returns, B.notSynchronized⟩
  have hlen2 : (lg_sl (av.map (zcv ad))).length ≤ M.2.2.1 := by rw [zlo_len]; exact hlen
  have hl := lv_entry (av.map (zcv ad)) (n := M.2.2.1) hlen2
  rw [lg_entry_eq]
  refine k p e s m _ below meth c hsz hok s.heap [] _ ?_ hP hD va_S.rf
  have h1 : (zloc av M.2.2.1).length = M.2.2.1 := by
    unfold zloc
    rw [List.length_append, List.length_replicate]
    omega
  rw [h1]
  unfold zloc
  rw [zpr_app, zpr_lo]
  exact hl
theorem zMi.of {Qr : Int32 → List zE → Prop} (hy : plainName M.1.cls = true) (hlen : (zlo av).length ≤ M.2.2.1) (k : ∀ x : zC, zOk x M n → zFi x h.length Qr → zV x 0 (zloc av M.2.2.1) [] h) : zMi M n av h Qr :=
  fun l D ca ad sz => zM_of hy hlen (fun p e s m args below meth c hsz hok => k _ hok rfl)
theorem zMv.of {Qr : List zE → Prop} (hy : plainName M.1.cls = true) (hlen : (zlo av).length ≤ M.2.2.1) (k : ∀ x : zC, zOk x M n → zFv x h.length Qr → zV x 0 (zloc av M.2.2.1) [] h) : zMv M n av h Qr :=
  fun l D ca ad sz => zM_of hy hlen (fun p e s m args below meth c hsz hok => k _ hok rfl)
theorem zMr.of {Qr : Nat → List zE → Prop} (hy : plainName M.1.cls = true) (hlen : (zlo av).length ≤ M.2.2.1) (k : ∀ x : zC, zOk x M n → zFr x h.length Qr → zV x 0 (zloc av M.2.2.1) [] h) : zMr M n av h Qr :=
  fun l D ca ad sz => zM_of hy hlen (fun p e s m args below meth c hsz hok => k _ hok rfl)
end ZOF
