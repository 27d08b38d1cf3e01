/-- the field link of the class own at the pool's place idx is field k of class ci (C, its table T of N fields) -/
def zFd (own : String) (idx ci k : Nat) (C : String) (T : u_T) (N : Nat) : Prop := vwCl[ci]? = some (C, T, N) ∧ k < N ∧ Cond.fieldLink own idx C (T k).2.1 (T k).2.2.1 ∈ zG ∧ (∀ w ∈ u_ws C T N, w ∈ zG) ∧ (T k).1 = C ∧ ∃ (ty0 : Nat → FieldType) (_ : ∀ k, k < N → parseFieldDescriptor (T k).2.2.1 = some (ty0 k)), ∀ a, a < N → ∀ b, b < N → a ≠ b → (T a).2.1 ≠ (T b).2.1
section ZST
variable {x : zC} {M : zM} {n pc : Nat} {lv : List (Option Value)} {st : List Value} {h : List zE}
theorem z_iadd (hx : zOk x M n) {a b : Int32} (d : decode M.2.1 pc = .ok (.iadd, 1)) (k : zV x (pc + 1) lv (.int (a + b) :: st) h) : zV x pc lv (.int b :: .int a :: st) h := by
  obtain ⟨p, l, e, R, s, m, args, below, meth, c, D, ca, ad, A, Q⟩ := x
  obtain ⟨hx, hb, hml, hown, hts, hKK, hA, hR, hr, hlk⟩ := hx
  intro H locs ls hl hP hD hS
  exact lv_iadd (x := a) (y := b) hx hb d (k H locs ls hl hP hD hS)
theorem z_isub (hx : zOk x M n) {a b : Int32} (d : decode M.2.1 pc = .ok (.isub, 1)) (k : zV x (pc + 1) lv (.int (a - b) :: st) h) : zV x pc lv (.int b :: .int a :: st) h := by
  obtain ⟨p, l, e, R, s, m, args, below, meth, c, D, ca, ad, A, Q⟩ := x
  obtain ⟨hx, hb, hml, hown, hts, hKK, hA, hR, hr, hlk⟩ := hx
  intro H locs ls hl hP hD hS
  exact lv_isub (x := a) (y := b) hx hb d (k H locs ls hl hP hD hS)
theorem z_imul (hx : zOk x M n) {a b : Int32} (d : decode M.2.1 pc = .ok (.imul, 1)) (k : zV x (pc + 1) lv (.int (a * b) :: st) h) : zV x pc lv (.int b :: .int a :: st) h := by
  obtain ⟨p, l, e, R, s, m, args, below, meth, c, D, ca, ad, A, Q⟩ := x
  obtain ⟨hx, hb, hml, hown, hts, hKK, hA, hR, hr, hlk⟩ := hx
  intro H locs ls hl hP hD hS
  exact lv_imul (x := a) (y := b) hx hb d (k H locs ls hl hP hD hS)
theorem z_ishl (hx : zOk x M n) {a b : Int32} (d : decode M.2.1 pc = .ok (.ishl, 1)) (k : zV x (pc + 1) lv (.int (a <<< (b &&& 31)) :: st) h) : zV x pc lv (.int b :: .int a :: st) h := by
  obtain ⟨p, l, e, R, s, m, args, below, meth, c, D, ca, ad, A, Q⟩ := x
  obtain ⟨hx, hb, hml, hown, hts, hKK, hA, hR, hr, hlk⟩ := hx
  intro H locs ls hl hP hD hS
  exact lv_ishl (x := a) (y := b) hx hb d (k H locs ls hl hP hD hS)
theorem z_ishr (hx : zOk x M n) {a b : Int32} (d : decode M.2.1 pc = .ok (.ishr, 1)) (k : zV x (pc + 1) lv (.int (a >>> (b &&& 31)) :: st) h) : zV x pc lv (.int b :: .int a :: st) h := by
  obtain ⟨p, l, e, R, s, m, args, below, meth, c, D, ca, ad, A, Q⟩ := x
  obtain ⟨hx, hb, hml, hown, hts, hKK, hA, hR, hr, hlk⟩ := hx
  intro H locs ls hl hP hD hS
  exact lv_ishr (x := a) (y := b) hx hb d (k H locs ls hl hP hD hS)
theorem z_iand (hx : zOk x M n) {a b : Int32} (d : decode M.2.1 pc = .ok (.iand, 1)) (k : zV x (pc + 1) lv (.int (a &&& b) :: st) h) : zV x pc lv (.int b :: .int a :: st) h := by
  obtain ⟨p, l, e, R, s, m, args, below, meth, c, D, ca, ad, A, Q⟩ := x
  obtain ⟨hx, hb, hml, hown, hts, hKK, hA, hR, hr, hlk⟩ := hx
  intro H locs ls hl hP hD hS
  exact lv_iand (x := a) (y := b) hx hb d (k H locs ls hl hP hD hS)
theorem z_ior (hx : zOk x M n) {a b : Int32} (d : decode M.2.1 pc = .ok (.ior, 1)) (k : zV x (pc + 1) lv (.int (a ||| b) :: st) h) : zV x pc lv (.int b :: .int a :: st) h := by
  obtain ⟨p, l, e, R, s, m, args, below, meth, c, D, ca, ad, A, Q⟩ := x
  obtain ⟨hx, hb, hml, hown, hts, hKK, hA, hR, hr, hlk⟩ := hx
  intro H locs ls hl hP hD hS
  exact lv_ior (x := a) (y := b) hx hb d (k H locs ls hl hP hD hS)
theorem z_ixor (hx : zOk x M n) {a b : Int32} (d : decode M.2.1 pc = .ok (.ixor, 1)) (k : zV x (pc + 1) lv (.int (a ^^^ b) :: st) h) : zV x pc lv (.int b :: .int a :: st) h := by
  obtain ⟨p, l, e, R, s, m, args, below, meth, c, D, ca, ad, A, Q⟩ := x
  obtain ⟨hx, hb, hml, hown, hts, hKK, hA, hR, hr, hlk⟩ := hx
  intro H locs ls hl hP hD hS
  exact lv_ixor (x := a) (y := b) hx hb d (k H locs ls hl hP hD hS)
theorem z_idiv (hx : zOk x M n) {a b : Int32} (d : decode M.2.1 pc = .ok (.idiv, 1)) (hne : ¬ b = 0) (k : zV x (pc + 1) lv (.int (a / b) :: st) h) : zV x pc lv (.int b :: .int a :: st) h := by
  obtain ⟨p, l, e, R, s, m, args, below, meth, c, D, ca, ad, A, Q⟩ := x
  obtain ⟨hx, hb, hml, hown, hts, hKK, hA, hR, hr, hlk⟩ := hx
  intro H locs ls hl hP hD hS
  exact lv_idiv (x := a) (y := b) hx hb d hne (k H locs ls hl hP hD hS)
theorem z_irem (hx : zOk x M n) {a b : Int32} (d : decode M.2.1 pc = .ok (.irem, 1)) (hne : ¬ b = 0) (k : zV x (pc + 1) lv (.int (a - a / b * b) :: st) h) : zV x pc lv (.int b :: .int a :: st) h := by
  obtain ⟨p, l, e, R, s, m, args, below, meth, c, D, ca, ad, A, Q⟩ := x
  obtain ⟨hx, hb, hml, hown, hts, hKK, hA, hR, hr, hlk⟩ := hx
  intro H locs ls hl hP hD hS
  exact lv_irem (x := a) (y := b) hx hb d hne (k H locs ls hl hP hD hS)
theorem z_ineg (hx : zOk x M n) {a : Int32} (d : decode M.2.1 pc = .ok (.ineg, 1)) (k : zV x (pc + 1) lv (.int (-a) :: st) h) : zV x pc lv (.int a :: st) h := by
  obtain ⟨p, l, e, R, s, m, args, below, meth, c, D, ca, ad, A, Q⟩ := x
  obtain ⟨hx, hb, hml, hown, hts, hKK, hA, hR, hr, hlk⟩ := hx
  intro H locs ls hl hP hD hS
  exact lv_ineg (x := a) hx hb d (k H locs ls hl hP hD hS)
theorem z_i2b (hx : zOk x M n) {a : Int32} (d : decode M.2.1 pc = .ok (.i2b, 1)) (k : zV x (pc + 1) lv (.int (a.toInt8.toInt32) :: st) h) : zV x pc lv (.int a :: st) h := by
  obtain ⟨p, l, e, R, s, m, args, below, meth, c, D, ca, ad, A, Q⟩ := x
  obtain ⟨hx, hb, hml, hown, hts, hKK, hA, hR, hr, hlk⟩ := hx
  intro H locs ls hl hP hD hS
  exact lv_i2b (x := a) hx hb d rfl (k H locs ls hl hP hD hS)
theorem z_i2s (hx : zOk x M n) {a : Int32} (d : decode M.2.1 pc = .ok (.i2s, 1)) (k : zV x (pc + 1) lv (.int (a.toInt16.toInt32) :: st) h) : zV x pc lv (.int a :: st) h := by
  obtain ⟨p, l, e, R, s, m, args, below, meth, c, D, ca, ad, A, Q⟩ := x
  obtain ⟨hx, hb, hml, hown, hts, hKK, hA, hR, hr, hlk⟩ := hx
  intro H locs ls hl hP hD hS
  exact lv_i2s (x := a) hx hb d rfl (k H locs ls hl hP hD hS)
theorem z_i2c (hx : zOk x M n) {a : Int32} (d : decode M.2.1 pc = .ok (.i2c, 1)) (k : zV x (pc + 1) lv (.int ((a.toUInt32 % 65536).toInt32) :: st) h) : zV x pc lv (.int a :: st) h := by
  obtain ⟨p, l, e, R, s, m, args, below, meth, c, D, ca, ad, A, Q⟩ := x
  obtain ⟨hx, hb, hml, hown, hts, hKK, hA, hR, hr, hlk⟩ := hx
  intro H locs ls hl hP hD hS
  exact lv_i2c (x := a) hx hb d rfl (k H locs ls hl hP hD hS)
theorem z_i2l (hx : zOk x M n) {a : Int32} (d : decode M.2.1 pc = .ok (.i2l, 1)) (k : zV x (pc + 1) lv (.long a.toInt64 :: st) h) : zV x pc lv (.int a :: st) h := by
  obtain ⟨p, l, e, R, s, m, args, below, meth, c, D, ca, ad, A, Q⟩ := x
  obtain ⟨hx, hb, hml, hown, hts, hKK, hA, hR, hr, hlk⟩ := hx
  intro H locs ls hl hP hD hS
  exact lv_i2l (x := a) hx hb d rfl (k H locs ls hl hP hD hS)
theorem z_l2i (hx : zOk x M n) {a : Int64} (d : decode M.2.1 pc = .ok (.l2i, 1)) (k : zV x (pc + 1) lv (.int a.toInt32 :: st) h) : zV x pc lv (.long a :: st) h := by
  obtain ⟨p, l, e, R, s, m, args, below, meth, c, D, ca, ad, A, Q⟩ := x
  obtain ⟨hx, hb, hml, hown, hts, hKK, hA, hR, hr, hlk⟩ := hx
  intro H locs ls hl hP hD hS
  exact lv_l2i (x := a) hx hb d rfl (k H locs ls hl hP hD hS)
theorem z_lmul (hx : zOk x M n) {a b : Int64} (d : decode M.2.1 pc = .ok (.lmul, 1)) (k : zV x (pc + 1) lv (.long (a * b) :: st) h) : zV x pc lv (.long b :: .long a :: st) h := by
  obtain ⟨p, l, e, R, s, m, args, below, meth, c, D, ca, ad, A, Q⟩ := x
  obtain ⟨hx, hb, hml, hown, hts, hKK, hA, hR, hr, hlk⟩ := hx
  intro H locs ls hl hP hD hS
  exact lv_lmul (x := a) (y := b) hx hb d (k H locs ls hl hP hD hS)
theorem z_lrem (hx : zOk x M n) {a b : Int64} (d : decode M.2.1 pc = .ok (.lrem, 1)) (hne : ¬ b = 0) (k : zV x (pc + 1) lv (.long (a - a / b * b) :: st) h) : zV x pc lv (.long b :: .long a :: st) h := by
  obtain ⟨p, l, e, R, s, m, args, below, meth, c, D, ca, ad, A, Q⟩ := x
  obtain ⟨hx, hb, hml, hown, hts, hKK, hA, hR, hr, hlk⟩ := hx
  intro H locs ls hl hP hD hS
  exact lv_lrem (x := a) (y := b) hx hb d hne (k H locs ls hl hP hD hS)
theorem z_iconst (hx : zOk x M n) {i : Int} {v : Int32} (d : decode M.2.1 pc = .ok (.iconst i, 1)) (hv : Int32.ofInt i = v) (k : zV x (pc + 1) lv (.int v :: st) h) : zV x pc lv (st) h := by
  obtain ⟨p, l, e, R, s, m, args, below, meth, c, D, ca, ad, A, Q⟩ := x
  obtain ⟨hx, hb, hml, hown, hts, hKK, hA, hR, hr, hlk⟩ := hx
  intro H locs ls hl hP hD hS
  exact lv_iconst hx hb d hv (k H locs ls hl hP hD hS)
theorem z_bipush (hx : zOk x M n) {i : Int} {v : Int32} (d : decode M.2.1 pc = .ok (.bipush i, 2)) (hv : (Int8.ofInt i).toInt32 = v) (k : zV x (pc + 2) lv (.int v :: st) h) : zV x pc lv (st) h := by
  obtain ⟨p, l, e, R, s, m, args, below, meth, c, D, ca, ad, A, Q⟩ := x
  obtain ⟨hx, hb, hml, hown, hts, hKK, hA, hR, hr, hlk⟩ := hx
  intro H locs ls hl hP hD hS
  exact lv_bipush hx hb d hv (k H locs ls hl hP hD hS)
theorem z_sipush (hx : zOk x M n) {i : Int} {v : Int32} (d : decode M.2.1 pc = .ok (.sipush i, 3)) (hv : (Int16.ofInt i).toInt32 = v) (k : zV x (pc + 3) lv (.int v :: st) h) : zV x pc lv (st) h := by
  obtain ⟨p, l, e, R, s, m, args, below, meth, c, D, ca, ad, A, Q⟩ := x
  obtain ⟨hx, hb, hml, hown, hts, hKK, hA, hR, hr, hlk⟩ := hx
  intro H locs ls hl hP hD hS
  exact lv_sipush hx hb d hv (k H locs ls hl hP hD hS)
theorem z_ldc (hx : zOk x M n) {i : Nat} {v : Int32} (d : decode M.2.1 pc = .ok (.ldc i, 2)) (hv : Cond.constant M.1.cls i v ∈ zG) (k : zV x (pc + 2) lv (.int v :: st) h) : zV x pc lv (st) h := by
  obtain ⟨p, l, e, R, s, m, args, below, meth, c, D, ca, ad, A, Q⟩ := x
  obtain ⟨hx, hb, hml, hown, hts, hKK, hA, hR, hr, hlk⟩ := hx
  intro H locs ls hl hP hD hS
  exact lv_ldc hx hb hown (hts _ (List.mem_cons_of_mem _ hv)) d (k H locs ls hl hP hD hS)
theorem z_ldcw (hx : zOk x M n) {i : Nat} {v : Int32} (d : decode M.2.1 pc = .ok (.ldc_w i, 3)) (hv : Cond.constant M.1.cls i v ∈ zG) (k : zV x (pc + 3) lv (.int v :: st) h) : zV x pc lv (st) h := by
  obtain ⟨p, l, e, R, s, m, args, below, meth, c, D, ca, ad, A, Q⟩ := x
  obtain ⟨hx, hb, hml, hown, hts, hKK, hA, hR, hr, hlk⟩ := hx
  intro H locs ls hl hP hD hS
  exact lv_ldcw hx hb hown (hts _ (List.mem_cons_of_mem _ hv)) d (k H locs ls hl hP hD hS)
theorem z_ldc2 (hx : zOk x M n) {i : Nat} {v : Int64} (d : decode M.2.1 pc = .ok (.ldc2_w i, 3)) (hv : Cond.constantLong M.1.cls i v ∈ zG) (k : zV x (pc + 3) lv (.long v :: st) h) : zV x pc lv (st) h := by
  obtain ⟨p, l, e, R, s, m, args, below, meth, c, D, ca, ad, A, Q⟩ := x
  obtain ⟨hx, hb, hml, hown, hts, hKK, hA, hR, hr, hlk⟩ := hx
  intro H locs ls hl hP hD hS
  exact lv_ldc2 hx hb hown (hts _ (List.mem_cons_of_mem _ hv)) d (k H locs ls hl hP hD hS)
theorem z_iload (hx : zOk x M n) {i : Nat} {a : Int32} (d : decode M.2.1 pc = .ok (.iload i, 2)) (hv : lv[i]? = some (some (.int a))) (k : zV x (pc + 2) lv (.int a :: st) h) : zV x pc lv (st) h := by
  obtain ⟨p, l, e, R, s, m, args, below, meth, c, D, ca, ad, A, Q⟩ := x
  obtain ⟨hx, hb, hml, hown, hts, hKK, hA, hR, hr, hlk⟩ := hx
  intro H locs ls hl hP hD hS
  exact lv_iload hx hb d (zpr_at hl hv) (k H locs ls hl hP hD hS)
theorem z_iload_n (hx : zOk x M n) {j : Fin 4} {a : Int32} (d : decode M.2.1 pc = .ok (.iload_n j, 1)) (hv : lv[j.val]? = some (some (.int a))) (k : zV x (pc + 1) lv (.int a :: st) h) : zV x pc lv (st) h := by
  obtain ⟨p, l, e, R, s, m, args, below, meth, c, D, ca, ad, A, Q⟩ := x
  obtain ⟨hx, hb, hml, hown, hts, hKK, hA, hR, hr, hlk⟩ := hx
  intro H locs ls hl hP hD hS
  exact lv_iload_n hx hb d rfl (zpr_at hl hv) (k H locs ls hl hP hD hS)
theorem z_aload (hx : zOk x M n) {i : Nat} {a : Nat} (d : decode M.2.1 pc = .ok (.aload i, 2)) (hv : lv[i]? = some (some (.ref a))) (k : zV x (pc + 2) lv (.ref a :: st) h) : zV x pc lv (st) h := by
  obtain ⟨p, l, e, R, s, m, args, below, meth, c, D, ca, ad, A, Q⟩ := x
  obtain ⟨hx, hb, hml, hown, hts, hKK, hA, hR, hr, hlk⟩ := hx
  intro H locs ls hl hP hD hS
  exact lv_aload hx hb d (zpr_at hl hv) (k H locs ls hl hP hD hS)
theorem z_aload_n (hx : zOk x M n) {j : Fin 4} {a : Nat} (d : decode M.2.1 pc = .ok (.aload_n j, 1)) (hv : lv[j.val]? = some (some (.ref a))) (k : zV x (pc + 1) lv (.ref a :: st) h) : zV x pc lv (st) h := by
  obtain ⟨p, l, e, R, s, m, args, below, meth, c, D, ca, ad, A, Q⟩ := x
  obtain ⟨hx, hb, hml, hown, hts, hKK, hA, hR, hr, hlk⟩ := hx
  intro H locs ls hl hP hD hS
  exact lv_aload_n hx hb d rfl (zpr_at hl hv) (k H locs ls hl hP hD hS)
theorem z_lload (hx : zOk x M n) {i : Nat} {a : Int64} (d : decode M.2.1 pc = .ok (.lload i, 2)) (hv : lv[i]? = some (some (.long a))) (k : zV x (pc + 2) lv (.long a :: st) h) : zV x pc lv (st) h := by
  obtain ⟨p, l, e, R, s, m, args, below, meth, c, D, ca, ad, A, Q⟩ := x
  obtain ⟨hx, hb, hml, hown, hts, hKK, hA, hR, hr, hlk⟩ := hx
  intro H locs ls hl hP hD hS
  exact lv_lload hx hb d (zpr_at hl hv) (k H locs ls hl hP hD hS)
theorem z_lload_n (hx : zOk x M n) {j : Fin 4} {a : Int64} (d : decode M.2.1 pc = .ok (.lload_n j, 1)) (hv : lv[j.val]? = some (some (.long a))) (k : zV x (pc + 1) lv (.long a :: st) h) : zV x pc lv (st) h := by
  obtain ⟨p, l, e, R, s, m, args, below, meth, c, D, ca, ad, A, Q⟩ := x
  obtain ⟨hx, hb, hml, hown, hts, hKK, hA, hR, hr, hlk⟩ := hx
  intro H locs ls hl hP hD hS
  exact lv_lload_n hx hb d rfl (zpr_at hl hv) (k H locs ls hl hP hD hS)
theorem z_istore (hx : zOk x M n) {i : Nat} {a : Int32} (d : decode M.2.1 pc = .ok (.istore i, 2)) (hi : i < lv.length) (hn : zns lv i = true) (k : zV x (pc + 2) (lv.set i (some (.int a))) st h) : zV x pc lv (.int a :: st) h := by
  obtain ⟨p, l, e, R, s, m, args, below, meth, c, D, ca, ad, A, Q⟩ := x
  obtain ⟨hx, hb, hml, hown, hts, hKK, hA, hR, hr, hlk⟩ := hx
  intro H locs ls hl hP hD hS
  exact lv_istore hx hb d hl hi rfl (fun ls2 hl2 => k H locs ls2 (zst (v := .int a) hn hl2) hP hD hS)
theorem z_istore_n (hx : zOk x M n) {j : Fin 4} {a : Int32} (d : decode M.2.1 pc = .ok (.istore_n j, 1)) (hi : j.val < lv.length) (hn : zns lv j.val = true) (k : zV x (pc + 1) (lv.set j.val (some (.int a))) st h) : zV x pc lv (.int a :: st) h := by
  obtain ⟨p, l, e, R, s, m, args, below, meth, c, D, ca, ad, A, Q⟩ := x
  obtain ⟨hx, hb, hml, hown, hts, hKK, hA, hR, hr, hlk⟩ := hx
  intro H locs ls hl hP hD hS
  exact lv_istore_n hx hb d rfl hl hi rfl (fun ls2 hl2 => k H locs ls2 (zst (v := .int a) hn hl2) hP hD hS)
theorem z_astore (hx : zOk x M n) {i : Nat} {a : Nat} (d : decode M.2.1 pc = .ok (.astore i, 2)) (hi : i < lv.length) (hn : zns lv i = true) (k : zV x (pc + 2) (lv.set i (some (.ref a))) st h) : zV x pc lv (.ref a :: st) h := by
  obtain ⟨p, l, e, R, s, m, args, below, meth, c, D, ca, ad, A, Q⟩ := x
  obtain ⟨hx, hb, hml, hown, hts, hKK, hA, hR, hr, hlk⟩ := hx
  intro H locs ls hl hP hD hS
  exact lv_astore hx hb d hl hi rfl (fun ls2 hl2 => k H locs ls2 (zst (v := .ref a) hn hl2) hP hD hS)
theorem z_astore_n (hx : zOk x M n) {j : Fin 4} {a : Nat} (d : decode M.2.1 pc = .ok (.astore_n j, 1)) (hi : j.val < lv.length) (hn : zns lv j.val = true) (k : zV x (pc + 1) (lv.set j.val (some (.ref a))) st h) : zV x pc lv (.ref a :: st) h := by
  obtain ⟨p, l, e, R, s, m, args, below, meth, c, D, ca, ad, A, Q⟩ := x
  obtain ⟨hx, hb, hml, hown, hts, hKK, hA, hR, hr, hlk⟩ := hx
  intro H locs ls hl hP hD hS
  exact lv_astore_n hx hb d rfl hl hi rfl (fun ls2 hl2 => k H locs ls2 (zst (v := .ref a) hn hl2) hP hD hS)
theorem z_lstore (hx : zOk x M n) {i : Nat} {a : Int64} (d : decode M.2.1 pc = .ok (.lstore i, 2)) (hi : i + 1 < lv.length) (hn : zns lv i = true) (k : zV x (pc + 2) ((lv.set i (some (.long a))).set (i + 1) none) st h) : zV x pc lv (.long a :: st) h := by
  obtain ⟨p, l, e, R, s, m, args, below, meth, c, D, ca, ad, A, Q⟩ := x
  obtain ⟨hx, hb, hml, hown, hts, hKK, hA, hR, hr, hlk⟩ := hx
  intro H locs ls hl hP hD hS
  exact lv_lstore hx hb d hl hi rfl (fun ls2 hl2 => k H locs ls2 (zstl (v := .long a) hn hl2) hP hD hS)
theorem z_lstore_n (hx : zOk x M n) {j : Fin 4} {a : Int64} (d : decode M.2.1 pc = .ok (.lstore_n j, 1)) (hi : j.val + 1 < lv.length) (hn : zns lv j.val = true) (k : zV x (pc + 1) ((lv.set j.val (some (.long a))).set (j.val + 1) none) st h) : zV x pc lv (.long a :: st) h := by
  obtain ⟨p, l, e, R, s, m, args, below, meth, c, D, ca, ad, A, Q⟩ := x
  obtain ⟨hx, hb, hml, hown, hts, hKK, hA, hR, hr, hlk⟩ := hx
  intro H locs ls hl hP hD hS
  exact lv_lstore_n hx hb d rfl hl hi rfl (fun ls2 hl2 => k H locs ls2 (zstl (v := .long a) hn hl2) hP hD hS)
theorem z_iinc (hx : zOk x M n) {i : Nat} {z : Int} {a v : Int32} (d : decode M.2.1 pc = .ok (.iinc i z, 3)) (hv : lv[i]? = some (some (.int a))) (he : a + Int32.ofInt z = v) (hn : zns lv i = true) (k : zV x (pc + 3) (lv.set i (some (.int v))) st h) : zV x pc lv st h := by
  obtain ⟨p, l, e, R, s, m, args, below, meth, c, D, ca, ad, A, Q⟩ := x
  obtain ⟨hx, hb, hml, hown, hts, hKK, hA, hR, hr, hlk⟩ := hx
  intro H locs ls hl hP hD hS
  have hi : i < lv.length := (List.getElem?_eq_some_iff.mp hv).1
  have hm : (i, Value.int a) ∈ zpr ad 0 lv := (zpr_mem ad lv 0 _).mpr ⟨i, .int a, hv, by simp [zcv]⟩
  obtain ⟨j, hj, hj2⟩ := List.mem_iff_getElem.mp hm
  exact lv_iinc hx hb d hl (k := j) (by rw [List.getElem?_eq_getElem hj, hj2]) he hi rfl (fun ls2 hl2 => k H locs ls2 (zst (v := .int v) hn hl2) hP hD hS)
theorem z_kill (i : Nat) (k : zV x pc (lv.set i none) st h) : zV x pc lv st h := by
  obtain ⟨p, l, e, R, s, m, args, below, meth, c, D, ca, ad, A, Q⟩ := x
  intro H locs ls hl hP hD hS
  exact k H locs ls (zkl i hl) hP hD hS
theorem z_dup (hx : zOk x M n) {v : Value} (d : decode M.2.1 pc = .ok (.dup, 1)) (hc : v.category = 1) (k : zV x (pc + 1) lv (v :: v :: st) h) : zV x pc lv (v :: st) h := by
  obtain ⟨p, l, e, R, s, m, args, below, meth, c, D, ca, ad, A, Q⟩ := x
  obtain ⟨hx, hb, hml, hown, hts, hKK, hA, hR, hr, hlk⟩ := hx
  intro H locs ls hl hP hD hS
  exact lv_dup hx hb d (by rw [zcv_cat]; exact hc) (k H locs ls hl hP hD hS)
theorem z_pop (hx : zOk x M n) {v : Value} (d : decode M.2.1 pc = .ok (.pop, 1)) (hc : v.category = 1) (k : zV x (pc + 1) lv st h) : zV x pc lv (v :: st) h := by
  obtain ⟨p, l, e, R, s, m, args, below, meth, c, D, ca, ad, A, Q⟩ := x
  obtain ⟨hx, hb, hml, hown, hts, hKK, hA, hR, hr, hlk⟩ := hx
  intro H locs ls hl hP hD hS
  exact lv_pop hx hb d (by rw [zcv_cat]; exact hc) (k H locs ls hl hP hD hS)
theorem z_dup2 (hx : zOk x M n) {v w : Value} (d : decode M.2.1 pc = .ok (.dup2, 1)) (hc : v.category = 1) (hw : w.category = 1) (k : zV x (pc + 1) lv (v :: w :: v :: w :: st) h) : zV x pc lv (v :: w :: st) h := by
  obtain ⟨p, l, e, R, s, m, args, below, meth, c, D, ca, ad, A, Q⟩ := x
  obtain ⟨hx, hb, hml, hown, hts, hKK, hA, hR, hr, hlk⟩ := hx
  intro H locs ls hl hP hD hS
  exact lv_dup2_11 hx hb d (by rw [zcv_cat]; exact hc) (by rw [zcv_cat]; exact hw) (k H locs ls hl hP hD hS)
theorem z_goto (hx : zOk x M n) {off : Int} {tgt : Nat} (d : decode M.2.1 pc = .ok (.goto off, 3)) (ht : (pc : Int) + off = (tgt : Int)) (k : zV x tgt lv st h) : zV x pc lv (st) h := by
  obtain ⟨p, l, e, R, s, m, args, below, meth, c, D, ca, ad, A, Q⟩ := x
  obtain ⟨hx, hb, hml, hown, hts, hKK, hA, hR, hr, hlk⟩ := hx
  intro H locs ls hl hP hD hS
  exact lv_goto hx hb d ht (k H locs ls hl hP hD hS)
theorem z_icmp_eq (hx : zOk x M n) {a b : Int32} {off : Int} {tgt : Nat} (d : decode M.2.1 pc = .ok (.if_icmp .eq off, 3)) (ht : (pc : Int) + off = (tgt : Int)) (kt : a = b → zV x tgt lv st h) (kf : ¬ a = b → zV x (pc + 3) lv st h) : zV x pc lv (.int b :: .int a :: st) h := by
  obtain ⟨p, l, e, R, s, m, args, below, meth, c, D, ca, ad, A, Q⟩ := x
  obtain ⟨hx, hb, hml, hown, hts, hKK, hA, hR, hr, hlk⟩ := hx
  intro H locs ls hl hP hD hS
  exact lv_icmp_eq (x := a) (y := b) hx hb d ht (fun q => kt q H locs ls hl hP hD hS) (fun q => kf q H locs ls hl hP hD hS)
theorem z_icmp_ne (hx : zOk x M n) {a b : Int32} {off : Int} {tgt : Nat} (d : decode M.2.1 pc = .ok (.if_icmp .ne off, 3)) (ht : (pc : Int) + off = (tgt : Int)) (kt : ¬ a = b → zV x tgt lv st h) (kf : a = b → zV x (pc + 3) lv st h) : zV x pc lv (.int b :: .int a :: st) h := by
  obtain ⟨p, l, e, R, s, m, args, below, meth, c, D, ca, ad, A, Q⟩ := x
  obtain ⟨hx, hb, hml, hown, hts, hKK, hA, hR, hr, hlk⟩ := hx
  intro H locs ls hl hP hD hS
  exact lv_icmp_ne (x := a) (y := b) hx hb d ht (fun q => kt q H locs ls hl hP hD hS) (fun q => kf q H locs ls hl hP hD hS)
theorem z_icmp_lt (hx : zOk x M n) {a b : Int32} {off : Int} {tgt : Nat} (d : decode M.2.1 pc = .ok (.if_icmp .lt off, 3)) (ht : (pc : Int) + off = (tgt : Int)) (kt : a < b → zV x tgt lv st h) (kf : ¬ a < b → zV x (pc + 3) lv st h) : zV x pc lv (.int b :: .int a :: st) h := by
  obtain ⟨p, l, e, R, s, m, args, below, meth, c, D, ca, ad, A, Q⟩ := x
  obtain ⟨hx, hb, hml, hown, hts, hKK, hA, hR, hr, hlk⟩ := hx
  intro H locs ls hl hP hD hS
  exact lv_icmp_lt (x := a) (y := b) hx hb d ht (fun q => kt q H locs ls hl hP hD hS) (fun q => kf q H locs ls hl hP hD hS)
theorem z_icmp_ge (hx : zOk x M n) {a b : Int32} {off : Int} {tgt : Nat} (d : decode M.2.1 pc = .ok (.if_icmp .ge off, 3)) (ht : (pc : Int) + off = (tgt : Int)) (kt : b ≤ a → zV x tgt lv st h) (kf : ¬ b ≤ a → zV x (pc + 3) lv st h) : zV x pc lv (.int b :: .int a :: st) h := by
  obtain ⟨p, l, e, R, s, m, args, below, meth, c, D, ca, ad, A, Q⟩ := x
  obtain ⟨hx, hb, hml, hown, hts, hKK, hA, hR, hr, hlk⟩ := hx
  intro H locs ls hl hP hD hS
  exact lv_icmp_ge (x := a) (y := b) hx hb d ht (fun q => kt q H locs ls hl hP hD hS) (fun q => kf q H locs ls hl hP hD hS)
theorem z_icmp_gt (hx : zOk x M n) {a b : Int32} {off : Int} {tgt : Nat} (d : decode M.2.1 pc = .ok (.if_icmp .gt off, 3)) (ht : (pc : Int) + off = (tgt : Int)) (kt : b < a → zV x tgt lv st h) (kf : ¬ b < a → zV x (pc + 3) lv st h) : zV x pc lv (.int b :: .int a :: st) h := by
  obtain ⟨p, l, e, R, s, m, args, below, meth, c, D, ca, ad, A, Q⟩ := x
  obtain ⟨hx, hb, hml, hown, hts, hKK, hA, hR, hr, hlk⟩ := hx
  intro H locs ls hl hP hD hS
  exact lv_icmp_gt (x := a) (y := b) hx hb d ht (fun q => kt q H locs ls hl hP hD hS) (fun q => kf q H locs ls hl hP hD hS)
theorem z_icmp_le (hx : zOk x M n) {a b : Int32} {off : Int} {tgt : Nat} (d : decode M.2.1 pc = .ok (.if_icmp .le off, 3)) (ht : (pc : Int) + off = (tgt : Int)) (kt : a ≤ b → zV x tgt lv st h) (kf : ¬ a ≤ b → zV x (pc + 3) lv st h) : zV x pc lv (.int b :: .int a :: st) h := by
  obtain ⟨p, l, e, R, s, m, args, below, meth, c, D, ca, ad, A, Q⟩ := x
  obtain ⟨hx, hb, hml, hown, hts, hKK, hA, hR, hr, hlk⟩ := hx
  intro H locs ls hl hP hD hS
  exact lv_icmp_le (x := a) (y := b) hx hb d ht (fun q => kt q H locs ls hl hP hD hS) (fun q => kf q H locs ls hl hP hD hS)
theorem z_if_eq (hx : zOk x M n) {a : Int32} {off : Int} {tgt : Nat} (d : decode M.2.1 pc = .ok (.ifCond .eq off, 3)) (ht : (pc : Int) + off = (tgt : Int)) (kt : a = 0 → zV x tgt lv st h) (kf : ¬ a = 0 → zV x (pc + 3) lv st h) : zV x pc lv (.int a :: st) h := by
  obtain ⟨p, l, e, R, s, m, args, below, meth, c, D, ca, ad, A, Q⟩ := x
  obtain ⟨hx, hb, hml, hown, hts, hKK, hA, hR, hr, hlk⟩ := hx
  intro H locs ls hl hP hD hS
  exact lv_if_eq (x := a) hx hb d ht (fun q => kt q H locs ls hl hP hD hS) (fun q => kf q H locs ls hl hP hD hS)
theorem z_if_ne (hx : zOk x M n) {a : Int32} {off : Int} {tgt : Nat} (d : decode M.2.1 pc = .ok (.ifCond .ne off, 3)) (ht : (pc : Int) + off = (tgt : Int)) (kt : ¬ a = 0 → zV x tgt lv st h) (kf : a = 0 → zV x (pc + 3) lv st h) : zV x pc lv (.int a :: st) h := by
  obtain ⟨p, l, e, R, s, m, args, below, meth, c, D, ca, ad, A, Q⟩ := x
  obtain ⟨hx, hb, hml, hown, hts, hKK, hA, hR, hr, hlk⟩ := hx
  intro H locs ls hl hP hD hS
  exact lv_if_ne (x := a) hx hb d ht (fun q => kt q H locs ls hl hP hD hS) (fun q => kf q H locs ls hl hP hD hS)
theorem z_if_lt (hx : zOk x M n) {a : Int32} {off : Int} {tgt : Nat} (d : decode M.2.1 pc = .ok (.ifCond .lt off, 3)) (ht : (pc : Int) + off = (tgt : Int)) (kt : a < 0 → zV x tgt lv st h) (kf : ¬ a < 0 → zV x (pc + 3) lv st h) : zV x pc lv (.int a :: st) h := by
  obtain ⟨p, l, e, R, s, m, args, below, meth, c, D, ca, ad, A, Q⟩ := x
  obtain ⟨hx, hb, hml, hown, hts, hKK, hA, hR, hr, hlk⟩ := hx
  intro H locs ls hl hP hD hS
  exact lv_if_lt (x := a) hx hb d ht (fun q => kt q H locs ls hl hP hD hS) (fun q => kf q H locs ls hl hP hD hS)
theorem z_if_ge (hx : zOk x M n) {a : Int32} {off : Int} {tgt : Nat} (d : decode M.2.1 pc = .ok (.ifCond .ge off, 3)) (ht : (pc : Int) + off = (tgt : Int)) (kt : 0 ≤ a → zV x tgt lv st h) (kf : ¬ 0 ≤ a → zV x (pc + 3) lv st h) : zV x pc lv (.int a :: st) h := by
  obtain ⟨p, l, e, R, s, m, args, below, meth, c, D, ca, ad, A, Q⟩ := x
  obtain ⟨hx, hb, hml, hown, hts, hKK, hA, hR, hr, hlk⟩ := hx
  intro H locs ls hl hP hD hS
  exact lv_if_ge (x := a) hx hb d ht (fun q => kt q H locs ls hl hP hD hS) (fun q => kf q H locs ls hl hP hD hS)
theorem z_if_gt (hx : zOk x M n) {a : Int32} {off : Int} {tgt : Nat} (d : decode M.2.1 pc = .ok (.ifCond .gt off, 3)) (ht : (pc : Int) + off = (tgt : Int)) (kt : 0 < a → zV x tgt lv st h) (kf : ¬ 0 < a → zV x (pc + 3) lv st h) : zV x pc lv (.int a :: st) h := by
  obtain ⟨p, l, e, R, s, m, args, below, meth, c, D, ca, ad, A, Q⟩ := x
  obtain ⟨hx, hb, hml, hown, hts, hKK, hA, hR, hr, hlk⟩ := hx
  intro H locs ls hl hP hD hS
  exact lv_if_gt (x := a) hx hb d ht (fun q => kt q H locs ls hl hP hD hS) (fun q => kf q H locs ls hl hP hD hS)
theorem z_if_le (hx : zOk x M n) {a : Int32} {off : Int} {tgt : Nat} (d : decode M.2.1 pc = .ok (.ifCond .le off, 3)) (ht : (pc : Int) + off = (tgt : Int)) (kt : a ≤ 0 → zV x tgt lv st h) (kf : ¬ a ≤ 0 → zV x (pc + 3) lv st h) : zV x pc lv (.int a :: st) h := by
  obtain ⟨p, l, e, R, s, m, args, below, meth, c, D, ca, ad, A, Q⟩ := x
  obtain ⟨hx, hb, hml, hown, hts, hKK, hA, hR, hr, hlk⟩ := hx
  intro H locs ls hl hP hD hS
  exact lv_if_le (x := a) hx hb d ht (fun q => kt q H locs ls hl hP hD hS) (fun q => kf q H locs ls hl hP hD hS)
theorem z_tableIn (hx : zOk x M n) {dflt lo hi : Int} {offs : Array Int} {len : Nat} {a : Int32} {off : Int} {tgt : Nat} (d : decode M.2.1 pc = .ok (.tableswitch dflt lo hi offs, len)) (h1 : ¬ a.toInt < lo) (h2 : ¬ hi < a.toInt) (ho : offs[(a.toInt - lo).toNat]? = some off) (ht : (pc : Int) + off = (tgt : Int)) (k : zV x tgt lv st h) : zV x pc lv (.int a :: st) h := by
  obtain ⟨p, l, e, R, s, m, args, below, meth, c, D, ca, ad, A, Q⟩ := x
  obtain ⟨hx, hb, hml, hown, hts, hKK, hA, hR, hr, hlk⟩ := hx
  intro H locs ls hl hP hD hS
  exact lv_tableIn (x := a) hx hb d h1 h2 ho ht (k H locs ls hl hP hD hS)
theorem z_tableOut (hx : zOk x M n) {dflt lo hi : Int} {offs : Array Int} {len : Nat} {a : Int32} {tgt : Nat} (d : decode M.2.1 pc = .ok (.tableswitch dflt lo hi offs, len)) (h1 : a.toInt < lo ∨ hi < a.toInt) (ht : (pc : Int) + dflt = (tgt : Int)) (k : zV x tgt lv st h) : zV x pc lv (.int a :: st) h := by
  obtain ⟨p, l, e, R, s, m, args, below, meth, c, D, ca, ad, A, Q⟩ := x
  obtain ⟨hx, hb, hml, hown, hts, hKK, hA, hR, hr, hlk⟩ := hx
  intro H locs ls hl hP hD hS
  exact lv_tableOut (x := a) hx hb d h1 ht (k H locs ls hl hP hD hS)
theorem z_get (hx : zOk x M n) {idx q ci : Nat} {C : String} {T : u_T} {N : Nat} {fs : List Value} {v : Value} {kf : Nat} (d : decode M.2.1 pc = .ok (.getfield idx, 3)) (f : zFd M.1.cls idx ci kf C T N) (hq : h[q]? = some (zO ci fs)) (hv : fs[kf]? = some v) (k : zV x (pc + 3) lv (v :: st) h) : zV x pc lv (.ref q :: st) h := by
  obtain ⟨p, l, e, R, s, m, args, below, meth, c, D, ca, ad, A, Q⟩ := x
  obtain ⟨hx, hb, hml, hown, hts, hKK, hA, hR, hr, hlk⟩ := hx
  intro H locs ls hl hP hD hS
  obtain ⟨f1, f2, f3, f4, f5, f6, f7, f8⟩ := f
  exact va_get (D := D) (ci := ci) (v := zcv ad v) (C := C) (T := T) (N := N) hx hb hts (fun w hw => List.mem_cons_of_mem _ (f4 w hw)) hown hKK.1 hP q (zcw_get hq) f1 kf f2 (hts _ (List.mem_cons_of_mem _ f3)) (fun x9 h9 => by rw [f5] at h9; exact h9) (by rw [List.getElem?_map, hv]; rfl) d (k H locs ls hl hP hD hS)
theorem z_put (hx : zOk x M n) {idx q ci kf : Nat} {C : String} {T : u_T} {N : Nat} {fs : List Value} {v : Value} {ty : FieldType} (d : decode M.2.1 pc = .ok (.putfield idx, 3)) (f : zFd M.1.cls idx ci kf C T N) (hq : h[q]? = some (zO ci fs)) (hfin : (T kf).2.2.2 = false) (hty : parseFieldDescriptor (T kf).2.2.1 = some ty) (hn : ∀ g : Nat → Nat, narrow ty (zcv g v) = zcv g v) (hfit : ∀ g : Nat → Nat, fits ty (zcv g v) = true) (hl0 : kf < fs.length) (k : zV x (pc + 3) lv st (h.set q (zO ci (fs.set kf v)))) : zV x pc lv (v :: .ref q :: st) h := by
  obtain ⟨p, l, e, R, s, m, args, below, meth, c, D, ca, ad, A, Q⟩ := x
  obtain ⟨hx, hb, hml, hown, hts, hKK, hA, hR, hr, hlk⟩ := hx
  intro H locs ls hl hP hD hS
  obtain ⟨f1, f2, f3, f4, f5, f6, f7, f8⟩ := f
  refine va_put (D := D) (ci := ci) (v := zcv ad v) (ty := ty) (C := C) (T := T) (N := N) hx hb hts (fun w hw => List.mem_cons_of_mem _ (f4 w hw)) f6 f7 f8 hown hKK.1 hP hD hS q (zcw_get hq) f1 kf f2 (hts _ (List.mem_cons_of_mem _ f3)) (fun x9 h9 => by rw [f5] at h9; exact h9) hfin hty (hn ad) (hfit ad) (by rw [List.length_map]; exact hl0) d (fun H1 locs1 hP1 hD1 hS1 => ?_)
  have e : (zcw ad ca h).set q (ad q, .inr (ci, (fs.map (zcv ad)).set kf (zcv ad v))) = zcw ad ca (h.set q (zO ci (fs.set kf v))) := by
    rw [← zcw_set q (zO ci (fs.set kf v)), zce, List.map_set]
  rw [e] at hP1 hD1
  exact k H1 locs1 ls hl hP1 hD1 hS1
theorem z_iald (hx : zOk x M n) {q N : Nat} {f : Nat → Int32} {i : Int32} (d : decode M.2.1 pc = .ok (.iaload, 1)) (hq : h[q]? = some (zI N f)) (hi : vp_in i N) (k : zV x (pc + 1) lv (.int (f i.toNatClampNeg) :: st) h) : zV x pc lv (.int i :: .ref q :: st) h := by
  obtain ⟨p, l, e, R, s, m, args, below, meth, c, D, ca, ad, A, Q⟩ := x
  obtain ⟨hx, hb, hml, hown, hts, hKK, hA, hR, hr, hlk⟩ := hx
  intro H locs ls hl hP hD hS
  exact va_iald (f := f) (i := i) hx hb hKK.1 hP q 0 (zcw_get hq) rfl hi d (k H locs ls hl hP hD hS)
theorem z_iast (hx : zOk x M n) {q N : Nat} {f : Nat → Int32} {i a : Int32} (d : decode M.2.1 pc = .ok (.iastore, 1)) (hq : h[q]? = some (zI N f)) (hi : vp_in i N) (k : zV x (pc + 1) lv st (h.set q (zI N (upd f i.toNatClampNeg a)))) : zV x pc lv (.int a :: .int i :: .ref q :: st) h := by
  obtain ⟨p, l, e, R, s, m, args, below, meth, c, D, ca, ad, A, Q⟩ := x
  obtain ⟨hx, hb, hml, hown, hts, hKK, hA, hR, hr, hlk⟩ := hx
  intro H locs ls hl hP hD hS
  refine va_iast (f := f) (i := i) (x := a) hx hb hKK.1 hP hD hS q 0 (zcw_get hq) rfl hi d (fun H1 locs1 hP1 hD1 hS1 => ?_)
  have e := zcw_set (ad := ad) (ca := ca) (h := h) q (zI N (upd f i.toNatClampNeg a))
  rw [zce] at e
  rw [e] at hP1 hD1
  exact k H1 locs1 ls hl hP1 hD1 hS1
theorem z_zald (hx : zOk x M n) {q N : Nat} {f : Nat → Int32} {i : Int32} (d : decode M.2.1 pc = .ok (.baload, 1)) (hq : h[q]? = some (zZ N f)) (hi : vp_in i N) (k : zV x (pc + 1) lv (.int (f i.toNatClampNeg) :: st) h) : zV x pc lv (.int i :: .ref q :: st) h := by
  obtain ⟨p, l, e, R, s, m, args, below, meth, c, D, ca, ad, A, Q⟩ := x
  obtain ⟨hx, hb, hml, hown, hts, hKK, hA, hR, hr, hlk⟩ := hx
  intro H locs ls hl hP hD hS
  exact va_zald (f := f) (i := i) hx hb hKK.1 hP q 1 (zcw_get hq) rfl hi d (k H locs ls hl hP hD hS)
theorem z_zast (hx : zOk x M n) {q N : Nat} {f : Nat → Int32} {i a : Int32} (d : decode M.2.1 pc = .ok (.bastore, 1)) (hq : h[q]? = some (zZ N f)) (hi : vp_in i N) (k : zV x (pc + 1) lv st (h.set q (zZ N (upd f i.toNatClampNeg (vp_nar .boolean a))))) : zV x pc lv (.int a :: .int i :: .ref q :: st) h := by
  obtain ⟨p, l, e, R, s, m, args, below, meth, c, D, ca, ad, A, Q⟩ := x
  obtain ⟨hx, hb, hml, hown, hts, hKK, hA, hR, hr, hlk⟩ := hx
  intro H locs ls hl hP hD hS
  refine va_zast (f := f) (i := i) (x := a) hx hb hKK.1 hP hD hS q 1 (zcw_get hq) rfl hi d (fun H1 locs1 hP1 hD1 hS1 => ?_)
  have e := zcw_set (ad := ad) (ca := ca) (h := h) q (zZ N (upd f i.toNatClampNeg (vp_nar .boolean a)))
  rw [zce] at e
  rw [e] at hP1 hD1
  exact k H1 locs1 ls hl hP1 hD1 hS1
theorem z_alen (hx : zOk x M n) {q N : Nat} {f : Nat → Int32} {v : Int32} (d : decode M.2.1 pc = .ok (.arraylength, 1)) (hq : h[q]? = some (zI N f)) (hv : Int32.ofNat N = v) (k : zV x (pc + 1) lv (.int v :: st) h) : zV x pc lv (.ref q :: st) h := by
  obtain ⟨p, l, e, R, s, m, args, below, meth, c, D, ca, ad, A, Q⟩ := x
  obtain ⟨hx, hb, hml, hown, hts, hKK, hA, hR, hr, hlk⟩ := hx
  intro H locs ls hl hP hD hS
  exact va_alen (x := (N, .inl f)) hx hb hKK.1 hP q 0 (zcw_get hq) (ty := .int) rfl hv d (k H locs ls hl hP hD hS)
theorem z_aald (hx : zOk x M n) {q t r j : Nat} {C : String} {fs : List Value} (d : decode M.2.1 pc = .ok (.aaload, 1)) (hq : h[q]? = some (zR t fs)) (ht : ∀ g : Nat → Nat, (ztys g)[t]? = some (g t, .object C)) (hj : j < fs.length) (hL : fs.length < 2147483648) (hfr : fs[j]? = some (.ref r)) (k : zV x (pc + 1) lv (.ref r :: st) h) : zV x pc lv (.int (nI j) :: .ref q :: st) h := by
  obtain ⟨p, l, e, R, s, m, args, below, meth, c, D, ca, ad, A, Q⟩ := x
  obtain ⟨hx, hb, hml, hown, hts, hKK, hA, hR, hr, hlk⟩ := hx
  intro H locs ls hl hP hD hS
  refine va_aldq (f := fun i => zrf ad fs[i]?) (i := nI j) hx hb hKK.1 hP q t (zcw_get hq) (ht ca) (vp_in_nI hj (by omega)) d ?_
  rw [nI_clamp (by omega), hfr]
  exact (k H locs ls hl hP hD hS)
theorem z_iret (hx : zOk x M n) {N : Nat} {Qr : Int32 → List zE → Prop} (hF : zFi x N Qr) {a : Int32} (d : decode M.2.1 pc = .ok (.ireturn, 1)) (ht : M.2.2.2 = some .int) (hN : h.length = N) (hq : Qr a h) : zV x pc lv [.int a] h := by
  obtain ⟨p, l, e, R, s, m, args, below, meth, c, D, ca, ad, A, Q⟩ := x
  obtain ⟨hx, hb, hml, hown, hts, hKK, hA, hR, hr, hlk⟩ := hx
  intro H locs ls hl hP hD hS
  have hF : Q = _ := hF
  rw [hF]
  exact W.iret (v := a) hx hb (by rw [hr, ht]) (fun t ht hW => ⟨⟨a, h, rfl, ⟨hN, hq⟩, by rw [ht]; exact hP, hD⟩, hS.F ht⟩) hS.2.2 d hlk
theorem z_zret (hx : zOk x M n) {N : Nat} {Qr : Int32 → List zE → Prop} (hF : zFi x N Qr) {a : Int32} (d : decode M.2.1 pc = .ok (.ireturn, 1)) (ht : M.2.2.2 = some .boolean) (ha : narrow .boolean (.int a) = .int a) (hN : h.length = N) (hq : Qr a h) : zV x pc lv [.int a] h := by
  obtain ⟨p, l, e, R, s, m, args, below, meth, c, D, ca, ad, A, Q⟩ := x
  obtain ⟨hx, hb, hml, hown, hts, hKK, hA, hR, hr, hlk⟩ := hx
  intro H locs ls hl hP hD hS
  have hF : Q = _ := hF
  rw [hF]
  exact W.zret (v := a) (ty := .boolean) hx hb (by rw [hr, ht]) ha (fun t ht hW => ⟨⟨a, h, rfl, ⟨hN, hq⟩, by rw [ht]; exact hP, hD⟩, hS.F ht⟩) hS.2.2 d hlk
theorem z_vret (hx : zOk x M n) {N : Nat} {Qr : List zE → Prop} (hF : zFv x N Qr) (d : decode M.2.1 pc = .ok (.return_, 1)) (ht : M.2.2.2 = none) (hN : h.length = N) (hq : Qr h) : zV x pc lv [] h := by
  obtain ⟨p, l, e, R, s, m, args, below, meth, c, D, ca, ad, A, Q⟩ := x
  obtain ⟨hx, hb, hml, hown, hts, hKK, hA, hR, hr, hlk⟩ := hx
  intro H locs ls hl hP hD hS
  have hF : Q = _ := hF
  rw [hF]
  exact W.vret hx hb (by rw [hr, ht]) (fun t ht hW => ⟨⟨h, rfl, ⟨hN, hq⟩, by rw [ht]; exact hP, hD⟩, hS.F ht⟩) hS.2.2 d hlk
theorem z_aret (hx : zOk x M n) {N : Nat} {Qr : Nat → List zE → Prop} (hF : zFr x N Qr) {q : Nat} {rt : FieldType} (d : decode M.2.1 pc = .ok (.areturn, 1)) (ht : M.2.2.2 = some rt) (hrt : (∃ n, rt = .object n) ∨ ∃ t, rt = .array t) (hN : h.length = N) (hq : Qr q h) : zV x pc lv [.ref q] h := by
  obtain ⟨p, l, e, R, s, m, args, below, meth, c, D, ca, ad, A, Q⟩ := x
  obtain ⟨hx, hb, hml, hown, hts, hKK, hA, hR, hr, hlk⟩ := hx
  intro H locs ls hl hP hD hS
  have hF : Q = _ := hF
  rw [hF]
  exact W.aret (v := .ref (ad q)) hx hb (by rw [hr, ht]) hrt (Or.inr ⟨_, rfl⟩) (fun t ht hW => ⟨⟨(q, h), ad q, rfl, ⟨hN, hq⟩, rfl, by rw [ht]; exact hP, hD⟩, hS.F ht⟩) hS.2.2 d hlk
end ZST
