/-! what holds at the law's start -/
theorem za_prim {args : Array Value} {s : State} (h : (Cond.arrayClass .int).before args s = true) : ∃ cA, ArrOfT s cA .int ∧ va_RA s cA .int := by
  obtain ⟨cA, kA, comp, h1, h2, h3⟩ := Cond.arrayClass_spec h
  exact ⟨cA, fun n z => ⟨fun k h => (by cases h), kA, h2, comp, h3⟩, h1⟩
theorem za_primZ {args : Array Value} {s : State} (h : (Cond.arrayClass .boolean).before args s = true) : ∃ cA, ArrOfT s cA .boolean ∧ va_RA s cA .boolean := by
  obtain ⟨cA, kA, comp, h1, h2, h3⟩ := Cond.arrayClass_spec h
  exact ⟨cA, fun n z => ⟨fun k h => (by cases h), kA, h2, comp, h3⟩, h1⟩
theorem za_obj {args : Array Value} {s : State} {C : String} (h : (Cond.arrayOver (.object C)).before args s = true) : ∃ cA, ArrOfT s cA (.object C) ∧ va_RA s cA (.object C) := by
  obtain ⟨comp, c, k, h1, h2, h3, h4, h5⟩ := Cond.arrayOver_spec h
  exact ⟨c, fun n z => ⟨fun k h => (by cases h), k, h3, comp, h4⟩, k, comp, h3, h4, h1, h5⟩
theorem za_arr {args : Array Value} {s : State} (h : (Cond.arrayOver (.array .int)).before args s = true) : ∃ cA, ArrOfT s cA (.array .int) ∧ va_RA s cA (.array .int) := by
  obtain ⟨comp, c, k, h1, h2, h3, h4, h5⟩ := arrayOverA_spec h
  exact ⟨c, fun n z => ⟨fun k h => (by cases h), k, h3, comp, h4⟩, h5⟩
theorem zs_NM : ∀ q ∈ zNM, Cond.methodLinkNest q.1 q.2.1 q.2.2.1 q.2.2.2 ∈ lw_tbl := by decide +kernel
theorem zs_NI : ∀ q ∈ zNI, Cond.methodLinkNest q.1 q.2.1 q.2.2.1 q.2.2.2 ∈ lw_tbl := by decide +kernel
theorem zs_NC : ∀ q ∈ zNC, Cond.castable q.1 q.2 ∈ lw_tbl := by decide +kernel
theorem zs_NW : ∀ q ∈ zNW, Cond.castable q RX10 ∈ lw_tbl := by decide +kernel
theorem zs_NN : ∀ q ∈ zNN, Cond.not (Cond.castable q.1 q.2) ∈ flatC (Jvm.Cond.and given_1 narrow_1) := by decide +kernel
theorem zs_D {args : Array Value} {s : State} (hts : ∀ w ∈ lw_tbl, w.before args s = true) : ∃ D : va_G, ∀ (k : Nat) (q : vw_C), vwCl[k]? = some q → u_Kn s q.1 q.2.1 q.2.2 (D.1 k) (D.2 k) := by
  obtain ⟨c0, i0, h0⟩ := u_known (C := RX0) (T := TX0) (N := 5) (n := 5) hts inX0 (hts (.instantiable RX0 5) (by decide +kernel))
  obtain ⟨c1, i1, h1⟩ := u_known (C := RX1) (T := TX1) (N := 0) (n := 0) hts inX1 (hts (.instantiable RX1 0) (by decide +kernel))
  obtain ⟨c2, i2, h2⟩ := u_known (C := RX2) (T := TX2) (N := 0) (n := 0) hts inX2 (hts (.instantiable RX2 0) (by decide +kernel))
  obtain ⟨c3, i3, h3⟩ := u_known (C := RX3) (T := TX3) (N := 0) (n := 0) hts inX3 (hts (.instantiable RX3 0) (by decide +kernel))
  obtain ⟨c4, i4, h4⟩ := u_known (C := RX4) (T := TX4) (N := 12) (n := 12) hts inX4 (hts (.instantiable RX4 12) (by decide +kernel))
  obtain ⟨c5, i5, h5⟩ := u_known (C := RX5) (T := TX5) (N := 3) (n := 3) hts inX5 (hts (.instantiable RX5 3) (by decide +kernel))
  obtain ⟨c6, i6, h6⟩ := u_known (C := RX6) (T := TX6) (N := 0) (n := 0) hts inX6 (hts (.instantiable RX6 0) (by decide +kernel))
  obtain ⟨c7, i7, h7⟩ := u_known (C := RX7) (T := TX7) (N := 0) (n := 0) hts inX7 (hts (.instantiable RX7 0) (by decide +kernel))
  obtain ⟨c8, i8, h8⟩ := u_known (C := RX8) (T := TX8) (N := 3) (n := 3) hts inX8 (hts (.instantiable RX8 3) (by decide +kernel))
  obtain ⟨c9, i9, h9⟩ := u_known (C := RX9) (T := TX9) (N := 6) (n := 6) hts inX9 (hts (.instantiable RX9 6) (by decide +kernel))
  obtain ⟨c10, i10, h10⟩ := u_known (C := RX11) (T := TX11) (N := 9) (n := 9) hts inX11 (hts (.instantiable RX11 9) (by decide +kernel))
  obtain ⟨c11, i11, h11⟩ := u_known (C := RX12) (T := TX12) (N := 22) (n := 22) hts inX12 (hts (.instantiable RX12 22) (by decide +kernel))
  refine ⟨(fun k => [c0, c1, c2, c3, c4, c5, c6, c7, c8, c9, c10, c11].getD k c0, fun k => [i0, i1, i2, i3, i4, i5, i6, i7, i8, i9, i10, i11].getD k i0), fun k q hq => ?_⟩
  match k, hq with
  | 0, hq => cases hq; exact h0
  | 1, hq => cases hq; exact h1
  | 2, hq => cases hq; exact h2
  | 3, hq => cases hq; exact h3
  | 4, hq => cases hq; exact h4
  | 5, hq => cases hq; exact h5
  | 6, hq => cases hq; exact h6
  | 7, hq => cases hq; exact h7
  | 8, hq => cases hq; exact h8
  | 9, hq => cases hq; exact h9
  | 10, hq => cases hq; exact h10
  | 11, hq => cases hq; exact h11
  | k + 12, hq => simp [vwCl] at hq
theorem zs_KK {args : Array Value} {s : State} (hts : ∀ w ∈ lw_tbl, w.before args s = true) (hgv : (Jvm.Cond.and given_1 narrow_1).before args s = true) : ∃ (D : va_G) (ca : Nat → Nat) (a0 a1 : Nat), (∀ ad : Nat → Nat, ad 1000 = a0 → ad 1001 = a1 → zKK D ca ad (fun q : Nat => s.heap.size ≤ q) s s.heap) ∧ zEx s := by
  have hf := flat_of_before _ hgv
  have hA : ∀ a : Nat, a < s.heap.size → ¬ (fun q : Nat => s.heap.size ≤ q) a := fun a h => Nat.not_le.mpr h
  obtain ⟨D, hD⟩ := zs_D hts
  obtain ⟨k0, p0, r0⟩ := za_prim (hts (.arrayClass .int) (by decide +kernel))
  obtain ⟨k1, p1, r1⟩ := za_primZ (hts (.arrayClass .boolean) (by decide +kernel))
  obtain ⟨k2, p2, r2⟩ := za_obj (hts (.arrayOver (.object "TramFaith$Line")) (by decide +kernel))
  obtain ⟨k3, p3, r3⟩ := za_obj (hts (.arrayOver (.object "TramFaith$Waiter")) (by decide +kernel))
  obtain ⟨k4, p4, r4⟩ := za_arr (hts (.arrayOver (.array .int)) (by decide +kernel))
  obtain ⟨aK, aV, hS, hE⟩ := vk_Sof (args := args) (s := s) (N := 1) (tm := fun _ => .string RX9 46) (len := [5]) (byt := [[112, 99, 100, 107, 115]]) (A := fun q : Nat => s.heap.size ≤ q)
    (fun i hi => by rcases (show i = 0 by omega) with rfl; decide) (fun i hi => hf _ (by decide +kernel)) (fun i hi => hf _ (by decide +kernel)) (fun i hi => hf _ (by decide +kernel)) (fun i hi => by rcases (show i = 0 by omega) with rfl; exact hf _ (by decide +kernel))
    (fun i hi j hj => by rcases (show i = 0 by omega) with rfl; have hj : j < 5 := hj; rcases (show j = 0 ∨ j = 1 ∨ j = 2 ∨ j = 3 ∨ j = 4 by omega) with rfl | rfl | rfl | rfl | rfl <;> exact hf _ (by decide +kernel))
    (fun i j hi hj h => absurd (by omega) h) hA
  refine ⟨D, fun k => if k = 0 then k0 else if k = 1 then k1 else if k = 2 then k2 else if k = 3 then k3 else k4, aK 0, aV 0, fun ad e0 e1 => ⟨⟨hD, fun k q hq => ?_⟩, fun q hq => va_Nw.of rfl (hts _ (zs_NM q hq)), fun q hq => va_Nw.of rfl (hts _ (zs_NC q hq)), va_Nw.of rfl (hts (.declares zyH) (by decide +kernel)), fun q hq => va_Nc.of (hf _ (zs_NN q hq)), ?_, ?_, ?_⟩, fun q hq => va_Nw.of rfl (hts _ (zs_NI q hq)), fun q hq => va_Nw.of rfl (hts _ (zs_NW q hq)), va_AO.of (hts (.arrayOver (.object "TramFaith$Line")) (by decide +kernel)), va_AO.of (hts (.arrayOver (.object "TramFaith$Waiter")) (by decide +kernel)), over_moved (Vm.Alike.refl s.vm) (hts (.arrayOver (.array .int)) (by decide +kernel))⟩
  · match k, hq with
    | 0, hq => cases hq; exact ⟨p0, r0⟩
    | 1, hq => cases hq; exact ⟨p1, r1⟩
    | 2, hq => cases hq; exact ⟨p2, r2⟩
    | 3, hq => cases hq; exact ⟨p3, r3⟩
    | 4, hq => cases hq; exact ⟨p4, r4⟩
    | k + 5, hq => simp [ztys] at hq
  · rw [e0]; exact vk_R.of (hts (.stringRef RX9 46 "pcdks") (by decide +kernel)) (hE 0 (by decide))
  · rw [e0, e1]
    exact ⟨fun i hi => by rcases (show i = 0 by omega) with rfl; exact hS.1 0 hi, fun i j hi hj _ => by omega⟩
  · exact va_Zof (hts (.laysStatic "java/lang/String" "COMPACT_STRINGS" "Z") (by decide +kernel)) (hts (.initialized "java/lang/String") (by decide +kernel)) (va_eqt (hf (.eq (.static "java/lang/String" "COMPACT_STRINGS" "Z") (.int 1)) (by decide +kernel))) hA
