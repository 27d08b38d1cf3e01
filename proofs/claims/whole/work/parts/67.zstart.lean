/-- the cells that the class's constructor leaves, and the reference's -/
def zcC : List zE := [zO 10 [.ref 7, .ref 19, .ref 21, .ref 29, .ref 37, .ref 54, .ref 56, .int 0, .int 0], zR 3 [.ref 2, .ref 3, .ref 4, .ref 5, .ref 6], zO 6 [], zO 2 [], zO 3 [], zO 1 [], zO 7 [], zO 8 [.ref 8, .ref 17, .ref 18], zR 4 [.ref 9, .ref 10, .ref 11, .ref 12, .ref 13, .ref 14, .ref 15, .ref 16], zI 40 (fun _ => 0), zI 40 (fun _ => 0), zI 40 (fun _ => 0), zI 40 (fun _ => 0), zI 40 (fun _ => 0), zI 40 (fun _ => 0), zI 40 (fun _ => 0), zI 40 (fun _ => 0), zI 8 (fun _ => 0), zI 8 (fun _ => -1), zO 9 [.int 0, .int 0, .int 0, .ref 20, .int 0, .int 0], zI 100 (fun _ => 0), zO 4 [.int 0, .int 0, .int 0, .int 0, .ref 22, .ref 23, .ref 24, .ref 25, .ref 26, .ref 1, .ref 27, .ref 28], zI 6 (fun _ => 0), zI 6 (fun _ => 0), zI 6 (fun _ => 0), zI 6 (fun _ => 0), zI 6 (fun _ => 0), zI 8 (fun _ => 0), zI 8 (fun _ => 0), zO 4 [.int 0, .int 0, .int 0, .int 0, .ref 30, .ref 31, .ref 32, .ref 33, .ref 34, .ref 1, .ref 35, .ref 36], zI 6 (fun _ => 0), zI 6 (fun _ => 0), zI 6 (fun _ => 0), zI 6 (fun _ => 0), zI 6 (fun _ => 0), zI 8 (fun _ => 0), zI 8 (fun _ => 0), zR 2 [.ref 38, .ref 46], zO 4 [.int 0, .int 0, .int 0, .int 0, .ref 39, .ref 40, .ref 41, .ref 42, .ref 43, .ref 1, .ref 44, .ref 45], zI 6 (fun _ => 0), zI 6 (fun _ => 0), zI 6 (fun _ => 0), zI 6 (fun _ => 0), zI 6 (fun _ => 0), zI 8 (fun _ => 0), zI 8 (fun _ => 0), zO 4 [.int 0, .int 0, .int 0, .int 0, .ref 47, .ref 48, .ref 49, .ref 50, .ref 51, .ref 1, .ref 52, .ref 53], zI 6 (fun _ => 0), zI 6 (fun _ => 0), zI 6 (fun _ => 0), zI 6 (fun _ => 0), zI 6 (fun _ => 0), zI 8 (fun _ => 0), zI 8 (fun _ => 0), zO 5 [.int 0, .int 0, .ref 55], zI 600 (fun _ => 0), zO 0 [.int 0, .int 0, .int 0, .int 0, .ref 57], zI 16 (fun _ => 0)]
def zcM : List zE := [zO 11 [.ref 1, .ref 2, .ref 3, .ref 4, .int 0, .ref 5, .int 0, .int 0, .int 0, .int 0, .int 0, .int 0, .int 0, .ref 6, .ref 7, .ref 8, .ref 9, .int 0, .ref 10, .ref 11, .ref 12, .int 0], zI 8 (fun _ => -1000000), zI 8 (fun _ => 0), zI 320 (fun _ => 0), zI 40 (fun _ => 0), zI 100 (fun _ => 0), zI 34 (fun _ => 0), zI 34 (fun _ => 0), zI 34 (fun _ => 0), zI 816 (fun _ => 0), zI 68 (fun _ => 0), zZ 2 (fun _ => 0), zI 16 (fun _ => 0)]
def zpC : List Nat := [0, 7, 8, 17, 18, 9, 10, 11, 12, 13, 14, 15, 16, 19, 20, 21, 22, 23, 24, 25, 26, 27, 28, 29, 30, 31, 32, 33, 34, 35, 36, 37, 38, 39, 40, 41, 42, 43, 44, 45, 46, 47, 48, 49, 50, 51, 52, 53, 54, 55, 56, 57, 1, 2, 3, 4, 5, 6]
abbrev zL0 : zL := ((0, 0, 0, 0), fun _ => 0, fun _ => 0, fun _ => 0, fun _ => 0, fun _ => 0)
abbrev zk0 : zLk := (zL0, fun _ => 0, fun _ => 0)
def zhC : List zE := hC ((fun _ => 0, fun _ => none, fun _ _ => 0), (0, 0, 0, fun _ => 0, 0, 0), zk0, zk0, (zk0, zk0), (0, 0, fun _ => 0), (0, 0, 0, 0, fun _ => 0), (0, 0))
def zhM : List zE := hMr (mLa (fun _ => 0) (fun _ => none)) (fun _ => 0) (mIt (fun _ _ => 0)) (fun _ => 0) 0 (fun _ => 0, 0, 0, 0, 0, 0, 0, 0) zL0 (fun _ => 0) (fun _ => 0) (fun _ => 0, 0, fun _ => 0, fun _ => 0) (fun _ => 0, 0)
theorem zsubC : zsub zcC zpC zhC := rfl
theorem zfl0 : fl zL0 = fun _ => 0 := by
  funext j
  unfold fl
  repeat (split; rfl)
  rfl
theorem zcM_eq : zcM = zhM := by
  unfold zhM hMr
  rw [zfl0]
  rfl
theorem zRel0 : zRel zhC zhM := by
  refine zRel_mk (R := (fun _ => 0, fun _ => none, fun _ _ => 0)) (y := (0, 0, fun _ => 0)) (a := (0, 0, 0, 0, fun _ => 0)) (p := zk0) (i := (zk0, zk0)) (L := zL0) (M := zL0) (ps := fun _ => 0) (im := fun _ => 0) (ke := fun _ => 0) ⟨⟨(fun j n h => by cases h), (fun j => Nat.zero_le _), (fun j s h => by cases h)⟩, ⟨Nat.zero_le _, fun j => Nat.zero_le _⟩, ⟨⟨⟨Nat.zero_le _, Nat.zero_le _, Nat.zero_le _, Nat.zero_le _, fun q hq => absurd hq (Nat.not_lt_zero q)⟩, Nat.zero_le _, fun q hq => absurd hq (Nat.not_lt_zero q)⟩, zEq.refl _⟩, ⟨Nat.zero_le _, by decide⟩, Nat.zero_le _, fun k hk => absurd hk (Nat.not_lt_zero k), fun k hk => Or.inl ⟨rfl, ?_⟩⟩
  rcases (show k = 0 ∨ k = 1 by omega) with rfl | rfl <;> rfl
theorem zLD.of {s : State} {ad ca : Nat → Nat} {n : Nat} {A : Nat → Prop} {u : List zE} (hD : va_D A (zcw ad ca u)) (hA : ∀ q, A q → s.heap.size ≤ q) (hu : u.length = n) : zLD s ad n := by
  refine ⟨fun i j hi hj e => ?_, fun i hi => ?_⟩
  · exact hD.1 i j _ _ (zcw_get (List.getElem?_eq_getElem (by omega))) (zcw_get (List.getElem?_eq_getElem (by omega))) e
  · exact hA _ (hD.2 i _ (zcw_get (List.getElem?_eq_getElem (by omega))))
def zadd (a0 a1 q : Nat) : Nat → Nat := fun j => if j = 1000 then a0 else if j = 1001 then a1 else q
