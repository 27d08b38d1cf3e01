/-! a line read: alike, and good -/
def zLg (D : zL) : Prop := 2 ≤ lS D ∧ lS D ≤ 8 ∧ lB D ≤ 40 ∧ lP D ≤ 6 ∧ lM D = 0 ∧ ∀ q, q < lP D → 1 ≤ lK D q ∧ lK D q ≤ 5 ∧ lA D q < lS D ∧ lF D q ≤ 20 ∧ lW D q < lS D ∧ lT D q = 0
theorem zLg_Gd {D : zL} (h : zLg D) : zGd D := by
  obtain ⟨h1, h2, h3, h4, h5, h6⟩ := h
  refine ⟨⟨h2, h3, h4, by omega, fun q hq => ?_⟩, by omega, fun q hq => (h6 q hq).2.2.2.1⟩
  have := h6 q hq
  exact ⟨this.1, this.2.1, this.2.2.1, by omega, this.2.2.2.2.1, by omega⟩
theorem zAdd_eq {D E : zL} (h : zEq D E) (k a f w : Nat) : zEq (zAdd D k a f w) (zAdd E k a f w) := by
  obtain ⟨e1, e2, e3, e4⟩ := h.n
  refine ⟨by show (lS D, lB D, lP D + 1, lM D) = (lS E, lB E, lP E + 1, lM E); rw [e1, e2, e3, e4], fun q hq => ?_⟩
  have hq : q < lP D + 1 := hq
  by_cases c : q = lP D
  · subst c
    refine ⟨?_, ?_, ?_, ?_, ?_⟩
    · show zup (lK D) (lP D) k (lP D) = zup (lK E) (lP E) k (lP D); rw [← e3, zup_s, zup_s]
    · show zup (lA D) (lP D) a (lP D) = zup (lA E) (lP E) a (lP D); rw [← e3, zup_s, zup_s]
    · show zup (lF D) (lP D) f (lP D) = zup (lF E) (lP E) f (lP D); rw [← e3, zup_s, zup_s]
    · show zup (lW D) (lP D) w (lP D) = zup (lW E) (lP E) w (lP D); rw [← e3, zup_s, zup_s]
    · show zup (lT D) (lP D) 0 (lP D) = zup (lT E) (lP E) 0 (lP D); rw [← e3, zup_s, zup_s]
  · have h2 := h.2 q (by omega)
    refine ⟨?_, ?_, ?_, ?_, ?_⟩
    · show zup (lK D) (lP D) k q = zup (lK E) (lP E) k q; rw [← e3, zup_n c, zup_n c]; exact h2.1
    · show zup (lA D) (lP D) a q = zup (lA E) (lP E) a q; rw [← e3, zup_n c, zup_n c]; exact h2.2.1
    · show zup (lF D) (lP D) f q = zup (lF E) (lP E) f q; rw [← e3, zup_n c, zup_n c]; exact h2.2.2.1
    · show zup (lW D) (lP D) w q = zup (lW E) (lP E) w q; rw [← e3, zup_n c, zup_n c]; exact h2.2.2.2.1
    · show zup (lT D) (lP D) 0 q = zup (lT E) (lP E) 0 q; rw [← e3, zup_n c, zup_n c]; exact h2.2.2.2.2
theorem zAdd_lg {D : zL} (h : zLg D) (h6 : lP D < 6) {k a f w : Nat} (hk : 1 ≤ k ∧ k ≤ 5) (ha : a < lS D) (hf : f ≤ 20) (hw : w < lS D) : zLg (zAdd D k a f w) := by
  obtain ⟨h1, h2, h3, h4, h5, h7⟩ := h
  refine ⟨h1, h2, h3, by show lP D + 1 ≤ 6; omega, h5, fun q hq => ?_⟩
  have hq : q < lP D + 1 := hq
  show 1 ≤ zup (lK D) (lP D) k q ∧ zup (lK D) (lP D) k q ≤ 5 ∧ zup (lA D) (lP D) a q < lS D ∧ zup (lF D) (lP D) f q ≤ 20 ∧ zup (lW D) (lP D) w q < lS D ∧ zup (lT D) (lP D) 0 q = 0
  by_cases c : q = lP D
  · rw [c, zup_s, zup_s, zup_s, zup_s, zup_s]; exact ⟨hk.1, hk.2, ha, hf, hw, rfl⟩
  · rw [zup_n c, zup_n c, zup_n c, zup_n c, zup_n c]; exact h7 q (by omega)
section ZP6
variable {ls : Nat → Nat} {sz S p : Nat}
theorem zP6_all (h : (zP6 ls sz S (p, 0)).2 = 0) : (zFgs ls sz 0 (S - 1) (p, 0)).2 = 0 ∧ ∃ p2 p4, zP2 ls sz S (p, 0) = (p2, 0) ∧ (zFgs ls sz 0 20 (p2, 0)).2 = 0 ∧ zP4 ls sz S (p, 0) = (p4, 0) ∧ (zFgs ls sz 0 (S - 1) (p4, 0)).2 = 0 := by
  have a5 : (zP5 ls sz S (p, 0)).2 = 0 := Classical.byContradiction fun q => q (by rw [← zP6_5 q]; exact h)
  have a4 : (zP4 ls sz S (p, 0)).2 = 0 := Classical.byContradiction fun q => q (by rw [← zP6_4 q]; exact h)
  have a3 : (zP3 ls sz S (p, 0)).2 = 0 := Classical.byContradiction fun q => q (by rw [← zP6_3 q]; exact h)
  have a2 : (zP2 ls sz S (p, 0)).2 = 0 := Classical.byContradiction fun q => q (by rw [← zP6_2 q]; exact h)
  have a1 : (zP1 ls sz S (p, 0)).2 = 0 := Classical.byContradiction fun q => q (by rw [← zP6_1 q]; exact h)
  refine ⟨a1, (zP2 ls sz S (p, 0)).1, (zP4 ls sz S (p, 0)).1, zst_0 a2, ?_, zst_0 a4, ?_⟩
  · rw [← zst_0 a2]; exact a3
  · rw [← zst_0 a4]; exact a5
theorem zPA_lg {D : zL} (h : zLg D) (h6 : lP D < 6) {k : Nat} (hk : 1 ≤ k ∧ k ≤ 5) (h0 : (zP6 ls sz (lS D) (p, 0)).2 = 0) : zLg (zPA ls sz D k (p, 0)) := by
  obtain ⟨b1, p2, p4, b2, b3, b4, b5⟩ := zP6_all h0
  have c1 := zFgv_ok b1
  have c3 := zFgv_ok b3
  have c5 := zFgv_ok b5
  have hS := h.1
  unfold zPA
  rw [b2, b4]
  exact zAdd_lg h h6 hk (by omega) c3.2 (by omega)
end ZP6
theorem zPp_eq {ls : Nat → Nat} {sz : Nat} {D E : zL} (h : zEq D E) (st : zSt) : (zPp ls sz D st).2 = (zPp ls sz E st).2 ∧ zEq (zPp ls sz D st).1 (zPp ls sz E st).1 := by
  obtain ⟨e1, e2, e3, e4⟩ := h.n
  by_cases h6 : lP D < 6
  · have h6' : lP E < 6 := by rw [← e3]; exact h6
    by_cases h7 : (zP6 ls sz (lS D) (st.1 + 1, 0)).2 = 0
    · have h7' : (zP6 ls sz (lS E) (st.1 + 1, 0)).2 = 0 := by rw [← e1]; exact h7
      rw [zPp_y h6 h7, zPp_y h6' h7']
      refine ⟨by rw [e1], ?_⟩
      show zEq (zPA ls sz D _ _) (zPA ls sz E _ _)
      unfold zPA
      rw [e1]
      exact zAdd_eq h _ _ _ _
    · have h7' : ¬ (zP6 ls sz (lS E) (st.1 + 1, 0)).2 = 0 := by rw [← e1]; exact h7
      rw [zPp_n h6 h7, zPp_n h6' h7']
      exact ⟨by rw [e1], h⟩
  · have h6' : ¬ lP E < 6 := by rw [← e3]; exact h6
    rw [zPp_3 h6, zPp_3 h6']
    exact ⟨rfl, h⟩
theorem zPpl_eq {ls : Nat → Nat} {sz : Nat} : ∀ n {D E : zL} (_ : zEq D E) (st : zSt), (zPpl ls sz n (D, st)).2 = (zPpl ls sz n (E, st)).2 ∧ zEq (zPpl ls sz n (D, st)).1 (zPpl ls sz n (E, st)).1
  | 0, D, E, h, st => ⟨rfl, h⟩
  | n + 1, D, E, h, st => by
    by_cases hm : zMor ls sz st
    · rw [zPpl_t hm, zPpl_t hm]
      have h2 := zPp_eq (ls := ls) (sz := sz) h st
      have h3 := zPpl_eq (ls := ls) (sz := sz) n h2.2 (zPp ls sz D st).2
      generalize hA : zPp ls sz D st = A at h2 h3
      generalize hB : zPp ls sz E st = B at h2 h3
      obtain ⟨A1, A2⟩ := A
      obtain ⟨B1, B2⟩ := B
      have e : A2 = B2 := h2.1
      subst e
      exact h3
    · rw [zPpl_f hm, zPpl_f hm]; exact ⟨rfl, h⟩
theorem zPpl_lg {ls : Nat → Nat} {sz : Nat} : ∀ n {D : zL} (_ : zLg D) (st : zSt), zLg (zPpl ls sz n (D, st)).1
  | 0, D, h, st => h
  | n + 1, D, h, st => by
    by_cases hm : zMor ls sz st
    · rw [zPpl_t hm]
      have h2 : zLg (zPp ls sz D st).1 := by
        by_cases h6 : lP D < 6
        · by_cases h7 : (zP6 ls sz (lS D) (st.1 + 1, 0)).2 = 0
          · rw [zPp_y h6 h7]
            exact zPA_lg h h6 ⟨hm.2.2, zKd_le _⟩ h7
          · rw [zPp_n h6 h7]; exact h
        · rw [zPp_3 h6]; exact h
      exact zPpl_lg n h2 (zPp ls sz D st).2
    · rw [zPpl_f hm]; exact h
/-- class and reference read alike -/
theorem zLi_eq (ls : Nat → Nat) (sz : Nat) (P : zL) : (zLi ls sz P).2 = (zPe ls sz 7 (zD0 (zLS ls sz) (zLB ls sz)) (zL5 ls sz)).2 ∧ ((zLi ls sz P).2.2 = 0 → zEq (zLi ls sz P).1 (zPe ls sz 7 (zD0 (zLS ls sz) (zLB ls sz)) (zL5 ls sz)).1 ∧ zLg (zLi ls sz P).1) := by
  by_cases h : (zL5 ls sz).2 = 0
  · have hs := zLS_ok h
    rw [zLi_t h]
    have e := zst_0 h
    generalize hq : zL5 ls sz = s5 at h e ⊢
    rw [e]
    have hE : zEq ((zLS ls sz, zLB ls sz, 0, 0), lK P, lA P, lF P, lW P, lT P) (zD0 (zLS ls sz) (zLB ls sz)) := ⟨rfl, fun q hq => absurd hq (by show ¬ q < 0; omega)⟩
    have h2 := zPpl_eq (ls := ls) (sz := sz) 7 hE (s5.1, 0)
    have h3 : zLg ((zLS ls sz, zLB ls sz, 0, 0), lK P, lA P, lF P, lW P, lT P) := ⟨hs.1, hs.2.1, hs.2.2, by show 0 ≤ 6; decide, rfl, fun q hq => absurd hq (by show ¬ q < 0; omega)⟩
    refine ⟨?_, fun _ => ⟨h2.2, zPpl_lg 7 h3 _⟩⟩
    show zEnd sz (zPpl ls sz 7 _).2 = zEnd sz (zPpl ls sz 7 _).2
    rw [h2.1]
  · rw [zLi_f h, zPe_x h]
    exact ⟨rfl, fun q => absurd q h⟩
