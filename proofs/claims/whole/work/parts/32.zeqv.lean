/-! two lines that are the same as far as there are people -/
def zEq (L M : zL) : Prop := L.1 = M.1 ∧ ∀ q, q < lP L → lK L q = lK M q ∧ lA L q = lA M q ∧ lF L q = lF M q ∧ lW L q = lW M q ∧ lT L q = lT M q
theorem zEq.n {L M : zL} (h : zEq L M) : lS L = lS M ∧ lB L = lB M ∧ lP L = lP M ∧ lM L = lM M := by
  obtain ⟨h1, -⟩ := h
  unfold lS lB lP lM
  rw [h1]
  exact ⟨rfl, rfl, rfl, rfl⟩
theorem zEq.symm {L M : zL} (h : zEq L M) : zEq M L := ⟨h.1.symm, fun q hq => by
  have h2 := h.2 q (by rw [h.n.2.2.1]; exact hq)
  exact ⟨h2.1.symm, h2.2.1.symm, h2.2.2.1.symm, h2.2.2.2.1.symm, h2.2.2.2.2.symm⟩⟩
theorem zEq_Wf {L M : zL} (h : zEq L M) (hw : zWf L) : zWf M := by
  obtain ⟨w1, w2, w3, w4, w5⟩ := hw
  obtain ⟨e1, e2, e3, e4⟩ := h.n
  refine ⟨by omega, by omega, by omega, by omega, fun q hq => ?_⟩
  have h2 := h.2 q (by omega)
  have w6 := w5 q (by omega)
  rw [← h2.1, ← h2.2.1, ← h2.2.2.1, ← h2.2.2.2.1, ← h2.2.2.2.2, ← e1]
  exact w6
theorem zTh_eq {L M : zL} (h : zEq L M) : ∀ n, n ≤ lP L → zTh L n = zTh M n
  | 0, _ => rfl
  | n + 1, hn => by
    have h2 := h.2 n (by omega)
    rw [zTh, zTh, zTh_eq h n (by omega), h2.2.1, h2.2.2.2.1]
theorem zWh_eq {L M : zL} (h : zEq L M) (k : Nat) : ∀ n, n ≤ lP L → zWh L k n = zWh M k n
  | 0, _ => rfl
  | n + 1, hn => by
    have h2 := h.2 n (by omega)
    rw [zWh, zWh, zWh_eq h k n (by omega), h2.2.1]
theorem zCn_eq {L M : zL} (h : zEq L M) (k : Nat) : ∀ n, n ≤ lP L → zCn L n k = zCn M n k
  | 0, _ => rfl
  | n + 1, hn => by
    have h2 := h.2 n (by omega)
    rw [zCn, zCn, zCn_eq h k n (by omega), h2.2.1]
theorem zHp_eq {L M : zL} (h : zEq L M) {q : Nat} (hq : q < lP L) : zHp L q = zHp M q := by
  have h2 := h.2 q hq
  unfold zHp
  rw [h2.1, h2.2.1, h2.2.2.1, h2.2.2.2.2, zCn_eq h _ _ (Nat.le_refl _), h.n.2.2.1]
theorem zHo_eq {L M : zL} (h : zEq L M) (but k : Nat) : ∀ n, n ≤ lP L → zHo L but n k = zHo M but n k
  | 0, _ => rfl
  | n + 1, hn => by
    have h2 := h.2 n (by omega)
    rw [zHo, zHo, zHo_eq h but k n (by omega), h2.2.1, zHp_eq h (by omega)]
theorem zHs_eq {L M : zL} (h : zEq L M) (but k : Nat) : zHs L but k = zHs M but k := by
  unfold zHs
  rw [zHo_eq h but k _ (Nat.le_refl _), h.n.2.2.1]
theorem zMx_eq {L M : zL} (h : zEq L M) (but : Nat) : ∀ k, zMx L but k = zMx M but k
  | 0 => rfl
  | k + 1 => by rw [zMx, zMx, zMx_eq h but k, zHs_eq h]
theorem zBs_eq {L M : zL} (h : zEq L M) (but : Nat) : ∀ k, zBs L but k = zBs M but k
  | 0 => rfl
  | k + 1 => by rw [zBs, zBs, zBs_eq h but k, zMx_eq h, zHs_eq h]
theorem zTr_eq {L M : zL} (h : zEq L M) (but : Nat) : zTr L but = zTr M but := by
  unfold zTr
  rw [h.n.1, h.n.2.1, zMx_eq h, zBs_eq h]
theorem zHd_eq {L M : zL} (h : zEq L M) : ∀ k, zHd L k = zHd M k
  | 0 => rfl
  | k + 1 => by rw [zHd, zHd, zHd_eq h k, zHs_eq h, h.n.2.1]
theorem zMv1_eq {L M : zL} (h : zEq L M) (wk : Nat) {q : Nat} (hq : q < lP L) : zMv1 L wk q ↔ zMv1 M wk q := by
  have h2 := h.2 q hq
  unfold zMv1
  rw [h2.2.1, h2.2.2.2.1, zTr_eq h]
theorem zPs_eq {L M : zL} (h : zEq L M) (wk : Nat) : zEq (zPs L wk) (zPs M wk) := by
  obtain ⟨e1, e2, e3, e4⟩ := h.n
  refine ⟨by show (lS L, lB L, lP L, lM L + 1) = (lS M, lB M, lP M, lM M + 1); rw [e1, e2, e3, e4], fun q hq => ?_⟩
  have hq : q < lP L := hq
  have h2 := h.2 q hq
  have h3 := zMv1_eq h wk hq
  refine ⟨h2.1, ?_, h2.2.2.1, h2.2.2.2.1, ?_⟩
  · show zPa L wk (lP L) q = zPa M wk (lP M) q
    unfold zPa
    by_cases c : zMv1 L wk q
    · rw [zIf_t ⟨hq, c⟩, zIf_t ⟨by omega, h3.mp c⟩, h2.2.1, h2.2.2.2.1]
    · rw [zIf_f (fun z => c z.2), zIf_f (fun z => c (h3.mpr z.2)), h2.2.1]
  · show zPt L wk (lP L) q = zPt M wk (lP M) q
    unfold zPt
    simp only [if_pos hq, if_pos (show q < lP M by omega)]
    by_cases c : zMv1 L wk q
    · rw [zIf_t c, zIf_t (h3.mp c)]
    · rw [zIf_f c, zIf_f (fun z => c (h3.mpr z)), h2.2.2.2.2]
theorem zIt_eq {L M : zL} (h : zEq L M) (wk : Nat) : ∀ d, zEq (zIt L wk d) (zIt M wk d)
  | 0 => h
  | d + 1 => zPs_eq (zIt_eq h wk d) wk
theorem zAl_eq {L M : zL} (h : zEq L M) (wk pp d : Nat) : zAl L wk pp d ↔ zAl M wk pp d := by
  have h2 := zIt_eq h wk d
  unfold zAl
  rw [zTh_eq h2 _ (by rw [(zIt_P L wk d).1]; exact Nat.le_refl _), h.n.2.2.1]
theorem zFs_eq {c d : Nat → Prop} (h : ∀ k, c k ↔ d k) (a n : Nat) : zFs c a n = zFs d a n := by rw [show c = d from funext fun k => propext (h k)]
theorem zFb_eq {c d : Nat → Prop} : ∀ n, (∀ k, k < n → (c k ↔ d k)) → zFb c n = zFb d n
  | 0, _ => rfl
  | n + 1, h => by
    have h1 := zFb_eq n (fun k hk => h k (by omega))
    unfold zFb
    rw [h1]
    cases zFb d n with
    | some j => rfl
    | none =>
      by_cases hc : c n
      · rw [if_pos hc, if_pos ((h n (by omega)).mp hc)]
      · rw [if_neg hc, if_neg (fun z => hc ((h n (by omega)).mpr z))]
theorem zup_at {f g : Nat → Nat} {q v j : Nat} (h : f j = g j) : zup f q v j = zup g q v j := by unfold zup; split <;> first | rfl | exact h
theorem lsF_eq {L M : zL} (h : zEq L M) (q v : Nat) : zEq (lsF L q v) (lsF M q v) := ⟨h.1, fun p hp => by
  have h2 := h.2 p hp
  exact ⟨h2.1, h2.2.1, zup_at h2.2.2.1, h2.2.2.2.1, h2.2.2.2.2⟩⟩
theorem lsK_eq {L M : zL} (h : zEq L M) (q v : Nat) : zEq (lsK L q v) (lsK M q v) := ⟨h.1, fun p hp => by
  have h2 := h.2 p hp
  exact ⟨zup_at h2.1, h2.2.1, h2.2.2.1, h2.2.2.2.1, h2.2.2.2.2⟩⟩
theorem lsW_eq {L M : zL} (h : zEq L M) (q v : Nat) : zEq (lsW L q v) (lsW M q v) := ⟨h.1, fun p hp => by
  have h2 := h.2 p hp
  exact ⟨h2.1, h2.2.1, h2.2.2.1, zup_at h2.2.2.2.1, h2.2.2.2.2⟩⟩
theorem lsA_eq {L M : zL} (h : zEq L M) (q v : Nat) : zEq (lsA L q v) (lsA M q v) := ⟨h.1, fun p hp => by
  have h2 := h.2 p hp
  exact ⟨h2.1, zup_at h2.2.1, h2.2.2.1, h2.2.2.2.1, h2.2.2.2.2⟩⟩
theorem lsT_eq {L M : zL} (h : zEq L M) (q v : Nat) : zEq (lsT L q v) (lsT M q v) := ⟨h.1, fun p hp => by
  have h2 := h.2 p hp
  exact ⟨h2.1, h2.2.1, h2.2.2.1, h2.2.2.2.1, zup_at h2.2.2.2.2⟩⟩
theorem lsB_eq {L M : zL} (h : zEq L M) (v : Nat) : zEq (lsB L v) (lsB M v) := by
  obtain ⟨e1, e2, e3, e4⟩ := h.n
  exact ⟨by show (lS L, v, lP L, lM L) = (lS M, v, lP M, lM M); rw [e1, e3, e4], h.2⟩
theorem zTo_eq {L M : zL} (h : zEq L M) (g : Nat → Int32) (n : Nat) : zTo L g n ↔ zTo M g n := by
  unfold zTo
  constructor
  · intro q k hk; rw [← zTr_eq (zIt_eq h 0 k)]; exact q k hk
  · intro q k hk; rw [zTr_eq (zIt_eq h 0 k)]; exact q k hk
theorem zBi_eq {c d : Nat → Prop} : ∀ n, (∀ k, k < n → (c k ↔ d k)) → zBi c n = zBi d n
  | 0, _ => rfl
  | n + 1, h => by
    rw [zBi, zBi, zBi_eq n (fun k hk => h k (by omega))]
    by_cases hc : c n
    · rw [zIf_t hc, zIf_t ((h n (by omega)).mp hc)]
    · rw [zIf_f hc, zIf_f (fun z => hc ((h n (by omega)).mpr z))]
theorem inP_nat {p : Nat} {v : Int32} (h : inP p v) (hp : p < 2147483648) : zNat v < p := by
  obtain ⟨j, hj, rfl⟩ := h
  rw [zNat_nI (by omega)]
  exact hj
theorem zII_c {c d : Prop} {a b a' b' : Int32} (h : c ↔ d) (h1 : c → a = a') (h2 : b = b') : zII c a b = zII d a' b' := by
  by_cases hc : c
  · rw [zII_t hc, zII_t (h.mp hc), h1 hc]
  · rw [zII_f hc, zII_f (fun z => hc (h.mpr z)), h2]
theorem aWhere_eq {L M : zL} (h : zEq L M) (hw : zWf L) (v w : Int32) : aWhere L v w = aWhere M v w := by
  unfold aWhere
  refine zII_c (by rw [h.n.2.2.1]) (fun c => ?_) rfl
  rw [((zIt_eq h 0 (zNat w)).2 (zNat v) (by rw [(zIt_P L 0 _).1]; exact inP_nat c.1 (by have := hw.2.2.1; omega))).2.1]
theorem aTram_eq {L M : zL} (h : zEq L M) (w : Int32) : aTram L w = aTram M w := by
  unfold aTram
  rw [h.n.1, zTr_eq (zIt_eq h 0 _)]
theorem aThere_eq {L M : zL} (h : zEq L M) (w : Int32) : aThere L w = aThere M w := by
  unfold aThere
  rw [h.n.1, zTh_eq (zIt_eq h 0 _) _ (by rw [(zIt_P L 0 _).1]; exact Nat.le_refl _), h.n.2.2.1]
theorem aWhen_eq {L M : zL} (h : zEq L M) (v : Int32) : aWhen L v = aWhen M v := by
  unfold aWhen
  rw [h.n.2.2.1, zFs_eq (zAl_eq h 0 _)]
theorem aAll_eq {L M : zL} (h : zEq L M) : aAll L = aAll M := by
  unfold aAll
  rw [h.n.2.2.1, h.n.1, zFs_eq (zAl_eq h 0 _)]
theorem aNever_eq {L M : zL} (h : zEq L M) : aNever L = aNever M := by
  unfold aNever
  rw [h.n.1, zTh_eq (zIt_eq h 0 _) _ (by rw [(zIt_P L 0 _).1]; exact Nat.le_refl _), h.n.2.2.1]
theorem aHold_eq {L M : zL} (h : zEq L M) : aHold L = aHold M := by
  unfold aHold
  rw [h.n.1, zHd_eq h]
theorem aKind_eq {L M : zL} (h : zEq L M) (hw : zWf L) (v : Int32) : aKind L v = aKind M v := by
  unfold aKind
  refine zII_c (by rw [h.n.2.2.1]) (fun c => ?_) rfl
  rw [(h.2 (zNat v) (inP_nat c (by have := hw.2.2.1; omega))).1]
theorem aStop_eq {L M : zL} (h : zEq L M) (v w : Int32) : aStop L v w = aStop M v w := by
  unfold aStop
  rw [h.n.1, zHs_eq h, zWh_eq h _ _ (Nat.le_refl _), h.n.2.2.1]
theorem aPerson_eq {L M : zL} (h : zEq L M) (hw : zWf L) (v w : Int32) : aPerson L v w = aPerson M v w := by
  unfold aPerson
  refine zII_c (by rw [h.n.2.2.1]) (fun c => ?_) rfl
  have hq := inP_nat c.1 (by have := hw.2.2.1; omega)
  have h2 := h.2 _ hq
  rw [h2.2.1, h2.2.2.1, h2.2.2.2.1, h2.2.2.2.2, zHp_eq h hq]
