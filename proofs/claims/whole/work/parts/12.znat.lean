/-! small numbers: nI forms of the steps; booleans by a statement -/
noncomputable def bP (c : Prop) : Int32 := @ite _ c (Classical.propDecidable c) 1 0
theorem bP_t {c : Prop} (h : c) : bP c = 1 := by unfold bP; rw [if_pos h]
theorem bP_f {c : Prop} (h : ¬ c) : bP c = 0 := by unfold bP; rw [if_neg h]
theorem bP_nar (c : Prop) : narrow .boolean (.int (bP c)) = .int (bP c) := by
  by_cases h : c
  · rw [bP_t h]; rfl
  · rw [bP_f h]; rfl
theorem bP_0 {c : Prop} : bP c = 0 ↔ ¬ c := by
  by_cases h : c
  · rw [bP_t h]; simp [h]
  · rw [bP_f h]; simp [h]
theorem bP_c {c d : Prop} (h : c ↔ d) : bP c = bP d := by rw [propext h]
def zup (f : Nat → Nat) (k v : Nat) : Nat → Nat := fun j => if j = k then v else f j
theorem zup_s {f : Nat → Nat} {k v : Nat} : zup f k v k = v := if_pos rfl
theorem zup_n {f : Nat → Nat} {k v j : Nat} (h : j ≠ k) : zup f k v j = f j := if_neg h
theorem zup_nI (f : Nat → Nat) (k v : Nat) : upd (fun j => nI (f j)) k (nI v) = fun j => nI (zup f k v j) := by
  funext j
  unfold upd zup
  split <;> rfl
theorem nI_cl {n : Nat} (h : n < 2147483648) : (nI n).toNatClampNeg = n := nI_clamp (by omega)
theorem nI_or (a b : Nat) : nI a ||| nI b = nI (a ||| b) := by
  unfold nI
  apply Int32.toBitVec_inj.mp
  simp [Int32.toBitVec_or, Int32.toBitVec_ofNat, BitVec.ofNat_or]
theorem nI_and (a b : Nat) : nI a &&& nI b = nI (a &&& b) := by
  unfold nI
  apply Int32.toBitVec_inj.mp
  simp [Int32.toBitVec_and, Int32.toBitVec_ofNat, BitVec.ofNat_and]
theorem nI_sc : ∀ n, n < 32 → ((nI n &&& 31).toBitVec.smod 32).toNat = n := by decide +kernel
theorem nI_shl (a : Nat) {b : Nat} (hb : b < 32) : nI a <<< (nI b &&& 31) = nI (a * 2 ^ b) := by
  apply Int32.toBitVec_inj.mp
  apply BitVec.eq_of_toNat_eq
  rw [pk_shl _ _ b (nI_sc b hb)]
  have e : ∀ n : Nat, (nI n).toBitVec.toNat = n % 2 ^ 32 := fun n => by simp [nI, Int32.toBitVec_ofNat]
  rw [e, e, Nat.mod_mul_mod]
theorem nI_shr {a b : Nat} (ha : a < 2147483648) (hb : b < 32) : nI a >>> (nI b &&& 31) = nI (a / 2 ^ b) := pk_shrN (by omega) _ b (nI_sc b hb)
theorem nI_lt0 {a : Nat} (h : a < 2147483648) : ¬ nI a < 0 := nI_pos (by omega)
section ZN
variable {x : zC} {M : zM} {n pc : Nat} {lv lv' : List (Option Value)} {st st' : List Value} {h h' : List zE}
theorem z_eq (e1 : lv = lv') (e2 : st = st') (e3 : h = h') (k : zV x pc lv' st' h') : zV x pc lv st h := by subst e1; subst e2; subst e3; exact k
theorem z_top {a b : Int32} (e : a = b) (k : zV x pc lv (.int b :: st) h) : zV x pc lv (.int a :: st) h := by subst e; exact k
theorem z_topN {a b : Nat} (e : a = b) (k : zV x pc lv (.int (nI b) :: st) h) : zV x pc lv (.int (nI a) :: st) h := by subst e; exact k
theorem z_heap (e : h = h') (k : zV x pc lv st h') : zV x pc lv st h := by subst e; exact k
theorem z_iaddN (hx : zOk x M n) {a b : Nat} (d : decode M.2.1 pc = .ok (.iadd, 1)) (k : zV x (pc + 1) lv (.int (nI (a + b)) :: st) h) : zV x pc lv (.int (nI b) :: .int (nI a) :: st) h :=
  z_iadd hx d (z_top (nI_add a b) k)
theorem z_isubN (hx : zOk x M n) {a b : Nat} (d : decode M.2.1 pc = .ok (.isub, 1)) (hb : b ≤ a) (k : zV x (pc + 1) lv (.int (nI (a - b)) :: st) h) : zV x pc lv (.int (nI b) :: .int (nI a) :: st) h :=
  z_isub hx d (z_top (pk_sub hb) k)
theorem z_imulN (hx : zOk x M n) {a b : Nat} (d : decode M.2.1 pc = .ok (.imul, 1)) (k : zV x (pc + 1) lv (.int (nI (a * b)) :: st) h) : zV x pc lv (.int (nI b) :: .int (nI a) :: st) h :=
  z_imul hx d (z_top (pk_mul a b) k)
theorem z_idivN (hx : zOk x M n) {a b : Nat} (d : decode M.2.1 pc = .ok (.idiv, 1)) (ha : a < 2147483648) (hb : 0 < b) (hb2 : b < 2147483648) (k : zV x (pc + 1) lv (.int (nI (a / b)) :: st) h) : zV x pc lv (.int (nI b) :: .int (nI a) :: st) h :=
  z_idiv hx d (nI_ne0 hb (by omega)) (z_top (pk_div (by omega) hb (by omega)) k)
theorem z_iremN (hx : zOk x M n) {a b : Nat} (d : decode M.2.1 pc = .ok (.irem, 1)) (ha : a < 2147483648) (hb : 0 < b) (hb2 : b < 2147483648) (k : zV x (pc + 1) lv (.int (nI (a % b)) :: st) h) : zV x pc lv (.int (nI b) :: .int (nI a) :: st) h :=
  z_irem hx d (nI_ne0 hb (by omega)) (z_top (pk_rem (by omega) hb (by omega)) k)
theorem z_ishlN (hx : zOk x M n) {a b : Nat} (d : decode M.2.1 pc = .ok (.ishl, 1)) (hb : b < 32) (k : zV x (pc + 1) lv (.int (nI (a * 2 ^ b)) :: st) h) : zV x pc lv (.int (nI b) :: .int (nI a) :: st) h :=
  z_ishl hx d (z_top (nI_shl a hb) k)
theorem z_ishl1 (hx : zOk x M n) {b : Nat} (d : decode M.2.1 pc = .ok (.ishl, 1)) (hb : b < 32) (k : zV x (pc + 1) lv (.int (nI (2 ^ b)) :: st) h) : zV x pc lv (.int (nI b) :: .int (nI 1) :: st) h :=
  z_ishl hx d (z_top (by rw [nI_shl 1 hb, Nat.one_mul]) k)
theorem z_ishrN (hx : zOk x M n) {a b : Nat} (d : decode M.2.1 pc = .ok (.ishr, 1)) (ha : a < 2147483648) (hb : b < 32) (k : zV x (pc + 1) lv (.int (nI (a / 2 ^ b)) :: st) h) : zV x pc lv (.int (nI b) :: .int (nI a) :: st) h :=
  z_ishr hx d (z_top (nI_shr ha hb) k)
theorem z_iandN (hx : zOk x M n) {a b : Nat} (d : decode M.2.1 pc = .ok (.iand, 1)) (k : zV x (pc + 1) lv (.int (nI (a &&& b)) :: st) h) : zV x pc lv (.int (nI b) :: .int (nI a) :: st) h :=
  z_iand hx d (z_top (nI_and a b) k)
theorem z_iorN (hx : zOk x M n) {a b : Nat} (d : decode M.2.1 pc = .ok (.ior, 1)) (k : zV x (pc + 1) lv (.int (nI (a ||| b)) :: st) h) : zV x pc lv (.int (nI b) :: .int (nI a) :: st) h :=
  z_ior hx d (z_top (nI_or a b) k)
theorem z_iincN (hx : zOk x M n) {i z a : Nat} (d : decode M.2.1 pc = .ok (.iinc i (z : Int), 3)) (hv : lv[i]? = some (some (.int (nI a)))) (hn : zns lv i = true) (k : zV x (pc + 3) (lv.set i (some (.int (nI (a + z))))) st h) : zV x pc lv st h :=
  z_iinc hx d hv (by rw [← nI_add]; rfl) hn k
theorem z_icmp_eqN (hx : zOk x M n) {a b : Nat} {off : Int} {tgt : Nat} (d : decode M.2.1 pc = .ok (.if_icmp .eq off, 3)) (ht : (pc : Int) + off = (tgt : Int)) (ha : a < 2147483648) (hb : b < 2147483648) (kt : a = b → zV x tgt lv st h) (kf : ¬ a = b → zV x (pc + 3) lv st h) : zV x pc lv (.int (nI b) :: .int (nI a) :: st) h :=
  z_icmp_eq hx d ht (fun q => kt ((nI_eq (by omega) (by omega)).mp q)) (fun q => kf (fun e => q (by rw [e])))
theorem z_icmp_neN (hx : zOk x M n) {a b : Nat} {off : Int} {tgt : Nat} (d : decode M.2.1 pc = .ok (.if_icmp .ne off, 3)) (ht : (pc : Int) + off = (tgt : Int)) (ha : a < 2147483648) (hb : b < 2147483648) (kt : ¬ a = b → zV x tgt lv st h) (kf : a = b → zV x (pc + 3) lv st h) : zV x pc lv (.int (nI b) :: .int (nI a) :: st) h :=
  z_icmp_ne hx d ht (fun q => kt (fun e => q (by rw [e]))) (fun q => kf ((nI_eq (by omega) (by omega)).mp q))
theorem z_icmp_ltN (hx : zOk x M n) {a b : Nat} {off : Int} {tgt : Nat} (d : decode M.2.1 pc = .ok (.if_icmp .lt off, 3)) (ht : (pc : Int) + off = (tgt : Int)) (ha : a < 2147483648) (hb : b < 2147483648) (kt : a < b → zV x tgt lv st h) (kf : b ≤ a → zV x (pc + 3) lv st h) : zV x pc lv (.int (nI b) :: .int (nI a) :: st) h :=
  z_icmp_lt hx d ht (fun q => kt ((nI_ltI (by omega) (by omega)).mp q)) (fun q => kf (Nat.not_lt.mp fun e => q ((nI_ltI (by omega) (by omega)).mpr e)))
theorem z_icmp_geN (hx : zOk x M n) {a b : Nat} {off : Int} {tgt : Nat} (d : decode M.2.1 pc = .ok (.if_icmp .ge off, 3)) (ht : (pc : Int) + off = (tgt : Int)) (ha : a < 2147483648) (hb : b < 2147483648) (kt : b ≤ a → zV x tgt lv st h) (kf : a < b → zV x (pc + 3) lv st h) : zV x pc lv (.int (nI b) :: .int (nI a) :: st) h :=
  z_icmp_ge hx d ht (fun q => kt ((nI_leI (by omega) (by omega)).mp q)) (fun q => kf (Nat.not_le.mp fun e => q ((nI_leI (by omega) (by omega)).mpr e)))
theorem z_icmp_gtN (hx : zOk x M n) {a b : Nat} {off : Int} {tgt : Nat} (d : decode M.2.1 pc = .ok (.if_icmp .gt off, 3)) (ht : (pc : Int) + off = (tgt : Int)) (ha : a < 2147483648) (hb : b < 2147483648) (kt : b < a → zV x tgt lv st h) (kf : a ≤ b → zV x (pc + 3) lv st h) : zV x pc lv (.int (nI b) :: .int (nI a) :: st) h :=
  z_icmp_gt hx d ht (fun q => kt ((nI_ltI (by omega) (by omega)).mp q)) (fun q => kf (Nat.not_lt.mp fun e => q ((nI_ltI (by omega) (by omega)).mpr e)))
theorem z_icmp_leN (hx : zOk x M n) {a b : Nat} {off : Int} {tgt : Nat} (d : decode M.2.1 pc = .ok (.if_icmp .le off, 3)) (ht : (pc : Int) + off = (tgt : Int)) (ha : a < 2147483648) (hb : b < 2147483648) (kt : a ≤ b → zV x tgt lv st h) (kf : b < a → zV x (pc + 3) lv st h) : zV x pc lv (.int (nI b) :: .int (nI a) :: st) h :=
  z_icmp_le hx d ht (fun q => kt ((nI_leI (by omega) (by omega)).mp q)) (fun q => kf (Nat.not_le.mp fun e => q ((nI_leI (by omega) (by omega)).mpr e)))
theorem z_if_eqN (hx : zOk x M n) {a : Nat} {off : Int} {tgt : Nat} (d : decode M.2.1 pc = .ok (.ifCond .eq off, 3)) (ht : (pc : Int) + off = (tgt : Int)) (ha : a < 2147483648) (kt : a = 0 → zV x tgt lv st h) (kf : 0 < a → zV x (pc + 3) lv st h) : zV x pc lv (.int (nI a) :: st) h :=
  z_if_eq hx d ht (fun q => kt (Nat.eq_zero_of_not_pos fun e => nI_ne0 e (by omega) q)) (fun q => kf (Nat.pos_of_ne_zero fun e => q (by rw [e]; rfl)))
theorem z_if_neN (hx : zOk x M n) {a : Nat} {off : Int} {tgt : Nat} (d : decode M.2.1 pc = .ok (.ifCond .ne off, 3)) (ht : (pc : Int) + off = (tgt : Int)) (ha : a < 2147483648) (kt : 0 < a → zV x tgt lv st h) (kf : a = 0 → zV x (pc + 3) lv st h) : zV x pc lv (.int (nI a) :: st) h :=
  z_if_ne hx d ht (fun q => kt (Nat.pos_of_ne_zero fun e => q (by rw [e]; rfl))) (fun q => kf (Nat.eq_zero_of_not_pos fun e => nI_ne0 e (by omega) q))
theorem z_if_leN (hx : zOk x M n) {a : Nat} {off : Int} {tgt : Nat} (d : decode M.2.1 pc = .ok (.ifCond .le off, 3)) (ht : (pc : Int) + off = (tgt : Int)) (ha : a < 2147483648) (kt : a = 0 → zV x tgt lv st h) (kf : 0 < a → zV x (pc + 3) lv st h) : zV x pc lv (.int (nI a) :: st) h :=
  z_if_le hx d ht (fun q => kt (Nat.eq_zero_of_not_pos fun e => nI_nle e (by omega) q)) (fun q => kf (Nat.pos_of_ne_zero fun e => q (by rw [e]; exact Int32.le_refl _)))
theorem z_if_gtN (hx : zOk x M n) {a : Nat} {off : Int} {tgt : Nat} (d : decode M.2.1 pc = .ok (.ifCond .gt off, 3)) (ht : (pc : Int) + off = (tgt : Int)) (ha : a < 2147483648) (kt : 0 < a → zV x tgt lv st h) (kf : a = 0 → zV x (pc + 3) lv st h) : zV x pc lv (.int (nI a) :: st) h :=
  z_if_gt hx d ht (fun q => kt (Nat.pos_of_ne_zero fun e => by rw [e] at q; exact absurd q (by decide))) (fun q => kf (Nat.eq_zero_of_not_pos fun e => q (nI_lt (a := 0) e (by omega))))
theorem z_if_ltN (hx : zOk x M n) {a : Nat} {off : Int} (d : decode M.2.1 pc = .ok (.ifCond .lt off, 3)) (tgt : Nat) (ht : (pc : Int) + off = (tgt : Int)) (ha : a < 2147483648) (kf : zV x (pc + 3) lv st h) : zV x pc lv (.int (nI a) :: st) h :=
  z_if_lt hx d ht (fun q => absurd q (nI_lt0 ha)) (fun _ => kf)
theorem z_if_geN (hx : zOk x M n) {a : Nat} {off : Int} {tgt : Nat} (d : decode M.2.1 pc = .ok (.ifCond .ge off, 3)) (ht : (pc : Int) + off = (tgt : Int)) (ha : a < 2147483648) (kt : zV x tgt lv st h) : zV x pc lv (.int (nI a) :: st) h :=
  z_if_ge hx d ht (fun _ => kt) (fun q => absurd (nI_pos' (by omega)) q)
theorem z_if_eqB (hx : zOk x M n) {c : Prop} {off : Int} {tgt : Nat} (d : decode M.2.1 pc = .ok (.ifCond .eq off, 3)) (ht : (pc : Int) + off = (tgt : Int)) (kt : ¬ c → zV x tgt lv st h) (kf : c → zV x (pc + 3) lv st h) : zV x pc lv (.int (bP c) :: st) h :=
  z_if_eq hx d ht (fun q => kt (bP_0.mp q)) (fun q => kf (Classical.byContradiction fun e => q (bP_f e)))
theorem z_if_neB (hx : zOk x M n) {c : Prop} {off : Int} {tgt : Nat} (d : decode M.2.1 pc = .ok (.ifCond .ne off, 3)) (ht : (pc : Int) + off = (tgt : Int)) (kt : c → zV x tgt lv st h) (kf : ¬ c → zV x (pc + 3) lv st h) : zV x pc lv (.int (bP c) :: st) h :=
  z_if_ne hx d ht (fun q => kt (Classical.byContradiction fun e => q (bP_f e))) (fun q => kf (bP_0.mp q))
theorem z_ialdJ (hx : zOk x M n) {q N : Nat} {f : Nat → Int32} {j : Nat} (d : decode M.2.1 pc = .ok (.iaload, 1)) (hq : h[q]? = some (zI N f)) (hN : N < 2147483648) (hj : j < N) (k : zV x (pc + 1) lv (.int (f j) :: st) h) : zV x pc lv (.int (nI j) :: .ref q :: st) h :=
  z_iald hx d hq (vp_in_nI hj (by omega)) (z_top (by rw [nI_cl (by omega)]) k)
theorem z_iastJ (hx : zOk x M n) {q N : Nat} {f : Nat → Int32} {j : Nat} {a : Int32} (d : decode M.2.1 pc = .ok (.iastore, 1)) (hq : h[q]? = some (zI N f)) (hN : N < 2147483648) (hj : j < N) (k : zV x (pc + 1) lv st (h.set q (zI N (upd f j a)))) : zV x pc lv (.int a :: .int (nI j) :: .ref q :: st) h :=
  z_iast hx d hq (vp_in_nI hj (by omega)) (z_heap (by rw [nI_cl (by omega)]) k)
theorem z_iastN (hx : zOk x M n) {q N : Nat} {f : Nat → Nat} {j a : Nat} (d : decode M.2.1 pc = .ok (.iastore, 1)) (hq : h[q]? = some (zN N f)) (hN : N < 2147483648) (hj : j < N) (k : zV x (pc + 1) lv st (h.set q (zN N (zup f j a)))) : zV x pc lv (.int (nI a) :: .int (nI j) :: .ref q :: st) h :=
  z_iastJ hx d hq hN hj (z_heap (by rw [zup_nI]) k)
end ZN
/-! contracts that tell the answer and the cells -/
abbrev zMiE (M : zM) (n : Nat) (av : List Value) (h : List zE) (R : Int32) (U : List zE) : Prop := zMi M n av h (fun r u => r = R ∧ u = U)
abbrev zMvE (M : zM) (n : Nat) (av : List Value) (h : List zE) (U : List zE) : Prop := zMv M n av h (fun u => u = U)
theorem zpt_same {h hc : List zE} {g : List Nat} (hs : zsub h g hc) : zpt h g hc = h := by
  unfold zpt
  have e : hc.map (fun e => some (zrn (zpi g) e)) = (hc.map (zrn (zpi g))).map some := by rw [List.map_map]; rfl
  have hs2 : g.map (fun i => h[i]?) = (hc.map (zrn (zpi g))).map some := by rw [← e]; exact hs
  generalize hc.map (zrn (zpi g)) = us at hs2
  clear hs e
  induction g generalizing us with
  | nil => cases us <;> rfl
  | cons i g ih =>
    cases us with
    | nil => rfl
    | cons e us =>
      simp only [List.map_cons, List.cons.injEq] at hs2
      rw [zpt0]
      have h1 : h.set i e = h := by
        apply List.ext_getElem?
        intro k
        rw [List.getElem?_set]
        by_cases hk : i = k
        · subst hk
          rw [if_pos rfl, hs2.1, if_pos ((List.getElem?_eq_some_iff.mp hs2.1).1)]
        · rw [if_neg hk]
      rw [h1]
      exact ih us hs2.2
/-! calls by contracts that tell -/
section ZCE
variable {x : zC} {M M' : zM} {n n' pc idx np : Nat} {lv : List (Option Value)} {st rest : List Value} {h hc : List zE} {av : List Value}
theorem z_callisP (hx : zOk x M n) {R : Int32} (g : List Nat) (hM : zMiE M' n' (av) hc R hc) (d : decode M.2.1 pc = .ok (.invokestatic idx, 3)) (site : zLs M.1.cls idx M' np) (hs : zsub h g hc) (hst : st = ((av).map (zcv (zpi g))).reverse ++ rest) (hlv : lv.length = M.2.2.1) (hnd : g.Nodup) (hg : g.length ≤ 1000) (hap : (av).length = np) (hcat : (rest.map fun v => v.category).sum ≤ 8) (hn : n' + 1 ≤ n) (k : zV x (pc + 3) lv (.int R :: rest) h) : zV x pc lv st h :=
  z_callis hx g hM d site hs hst hlv hnd hg hap hcat hn (fun r u _ q => by obtain ⟨q1, q2⟩ := q; subst q1; subst q2; rw [zpt_same hs]; exact k)
theorem z_callisE (hx : zOk x M n) {R : Int32} {U : List zE} (g : List Nat) (hM : zMiE M' n' (av) hc R U) (d : decode M.2.1 pc = .ok (.invokestatic idx, 3)) (site : zLs M.1.cls idx M' np) (hs : zsub h g hc) (hst : st = ((av).map (zcv (zpi g))).reverse ++ rest) (hlv : lv.length = M.2.2.1) (hnd : g.Nodup) (hg : g.length ≤ 1000) (hap : (av).length = np) (hcat : (rest.map fun v => v.category).sum ≤ 8) (hn : n' + 1 ≤ n) (k : zV x (pc + 3) lv (.int R :: rest) (zpt h g U)) : zV x pc lv st h :=
  z_callis hx g hM d site hs hst hlv hnd hg hap hcat hn (fun r u _ q => by obtain ⟨q1, q2⟩ := q; subst q1; subst q2; exact k)
theorem z_callvsP (hx : zOk x M n) (g : List Nat) (hM : zMvE M' n' (av) hc hc) (d : decode M.2.1 pc = .ok (.invokestatic idx, 3)) (site : zLs M.1.cls idx M' np) (hs : zsub h g hc) (hst : st = ((av).map (zcv (zpi g))).reverse ++ rest) (hlv : lv.length = M.2.2.1) (hnd : g.Nodup) (hg : g.length ≤ 1000) (hap : (av).length = np) (hcat : (rest.map fun v => v.category).sum ≤ 8) (hn : n' + 1 ≤ n) (k : zV x (pc + 3) lv rest h) : zV x pc lv st h :=
  z_callvs hx g hM d site hs hst hlv hnd hg hap hcat hn (fun u _ q => by subst q; rw [zpt_same hs]; exact k)
theorem z_callvsE (hx : zOk x M n) {U : List zE} (g : List Nat) (hM : zMvE M' n' (av) hc U) (d : decode M.2.1 pc = .ok (.invokestatic idx, 3)) (site : zLs M.1.cls idx M' np) (hs : zsub h g hc) (hst : st = ((av).map (zcv (zpi g))).reverse ++ rest) (hlv : lv.length = M.2.2.1) (hnd : g.Nodup) (hg : g.length ≤ 1000) (hap : (av).length = np) (hcat : (rest.map fun v => v.category).sum ≤ 8) (hn : n' + 1 ≤ n) (k : zV x (pc + 3) lv rest (zpt h g U)) : zV x pc lv st h :=
  z_callvs hx g hM d site hs hst hlv hnd hg hap hcat hn (fun u _ q => by subst q; exact k)
theorem z_callinP (hx : zOk x M n) {host : String} {R : Int32} (g : List Nat) (hM : zMiE M' n' (av) hc R hc) (d : decode M.2.1 pc = .ok (.invokestatic idx, 3)) (site : zLn M.1.cls idx M' host np) (hs : zsub h g hc) (hst : st = ((av).map (zcv (zpi g))).reverse ++ rest) (hlv : lv.length = M.2.2.1) (hnd : g.Nodup) (hg : g.length ≤ 1000) (hap : (av).length = np) (hcat : (rest.map fun v => v.category).sum ≤ 8) (hn : n' + 1 ≤ n) (k : zV x (pc + 3) lv (.int R :: rest) h) : zV x pc lv st h :=
  z_callin hx g hM d site hs hst hlv hnd hg hap hcat hn (fun r u _ q => by obtain ⟨q1, q2⟩ := q; subst q1; subst q2; rw [zpt_same hs]; exact k)
theorem z_callinE (hx : zOk x M n) {host : String} {R : Int32} {U : List zE} (g : List Nat) (hM : zMiE M' n' (av) hc R U) (d : decode M.2.1 pc = .ok (.invokestatic idx, 3)) (site : zLn M.1.cls idx M' host np) (hs : zsub h g hc) (hst : st = ((av).map (zcv (zpi g))).reverse ++ rest) (hlv : lv.length = M.2.2.1) (hnd : g.Nodup) (hg : g.length ≤ 1000) (hap : (av).length = np) (hcat : (rest.map fun v => v.category).sum ≤ 8) (hn : n' + 1 ≤ n) (k : zV x (pc + 3) lv (.int R :: rest) (zpt h g U)) : zV x pc lv st h :=
  z_callin hx g hM d site hs hst hlv hnd hg hap hcat hn (fun r u _ q => by obtain ⟨q1, q2⟩ := q; subst q1; subst q2; exact k)
theorem z_callivP (hx : zOk x M n) {r0 ci : Nat} {fs : List Value} {T : u_T} {N : Nat} {R : Int32} (g : List Nat) (hM : zMiE M' n' (.ref r0 :: av) hc R hc) (d : decode M.2.1 pc = .ok (.invokevirtual idx, 3)) (site : zLv M.1.cls idx M' np) (hrc : hc[r0]? = some (zO ci fs)) (hci : vwCl[ci]? = some (M'.1.cls, T, N)) (hs : zsub h g hc) (hst : st = ((.ref r0 :: av).map (zcv (zpi g))).reverse ++ rest) (hlv : lv.length = M.2.2.1) (hnd : g.Nodup) (hg : g.length ≤ 1000) (hap : (av).length = np) (hcat : (rest.map fun v => v.category).sum ≤ 8) (hn : n' + 1 ≤ n) (k : zV x (pc + 3) lv (.int R :: rest) h) : zV x pc lv st h :=
  z_calliv hx g hM d site hrc hci hs hst hlv hnd hg hap hcat hn (fun r u _ q => by obtain ⟨q1, q2⟩ := q; subst q1; subst q2; rw [zpt_same hs]; exact k)
theorem z_callivE (hx : zOk x M n) {r0 ci : Nat} {fs : List Value} {T : u_T} {N : Nat} {R : Int32} {U : List zE} (g : List Nat) (hM : zMiE M' n' (.ref r0 :: av) hc R U) (d : decode M.2.1 pc = .ok (.invokevirtual idx, 3)) (site : zLv M.1.cls idx M' np) (hrc : hc[r0]? = some (zO ci fs)) (hci : vwCl[ci]? = some (M'.1.cls, T, N)) (hs : zsub h g hc) (hst : st = ((.ref r0 :: av).map (zcv (zpi g))).reverse ++ rest) (hlv : lv.length = M.2.2.1) (hnd : g.Nodup) (hg : g.length ≤ 1000) (hap : (av).length = np) (hcat : (rest.map fun v => v.category).sum ≤ 8) (hn : n' + 1 ≤ n) (k : zV x (pc + 3) lv (.int R :: rest) (zpt h g U)) : zV x pc lv st h :=
  z_calliv hx g hM d site hrc hci hs hst hlv hnd hg hap hcat hn (fun r u _ q => by obtain ⟨q1, q2⟩ := q; subst q1; subst q2; exact k)
theorem z_callvvP (hx : zOk x M n) {r0 ci : Nat} {fs : List Value} {T : u_T} {N : Nat} (g : List Nat) (hM : zMvE M' n' (.ref r0 :: av) hc hc) (d : decode M.2.1 pc = .ok (.invokevirtual idx, 3)) (site : zLv M.1.cls idx M' np) (hrc : hc[r0]? = some (zO ci fs)) (hci : vwCl[ci]? = some (M'.1.cls, T, N)) (hs : zsub h g hc) (hst : st = ((.ref r0 :: av).map (zcv (zpi g))).reverse ++ rest) (hlv : lv.length = M.2.2.1) (hnd : g.Nodup) (hg : g.length ≤ 1000) (hap : (av).length = np) (hcat : (rest.map fun v => v.category).sum ≤ 8) (hn : n' + 1 ≤ n) (k : zV x (pc + 3) lv rest h) : zV x pc lv st h :=
  z_callvv hx g hM d site hrc hci hs hst hlv hnd hg hap hcat hn (fun u _ q => by subst q; rw [zpt_same hs]; exact k)
theorem z_callvvE (hx : zOk x M n) {r0 ci : Nat} {fs : List Value} {T : u_T} {N : Nat} {U : List zE} (g : List Nat) (hM : zMvE M' n' (.ref r0 :: av) hc U) (d : decode M.2.1 pc = .ok (.invokevirtual idx, 3)) (site : zLv M.1.cls idx M' np) (hrc : hc[r0]? = some (zO ci fs)) (hci : vwCl[ci]? = some (M'.1.cls, T, N)) (hs : zsub h g hc) (hst : st = ((.ref r0 :: av).map (zcv (zpi g))).reverse ++ rest) (hlv : lv.length = M.2.2.1) (hnd : g.Nodup) (hg : g.length ≤ 1000) (hap : (av).length = np) (hcat : (rest.map fun v => v.category).sum ≤ 8) (hn : n' + 1 ≤ n) (k : zV x (pc + 3) lv rest (zpt h g U)) : zV x pc lv st h :=
  z_callvv hx g hM d site hrc hci hs hst hlv hnd hg hap hcat hn (fun u _ q => by subst q; exact k)
theorem z_callrvP (hx : zOk x M n) {r0 ci : Nat} {fs : List Value} {T : u_T} {N : Nat} {R : Nat} (g : List Nat) (hM : zMr M' n' (.ref r0 :: av) hc (fun r u => r = R ∧ u = hc)) (d : decode M.2.1 pc = .ok (.invokevirtual idx, 3)) (site : zLv M.1.cls idx M' np) (hrc : hc[r0]? = some (zO ci fs)) (hci : vwCl[ci]? = some (M'.1.cls, T, N)) (hs : zsub h g hc) (hst : st = ((.ref r0 :: av).map (zcv (zpi g))).reverse ++ rest) (hlv : lv.length = M.2.2.1) (hnd : g.Nodup) (hg : g.length ≤ 1000) (hap : (av).length = np) (hcat : (rest.map fun v => v.category).sum ≤ 8) (hn : n' + 1 ≤ n) (k : zV x (pc + 3) lv (.ref (zpi g R) :: rest) h) : zV x pc lv st h :=
  z_callrv hx g hM d site hrc hci hs hst hlv hnd hg hap hcat hn (fun r u _ q => by obtain ⟨q1, q2⟩ := q; subst q1; subst q2; rw [zpt_same hs]; exact k)
theorem z_callrvE (hx : zOk x M n) {r0 ci : Nat} {fs : List Value} {T : u_T} {N : Nat} {R : Nat} {U : List zE} (g : List Nat) (hM : zMr M' n' (.ref r0 :: av) hc (fun r u => r = R ∧ u = U)) (d : decode M.2.1 pc = .ok (.invokevirtual idx, 3)) (site : zLv M.1.cls idx M' np) (hrc : hc[r0]? = some (zO ci fs)) (hci : vwCl[ci]? = some (M'.1.cls, T, N)) (hs : zsub h g hc) (hst : st = ((.ref r0 :: av).map (zcv (zpi g))).reverse ++ rest) (hlv : lv.length = M.2.2.1) (hnd : g.Nodup) (hg : g.length ≤ 1000) (hap : (av).length = np) (hcat : (rest.map fun v => v.category).sum ≤ 8) (hn : n' + 1 ≤ n) (k : zV x (pc + 3) lv (.ref (zpi g R) :: rest) (zpt h g U)) : zV x pc lv st h :=
  z_callrv hx g hM d site hrc hci hs hst hlv hnd hg hap hcat hn (fun r u _ q => by obtain ⟨q1, q2⟩ := q; subst q1; subst q2; exact k)
theorem z_calliuP (hx : zOk x M n) {C : String} {r0 ci : Nat} {fs : List Value} {T : u_T} {N : Nat} {R : Int32} (g : List Nat) (hM : zMiE M' n' (.ref r0 :: av) hc R hc) (d : decode M.2.1 pc = .ok (.invokespecial idx, 3)) (site : zLu M.1.cls idx M' np) (hrc : hc[r0]? = some (zO ci fs)) (hci : vwCl[ci]? = some (C, T, N)) (hs : zsub h g hc) (hst : st = ((.ref r0 :: av).map (zcv (zpi g))).reverse ++ rest) (hlv : lv.length = M.2.2.1) (hnd : g.Nodup) (hg : g.length ≤ 1000) (hap : (av).length = np) (hcat : (rest.map fun v => v.category).sum ≤ 8) (hn : n' + 1 ≤ n) (k : zV x (pc + 3) lv (.int R :: rest) h) : zV x pc lv st h :=
  z_calliu hx g hM d site hrc hci hs hst hlv hnd hg hap hcat hn (fun r u _ q => by obtain ⟨q1, q2⟩ := q; subst q1; subst q2; rw [zpt_same hs]; exact k)
theorem z_calliuE (hx : zOk x M n) {C : String} {r0 ci : Nat} {fs : List Value} {T : u_T} {N : Nat} {R : Int32} {U : List zE} (g : List Nat) (hM : zMiE M' n' (.ref r0 :: av) hc R U) (d : decode M.2.1 pc = .ok (.invokespecial idx, 3)) (site : zLu M.1.cls idx M' np) (hrc : hc[r0]? = some (zO ci fs)) (hci : vwCl[ci]? = some (C, T, N)) (hs : zsub h g hc) (hst : st = ((.ref r0 :: av).map (zcv (zpi g))).reverse ++ rest) (hlv : lv.length = M.2.2.1) (hnd : g.Nodup) (hg : g.length ≤ 1000) (hap : (av).length = np) (hcat : (rest.map fun v => v.category).sum ≤ 8) (hn : n' + 1 ≤ n) (k : zV x (pc + 3) lv (.int R :: rest) (zpt h g U)) : zV x pc lv st h :=
  z_calliu hx g hM d site hrc hci hs hst hlv hnd hg hap hcat hn (fun r u _ q => by obtain ⟨q1, q2⟩ := q; subst q1; subst q2; exact k)
theorem z_callioP (hx : zOk x M n) {C : String} {y0 : MethodName} {r0 ci : Nat} {fs : List Value} {T : u_T} {N : Nat} {R : Int32} (g : List Nat) (hM : zMiE M' n' (.ref r0 :: av) hc R hc) (d : decode M.2.1 pc = .ok (.invokevirtual idx, 3)) (site : zLo M.1.cls idx C y0 M' np) (hrc : hc[r0]? = some (zO ci fs)) (hci : vwCl[ci]? = some (C, T, N)) (hs : zsub h g hc) (hst : st = ((.ref r0 :: av).map (zcv (zpi g))).reverse ++ rest) (hlv : lv.length = M.2.2.1) (hnd : g.Nodup) (hg : g.length ≤ 1000) (hap : (av).length = np) (hcat : (rest.map fun v => v.category).sum ≤ 8) (hn : n' + 1 ≤ n) (k : zV x (pc + 3) lv (.int R :: rest) h) : zV x pc lv st h :=
  z_callio hx g hM d site hrc hci hs hst hlv hnd hg hap hcat hn (fun r u _ q => by obtain ⟨q1, q2⟩ := q; subst q1; subst q2; rw [zpt_same hs]; exact k)
theorem z_callioE (hx : zOk x M n) {C : String} {y0 : MethodName} {r0 ci : Nat} {fs : List Value} {T : u_T} {N : Nat} {R : Int32} {U : List zE} (g : List Nat) (hM : zMiE M' n' (.ref r0 :: av) hc R U) (d : decode M.2.1 pc = .ok (.invokevirtual idx, 3)) (site : zLo M.1.cls idx C y0 M' np) (hrc : hc[r0]? = some (zO ci fs)) (hci : vwCl[ci]? = some (C, T, N)) (hs : zsub h g hc) (hst : st = ((.ref r0 :: av).map (zcv (zpi g))).reverse ++ rest) (hlv : lv.length = M.2.2.1) (hnd : g.Nodup) (hg : g.length ≤ 1000) (hap : (av).length = np) (hcat : (rest.map fun v => v.category).sum ≤ 8) (hn : n' + 1 ≤ n) (k : zV x (pc + 3) lv (.int R :: rest) (zpt h g U)) : zV x pc lv st h :=
  z_callio hx g hM d site hrc hci hs hst hlv hnd hg hap hcat hn (fun r u _ q => by obtain ⟨q1, q2⟩ := q; subst q1; subst q2; exact k)
end ZCE
