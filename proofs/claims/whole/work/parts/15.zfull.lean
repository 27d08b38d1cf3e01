/-! calls whose callee has the caller's own cells -/
theorem zpi_range (n : Nat) : zpi (List.range n) = fun k => k := by
  funext k
  unfold zpi
  rw [List.getD_eq_getElem?_getD]
  by_cases h : k < n
  · rw [List.getElem?_range h]; rfl
  · rw [List.getElem?_eq_none (by rw [List.length_range]; omega)]; rfl
theorem zcv_id (v : Value) : zcv (fun k => k) v = v := by cases v <;> rfl
theorem zcvs_id (l : List Value) : l.map (zcv (fun k => k)) = l := by
  induction l with
  | nil => rfl
  | cons v l ih => rw [List.map_cons, ih, zcv_id]
theorem zrn_id (e : zE) : zrn (fun k => k) e = e := by
  rcases e with (a | ⟨ci, fs⟩) | ⟨t, fs⟩
  · rfl
  · simp only [zrn, zcvs_id]
  · simp only [zrn, zcvs_id]
theorem zsub_id (h : List zE) : zsub h (List.range h.length) h := by
  unfold zsub
  rw [zpi_range]
  apply List.ext_getElem?
  intro i
  rw [List.getElem?_map, List.getElem?_map]
  by_cases hi : i < h.length
  · rw [List.getElem?_range hi, List.getElem?_eq_getElem hi]
    simp [zrn_id, List.getElem?_eq_getElem hi]
  · rw [List.getElem?_eq_none (by rw [List.length_range]; omega), List.getElem?_eq_none (by omega)]
    rfl
theorem zpt_all {h u : List zE} (hl : u.length = h.length) : zpt h (List.range h.length) u = u := by
  have hm : u.map (zrn (zpi (List.range h.length))) = u := by
    rw [zpi_range]
    have : (zrn fun k => k) = id := funext zrn_id
    rw [this, List.map_id]
  unfold zpt
  rw [hm]
  apply List.ext_getElem?
  intro i
  by_cases hi : i < h.length
  · rw [List.getElem?_eq_getElem (by omega : i < u.length)]
    exact zpt0_in _ h u i i _ List.nodup_range (List.getElem?_range hi) (List.getElem?_eq_getElem (by omega)) hi
  · rw [List.getElem?_eq_none (by rw [zpt0_len]; omega), List.getElem?_eq_none (by omega)]
section ZCF
variable {x : zC} {M M' : zM} {n n' pc idx np : Nat} {lv : List (Option Value)} {st rest : List Value} {h : List zE} {av : List Value}
theorem z_callisF (hx : zOk x M n) {R : Int32} {U : List zE} (hM : zMiE M' n' (av) h R U) (d : decode M.2.1 pc = .ok (.invokestatic idx, 3)) (site : zLs M.1.cls idx M' np) (hst : st = (av).reverse ++ rest) (hlv : lv.length = M.2.2.1) (hg : h.length ≤ 1000) (hap : (av).length = np) (hcat : (rest.map fun v => v.category).sum ≤ 8) (hn : n' + 1 ≤ n) (k : zV x (pc + 3) lv (.int R :: rest) U) : zV x pc lv st h :=
  z_callis hx (List.range h.length) hM d site (zsub_id h) (by rw [zpi_range, zcvs_id]; exact hst) hlv List.nodup_range (by rw [List.length_range]; exact hg) hap hcat hn (fun r u hl q => by obtain ⟨q1, q2⟩ := q; subst q1; subst q2; rw [zpt_all hl]; exact k)
theorem z_callvsF (hx : zOk x M n) {U : List zE} (hM : zMvE M' n' (av) h U) (d : decode M.2.1 pc = .ok (.invokestatic idx, 3)) (site : zLs M.1.cls idx M' np) (hst : st = (av).reverse ++ rest) (hlv : lv.length = M.2.2.1) (hg : h.length ≤ 1000) (hap : (av).length = np) (hcat : (rest.map fun v => v.category).sum ≤ 8) (hn : n' + 1 ≤ n) (k : zV x (pc + 3) lv rest U) : zV x pc lv st h :=
  z_callvs hx (List.range h.length) hM d site (zsub_id h) (by rw [zpi_range, zcvs_id]; exact hst) hlv List.nodup_range (by rw [List.length_range]; exact hg) hap hcat hn (fun u hl q => by subst q; rw [zpt_all hl]; exact k)
theorem z_callivF (hx : zOk x M n) {r0 ci : Nat} {fs : List Value} {T : u_T} {N : Nat} {R : Int32} {U : List zE} (hM : zMiE M' n' (.ref r0 :: av) h R U) (d : decode M.2.1 pc = .ok (.invokevirtual idx, 3)) (site : zLv M.1.cls idx M' np) (hrc : h[r0]? = some (zO ci fs)) (hci : vwCl[ci]? = some (M'.1.cls, T, N)) (hst : st = (.ref r0 :: av).reverse ++ rest) (hlv : lv.length = M.2.2.1) (hg : h.length ≤ 1000) (hap : (av).length = np) (hcat : (rest.map fun v => v.category).sum ≤ 8) (hn : n' + 1 ≤ n) (k : zV x (pc + 3) lv (.int R :: rest) U) : zV x pc lv st h :=
  z_calliv hx (List.range h.length) hM d site hrc hci (zsub_id h) (by rw [zpi_range, zcvs_id]; exact hst) hlv List.nodup_range (by rw [List.length_range]; exact hg) hap hcat hn (fun r u hl q => by obtain ⟨q1, q2⟩ := q; subst q1; subst q2; rw [zpt_all hl]; exact k)
theorem z_callvvF (hx : zOk x M n) {r0 ci : Nat} {fs : List Value} {T : u_T} {N : Nat} {U : List zE} (hM : zMvE M' n' (.ref r0 :: av) h U) (d : decode M.2.1 pc = .ok (.invokevirtual idx, 3)) (site : zLv M.1.cls idx M' np) (hrc : h[r0]? = some (zO ci fs)) (hci : vwCl[ci]? = some (M'.1.cls, T, N)) (hst : st = (.ref r0 :: av).reverse ++ rest) (hlv : lv.length = M.2.2.1) (hg : h.length ≤ 1000) (hap : (av).length = np) (hcat : (rest.map fun v => v.category).sum ≤ 8) (hn : n' + 1 ≤ n) (k : zV x (pc + 3) lv rest U) : zV x pc lv st h :=
  z_callvv hx (List.range h.length) hM d site hrc hci (zsub_id h) (by rw [zpi_range, zcvs_id]; exact hst) hlv List.nodup_range (by rw [List.length_range]; exact hg) hap hcat hn (fun u hl q => by subst q; rw [zpt_all hl]; exact k)
theorem z_callrvF (hx : zOk x M n) {r0 ci : Nat} {fs : List Value} {T : u_T} {N : Nat} {R : Nat} {U : List zE} (hM : zMr M' n' (.ref r0 :: av) h (fun r u => r = R ∧ u = U)) (d : decode M.2.1 pc = .ok (.invokevirtual idx, 3)) (site : zLv M.1.cls idx M' np) (hrc : h[r0]? = some (zO ci fs)) (hci : vwCl[ci]? = some (M'.1.cls, T, N)) (hst : st = (.ref r0 :: av).reverse ++ rest) (hlv : lv.length = M.2.2.1) (hg : h.length ≤ 1000) (hap : (av).length = np) (hcat : (rest.map fun v => v.category).sum ≤ 8) (hn : n' + 1 ≤ n) (k : zV x (pc + 3) lv (.ref R :: rest) U) : zV x pc lv st h :=
  z_callrv hx (List.range h.length) hM d site hrc hci (zsub_id h) (by rw [zpi_range, zcvs_id]; exact hst) hlv List.nodup_range (by rw [List.length_range]; exact hg) hap hcat hn (fun r u hl q => by obtain ⟨q1, q2⟩ := q; subst q1; subst q2; rw [zpt_all hl, zpi_range]; exact k)
theorem z_calliuF (hx : zOk x M n) {C : String} {r0 ci : Nat} {fs : List Value} {T : u_T} {N : Nat} {R : Int32} {U : List zE} (hM : zMiE M' n' (.ref r0 :: av) h R U) (d : decode M.2.1 pc = .ok (.invokespecial idx, 3)) (site : zLu M.1.cls idx M' np) (hrc : h[r0]? = some (zO ci fs)) (hci : vwCl[ci]? = some (C, T, N)) (hst : st = (.ref r0 :: av).reverse ++ rest) (hlv : lv.length = M.2.2.1) (hg : h.length ≤ 1000) (hap : (av).length = np) (hcat : (rest.map fun v => v.category).sum ≤ 8) (hn : n' + 1 ≤ n) (k : zV x (pc + 3) lv (.int R :: rest) U) : zV x pc lv st h :=
  z_calliu hx (List.range h.length) hM d site hrc hci (zsub_id h) (by rw [zpi_range, zcvs_id]; exact hst) hlv List.nodup_range (by rw [List.length_range]; exact hg) hap hcat hn (fun r u hl q => by obtain ⟨q1, q2⟩ := q; subst q1; subst q2; rw [zpt_all hl]; exact k)
theorem z_callioF (hx : zOk x M n) {C : String} {y0 : MethodName} {r0 ci : Nat} {fs : List Value} {T : u_T} {N : Nat} {R : Int32} {U : List zE} (hM : zMiE M' n' (.ref r0 :: av) h R U) (d : decode M.2.1 pc = .ok (.invokevirtual idx, 3)) (site : zLo M.1.cls idx C y0 M' np) (hrc : h[r0]? = some (zO ci fs)) (hci : vwCl[ci]? = some (C, T, N)) (hst : st = (.ref r0 :: av).reverse ++ rest) (hlv : lv.length = M.2.2.1) (hg : h.length ≤ 1000) (hap : (av).length = np) (hcat : (rest.map fun v => v.category).sum ≤ 8) (hn : n' + 1 ≤ n) (k : zV x (pc + 3) lv (.int R :: rest) U) : zV x pc lv st h :=
  z_callio hx (List.range h.length) hM d site hrc hci (zsub_id h) (by rw [zpi_range, zcvs_id]; exact hst) hlv List.nodup_range (by rw [List.length_range]; exact hg) hap hcat hn (fun r u hl q => by obtain ⟨q1, q2⟩ := q; subst q1; subst q2; rw [zpt_all hl]; exact k)
theorem z_callisG (hx : zOk x M n) {Q : Int32 → List zE → Prop} (hM : zMi M' n' (av) h Q) (d : decode M.2.1 pc = .ok (.invokestatic idx, 3)) (site : zLs M.1.cls idx M' np) (hst : st = (av).reverse ++ rest) (hlv : lv.length = M.2.2.1) (hg : h.length ≤ 1000) (hap : (av).length = np) (hcat : (rest.map fun v => v.category).sum ≤ 8) (hn : n' + 1 ≤ n) (k : ∀ r u, u.length = h.length → Q r u → zV x (pc + 3) lv (.int r :: rest) u) : zV x pc lv st h :=
  z_callis hx (List.range h.length) hM d site (zsub_id h) (by rw [zpi_range, zcvs_id]; exact hst) hlv List.nodup_range (by rw [List.length_range]; exact hg) hap hcat hn (fun r u hl q => by rw [zpt_all hl]; exact k r u hl q)
theorem z_callvsG (hx : zOk x M n) {Q : List zE → Prop} (hM : zMv M' n' (av) h Q) (d : decode M.2.1 pc = .ok (.invokestatic idx, 3)) (site : zLs M.1.cls idx M' np) (hst : st = (av).reverse ++ rest) (hlv : lv.length = M.2.2.1) (hg : h.length ≤ 1000) (hap : (av).length = np) (hcat : (rest.map fun v => v.category).sum ≤ 8) (hn : n' + 1 ≤ n) (k : ∀ u, u.length = h.length → Q u → zV x (pc + 3) lv rest u) : zV x pc lv st h :=
  z_callvs hx (List.range h.length) hM d site (zsub_id h) (by rw [zpi_range, zcvs_id]; exact hst) hlv List.nodup_range (by rw [List.length_range]; exact hg) hap hcat hn (fun u hl q => by rw [zpt_all hl]; exact k u hl q)
theorem z_callivG (hx : zOk x M n) {r0 ci : Nat} {fs : List Value} {T : u_T} {N : Nat} {Q : Int32 → List zE → Prop} (hM : zMi M' n' (.ref r0 :: av) h Q) (d : decode M.2.1 pc = .ok (.invokevirtual idx, 3)) (site : zLv M.1.cls idx M' np) (hrc : h[r0]? = some (zO ci fs)) (hci : vwCl[ci]? = some (M'.1.cls, T, N)) (hst : st = (.ref r0 :: av).reverse ++ rest) (hlv : lv.length = M.2.2.1) (hg : h.length ≤ 1000) (hap : (av).length = np) (hcat : (rest.map fun v => v.category).sum ≤ 8) (hn : n' + 1 ≤ n) (k : ∀ r u, u.length = h.length → Q r u → zV x (pc + 3) lv (.int r :: rest) u) : zV x pc lv st h :=
  z_calliv hx (List.range h.length) hM d site hrc hci (zsub_id h) (by rw [zpi_range, zcvs_id]; exact hst) hlv List.nodup_range (by rw [List.length_range]; exact hg) hap hcat hn (fun r u hl q => by rw [zpt_all hl]; exact k r u hl q)
theorem z_callvvG (hx : zOk x M n) {r0 ci : Nat} {fs : List Value} {T : u_T} {N : Nat} {Q : List zE → Prop} (hM : zMv M' n' (.ref r0 :: av) h Q) (d : decode M.2.1 pc = .ok (.invokevirtual idx, 3)) (site : zLv M.1.cls idx M' np) (hrc : h[r0]? = some (zO ci fs)) (hci : vwCl[ci]? = some (M'.1.cls, T, N)) (hst : st = (.ref r0 :: av).reverse ++ rest) (hlv : lv.length = M.2.2.1) (hg : h.length ≤ 1000) (hap : (av).length = np) (hcat : (rest.map fun v => v.category).sum ≤ 8) (hn : n' + 1 ≤ n) (k : ∀ u, u.length = h.length → Q u → zV x (pc + 3) lv rest u) : zV x pc lv st h :=
  z_callvv hx (List.range h.length) hM d site hrc hci (zsub_id h) (by rw [zpi_range, zcvs_id]; exact hst) hlv List.nodup_range (by rw [List.length_range]; exact hg) hap hcat hn (fun u hl q => by rw [zpt_all hl]; exact k u hl q)
theorem z_calliuG (hx : zOk x M n) {C : String} {r0 ci : Nat} {fs : List Value} {T : u_T} {N : Nat} {Q : Int32 → List zE → Prop} (hM : zMi M' n' (.ref r0 :: av) h Q) (d : decode M.2.1 pc = .ok (.invokespecial idx, 3)) (site : zLu M.1.cls idx M' np) (hrc : h[r0]? = some (zO ci fs)) (hci : vwCl[ci]? = some (C, T, N)) (hst : st = (.ref r0 :: av).reverse ++ rest) (hlv : lv.length = M.2.2.1) (hg : h.length ≤ 1000) (hap : (av).length = np) (hcat : (rest.map fun v => v.category).sum ≤ 8) (hn : n' + 1 ≤ n) (k : ∀ r u, u.length = h.length → Q r u → zV x (pc + 3) lv (.int r :: rest) u) : zV x pc lv st h :=
  z_calliu hx (List.range h.length) hM d site hrc hci (zsub_id h) (by rw [zpi_range, zcvs_id]; exact hst) hlv List.nodup_range (by rw [List.length_range]; exact hg) hap hcat hn (fun r u hl q => by rw [zpt_all hl]; exact k r u hl q)
theorem z_callioG (hx : zOk x M n) {C : String} {y0 : MethodName} {r0 ci : Nat} {fs : List Value} {T : u_T} {N : Nat} {Q : Int32 → List zE → Prop} (hM : zMi M' n' (.ref r0 :: av) h Q) (d : decode M.2.1 pc = .ok (.invokevirtual idx, 3)) (site : zLo M.1.cls idx C y0 M' np) (hrc : h[r0]? = some (zO ci fs)) (hci : vwCl[ci]? = some (C, T, N)) (hst : st = (.ref r0 :: av).reverse ++ rest) (hlv : lv.length = M.2.2.1) (hg : h.length ≤ 1000) (hap : (av).length = np) (hcat : (rest.map fun v => v.category).sum ≤ 8) (hn : n' + 1 ≤ n) (k : ∀ r u, u.length = h.length → Q r u → zV x (pc + 3) lv (.int r :: rest) u) : zV x pc lv st h :=
  z_callio hx (List.range h.length) hM d site hrc hci (zsub_id h) (by rw [zpi_range, zcvs_id]; exact hst) hlv List.nodup_range (by rw [List.length_range]; exact hg) hap hcat hn (fun r u hl q => by rw [zpt_all hl]; exact k r u hl q)
end ZCF
