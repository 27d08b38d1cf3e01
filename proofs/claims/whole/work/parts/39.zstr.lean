/-! the one text, its place 1000, its bytes' place 1001 -/
section ZSTR
variable {x : zC} {M M' : zM} {n n' pc idx np : Nat} {lv : List (Option Value)} {st rest : List Value} {h : List zE} {av : List Value}
theorem z_ldcS (hx : zOk x M n) (hM : M.1.cls = RX9) (d : decode M.2.1 pc = .ok (.ldc 46, 2)) (k : zV x (pc + 2) lv (.ref 1000 :: st) h) : zV x pc lv st h := by
  obtain ⟨p, l, e, R, s, m, args, below, meth, c, D, ca, ad, A, Q⟩ := x
  obtain ⟨hx, hb, hml, hown, hts, hKK, hA, hR, hr, hlk⟩ := hx
  intro H locs ls hl hP hD hS
  rw [hM] at hown
  exact va_ldcS hx hb hown hKK.2.2.2.2.2.1 d (k H locs ls hl hP hD hS)
theorem z_sval (hx : zOk x M n) (d : decode M.2.1 pc = .ok (.getfield idx, 3)) (hk : Cond.fieldLink M.1.cls idx "java/lang/String" "value" "[B" ∈ zG) (k : zV x (pc + 3) lv (.ref 1001 :: st) h) : zV x pc lv (.ref 1000 :: st) h := by
  obtain ⟨p, l, e, R, s, m, args, below, meth, c, D, ca, ad, A, Q⟩ := x
  obtain ⟨hx, hb, hml, hown, hts, hKK, hA, hR, hr, hlk⟩ := hx
  intro H locs ls hl hP hD hS
  exact vk_getf hx hb (hKK.2.2.2.2.2.2.1.1 0 (by decide)).2.2.1 hS hown (hts _ (List.mem_cons_of_mem _ hk)) (fun _ h => h) d (k H locs ls hl hP hD hS)
theorem z_scod (hx : zOk x M n) (d : decode M.2.1 pc = .ok (.getfield idx, 3)) (hk : Cond.fieldLink M.1.cls idx "java/lang/String" "coder" "B" ∈ zG) (k : zV x (pc + 3) lv (.int 0 :: st) h) : zV x pc lv (.ref 1000 :: st) h := by
  obtain ⟨p, l, e, R, s, m, args, below, meth, c, D, ca, ad, A, Q⟩ := x
  obtain ⟨hx, hb, hml, hown, hts, hKK, hA, hR, hr, hlk⟩ := hx
  intro H locs ls hl hP hD hS
  exact vk_getf hx hb (hKK.2.2.2.2.2.2.1.1 0 (by decide)).2.1 hS hown (hts _ (List.mem_cons_of_mem _ hk)) (fun _ h => h) d (k H locs ls hl hP hD hS)
theorem z_slen (hx : zOk x M n) (d : decode M.2.1 pc = .ok (.arraylength, 1)) (k : zV x (pc + 1) lv (.int (nI 5) :: st) h) : zV x pc lv (.ref 1001 :: st) h := by
  obtain ⟨p, l, e, R, s, m, args, below, meth, c, D, ca, ad, A, Q⟩ := x
  obtain ⟨hx, hb, hml, hown, hts, hKK, hA, hR, hr, hlk⟩ := hx
  intro H locs ls hl hP hD hS
  exact va_tlen hx hb (hKK.2.2.2.2.2.2.1.1 0 (by decide)).2.2.2 hS (v := nI 5) rfl d (k H locs ls hl hP hD hS)
def zBy (j : Nat) : Nat := [112, 99, 100, 107, 115].getD j 0
theorem z_sbal (hx : zOk x M n) {j : Nat} (hj : j < 5) (d : decode M.2.1 pc = .ok (.baload, 1)) (k : zV x (pc + 1) lv (.int (nI (zBy j)) :: st) h) : zV x pc lv (.int (nI j) :: .ref 1001 :: st) h := by
  obtain ⟨p, l, e, R, s, m, args, below, meth, c, D, ca, ad, A, Q⟩ := x
  obtain ⟨hx, hb, hml, hown, hts, hKK, hA, hR, hr, hlk⟩ := hx
  intro H locs ls hl hP hD hS
  exact va_tb hx hb (hKK.2.2.2.2.2.2.1.1 0 (by decide)).2.2.2 hS (vp_in_nI hj (by decide)) (v := .int (nI (zBy j))) (by rw [nI_cl (by omega)]; rcases (show j = 0 ∨ j = 1 ∨ j = 2 ∨ j = 3 ∨ j = 4 by omega) with rfl | rfl | rfl | rfl | rfl <;> rfl) d (k H locs ls hl hP hD hS)
theorem z_gets (hx : zOk x M n) (d : decode M.2.1 pc = .ok (.getstatic idx, 3)) (hk : Cond.fieldLink M.1.cls idx "java/lang/String" "COMPACT_STRINGS" "Z" ∈ zG) (k : zV x (pc + 3) lv (.int 1 :: st) h) : zV x pc lv st h := by
  obtain ⟨p, l, e, R, s, m, args, below, meth, c, D, ca, ad, A, Q⟩ := x
  obtain ⟨hx, hb, hml, hown, hts, hKK, hA, hR, hr, hlk⟩ := hx
  intro H locs ls hl hP hD hS
  exact va_gets hx hb hKK.2.2.2.2.2.2.2 hS hown (hts _ (List.mem_cons_of_mem _ hk)) (fun _ h => h) d (k H locs ls hl hP hD hS)
theorem z_byret (hx : zOk x M n) {N : Nat} {Qr : Int32 → List zE → Prop} (hF : zFi x N Qr) {a : Int32} (d : decode M.2.1 pc = .ok (.ireturn, 1)) (ht : M.2.2.2 = some .byte) (ha : narrow .byte (.int a) = .int a) (hN : h.length = N) (hq : Qr a h) : zV x pc lv [.int a] h := by
  obtain ⟨p, l, e, R, s, m, args, below, meth, c, D, ca, ad, A, Q⟩ := x
  obtain ⟨hx, hb, hml, hown, hts, hKK, hA, hR, hr, hlk⟩ := hx
  intro H locs ls hl hP hD hS
  have hF : Q = _ := hF
  rw [hF]
  exact W.zret (v := a) (ty := .byte) hx hb (by rw [hr, ht]) ha (fun t ht hW => ⟨⟨a, h, rfl, ⟨hN, hq⟩, by rw [ht]; exact hP, hD⟩, hS.F ht⟩) hS.2.2 d hlk
/-- a call of the text's own method -/
theorem z_callivT (hx : zOk x M n) {R : Int32} (hM : zMiE M' n' (.ref 1000 :: av) [] R []) (d : decode M.2.1 pc = .ok (.invokevirtual idx, 3)) (site : zLv M.1.cls idx M' np) (hcl : M'.1.cls = "java/lang/String") (hst : st = ((.ref 1000 :: av).map (zcv (zpi []))).reverse ++ rest) (hlv : lv.length = M.2.2.1) (hap : (av).length = np) (hcat : (rest.map fun v => v.category).sum ≤ 8) (hn : n' + 1 ≤ n) (k : zV x (pc + 3) lv (.int R :: rest) h) : zV x pc lv st h := by
  subst hst
  obtain ⟨p, l, e, R0, s, m, args, below, meth, c, D, ca, ad, A, Q⟩ := x
  obtain ⟨hx, hb, hml, hown, hts, hKK, hA, hR, hr, hlk⟩ := hx
  subst hR
  intro H locs ls hl hP hD hS
  have hs : zsub h [] [] := rfl
  have hnd : ([] : List Nat).Nodup := List.nodup_nil
  have hg : ([] : List Nat).length ≤ 1000 := by decide
  have hstk : (((.ref 1000 :: av).map (zcv (zpi []))).reverse ++ rest).map (zcv ad) = ((.ref 1000 :: av).map (zcv (fun j => ad (zpi [] j)))).reverse ++ rest.map (zcv ad) := by
    rw [List.map_append, List.map_reverse]
    congr 2
    rw [List.map_map]
    apply List.map_congr_left
    intro v _
    exact zcv_cv ad (zpi []) v
  have hcat : ((rest.map (zcv ad)).map fun v => v.category).sum ≤ 8 := by
    rw [List.map_map]
    have : ((fun v : Value => v.category) ∘ zcv ad) = fun v => v.category := funext fun v => zcv_cat ad v
    rw [this]
    exact hcat
  have hAA := zsub_A hs hD hA hS
  obtain ⟨⟨hcd, hin, hc1, hc2, hc3, hc4⟩, hsite⟩ := site
  have hrv : ∃ cell : Cell, H[ad (zpi [] 1000)]? = some cell ∧ cell.vm.isStatics = false ∧ s.vm.findClass M'.1.cls = some cell.cls := by
    rw [hcl]
    exact vk_recv hKK.2.2.2.2.2.2.1 (i := 0) (by decide) hS
  have hst2 : (F0 m pc ls ((((.ref 1000 :: av).map (zcv (zpi []))).reverse ++ rest).map (zcv ad))).stack = (av.map (zcv (fun j => ad (zpi [] j)))).reverse ++ .ref ((fun j => ad (zpi [] j)) 1000) :: rest.map (zcv ad) := by
    show _ = _
    rw [hstk, List.map_cons, List.reverse_cons, List.append_assoc]
    rfl
  have hrun := va_runV (p := p) (e := e) (below := below) (meth := meth) (R := zrm n) (locs := locs) (cells := 0) (slots := 0) (As := av.map (zcv (fun j => ad (zpi [] j)))) (rest := rest.map (zcv ad)) (g := F0 m pc ls _) ⟨hx, hb, hml, hown, hts⟩ (hM l D ca (fun j => ad (zpi [] j)) H.size) (cwV np hts (zgood (fun w hw => by
    rcases List.mem_append.mp hw with hw | hw
    · simp only [List.mem_cons, List.not_mem_nil, or_false] at hw
      rcases hw with rfl | rfl | rfl | rfl
      · exact hsite.1
      · exact hsite.2.1
      · exact hsite.2.2
      · exact hin
    · exact zws_G hcd w hw)) rfl rfl rfl ⟨rfl, hc1, hc2, hc3⟩ ⟨hn, by show 8 + (M'.2.2.1 + 11) + 40 * n' ≤ 40 * n; omega⟩) ⟨zblind, hrv, (zpre (av := .ref 1000 :: av) hs hnd hg hP hD hKK hA hS)⟩ rfl (by rw [List.length_map]; exact hap) (hl.1.trans hlv) hst2 (lv_room hcat) d ⟨Nat.le_refl _, Nat.le_refl _⟩
  refine va_calli hrun hS (fun q _ hq => hAA q hq) hAA (fun r u t H1 locs1 ht hvm hw hB hz1 hk1 hS1 => ?_)
  obtain ⟨hw1, rfl, rfl⟩ := hw
  have hP1 := hB.1
  rw [ht] at hP1
  exact k H1 locs1 ls hl (zjoin hs hnd hP hD hk1 hw1 hP1) hD hS1
end ZSTR
theorem fJ0_9 : Cond.fieldLink RJ0 9 "java/lang/String" "value" "[B" ∈ zG := zin 1275 (by decide +kernel) (by decide +kernel)
theorem fJ0_15 : Cond.fieldLink RJ0 15 "java/lang/String" "coder" "B" ∈ zG := zin 1274 (by decide +kernel) (by decide +kernel)
theorem fJ0_38 : Cond.fieldLink RJ0 38 "java/lang/String" "COMPACT_STRINGS" "Z" ∈ zG := zin 425 (by decide +kernel) (by decide +kernel)
/-- which place of the text a letter has -/
def zIx (c : Nat) : Int32 := if c = 112 then 0 else if c = 99 then nI 1 else if c = 100 then nI 2 else if c = 107 then nI 3 else if c = 115 then nI 4 else -1
def zKd (c : Nat) : Nat := if c = 112 then 1 else if c = 99 then 2 else if c = 100 then 3 else if c = 107 then 4 else if c = 115 then 5 else 0
theorem zIx_Kd (c : Nat) : zIx c + nI 1 = nI (zKd c) := by
  unfold zIx zKd
  repeat' split
  all_goals decide
theorem zKd_le (c : Nat) : zKd c ≤ 5 := by
  unfold zKd
  repeat' split
  all_goals omega
theorem zi2b : ∀ j, j < 5 → ∀ c, c < 256 → (nI (zBy j) = (nI c).toInt8.toInt32 ↔ c = zBy j) := by decide +kernel
theorem zIx_at : ∀ j, j < 5 → zIx (zBy j) = nI j := by decide +kernel
theorem zIx_no {c : Nat} (h : ∀ j, j < 5 → ¬ c = zBy j) : zIx c = -1 := by
  have h0 : ¬ c = 112 := h 0 (by decide)
  have h1 : ¬ c = 99 := h 1 (by decide)
  have h2 : ¬ c = 100 := h 2 (by decide)
  have h3 : ¬ c = 107 := h 3 (by decide)
  have h4 : ¬ c = 115 := h 4 (by decide)
  unfold zIx
  rw [if_neg h0, if_neg h1, if_neg h2, if_neg h3, if_neg h4]
theorem zi2c : ∀ c, c < 256 → ((nI c).toUInt32 % 65536).toInt32 = nI c := by decide +kernel
set_option maxHeartbeats 4000000 in
set_option maxRecDepth 100000 in
theorem qJ1_canEncode_9a6ad (c : Nat) (hc : c < 256) : zMi mJ1_canEncode_9a6ad 0 ([.int (nI c)]) ([]) (fun z u => z = nI 1 ∧ u = []) := by
  refine zMi.of (by decide) (Nat.le_of_ble_eq_true rfl) (fun x hx hF => ?_)
  refine z_iload_n hx dJ1_canEncode_9a6ad_0 rfl ?_
  refine z_if_ltN hx dJ1_canEncode_9a6ad_1 15 (by decide) (by omega) ?_
  refine z_iload_n hx dJ1_canEncode_9a6ad_4 rfl ?_
  refine z_sipush (v := nI 255) hx dJ1_canEncode_9a6ad_5 (by decide) ?_
  refine z_icmp_gtN (tgt := 15) hx dJ1_canEncode_9a6ad_8 (by decide) (by omega) (by omega) (fun zc8 => ?_) (fun zc8 => ?_)
  · skip
    exfalso; omega
  · skip
    refine z_iconst (v := nI 1) hx dJ1_canEncode_9a6ad_11 (by decide) ?_
    refine z_goto (tgt := 16) hx dJ1_canEncode_9a6ad_12 (by decide) ?_
    exact z_zret hx hF dJ1_canEncode_9a6ad_16 rfl (by first | exact bP_nar _ | rfl) rfl ⟨rfl, rfl⟩

set_option maxHeartbeats 4000000 in
set_option maxRecDepth 100000 in
theorem qJ1_indexOfChar_4cfef (c : Nat) (hc : c < 256) : zMi mJ1_indexOfChar_4cfef 0 ([.ref 1001, .int (nI c), .int (nI 0), .int (nI 5)]) ([]) (fun z u => z = zIx c ∧ u = []) := by
  refine zMi.of (by decide) (Nat.le_of_ble_eq_true rfl) (fun x hx hF => ?_)
  have loop7 : ∀ (n7 : Nat) (j : Nat), 5 - j = n7 → j ≤ 5 → (∀ i, i < j → ¬ c = zBy i) → zV x 7 [some (.ref 1001), some (.int (nI c)), some (.int (nI 0)), some (.int (nI 5)), some (.int ((nI c).toInt8.toInt32)), some (.int (nI j))] ([]) ([]) := by
    intro n7
    induction n7 using Nat.strongRecOn with
    | ind n7 ih =>
      intro j hn hj hno
      refine z_iload hx dJ1_indexOfChar_4cfef_7 rfl ?_
      refine z_iload_n hx dJ1_indexOfChar_4cfef_9 rfl ?_
      first | refine z_icmp_geN (tgt := 31) hx dJ1_indexOfChar_4cfef_10 (by decide) (by omega) (by omega) (fun zc10 => ?_) (fun zc10 => ?_) | refine z_icmp_ge (tgt := 31) hx dJ1_indexOfChar_4cfef_10 (by decide) (fun zc10 => ?_) (fun zc10 => ?_)
      · skip
        refine z_iconst (v := (-1)) hx dJ1_indexOfChar_4cfef_31 (by decide) ?_
        exact z_iret hx hF dJ1_indexOfChar_4cfef_32 rfl rfl ⟨by first | rw [(zi2b j (by omega) c hc).mp zc19, zIx_at j (by omega)] | rw [zIx_no (fun i hi => hno i (by omega))], rfl⟩
      · skip
        refine z_aload_n hx dJ1_indexOfChar_4cfef_13 rfl ?_
        refine z_iload hx dJ1_indexOfChar_4cfef_14 rfl ?_
        refine z_sbal hx (by omega) dJ1_indexOfChar_4cfef_16 ?_
        refine z_iload hx dJ1_indexOfChar_4cfef_17 rfl ?_
        refine z_icmp_ne (tgt := 25) hx dJ1_indexOfChar_4cfef_19 (by decide) (fun zc19 => ?_) (fun zc19 => ?_)
        · skip
          first | refine z_iincN (z := 1) hx dJ1_indexOfChar_4cfef_25 rfl rfl ?_ | refine z_iinc hx dJ1_indexOfChar_4cfef_25 rfl rfl rfl ?_
          refine z_goto (tgt := 7) hx dJ1_indexOfChar_4cfef_28 (by decide) ?_
          exact ih _ (by omega) (j + 1) rfl (by omega) (fun i hi => by rcases (show i < j ∨ i = j by omega) with h | h; exact hno i h; rw [h]; exact fun e => zc19 ((zi2b j (by omega) c hc).mpr e))
        · skip
          refine z_iload hx dJ1_indexOfChar_4cfef_22 rfl ?_
          exact z_iret hx hF dJ1_indexOfChar_4cfef_24 rfl rfl ⟨by first | rw [(zi2b j (by omega) c hc).mp zc19, zIx_at j (by omega)] | rw [zIx_no (fun i hi => hno i (by omega))], rfl⟩
  refine z_iload_n hx dJ1_indexOfChar_4cfef_0 rfl ?_
  refine z_i2b hx dJ1_indexOfChar_4cfef_1 ?_
  refine z_istore hx dJ1_indexOfChar_4cfef_2 (Nat.le_of_ble_eq_true rfl) rfl ?_
  refine z_iload_n hx dJ1_indexOfChar_4cfef_4 rfl ?_
  refine z_istore hx dJ1_indexOfChar_4cfef_5 (Nat.le_of_ble_eq_true rfl) rfl ?_
  exact loop7 _ 0 rfl (by omega) (fun i hi => absurd hi (by omega))

set_option maxHeartbeats 4000000 in
set_option maxRecDepth 100000 in
theorem qJ1_indexOf_4cfef (c : Nat) (hc : c < 256) : zMi mJ1_indexOf_4cfef 1 ([.ref 1001, .int (nI c), .int (nI 0), .int (nI 5)]) ([]) (fun z u => z = zIx c ∧ u = []) := by
  refine zMi.of (by decide) (Nat.le_of_ble_eq_true rfl) (fun x hx hF => ?_)
  refine z_iload_n hx dJ1_indexOf_4cfef_0 rfl ?_
  refine z_callisP hx [] (qJ1_canEncode_9a6ad c hc) dJ1_indexOf_4cfef_1 sJ1_88 rfl rfl rfl (by decide) (by decide) rfl (Nat.le_of_ble_eq_true rfl) (by decide) ?_
  refine z_if_neN (tgt := 9) hx dJ1_indexOf_4cfef_4 (by decide) (by omega) (fun zc4 => ?_) (fun zc4 => ?_)
  · skip
    refine z_iload_n hx dJ1_indexOf_4cfef_9 rfl ?_
    refine z_iconst (v := nI 0) hx dJ1_indexOf_4cfef_10 (by decide) ?_
    refine z_mmax hx dJ1_indexOf_4cfef_11 sJ1_92 (by omega) (by omega) rfl (by decide) (Nat.le_of_ble_eq_true rfl) ?_
    refine z_istore_n hx dJ1_indexOf_4cfef_14 (Nat.le_of_ble_eq_true rfl) rfl ?_
    refine z_iload_n hx dJ1_indexOf_4cfef_15 rfl ?_
    refine z_aload_n hx dJ1_indexOf_4cfef_16 rfl ?_
    refine z_slen hx dJ1_indexOf_4cfef_17 ?_
    refine z_mmin hx dJ1_indexOf_4cfef_18 sJ1_38 (by omega) (by omega) rfl (by decide) (Nat.le_of_ble_eq_true rfl) ?_
    refine z_istore_n hx dJ1_indexOf_4cfef_21 (Nat.le_of_ble_eq_true rfl) rfl ?_
    refine z_iload_n hx dJ1_indexOf_4cfef_22 rfl ?_
    refine z_iload_n hx dJ1_indexOf_4cfef_23 rfl ?_
    first | refine z_icmp_ltN (tgt := 29) hx dJ1_indexOf_4cfef_24 (by decide) (by omega) (by omega) (fun zc24 => ?_) (fun zc24 => ?_) | refine z_icmp_lt (tgt := 29) hx dJ1_indexOf_4cfef_24 (by decide) (fun zc24 => ?_) (fun zc24 => ?_)
    · skip
      refine z_aload_n hx dJ1_indexOf_4cfef_29 rfl ?_
      refine z_iload_n hx dJ1_indexOf_4cfef_30 rfl ?_
      refine z_iload_n hx dJ1_indexOf_4cfef_31 rfl ?_
      refine z_iload_n hx dJ1_indexOf_4cfef_32 rfl ?_
      refine z_callisP hx [] (qJ1_indexOfChar_4cfef c hc) dJ1_indexOf_4cfef_33 sJ1_95 rfl rfl rfl (by decide) (by decide) rfl (Nat.le_of_ble_eq_true rfl) (by decide) ?_
      exact z_iret hx hF dJ1_indexOf_4cfef_36 rfl rfl ⟨rfl, rfl⟩
    · skip
      exact absurd zc24 (by decide)
  · skip
    exfalso; omega

set_option maxHeartbeats 4000000 in
set_option maxRecDepth 100000 in
theorem qJ0_isLatin1_aae02  : zMi mJ0_isLatin1_aae02 0 ([.ref 1000]) ([]) (fun z u => z = nI 1 ∧ u = []) := by
  refine zMi.of (by decide) (Nat.le_of_ble_eq_true rfl) (fun x hx hF => ?_)
  refine z_gets hx dJ0_isLatin1_aae02_0 fJ0_38 ?_
  refine z_if_eq (tgt := 17) hx dJ0_isLatin1_aae02_3 (by decide) (fun zc3 => ?_) (fun zc3 => ?_)
  · skip
    exact absurd zc3 (by decide)
  · skip
    refine z_aload_n hx dJ0_isLatin1_aae02_6 rfl ?_
    refine z_scod hx dJ0_isLatin1_aae02_7 fJ0_15 ?_
    refine z_if_ne (tgt := 17) hx dJ0_isLatin1_aae02_10 (by decide) (fun zc10 => ?_) (fun zc10 => ?_)
    · skip
      exact absurd rfl zc10
    · skip
      refine z_iconst (v := nI 1) hx dJ0_isLatin1_aae02_13 (by decide) ?_
      refine z_goto (tgt := 18) hx dJ0_isLatin1_aae02_14 (by decide) ?_
      exact z_zret hx hF dJ0_isLatin1_aae02_18 rfl (by first | exact bP_nar _ | rfl) rfl ⟨rfl, rfl⟩

set_option maxHeartbeats 4000000 in
set_option maxRecDepth 100000 in
theorem qJ0_coder_7d493  : zMi mJ0_coder_7d493 0 ([.ref 1000]) ([]) (fun z u => z = 0 ∧ u = []) := by
  refine zMi.of (by decide) (Nat.le_of_ble_eq_true rfl) (fun x hx hF => ?_)
  refine z_gets hx dJ0_coder_7d493_0 fJ0_38 ?_
  refine z_if_eq (tgt := 13) hx dJ0_coder_7d493_3 (by decide) (fun zc3 => ?_) (fun zc3 => ?_)
  · skip
    exact absurd zc3 (by decide)
  · skip
    refine z_aload_n hx dJ0_coder_7d493_6 rfl ?_
    refine z_scod hx dJ0_coder_7d493_7 fJ0_15 ?_
    refine z_goto (tgt := 14) hx dJ0_coder_7d493_10 (by decide) ?_
    exact z_byret hx hF dJ0_coder_7d493_14 rfl rfl rfl ⟨rfl, rfl⟩

set_option maxHeartbeats 4000000 in
set_option maxRecDepth 100000 in
theorem qJ0_length_8abf5  : zMi mJ0_length_8abf5 1 ([.ref 1000]) ([]) (fun z u => z = nI 5 ∧ u = []) := by
  refine zMi.of (by decide) (Nat.le_of_ble_eq_true rfl) (fun x hx hF => ?_)
  refine z_aload_n hx dJ0_length_8abf5_0 rfl ?_
  refine z_sval hx dJ0_length_8abf5_1 fJ0_9 ?_
  refine z_slen hx dJ0_length_8abf5_4 ?_
  refine z_aload_n hx dJ0_length_8abf5_5 rfl ?_
  refine z_callivT hx (qJ0_coder_7d493) dJ0_length_8abf5_6 sJ0_335 rfl rfl rfl rfl (Nat.le_of_ble_eq_true rfl) (by decide) ?_
  refine z_ishr hx dJ0_length_8abf5_9 ?_
  exact z_iret hx hF dJ0_length_8abf5_10 rfl rfl ⟨by decide, rfl⟩

set_option maxHeartbeats 4000000 in
set_option maxRecDepth 100000 in
theorem qJ0_indexOf_7cf53 (c : Nat) (hc : c < 256) : zMi mJ0_indexOf_7cf53 2 ([.ref 1000, .int (nI c), .int (nI 0)]) ([]) (fun z u => z = zIx c ∧ u = []) := by
  refine zMi.of (by decide) (Nat.le_of_ble_eq_true rfl) (fun x hx hF => ?_)
  refine z_aload_n hx dJ0_indexOf_7cf53_0 rfl ?_
  refine z_callivT hx (qJ0_isLatin1_aae02) dJ0_indexOf_7cf53_1 sJ0_492 rfl rfl rfl rfl (Nat.le_of_ble_eq_true rfl) (by decide) ?_
  refine z_if_eqN (tgt := 23) hx dJ0_indexOf_7cf53_4 (by decide) (by omega) (fun zc4 => ?_) (fun zc4 => ?_)
  · skip
    exfalso; omega
  · skip
    refine z_aload_n hx dJ0_indexOf_7cf53_7 rfl ?_
    refine z_sval hx dJ0_indexOf_7cf53_8 fJ0_9 ?_
    refine z_iload_n hx dJ0_indexOf_7cf53_11 rfl ?_
    refine z_iload_n hx dJ0_indexOf_7cf53_12 rfl ?_
    refine z_aload_n hx dJ0_indexOf_7cf53_13 rfl ?_
    refine z_callivT hx (qJ0_length_8abf5) dJ0_indexOf_7cf53_14 sJ0_505 rfl rfl rfl rfl (Nat.le_of_ble_eq_true rfl) (by decide) ?_
    refine z_callisP hx [] (qJ1_indexOf_4cfef c hc) dJ0_indexOf_7cf53_17 sJ0_637 rfl rfl rfl (by decide) (by decide) rfl (Nat.le_of_ble_eq_true rfl) (by decide) ?_
    refine z_goto (tgt := 36) hx dJ0_indexOf_7cf53_20 (by decide) ?_
    exact z_iret hx hF dJ0_indexOf_7cf53_36 rfl rfl ⟨rfl, rfl⟩

set_option maxHeartbeats 4000000 in
set_option maxRecDepth 100000 in
theorem qJ0_indexOf_0f7a4 (c : Nat) (hc : c < 256) : zMi mJ0_indexOf_0f7a4 3 ([.ref 1000, .int (nI c)]) ([]) (fun z u => z = zIx c ∧ u = []) := by
  refine zMi.of (by decide) (Nat.le_of_ble_eq_true rfl) (fun x hx hF => ?_)
  refine z_aload_n hx dJ0_indexOf_0f7a4_0 rfl ?_
  refine z_iload_n hx dJ0_indexOf_0f7a4_1 rfl ?_
  refine z_iconst (v := nI 0) hx dJ0_indexOf_0f7a4_2 (by decide) ?_
  refine z_callivT hx (qJ0_indexOf_7cf53 c hc) dJ0_indexOf_0f7a4_3 sJ0_633 rfl rfl rfl rfl (Nat.le_of_ble_eq_true rfl) (by decide) ?_
  exact z_iret hx hF dJ0_indexOf_0f7a4_6 rfl rfl ⟨rfl, rfl⟩

