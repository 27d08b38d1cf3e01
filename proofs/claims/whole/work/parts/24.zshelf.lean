/-! the shelf's cells -/
def hSh (la : Nat → Nat) (sz : Nat → Option Nat) (it : Nat → Nat → Int32) : List zE := [zO 8 [.ref 1, .ref 2, .ref 3], zR 4 [.ref 4, .ref 5, .ref 6, .ref 7, .ref 8, .ref 9, .ref 10, .ref 11], zN 8 la, zI 8 (fun j => tI (sz j)), zI 40 (it 0), zI 40 (it 1), zI 40 (it 2), zI 40 (it 3), zI 40 (it 4), zI 40 (it 5), zI 40 (it 6), zI 40 (it 7)]
def zuo {α : Type} (f : Nat → α) (k : Nat) (v : α) : Nat → α := fun j => if j = k then v else f j
theorem zuo_s {α : Type} {f : Nat → α} {k : Nat} {v : α} : zuo f k v k = v := if_pos rfl
theorem zuo_n {α : Type} {f : Nat → α} {k j : Nat} {v : α} (h : j ≠ k) : zuo f k v j = f j := if_neg h
theorem z8 {P : Nat → Prop} {k : Nat} (hk : k < 8) (h0 : P 0) (h1 : P 1) (h2 : P 2) (h3 : P 3) (h4 : P 4) (h5 : P 5) (h6 : P 6) (h7 : P 7) : P k := by
  rcases (show k = 0 ∨ k = 1 ∨ k = 2 ∨ k = 3 ∨ k = 4 ∨ k = 5 ∨ k = 6 ∨ k = 7 by omega) with rfl | rfl | rfl | rfl | rfl | rfl | rfl | rfl <;> assumption
theorem hSh_row {la : Nat → Nat} {sz : Nat → Option Nat} {it : Nat → Nat → Int32} {j : Nat} (hj : j < 8) : (hSh la sz it)[4 + j]? = some (zI 40 (it j)) := z8 (P := fun j => (hSh la sz it)[4 + j]? = some (zI 40 (it j))) hj rfl rfl rfl rfl rfl rfl rfl rfl
theorem hSh_set {la : Nat → Nat} {sz : Nat → Option Nat} {it : Nat → Nat → Int32} {j : Nat} (hj : j < 8) (g : Nat → Int32) : (hSh la sz it).set (4 + j) (zI 40 g) = hSh la sz (zuo it j g) := z8 (P := fun j => (hSh la sz it).set (4 + j) (zI 40 g) = hSh la sz (zuo it j g)) hj rfl rfl rfl rfl rfl rfl rfl rfl
theorem hSh_ref {j : Nat} (hj : j < 8) : ([.ref 4, .ref 5, .ref 6, .ref 7, .ref 8, .ref 9, .ref 10, .ref 11] : List Value)[j]? = some (.ref (4 + j)) := z8 (P := fun j => ([.ref 4, .ref 5, .ref 6, .ref 7, .ref 8, .ref 9, .ref 10, .ref 11] : List Value)[j]? = some (.ref (4 + j))) hj rfl rfl rfl rfl rfl rfl rfl rfl
theorem zuo_tI (sz : Nat → Option Nat) (j : Nat) (v : Option Nat) : upd (fun j => tI (sz j)) j (tI v) = fun k => tI (zuo sz j v k) := by
  funext k
  unfold upd zuo
  split <;> rfl
theorem tI_m1 {x : Option Nat} (h : ∀ n, x = some n → n ≤ 40) : tI x = -1 ↔ x = none := by
  cases x with
  | none => exact ⟨fun _ => rfl, fun _ => rfl⟩
  | some n =>
    have := h n rfl
    constructor
    · intro e
      have h2 := congrArg Int32.toInt e
      have h3 : (tI (some n)).toInt = n := nI_toInt (by omega)
      have h4 : (-1 : Int32).toInt = -1 := by decide
      omega
    · intro e; cases e
def zRok (sz : Nat → Option Nat) : Prop := ∀ j n, sz j = some n → n ≤ 40
/-- a part of a row -/
def zPart (s : Nat) (i n : Int32) : Prop := ∃ a b, i = nI a ∧ n = nI b ∧ a + b ≤ s
def zHm (sz : Nat → Option Nat) : Nat → Nat
  | 0 => 0
  | k + 1 => zHm sz k + (if sz k = none then 0 else 1)
noncomputable def zII (c : Prop) (a b : Int32) : Int32 := @ite _ c (Classical.propDecidable c) a b
theorem zII_t {c : Prop} {a b : Int32} (h : c) : zII c a b = a := by unfold zII; rw [if_pos h]
theorem zII_f {c : Prop} {a b : Int32} (h : ¬ c) : zII c a b = b := by unfold zII; rw [if_neg h]
/-- what a lane keeps -/
def zCut (ln : Nat) (v : Int32) : Int32 := if ln = 0 then v.toInt8.toInt32 else if ln = 1 then v.toInt16.toInt32 else v
set_option maxHeartbeats 4000000 in
set_option maxRecDepth 100000 in
theorem qX8_isMissing (la : Nat → Nat) (sz : Nat → Option Nat) (it : Nat → Nat → Int32) (hs : zRok sz) (j : Nat) (hj : j < 8) : zMi mX8_isMissing 0 ([.ref 0, .int (nI j)]) (hSh la sz it) (fun z u => z = bP (sz j = none) ∧ u = hSh la sz it) := by
  refine zMi.of (by decide) (Nat.le_of_ble_eq_true rfl) (fun x hx hF => ?_)
  refine z_aload_n hx dX8_isMissing_0 rfl ?_
  refine z_get hx dX8_isMissing_1 fX8_20 rfl rfl ?_
  refine z_iload_n hx dX8_isMissing_4 rfl ?_
  refine z_ialdJ hx dX8_isMissing_5 rfl (by decide) (by omega) ?_
  refine z_iconst (v := (-1)) hx dX8_isMissing_6 (by decide) ?_
  refine z_icmp_ne (tgt := 14) hx dX8_isMissing_7 (by decide) (fun zc7 => ?_) (fun zc7 => ?_)
  · skip
    refine z_iconst (v := nI 0) hx dX8_isMissing_14 (by decide) ?_
    exact z_zret hx hF dX8_isMissing_15 rfl (by first | exact bP_nar _ | rfl) rfl ⟨by first | exact (bP_t ((tI_m1 (hs j)).mp zc7)).symm | exact (bP_f (fun e => zc7 ((tI_m1 (hs j)).mpr e))).symm, rfl⟩
  · skip
    refine z_iconst (v := nI 1) hx dX8_isMissing_10 (by decide) ?_
    refine z_goto (tgt := 15) hx dX8_isMissing_11 (by decide) ?_
    exact z_zret hx hF dX8_isMissing_15 rfl (by first | exact bP_nar _ | rfl) rfl ⟨by first | exact (bP_t ((tI_m1 (hs j)).mp zc7)).symm | exact (bP_f (fun e => zc7 ((tI_m1 (hs j)).mpr e))).symm, rfl⟩

set_option maxHeartbeats 4000000 in
set_option maxRecDepth 100000 in
theorem qX8_howMany (la : Nat → Nat) (sz : Nat → Option Nat) (it : Nat → Nat → Int32) (hs : zRok sz) : zMi mX8_howMany 1 ([.ref 0]) (hSh la sz it) (fun z u => z = nI (zHm sz 8) ∧ u = hSh la sz it) := by
  refine zMi.of (by decide) (Nat.le_of_ble_eq_true rfl) (fun x hx hF => ?_)
  have loop4 : ∀ (n4 : Nat) (k : Nat), 8 - k = n4 → k ≤ 8 → zV x 4 [some (.ref 0), some (.int (nI (zHm sz k))), some (.int (nI k))] ([]) (hSh la sz it) := by
    intro n4
    induction n4 using Nat.strongRecOn with
    | ind n4 ih =>
      intro k hn hk
      refine z_iload_n hx dX8_howMany_4 rfl ?_
      refine z_bipush (v := nI 8) hx dX8_howMany_5 (by decide) ?_
      first | refine z_icmp_geN (tgt := 27) hx dX8_howMany_7 (by decide) (by omega) (by omega) (fun zc7 => ?_) (fun zc7 => ?_) | refine z_icmp_ge (tgt := 27) hx dX8_howMany_7 (by decide) (fun zc7 => ?_) (fun zc7 => ?_)
      · skip
        refine z_iload_n hx dX8_howMany_27 rfl ?_
        exact z_iret hx hF dX8_howMany_28 rfl rfl ⟨by rw [show k = 8 by omega], rfl⟩
      · skip
        refine z_aload_n hx dX8_howMany_10 rfl ?_
        refine z_iload_n hx dX8_howMany_11 rfl ?_
        refine z_callivF hx (qX8_isMissing la sz it hs _ (by omega)) dX8_howMany_12 sX8_29 rfl rfl rfl rfl (Nat.le_of_ble_eq_true rfl) rfl (Nat.le_of_ble_eq_true rfl) (by decide) ?_
        first | refine z_if_neB (tgt := 21) hx dX8_howMany_15 (by decide) (fun zc15 => ?_) (fun zc15 => ?_) | refine z_if_neN (tgt := 21) hx dX8_howMany_15 (by decide) (by omega) (fun zc15 => ?_) (fun zc15 => ?_) | refine z_if_ne (tgt := 21) hx dX8_howMany_15 (by decide) (fun zc15 => ?_) (fun zc15 => ?_)
        · skip
          first | refine z_iincN (z := 1) hx dX8_howMany_21 rfl rfl ?_ | refine z_iinc hx dX8_howMany_21 rfl rfl rfl ?_
          refine z_goto (tgt := 4) hx dX8_howMany_24 (by decide) ?_
          exact z_eq (by first | (rw [show zHm sz (k + 1) = zHm sz k + 1 from by rw [zHm, if_neg zc15]]; rfl) | (rw [show zHm sz (k + 1) = zHm sz k from by rw [zHm, if_pos zc15]; rfl]; rfl)) rfl rfl (ih _ (by omega) (k + 1) rfl (by omega))
        · skip
          first | refine z_iincN (z := 1) hx dX8_howMany_18 rfl rfl ?_ | refine z_iinc hx dX8_howMany_18 rfl rfl rfl ?_
          first | refine z_iincN (z := 1) hx dX8_howMany_21 rfl rfl ?_ | refine z_iinc hx dX8_howMany_21 rfl rfl rfl ?_
          refine z_goto (tgt := 4) hx dX8_howMany_24 (by decide) ?_
          exact z_eq (by first | (rw [show zHm sz (k + 1) = zHm sz k + 1 from by rw [zHm, if_neg zc15]]; rfl) | (rw [show zHm sz (k + 1) = zHm sz k from by rw [zHm, if_pos zc15]; rfl]; rfl)) rfl rfl (ih _ (by omega) (k + 1) rfl (by omega))
  refine z_iconst (v := nI 0) hx dX8_howMany_0 (by decide) ?_
  refine z_istore_n hx dX8_howMany_1 (Nat.le_of_ble_eq_true rfl) rfl ?_
  refine z_iconst (v := nI 0) hx dX8_howMany_2 (by decide) ?_
  refine z_istore_n hx dX8_howMany_3 (Nat.le_of_ble_eq_true rfl) rfl ?_
  exact loop4 _ 0 rfl (by omega)

set_option maxHeartbeats 4000000 in
set_option maxRecDepth 100000 in
theorem qX8_make (la : Nat → Nat) (sz : Nat → Option Nat) (it : Nat → Nat → Int32) (j ln n : Nat) (hj : j < 8) : zMv mX8_make 1 ([.ref 0, .int (nI j), .int (nI ln), .int (nI n)]) (hSh la sz it) (fun u => u = hSh (zup la j ln) (zuo sz j (some n)) (zuo it j (fun _ => 0))) := by
  refine zMv.of (by decide) (Nat.le_of_ble_eq_true rfl) (fun x hx hF => ?_)
  refine z_aload_n hx dX8_make_0 rfl ?_
  refine z_get hx dX8_make_1 fX8_16 rfl rfl ?_
  refine z_iload_n hx dX8_make_4 rfl ?_
  refine z_iload_n hx dX8_make_5 rfl ?_
  refine z_iastN hx dX8_make_6 rfl (by decide) (by omega) ?_
  refine z_heap (show _ = hSh (zup la j ln) sz it from rfl) ?_
  refine z_aload_n hx dX8_make_7 rfl ?_
  refine z_get hx dX8_make_8 fX8_20 rfl rfl ?_
  refine z_iload_n hx dX8_make_11 rfl ?_
  refine z_iload_n hx dX8_make_12 rfl ?_
  refine z_iastJ hx dX8_make_13 rfl (by decide) (by omega) ?_
  refine z_heap (show _ = hSh (zup la j ln) (zuo sz j (some n)) it by unfold hSh; rw [← zuo_tI]; rfl) ?_
  refine z_aload_n hx dX8_make_14 rfl ?_
  refine z_get hx dX8_make_15 fX8_11 rfl rfl ?_
  refine z_iload_n hx dX8_make_18 rfl ?_
  refine z_aald2 hx dX8_make_19 rfl (by show _ < 8; omega) (by decide) (hSh_ref hj) ?_
  refine z_iconst (v := nI 0) hx dX8_make_20 (by decide) ?_
  refine z_callvsE hx [4 + j] (qJ7_fill_53178 40 (by decide) (it j) (nI 0)) dX8_make_21 sX8_23 (by simp only [zsub, List.map_cons, List.map_nil]; rw [hSh_row hj]; rfl) rfl rfl (by simp) (by decide : 1 ≤ 1000) rfl (Nat.le_of_ble_eq_true rfl) (by decide) ?_
  refine z_heap (show _ = hSh (zup la j ln) (zuo sz j (some n)) (zuo it j (fun _ => 0)) from hSh_set hj _) ?_
  exact z_vret hx hF dX8_make_24 rfl rfl rfl

set_option maxHeartbeats 4000000 in
set_option maxRecDepth 100000 in
theorem qX8_remove (la : Nat → Nat) (sz : Nat → Option Nat) (it : Nat → Nat → Int32) (j : Nat) (hj : j < 8) : zMi mX8_remove 0 ([.ref 0, .int (nI j)]) (hSh la sz it) (fun z u => z = tI (sz j) ∧ u = hSh la (zuo sz j none) it) := by
  refine zMi.of (by decide) (Nat.le_of_ble_eq_true rfl) (fun x hx hF => ?_)
  refine z_aload_n hx dX8_remove_0 rfl ?_
  refine z_get hx dX8_remove_1 fX8_20 rfl rfl ?_
  refine z_iload_n hx dX8_remove_4 rfl ?_
  refine z_ialdJ hx dX8_remove_5 rfl (by decide) (by omega) ?_
  refine z_istore_n hx dX8_remove_6 (Nat.le_of_ble_eq_true rfl) rfl ?_
  refine z_aload_n hx dX8_remove_7 rfl ?_
  refine z_get hx dX8_remove_8 fX8_20 rfl rfl ?_
  refine z_iload_n hx dX8_remove_11 rfl ?_
  refine z_iconst (v := (-1)) hx dX8_remove_12 (by decide) ?_
  refine z_iastJ hx dX8_remove_13 rfl (by decide) (by omega) ?_
  refine z_heap (show _ = hSh la (zuo sz j none) it by unfold hSh; rw [← zuo_tI]; rfl) ?_
  refine z_iload_n hx dX8_remove_14 rfl ?_
  exact z_iret hx hF dX8_remove_15 rfl rfl ⟨rfl, rfl⟩

set_option maxHeartbeats 4000000 in
set_option maxRecDepth 100000 in
theorem qX8_itemAt (la : Nat → Nat) (sz : Nat → Option Nat) (it : Nat → Nat → Int32) (j k : Nat) (hj : j < 8) (hk : k < 40) : zMi mX8_itemAt 0 ([.ref 0, .int (nI j), .int (nI k)]) (hSh la sz it) (fun z u => z = it j k ∧ u = hSh la sz it) := by
  refine zMi.of (by decide) (Nat.le_of_ble_eq_true rfl) (fun x hx hF => ?_)
  refine z_aload_n hx dX8_itemAt_0 rfl ?_
  refine z_get hx dX8_itemAt_1 fX8_11 rfl rfl ?_
  refine z_iload_n hx dX8_itemAt_4 rfl ?_
  refine z_aald2 hx dX8_itemAt_5 rfl (by show _ < 8; omega) (by decide) (hSh_ref hj) ?_
  refine z_iload_n hx dX8_itemAt_6 rfl ?_
  refine z_ialdJ hx dX8_itemAt_7 (hSh_row hj) (by decide) hk ?_
  exact z_iret hx hF dX8_itemAt_8 rfl rfl ⟨rfl, rfl⟩

set_option maxHeartbeats 4000000 in
set_option maxRecDepth 100000 in
theorem qX8_put (la : Nat → Nat) (sz : Nat → Option Nat) (it : Nat → Nat → Int32) (j k : Nat) (hj : j < 8) (hk : k < 40) (hl : la j ≤ 2) (v : Int32) : zMi mX8_put 0 ([.ref 0, .int (nI j), .int (nI k), .int v]) (hSh la sz it) (fun z u => z = zCut (la j) v ∧ u = hSh la sz (zuo it j (upd (it j) k (zCut (la j) v)))) := by
  refine zMi.of (by decide) (Nat.le_of_ble_eq_true rfl) (fun x hx hF => ?_)
  refine z_iload_n hx dX8_put_0 rfl ?_
  refine z_istore hx dX8_put_1 (Nat.le_of_ble_eq_true rfl) rfl ?_
  refine z_aload_n hx dX8_put_3 rfl ?_
  refine z_get hx dX8_put_4 fX8_16 rfl rfl ?_
  refine z_iload_n hx dX8_put_7 rfl ?_
  refine z_ialdJ hx dX8_put_8 rfl (by decide) (by omega) ?_
  first | refine z_if_neB (tgt := 19) hx dX8_put_9 (by decide) (fun zc9 => ?_) (fun zc9 => ?_) | refine z_if_neN (tgt := 19) hx dX8_put_9 (by decide) (by omega) (fun zc9 => ?_) (fun zc9 => ?_) | refine z_if_ne (tgt := 19) hx dX8_put_9 (by decide) (fun zc9 => ?_) (fun zc9 => ?_)
  · skip
    refine z_aload_n hx dX8_put_19 rfl ?_
    refine z_get hx dX8_put_20 fX8_16 rfl rfl ?_
    refine z_iload_n hx dX8_put_23 rfl ?_
    refine z_ialdJ hx dX8_put_24 rfl (by decide) (by omega) ?_
    refine z_iconst (v := nI 1) hx dX8_put_25 (by decide) ?_
    first | refine z_icmp_neN (tgt := 33) hx dX8_put_26 (by decide) (by omega) (by omega) (fun zc26 => ?_) (fun zc26 => ?_) | refine z_icmp_ne (tgt := 33) hx dX8_put_26 (by decide) (fun zc26 => ?_) (fun zc26 => ?_)
    · skip
      refine z_aload_n hx dX8_put_33 rfl ?_
      refine z_get hx dX8_put_34 fX8_11 rfl rfl ?_
      refine z_iload_n hx dX8_put_37 rfl ?_
      refine z_aald2 hx dX8_put_38 rfl (by show _ < 8; omega) (by decide) (hSh_ref hj) ?_
      refine z_iload_n hx dX8_put_39 rfl ?_
      refine z_iload hx dX8_put_40 rfl ?_
      refine z_iastJ hx dX8_put_42 (hSh_row hj) (by decide) hk ?_
      refine z_heap (hSh_set hj _) ?_
      refine z_iload hx dX8_put_43 rfl ?_
      exact z_iret hx hF dX8_put_45 rfl rfl (by have e : zCut (la j) v = _ := (by unfold zCut; first | rw [if_pos zc9] | rw [if_neg (by omega), if_pos zc26] | rw [if_neg (by omega), if_neg zc26]); rw [e]; exact ⟨rfl, rfl⟩)
    · skip
      refine z_iload_n hx dX8_put_29 rfl ?_
      refine z_i2s hx dX8_put_30 ?_
      refine z_istore hx dX8_put_31 (Nat.le_of_ble_eq_true rfl) rfl ?_
      refine z_aload_n hx dX8_put_33 rfl ?_
      refine z_get hx dX8_put_34 fX8_11 rfl rfl ?_
      refine z_iload_n hx dX8_put_37 rfl ?_
      refine z_aald2 hx dX8_put_38 rfl (by show _ < 8; omega) (by decide) (hSh_ref hj) ?_
      refine z_iload_n hx dX8_put_39 rfl ?_
      refine z_iload hx dX8_put_40 rfl ?_
      refine z_iastJ hx dX8_put_42 (hSh_row hj) (by decide) hk ?_
      refine z_heap (hSh_set hj _) ?_
      refine z_iload hx dX8_put_43 rfl ?_
      exact z_iret hx hF dX8_put_45 rfl rfl (by have e : zCut (la j) v = _ := (by unfold zCut; first | rw [if_pos zc9] | rw [if_neg (by omega), if_pos zc26] | rw [if_neg (by omega), if_neg zc26]); rw [e]; exact ⟨rfl, rfl⟩)
  · skip
    refine z_iload_n hx dX8_put_12 rfl ?_
    refine z_i2b hx dX8_put_13 ?_
    refine z_istore hx dX8_put_14 (Nat.le_of_ble_eq_true rfl) rfl ?_
    refine z_goto (tgt := 33) hx dX8_put_16 (by decide) ?_
    refine z_aload_n hx dX8_put_33 rfl ?_
    refine z_get hx dX8_put_34 fX8_11 rfl rfl ?_
    refine z_iload_n hx dX8_put_37 rfl ?_
    refine z_aald2 hx dX8_put_38 rfl (by show _ < 8; omega) (by decide) (hSh_ref hj) ?_
    refine z_iload_n hx dX8_put_39 rfl ?_
    refine z_iload hx dX8_put_40 rfl ?_
    refine z_iastJ hx dX8_put_42 (hSh_row hj) (by decide) hk ?_
    refine z_heap (hSh_set hj _) ?_
    refine z_iload hx dX8_put_43 rfl ?_
    exact z_iret hx hF dX8_put_45 rfl rfl (by have e : zCut (la j) v = _ := (by unfold zCut; first | rw [if_pos zc9] | rw [if_neg (by omega), if_pos zc26] | rw [if_neg (by omega), if_neg zc26]); rw [e]; exact ⟨rfl, rfl⟩)

set_option maxHeartbeats 4000000 in
set_option maxRecDepth 100000 in
theorem qX8_move (la : Nat → Nat) (sz : Nat → Option Nat) (it : Nat → Nat → Int32) (a i b j n : Nat) (ha : a < 8) (hb : b < 8) (hi : i + n ≤ 40) (hj : j + n ≤ 40) : zMv mX8_move 1 ([.ref 0, .int (nI a), .int (nI i), .int (nI b), .int (nI j), .int (nI n)]) (hSh la sz it) (fun u => u = hSh la sz (zuo it b (va_cpy (it a) (it b) i j n))) := by
  refine zMv.of (by decide) (Nat.le_of_ble_eq_true rfl) (fun x hx hF => ?_)
  refine z_aload_n hx dX8_move_0 rfl ?_
  refine z_get hx dX8_move_1 fX8_11 rfl rfl ?_
  refine z_iload_n hx dX8_move_4 rfl ?_
  refine z_aald2 hx dX8_move_5 rfl (by show _ < 8; omega) (by decide) (hSh_ref ha) ?_
  refine z_iload_n hx dX8_move_6 rfl ?_
  refine z_aload_n hx dX8_move_7 rfl ?_
  refine z_get hx dX8_move_8 fX8_11 rfl rfl ?_
  refine z_iload_n hx dX8_move_11 rfl ?_
  refine z_aald2 hx dX8_move_12 rfl (by show _ < 8; omega) (by decide) (hSh_ref hb) ?_
  refine z_iload hx dX8_move_13 rfl ?_
  refine z_iload hx dX8_move_15 rfl ?_
  refine z_acopy hx dX8_move_17 aX8_33 (hSh_row ha) (hSh_row hb) (by decide) (by decide) hi hj rfl (by decide) (Nat.le_of_ble_eq_true rfl) ?_
  refine z_heap (hSh_set hb _) ?_
  exact z_vret hx hF dX8_move_20 rfl rfl rfl

theorem fb_rng (x : Int32) : -2147483648 ≤ x.toInt ∧ x.toInt < 2147483648 := by
  have h1 := Int32.le_toInt x
  have h2 := Int32.toInt_lt x
  omega
theorem fb_bmod {z : Int} (h1 : -2147483648 ≤ z) (h2 : z < 2147483648) : z.bmod (2 ^ 32) = z := by
  rw [Int.bmod_eq_of_le (by omega) (by omega)]
theorem fb_subI {x y : Int32} (h1 : -2147483648 ≤ x.toInt - y.toInt) (h2 : x.toInt - y.toInt < 2147483648) : (x - y).toInt = x.toInt - y.toInt := by
  rw [Int32.toInt_sub, fb_bmod h1 h2]
theorem zi0 : (0 : Int32).toInt = 0 := by decide
theorem zspan {s : Nat} {i n : Int32} (hs : s ≤ 40) : zPart s i n ↔ (¬ n < 0 ∧ ¬ i < 0 ∧ ¬ nI s - n < i) := by
  have hn := fb_rng n
  have hi := fb_rng i
  have hsI : (nI s).toInt = s := nI_toInt (by omega)
  rw [Int32.lt_iff_toInt_lt, Int32.lt_iff_toInt_lt, Int32.lt_iff_toInt_lt, zi0]
  constructor
  · rintro ⟨a, b, rfl, rfl, h⟩
    have ha : (nI a).toInt = a := nI_toInt (by omega)
    have hb : (nI b).toInt = b := nI_toInt (by omega)
    rw [fb_subI (by omega) (by omega)]
    omega
  · rintro ⟨h1, h2, h3⟩
    rw [fb_subI (by omega) (by omega)] at h3
    refine ⟨i.toInt.toNat, n.toInt.toNat, Int32.toInt_inj.mp ?_, Int32.toInt_inj.mp ?_, by omega⟩
    · rw [nI_toInt (by omega)]; omega
    · rw [nI_toInt (by omega)]; omega
set_option maxHeartbeats 4000000 in
set_option maxRecDepth 100000 in
theorem qX8_hasSpan (la : Nat → Nat) (sz : Nat → Option Nat) (it : Nat → Nat → Int32) (j s : Nat) (hj : j < 8) (hs : sz j = some s) (h40 : s ≤ 40) (i n : Int32) : zMi mX8_hasSpan 0 ([.ref 0, .int (nI j), .int i, .int n]) (hSh la sz it) (fun z u => z = bP (zPart s i n) ∧ u = hSh la sz it) := by
  refine zMi.of (by decide) (Nat.le_of_ble_eq_true rfl) (fun x hx hF => ?_)
  refine z_iload_n hx dX8_hasSpan_0 rfl ?_
  refine z_if_lt (tgt := 24) hx dX8_hasSpan_1 (by decide) (fun zc1 => ?_) (fun zc1 => ?_)
  · skip
    refine z_iconst (v := nI 0) hx dX8_hasSpan_24 (by decide) ?_
    exact z_zret hx hF dX8_hasSpan_25 rfl (by first | exact bP_nar _ | rfl) rfl ⟨by first | exact (bP_t ((zspan h40).mpr ⟨zc1, zc5, zc17⟩)).symm | exact (bP_f (fun e => ((zspan h40).mp e).1 zc1)).symm | exact (bP_f (fun e => ((zspan h40).mp e).2.1 zc5)).symm | exact (bP_f (fun e => ((zspan h40).mp e).2.2 zc17)).symm, rfl⟩
  · skip
    refine z_iload_n hx dX8_hasSpan_4 rfl ?_
    refine z_if_lt (tgt := 24) hx dX8_hasSpan_5 (by decide) (fun zc5 => ?_) (fun zc5 => ?_)
    · skip
      refine z_iconst (v := nI 0) hx dX8_hasSpan_24 (by decide) ?_
      exact z_zret hx hF dX8_hasSpan_25 rfl (by first | exact bP_nar _ | rfl) rfl ⟨by first | exact (bP_t ((zspan h40).mpr ⟨zc1, zc5, zc17⟩)).symm | exact (bP_f (fun e => ((zspan h40).mp e).1 zc1)).symm | exact (bP_f (fun e => ((zspan h40).mp e).2.1 zc5)).symm | exact (bP_f (fun e => ((zspan h40).mp e).2.2 zc17)).symm, rfl⟩
    · skip
      refine z_iload_n hx dX8_hasSpan_8 rfl ?_
      refine z_aload_n hx dX8_hasSpan_9 rfl ?_
      refine z_get hx dX8_hasSpan_10 fX8_20 rfl rfl ?_
      refine z_iload_n hx dX8_hasSpan_13 rfl ?_
      refine z_ialdJ hx dX8_hasSpan_14 rfl (by decide) (by omega) ?_
      refine z_top (b := nI s) (by rw [hs]; rfl) ?_
      refine z_iload_n hx dX8_hasSpan_15 rfl ?_
      refine z_isub hx dX8_hasSpan_16 ?_
      refine z_icmp_gt (tgt := 24) hx dX8_hasSpan_17 (by decide) (fun zc17 => ?_) (fun zc17 => ?_)
      · skip
        refine z_iconst (v := nI 0) hx dX8_hasSpan_24 (by decide) ?_
        exact z_zret hx hF dX8_hasSpan_25 rfl (by first | exact bP_nar _ | rfl) rfl ⟨by first | exact (bP_t ((zspan h40).mpr ⟨zc1, zc5, zc17⟩)).symm | exact (bP_f (fun e => ((zspan h40).mp e).1 zc1)).symm | exact (bP_f (fun e => ((zspan h40).mp e).2.1 zc5)).symm | exact (bP_f (fun e => ((zspan h40).mp e).2.2 zc17)).symm, rfl⟩
      · skip
        refine z_iconst (v := nI 1) hx dX8_hasSpan_20 (by decide) ?_
        refine z_goto (tgt := 25) hx dX8_hasSpan_21 (by decide) ?_
        exact z_zret hx hF dX8_hasSpan_25 rfl (by first | exact bP_nar _ | rfl) rfl ⟨by first | exact (bP_t ((zspan h40).mpr ⟨zc1, zc5, zc17⟩)).symm | exact (bP_f (fun e => ((zspan h40).mp e).1 zc1)).symm | exact (bP_f (fun e => ((zspan h40).mp e).2.1 zc5)).symm | exact (bP_f (fun e => ((zspan h40).mp e).2.2 zc17)).symm, rfl⟩

set_option maxHeartbeats 4000000 in
set_option maxRecDepth 100000 in
theorem qX8_findingOf_m (la : Nat → Nat) (sz : Nat → Option Nat) (it : Nat → Nat → Int32) (hs : zRok sz) (j : Nat) (hj : j < 8) (hsj : sz j = none) (i n : Int32) : zMi mX8_findingOf 1 ([.ref 0, .int (nI j), .int i, .int n]) (hSh la sz it) (fun z u => z = nI 1 ∧ u = hSh la sz it) := by
  refine zMi.of (by decide) (Nat.le_of_ble_eq_true rfl) (fun x hx hF => ?_)
  refine z_aload_n hx dX8_findingOf_0 rfl ?_
  refine z_iload_n hx dX8_findingOf_1 rfl ?_
  refine z_callivF hx (qX8_isMissing la sz it hs _ (by omega)) dX8_findingOf_2 sX8_29 rfl rfl rfl rfl (Nat.le_of_ble_eq_true rfl) rfl (Nat.le_of_ble_eq_true rfl) (by decide) ?_
  first | refine z_if_eqB (tgt := 10) hx dX8_findingOf_5 (by decide) (fun zc5 => ?_) (fun zc5 => ?_) | refine z_if_eqN (tgt := 10) hx dX8_findingOf_5 (by decide) (by omega) (fun zc5 => ?_) (fun zc5 => ?_) | refine z_if_eq (tgt := 10) hx dX8_findingOf_5 (by decide) (fun zc5 => ?_) (fun zc5 => ?_)
  · skip
    exact absurd hsj zc5
  · skip
    refine z_iconst (v := nI 1) hx dX8_findingOf_8 (by decide) ?_
    exact z_iret hx hF dX8_findingOf_9 rfl rfl ⟨rfl, rfl⟩

set_option maxHeartbeats 4000000 in
set_option maxRecDepth 100000 in
theorem qX8_findingOf (la : Nat → Nat) (sz : Nat → Option Nat) (it : Nat → Nat → Int32) (hs : zRok sz) (j s : Nat) (hj : j < 8) (hsj : sz j = some s) (i n : Int32) : zMi mX8_findingOf 1 ([.ref 0, .int (nI j), .int i, .int n]) (hSh la sz it) (fun z u => (zPart s i n → z = nI 0) ∧ (¬ zPart s i n → z = nI 2) ∧ u = hSh la sz it) := by
  refine zMi.of (by decide) (Nat.le_of_ble_eq_true rfl) (fun x hx hF => ?_)
  have h40 := hs j s hsj
  refine z_aload_n hx dX8_findingOf_0 rfl ?_
  refine z_iload_n hx dX8_findingOf_1 rfl ?_
  refine z_callivF hx (qX8_isMissing la sz it hs _ (by omega)) dX8_findingOf_2 sX8_29 rfl rfl rfl rfl (Nat.le_of_ble_eq_true rfl) rfl (Nat.le_of_ble_eq_true rfl) (by decide) ?_
  first | refine z_if_eqB (tgt := 10) hx dX8_findingOf_5 (by decide) (fun zc5 => ?_) (fun zc5 => ?_) | refine z_if_eqN (tgt := 10) hx dX8_findingOf_5 (by decide) (by omega) (fun zc5 => ?_) (fun zc5 => ?_) | refine z_if_eq (tgt := 10) hx dX8_findingOf_5 (by decide) (fun zc5 => ?_) (fun zc5 => ?_)
  · skip
    refine z_aload_n hx dX8_findingOf_10 rfl ?_
    refine z_iload_n hx dX8_findingOf_11 rfl ?_
    refine z_iload_n hx dX8_findingOf_12 rfl ?_
    refine z_iload_n hx dX8_findingOf_13 rfl ?_
    refine z_callivF hx (qX8_hasSpan la sz it _ s (by omega) hsj h40 _ _) dX8_findingOf_14 sX8_39 rfl rfl rfl rfl (Nat.le_of_ble_eq_true rfl) rfl (Nat.le_of_ble_eq_true rfl) (by decide) ?_
    first | refine z_if_eqB (tgt := 24) hx dX8_findingOf_17 (by decide) (fun zc17 => ?_) (fun zc17 => ?_) | refine z_if_eqN (tgt := 24) hx dX8_findingOf_17 (by decide) (by omega) (fun zc17 => ?_) (fun zc17 => ?_) | refine z_if_eq (tgt := 24) hx dX8_findingOf_17 (by decide) (fun zc17 => ?_) (fun zc17 => ?_)
    · skip
      refine z_iconst (v := nI 2) hx dX8_findingOf_24 (by decide) ?_
      exact z_iret hx hF dX8_findingOf_25 rfl rfl (by first | exact ⟨fun _ => rfl, fun e => absurd zc17 e, rfl⟩ | exact ⟨fun e => absurd e zc17, fun _ => rfl, rfl⟩)
    · skip
      refine z_iconst (v := nI 0) hx dX8_findingOf_20 (by decide) ?_
      refine z_goto (tgt := 25) hx dX8_findingOf_21 (by decide) ?_
      exact z_iret hx hF dX8_findingOf_25 rfl rfl (by first | exact ⟨fun _ => rfl, fun e => absurd zc17 e, rfl⟩ | exact ⟨fun e => absurd e zc17, fun _ => rfl, rfl⟩)
  · skip
    rw [hsj] at zc5; cases zc5

set_option maxHeartbeats 4000000 in
set_option maxRecDepth 100000 in
theorem qX8_findingOfMove_m (la : Nat → Nat) (sz : Nat → Option Nat) (it : Nat → Nat → Int32) (hs : zRok sz) (hla : ∀ j, la j ≤ 2) (a b : Nat) (ha : a < 8) (hb : b < 8) (i j n : Int32) (hm : sz a = none ∨ sz b = none) : zMi mX8_findingOfMove 1 ([.ref 0, .int (nI a), .int i, .int (nI b), .int j, .int n]) (hSh la sz it) (fun z u => z = nI 1 ∧ u = hSh la sz it) := by
  refine zMi.of (by decide) (Nat.le_of_ble_eq_true rfl) (fun x hx hF => ?_)
  have la1 := hla a
  have la2 := hla b
  refine z_aload_n hx dX8_findingOfMove_0 rfl ?_
  refine z_iload_n hx dX8_findingOfMove_1 rfl ?_
  refine z_callivF hx (qX8_isMissing la sz it hs _ (by omega)) dX8_findingOfMove_2 sX8_29 rfl rfl rfl rfl (Nat.le_of_ble_eq_true rfl) rfl (Nat.le_of_ble_eq_true rfl) (by decide) ?_
  first | refine z_if_neB (tgt := 16) hx dX8_findingOfMove_5 (by decide) (fun zc5 => ?_) (fun zc5 => ?_) | refine z_if_neN (tgt := 16) hx dX8_findingOfMove_5 (by decide) (by omega) (fun zc5 => ?_) (fun zc5 => ?_) | refine z_if_ne (tgt := 16) hx dX8_findingOfMove_5 (by decide) (fun zc5 => ?_) (fun zc5 => ?_)
  · skip
    refine z_iconst (v := nI 1) hx dX8_findingOfMove_16 (by decide) ?_
    exact z_iret hx hF dX8_findingOfMove_17 rfl rfl ⟨rfl, rfl⟩
  · skip
    refine z_aload_n hx dX8_findingOfMove_8 rfl ?_
    refine z_iload_n hx dX8_findingOfMove_9 rfl ?_
    refine z_callivF hx (qX8_isMissing la sz it hs _ (by omega)) dX8_findingOfMove_10 sX8_29 rfl rfl rfl rfl (Nat.le_of_ble_eq_true rfl) rfl (Nat.le_of_ble_eq_true rfl) (by decide) ?_
    first | refine z_if_eqB (tgt := 18) hx dX8_findingOfMove_13 (by decide) (fun zc13 => ?_) (fun zc13 => ?_) | refine z_if_eqN (tgt := 18) hx dX8_findingOfMove_13 (by decide) (by omega) (fun zc13 => ?_) (fun zc13 => ?_) | refine z_if_eq (tgt := 18) hx dX8_findingOfMove_13 (by decide) (fun zc13 => ?_) (fun zc13 => ?_)
    · skip
      exact absurd hm (fun h => h.elim zc5 zc13)
    · skip
      refine z_iconst (v := nI 1) hx dX8_findingOfMove_16 (by decide) ?_
      exact z_iret hx hF dX8_findingOfMove_17 rfl rfl ⟨rfl, rfl⟩

set_option maxHeartbeats 4000000 in
set_option maxRecDepth 100000 in
theorem qX8_findingOfMove (la : Nat → Nat) (sz : Nat → Option Nat) (it : Nat → Nat → Int32) (hs : zRok sz) (hla : ∀ j, la j ≤ 2) (a b : Nat) (ha : a < 8) (hb : b < 8) (i j n : Int32) (s1 s2 : Nat) (h1 : sz a = some s1) (h2 : sz b = some s2) : zMi mX8_findingOfMove 1 ([.ref 0, .int (nI a), .int i, .int (nI b), .int j, .int n]) (hSh la sz it) (fun z u => z = (if la a ≠ la b then nI 5 else zII (zPart s1 i n ∧ zPart s2 j n) (nI 0) (nI 2)) ∧ u = hSh la sz it) := by
  refine zMi.of (by decide) (Nat.le_of_ble_eq_true rfl) (fun x hx hF => ?_)
  have la1 := hla a
  have la2 := hla b
  refine z_aload_n hx dX8_findingOfMove_0 rfl ?_
  refine z_iload_n hx dX8_findingOfMove_1 rfl ?_
  refine z_callivF hx (qX8_isMissing la sz it hs _ (by omega)) dX8_findingOfMove_2 sX8_29 rfl rfl rfl rfl (Nat.le_of_ble_eq_true rfl) rfl (Nat.le_of_ble_eq_true rfl) (by decide) ?_
  first | refine z_if_neB (tgt := 16) hx dX8_findingOfMove_5 (by decide) (fun zc5 => ?_) (fun zc5 => ?_) | refine z_if_neN (tgt := 16) hx dX8_findingOfMove_5 (by decide) (by omega) (fun zc5 => ?_) (fun zc5 => ?_) | refine z_if_ne (tgt := 16) hx dX8_findingOfMove_5 (by decide) (fun zc5 => ?_) (fun zc5 => ?_)
  · skip
    rw [h1] at zc5; cases zc5
  · skip
    refine z_aload_n hx dX8_findingOfMove_8 rfl ?_
    refine z_iload_n hx dX8_findingOfMove_9 rfl ?_
    refine z_callivF hx (qX8_isMissing la sz it hs _ (by omega)) dX8_findingOfMove_10 sX8_29 rfl rfl rfl rfl (Nat.le_of_ble_eq_true rfl) rfl (Nat.le_of_ble_eq_true rfl) (by decide) ?_
    first | refine z_if_eqB (tgt := 18) hx dX8_findingOfMove_13 (by decide) (fun zc13 => ?_) (fun zc13 => ?_) | refine z_if_eqN (tgt := 18) hx dX8_findingOfMove_13 (by decide) (by omega) (fun zc13 => ?_) (fun zc13 => ?_) | refine z_if_eq (tgt := 18) hx dX8_findingOfMove_13 (by decide) (fun zc13 => ?_) (fun zc13 => ?_)
    · skip
      refine z_aload_n hx dX8_findingOfMove_18 rfl ?_
      refine z_get hx dX8_findingOfMove_19 fX8_16 rfl rfl ?_
      refine z_iload_n hx dX8_findingOfMove_22 rfl ?_
      refine z_ialdJ hx dX8_findingOfMove_23 rfl (by decide) (by omega) ?_
      refine z_aload_n hx dX8_findingOfMove_24 rfl ?_
      refine z_get hx dX8_findingOfMove_25 fX8_16 rfl rfl ?_
      refine z_iload_n hx dX8_findingOfMove_28 rfl ?_
      refine z_ialdJ hx dX8_findingOfMove_29 rfl (by decide) (by omega) ?_
      first | refine z_icmp_eqN (tgt := 35) hx dX8_findingOfMove_30 (by decide) (by omega) (by omega) (fun zc30 => ?_) (fun zc30 => ?_) | refine z_icmp_eq (tgt := 35) hx dX8_findingOfMove_30 (by decide) (fun zc30 => ?_) (fun zc30 => ?_)
      · skip
        refine z_aload_n hx dX8_findingOfMove_35 rfl ?_
        refine z_iload_n hx dX8_findingOfMove_36 rfl ?_
        refine z_iload_n hx dX8_findingOfMove_37 rfl ?_
        refine z_iload hx dX8_findingOfMove_38 rfl ?_
        refine z_callivF hx (qX8_hasSpan la sz it a s1 ha h1 (hs a s1 h1) i n) dX8_findingOfMove_40 sX8_39 rfl rfl rfl rfl (Nat.le_of_ble_eq_true rfl) rfl (Nat.le_of_ble_eq_true rfl) (by decide) ?_
        first | refine z_if_eqB (tgt := 62) hx dX8_findingOfMove_43 (by decide) (fun zc43 => ?_) (fun zc43 => ?_) | refine z_if_eqN (tgt := 62) hx dX8_findingOfMove_43 (by decide) (by omega) (fun zc43 => ?_) (fun zc43 => ?_) | refine z_if_eq (tgt := 62) hx dX8_findingOfMove_43 (by decide) (fun zc43 => ?_) (fun zc43 => ?_)
        · skip
          refine z_iconst (v := nI 2) hx dX8_findingOfMove_62 (by decide) ?_
          exact z_iret hx hF dX8_findingOfMove_63 rfl rfl ⟨by first | (rw [if_pos zc30]; done) | (rw [if_neg (by omega), zII_t ⟨zc43, zc55⟩]; done) | (rw [if_neg (by omega), zII_f (fun e => zc43 e.1)]; done) | (rw [if_neg (by omega), zII_f (fun e => zc55 e.2)]; done), rfl⟩
        · skip
          refine z_aload_n hx dX8_findingOfMove_46 rfl ?_
          refine z_iload_n hx dX8_findingOfMove_47 rfl ?_
          refine z_iload hx dX8_findingOfMove_48 rfl ?_
          refine z_iload hx dX8_findingOfMove_50 rfl ?_
          refine z_callivF hx (qX8_hasSpan la sz it b s2 hb h2 (hs b s2 h2) j n) dX8_findingOfMove_52 sX8_39 rfl rfl rfl rfl (Nat.le_of_ble_eq_true rfl) rfl (Nat.le_of_ble_eq_true rfl) (by decide) ?_
          first | refine z_if_eqB (tgt := 62) hx dX8_findingOfMove_55 (by decide) (fun zc55 => ?_) (fun zc55 => ?_) | refine z_if_eqN (tgt := 62) hx dX8_findingOfMove_55 (by decide) (by omega) (fun zc55 => ?_) (fun zc55 => ?_) | refine z_if_eq (tgt := 62) hx dX8_findingOfMove_55 (by decide) (fun zc55 => ?_) (fun zc55 => ?_)
          · skip
            refine z_iconst (v := nI 2) hx dX8_findingOfMove_62 (by decide) ?_
            exact z_iret hx hF dX8_findingOfMove_63 rfl rfl ⟨by first | (rw [if_pos zc30]; done) | (rw [if_neg (by omega), zII_t ⟨zc43, zc55⟩]; done) | (rw [if_neg (by omega), zII_f (fun e => zc43 e.1)]; done) | (rw [if_neg (by omega), zII_f (fun e => zc55 e.2)]; done), rfl⟩
          · skip
            refine z_iconst (v := nI 0) hx dX8_findingOfMove_58 (by decide) ?_
            refine z_goto (tgt := 63) hx dX8_findingOfMove_59 (by decide) ?_
            exact z_iret hx hF dX8_findingOfMove_63 rfl rfl ⟨by first | (rw [if_pos zc30]; done) | (rw [if_neg (by omega), zII_t ⟨zc43, zc55⟩]; done) | (rw [if_neg (by omega), zII_f (fun e => zc43 e.1)]; done) | (rw [if_neg (by omega), zII_f (fun e => zc55 e.2)]; done), rfl⟩
      · skip
        refine z_iconst (v := nI 5) hx dX8_findingOfMove_33 (by decide) ?_
        exact z_iret hx hF dX8_findingOfMove_34 rfl rfl ⟨by first | (rw [if_pos zc30]; done) | (rw [if_neg (by omega), zII_t ⟨zc43, zc55⟩]; done) | (rw [if_neg (by omega), zII_f (fun e => zc43 e.1)]; done) | (rw [if_neg (by omega), zII_f (fun e => zc55 e.2)]; done), rfl⟩
    · skip
      rw [h2] at zc13; cases zc13

