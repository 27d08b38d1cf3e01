/-! THE PURE LAYER: cells by their places in a list; a reference is a place; 'zV x pc lv st h': the machine of the context x, at pc, with locals lv, stack st, cells h, comes to its end. -/
def zcv (ad : Nat → Nat) : Value → Value
  | .ref k => .ref (ad k)
  | .int v => .int v
  | .long v => .long v
  | .float v => .float v
  | .double v => .double v
  | .null => .null
  | .retAddr v => .retAddr v
theorem zcv_cat (ad : Nat → Nat) (v : Value) : (zcv ad v).category = v.category := by cases v <;> rfl
theorem zcv_cv (ad g : Nat → Nat) (v : Value) : zcv ad (zcv g v) = zcv (fun k => ad (g k)) v := by cases v <;> rfl
/-- a cell: an array of numbers, an object, or an array of references (its kind, its places) -/
abbrev zE : Type := va_E ⊕ (Nat × List Value)
def zrf (ad : Nat → Nat) : Option Value → Option Nat
  | some (.ref k) => some (ad k)
  | _ => none
def zce (ad ca : Nat → Nat) : zE → va_E
  | .inl (.inl (c, x)) => .inl (ca c, x)
  | .inl (.inr (ci, fs)) => .inr (ci, fs.map (zcv ad))
  | .inr (t, fs) => .inl (ca t, fs.length, .inr (.inr (.inr (.inr (fun i => zrf ad fs[i]?)))))
def zrn (g : Nat → Nat) : zE → zE
  | .inl (.inl a) => .inl (.inl a)
  | .inl (.inr (ci, fs)) => .inl (.inr (ci, fs.map (zcv g)))
  | .inr (t, fs) => .inr (t, fs.map (zcv g))
theorem zce_rn (ad ca g : Nat → Nat) (e : zE) : zce ad ca (zrn g e) = zce (fun k => ad (g k)) ca e := by
  rcases e with (⟨c, x⟩ | ⟨ci, fs⟩) | ⟨t, fs⟩
  · rfl
  · simp only [zrn, zce, List.map_map]
    congr 3
    funext v
    exact zcv_cv ad g v
  · simp only [zrn, zce, List.length_map]
    congr 7
    funext i
    rw [List.getElem?_map]
    cases fs[i]? with
    | none => rfl
    | some v => cases v <;> rfl
/-- an int[] of small numbers, an int[], a boolean[], an array of references, an object -/
abbrev zN (N : Nat) (f : Nat → Nat) : zE := .inl (.inl (0, N, .inl (fun j => nI (f j))))
abbrev zI (N : Nat) (f : Nat → Int32) : zE := .inl (.inl (0, N, .inl f))
abbrev zZ (N : Nat) (f : Nat → Int32) : zE := .inl (.inl (1, N, .inl f))
abbrev zR (t : Nat) (fs : List Value) : zE := .inr (t, fs)
abbrev zO (ci : Nat) (fs : List Value) : zE := .inl (.inr (ci, fs))
def zcw (ad ca : Nat → Nat) (h : List zE) : va_W := h.mapIdx (fun k e => (ad k, zce ad ca e))
theorem zcw_get {ad ca : Nat → Nat} {h : List zE} {k : Nat} {e : zE} (hk : h[k]? = some e) : (zcw ad ca h)[k]? = some (ad k, zce ad ca e) := by simp [zcw, hk]
theorem zcw_of {ad ca : Nat → Nat} {h : List zE} {k : Nat} {q : Nat × va_E} (hq : (zcw ad ca h)[k]? = some q) : ∃ e, h[k]? = some e ∧ q = (ad k, zce ad ca e) := by
  simp only [zcw, List.getElem?_mapIdx] at hq
  cases hh : h[k]? with
  | none => rw [hh] at hq; cases hq
  | some e => rw [hh] at hq; cases hq; exact ⟨e, rfl, rfl⟩
theorem zcw_set {ad ca : Nat → Nat} {h : List zE} (k : Nat) (e : zE) : (zcw ad ca h).set k (ad k, zce ad ca e) = zcw ad ca (h.set k e) := by
  apply List.ext_getElem?
  intro i
  simp only [zcw, List.getElem?_set, List.getElem?_mapIdx, List.length_mapIdx]
  by_cases hi : k = i
  · subst hi
    by_cases hl : k < h.length <;> simp [hl]
  · simp [hi]
/-- the locals that are known -/
def zpr (ad : Nat → Nat) : Nat → List (Option Value) → List (Nat × Value)
  | _, [] => []
  | i, none :: l => zpr ad (i + 1) l
  | i, some v :: l => (i, zcv ad v) :: zpr ad (i + 1) l
theorem zpr_mem (ad : Nat → Nat) : ∀ (l : List (Option Value)) (i : Nat) (q : Nat × Value), q ∈ zpr ad i l ↔ ∃ k v, l[k]? = some (some v) ∧ q = (i + k, zcv ad v)
  | [], i, q => by simp [zpr]
  | none :: l, i, q => by
    rw [zpr, zpr_mem ad l (i + 1) q]
    constructor
    · rintro ⟨k, v, h1, h2⟩
      exact ⟨k + 1, v, by simpa using h1, by rw [h2]; congr 1; omega⟩
    · rintro ⟨k, v, h1, h2⟩
      cases k with
      | zero => simp at h1
      | succ k => exact ⟨k, v, by simpa using h1, by rw [h2]; congr 1; omega⟩
  | some w :: l, i, q => by
    rw [zpr, List.mem_cons, zpr_mem ad l (i + 1) q]
    constructor
    · rintro (h | ⟨k, v, h1, h2⟩)
      · exact ⟨0, w, rfl, by rw [h]; rfl⟩
      · exact ⟨k + 1, v, by simpa using h1, by rw [h2]; congr 1; omega⟩
    · rintro ⟨k, v, h1, h2⟩
      cases k with
      | zero => left; simp at h1; rw [h2, h1]; rfl
      | succ k => right; exact ⟨k, v, by simpa using h1, by rw [h2]; congr 1; omega⟩
theorem zpr_at {ad : Nat → Nat} {lv : List (Option Value)} {ls : Array Slot} {nL : Nat} (hl : lv_has ls nL (zpr ad 0 lv)) {i : Nat} {v : Value} (h : lv[i]? = some (some v)) : ls[i]? = some (.val (zcv ad v)) :=
  hl.2.2 (i, zcv ad v) ((zpr_mem ad lv 0 _).mpr ⟨i, v, h, by simp⟩)
/-- no long stands just below -/
def zns (lv : List (Option Value)) : Nat → Bool
  | 0 => true
  | i + 1 => match lv[i]? with
    | some (some (.long _)) => false
    | some (some (.double _)) => false
    | _ => true
theorem zns_ok {lv : List (Option Value)} {i k : Nat} {v : Value} (h : zns lv i = true) (hk : lv[k]? = some (some v)) (e : k + 1 = i) : ¬ v.category = 2 := by
  subst e
  simp only [zns, hk] at h
  cases v <;> first | (simp at h; done) | (simp [Value.category]; done)
theorem zst {ad : Nat → Nat} {lv : List (Option Value)} {ls : Array Slot} {i : Nat} {v : Value} (hn : zns lv i = true)
    (h : lv_has ls lv.length ((i, zcv ad v) :: (zpr ad 0 lv).filter (fun q => !(q.1 == i) && !(q.1 + 1 == i && q.2.category == 2)))) : lv_has ls (lv.set i (some v)).length (zpr ad 0 (lv.set i (some v))) := by
  refine ⟨by rw [List.length_set]; exact h.1, h.2.1, fun q hq => ?_⟩
  obtain ⟨k, w, h1, h2⟩ := (zpr_mem ad _ 0 q).mp hq
  subst h2
  rw [List.getElem?_set] at h1
  refine h.2.2 _ ?_
  by_cases hk : i = k
  · subst hk
    rw [if_pos rfl] at h1
    split at h1
    · cases h1
      simp
    · cases h1
  · rw [if_neg hk] at h1
    refine List.mem_cons_of_mem _ (List.mem_filter.mpr ⟨(zpr_mem ad lv 0 _).mpr ⟨k, w, h1, rfl⟩, ?_⟩)
    have h3 : ¬ k = i := fun q => hk q.symm
    have h4 : k + 1 = i → ¬ w.category = 2 := fun e => zns_ok hn h1 e
    simp only [Nat.zero_add, zcv_cat]
    by_cases h5 : k + 1 = i
    · simp [h3, h5, h4 h5]
    · simp [h3, h5]
theorem zstl {ad : Nat → Nat} {lv : List (Option Value)} {ls : Array Slot} {i : Nat} {v : Value} (hn : zns lv i = true)
    (h : lv_has ls lv.length ((i, zcv ad v) :: (zpr ad 0 lv).filter (fun q => !(q.1 == i) && (!(q.1 == i + 1) && !(q.1 + 1 == i && q.2.category == 2))))) : lv_has ls ((lv.set i (some v)).set (i + 1) none).length (zpr ad 0 ((lv.set i (some v)).set (i + 1) none)) := by
  refine ⟨by rw [List.length_set, List.length_set]; exact h.1, h.2.1, fun q hq => ?_⟩
  obtain ⟨k, w, h1, h2⟩ := (zpr_mem ad _ 0 q).mp hq
  subst h2
  rw [List.getElem?_set, List.getElem?_set] at h1
  refine h.2.2 _ ?_
  by_cases hk1 : i + 1 = k
  · subst hk1
    rw [if_pos rfl] at h1
    split at h1 <;> cases h1
  rw [if_neg hk1] at h1
  by_cases hk : i = k
  · subst hk
    rw [if_pos rfl] at h1
    split at h1
    · cases h1
      simp
    · cases h1
  · rw [if_neg hk] at h1
    refine List.mem_cons_of_mem _ (List.mem_filter.mpr ⟨(zpr_mem ad lv 0 _).mpr ⟨k, w, h1, rfl⟩, ?_⟩)
    have h3 : ¬ k = i := fun q => hk q.symm
    have h6 : ¬ k = i + 1 := fun q => hk1 q.symm
    have h4 : k + 1 = i → ¬ w.category = 2 := fun e => zns_ok hn h1 e
    simp only [Nat.zero_add, zcv_cat]
    by_cases h5 : k + 1 = i
    · simp [h3, h5, h4 h5, h6]
    · simp [h3, h5, h6]
theorem zkl {ad : Nat → Nat} {lv : List (Option Value)} {ls : Array Slot} (i : Nat) (h : lv_has ls lv.length (zpr ad 0 lv)) : lv_has ls (lv.set i none).length (zpr ad 0 (lv.set i none)) := by
  refine ⟨by rw [List.length_set]; exact h.1, h.2.1, fun q hq => ?_⟩
  obtain ⟨k, w, h1, h2⟩ := (zpr_mem ad _ 0 q).mp hq
  subst h2
  rw [List.getElem?_set] at h1
  refine h.2.2 _ ?_
  by_cases hk : i = k
  · subst hk
    rw [if_pos rfl] at h1
    split at h1 <;> cases h1
  · rw [if_neg hk] at h1
    exact (zpr_mem ad lv 0 _).mpr ⟨k, w, h1, rfl⟩
/-- the locals at a method's start -/
def zlo : List Value → List (Option Value)
  | [] => []
  | v :: vs => if v.category = 2 then some v :: none :: zlo vs else some v :: zlo vs
def zloc (av : List Value) (nL : Nat) : List (Option Value) := zlo av ++ List.replicate (nL - (zlo av).length) none
theorem zpr_lo (ad : Nat → Nat) : ∀ (av : List Value) (i : Nat), zpr ad i (zlo av) = lv_args i (av.map (zcv ad))
  | [], i => rfl
  | v :: vs, i => by
    rw [zlo, List.map_cons, lv_args, zcv_cat]
    by_cases hc : v.category = 2
    · rw [if_pos hc, if_pos hc, zpr, zpr, zpr_lo ad vs (i + 2)]
    · rw [if_neg hc, if_neg hc, zpr, zpr_lo ad vs (i + 1)]
theorem zpr_app (ad : Nat → Nat) (n : Nat) : ∀ (l : List (Option Value)) (i : Nat), zpr ad i (l ++ List.replicate n none) = zpr ad i l
  | [], i => by
    induction n generalizing i with
    | zero => rfl
    | succ n ih => exact ih (i + 1)
  | none :: l, i => zpr_app ad n l (i + 1)
  | some v :: l, i => congrArg (fun t => (i, zcv ad v) :: t) (zpr_app ad n l (i + 1))
theorem zlo_len (ad : Nat → Nat) : ∀ av : List Value, (lg_sl (av.map (zcv ad))).length = (zlo av).length
  | [] => rfl
  | v :: vs => by
    have ih := zlo_len ad vs
    rw [zlo, List.map_cons]
    by_cases hc : v.category = 2
    · have hc2 : (zcv ad v).category = 2 := by rw [zcv_cat]; exact hc
      rw [if_pos hc]
      simp only [lg_sl, List.flatMap_cons, hc2, List.length_append, List.length_cons] at ih ⊢
      simp at ih ⊢
      omega
    · have hc2 : ¬ (zcv ad v).category = 2 := by rw [zcv_cat]; exact hc
      rw [if_neg hc]
      simp only [lg_sl, List.flatMap_cons, hc2, List.length_append, List.length_cons] at ih ⊢
      simp at ih ⊢
      omega
