/-! Layout. A cell of the run is named by (tag, k). The pictures of all cells are a function of D = (ints by tag and place, longs by tag, k and place, references). -/
abbrev Dt : Type := (Nat → Nat → Int32) × (Nat → Fin 11 → Nat → Int64) × (Nat → Nat → Fin 11)
abbrev Le : Type := ((Nat × Fin 11) → Nat) × va_G × (Nat → ClassId) × Nat × Nat
def b2 (z : Fin 11) : Fin 11 := if z = 0 then 0 else 1
def ids : List (Nat × Fin 11) := [(0, 0), (1, 0), (1, 1), (1, 2), (1, 3), (1, 4), (1, 5), (1, 6), (1, 7), (1, 8), (1, 9), (1, 10), (2, 0), (2, 1), (2, 2), (2, 3), (2, 4), (2, 5), (2, 6), (2, 7), (2, 8), (2, 9), (2, 10), (3, 0), (3, 1), (3, 2), (3, 3), (3, 4), (3, 5), (3, 6), (3, 7), (3, 8), (3, 9), (3, 10), (4, 0), (4, 1), (5, 0), (6, 0), (7, 0), (8, 0), (9, 0), (10, 0), (11, 0), (12, 0), (13, 0), (14, 0), (15, 0), (16, 0), (17, 0), (18, 0), (19, 0), (20, 0), (21, 0), (22, 0), (23, 0), (24, 0), (25, 0), (26, 0), (27, 0)]
def cellOf (E : Le) (D : Dt) (q : Nat × Fin 11) : va_E := match q.1 with
  | 0 => .inr (5, [.ref (E.1 (4, b2 (D.2.2 0 0))), .ref (E.1 (4, b2 (D.2.2 0 1))), .ref (E.1 (1, D.2.2 0 2)), .ref (E.1 (5, 0)), .ref (E.1 (12, 0)), .ref (E.1 (15, 0)), .ref (E.1 (18, 0)), .ref (E.1 (19, 0))])
  | 1 => .inr (0, [.ref (E.1 (2, q.2)), .ref (E.1 (3, q.2))])
  | 2 => .inl (E.2.2.1 3, 120, .inr (.inl (D.2.1 2 q.2)))
  | 3 => .inl (E.2.2.1 3, 120, .inr (.inl (D.2.1 3 q.2)))
  | 4 => .inl (E.2.2.1 4, 5, .inr (.inr (.inr (.inr (fun i => some (E.1 (1, D.2.2 (1 + q.2.val) i)))))))
  | 5 => .inr (1, [.ref (E.1 (6, 0)), .ref (E.1 (7, 0)), .ref (E.1 (8, 0)), .ref (E.1 (9, 0)), .ref (E.1 (10, 0)), .ref (E.1 (11, 0)), .int (D.1 5 6), .int (D.1 5 7)])
  | 6 => .inl (E.2.2.1 2, 60, .inl (D.1 6))
  | 7 => .inl (E.2.2.1 2, 60, .inl (D.1 7))
  | 8 => .inl (E.2.2.1 2, 60, .inl (D.1 8))
  | 9 => .inl (E.2.2.1 2, 300, .inl (D.1 9))
  | 10 => .inl (E.2.2.1 2, 600, .inl (D.1 10))
  | 11 => .inl (E.2.2.1 2, 300, .inl (D.1 11))
  | 12 => .inr (2, [.ref (E.1 (13, 0)), .ref (E.1 (14, 0)), .int (D.1 12 2)])
  | 13 => .inl (E.2.2.1 2, 10, .inl (D.1 13))
  | 14 => .inl (E.2.2.1 2, 10, .inl (D.1 14))
  | 15 => .inr (4, [.ref (E.1 (16, 0)), .int (D.1 15 1), .ref (E.1 (17, 0)), .int (D.1 15 3), .int (D.1 15 4), .int (D.1 15 5), .int (D.1 15 6), .int (D.1 15 7)])
  | 16 => .inl (E.2.2.1 0, 120, .inl (D.1 16))
  | 17 => .inl (E.2.2.1 2, 144, .inl (D.1 17))
  | 18 => .inr (3, [.int (D.1 18 0), .int (D.1 18 1), .int (D.1 18 2), .int (D.1 18 3)])
  | 19 => .inl (E.2.2.1 2, 3, .inl (D.1 19))
  | 20 => .inr (6, [.ref (E.1 (21, 0)), .ref (E.1 (22, 0)), .ref (E.1 (23, 0)), .int (D.1 20 3), .ref (E.1 (24, 0)), .ref (E.1 (25, 0)), .int (D.1 20 6), .int (D.1 20 7), .ref (E.1 (26, 0)), .int (D.1 20 9), .int (D.1 20 10), .int (D.1 20 11), .int (D.1 20 12), .int (D.1 20 13), .int (D.1 20 14), .int (D.1 20 15), .int (D.1 20 16), .ref (E.1 (27, 0)), .int (D.1 20 18)])
  | 21 => .inl (E.2.2.1 3, 3120, .inr (.inl (D.2.1 21 0)))
  | 22 => .inl (E.2.2.1 2, 3, .inl (D.1 22))
  | 23 => .inl (E.2.2.1 2, 120, .inl (D.1 23))
  | 24 => .inl (E.2.2.1 2, 10, .inl (D.1 24))
  | 25 => .inl (E.2.2.1 2, 10, .inl (D.1 25))
  | 26 => .inl (E.2.2.1 2, 4, .inl (D.1 26))
  | 27 => .inl (E.2.2.1 1, 54, .inl (D.1 27))
  | _ => .inr (0, [])
def wsD (E : Le) (D : Dt) : va_W := ids.map (fun q => (E.1 q, cellOf E D q))
def tysE (E : Le) : List (ClassId × FieldType) := [(E.2.2.1 0, .byte), (E.2.2.1 1, .char), (E.2.2.1 2, .int), (E.2.2.1 3, .long), (E.2.2.1 4, .object "BandAreas$Area")]
def Wf (E : Le) : Prop := ∀ (i j : Nat) (q r : Nat × Fin 11), ids[i]? = some q → ids[j]? = some r → E.1 q = E.1 r → i = j
def inW (E : Le) : Nat → Prop := fun x => ∃ q ∈ ids, E.1 q = x
theorem wsD_get {E : Le} {D : Dt} {p : Nat} {q : Nat × Fin 11} (h : ids[p]? = some q) : (wsD E D)[p]? = some (E.1 q, cellOf E D q) := by
  simp [wsD, h]
theorem wsD_D {E : Le} {D : Dt} {A : Nat → Prop} (hW : Wf E) (hA : ∀ q ∈ ids, A (E.1 q)) : va_D A (wsD E D) := by
  refine ⟨fun i j x y hi hj hxy => ?_, fun k x hk => ?_⟩
  · rw [wsD, List.getElem?_map] at hi hj
    cases h1 : ids[i]? with
    | none => rw [h1] at hi; cases hi
    | some q =>
      cases h2 : ids[j]? with
      | none => rw [h2] at hj; cases hj
      | some r =>
        rw [h1] at hi; rw [h2] at hj
        cases hi; cases hj
        exact hW i j q r h1 h2 hxy
  · rw [wsD, List.getElem?_map] at hk
    cases h1 : ids[k]? with
    | none => rw [h1] at hk; cases hk
    | some q => rw [h1] at hk; cases hk; exact hA q (List.mem_of_getElem? h1)
theorem ids_nd : ∀ (i j : Nat) (q : Nat × Fin 11), ids[i]? = some q → ids[j]? = some q → i = j := by
  have h : ids.Nodup := by decide +kernel
  intro i j q hi hj
  have hl := (List.getElem?_eq_some_iff.mp hi).1
  exact (List.getElem?_inj hl h).mp (hi.trans hj.symm)
theorem wsD_set {E : Le} {D D' : Dt} {p : Nat} {q : Nat × Fin 11} (h : ids[p]? = some q) {e : va_E} (he : cellOf E D' q = e) (ho : ∀ r ∈ ids, r ≠ q → cellOf E D' r = cellOf E D r) : (wsD E D).set p (E.1 q, e) = wsD E D' := by
  apply List.ext_getElem?
  intro k
  by_cases hk : k = p
  · subst hk
    have hl : k < (wsD E D).length := by rw [wsD, List.length_map]; exact (List.getElem?_eq_some_iff.mp h).1
    rw [List.getElem?_set_self hl, wsD_get h, he]
  · rw [List.getElem?_set_ne (Ne.symm hk), wsD, wsD, List.getElem?_map, List.getElem?_map]
    cases h1 : ids[k]? with
    | none => rfl
    | some r =>
      have hr : r ≠ q := fun z => hk (ids_nd k p q (z ▸ h1) h)
      show some (E.1 r, cellOf E D r) = some (E.1 r, cellOf E D' r)
      rw [ho r (List.mem_of_getElem? h1) hr]
/-! updates of D: a row of ints, a row of longs, a row of references -/
def rU (D : Dt) (t : Nat) (f : Nat → Int32) : Dt := (fun x => if x = t then f else D.1 x, D.2)
def lU (D : Dt) (t : Nat) (k : Fin 11) (f : Nat → Int64) : Dt := (D.1, fun x z => if x = t ∧ z = k then f else D.2.1 x z, D.2.2)
def pU (D : Dt) (t : Nat) (f : Nat → Fin 11) : Dt := (D.1, D.2.1, fun x => if x = t then f else D.2.2 x)
def pS (f : Nat → Fin 11) (k : Nat) (z : Fin 11) : Nat → Fin 11 := fun j => if j = k then z else f j
theorem cell_rU (E : Le) (D : Dt) (t : Nat) (f : Nat → Int32) (r : Nat × Fin 11) (h : r.1 ≠ t) : cellOf E (rU D t f) r = cellOf E D r := by
  obtain ⟨x, k⟩ := r
  have h : x ≠ t := h
  have e : ∀ y, y = x → (rU D t f).1 y = D.1 y := fun y hy => by subst hy; simp [rU, h]
  have e2 : (rU D t f).2 = D.2 := rfl
  unfold cellOf
  dsimp only
  split <;> simp only [e2, e _ rfl]

theorem cell_lU (E : Le) (D : Dt) (t : Nat) (k : Fin 11) (f : Nat → Int64) (r : Nat × Fin 11) (h : r ≠ (t, k)) (h2 : r.1 ≠ 21 ∨ t ≠ 21) : cellOf E (lU D t k f) r = cellOf E D r := by
  obtain ⟨x, z⟩ := r
  have e : ∀ y w, ¬ (y = t ∧ w = k) → (lU D t k f).2.1 y w = D.2.1 y w := fun y w hy => by simp only [lU, if_neg hy]
  have e1 : (lU D t k f).1 = D.1 := rfl
  have e2 : (lU D t k f).2.2 = D.2.2 := rfl
  have h3 : ¬ (x = t ∧ z = k) := fun q => h (by rw [q.1, q.2])
  have h4 : x = 21 → ¬ (21 = t ∧ (0 : Fin 11) = k) := fun q => by
    rcases h2 with h2 | h2
    · exact absurd q h2
    · exact fun z => h2 z.1.symm
  unfold cellOf
  dsimp only
  split <;> first | rfl | rw [e _ _ h3] | rw [e _ _ (h4 rfl)]
theorem cell_lU21 (E : Le) (D : Dt) (f : Nat → Int64) (r : Nat × Fin 11) (h : r.1 ≠ 21) : cellOf E (lU D 21 0 f) r = cellOf E D r :=
  cell_lU E D 21 0 f r (fun q => h (by rw [q])) (Or.inl h)
theorem cell_pU0 (E : Le) (D : Dt) (f : Nat → Fin 11) (r : Nat × Fin 11) (h : r.1 ≠ 0) : cellOf E (pU D 0 f) r = cellOf E D r := by
  obtain ⟨x, z⟩ := r
  have h : x ≠ 0 := h
  have e : ∀ y, (pU D 0 f).2.2 (1 + y) = D.2.2 (1 + y) := fun y => by simp only [pU]; rw [if_neg (by omega)]
  have e1 : (pU D 0 f).1 = D.1 := rfl
  have e2 : (pU D 0 f).2.1 = D.2.1 := rfl
  unfold cellOf
  dsimp only
  split <;> first | rfl | simp only [e] | exact absurd rfl h
theorem cell_pU1 (E : Le) (D : Dt) (k : Fin 11) (f : Nat → Fin 11) (r : Nat × Fin 11) (h : r ≠ (4, k)) : cellOf E (pU D (1 + k.val) f) r = cellOf E D r := by
  obtain ⟨x, z⟩ := r
  have e0 : (pU D (1 + k.val) f).2.2 0 = D.2.2 0 := by simp only [pU]; rw [if_neg (by omega)]
  have e : x = 4 → (pU D (1 + k.val) f).2.2 (1 + z.val) = D.2.2 (1 + z.val) := fun q => by
    simp only [pU]
    rw [if_neg]
    intro w
    have w2 : z = k := Fin.ext (by omega)
    exact h (by rw [q, w2])
  have e1 : (pU D (1 + k.val) f).1 = D.1 := rfl
  have e2 : (pU D (1 + k.val) f).2.1 = D.2.1 := rfl
  unfold cellOf
  dsimp only
  split <;> first | rfl | rw [e rfl] | simp only [e0]
theorem ho_rU (t : Nat) (sg : ∀ r ∈ ids, r.1 = t → r = (t, 0)) (E : Le) (D : Dt) (f : Nat → Int32) : ∀ r ∈ ids, r ≠ (t, 0) → cellOf E (rU D t f) r = cellOf E D r := fun r hr hne => cell_rU E D t f r (fun e => hne (sg r hr e))
theorem ho_lU (t : Nat) (z : Fin 11) (ht : t ≠ 21) (E : Le) (D : Dt) (f : Nat → Int64) : ∀ r ∈ ids, r ≠ (t, z) → cellOf E (lU D t z f) r = cellOf E D r := fun r _ hne => cell_lU E D t z f r hne (Or.inr ht)
theorem sg_21 : ∀ r ∈ ids, r.1 = 21 → r = (21, 0) := by decide +kernel
theorem ho_lU21 (E : Le) (D : Dt) (f : Nat → Int64) : ∀ r ∈ ids, r ≠ (21, 0) → cellOf E (lU D 21 0 f) r = cellOf E D r := fun r hr hne => cell_lU21 E D f r (fun e => hne (sg_21 r hr e))
/-! places of the cells -/
theorem ix_0 : ids[0]? = some (0, 0) := rfl
theorem ix_1 (k : Fin 11) : ids[1 + k.val]? = some (1, k) := by revert k; decide +kernel
theorem ix_2 (k : Fin 11) : ids[12 + k.val]? = some (2, k) := by revert k; decide +kernel
theorem ix_3 (k : Fin 11) : ids[23 + k.val]? = some (3, k) := by revert k; decide +kernel
theorem ix_4 (z : Fin 11) : ids[34 + (b2 z).val]? = some (4, b2 z) := by revert z; decide +kernel
theorem ix_5 : ids[36]? = some (5, 0) := rfl
theorem ix_6 : ids[37]? = some (6, 0) := rfl
theorem ix_7 : ids[38]? = some (7, 0) := rfl
theorem ix_8 : ids[39]? = some (8, 0) := rfl
theorem ix_9 : ids[40]? = some (9, 0) := rfl
theorem ix_10 : ids[41]? = some (10, 0) := rfl
theorem ix_11 : ids[42]? = some (11, 0) := rfl
theorem ix_12 : ids[43]? = some (12, 0) := rfl
theorem ix_13 : ids[44]? = some (13, 0) := rfl
theorem ix_14 : ids[45]? = some (14, 0) := rfl
theorem ix_15 : ids[46]? = some (15, 0) := rfl
theorem ix_16 : ids[47]? = some (16, 0) := rfl
theorem ix_17 : ids[48]? = some (17, 0) := rfl
theorem ix_18 : ids[49]? = some (18, 0) := rfl
theorem ix_19 : ids[50]? = some (19, 0) := rfl
theorem ix_20 : ids[51]? = some (20, 0) := rfl
theorem ix_21 : ids[52]? = some (21, 0) := rfl
theorem ix_22 : ids[53]? = some (22, 0) := rfl
theorem ix_23 : ids[54]? = some (23, 0) := rfl
theorem ix_24 : ids[55]? = some (24, 0) := rfl
theorem ix_25 : ids[56]? = some (25, 0) := rfl
theorem ix_26 : ids[57]? = some (26, 0) := rfl
theorem ix_27 : ids[58]? = some (27, 0) := rfl
/-! locals: the first entry of a place counts; none: nothing is known -/
abbrev Lv : Type := List (Nat × Option Value)
def lk : Lv → Nat → Option Value
  | [], _ => none
  | (i, v) :: r, j => if j = i then v else lk r j
def lvOK (ls : Array Slot) (nL : Nat) (lv : Lv) : Prop := ls.size = nL ∧ lv_wf ls ∧ ∀ j v, lk lv j = some v → ls[j]? = some (.val v)
def lvE : List (Nat × Value) → Lv := List.map (fun q => (q.1, some q.2))
def lvs : Lv → Lv → Prop
  | [], _ => True
  | (i, some v) :: r, l => lk l i = some v ∧ lvs r l
  | (_, none) :: r, l => lvs r l
/-- what stands below place i isn't a long -/
def noL (lv : Lv) (i : Nat) : Bool := match i with
  | 0 => true
  | j + 1 => match lk lv j with
    | none => true
    | some v => v.category != 2
def lvl (lv : Lv) (n : Nat) : List (Nat × Value) := (List.range n).filterMap (fun j => (lk lv j).map (fun v => (j, v)))
theorem lvl_mem {lv : Lv} {n j : Nat} {v : Value} : (j, v) ∈ lvl lv n ↔ j < n ∧ lk lv j = some v := by
  unfold lvl
  rw [List.mem_filterMap]
  constructor
  · rintro ⟨i, hi, h⟩
    cases h2 : lk lv i with
    | none => rw [h2] at h; cases h
    | some w => rw [h2] at h; cases h; exact ⟨List.mem_range.mp hi, h2⟩
  · rintro ⟨h1, h2⟩
    exact ⟨j, List.mem_range.mpr h1, by rw [h2]; rfl⟩
theorem lvl_has {ls : Array Slot} {nL : Nat} {lv : Lv} (h : lvOK ls nL lv) : lv_has ls nL (lvl lv nL) :=
  ⟨h.1, h.2.1, fun q hq => h.2.2 q.1 q.2 ((lvl_mem (v := q.2)).mp hq).2⟩
theorem lvOK_lt {ls : Array Slot} {nL : Nat} {lv : Lv} (h : lvOK ls nL lv) {j : Nat} {v : Value} (hj : lk lv j = some v) : j < nL := by
  have := lv_lt (h.2.2 j v hj)
  rw [h.1] at this
  exact this
theorem lvOK_st1 {ls ls' : Array Slot} {nL : Nat} {lv : Lv} {i : Nat} {v : Value} (h : lvOK ls nL lv) (hn : noL lv i = true) (h' : lv_has ls' nL ((i, v) :: (lvl lv nL).filter (fun q => !(q.1 == i) && !(q.1 + 1 == i && q.2.category == 2)))) : lvOK ls' nL ((i, some v) :: lv) := by
  refine ⟨h'.1, h'.2.1, fun j w hj => ?_⟩
  by_cases e : j = i
  · rw [lk, if_pos e] at hj
    cases hj
    exact h'.2.2 (j, v) (by rw [e]; exact List.mem_cons_self)
  · rw [lk, if_neg e] at hj
    refine h'.2.2 (j, w) (List.mem_cons_of_mem _ (List.mem_filter.mpr ⟨lvl_mem.mpr ⟨lvOK_lt h hj, hj⟩, ?_⟩))
    by_cases e2 : j + 1 = i
    · subst e2
      unfold noL at hn
      simp only [hj] at hn
      simp at hn
      simp [hn]
    · simp [e, e2]
theorem lvOK_st2 {ls ls' : Array Slot} {nL : Nat} {lv : Lv} {i : Nat} {v : Value} (h : lvOK ls nL lv) (hn : noL lv i = true) (h' : lv_has ls' nL ((i, v) :: (lvl lv nL).filter (fun q => !(q.1 == i) && (!(q.1 == i + 1) && !(q.1 + 1 == i && q.2.category == 2))))) : lvOK ls' nL ((i, some v) :: (i + 1, none) :: lv) := by
  refine ⟨h'.1, h'.2.1, fun j w hj => ?_⟩
  by_cases e : j = i
  · rw [lk, if_pos e] at hj
    cases hj
    exact h'.2.2 (j, v) (by rw [e]; exact List.mem_cons_self)
  · rw [lk, if_neg e, lk] at hj
    by_cases e3 : j = i + 1
    · rw [if_pos e3] at hj; cases hj
    rw [if_neg e3] at hj
    refine h'.2.2 (j, w) (List.mem_cons_of_mem _ (List.mem_filter.mpr ⟨lvl_mem.mpr ⟨lvOK_lt h hj, hj⟩, ?_⟩))
    by_cases e2 : j + 1 = i
    · subst e2
      unfold noL at hn
      simp only [hj] at hn
      simp at hn
      simp [hn]
      omega
    · simp [e, e2, e3]
theorem lvOK_sub {ls : Array Slot} {nL : Nat} {lv : Lv} (h : lvOK ls nL lv) : ∀ {l : Lv}, lvs l lv → lvOK ls nL l := by
  intro l hl
  refine ⟨h.1, h.2.1, fun j v hj => ?_⟩
  apply h.2.2
  induction l with
  | nil => cases hj
  | cons q r ih =>
    obtain ⟨i, o⟩ := q
    cases o with
    | none =>
      rw [lk] at hj
      split at hj
      · cases hj
      · exact ih hl hj
    | some w =>
      obtain ⟨h1, h2⟩ := hl
      rw [lk] at hj
      split at hj
      · rename_i e; cases hj; rw [e]; exact h1
      · exact ih h2 hj
theorem lk_map : ∀ (l : List (Nat × Value)) (j : Nat) (v : Value), lk (lvE l) j = some v → (j, v) ∈ l
  | [], _, _, h => by cases h
  | (i, w) :: r, j, v, h => by
    have h : (if j = i then some w else lk (lvE r) j) = some v := h
    split at h
    · rename_i e; cases h; rw [e]; exact List.mem_cons_self
    · exact List.mem_cons_of_mem _ (lk_map r j v h)
theorem lvOK_of {ls : Array Slot} {nL : Nat} {l : List (Nat × Value)} (h : lv_has ls nL l) : lvOK ls nL (lvE l) :=
  ⟨h.1, h.2.1, fun j v hj => h.2.2 (j, v) (lk_map l j v hj)⟩
/-! THE JUDGEMENT: a method (context X) goes on at pc with locals lv, stack st and the cells of D -/
def tblG : List Cond := lw_tbl.filter goodWord
theorem inG {w : Cond} (h : w ∈ lw_tbl) (g : goodWord w = true) : w ∈ tblG := List.mem_filter.mpr ⟨h, g⟩
def wtx : String := "be    box   none  or    and   but   xor   move  grow  shrinkflip  turn  "
def wby : List Int32 := [98, 101, 32, 32, 32, 32, 98, 111, 120, 32, 32, 32, 110, 111, 110, 101, 32, 32, 111, 114, 32, 32, 32, 32, 97, 110, 100, 32, 32, 32, 98, 117, 116, 32, 32, 32, 120, 111, 114, 32, 32, 32, 109, 111, 118, 101, 32, 32, 103, 114, 111, 119, 32, 32, 115, 104, 114, 105, 110, 107, 102, 108, 105, 112, 32, 32, 116, 117, 114, 110, 32, 32]
/-- what the tables and the start say beside the words: two links of nest mates, the String constant, two statics of the JDK's -/
def Stc (E : Le) (A : Nat → Prop) (U : State) (H : Heap) : Prop :=
  va_Nw (.methodLinkNest RX1 108 yX5_within RX5) U ∧ va_Nw (.methodLinkNest RX4 60 yX5_within RX5) U ∧ vk_R RX4 79 wtx E.2.2.2.1 U ∧ vk_S 1 [72] [wby] (fun _ => E.2.2.2.1) (fun _ => E.2.2.2.2) A U H ∧ va_Z "java/lang/String" "COMPACT_STRINGS" "Z" (.int 1) A U H ∧ va_Zq "jdk/internal/util/Preconditions" "SIOOBE_FORMATTER" "Ljava/util/function/BiFunction;" A U H
theorem Stc.warm {E : Le} {A : Nat → Prop} {s U : State} {H : Heap} (hW : s.WarmedH U.vm) (h : Stc E A s H) : Stc E A U H :=
  ⟨va_Nw.warmM hW h.1, va_Nw.warmM hW h.2.1, vk_R.warm hW h.2.2.1, vk_S.moved hW.alike h.2.2.2.1, va_Z.moved hW.alike h.2.2.2.2.1, va_Zq.moved hW.alike h.2.2.2.2.2⟩
theorem Stc.same {E : Le} {A : Nat → Prop} {u U : State} {H : Heap} (hv : u.vm = U.vm) (h : Stc E A u H) : Stc E A U H :=
  ⟨va_Nw.same rfl hv h.1, va_Nw.same rfl hv h.2.1, vk_R.same hv.symm h.2.2.1, vk_S.moved (hv ▸ Vm.Alike.refl u.vm) h.2.2.2.1, va_Z.moved (hv ▸ Vm.Alike.refl u.vm) h.2.2.2.2.1, va_Zq.moved (hv ▸ Vm.Alike.refl u.vm) h.2.2.2.2.2⟩
theorem Stc.kept {E : Le} {A : Nat → Prop} {U : State} {H H1 : Heap} (h : Stc E A U H) (hq : ∀ a : Nat, a < H.size → ¬ A a → H1[a]? = H[a]?) : Stc E A U H1 :=
  ⟨h.1, h.2.1, h.2.2.1, h.2.2.2.1.kept hq, h.2.2.2.2.1.kept hq, h.2.2.2.2.2.kept hq⟩
theorem Stc.narrow {E : Le} {A B : Nat → Prop} {U : State} {H : Heap} (h : Stc E A U H) (hAB : ∀ q, B q → A q) : Stc E B U H :=
  ⟨h.1, h.2.1, h.2.2.1, h.2.2.2.1.narrow hAB, h.2.2.2.2.1.narrow hAB, h.2.2.2.2.2.narrow hAB⟩
def Cx : Type := Program × Launch × Env × Room × State × MethodId × Array Value × List Frame × Method × Code × Nat × Nat × (State → Prop) × (Nat → Prop)
def Vw (E : Le) (X : Cx) (nL : Nat) (D : Dt) (pc : Nat) (lv : Lv) (st : List Value) : Prop := match X with
  | (p, l, e, R, s, m, args, below, meth, c, cells, slots, Q, A) => ∀ (H : Heap) (locs : List Loc) (ls : Array Slot), va_P E.2.1 vwCl (wsD E D) H → va_S A s.heap H locs → lvOK ls nL lv → W p l e R s m args below meth c H locs cells slots Q (F0 m pc ls st)
def Amb (E : Le) (X : Cx) (cc : ByteArray) (own : String) (nL n : Nat) : Prop := match X with
  | (p, _, _, R, s, m, args, _, _, c, cells, slots, _, A) => p.tables.exec = Jvm.exec ∧ c.code = cc ∧ c.maxLocals = nL ∧ s.vm.findClass own = some m.cls ∧ (∀ w ∈ tblG, w.before args s = true) ∧ va_K E.2.1 vwCl (tysE E) s ∧ Wf E ∧ (∀ q ∈ ids, A (E.1 q)) ∧ (n ≤ R.frames ∧ 39 * n ≤ R.locals ∧ cells ≤ R.cells ∧ slots ≤ R.slots) ∧ Stc E A s s.heap
def Xl (X : Cx) : Launch := X.2.1
def QcB (E : Le) (Φ : Option Value → Dt → Prop) : Array Value → State → Outcome → State → Prop := fun _ st oc t => (∃ (v : Option Value) (D' : Dt), oc = .returned v ∧ Φ v D' ∧ va_P E.2.1 vwCl (wsD E D') t.heap) ∧ va_F (inW E) st t
def Ret (E : Le) (X : Cx) (ret : Option FieldType) (Φ : Option Value → Dt → Prop) : Prop := match X with
  | (_, _, _, _, s, _, args, below, meth, _, cells, slots, Q, A) => meth.sig.returnType = ret ∧ meth.locks = false ∧ Q = MQ below (QcB E Φ) args s cells slots (inW E) ∧ A = inW E
def rmB (n : Nat) : Room := { frames := n, cells := 0, slots := 0, locals := 39 * n }
def PcB (E : Le) (D : Dt) : State → Prop := fun U => va_P E.2.1 vwCl (wsD E D) U.heap ∧ va_K E.2.1 vwCl (tysE E) U ∧ Wf E ∧ Stc E (inW E) U U.heap
/-- THE CONTRACT of a method: called with 'as' where the cells are D, it returns v and leaves D' with Φ v D' -/
def Con (E : Le) (l : Launch) (y : MethodName) (cc : ByteArray) (mL : Nat) (ret : Option FieldType) (n : Nat) (as : List Value) (D : Dt) (Φ : Option Value → Dt → Prop) : Prop :=
  Met l y (.code y cc mL ret :: tblG) (rmB n) (va_Pc as (PcB E D)) (QcB E Φ) 0 0 (inW E)
theorem Con_of {E : Le} {l : Launch} {y : MethodName} {cc : ByteArray} {mL : Nat} {ret : Option FieldType} {n : Nat} {as : List Value} {D : Dt} {Φ : Option Value → Dt → Prop} (hy : plainName y.cls = true) (hm : (lg_sl as).length ≤ mL)
    (h : ∀ X : Cx, Amb E X cc y.cls mL n → Ret E X ret Φ → Xl X = l → Vw E X mL D 0 (lvE (lv_args 0 as)) []) : Con E l y cc mL ret n as D Φ := by
  refine Met.ofW (cc := cc) (maxL := mL) (ret := ret) hy rfl ?_
  intro p e s m args below meth c s₁ B hml hv
  obtain ⟨rfl, hP, hK, hW, hT⟩ := hv
  have hl := lv_entry as (n := mL) hm
  rw [lg_entry_eq]
  refine h (p, l, e, rmB n, s, m, as.toArray, below, meth, c, 0, 0, _, inW E) ⟨B.exec, B.bytes, hml, findClass_of_methodNamed B.named, fun w hw => atoms_spec (ws := .code y cc mL ret :: tblG) B.pre w (List.mem_cons_of_mem _ hw), hK, hW, fun q hq => ⟨q, hq, rfl⟩, ⟨Nat.le_refl _, Nat.le_refl _, Nat.zero_le _, Nat.zero_le _⟩, hT⟩ ⟨B.returns, B.notSynchronized, rfl, rfl⟩ rfl s.heap [] _ hP va_S.rf (lvOK_of hl)
section RULES
variable {E : Le} {X : Cx} {cc : ByteArray} {own : String} {nL n : Nat} {D : Dt} {pc : Nat} {lv : Lv} {st : List Value}
theorem V_cut (l : Lv) (h : lvs l lv) (k : Vw E X nL D pc l st) : Vw E X nL D pc lv st := by
  obtain ⟨p, l', e, R, s, m, args, below, meth, c, cells, slots, Q, A⟩ := X
  exact fun H locs ls hP hS hl => k H locs ls hP hS (lvOK_sub hl h)
theorem V_heap {D' : Dt} (h : D = D') (k : Vw E X nL D' pc lv st) : Vw E X nL D pc lv st := h ▸ k
theorem V_st {st' : List Value} (h : st = st') (k : Vw E X nL D pc lv st') : Vw E X nL D pc lv st := h ▸ k
theorem V_topi {x : Int32} (y : Int32) (h : x = y) (k : Vw E X nL D pc lv (.int y :: st)) : Vw E X nL D pc lv (.int x :: st) := h ▸ k
theorem V_topl {x : Int64} (y : Int64) (h : x = y) (k : Vw E X nL D pc lv (.long y :: st)) : Vw E X nL D pc lv (.long x :: st) := h ▸ k
theorem V_iconst (hX : Amb E X cc own nL n) {z : Int} (v : Int32) (hv : Int32.ofInt z = v) (d : decode cc pc = .ok (.iconst z, 1)) (k : Vw E X nL D (pc + 1) lv (.int v :: st)) : Vw E X nL D pc lv st := by
  obtain ⟨p, l, e, R, s, m, args, below, meth, c, cells, slots, Q, A⟩ := X
  exact fun H locs ls hP hS hl => lv_iconst hX.1 hX.2.1 d hv (k H locs ls hP hS hl)
theorem V_bipush (hX : Amb E X cc own nL n) {z : Int} (v : Int32) (hv : (Int8.ofInt z).toInt32 = v) (d : decode cc pc = .ok (.bipush z, 2)) (k : Vw E X nL D (pc + 2) lv (.int v :: st)) : Vw E X nL D pc lv st := by
  obtain ⟨p, l, e, R, s, m, args, below, meth, c, cells, slots, Q, A⟩ := X
  exact fun H locs ls hP hS hl => lv_bipush hX.1 hX.2.1 d hv (k H locs ls hP hS hl)
theorem V_sipush (hX : Amb E X cc own nL n) {z : Int} (v : Int32) (hv : (Int16.ofInt z).toInt32 = v) (d : decode cc pc = .ok (.sipush z, 3)) (k : Vw E X nL D (pc + 3) lv (.int v :: st)) : Vw E X nL D pc lv st := by
  obtain ⟨p, l, e, R, s, m, args, below, meth, c, cells, slots, Q, A⟩ := X
  exact fun H locs ls hP hS hl => lv_sipush hX.1 hX.2.1 d hv (k H locs ls hP hS hl)
theorem V_lconst (hX : Amb E X cc own nL n) {z : Fin 2} (v : Int64) (hv : Int64.ofNat (z : Nat) = v) (d : decode cc pc = .ok (.lconst z, 1)) (k : Vw E X nL D (pc + 1) lv (.long v :: st)) : Vw E X nL D pc lv st := by
  obtain ⟨p, l, e, R, s, m, args, below, meth, c, cells, slots, Q, A⟩ := X
  exact fun H locs ls hP hS hl => lv_lconst hX.1 hX.2.1 d hv (k H locs ls hP hS hl)
theorem V_ldc (hX : Amb E X cc own nL n) {i : Nat} (v : Int32) (hw : Cond.constant own i v ∈ tblG) (d : decode cc pc = .ok (.ldc i, 2)) (k : Vw E X nL D (pc + 2) lv (.int v :: st)) : Vw E X nL D pc lv st := by
  obtain ⟨p, l, e, R, s, m, args, below, meth, c, cells, slots, Q, A⟩ := X
  exact fun H locs ls hP hS hl => lv_ldc hX.1 hX.2.1 hX.2.2.2.1 (hX.2.2.2.2.1 _ hw) d (k H locs ls hP hS hl)
theorem V_ldc2 (hX : Amb E X cc own nL n) {i : Nat} (v : Int64) (hw : Cond.constantLong own i v ∈ tblG) (d : decode cc pc = .ok (.ldc2_w i, 3)) (k : Vw E X nL D (pc + 3) lv (.long v :: st)) : Vw E X nL D pc lv st := by
  obtain ⟨p, l, e, R, s, m, args, below, meth, c, cells, slots, Q, A⟩ := X
  exact fun H locs ls hP hS hl => lv_ldc2 hX.1 hX.2.1 hX.2.2.2.1 (hX.2.2.2.2.1 _ hw) d (k H locs ls hP hS hl)
theorem V_iload_n (hX : Amb E X cc own nL n) {j : Fin 4} (i : Nat) (hi : (j : Nat) = i) {x : Int32} (hl0 : lk lv i = some (.int x)) (d : decode cc pc = .ok (.iload_n j, 1)) (k : Vw E X nL D (pc + 1) lv (.int x :: st)) : Vw E X nL D pc lv st := by
  obtain ⟨p, l, e, R, s, m, args, below, meth, c, cells, slots, Q, A⟩ := X
  exact fun H locs ls hP hS hl => lv_iload_n hX.1 hX.2.1 d hi (hl.2.2 _ _ hl0) (k H locs ls hP hS hl)
theorem V_iload (hX : Amb E X cc own nL n) {i : Nat} {x : Int32} (hl0 : lk lv i = some (.int x)) (d : decode cc pc = .ok (.iload i, 2)) (k : Vw E X nL D (pc + 2) lv (.int x :: st)) : Vw E X nL D pc lv st := by
  obtain ⟨p, l, e, R, s, m, args, below, meth, c, cells, slots, Q, A⟩ := X
  exact fun H locs ls hP hS hl => lv_iload hX.1 hX.2.1 d (hl.2.2 _ _ hl0) (k H locs ls hP hS hl)
theorem V_istore_n (hX : Amb E X cc own nL n) {j : Fin 4} (i : Nat) (hi : (j : Nat) = i) {x : Int32} (hb : i < nL) (hn : noL lv i = true) (d : decode cc pc = .ok (.istore_n j, 1)) (k : Vw E X nL D (pc + 1) ((i, some (.int x)) :: lv) st) : Vw E X nL D pc lv (.int x :: st) := by
  obtain ⟨p, l, e, R, s, m, args, below, meth, c, cells, slots, Q, A⟩ := X
  exact fun H locs ls hP hS hl => lv_istore_n hX.1 hX.2.1 d hi (lvl_has hl) hb rfl (fun ls2 h2 => k H locs ls2 hP hS (lvOK_st1 hl hn h2))
theorem V_istore (hX : Amb E X cc own nL n) {i : Nat} {x : Int32} (hb : i < nL) (hn : noL lv i = true) (d : decode cc pc = .ok (.istore i, 2)) (k : Vw E X nL D (pc + 2) ((i, some (.int x)) :: lv) st) : Vw E X nL D pc lv (.int x :: st) := by
  obtain ⟨p, l, e, R, s, m, args, below, meth, c, cells, slots, Q, A⟩ := X
  exact fun H locs ls hP hS hl => lv_istore hX.1 hX.2.1 d (lvl_has hl) hb rfl (fun ls2 h2 => k H locs ls2 hP hS (lvOK_st1 hl hn h2))
theorem V_lload_n (hX : Amb E X cc own nL n) {j : Fin 4} (i : Nat) (hi : (j : Nat) = i) {x : Int64} (hl0 : lk lv i = some (.long x)) (d : decode cc pc = .ok (.lload_n j, 1)) (k : Vw E X nL D (pc + 1) lv (.long x :: st)) : Vw E X nL D pc lv st := by
  obtain ⟨p, l, e, R, s, m, args, below, meth, c, cells, slots, Q, A⟩ := X
  exact fun H locs ls hP hS hl => lv_lload_n hX.1 hX.2.1 d hi (hl.2.2 _ _ hl0) (k H locs ls hP hS hl)
theorem V_lload (hX : Amb E X cc own nL n) {i : Nat} {x : Int64} (hl0 : lk lv i = some (.long x)) (d : decode cc pc = .ok (.lload i, 2)) (k : Vw E X nL D (pc + 2) lv (.long x :: st)) : Vw E X nL D pc lv st := by
  obtain ⟨p, l, e, R, s, m, args, below, meth, c, cells, slots, Q, A⟩ := X
  exact fun H locs ls hP hS hl => lv_lload hX.1 hX.2.1 d (hl.2.2 _ _ hl0) (k H locs ls hP hS hl)
theorem V_lstore_n (hX : Amb E X cc own nL n) {j : Fin 4} (i : Nat) (hi : (j : Nat) = i) {x : Int64} (hb : i + 1 < nL) (hn : noL lv i = true) (d : decode cc pc = .ok (.lstore_n j, 1)) (k : Vw E X nL D (pc + 1) ((i, some (.long x)) :: (i + 1, none) :: lv) st) : Vw E X nL D pc lv (.long x :: st) := by
  obtain ⟨p, l, e, R, s, m, args, below, meth, c, cells, slots, Q, A⟩ := X
  exact fun H locs ls hP hS hl => lv_lstore_n hX.1 hX.2.1 d hi (lvl_has hl) hb rfl (fun ls2 h2 => k H locs ls2 hP hS (lvOK_st2 hl hn h2))
theorem V_lstore (hX : Amb E X cc own nL n) {i : Nat} {x : Int64} (hb : i + 1 < nL) (hn : noL lv i = true) (d : decode cc pc = .ok (.lstore i, 2)) (k : Vw E X nL D (pc + 2) ((i, some (.long x)) :: (i + 1, none) :: lv) st) : Vw E X nL D pc lv (.long x :: st) := by
  obtain ⟨p, l, e, R, s, m, args, below, meth, c, cells, slots, Q, A⟩ := X
  exact fun H locs ls hP hS hl => lv_lstore hX.1 hX.2.1 d (lvl_has hl) hb rfl (fun ls2 h2 => k H locs ls2 hP hS (lvOK_st2 hl hn h2))
theorem V_aload_n (hX : Amb E X cc own nL n) {j : Fin 4} (i : Nat) (hi : (j : Nat) = i) {x : Nat} (hl0 : lk lv i = some (.ref x)) (d : decode cc pc = .ok (.aload_n j, 1)) (k : Vw E X nL D (pc + 1) lv (.ref x :: st)) : Vw E X nL D pc lv st := by
  obtain ⟨p, l, e, R, s, m, args, below, meth, c, cells, slots, Q, A⟩ := X
  exact fun H locs ls hP hS hl => lv_aload_n hX.1 hX.2.1 d hi (hl.2.2 _ _ hl0) (k H locs ls hP hS hl)
theorem V_aload (hX : Amb E X cc own nL n) {i : Nat} {x : Nat} (hl0 : lk lv i = some (.ref x)) (d : decode cc pc = .ok (.aload i, 2)) (k : Vw E X nL D (pc + 2) lv (.ref x :: st)) : Vw E X nL D pc lv st := by
  obtain ⟨p, l, e, R, s, m, args, below, meth, c, cells, slots, Q, A⟩ := X
  exact fun H locs ls hP hS hl => lv_aload hX.1 hX.2.1 d (hl.2.2 _ _ hl0) (k H locs ls hP hS hl)
theorem V_astore_n (hX : Amb E X cc own nL n) {j : Fin 4} (i : Nat) (hi : (j : Nat) = i) {x : Nat} (hb : i < nL) (hn : noL lv i = true) (d : decode cc pc = .ok (.astore_n j, 1)) (k : Vw E X nL D (pc + 1) ((i, some (.ref x)) :: lv) st) : Vw E X nL D pc lv (.ref x :: st) := by
  obtain ⟨p, l, e, R, s, m, args, below, meth, c, cells, slots, Q, A⟩ := X
  exact fun H locs ls hP hS hl => lv_astore_n hX.1 hX.2.1 d hi (lvl_has hl) hb rfl (fun ls2 h2 => k H locs ls2 hP hS (lvOK_st1 hl hn h2))
theorem V_astore (hX : Amb E X cc own nL n) {i : Nat} {x : Nat} (hb : i < nL) (hn : noL lv i = true) (d : decode cc pc = .ok (.astore i, 2)) (k : Vw E X nL D (pc + 2) ((i, some (.ref x)) :: lv) st) : Vw E X nL D pc lv (.ref x :: st) := by
  obtain ⟨p, l, e, R, s, m, args, below, meth, c, cells, slots, Q, A⟩ := X
  exact fun H locs ls hP hS hl => lv_astore hX.1 hX.2.1 d (lvl_has hl) hb rfl (fun ls2 h2 => k H locs ls2 hP hS (lvOK_st1 hl hn h2))
theorem V_iinc (hX : Amb E X cc own nL n) {i : Nat} {z : Int} {x : Int32} (c : Int32) (hc : Int32.ofInt z = c) (hl0 : lk lv i = some (.int x)) (hn : noL lv i = true) (d : decode cc pc = .ok (.iinc i z, 3)) (k : Vw E X nL D (pc + 3) ((i, some (.int (x + c))) :: lv) st) : Vw E X nL D pc lv st := by
  obtain ⟨p, l, e, R, s, m, args, below, meth, cd, cells, slots, Q, A⟩ := X
  refine fun H locs ls hP hS hl => ?_
  have hm : (i, Value.int x) ∈ lvl lv nL := lvl_mem.mpr ⟨lvOK_lt hl hl0, hl0⟩
  obtain ⟨q, hq⟩ := List.getElem?_of_mem hm
  exact lv_iinc hX.1 hX.2.1 d (lvl_has hl) hq (by rw [hc]) (lvOK_lt hl hl0) rfl (fun ls2 h2 => k H locs ls2 hP hS (lvOK_st1 hl hn h2))
theorem V_iadd (hX : Amb E X cc own nL n) {x y : Int32} (d : decode cc pc = .ok (.iadd, 1)) (k : Vw E X nL D (pc + 1) lv (.int (x + y) :: st)) : Vw E X nL D pc lv (.int y :: .int x :: st) := by
  obtain ⟨p, l, e, R, s, m, args, below, meth, c, cells, slots, Q, A⟩ := X
  exact fun H locs ls hP hS hl => lv_iadd hX.1 hX.2.1 d (k H locs ls hP hS hl)
theorem V_isub (hX : Amb E X cc own nL n) {x y : Int32} (d : decode cc pc = .ok (.isub, 1)) (k : Vw E X nL D (pc + 1) lv (.int (x - y) :: st)) : Vw E X nL D pc lv (.int y :: .int x :: st) := by
  obtain ⟨p, l, e, R, s, m, args, below, meth, c, cells, slots, Q, A⟩ := X
  exact fun H locs ls hP hS hl => lv_isub hX.1 hX.2.1 d (k H locs ls hP hS hl)
theorem V_imul (hX : Amb E X cc own nL n) {x y : Int32} (d : decode cc pc = .ok (.imul, 1)) (k : Vw E X nL D (pc + 1) lv (.int (x * y) :: st)) : Vw E X nL D pc lv (.int y :: .int x :: st) := by
  obtain ⟨p, l, e, R, s, m, args, below, meth, c, cells, slots, Q, A⟩ := X
  exact fun H locs ls hP hS hl => lv_imul hX.1 hX.2.1 d (k H locs ls hP hS hl)
theorem V_iand (hX : Amb E X cc own nL n) {x y : Int32} (d : decode cc pc = .ok (.iand, 1)) (k : Vw E X nL D (pc + 1) lv (.int (x &&& y) :: st)) : Vw E X nL D pc lv (.int y :: .int x :: st) := by
  obtain ⟨p, l, e, R, s, m, args, below, meth, c, cells, slots, Q, A⟩ := X
  exact fun H locs ls hP hS hl => lv_iand hX.1 hX.2.1 d (k H locs ls hP hS hl)
theorem V_ior (hX : Amb E X cc own nL n) {x y : Int32} (d : decode cc pc = .ok (.ior, 1)) (k : Vw E X nL D (pc + 1) lv (.int (x ||| y) :: st)) : Vw E X nL D pc lv (.int y :: .int x :: st) := by
  obtain ⟨p, l, e, R, s, m, args, below, meth, c, cells, slots, Q, A⟩ := X
  exact fun H locs ls hP hS hl => lv_ior hX.1 hX.2.1 d (k H locs ls hP hS hl)
theorem V_ixor (hX : Amb E X cc own nL n) {x y : Int32} (d : decode cc pc = .ok (.ixor, 1)) (k : Vw E X nL D (pc + 1) lv (.int (x ^^^ y) :: st)) : Vw E X nL D pc lv (.int y :: .int x :: st) := by
  obtain ⟨p, l, e, R, s, m, args, below, meth, c, cells, slots, Q, A⟩ := X
  exact fun H locs ls hP hS hl => lv_ixor hX.1 hX.2.1 d (k H locs ls hP hS hl)
theorem V_ladd (hX : Amb E X cc own nL n) {x y : Int64} (d : decode cc pc = .ok (.ladd, 1)) (k : Vw E X nL D (pc + 1) lv (.long (x + y) :: st)) : Vw E X nL D pc lv (.long y :: .long x :: st) := by
  obtain ⟨p, l, e, R, s, m, args, below, meth, c, cells, slots, Q, A⟩ := X
  exact fun H locs ls hP hS hl => lv_ladd hX.1 hX.2.1 d (k H locs ls hP hS hl)
theorem V_lsub (hX : Amb E X cc own nL n) {x y : Int64} (d : decode cc pc = .ok (.lsub, 1)) (k : Vw E X nL D (pc + 1) lv (.long (x - y) :: st)) : Vw E X nL D pc lv (.long y :: .long x :: st) := by
  obtain ⟨p, l, e, R, s, m, args, below, meth, c, cells, slots, Q, A⟩ := X
  exact fun H locs ls hP hS hl => lv_lsub hX.1 hX.2.1 d (k H locs ls hP hS hl)
theorem V_lmul (hX : Amb E X cc own nL n) {x y : Int64} (d : decode cc pc = .ok (.lmul, 1)) (k : Vw E X nL D (pc + 1) lv (.long (x * y) :: st)) : Vw E X nL D pc lv (.long y :: .long x :: st) := by
  obtain ⟨p, l, e, R, s, m, args, below, meth, c, cells, slots, Q, A⟩ := X
  exact fun H locs ls hP hS hl => lv_lmul hX.1 hX.2.1 d (k H locs ls hP hS hl)
theorem V_land (hX : Amb E X cc own nL n) {x y : Int64} (d : decode cc pc = .ok (.land, 1)) (k : Vw E X nL D (pc + 1) lv (.long (x &&& y) :: st)) : Vw E X nL D pc lv (.long y :: .long x :: st) := by
  obtain ⟨p, l, e, R, s, m, args, below, meth, c, cells, slots, Q, A⟩ := X
  exact fun H locs ls hP hS hl => lv_land hX.1 hX.2.1 d (k H locs ls hP hS hl)
theorem V_lor (hX : Amb E X cc own nL n) {x y : Int64} (d : decode cc pc = .ok (.lor, 1)) (k : Vw E X nL D (pc + 1) lv (.long (x ||| y) :: st)) : Vw E X nL D pc lv (.long y :: .long x :: st) := by
  obtain ⟨p, l, e, R, s, m, args, below, meth, c, cells, slots, Q, A⟩ := X
  exact fun H locs ls hP hS hl => lv_lor hX.1 hX.2.1 d (k H locs ls hP hS hl)
theorem V_lxor (hX : Amb E X cc own nL n) {x y : Int64} (d : decode cc pc = .ok (.lxor, 1)) (k : Vw E X nL D (pc + 1) lv (.long (x ^^^ y) :: st)) : Vw E X nL D pc lv (.long y :: .long x :: st) := by
  obtain ⟨p, l, e, R, s, m, args, below, meth, c, cells, slots, Q, A⟩ := X
  exact fun H locs ls hP hS hl => lv_lxor hX.1 hX.2.1 d (k H locs ls hP hS hl)
theorem V_idiv (hX : Amb E X cc own nL n) {x y : Int32} (hne : ¬ y = 0) (d : decode cc pc = .ok (.idiv, 1)) (k : Vw E X nL D (pc + 1) lv (.int (x / y) :: st)) : Vw E X nL D pc lv (.int y :: .int x :: st) := by
  obtain ⟨p, l, e, R, s, m, args, below, meth, c, cells, slots, Q, A⟩ := X
  exact fun H locs ls hP hS hl => lv_idiv hX.1 hX.2.1 d hne (k H locs ls hP hS hl)
theorem V_irem (hX : Amb E X cc own nL n) {x y : Int32} (hne : ¬ y = 0) (d : decode cc pc = .ok (.irem, 1)) (k : Vw E X nL D (pc + 1) lv (.int (x - x / y * y) :: st)) : Vw E X nL D pc lv (.int y :: .int x :: st) := by
  obtain ⟨p, l, e, R, s, m, args, below, meth, c, cells, slots, Q, A⟩ := X
  exact fun H locs ls hP hS hl => lv_irem hX.1 hX.2.1 d hne (k H locs ls hP hS hl)
theorem V_ldiv (hX : Amb E X cc own nL n) {x y : Int64} (hne : ¬ y = 0) (d : decode cc pc = .ok (.ldiv, 1)) (k : Vw E X nL D (pc + 1) lv (.long (x / y) :: st)) : Vw E X nL D pc lv (.long y :: .long x :: st) := by
  obtain ⟨p, l, e, R, s, m, args, below, meth, c, cells, slots, Q, A⟩ := X
  exact fun H locs ls hP hS hl => lv_ldiv hX.1 hX.2.1 d hne (k H locs ls hP hS hl)
theorem V_lrem (hX : Amb E X cc own nL n) {x y : Int64} (hne : ¬ y = 0) (d : decode cc pc = .ok (.lrem, 1)) (k : Vw E X nL D (pc + 1) lv (.long (x - x / y * y) :: st)) : Vw E X nL D pc lv (.long y :: .long x :: st) := by
  obtain ⟨p, l, e, R, s, m, args, below, meth, c, cells, slots, Q, A⟩ := X
  exact fun H locs ls hP hS hl => lv_lrem hX.1 hX.2.1 d hne (k H locs ls hP hS hl)
theorem V_ineg (hX : Amb E X cc own nL n) {x : Int32} (d : decode cc pc = .ok (.ineg, 1)) (k : Vw E X nL D (pc + 1) lv (.int (-x) :: st)) : Vw E X nL D pc lv (.int x :: st) := by
  obtain ⟨p, l, e, R, s, m, args, below, meth, c, cells, slots, Q, A⟩ := X
  exact fun H locs ls hP hS hl => lv_ineg hX.1 hX.2.1 d (k H locs ls hP hS hl)
theorem V_lneg (hX : Amb E X cc own nL n) {x : Int64} (d : decode cc pc = .ok (.lneg, 1)) (k : Vw E X nL D (pc + 1) lv (.long (-x) :: st)) : Vw E X nL D pc lv (.long x :: st) := by
  obtain ⟨p, l, e, R, s, m, args, below, meth, c, cells, slots, Q, A⟩ := X
  exact fun H locs ls hP hS hl => lv_lneg hX.1 hX.2.1 d (k H locs ls hP hS hl)
theorem V_i2l (hX : Amb E X cc own nL n) {x : Int32} (d : decode cc pc = .ok (.i2l, 1)) (k : Vw E X nL D (pc + 1) lv (.long x.toInt64 :: st)) : Vw E X nL D pc lv (.int x :: st) := by
  obtain ⟨p, l, e, R, s, m, args, below, meth, c, cells, slots, Q, A⟩ := X
  exact fun H locs ls hP hS hl => lv_i2l hX.1 hX.2.1 d rfl (k H locs ls hP hS hl)
theorem V_l2i (hX : Amb E X cc own nL n) {x : Int64} (d : decode cc pc = .ok (.l2i, 1)) (k : Vw E X nL D (pc + 1) lv (.int x.toInt32 :: st)) : Vw E X nL D pc lv (.long x :: st) := by
  obtain ⟨p, l, e, R, s, m, args, below, meth, c, cells, slots, Q, A⟩ := X
  exact fun H locs ls hP hS hl => lv_l2i hX.1 hX.2.1 d rfl (k H locs ls hP hS hl)
theorem V_i2b (hX : Amb E X cc own nL n) {x : Int32} (d : decode cc pc = .ok (.i2b, 1)) (k : Vw E X nL D (pc + 1) lv (.int x.toInt8.toInt32 :: st)) : Vw E X nL D pc lv (.int x :: st) := by
  obtain ⟨p, l, e, R, s, m, args, below, meth, c, cells, slots, Q, A⟩ := X
  exact fun H locs ls hP hS hl => lv_i2b hX.1 hX.2.1 d rfl (k H locs ls hP hS hl)
theorem V_i2c (hX : Amb E X cc own nL n) {x : Int32} (d : decode cc pc = .ok (.i2c, 1)) (k : Vw E X nL D (pc + 1) lv (.int (x.toUInt32 % 65536).toInt32 :: st)) : Vw E X nL D pc lv (.int x :: st) := by
  obtain ⟨p, l, e, R, s, m, args, below, meth, c, cells, slots, Q, A⟩ := X
  exact fun H locs ls hP hS hl => lv_i2c hX.1 hX.2.1 d rfl (k H locs ls hP hS hl)
theorem V_lushr (hX : Amb E X cc own nL n) {x : Int64} {y : Int32} (d : decode cc pc = .ok (.lushr, 1)) (k : Vw E X nL D (pc + 1) lv (.long (x.toUInt64 >>> (y.toInt64.toUInt64 &&& Int64.toUInt64 63)).toInt64 :: st)) : Vw E X nL D pc lv (.int y :: .long x :: st) := by
  obtain ⟨p, l, e, R, s, m, args, below, meth, c, cells, slots, Q, A⟩ := X
  exact fun H locs ls hP hS hl => lv_lushr hX.1 hX.2.1 d rfl (k H locs ls hP hS hl)
theorem V_lshl (hX : Amb E X cc own nL n) {x : Int64} {y : Int32} (d : decode cc pc = .ok (.lshl, 1)) (k : Vw E X nL D (pc + 1) lv (.long (x <<< (y.toInt64 &&& 63)) :: st)) : Vw E X nL D pc lv (.int y :: .long x :: st) := by
  obtain ⟨p, l, e, R, s, m, args, below, meth, c, cells, slots, Q, A⟩ := X
  exact fun H locs ls hP hS hl => lv_lshl hX.1 hX.2.1 d rfl (k H locs ls hP hS hl)
theorem V_lshr (hX : Amb E X cc own nL n) {x : Int64} {y : Int32} (d : decode cc pc = .ok (.lshr, 1)) (k : Vw E X nL D (pc + 1) lv (.long (x >>> (y.toInt64 &&& 63)) :: st)) : Vw E X nL D pc lv (.int y :: .long x :: st) := by
  obtain ⟨p, l, e, R, s, m, args, below, meth, c, cells, slots, Q, A⟩ := X
  exact fun H locs ls hP hS hl => lv_lshr hX.1 hX.2.1 d rfl (k H locs ls hP hS hl)
theorem V_dup (hX : Amb E X cc own nL n) {v : Value} (hv : v.category = 1) (d : decode cc pc = .ok (.dup, 1)) (k : Vw E X nL D (pc + 1) lv (v :: v :: st)) : Vw E X nL D pc lv (v :: st) := by
  obtain ⟨p, l, e, R, s, m, args, below, meth, c, cells, slots, Q, A⟩ := X
  exact fun H locs ls hP hS hl => lv_dup hX.1 hX.2.1 d hv (k H locs ls hP hS hl)
theorem V_dup2_11 (hX : Amb E X cc own nL n) {v w : Value} (hv : v.category = 1) (hw : w.category = 1) (d : decode cc pc = .ok (.dup2, 1)) (k : Vw E X nL D (pc + 1) lv (v :: w :: v :: w :: st)) : Vw E X nL D pc lv (v :: w :: st) := by
  obtain ⟨p, l, e, R, s, m, args, below, meth, c, cells, slots, Q, A⟩ := X
  exact fun H locs ls hP hS hl => lv_dup2_11 hX.1 hX.2.1 d hv hw (k H locs ls hP hS hl)
theorem V_pop (hX : Amb E X cc own nL n) {v : Value} (hv : v.category = 1) (d : decode cc pc = .ok (.pop, 1)) (k : Vw E X nL D (pc + 1) lv st) : Vw E X nL D pc lv (v :: st) := by
  obtain ⟨p, l, e, R, s, m, args, below, meth, c, cells, slots, Q, A⟩ := X
  exact fun H locs ls hP hS hl => lv_pop hX.1 hX.2.1 d hv (k H locs ls hP hS hl)
theorem V_goto (hX : Amb E X cc own nL n) {off : Int} {tgt : Nat} (ht : (pc : Int) + off = (tgt : Int)) (d : decode cc pc = .ok (.goto off, 3)) (k : Vw E X nL D tgt lv st) : Vw E X nL D pc lv st := by
  obtain ⟨p, l, e, R, s, m, args, below, meth, c, cells, slots, Q, A⟩ := X
  exact fun H locs ls hP hS hl => lv_goto hX.1 hX.2.1 d ht (k H locs ls hP hS hl)
theorem V_if_eq (hX : Amb E X cc own nL n) {x : Int32} {off : Int} {tgt : Nat} (d : decode cc pc = .ok (.ifCond .eq off, 3)) (ht : (pc : Int) + off = (tgt : Int)) (k1 : x = 0 → Vw E X nL D tgt lv st) (k2 : ¬ x = 0 → Vw E X nL D (pc + 3) lv st) : Vw E X nL D pc lv (.int x :: st) := by
  obtain ⟨p, l, e, R, s, m, args, below, meth, c, cells, slots, Q, A⟩ := X
  exact fun H locs ls hP hS hl => lv_if_eq hX.1 hX.2.1 d ht (fun h => k1 h H locs ls hP hS hl) (fun h => k2 h H locs ls hP hS hl)
theorem V_icmp_eq (hX : Amb E X cc own nL n) {x y : Int32} {off : Int} {tgt : Nat} (d : decode cc pc = .ok (.if_icmp .eq off, 3)) (ht : (pc : Int) + off = (tgt : Int)) (k1 : x = y → Vw E X nL D tgt lv st) (k2 : ¬ x = y → Vw E X nL D (pc + 3) lv st) : Vw E X nL D pc lv (.int y :: .int x :: st) := by
  obtain ⟨p, l, e, R, s, m, args, below, meth, c, cells, slots, Q, A⟩ := X
  exact fun H locs ls hP hS hl => lv_icmp_eq hX.1 hX.2.1 d ht (fun h => k1 h H locs ls hP hS hl) (fun h => k2 h H locs ls hP hS hl)
theorem V_if_lt (hX : Amb E X cc own nL n) {x : Int32} {off : Int} {tgt : Nat} (d : decode cc pc = .ok (.ifCond .lt off, 3)) (ht : (pc : Int) + off = (tgt : Int)) (k1 : x < 0 → Vw E X nL D tgt lv st) (k2 : ¬ x < 0 → Vw E X nL D (pc + 3) lv st) : Vw E X nL D pc lv (.int x :: st) := by
  obtain ⟨p, l, e, R, s, m, args, below, meth, c, cells, slots, Q, A⟩ := X
  exact fun H locs ls hP hS hl => lv_if_lt hX.1 hX.2.1 d ht (fun h => k1 h H locs ls hP hS hl) (fun h => k2 h H locs ls hP hS hl)
theorem V_icmp_lt (hX : Amb E X cc own nL n) {x y : Int32} {off : Int} {tgt : Nat} (d : decode cc pc = .ok (.if_icmp .lt off, 3)) (ht : (pc : Int) + off = (tgt : Int)) (k1 : x < y → Vw E X nL D tgt lv st) (k2 : ¬ x < y → Vw E X nL D (pc + 3) lv st) : Vw E X nL D pc lv (.int y :: .int x :: st) := by
  obtain ⟨p, l, e, R, s, m, args, below, meth, c, cells, slots, Q, A⟩ := X
  exact fun H locs ls hP hS hl => lv_icmp_lt hX.1 hX.2.1 d ht (fun h => k1 h H locs ls hP hS hl) (fun h => k2 h H locs ls hP hS hl)
theorem V_if_ge (hX : Amb E X cc own nL n) {x : Int32} {off : Int} {tgt : Nat} (d : decode cc pc = .ok (.ifCond .ge off, 3)) (ht : (pc : Int) + off = (tgt : Int)) (k1 : 0 ≤ x → Vw E X nL D tgt lv st) (k2 : ¬ 0 ≤ x → Vw E X nL D (pc + 3) lv st) : Vw E X nL D pc lv (.int x :: st) := by
  obtain ⟨p, l, e, R, s, m, args, below, meth, c, cells, slots, Q, A⟩ := X
  exact fun H locs ls hP hS hl => lv_if_ge hX.1 hX.2.1 d ht (fun h => k1 h H locs ls hP hS hl) (fun h => k2 h H locs ls hP hS hl)
theorem V_icmp_ge (hX : Amb E X cc own nL n) {x y : Int32} {off : Int} {tgt : Nat} (d : decode cc pc = .ok (.if_icmp .ge off, 3)) (ht : (pc : Int) + off = (tgt : Int)) (k1 : y ≤ x → Vw E X nL D tgt lv st) (k2 : ¬ y ≤ x → Vw E X nL D (pc + 3) lv st) : Vw E X nL D pc lv (.int y :: .int x :: st) := by
  obtain ⟨p, l, e, R, s, m, args, below, meth, c, cells, slots, Q, A⟩ := X
  exact fun H locs ls hP hS hl => lv_icmp_ge hX.1 hX.2.1 d ht (fun h => k1 h H locs ls hP hS hl) (fun h => k2 h H locs ls hP hS hl)
theorem V_if_gt (hX : Amb E X cc own nL n) {x : Int32} {off : Int} {tgt : Nat} (d : decode cc pc = .ok (.ifCond .gt off, 3)) (ht : (pc : Int) + off = (tgt : Int)) (k1 : 0 < x → Vw E X nL D tgt lv st) (k2 : ¬ 0 < x → Vw E X nL D (pc + 3) lv st) : Vw E X nL D pc lv (.int x :: st) := by
  obtain ⟨p, l, e, R, s, m, args, below, meth, c, cells, slots, Q, A⟩ := X
  exact fun H locs ls hP hS hl => lv_if_gt hX.1 hX.2.1 d ht (fun h => k1 h H locs ls hP hS hl) (fun h => k2 h H locs ls hP hS hl)
theorem V_icmp_gt (hX : Amb E X cc own nL n) {x y : Int32} {off : Int} {tgt : Nat} (d : decode cc pc = .ok (.if_icmp .gt off, 3)) (ht : (pc : Int) + off = (tgt : Int)) (k1 : y < x → Vw E X nL D tgt lv st) (k2 : ¬ y < x → Vw E X nL D (pc + 3) lv st) : Vw E X nL D pc lv (.int y :: .int x :: st) := by
  obtain ⟨p, l, e, R, s, m, args, below, meth, c, cells, slots, Q, A⟩ := X
  exact fun H locs ls hP hS hl => lv_icmp_gt hX.1 hX.2.1 d ht (fun h => k1 h H locs ls hP hS hl) (fun h => k2 h H locs ls hP hS hl)
theorem V_if_le (hX : Amb E X cc own nL n) {x : Int32} {off : Int} {tgt : Nat} (d : decode cc pc = .ok (.ifCond .le off, 3)) (ht : (pc : Int) + off = (tgt : Int)) (k1 : x ≤ 0 → Vw E X nL D tgt lv st) (k2 : ¬ x ≤ 0 → Vw E X nL D (pc + 3) lv st) : Vw E X nL D pc lv (.int x :: st) := by
  obtain ⟨p, l, e, R, s, m, args, below, meth, c, cells, slots, Q, A⟩ := X
  exact fun H locs ls hP hS hl => lv_if_le hX.1 hX.2.1 d ht (fun h => k1 h H locs ls hP hS hl) (fun h => k2 h H locs ls hP hS hl)
theorem V_icmp_le (hX : Amb E X cc own nL n) {x y : Int32} {off : Int} {tgt : Nat} (d : decode cc pc = .ok (.if_icmp .le off, 3)) (ht : (pc : Int) + off = (tgt : Int)) (k1 : x ≤ y → Vw E X nL D tgt lv st) (k2 : ¬ x ≤ y → Vw E X nL D (pc + 3) lv st) : Vw E X nL D pc lv (.int y :: .int x :: st) := by
  obtain ⟨p, l, e, R, s, m, args, below, meth, c, cells, slots, Q, A⟩ := X
  exact fun H locs ls hP hS hl => lv_icmp_le hX.1 hX.2.1 d ht (fun h => k1 h H locs ls hP hS hl) (fun h => k2 h H locs ls hP hS hl)
theorem V_if_ne (hX : Amb E X cc own nL n) {x : Int32} {off : Int} {tgt : Nat} (d : decode cc pc = .ok (.ifCond .ne off, 3)) (ht : (pc : Int) + off = (tgt : Int)) (k1 : ¬ x = 0 → Vw E X nL D tgt lv st) (k2 : x = 0 → Vw E X nL D (pc + 3) lv st) : Vw E X nL D pc lv (.int x :: st) := by
  obtain ⟨p, l, e, R, s, m, args, below, meth, c, cells, slots, Q, A⟩ := X
  exact fun H locs ls hP hS hl => lv_if_ne hX.1 hX.2.1 d ht (fun h => k1 h H locs ls hP hS hl) (fun h => k2 h H locs ls hP hS hl)
theorem V_icmp_ne (hX : Amb E X cc own nL n) {x y : Int32} {off : Int} {tgt : Nat} (d : decode cc pc = .ok (.if_icmp .ne off, 3)) (ht : (pc : Int) + off = (tgt : Int)) (k1 : ¬ x = y → Vw E X nL D tgt lv st) (k2 : x = y → Vw E X nL D (pc + 3) lv st) : Vw E X nL D pc lv (.int y :: .int x :: st) := by
  obtain ⟨p, l, e, R, s, m, args, below, meth, c, cells, slots, Q, A⟩ := X
  exact fun H locs ls hP hS hl => lv_icmp_ne hX.1 hX.2.1 d ht (fun h => k1 h H locs ls hP hS hl) (fun h => k2 h H locs ls hP hS hl)
theorem V_lcmp (hX : Amb E X cc own nL n) {x y : Int64} (d : decode cc pc = .ok (.lcmp, 1)) (k : Vw E X nL D (pc + 1) lv (.int (lg_cmp x y) :: st)) : Vw E X nL D pc lv (.long y :: .long x :: st) := by
  obtain ⟨p, l, e, R, s, m, args, below, meth, c, cells, slots, Q, A⟩ := X
  exact fun H locs ls hP hS hl => W.lcmp hX.1 hX.2.1 d (k H locs ls hP hS hl)
theorem V_lookup (hX : Amb E X cc own nL n) {dflt : Int} {ps : Array (Int × Int)} {len : Nat} {x : Int32} {off : Int} {tgt : Nat} (d : decode cc pc = .ok (.lookupswitch dflt ps, len)) (hp : (ps.toList.zip (ps.toList.drop 1)).all (fun (a, next) => a.1 < next.1) = true) (ho : Op.lookupswitch.offset ps.toList dflt x.toInt = off) (ht : (pc : Int) + off = (tgt : Int)) (k : Vw E X nL D tgt lv st) : Vw E X nL D pc lv (.int x :: st) := by
  obtain ⟨p, l, e, R, s, m, args, below, meth, c, cells, slots, Q, A⟩ := X
  exact fun H locs ls hP hS hl => lv_lookup hX.1 hX.2.1 d hp ho ht (k H locs ls hP hS hl)
theorem V_tableOut (hX : Amb E X cc own nL n) {dflt lo hi : Int} {offs : Array Int} {len : Nat} {x : Int32} {tgt : Nat} (d : decode cc pc = .ok (.tableswitch dflt lo hi offs, len)) (h : x.toInt < lo ∨ hi < x.toInt) (ht : (pc : Int) + dflt = (tgt : Int)) (k : Vw E X nL D tgt lv st) : Vw E X nL D pc lv (.int x :: st) := by
  obtain ⟨p, l, e, R, s, m, args, below, meth, c, cells, slots, Q, A⟩ := X
  exact fun H locs ls hP hS hl => lv_tableOut hX.1 hX.2.1 d h ht (k H locs ls hP hS hl)
theorem V_tableIn (hX : Amb E X cc own nL n) {dflt lo hi : Int} {offs : Array Int} {len : Nat} {x : Int32} {off : Int} {tgt : Nat} (d : decode cc pc = .ok (.tableswitch dflt lo hi offs, len)) (h1 : ¬ x.toInt < lo) (h2 : ¬ hi < x.toInt) (ho : offs[(x.toInt - lo).toNat]? = some off) (ht : (pc : Int) + off = (tgt : Int)) (k : Vw E X nL D tgt lv st) : Vw E X nL D pc lv (.int x :: st) := by
  obtain ⟨p, l, e, R, s, m, args, below, meth, c, cells, slots, Q, A⟩ := X
  exact fun H locs ls hP hS hl => lv_tableIn hX.1 hX.2.1 d h1 h2 ho ht (k H locs ls hP hS hl)
theorem V_iret {Φ : Option Value → Dt → Prop} (hX : Amb E X cc own nL n) (hR : Ret E X (some .int) Φ) {v : Int32} (d : decode cc pc = .ok (.ireturn, 1)) (hq : Φ (some (.int v)) D) : Vw E X nL D pc lv [.int v] := by
  obtain ⟨p, l, e, R, s, m, args, below, meth, c, cells, slots, Q, A⟩ := X
  obtain ⟨h1, h2, rfl, rfl⟩ := hR
  exact fun H locs ls hP hS hl => W.iret hX.1 hX.2.1 h1 (fun t ht hW => ⟨⟨_, D, rfl, hq, by rw [ht]; exact hP⟩, hS.F ht⟩) hS.2.2 d h2
theorem V_zret {Φ : Option Value → Dt → Prop} (hX : Amb E X cc own nL n) (hR : Ret E X (some .boolean) Φ) {v : Int32} (hn : narrow .boolean (.int v) = .int v) (d : decode cc pc = .ok (.ireturn, 1)) (hq : Φ (some (.int v)) D) : Vw E X nL D pc lv [.int v] := by
  obtain ⟨p, l, e, R, s, m, args, below, meth, c, cells, slots, Q, A⟩ := X
  obtain ⟨h1, h2, rfl, rfl⟩ := hR
  exact fun H locs ls hP hS hl => W.zret hX.1 hX.2.1 h1 hn (fun t ht hW => ⟨⟨_, D, rfl, hq, by rw [ht]; exact hP⟩, hS.F ht⟩) hS.2.2 d h2
theorem V_lret {Φ : Option Value → Dt → Prop} (hX : Amb E X cc own nL n) (hR : Ret E X (some .long) Φ) {v : Int64} (d : decode cc pc = .ok (.lreturn, 1)) (hq : Φ (some (.long v)) D) : Vw E X nL D pc lv [.long v] := by
  obtain ⟨p, l, e, R, s, m, args, below, meth, c, cells, slots, Q, A⟩ := X
  obtain ⟨h1, h2, rfl, rfl⟩ := hR
  exact fun H locs ls hP hS hl => W.lret hX.1 hX.2.1 h1 (fun t ht hW => ⟨⟨_, D, rfl, hq, by rw [ht]; exact hP⟩, hS.F ht⟩) hS.2.2 d h2
theorem V_vret {Φ : Option Value → Dt → Prop} (hX : Amb E X cc own nL n) (hR : Ret E X none Φ) (d : decode cc pc = .ok (.return_, 1)) (hq : Φ none D) : Vw E X nL D pc lv [] := by
  obtain ⟨p, l, e, R, s, m, args, below, meth, c, cells, slots, Q, A⟩ := X
  obtain ⟨h1, h2, rfl, rfl⟩ := hR
  exact fun H locs ls hP hS hl => W.vret hX.1 hX.2.1 h1 (fun t ht hW => ⟨⟨_, D, rfl, hq, by rw [ht]; exact hP⟩, hS.F ht⟩) hS.2.2 d h2
theorem V_get (hX : Amb E X cc own nL n) {ip : Nat} {q : Nat × Fin 11} (hp : ids[ip]? = some q) {ci : Nat} {fs : List Value} (he : cellOf E D q = .inr (ci, fs)) {C : String} {T : u_T} {N : Nat} (hc : vwCl[ci]? = some (C, T, N)) (hin : ∀ w ∈ u_ws C T N, w ∈ tblG) (k0 : Nat) (hk : k0 < N) {index : Nat} (hw : Cond.fieldLink own index (T k0).1 (T k0).2.1 (T k0).2.2.1 ∈ tblG) {v : Value} (hv : fs[k0]? = some v) (d : decode cc pc = .ok (.getfield index, 3)) (k : Vw E X nL D (pc + 3) lv (v :: st)) : Vw E X nL D pc lv (.ref (E.1 q) :: st) := by
  obtain ⟨p, l, e, R, s, m, args, below, meth, c, cells, slots, Q, A⟩ := X
  exact fun H locs ls hP hS hl => va_get hX.1 hX.2.1 hX.2.2.2.2.1 hin hX.2.2.2.1 hX.2.2.2.2.2.1 hP ip (by rw [wsD_get hp, he]) hc k0 hk (hX.2.2.2.2.1 _ hw) (fun _ h => h) hv d (k H locs ls hP hS hl)
theorem V_put (hX : Amb E X cc own nL n) {ip : Nat} {q : Nat × Fin 11} (hp : ids[ip]? = some q) {ci : Nat} {fs : List Value} (he : cellOf E D q = .inr (ci, fs)) {C : String} {T : u_T} {N : Nat} (hc : vwCl[ci]? = some (C, T, N)) (hin : ∀ w ∈ u_ws C T N, w ∈ tblG) (ty0 : Nat → FieldType) (hty : ∀ k, k < N → parseFieldDescriptor (T k).2.2.1 = some (ty0 k)) (hnm : ∀ a, a < N → ∀ b, b < N → a ≠ b → (T a).2.1 ≠ (T b).2.1) (k0 : Nat) (hk : k0 < N) {index : Nat} (hw : Cond.fieldLink own index (T k0).1 (T k0).2.1 (T k0).2.2.1 ∈ tblG) (hfin : (T k0).2.2.2 = false) {ty : FieldType} {v : Value} (hd : parseFieldDescriptor (T k0).2.2.1 = some ty) (hn : narrow ty v = v) (hfit : fits ty v = true) (hl0 : k0 < fs.length) (D' : Dt) (he' : cellOf E D' q = .inr (ci, fs.set k0 v)) (ho : ∀ r ∈ ids, r ≠ q → cellOf E D' r = cellOf E D r) (d : decode cc pc = .ok (.putfield index, 3)) (k : Vw E X nL D' (pc + 3) lv st) : Vw E X nL D pc lv (v :: .ref (E.1 q) :: st) := by
  obtain ⟨p, l, e, R, s, m, args, below, meth, c, cells, slots, Q, A⟩ := X
  refine fun H locs ls hP hS hl => va_put hX.1 hX.2.1 hX.2.2.2.2.1 hin ty0 hty hnm hX.2.2.2.1 hX.2.2.2.2.2.1 hP (wsD_D hX.2.2.2.2.2.2.1 hX.2.2.2.2.2.2.2.1) hS ip (by rw [wsD_get hp, he]) hc k0 hk (hX.2.2.2.2.1 _ hw) (fun _ h => h) hfin hd hn hfit hl0 d (fun H1 locs1 hP1 _ hS1 => ?_)
  rw [wsD_set hp he' ho] at hP1
  exact k H1 locs1 ls hP1 hS1 hl
/-! arrays -/
theorem V_iald (hX : Amb E X cc own nL n) {ip : Nat} {q : Nat × Fin 11} (hp : ids[ip]? = some q) {N : Nat} {f : Nat → Int32} (he : cellOf E D q = .inl (E.2.2.1 2, N, .inl f)) {x : Int32} (i : Nat) (hx : x = nI i) (hi : i < N) (hN : N < 2 ^ 31) (d : decode cc pc = .ok (.iaload, 1)) (k : Vw E X nL D (pc + 1) lv (.int (f i) :: st)) : Vw E X nL D pc lv (.int x :: .ref (E.1 q) :: st) := by
  obtain ⟨p, l, e, R, s, m, args, below, meth, c, cells, slots, Q, A⟩ := X
  subst hx
  refine fun H locs ls hP hS hl => va_iald hX.1 hX.2.1 hX.2.2.2.2.2.1 hP ip 2 (by rw [wsD_get hp, he]) rfl (vp_in_nI hi hN) d ?_
  rw [nI_clamp (Nat.lt_trans hi hN)]
  exact k H locs ls hP hS hl
theorem V_bald (hX : Amb E X cc own nL n) {ip : Nat} {q : Nat × Fin 11} (hp : ids[ip]? = some q) {N : Nat} {f : Nat → Int32} (he : cellOf E D q = .inl (E.2.2.1 0, N, .inl f)) {x : Int32} (i : Nat) (hx : x = nI i) (hi : i < N) (hN : N < 2 ^ 31) (d : decode cc pc = .ok (.baload, 1)) (k : Vw E X nL D (pc + 1) lv (.int (f i) :: st)) : Vw E X nL D pc lv (.int x :: .ref (E.1 q) :: st) := by
  obtain ⟨p, l, e, R, s, m, args, below, meth, c, cells, slots, Q, A⟩ := X
  subst hx
  refine fun H locs ls hP hS hl => va_bald hX.1 hX.2.1 hX.2.2.2.2.2.1 hP ip 0 (by rw [wsD_get hp, he]) rfl (vp_in_nI hi hN) d ?_
  rw [nI_clamp (Nat.lt_trans hi hN)]
  exact k H locs ls hP hS hl
theorem V_cald (hX : Amb E X cc own nL n) {ip : Nat} {q : Nat × Fin 11} (hp : ids[ip]? = some q) {N : Nat} {f : Nat → Int32} (he : cellOf E D q = .inl (E.2.2.1 1, N, .inl f)) {x : Int32} (i : Nat) (hx : x = nI i) (hi : i < N) (hN : N < 2 ^ 31) (d : decode cc pc = .ok (.caload, 1)) (k : Vw E X nL D (pc + 1) lv (.int (f i) :: st)) : Vw E X nL D pc lv (.int x :: .ref (E.1 q) :: st) := by
  obtain ⟨p, l, e, R, s, m, args, below, meth, c, cells, slots, Q, A⟩ := X
  subst hx
  refine fun H locs ls hP hS hl => va_cald hX.1 hX.2.1 hX.2.2.2.2.2.1 hP ip 1 (by rw [wsD_get hp, he]) rfl (vp_in_nI hi hN) d ?_
  rw [nI_clamp (Nat.lt_trans hi hN)]
  exact k H locs ls hP hS hl
theorem V_lald (hX : Amb E X cc own nL n) {ip : Nat} {q : Nat × Fin 11} (hp : ids[ip]? = some q) {N : Nat} {f : Nat → Int64} (he : cellOf E D q = .inl (E.2.2.1 3, N, .inr (.inl f))) {x : Int32} (i : Nat) (hx : x = nI i) (hi : i < N) (hN : N < 2 ^ 31) (d : decode cc pc = .ok (.laload, 1)) (k : Vw E X nL D (pc + 1) lv (.long (f i) :: st)) : Vw E X nL D pc lv (.int x :: .ref (E.1 q) :: st) := by
  obtain ⟨p, l, e, R, s, m, args, below, meth, c, cells, slots, Q, A⟩ := X
  subst hx
  refine fun H locs ls hP hS hl => va_lald hX.1 hX.2.1 hX.2.2.2.2.2.1 hP ip 3 (by rw [wsD_get hp, he]) rfl (vp_in_nI hi hN) d ?_
  rw [nI_clamp (Nat.lt_trans hi hN)]
  exact k H locs ls hP hS hl
theorem V_alen (hX : Amb E X cc own nL n) {ip : Nat} {q : Nat × Fin 11} (hp : ids[ip]? = some q) {cA : ClassId} {x : vp_A} (he : cellOf E D q = .inl (cA, x)) (t0 : Nat) {ty : FieldType} (ht : (tysE E)[t0]? = some (cA, ty)) (v : Int32) (hv : Int32.ofNat x.1 = v) (d : decode cc pc = .ok (.arraylength, 1)) (k : Vw E X nL D (pc + 1) lv (.int v :: st)) : Vw E X nL D pc lv (.ref (E.1 q) :: st) := by
  obtain ⟨p, l, e, R, s, m, args, below, meth, c, cells, slots, Q, A⟩ := X
  exact fun H locs ls hP hS hl => va_alen hX.1 hX.2.1 hX.2.2.2.2.2.1 hP ip t0 (by rw [wsD_get hp, he]) ht hv d (k H locs ls hP hS hl)
theorem V_iast (hX : Amb E X cc own nL n) {ip t : Nat} (hp : ids[ip]? = some (t, 0)) {N : Nat} (he : ∀ D, cellOf E D (t, 0) = .inl (E.2.2.1 2, N, .inl (D.1 t))) {x y : Int32} (i : Nat) (hx : x = nI i) (hi : i < N) (hN : N < 2 ^ 31) (sg : ∀ r ∈ ids, r.1 = t → r = (t, 0)) (d : decode cc pc = .ok (.iastore, 1)) (k : Vw E X nL (rU D t (upd (D.1 t) i y)) (pc + 1) lv st) : Vw E X nL D pc lv (.int y :: .int x :: .ref (E.1 (t, 0)) :: st) := by
  obtain ⟨p, l, e, R, s, m, args, below, meth, c, cells, slots, Q, A⟩ := X
  subst hx
  refine fun H locs ls hP hS hl => va_iast hX.1 hX.2.1 hX.2.2.2.2.2.1 hP (wsD_D hX.2.2.2.2.2.2.1 hX.2.2.2.2.2.2.2.1) hS ip 2 (by rw [wsD_get hp, he]) rfl (vp_in_nI hi hN) d (fun H1 locs1 hP1 _ hS1 => ?_)
  rw [nI_clamp (Nat.lt_trans hi hN), wsD_set (D' := rU D t (upd (D.1 t) i y)) hp (by rw [he]; simp [rU]) (ho_rU t sg E D _)] at hP1
  exact k H1 locs1 ls hP1 hS1 hl
theorem V_bast (hX : Amb E X cc own nL n) {ip t : Nat} (hp : ids[ip]? = some (t, 0)) {N : Nat} (he : ∀ D, cellOf E D (t, 0) = .inl (E.2.2.1 0, N, .inl (D.1 t))) {x y : Int32} (i : Nat) (hx : x = nI i) (hi : i < N) (hN : N < 2 ^ 31) (hy : vp_nar .byte y = y) (sg : ∀ r ∈ ids, r.1 = t → r = (t, 0)) (d : decode cc pc = .ok (.bastore, 1)) (k : Vw E X nL (rU D t (upd (D.1 t) i y)) (pc + 1) lv st) : Vw E X nL D pc lv (.int y :: .int x :: .ref (E.1 (t, 0)) :: st) := by
  obtain ⟨p, l, e, R, s, m, args, below, meth, c, cells, slots, Q, A⟩ := X
  subst hx
  refine fun H locs ls hP hS hl => va_bast hX.1 hX.2.1 hX.2.2.2.2.2.1 hP (wsD_D hX.2.2.2.2.2.2.1 hX.2.2.2.2.2.2.2.1) hS ip 0 (by rw [wsD_get hp, he]) rfl (vp_in_nI hi hN) d (fun H1 locs1 hP1 _ hS1 => ?_)
  rw [nI_clamp (Nat.lt_trans hi hN), hy, wsD_set (D' := rU D t (upd (D.1 t) i y)) hp (by rw [he]; simp [rU]) (ho_rU t sg E D _)] at hP1
  exact k H1 locs1 ls hP1 hS1 hl
theorem V_last (hX : Amb E X cc own nL n) {ip t : Nat} {z : Fin 11} (hp : ids[ip]? = some (t, z)) {N : Nat} (he : ∀ D, cellOf E D (t, z) = .inl (E.2.2.1 3, N, .inr (.inl (D.2.1 t z)))) {x : Int32} {y : Int64} (i : Nat) (hx : x = nI i) (hi : i < N) (hN : N < 2 ^ 31) (ho : ∀ D f, ∀ r ∈ ids, r ≠ (t, z) → cellOf E (lU D t z f) r = cellOf E D r) (d : decode cc pc = .ok (.lastore, 1)) (k : Vw E X nL (lU D t z (vp_updL (D.2.1 t z) i y)) (pc + 1) lv st) : Vw E X nL D pc lv (.long y :: .int x :: .ref (E.1 (t, z)) :: st) := by
  obtain ⟨p, l, e, R, s, m, args, below, meth, c, cells, slots, Q, A⟩ := X
  subst hx
  refine fun H locs ls hP hS hl => va_last hX.1 hX.2.1 hX.2.2.2.2.2.1 hP (wsD_D hX.2.2.2.2.2.2.1 hX.2.2.2.2.2.2.2.1) hS ip 3 (by rw [wsD_get hp, he]) rfl (vp_in_nI hi hN) d (fun H1 locs1 hP1 _ hS1 => ?_)
  rw [nI_clamp (Nat.lt_trans hi hN), wsD_set (D' := lU D t z (vp_updL (D.2.1 t z) i y)) hp (by rw [he]; simp [lU]) (ho D _)] at hP1
  exact k H1 locs1 ls hP1 hS1 hl
theorem V_aald (hX : Amb E X cc own nL n) {z : Fin 11} {x : Int32} (i : Nat) (hx : x = nI i) (hi : i < 5) (d : decode cc pc = .ok (.aaload, 1)) (k : Vw E X nL D (pc + 1) lv (.ref (E.1 (1, D.2.2 (1 + (b2 z).val) i)) :: st)) : Vw E X nL D pc lv (.int x :: .ref (E.1 (4, b2 z)) :: st) := by
  obtain ⟨p, l, e, R, s, m, args, below, meth, c, cells, slots, Q, A⟩ := X
  subst hx
  refine fun H locs ls hP hS hl => va_aldq hX.1 hX.2.1 hX.2.2.2.2.2.1 hP (34 + (b2 z).val) 4 (f := fun i => some (E.1 (1, D.2.2 (1 + (b2 z).val) i))) (by rw [wsD_get (ix_4 z)]; rfl) rfl (vp_in_nI hi (by decide)) d ?_
  rw [nI_clamp (Nat.lt_trans hi (by decide))]
  exact k H locs ls hP hS hl
theorem V_aast (hX : Amb E X cc own nL n) {z w : Fin 11} {x : Int32} (i : Nat) (hx : x = nI i) (hi : i < 5) (d : decode cc pc = .ok (.aastore, 1)) (k : Vw E X nL (pU D (1 + (b2 z).val) (pS (D.2.2 (1 + (b2 z).val)) i w)) (pc + 1) lv st) : Vw E X nL D pc lv (.ref (E.1 (1, w)) :: .int x :: .ref (E.1 (4, b2 z)) :: st) := by
  obtain ⟨p, l, e, R, s, m, args, below, meth, c, cells, slots, Q, A⟩ := X
  subst hx
  refine fun H locs ls hP hS hl => va_astq hX.1 hX.2.1 hX.2.2.2.2.2.1 hP (wsD_D hX.2.2.2.2.2.2.1 hX.2.2.2.2.2.2.2.1) hS (34 + (b2 z).val) 4 (1 + w.val) 0 (r := (RX0, TX0, 2)) (f := fun i => some (E.1 (1, D.2.2 (1 + (b2 z).val) i))) (by rw [wsD_get (ix_4 z)]; rfl) rfl (by rw [wsD_get (ix_1 w)]; rfl) rfl (vp_in_nI hi (by decide)) d (fun H1 locs1 hP1 _ hS1 => ?_)
  rw [nI_clamp (Nat.lt_trans hi (by decide)), wsD_set (D' := pU D (1 + (b2 z).val) (pS (D.2.2 (1 + (b2 z).val)) i w)) (ix_4 z) ?_ (fun r _ hr => cell_pU1 E D (b2 z) _ r hr)] at hP1
  · exact k H1 locs1 ls hP1 hS1 hl
  · show Sum.inl (E.2.2.1 4, 5, _) = Sum.inl (E.2.2.1 4, 5, _)
    congr 7
    funext j
    by_cases hj : j = i <;> simp [pU, pS, va_up, hj]
/-! calls -/
def Site (own : String) (idx : Nat) (y : MethodName) (cc : ByteArray) (mL : Nat) (ret : Option FieldType) (na : Nat) : Prop := Cond.methodLink own idx y ∈ tblG ∧ Cond.initialized y.cls ∈ tblG ∧ Cond.code y cc mL ret ∈ tblG ∧ (y.cls ≠ "java/lang/invoke/MethodHandle" ∧ y.cls ≠ "java/lang/invoke/VarHandle" ∧ (parseMethodDescriptor y.desc).map (fun d => d.parameters.length) = some na) ∧ mL ≤ 20
def SiteN (own : String) (idx : Nat) (y : MethodName) (host : String) (cc : ByteArray) (mL : Nat) (ret : Option FieldType) (na : Nat) : Prop := Cond.methodLinkNest own idx y host ∈ tblG ∧ Cond.initialized y.cls ∈ tblG ∧ Cond.code y cc mL ret ∈ tblG ∧ (y.cls ≠ "java/lang/invoke/MethodHandle" ∧ y.cls ≠ "java/lang/invoke/VarHandle" ∧ (parseMethodDescriptor y.desc).map (fun d => d.parameters.length) = some na) ∧ mL ≤ 20
theorem pcb_blind {E : Le} {D : Dt} {as : List Value} : FrameBlind (va_Pc as (PcB E D)) := by
  intro a U g mk q
  obtain ⟨q0, qP, qK, qW, qS⟩ := q
  exact ⟨q0, qP, va_K.moved (u := U) (U := U.calling g mk a) (Vm.Alike.refl U.vm) qK, qW, Stc.same (u := U) rfl qS⟩
theorem goodTbl {y : MethodName} {cc : ByteArray} {mL : Nat} {ret : Option FieldType} (h : Cond.code y cc mL ret ∈ tblG) : GoodIn tblG (Cond.code y cc mL ret :: tblG) := by
  intro w hw
  have hm : w ∈ tblG := by
    rcases List.mem_cons.mp hw with rfl | h2
    · exact h
    · exact h2
  exact ⟨hm, good_of_word (List.mem_filter.mp hm).2⟩
theorem roomB {X : Cx} {n2 mL : Nat} (hX : Amb E X cc own nL n) (hn : n2 < n) (hm : mL ≤ 20) : match X with
  | (_, _, _, R, _) => (rmB n2).frames + 1 ≤ R.frames ∧ 8 + (mL + 11) + (rmB n2).locals ≤ R.locals := by
  obtain ⟨p, l, e, R, s, m, args, below, meth, c, cells, slots, Q, A⟩ := X
  obtain ⟨-, -, -, -, -, -, -, -, ⟨h1, h2, -, -⟩, -⟩ := hX
  simp only [rmB]
  omega
theorem V_callCore {y : MethodName} {cy : ByteArray} {mL : Nat} {ret : Option FieldType} {n2 : Nat} {as rest st0 : List Value} {Φ : Option Value → Dt → Prop} (hX : Amb E X cc own nL n)
    (hr : match X with
      | (p, l, e, R, s, m, args, below, meth, c, cells, slots, _, A) => ∀ (H : Heap) (locs : List Loc) (ls : Array Slot), va_P E.2.1 vwCl (wsD E D) H → va_S A s.heap H locs → ls.size = nL → va_Run p l e R s m args below meth c H locs cells slots 0 0 (F0 m pc ls st0) rest (QcB E Φ as.toArray) (inW E))
    (k : ∀ (v : Option Value) (D' : Dt), Φ v D' → Vw E X nL D' (pc + 3) lv (v.toList ++ rest)) : Vw E X nL D pc lv st0 := by
  obtain ⟨p, l, e, R, s, m, args, below, meth, c, cells, slots, Q, A⟩ := X
  intro H locs ls hP hS hl
  intro T hT XX
  obtain ⟨v, st₀, t, T', L, h0, X', hL, e1, e2, ⟨⟨v2, D', hv, hq, hP'⟩, hz, hk⟩, sp⟩ := hr H locs ls hP hS hl.1 T hT XX
  cases hv
  rw [h0] at hz hk
  have hA : ∀ q, inW E q → A q := fun q ⟨i, hi, e⟩ => e ▸ hX.2.2.2.2.2.2.2.1 i hi
  obtain ⟨t2, a1, b1⟩ := k v D' hq T'.heap (locs ++ L) ls (by rw [e1]; exact hP')
    ⟨Nat.le_trans hS.1 (by rw [e1]; exact hz), fun q h1 h2 => by rw [e1, hk q (Nat.lt_of_lt_of_le h1 hS.1) (fun z => h2 (hA q z))]; exact hS.2.1 q h1 h2, fun q hq => by
      rcases List.mem_append.mp hq with h | h
      · exact hS.2.2 q h
      · exact hA _ (hL q h)⟩ hl T' rfl X'
  exact ⟨t2, sp t2 a1, b1⟩
theorem pre_B {p : Program} {l : Launch} {e : Env} {R : Room} {s : State} {m : MethodId} {args : Array Value} {below : List Frame} {meth : Method} {c : Code} {cells slots : Nat} {Q : State → Prop} {A : Nat → Prop} {as : List Value} (hX : Amb E (p, l, e, R, s, m, args, below, meth, c, cells, slots, Q, A) cc own nL n) {H : Heap} {locs : List Loc} (hP : va_P E.2.1 vwCl (wsD E D) H) (hS : va_S A s.heap H locs) : ∀ U : State, U.heap = H → s.WarmedH U.vm → va_Pc as (PcB E D) as.toArray U := by
  intro U hU hW
  have hA : ∀ q, inW E q → A q := fun q ⟨i, hi, e⟩ => e ▸ hX.2.2.2.2.2.2.2.1 i hi
  obtain ⟨-, -, -, -, -, hK, hWf, -, -, hT⟩ := hX
  refine ⟨rfl, by rw [hU]; exact hP, va_K.moved hW.alike hK, hWf, ?_⟩
  rw [hU]
  exact ((Stc.warm hW hT).kept hS.2.1).narrow hA
theorem V_callV {y : MethodName} {cy : ByteArray} {mL : Nat} {ret : Option FieldType} {n2 na idx : Nat} {C : String} {as rest st0 : List Value} {Φ : Option Value → Dt → Prop} {q : Nat × Fin 11} {ip ci : Nat} {fs : List Value} {r : vw_C} (hX : Amb E X cc own nL n)
    (hM : Con E (Xl X) y cy mL ret n2 (.ref (E.1 q) :: as) D Φ) (hn : n2 < n) (hs : Site own idx y cy mL ret na) (hi : Cond.instanceMethod y ∈ tblG) (hse : Cond.selects C y y ∈ tblG) (hC : y.cls = C) (hp : ids[ip]? = some q) (he : cellOf E D q = .inr (ci, fs)) (hc : vwCl[ci]? = some r) (hr : r.1 = C) (hna : as.length = na) (hst : st0 = as.reverse ++ .ref (E.1 q) :: rest) (hsm : (rest.map fun v => v.category).sum ≤ 8) (d : decode cc pc = .ok (.invokevirtual idx, 3))
    (k : ∀ (v : Option Value) (D' : Dt), Φ v D' → Vw E X nL D' (pc + 3) lv (v.toList ++ rest)) : Vw E X nL D pc lv st0 := by
  have hR := roomB hX hn hs.2.2.2.2
  refine V_callCore (y := y) (cy := cy) (mL := mL) (ret := ret) (n2 := n2) (as := .ref (E.1 q) :: as) (rest := rest) hX ?_ k
  obtain ⟨p, l, e, R, s, m, args, below, meth, c, cells, slots, Q, A⟩ := X
  intro H locs ls hP hS hl
  have hw := hX.2.2.2.2.1
  subst hr
  refine va_runV (As := as) (rest := rest) (Ts := tblG) ⟨hX.1, hX.2.1, hX.2.2.1, hX.2.2.2.1, hw⟩ hM ⟨callB_of na hw (goodTbl hs.2.2.1) rfl rfl rfl (hw _ hs.2.1) (hw _ hs.1) hs.2.2.2.1 hR, hw _ hi, hw _ hse⟩ ⟨pcb_blind, va_recv hX.2.2.2.2.2.1 hP hc (q0 := ip) (by rw [wsD_get hp, he]), pre_B hX hP hS⟩ rfl hna hl hst (lv_room hsm) d ⟨hX.2.2.2.2.2.2.2.2.1.2.2.1, hX.2.2.2.2.2.2.2.2.1.2.2.2⟩
theorem V_callS {y : MethodName} {cy : ByteArray} {mL : Nat} {ret : Option FieldType} {n2 na idx : Nat} {as rest st0 : List Value} {Φ : Option Value → Dt → Prop} (hX : Amb E X cc own nL n)
    (hM : Con E (Xl X) y cy mL ret n2 as D Φ) (hn : n2 < n) (hs : Site own idx y cy mL ret na) (hi : Cond.static y ∈ tblG) (hna : as.length = na) (hst : st0 = as.reverse ++ rest) (hsm : (rest.map fun v => v.category).sum ≤ 8) (d : decode cc pc = .ok (.invokestatic idx, 3))
    (k : ∀ (v : Option Value) (D' : Dt), Φ v D' → Vw E X nL D' (pc + 3) lv (v.toList ++ rest)) : Vw E X nL D pc lv st0 := by
  have hR := roomB hX hn hs.2.2.2.2
  refine V_callCore (y := y) (cy := cy) (mL := mL) (ret := ret) (n2 := n2) (as := as) (rest := rest) hX ?_ k
  obtain ⟨p, l, e, R, s, m, args, below, meth, c, cells, slots, Q, A⟩ := X
  intro H locs ls hP hS hl
  have hw := hX.2.2.2.2.1
  exact va_runS (As := as) (rest := rest) (Ts := tblG) ⟨hX.1, hX.2.1, hX.2.2.1, hX.2.2.2.1, hw⟩ hM ⟨callB_of na hw (goodTbl hs.2.2.1) rfl rfl rfl (hw _ hs.2.1) (hw _ hs.1) hs.2.2.2.1 hR, hw _ hi⟩ ⟨pcb_blind, pre_B hX hP hS⟩ rfl hna hl hst (lv_room hsm) d ⟨hX.2.2.2.2.2.2.2.2.1.2.2.1, hX.2.2.2.2.2.2.2.2.1.2.2.2⟩
theorem V_callN {y : MethodName} {cy : ByteArray} {mL : Nat} {ret : Option FieldType} {n2 na idx : Nat} {host : String} {as rest st0 : List Value} {Φ : Option Value → Dt → Prop} (hX : Amb E X cc own nL n)
    (hM : Con E (Xl X) y cy mL ret n2 as D Φ) (hn : n2 < n) (hl0 : ∀ (A : Nat → Prop) (s : State) (H : Heap), Stc E A s H → va_Nw (.methodLinkNest own idx y host) s) (hini : Cond.initialized y.cls ∈ tblG) (hcd : Cond.code y cy mL ret ∈ tblG) (hd : y.cls ≠ "java/lang/invoke/MethodHandle" ∧ y.cls ≠ "java/lang/invoke/VarHandle" ∧ (parseMethodDescriptor y.desc).map (fun d => d.parameters.length) = some na) (hmL : mL ≤ 20) (hi : Cond.static y ∈ tblG) (hna : as.length = na) (hst : st0 = as.reverse ++ rest) (hsm : (rest.map fun v => v.category).sum ≤ 8) (d : decode cc pc = .ok (.invokestatic idx, 3))
    (k : ∀ (v : Option Value) (D' : Dt), Φ v D' → Vw E X nL D' (pc + 3) lv (v.toList ++ rest)) : Vw E X nL D pc lv st0 := by
  have hR := roomB hX hn hmL
  refine V_callCore (y := y) (cy := cy) (mL := mL) (ret := ret) (n2 := n2) (as := as) (rest := rest) hX ?_ k
  obtain ⟨p, l, e, R, s, m, args, below, meth, c, cells, slots, Q, A⟩ := X
  intro H locs ls hP hS hl
  have hw := hX.2.2.2.2.1
  exact va_runSN (As := as) (rest := rest) (Ts := tblG) ⟨hX.1, hX.2.1, hX.2.2.1, hX.2.2.2.1, hw⟩ hM ⟨va_cnB na hw (goodTbl hcd) rfl rfl rfl (hl0 A s s.heap hX.2.2.2.2.2.2.2.2.2) (hw _ hini) hd hR, hw _ hi, trivial⟩ ⟨pcb_blind, pre_B hX hP hS⟩ rfl hna hl hst (lv_room hsm) d ⟨hX.2.2.2.2.2.2.2.2.1.2.2.1, hX.2.2.2.2.2.2.2.2.1.2.2.2⟩
/-! the JDK's Math: min, max, abs -/
theorem V_mmax (hX : Amb E X cc own nL n) {idx : Nat} {x y : Int32} (hn : 0 < n) (h1 : Cond.methodLink own idx Lib.Math.max.name ∈ tblG) (h2 : Cond.static Lib.Math.max.name ∈ tblG) (h3 : Cond.initialized "java/lang/Math" ∈ tblG) (h4 : Cond.code Lib.Math.max.name Lib.Math.max.code 2 (some .int) ∈ tblG) (hsm : (st.map fun v => v.category).sum ≤ 8) (d : decode cc pc = .ok (.invokestatic idx, 3)) (k : Vw E X nL D (pc + 3) lv (.int (if x < y then y else x) :: st)) : Vw E X nL D pc lv (.int y :: .int x :: st) := by
  obtain ⟨p, l, e, R, s, m, args, below, meth, c, cells, slots, Q, A⟩ := X
  have hw := hX.2.2.2.2.1
  obtain ⟨r1, r2, r3, r4⟩ := hX.2.2.2.2.2.2.2.2.1
  exact fun H locs ls hP hS hl => va_mmax hX.1 hX.2.1 (hX.2.2.1.trans hl.1.symm) hX.2.2.2.1 (hw _ h1) (hw _ h2) (hw _ h3) (hw _ h4) (by omega) (by omega) r3 r4 d (k H locs ls hP hS hl)
theorem V_mmin (hX : Amb E X cc own nL n) {idx : Nat} {x y : Int32} (hn : 0 < n) (h1 : Cond.methodLink own idx Lib.Math.min.name ∈ tblG) (h2 : Cond.static Lib.Math.min.name ∈ tblG) (h3 : Cond.initialized "java/lang/Math" ∈ tblG) (h4 : Cond.code Lib.Math.min.name Lib.Math.min.code 2 (some .int) ∈ tblG) (hsm : (st.map fun v => v.category).sum ≤ 8) (d : decode cc pc = .ok (.invokestatic idx, 3)) (k : Vw E X nL D (pc + 3) lv (.int (if y < x then y else x) :: st)) : Vw E X nL D pc lv (.int y :: .int x :: st) := by
  obtain ⟨p, l, e, R, s, m, args, below, meth, c, cells, slots, Q, A⟩ := X
  have hw := hX.2.2.2.2.1
  obtain ⟨r1, r2, r3, r4⟩ := hX.2.2.2.2.2.2.2.2.1
  exact fun H locs ls hP hS hl => va_mmin hX.1 hX.2.1 (hX.2.2.1.trans hl.1.symm) hX.2.2.2.1 (hw _ h1) (hw _ h2) (hw _ h3) (hw _ h4) (by omega) (by omega) r3 r4 d (k H locs ls hP hS hl)
theorem V_mabs (hX : Amb E X cc own nL n) {idx : Nat} {x : Int32} (hn : 0 < n) (h1 : Cond.methodLink own idx Lib.Math.abs.name ∈ tblG) (h2 : Cond.static Lib.Math.abs.name ∈ tblG) (h3 : Cond.initialized "java/lang/Math" ∈ tblG) (h4 : Cond.code Lib.Math.abs.name Lib.Math.abs.code 1 (some .int) ∈ tblG) (hsm : (st.map fun v => v.category).sum ≤ 8) (d : decode cc pc = .ok (.invokestatic idx, 3)) (k : Vw E X nL D (pc + 3) lv (.int (if 0 ≤ x then x else 0 - x) :: st)) : Vw E X nL D pc lv (.int x :: st) := by
  obtain ⟨p, l, e, R, s, m, args, below, meth, c, cells, slots, Q, A⟩ := X
  have hw := hX.2.2.2.2.1
  obtain ⟨r1, r2, r3, r4⟩ := hX.2.2.2.2.2.2.2.2.1
  exact fun H locs ls hP hS hl => va_mabs hX.1 hX.2.1 (hX.2.2.1.trans hl.1.symm) hX.2.2.2.1 (hw _ h1) (hw _ h2) (hw _ h3) (hw _ h4) (by omega) (by omega) r3 r4 d (k H locs ls hP hS hl)
theorem V_copyl (hX : Amb E X cc own nL n) {idx : Nat} {t0 t1 : Nat} {z0 z1 : Fin 11} {i0 i1 N0 N1 : Nat} (hn : 0 < n) (h1 : Cond.methodLink own idx arraycopyName ∈ tblG) (h2 : Cond.native arraycopyName ∈ tblG) (h3 : Cond.static arraycopyName ∈ tblG) (h4 : Cond.initialized "java/lang/System" ∈ tblG) (p0 : ids[i0]? = some (t0, z0)) (p1 : ids[i1]? = some (t1, z1)) (he0 : cellOf E D (t0, z0) = .inl (E.2.2.1 3, N0, .inr (.inl (D.2.1 t0 z0)))) (he1 : ∀ D, cellOf E D (t1, z1) = .inl (E.2.2.1 3, N1, .inr (.inl (D.2.1 t1 z1)))) {x : Int32} (len : Nat) (hx : x = nI len) (hl0 : len ≤ N0) (hl1 : len ≤ N1) (hN : N0 < 2 ^ 31) (ho : ∀ D f, ∀ r ∈ ids, r ≠ (t1, z1) → cellOf E (lU D t1 z1 f) r = cellOf E D r) (hsm : (st.map fun v => v.category).sum ≤ 8) (d : decode cc pc = .ok (.invokestatic idx, 3)) (k : Vw E X nL (lU D t1 z1 (fun j => if j < len then D.2.1 t0 z0 j else D.2.1 t1 z1 j)) (pc + 3) lv st) : Vw E X nL D pc lv (.int x :: .int 0 :: .ref (E.1 (t1, z1)) :: .int 0 :: .ref (E.1 (t0, z0)) :: st) := by
  obtain ⟨p, l, e, R, s, m, args, below, meth, c, cells, slots, Q, A⟩ := X
  have hw := hX.2.2.2.2.1
  obtain ⟨r1, r2, r3, r4⟩ := hX.2.2.2.2.2.2.2.2.1
  subst hx
  have hcl : (nI len).toNatClampNeg = len := nI_clamp (by omega)
  have hnat0 : nativeFrameWords "java/lang/System" "arraycopy" 5 + 11 ≤ 31 := by decide
  have hnat : (st.map fun v => v.category).sum + (nativeFrameWords "java/lang/System" "arraycopy" 5 + 11) ≤ R.locals := by omega
  refine fun H locs ls hP hS hl => va_copyl hX.1 hX.2.1 (hX.2.2.1.trans hl.1.symm) hX.2.2.2.1 (hw _ h1) (hw _ h2) (hw _ h3) (hw _ h4) hX.2.2.2.2.2.1 hP (wsD_D hX.2.2.2.2.2.2.1 hX.2.2.2.2.2.2.2.1) hS i0 i1 3 3 (n := nI len) (by rw [wsD_get p0, he0]) (by rw [wsD_get p1, he1]) rfl rfl rfl (by decide) (by decide) (nI_pos (by omega)) (sp := 0) (dp := 0) (by rw [hcl, show (0 : Int32).toNatClampNeg = 0 from rfl]; omega) (by rw [hcl, show (0 : Int32).toNatClampNeg = 0 from rfl]; omega) (fun i _ => rfl) (by omega) hnat d (fun H1 locs1 hP1 _ hS1 => ?_)
  rw [wsD_set (D' := lU D t1 z1 (fun j => if j < len then D.2.1 t0 z0 j else D.2.1 t1 z1 j)) p1 ?_ (ho D _)] at hP1
  · exact k H1 locs1 ls hP1 hS1 hl
  · rw [he1, hcl]
    congr 4
    simp only [lU, and_self, if_true]
    congr 1
    funext j
    show (if j < len then D.2.1 t0 z0 j else D.2.1 t1 z1 j) = (if 0 ≤ j ∧ j < 0 + len then D.2.1 t0 z0 (0 + (j - 0)) else D.2.1 t1 z1 j)
    by_cases hj : j < len
    · rw [if_pos hj, if_pos ⟨Nat.zero_le _, by omega⟩, show 0 + (j - 0) = j by omega]
    · rw [if_neg hj, if_neg (by omega)]

/-! contracts by kind of answer, and call rules by number of arguments -/
def ConI (E : Le) (l : Launch) (y : MethodName) (cy : ByteArray) (mL : Nat) (ret : Option FieldType) (n : Nat) (as : List Value) (D : Dt) (r : Int32) (D1 : Dt) : Prop := Con E l y cy mL ret n as D (fun v D' => v = some (.int r) ∧ D' = D1)
def ConL (E : Le) (l : Launch) (y : MethodName) (cy : ByteArray) (mL : Nat) (ret : Option FieldType) (n : Nat) (as : List Value) (D : Dt) (r : Int64) (D1 : Dt) : Prop := Con E l y cy mL ret n as D (fun v D' => v = some (.long r) ∧ D' = D1)
def ConV (E : Le) (l : Launch) (y : MethodName) (cy : ByteArray) (mL : Nat) (ret : Option FieldType) (n : Nat) (as : List Value) (D : Dt) (D1 : Dt) : Prop := Con E l y cy mL ret n as D (fun v D' => v = none ∧ D' = D1)
def ConIp (E : Le) (l : Launch) (y : MethodName) (cy : ByteArray) (mL : Nat) (ret : Option FieldType) (n : Nat) (as : List Value) (D : Dt) (Q : Int32 → Dt → Prop) : Prop := Con E l y cy mL ret n as D (fun v D' => ∃ r, v = some (.int r) ∧ Q r D')
def ConVp (E : Le) (l : Launch) (y : MethodName) (cy : ByteArray) (mL : Nat) (ret : Option FieldType) (n : Nat) (as : List Value) (D : Dt) (Q : Dt → Prop) : Prop := Con E l y cy mL ret n as D (fun v D' => v = none ∧ Q D')
def SiteV (own : String) (idx : Nat) (y : MethodName) (cy : ByteArray) (mL : Nat) (ret : Option FieldType) (na : Nat) (C : String) : Prop := Site own idx y cy mL ret na ∧ Cond.instanceMethod y ∈ tblG ∧ Cond.selects C y y ∈ tblG ∧ y.cls = C
def SiteS (own : String) (idx : Nat) (y : MethodName) (cy : ByteArray) (mL : Nat) (ret : Option FieldType) (na : Nat) : Prop := Site own idx y cy mL ret na ∧ Cond.static y ∈ tblG
def SiteM (own : String) (idx : Nat) (y : MethodName) (host : String) (cy : ByteArray) (mL : Nat) (ret : Option FieldType) (na : Nat) : Prop := (∀ (E : Le) (A : Nat → Prop) (s : State) (H : Heap), Stc E A s H → va_Nw (.methodLinkNest own idx y host) s) ∧ Cond.initialized y.cls ∈ tblG ∧ Cond.code y cy mL ret ∈ tblG ∧ (y.cls ≠ "java/lang/invoke/MethodHandle" ∧ y.cls ≠ "java/lang/invoke/VarHandle" ∧ (parseMethodDescriptor y.desc).map (fun d => d.parameters.length) = some na) ∧ mL ≤ 20 ∧ Cond.static y ∈ tblG
theorem cVI0 {y : MethodName} {cy : ByteArray} {mL : Nat} {ret : Option FieldType} {n2 idx : Nat} {C : String} {r : Int32} {D1 : Dt} {q : Nat × Fin 11} {ip ci : Nat} {fs : List Value} {r0 : vw_C} (hX : Amb E X cc own nL n) (hM : ConI E (Xl X) y cy mL ret n2 [.ref (E.1 q)] D r D1) (hn : n2 < n) (hs : SiteV own idx y cy mL ret 0 C) (hp : ids[ip]? = some q) (he : cellOf E D q = .inr (ci, fs)) (hc : vwCl[ci]? = some r0) (hr : r0.1 = C) (hsm : (st.map fun v => v.category).sum ≤ 8) (d : decode cc pc = .ok (.invokevirtual idx, 3)) (k : Vw E X nL D1 (pc + 3) lv (.int r :: st)) : Vw E X nL D pc lv (.ref (E.1 q) :: st) :=
  V_callV hX hM hn hs.1 hs.2.1 hs.2.2.1 hs.2.2.2 hp he hc hr rfl rfl hsm d (fun v D2 h => by obtain ⟨rfl, rfl⟩ := h; exact k)
theorem cSI0 {y : MethodName} {cy : ByteArray} {mL : Nat} {ret : Option FieldType} {n2 idx : Nat} {r : Int32} {D1 : Dt} (hX : Amb E X cc own nL n) (hM : ConI E (Xl X) y cy mL ret n2 [] D r D1) (hn : n2 < n) (hs : SiteS own idx y cy mL ret 0) (hsm : (st.map fun v => v.category).sum ≤ 8) (d : decode cc pc = .ok (.invokestatic idx, 3)) (k : Vw E X nL D1 (pc + 3) lv (.int r :: st)) : Vw E X nL D pc lv (st) :=
  V_callS hX hM hn hs.1 hs.2 rfl rfl hsm d (fun v D2 h => by obtain ⟨rfl, rfl⟩ := h; exact k)
theorem cVI1 {y : MethodName} {cy : ByteArray} {mL : Nat} {ret : Option FieldType} {n2 idx : Nat} {C : String} {a1 : Value} {r : Int32} {D1 : Dt} {q : Nat × Fin 11} {ip ci : Nat} {fs : List Value} {r0 : vw_C} (hX : Amb E X cc own nL n) (hM : ConI E (Xl X) y cy mL ret n2 [.ref (E.1 q), a1] D r D1) (hn : n2 < n) (hs : SiteV own idx y cy mL ret 1 C) (hp : ids[ip]? = some q) (he : cellOf E D q = .inr (ci, fs)) (hc : vwCl[ci]? = some r0) (hr : r0.1 = C) (hsm : (st.map fun v => v.category).sum ≤ 8) (d : decode cc pc = .ok (.invokevirtual idx, 3)) (k : Vw E X nL D1 (pc + 3) lv (.int r :: st)) : Vw E X nL D pc lv (a1 :: .ref (E.1 q) :: st) :=
  V_callV hX hM hn hs.1 hs.2.1 hs.2.2.1 hs.2.2.2 hp he hc hr rfl rfl hsm d (fun v D2 h => by obtain ⟨rfl, rfl⟩ := h; exact k)
theorem cSI1 {y : MethodName} {cy : ByteArray} {mL : Nat} {ret : Option FieldType} {n2 idx : Nat} {a1 : Value} {r : Int32} {D1 : Dt} (hX : Amb E X cc own nL n) (hM : ConI E (Xl X) y cy mL ret n2 [a1] D r D1) (hn : n2 < n) (hs : SiteS own idx y cy mL ret 1) (hsm : (st.map fun v => v.category).sum ≤ 8) (d : decode cc pc = .ok (.invokestatic idx, 3)) (k : Vw E X nL D1 (pc + 3) lv (.int r :: st)) : Vw E X nL D pc lv (a1 :: st) :=
  V_callS hX hM hn hs.1 hs.2 rfl rfl hsm d (fun v D2 h => by obtain ⟨rfl, rfl⟩ := h; exact k)
theorem cVI2 {y : MethodName} {cy : ByteArray} {mL : Nat} {ret : Option FieldType} {n2 idx : Nat} {C : String} {a1 a2 : Value} {r : Int32} {D1 : Dt} {q : Nat × Fin 11} {ip ci : Nat} {fs : List Value} {r0 : vw_C} (hX : Amb E X cc own nL n) (hM : ConI E (Xl X) y cy mL ret n2 [.ref (E.1 q), a1, a2] D r D1) (hn : n2 < n) (hs : SiteV own idx y cy mL ret 2 C) (hp : ids[ip]? = some q) (he : cellOf E D q = .inr (ci, fs)) (hc : vwCl[ci]? = some r0) (hr : r0.1 = C) (hsm : (st.map fun v => v.category).sum ≤ 8) (d : decode cc pc = .ok (.invokevirtual idx, 3)) (k : Vw E X nL D1 (pc + 3) lv (.int r :: st)) : Vw E X nL D pc lv (a2 :: a1 :: .ref (E.1 q) :: st) :=
  V_callV hX hM hn hs.1 hs.2.1 hs.2.2.1 hs.2.2.2 hp he hc hr rfl rfl hsm d (fun v D2 h => by obtain ⟨rfl, rfl⟩ := h; exact k)
theorem cSI2 {y : MethodName} {cy : ByteArray} {mL : Nat} {ret : Option FieldType} {n2 idx : Nat} {a1 a2 : Value} {r : Int32} {D1 : Dt} (hX : Amb E X cc own nL n) (hM : ConI E (Xl X) y cy mL ret n2 [a1, a2] D r D1) (hn : n2 < n) (hs : SiteS own idx y cy mL ret 2) (hsm : (st.map fun v => v.category).sum ≤ 8) (d : decode cc pc = .ok (.invokestatic idx, 3)) (k : Vw E X nL D1 (pc + 3) lv (.int r :: st)) : Vw E X nL D pc lv (a2 :: a1 :: st) :=
  V_callS hX hM hn hs.1 hs.2 rfl rfl hsm d (fun v D2 h => by obtain ⟨rfl, rfl⟩ := h; exact k)
theorem cVI3 {y : MethodName} {cy : ByteArray} {mL : Nat} {ret : Option FieldType} {n2 idx : Nat} {C : String} {a1 a2 a3 : Value} {r : Int32} {D1 : Dt} {q : Nat × Fin 11} {ip ci : Nat} {fs : List Value} {r0 : vw_C} (hX : Amb E X cc own nL n) (hM : ConI E (Xl X) y cy mL ret n2 [.ref (E.1 q), a1, a2, a3] D r D1) (hn : n2 < n) (hs : SiteV own idx y cy mL ret 3 C) (hp : ids[ip]? = some q) (he : cellOf E D q = .inr (ci, fs)) (hc : vwCl[ci]? = some r0) (hr : r0.1 = C) (hsm : (st.map fun v => v.category).sum ≤ 8) (d : decode cc pc = .ok (.invokevirtual idx, 3)) (k : Vw E X nL D1 (pc + 3) lv (.int r :: st)) : Vw E X nL D pc lv (a3 :: a2 :: a1 :: .ref (E.1 q) :: st) :=
  V_callV hX hM hn hs.1 hs.2.1 hs.2.2.1 hs.2.2.2 hp he hc hr rfl rfl hsm d (fun v D2 h => by obtain ⟨rfl, rfl⟩ := h; exact k)
theorem cSI3 {y : MethodName} {cy : ByteArray} {mL : Nat} {ret : Option FieldType} {n2 idx : Nat} {a1 a2 a3 : Value} {r : Int32} {D1 : Dt} (hX : Amb E X cc own nL n) (hM : ConI E (Xl X) y cy mL ret n2 [a1, a2, a3] D r D1) (hn : n2 < n) (hs : SiteS own idx y cy mL ret 3) (hsm : (st.map fun v => v.category).sum ≤ 8) (d : decode cc pc = .ok (.invokestatic idx, 3)) (k : Vw E X nL D1 (pc + 3) lv (.int r :: st)) : Vw E X nL D pc lv (a3 :: a2 :: a1 :: st) :=
  V_callS hX hM hn hs.1 hs.2 rfl rfl hsm d (fun v D2 h => by obtain ⟨rfl, rfl⟩ := h; exact k)
theorem cVI4 {y : MethodName} {cy : ByteArray} {mL : Nat} {ret : Option FieldType} {n2 idx : Nat} {C : String} {a1 a2 a3 a4 : Value} {r : Int32} {D1 : Dt} {q : Nat × Fin 11} {ip ci : Nat} {fs : List Value} {r0 : vw_C} (hX : Amb E X cc own nL n) (hM : ConI E (Xl X) y cy mL ret n2 [.ref (E.1 q), a1, a2, a3, a4] D r D1) (hn : n2 < n) (hs : SiteV own idx y cy mL ret 4 C) (hp : ids[ip]? = some q) (he : cellOf E D q = .inr (ci, fs)) (hc : vwCl[ci]? = some r0) (hr : r0.1 = C) (hsm : (st.map fun v => v.category).sum ≤ 8) (d : decode cc pc = .ok (.invokevirtual idx, 3)) (k : Vw E X nL D1 (pc + 3) lv (.int r :: st)) : Vw E X nL D pc lv (a4 :: a3 :: a2 :: a1 :: .ref (E.1 q) :: st) :=
  V_callV hX hM hn hs.1 hs.2.1 hs.2.2.1 hs.2.2.2 hp he hc hr rfl rfl hsm d (fun v D2 h => by obtain ⟨rfl, rfl⟩ := h; exact k)
theorem cSI4 {y : MethodName} {cy : ByteArray} {mL : Nat} {ret : Option FieldType} {n2 idx : Nat} {a1 a2 a3 a4 : Value} {r : Int32} {D1 : Dt} (hX : Amb E X cc own nL n) (hM : ConI E (Xl X) y cy mL ret n2 [a1, a2, a3, a4] D r D1) (hn : n2 < n) (hs : SiteS own idx y cy mL ret 4) (hsm : (st.map fun v => v.category).sum ≤ 8) (d : decode cc pc = .ok (.invokestatic idx, 3)) (k : Vw E X nL D1 (pc + 3) lv (.int r :: st)) : Vw E X nL D pc lv (a4 :: a3 :: a2 :: a1 :: st) :=
  V_callS hX hM hn hs.1 hs.2 rfl rfl hsm d (fun v D2 h => by obtain ⟨rfl, rfl⟩ := h; exact k)
theorem cVI5 {y : MethodName} {cy : ByteArray} {mL : Nat} {ret : Option FieldType} {n2 idx : Nat} {C : String} {a1 a2 a3 a4 a5 : Value} {r : Int32} {D1 : Dt} {q : Nat × Fin 11} {ip ci : Nat} {fs : List Value} {r0 : vw_C} (hX : Amb E X cc own nL n) (hM : ConI E (Xl X) y cy mL ret n2 [.ref (E.1 q), a1, a2, a3, a4, a5] D r D1) (hn : n2 < n) (hs : SiteV own idx y cy mL ret 5 C) (hp : ids[ip]? = some q) (he : cellOf E D q = .inr (ci, fs)) (hc : vwCl[ci]? = some r0) (hr : r0.1 = C) (hsm : (st.map fun v => v.category).sum ≤ 8) (d : decode cc pc = .ok (.invokevirtual idx, 3)) (k : Vw E X nL D1 (pc + 3) lv (.int r :: st)) : Vw E X nL D pc lv (a5 :: a4 :: a3 :: a2 :: a1 :: .ref (E.1 q) :: st) :=
  V_callV hX hM hn hs.1 hs.2.1 hs.2.2.1 hs.2.2.2 hp he hc hr rfl rfl hsm d (fun v D2 h => by obtain ⟨rfl, rfl⟩ := h; exact k)
theorem cSI5 {y : MethodName} {cy : ByteArray} {mL : Nat} {ret : Option FieldType} {n2 idx : Nat} {a1 a2 a3 a4 a5 : Value} {r : Int32} {D1 : Dt} (hX : Amb E X cc own nL n) (hM : ConI E (Xl X) y cy mL ret n2 [a1, a2, a3, a4, a5] D r D1) (hn : n2 < n) (hs : SiteS own idx y cy mL ret 5) (hsm : (st.map fun v => v.category).sum ≤ 8) (d : decode cc pc = .ok (.invokestatic idx, 3)) (k : Vw E X nL D1 (pc + 3) lv (.int r :: st)) : Vw E X nL D pc lv (a5 :: a4 :: a3 :: a2 :: a1 :: st) :=
  V_callS hX hM hn hs.1 hs.2 rfl rfl hsm d (fun v D2 h => by obtain ⟨rfl, rfl⟩ := h; exact k)
theorem cVL0 {y : MethodName} {cy : ByteArray} {mL : Nat} {ret : Option FieldType} {n2 idx : Nat} {C : String} {r : Int64} {D1 : Dt} {q : Nat × Fin 11} {ip ci : Nat} {fs : List Value} {r0 : vw_C} (hX : Amb E X cc own nL n) (hM : ConL E (Xl X) y cy mL ret n2 [.ref (E.1 q)] D r D1) (hn : n2 < n) (hs : SiteV own idx y cy mL ret 0 C) (hp : ids[ip]? = some q) (he : cellOf E D q = .inr (ci, fs)) (hc : vwCl[ci]? = some r0) (hr : r0.1 = C) (hsm : (st.map fun v => v.category).sum ≤ 8) (d : decode cc pc = .ok (.invokevirtual idx, 3)) (k : Vw E X nL D1 (pc + 3) lv (.long r :: st)) : Vw E X nL D pc lv (.ref (E.1 q) :: st) :=
  V_callV hX hM hn hs.1 hs.2.1 hs.2.2.1 hs.2.2.2 hp he hc hr rfl rfl hsm d (fun v D2 h => by obtain ⟨rfl, rfl⟩ := h; exact k)
theorem cSL0 {y : MethodName} {cy : ByteArray} {mL : Nat} {ret : Option FieldType} {n2 idx : Nat} {r : Int64} {D1 : Dt} (hX : Amb E X cc own nL n) (hM : ConL E (Xl X) y cy mL ret n2 [] D r D1) (hn : n2 < n) (hs : SiteS own idx y cy mL ret 0) (hsm : (st.map fun v => v.category).sum ≤ 8) (d : decode cc pc = .ok (.invokestatic idx, 3)) (k : Vw E X nL D1 (pc + 3) lv (.long r :: st)) : Vw E X nL D pc lv (st) :=
  V_callS hX hM hn hs.1 hs.2 rfl rfl hsm d (fun v D2 h => by obtain ⟨rfl, rfl⟩ := h; exact k)
theorem cVL1 {y : MethodName} {cy : ByteArray} {mL : Nat} {ret : Option FieldType} {n2 idx : Nat} {C : String} {a1 : Value} {r : Int64} {D1 : Dt} {q : Nat × Fin 11} {ip ci : Nat} {fs : List Value} {r0 : vw_C} (hX : Amb E X cc own nL n) (hM : ConL E (Xl X) y cy mL ret n2 [.ref (E.1 q), a1] D r D1) (hn : n2 < n) (hs : SiteV own idx y cy mL ret 1 C) (hp : ids[ip]? = some q) (he : cellOf E D q = .inr (ci, fs)) (hc : vwCl[ci]? = some r0) (hr : r0.1 = C) (hsm : (st.map fun v => v.category).sum ≤ 8) (d : decode cc pc = .ok (.invokevirtual idx, 3)) (k : Vw E X nL D1 (pc + 3) lv (.long r :: st)) : Vw E X nL D pc lv (a1 :: .ref (E.1 q) :: st) :=
  V_callV hX hM hn hs.1 hs.2.1 hs.2.2.1 hs.2.2.2 hp he hc hr rfl rfl hsm d (fun v D2 h => by obtain ⟨rfl, rfl⟩ := h; exact k)
theorem cSL1 {y : MethodName} {cy : ByteArray} {mL : Nat} {ret : Option FieldType} {n2 idx : Nat} {a1 : Value} {r : Int64} {D1 : Dt} (hX : Amb E X cc own nL n) (hM : ConL E (Xl X) y cy mL ret n2 [a1] D r D1) (hn : n2 < n) (hs : SiteS own idx y cy mL ret 1) (hsm : (st.map fun v => v.category).sum ≤ 8) (d : decode cc pc = .ok (.invokestatic idx, 3)) (k : Vw E X nL D1 (pc + 3) lv (.long r :: st)) : Vw E X nL D pc lv (a1 :: st) :=
  V_callS hX hM hn hs.1 hs.2 rfl rfl hsm d (fun v D2 h => by obtain ⟨rfl, rfl⟩ := h; exact k)
theorem cVL2 {y : MethodName} {cy : ByteArray} {mL : Nat} {ret : Option FieldType} {n2 idx : Nat} {C : String} {a1 a2 : Value} {r : Int64} {D1 : Dt} {q : Nat × Fin 11} {ip ci : Nat} {fs : List Value} {r0 : vw_C} (hX : Amb E X cc own nL n) (hM : ConL E (Xl X) y cy mL ret n2 [.ref (E.1 q), a1, a2] D r D1) (hn : n2 < n) (hs : SiteV own idx y cy mL ret 2 C) (hp : ids[ip]? = some q) (he : cellOf E D q = .inr (ci, fs)) (hc : vwCl[ci]? = some r0) (hr : r0.1 = C) (hsm : (st.map fun v => v.category).sum ≤ 8) (d : decode cc pc = .ok (.invokevirtual idx, 3)) (k : Vw E X nL D1 (pc + 3) lv (.long r :: st)) : Vw E X nL D pc lv (a2 :: a1 :: .ref (E.1 q) :: st) :=
  V_callV hX hM hn hs.1 hs.2.1 hs.2.2.1 hs.2.2.2 hp he hc hr rfl rfl hsm d (fun v D2 h => by obtain ⟨rfl, rfl⟩ := h; exact k)
theorem cSL2 {y : MethodName} {cy : ByteArray} {mL : Nat} {ret : Option FieldType} {n2 idx : Nat} {a1 a2 : Value} {r : Int64} {D1 : Dt} (hX : Amb E X cc own nL n) (hM : ConL E (Xl X) y cy mL ret n2 [a1, a2] D r D1) (hn : n2 < n) (hs : SiteS own idx y cy mL ret 2) (hsm : (st.map fun v => v.category).sum ≤ 8) (d : decode cc pc = .ok (.invokestatic idx, 3)) (k : Vw E X nL D1 (pc + 3) lv (.long r :: st)) : Vw E X nL D pc lv (a2 :: a1 :: st) :=
  V_callS hX hM hn hs.1 hs.2 rfl rfl hsm d (fun v D2 h => by obtain ⟨rfl, rfl⟩ := h; exact k)
theorem cVL3 {y : MethodName} {cy : ByteArray} {mL : Nat} {ret : Option FieldType} {n2 idx : Nat} {C : String} {a1 a2 a3 : Value} {r : Int64} {D1 : Dt} {q : Nat × Fin 11} {ip ci : Nat} {fs : List Value} {r0 : vw_C} (hX : Amb E X cc own nL n) (hM : ConL E (Xl X) y cy mL ret n2 [.ref (E.1 q), a1, a2, a3] D r D1) (hn : n2 < n) (hs : SiteV own idx y cy mL ret 3 C) (hp : ids[ip]? = some q) (he : cellOf E D q = .inr (ci, fs)) (hc : vwCl[ci]? = some r0) (hr : r0.1 = C) (hsm : (st.map fun v => v.category).sum ≤ 8) (d : decode cc pc = .ok (.invokevirtual idx, 3)) (k : Vw E X nL D1 (pc + 3) lv (.long r :: st)) : Vw E X nL D pc lv (a3 :: a2 :: a1 :: .ref (E.1 q) :: st) :=
  V_callV hX hM hn hs.1 hs.2.1 hs.2.2.1 hs.2.2.2 hp he hc hr rfl rfl hsm d (fun v D2 h => by obtain ⟨rfl, rfl⟩ := h; exact k)
theorem cSL3 {y : MethodName} {cy : ByteArray} {mL : Nat} {ret : Option FieldType} {n2 idx : Nat} {a1 a2 a3 : Value} {r : Int64} {D1 : Dt} (hX : Amb E X cc own nL n) (hM : ConL E (Xl X) y cy mL ret n2 [a1, a2, a3] D r D1) (hn : n2 < n) (hs : SiteS own idx y cy mL ret 3) (hsm : (st.map fun v => v.category).sum ≤ 8) (d : decode cc pc = .ok (.invokestatic idx, 3)) (k : Vw E X nL D1 (pc + 3) lv (.long r :: st)) : Vw E X nL D pc lv (a3 :: a2 :: a1 :: st) :=
  V_callS hX hM hn hs.1 hs.2 rfl rfl hsm d (fun v D2 h => by obtain ⟨rfl, rfl⟩ := h; exact k)
theorem cVL4 {y : MethodName} {cy : ByteArray} {mL : Nat} {ret : Option FieldType} {n2 idx : Nat} {C : String} {a1 a2 a3 a4 : Value} {r : Int64} {D1 : Dt} {q : Nat × Fin 11} {ip ci : Nat} {fs : List Value} {r0 : vw_C} (hX : Amb E X cc own nL n) (hM : ConL E (Xl X) y cy mL ret n2 [.ref (E.1 q), a1, a2, a3, a4] D r D1) (hn : n2 < n) (hs : SiteV own idx y cy mL ret 4 C) (hp : ids[ip]? = some q) (he : cellOf E D q = .inr (ci, fs)) (hc : vwCl[ci]? = some r0) (hr : r0.1 = C) (hsm : (st.map fun v => v.category).sum ≤ 8) (d : decode cc pc = .ok (.invokevirtual idx, 3)) (k : Vw E X nL D1 (pc + 3) lv (.long r :: st)) : Vw E X nL D pc lv (a4 :: a3 :: a2 :: a1 :: .ref (E.1 q) :: st) :=
  V_callV hX hM hn hs.1 hs.2.1 hs.2.2.1 hs.2.2.2 hp he hc hr rfl rfl hsm d (fun v D2 h => by obtain ⟨rfl, rfl⟩ := h; exact k)
theorem cSL4 {y : MethodName} {cy : ByteArray} {mL : Nat} {ret : Option FieldType} {n2 idx : Nat} {a1 a2 a3 a4 : Value} {r : Int64} {D1 : Dt} (hX : Amb E X cc own nL n) (hM : ConL E (Xl X) y cy mL ret n2 [a1, a2, a3, a4] D r D1) (hn : n2 < n) (hs : SiteS own idx y cy mL ret 4) (hsm : (st.map fun v => v.category).sum ≤ 8) (d : decode cc pc = .ok (.invokestatic idx, 3)) (k : Vw E X nL D1 (pc + 3) lv (.long r :: st)) : Vw E X nL D pc lv (a4 :: a3 :: a2 :: a1 :: st) :=
  V_callS hX hM hn hs.1 hs.2 rfl rfl hsm d (fun v D2 h => by obtain ⟨rfl, rfl⟩ := h; exact k)
theorem cVL5 {y : MethodName} {cy : ByteArray} {mL : Nat} {ret : Option FieldType} {n2 idx : Nat} {C : String} {a1 a2 a3 a4 a5 : Value} {r : Int64} {D1 : Dt} {q : Nat × Fin 11} {ip ci : Nat} {fs : List Value} {r0 : vw_C} (hX : Amb E X cc own nL n) (hM : ConL E (Xl X) y cy mL ret n2 [.ref (E.1 q), a1, a2, a3, a4, a5] D r D1) (hn : n2 < n) (hs : SiteV own idx y cy mL ret 5 C) (hp : ids[ip]? = some q) (he : cellOf E D q = .inr (ci, fs)) (hc : vwCl[ci]? = some r0) (hr : r0.1 = C) (hsm : (st.map fun v => v.category).sum ≤ 8) (d : decode cc pc = .ok (.invokevirtual idx, 3)) (k : Vw E X nL D1 (pc + 3) lv (.long r :: st)) : Vw E X nL D pc lv (a5 :: a4 :: a3 :: a2 :: a1 :: .ref (E.1 q) :: st) :=
  V_callV hX hM hn hs.1 hs.2.1 hs.2.2.1 hs.2.2.2 hp he hc hr rfl rfl hsm d (fun v D2 h => by obtain ⟨rfl, rfl⟩ := h; exact k)
theorem cSL5 {y : MethodName} {cy : ByteArray} {mL : Nat} {ret : Option FieldType} {n2 idx : Nat} {a1 a2 a3 a4 a5 : Value} {r : Int64} {D1 : Dt} (hX : Amb E X cc own nL n) (hM : ConL E (Xl X) y cy mL ret n2 [a1, a2, a3, a4, a5] D r D1) (hn : n2 < n) (hs : SiteS own idx y cy mL ret 5) (hsm : (st.map fun v => v.category).sum ≤ 8) (d : decode cc pc = .ok (.invokestatic idx, 3)) (k : Vw E X nL D1 (pc + 3) lv (.long r :: st)) : Vw E X nL D pc lv (a5 :: a4 :: a3 :: a2 :: a1 :: st) :=
  V_callS hX hM hn hs.1 hs.2 rfl rfl hsm d (fun v D2 h => by obtain ⟨rfl, rfl⟩ := h; exact k)
theorem cVV0 {y : MethodName} {cy : ByteArray} {mL : Nat} {ret : Option FieldType} {n2 idx : Nat} {C : String} {D1 : Dt} {q : Nat × Fin 11} {ip ci : Nat} {fs : List Value} {r0 : vw_C} (hX : Amb E X cc own nL n) (hM : ConV E (Xl X) y cy mL ret n2 [.ref (E.1 q)] D D1) (hn : n2 < n) (hs : SiteV own idx y cy mL ret 0 C) (hp : ids[ip]? = some q) (he : cellOf E D q = .inr (ci, fs)) (hc : vwCl[ci]? = some r0) (hr : r0.1 = C) (hsm : (st.map fun v => v.category).sum ≤ 8) (d : decode cc pc = .ok (.invokevirtual idx, 3)) (k : Vw E X nL D1 (pc + 3) lv st) : Vw E X nL D pc lv (.ref (E.1 q) :: st) :=
  V_callV hX hM hn hs.1 hs.2.1 hs.2.2.1 hs.2.2.2 hp he hc hr rfl rfl hsm d (fun v D2 h => by obtain ⟨rfl, rfl⟩ := h; exact k)
theorem cSV0 {y : MethodName} {cy : ByteArray} {mL : Nat} {ret : Option FieldType} {n2 idx : Nat} {D1 : Dt} (hX : Amb E X cc own nL n) (hM : ConV E (Xl X) y cy mL ret n2 [] D D1) (hn : n2 < n) (hs : SiteS own idx y cy mL ret 0) (hsm : (st.map fun v => v.category).sum ≤ 8) (d : decode cc pc = .ok (.invokestatic idx, 3)) (k : Vw E X nL D1 (pc + 3) lv st) : Vw E X nL D pc lv (st) :=
  V_callS hX hM hn hs.1 hs.2 rfl rfl hsm d (fun v D2 h => by obtain ⟨rfl, rfl⟩ := h; exact k)
theorem cVV1 {y : MethodName} {cy : ByteArray} {mL : Nat} {ret : Option FieldType} {n2 idx : Nat} {C : String} {a1 : Value} {D1 : Dt} {q : Nat × Fin 11} {ip ci : Nat} {fs : List Value} {r0 : vw_C} (hX : Amb E X cc own nL n) (hM : ConV E (Xl X) y cy mL ret n2 [.ref (E.1 q), a1] D D1) (hn : n2 < n) (hs : SiteV own idx y cy mL ret 1 C) (hp : ids[ip]? = some q) (he : cellOf E D q = .inr (ci, fs)) (hc : vwCl[ci]? = some r0) (hr : r0.1 = C) (hsm : (st.map fun v => v.category).sum ≤ 8) (d : decode cc pc = .ok (.invokevirtual idx, 3)) (k : Vw E X nL D1 (pc + 3) lv st) : Vw E X nL D pc lv (a1 :: .ref (E.1 q) :: st) :=
  V_callV hX hM hn hs.1 hs.2.1 hs.2.2.1 hs.2.2.2 hp he hc hr rfl rfl hsm d (fun v D2 h => by obtain ⟨rfl, rfl⟩ := h; exact k)
theorem cSV1 {y : MethodName} {cy : ByteArray} {mL : Nat} {ret : Option FieldType} {n2 idx : Nat} {a1 : Value} {D1 : Dt} (hX : Amb E X cc own nL n) (hM : ConV E (Xl X) y cy mL ret n2 [a1] D D1) (hn : n2 < n) (hs : SiteS own idx y cy mL ret 1) (hsm : (st.map fun v => v.category).sum ≤ 8) (d : decode cc pc = .ok (.invokestatic idx, 3)) (k : Vw E X nL D1 (pc + 3) lv st) : Vw E X nL D pc lv (a1 :: st) :=
  V_callS hX hM hn hs.1 hs.2 rfl rfl hsm d (fun v D2 h => by obtain ⟨rfl, rfl⟩ := h; exact k)
theorem cVV2 {y : MethodName} {cy : ByteArray} {mL : Nat} {ret : Option FieldType} {n2 idx : Nat} {C : String} {a1 a2 : Value} {D1 : Dt} {q : Nat × Fin 11} {ip ci : Nat} {fs : List Value} {r0 : vw_C} (hX : Amb E X cc own nL n) (hM : ConV E (Xl X) y cy mL ret n2 [.ref (E.1 q), a1, a2] D D1) (hn : n2 < n) (hs : SiteV own idx y cy mL ret 2 C) (hp : ids[ip]? = some q) (he : cellOf E D q = .inr (ci, fs)) (hc : vwCl[ci]? = some r0) (hr : r0.1 = C) (hsm : (st.map fun v => v.category).sum ≤ 8) (d : decode cc pc = .ok (.invokevirtual idx, 3)) (k : Vw E X nL D1 (pc + 3) lv st) : Vw E X nL D pc lv (a2 :: a1 :: .ref (E.1 q) :: st) :=
  V_callV hX hM hn hs.1 hs.2.1 hs.2.2.1 hs.2.2.2 hp he hc hr rfl rfl hsm d (fun v D2 h => by obtain ⟨rfl, rfl⟩ := h; exact k)
theorem cSV2 {y : MethodName} {cy : ByteArray} {mL : Nat} {ret : Option FieldType} {n2 idx : Nat} {a1 a2 : Value} {D1 : Dt} (hX : Amb E X cc own nL n) (hM : ConV E (Xl X) y cy mL ret n2 [a1, a2] D D1) (hn : n2 < n) (hs : SiteS own idx y cy mL ret 2) (hsm : (st.map fun v => v.category).sum ≤ 8) (d : decode cc pc = .ok (.invokestatic idx, 3)) (k : Vw E X nL D1 (pc + 3) lv st) : Vw E X nL D pc lv (a2 :: a1 :: st) :=
  V_callS hX hM hn hs.1 hs.2 rfl rfl hsm d (fun v D2 h => by obtain ⟨rfl, rfl⟩ := h; exact k)
theorem cVV3 {y : MethodName} {cy : ByteArray} {mL : Nat} {ret : Option FieldType} {n2 idx : Nat} {C : String} {a1 a2 a3 : Value} {D1 : Dt} {q : Nat × Fin 11} {ip ci : Nat} {fs : List Value} {r0 : vw_C} (hX : Amb E X cc own nL n) (hM : ConV E (Xl X) y cy mL ret n2 [.ref (E.1 q), a1, a2, a3] D D1) (hn : n2 < n) (hs : SiteV own idx y cy mL ret 3 C) (hp : ids[ip]? = some q) (he : cellOf E D q = .inr (ci, fs)) (hc : vwCl[ci]? = some r0) (hr : r0.1 = C) (hsm : (st.map fun v => v.category).sum ≤ 8) (d : decode cc pc = .ok (.invokevirtual idx, 3)) (k : Vw E X nL D1 (pc + 3) lv st) : Vw E X nL D pc lv (a3 :: a2 :: a1 :: .ref (E.1 q) :: st) :=
  V_callV hX hM hn hs.1 hs.2.1 hs.2.2.1 hs.2.2.2 hp he hc hr rfl rfl hsm d (fun v D2 h => by obtain ⟨rfl, rfl⟩ := h; exact k)
theorem cSV3 {y : MethodName} {cy : ByteArray} {mL : Nat} {ret : Option FieldType} {n2 idx : Nat} {a1 a2 a3 : Value} {D1 : Dt} (hX : Amb E X cc own nL n) (hM : ConV E (Xl X) y cy mL ret n2 [a1, a2, a3] D D1) (hn : n2 < n) (hs : SiteS own idx y cy mL ret 3) (hsm : (st.map fun v => v.category).sum ≤ 8) (d : decode cc pc = .ok (.invokestatic idx, 3)) (k : Vw E X nL D1 (pc + 3) lv st) : Vw E X nL D pc lv (a3 :: a2 :: a1 :: st) :=
  V_callS hX hM hn hs.1 hs.2 rfl rfl hsm d (fun v D2 h => by obtain ⟨rfl, rfl⟩ := h; exact k)
theorem cVV4 {y : MethodName} {cy : ByteArray} {mL : Nat} {ret : Option FieldType} {n2 idx : Nat} {C : String} {a1 a2 a3 a4 : Value} {D1 : Dt} {q : Nat × Fin 11} {ip ci : Nat} {fs : List Value} {r0 : vw_C} (hX : Amb E X cc own nL n) (hM : ConV E (Xl X) y cy mL ret n2 [.ref (E.1 q), a1, a2, a3, a4] D D1) (hn : n2 < n) (hs : SiteV own idx y cy mL ret 4 C) (hp : ids[ip]? = some q) (he : cellOf E D q = .inr (ci, fs)) (hc : vwCl[ci]? = some r0) (hr : r0.1 = C) (hsm : (st.map fun v => v.category).sum ≤ 8) (d : decode cc pc = .ok (.invokevirtual idx, 3)) (k : Vw E X nL D1 (pc + 3) lv st) : Vw E X nL D pc lv (a4 :: a3 :: a2 :: a1 :: .ref (E.1 q) :: st) :=
  V_callV hX hM hn hs.1 hs.2.1 hs.2.2.1 hs.2.2.2 hp he hc hr rfl rfl hsm d (fun v D2 h => by obtain ⟨rfl, rfl⟩ := h; exact k)
theorem cSV4 {y : MethodName} {cy : ByteArray} {mL : Nat} {ret : Option FieldType} {n2 idx : Nat} {a1 a2 a3 a4 : Value} {D1 : Dt} (hX : Amb E X cc own nL n) (hM : ConV E (Xl X) y cy mL ret n2 [a1, a2, a3, a4] D D1) (hn : n2 < n) (hs : SiteS own idx y cy mL ret 4) (hsm : (st.map fun v => v.category).sum ≤ 8) (d : decode cc pc = .ok (.invokestatic idx, 3)) (k : Vw E X nL D1 (pc + 3) lv st) : Vw E X nL D pc lv (a4 :: a3 :: a2 :: a1 :: st) :=
  V_callS hX hM hn hs.1 hs.2 rfl rfl hsm d (fun v D2 h => by obtain ⟨rfl, rfl⟩ := h; exact k)
theorem cVV5 {y : MethodName} {cy : ByteArray} {mL : Nat} {ret : Option FieldType} {n2 idx : Nat} {C : String} {a1 a2 a3 a4 a5 : Value} {D1 : Dt} {q : Nat × Fin 11} {ip ci : Nat} {fs : List Value} {r0 : vw_C} (hX : Amb E X cc own nL n) (hM : ConV E (Xl X) y cy mL ret n2 [.ref (E.1 q), a1, a2, a3, a4, a5] D D1) (hn : n2 < n) (hs : SiteV own idx y cy mL ret 5 C) (hp : ids[ip]? = some q) (he : cellOf E D q = .inr (ci, fs)) (hc : vwCl[ci]? = some r0) (hr : r0.1 = C) (hsm : (st.map fun v => v.category).sum ≤ 8) (d : decode cc pc = .ok (.invokevirtual idx, 3)) (k : Vw E X nL D1 (pc + 3) lv st) : Vw E X nL D pc lv (a5 :: a4 :: a3 :: a2 :: a1 :: .ref (E.1 q) :: st) :=
  V_callV hX hM hn hs.1 hs.2.1 hs.2.2.1 hs.2.2.2 hp he hc hr rfl rfl hsm d (fun v D2 h => by obtain ⟨rfl, rfl⟩ := h; exact k)
theorem cSV5 {y : MethodName} {cy : ByteArray} {mL : Nat} {ret : Option FieldType} {n2 idx : Nat} {a1 a2 a3 a4 a5 : Value} {D1 : Dt} (hX : Amb E X cc own nL n) (hM : ConV E (Xl X) y cy mL ret n2 [a1, a2, a3, a4, a5] D D1) (hn : n2 < n) (hs : SiteS own idx y cy mL ret 5) (hsm : (st.map fun v => v.category).sum ≤ 8) (d : decode cc pc = .ok (.invokestatic idx, 3)) (k : Vw E X nL D1 (pc + 3) lv st) : Vw E X nL D pc lv (a5 :: a4 :: a3 :: a2 :: a1 :: st) :=
  V_callS hX hM hn hs.1 hs.2 rfl rfl hsm d (fun v D2 h => by obtain ⟨rfl, rfl⟩ := h; exact k)
theorem cVIp0 {y : MethodName} {cy : ByteArray} {mL : Nat} {ret : Option FieldType} {n2 idx : Nat} {C : String} {Q : Int32 → Dt → Prop} {q : Nat × Fin 11} {ip ci : Nat} {fs : List Value} {r0 : vw_C} (hX : Amb E X cc own nL n) (hM : ConIp E (Xl X) y cy mL ret n2 [.ref (E.1 q)] D Q) (hn : n2 < n) (hs : SiteV own idx y cy mL ret 0 C) (hp : ids[ip]? = some q) (he : cellOf E D q = .inr (ci, fs)) (hc : vwCl[ci]? = some r0) (hr : r0.1 = C) (hsm : (st.map fun v => v.category).sum ≤ 8) (d : decode cc pc = .ok (.invokevirtual idx, 3)) (k : ∀ (r : Int32) (D1 : Dt), Q r D1 → Vw E X nL D1 (pc + 3) lv (.int r :: st)) : Vw E X nL D pc lv (.ref (E.1 q) :: st) :=
  V_callV hX hM hn hs.1 hs.2.1 hs.2.2.1 hs.2.2.2 hp he hc hr rfl rfl hsm d (fun v D2 h => by obtain ⟨r, rfl, h⟩ := h; exact k r D2 h)
theorem cSIp0 {y : MethodName} {cy : ByteArray} {mL : Nat} {ret : Option FieldType} {n2 idx : Nat} {Q : Int32 → Dt → Prop} (hX : Amb E X cc own nL n) (hM : ConIp E (Xl X) y cy mL ret n2 [] D Q) (hn : n2 < n) (hs : SiteS own idx y cy mL ret 0) (hsm : (st.map fun v => v.category).sum ≤ 8) (d : decode cc pc = .ok (.invokestatic idx, 3)) (k : ∀ (r : Int32) (D1 : Dt), Q r D1 → Vw E X nL D1 (pc + 3) lv (.int r :: st)) : Vw E X nL D pc lv (st) :=
  V_callS hX hM hn hs.1 hs.2 rfl rfl hsm d (fun v D2 h => by obtain ⟨r, rfl, h⟩ := h; exact k r D2 h)
theorem cVIp1 {y : MethodName} {cy : ByteArray} {mL : Nat} {ret : Option FieldType} {n2 idx : Nat} {C : String} {a1 : Value} {Q : Int32 → Dt → Prop} {q : Nat × Fin 11} {ip ci : Nat} {fs : List Value} {r0 : vw_C} (hX : Amb E X cc own nL n) (hM : ConIp E (Xl X) y cy mL ret n2 [.ref (E.1 q), a1] D Q) (hn : n2 < n) (hs : SiteV own idx y cy mL ret 1 C) (hp : ids[ip]? = some q) (he : cellOf E D q = .inr (ci, fs)) (hc : vwCl[ci]? = some r0) (hr : r0.1 = C) (hsm : (st.map fun v => v.category).sum ≤ 8) (d : decode cc pc = .ok (.invokevirtual idx, 3)) (k : ∀ (r : Int32) (D1 : Dt), Q r D1 → Vw E X nL D1 (pc + 3) lv (.int r :: st)) : Vw E X nL D pc lv (a1 :: .ref (E.1 q) :: st) :=
  V_callV hX hM hn hs.1 hs.2.1 hs.2.2.1 hs.2.2.2 hp he hc hr rfl rfl hsm d (fun v D2 h => by obtain ⟨r, rfl, h⟩ := h; exact k r D2 h)
theorem cSIp1 {y : MethodName} {cy : ByteArray} {mL : Nat} {ret : Option FieldType} {n2 idx : Nat} {a1 : Value} {Q : Int32 → Dt → Prop} (hX : Amb E X cc own nL n) (hM : ConIp E (Xl X) y cy mL ret n2 [a1] D Q) (hn : n2 < n) (hs : SiteS own idx y cy mL ret 1) (hsm : (st.map fun v => v.category).sum ≤ 8) (d : decode cc pc = .ok (.invokestatic idx, 3)) (k : ∀ (r : Int32) (D1 : Dt), Q r D1 → Vw E X nL D1 (pc + 3) lv (.int r :: st)) : Vw E X nL D pc lv (a1 :: st) :=
  V_callS hX hM hn hs.1 hs.2 rfl rfl hsm d (fun v D2 h => by obtain ⟨r, rfl, h⟩ := h; exact k r D2 h)
theorem cVIp2 {y : MethodName} {cy : ByteArray} {mL : Nat} {ret : Option FieldType} {n2 idx : Nat} {C : String} {a1 a2 : Value} {Q : Int32 → Dt → Prop} {q : Nat × Fin 11} {ip ci : Nat} {fs : List Value} {r0 : vw_C} (hX : Amb E X cc own nL n) (hM : ConIp E (Xl X) y cy mL ret n2 [.ref (E.1 q), a1, a2] D Q) (hn : n2 < n) (hs : SiteV own idx y cy mL ret 2 C) (hp : ids[ip]? = some q) (he : cellOf E D q = .inr (ci, fs)) (hc : vwCl[ci]? = some r0) (hr : r0.1 = C) (hsm : (st.map fun v => v.category).sum ≤ 8) (d : decode cc pc = .ok (.invokevirtual idx, 3)) (k : ∀ (r : Int32) (D1 : Dt), Q r D1 → Vw E X nL D1 (pc + 3) lv (.int r :: st)) : Vw E X nL D pc lv (a2 :: a1 :: .ref (E.1 q) :: st) :=
  V_callV hX hM hn hs.1 hs.2.1 hs.2.2.1 hs.2.2.2 hp he hc hr rfl rfl hsm d (fun v D2 h => by obtain ⟨r, rfl, h⟩ := h; exact k r D2 h)
theorem cSIp2 {y : MethodName} {cy : ByteArray} {mL : Nat} {ret : Option FieldType} {n2 idx : Nat} {a1 a2 : Value} {Q : Int32 → Dt → Prop} (hX : Amb E X cc own nL n) (hM : ConIp E (Xl X) y cy mL ret n2 [a1, a2] D Q) (hn : n2 < n) (hs : SiteS own idx y cy mL ret 2) (hsm : (st.map fun v => v.category).sum ≤ 8) (d : decode cc pc = .ok (.invokestatic idx, 3)) (k : ∀ (r : Int32) (D1 : Dt), Q r D1 → Vw E X nL D1 (pc + 3) lv (.int r :: st)) : Vw E X nL D pc lv (a2 :: a1 :: st) :=
  V_callS hX hM hn hs.1 hs.2 rfl rfl hsm d (fun v D2 h => by obtain ⟨r, rfl, h⟩ := h; exact k r D2 h)
theorem cVIp3 {y : MethodName} {cy : ByteArray} {mL : Nat} {ret : Option FieldType} {n2 idx : Nat} {C : String} {a1 a2 a3 : Value} {Q : Int32 → Dt → Prop} {q : Nat × Fin 11} {ip ci : Nat} {fs : List Value} {r0 : vw_C} (hX : Amb E X cc own nL n) (hM : ConIp E (Xl X) y cy mL ret n2 [.ref (E.1 q), a1, a2, a3] D Q) (hn : n2 < n) (hs : SiteV own idx y cy mL ret 3 C) (hp : ids[ip]? = some q) (he : cellOf E D q = .inr (ci, fs)) (hc : vwCl[ci]? = some r0) (hr : r0.1 = C) (hsm : (st.map fun v => v.category).sum ≤ 8) (d : decode cc pc = .ok (.invokevirtual idx, 3)) (k : ∀ (r : Int32) (D1 : Dt), Q r D1 → Vw E X nL D1 (pc + 3) lv (.int r :: st)) : Vw E X nL D pc lv (a3 :: a2 :: a1 :: .ref (E.1 q) :: st) :=
  V_callV hX hM hn hs.1 hs.2.1 hs.2.2.1 hs.2.2.2 hp he hc hr rfl rfl hsm d (fun v D2 h => by obtain ⟨r, rfl, h⟩ := h; exact k r D2 h)
theorem cSIp3 {y : MethodName} {cy : ByteArray} {mL : Nat} {ret : Option FieldType} {n2 idx : Nat} {a1 a2 a3 : Value} {Q : Int32 → Dt → Prop} (hX : Amb E X cc own nL n) (hM : ConIp E (Xl X) y cy mL ret n2 [a1, a2, a3] D Q) (hn : n2 < n) (hs : SiteS own idx y cy mL ret 3) (hsm : (st.map fun v => v.category).sum ≤ 8) (d : decode cc pc = .ok (.invokestatic idx, 3)) (k : ∀ (r : Int32) (D1 : Dt), Q r D1 → Vw E X nL D1 (pc + 3) lv (.int r :: st)) : Vw E X nL D pc lv (a3 :: a2 :: a1 :: st) :=
  V_callS hX hM hn hs.1 hs.2 rfl rfl hsm d (fun v D2 h => by obtain ⟨r, rfl, h⟩ := h; exact k r D2 h)
theorem cVIp4 {y : MethodName} {cy : ByteArray} {mL : Nat} {ret : Option FieldType} {n2 idx : Nat} {C : String} {a1 a2 a3 a4 : Value} {Q : Int32 → Dt → Prop} {q : Nat × Fin 11} {ip ci : Nat} {fs : List Value} {r0 : vw_C} (hX : Amb E X cc own nL n) (hM : ConIp E (Xl X) y cy mL ret n2 [.ref (E.1 q), a1, a2, a3, a4] D Q) (hn : n2 < n) (hs : SiteV own idx y cy mL ret 4 C) (hp : ids[ip]? = some q) (he : cellOf E D q = .inr (ci, fs)) (hc : vwCl[ci]? = some r0) (hr : r0.1 = C) (hsm : (st.map fun v => v.category).sum ≤ 8) (d : decode cc pc = .ok (.invokevirtual idx, 3)) (k : ∀ (r : Int32) (D1 : Dt), Q r D1 → Vw E X nL D1 (pc + 3) lv (.int r :: st)) : Vw E X nL D pc lv (a4 :: a3 :: a2 :: a1 :: .ref (E.1 q) :: st) :=
  V_callV hX hM hn hs.1 hs.2.1 hs.2.2.1 hs.2.2.2 hp he hc hr rfl rfl hsm d (fun v D2 h => by obtain ⟨r, rfl, h⟩ := h; exact k r D2 h)
theorem cSIp4 {y : MethodName} {cy : ByteArray} {mL : Nat} {ret : Option FieldType} {n2 idx : Nat} {a1 a2 a3 a4 : Value} {Q : Int32 → Dt → Prop} (hX : Amb E X cc own nL n) (hM : ConIp E (Xl X) y cy mL ret n2 [a1, a2, a3, a4] D Q) (hn : n2 < n) (hs : SiteS own idx y cy mL ret 4) (hsm : (st.map fun v => v.category).sum ≤ 8) (d : decode cc pc = .ok (.invokestatic idx, 3)) (k : ∀ (r : Int32) (D1 : Dt), Q r D1 → Vw E X nL D1 (pc + 3) lv (.int r :: st)) : Vw E X nL D pc lv (a4 :: a3 :: a2 :: a1 :: st) :=
  V_callS hX hM hn hs.1 hs.2 rfl rfl hsm d (fun v D2 h => by obtain ⟨r, rfl, h⟩ := h; exact k r D2 h)
theorem cVIp5 {y : MethodName} {cy : ByteArray} {mL : Nat} {ret : Option FieldType} {n2 idx : Nat} {C : String} {a1 a2 a3 a4 a5 : Value} {Q : Int32 → Dt → Prop} {q : Nat × Fin 11} {ip ci : Nat} {fs : List Value} {r0 : vw_C} (hX : Amb E X cc own nL n) (hM : ConIp E (Xl X) y cy mL ret n2 [.ref (E.1 q), a1, a2, a3, a4, a5] D Q) (hn : n2 < n) (hs : SiteV own idx y cy mL ret 5 C) (hp : ids[ip]? = some q) (he : cellOf E D q = .inr (ci, fs)) (hc : vwCl[ci]? = some r0) (hr : r0.1 = C) (hsm : (st.map fun v => v.category).sum ≤ 8) (d : decode cc pc = .ok (.invokevirtual idx, 3)) (k : ∀ (r : Int32) (D1 : Dt), Q r D1 → Vw E X nL D1 (pc + 3) lv (.int r :: st)) : Vw E X nL D pc lv (a5 :: a4 :: a3 :: a2 :: a1 :: .ref (E.1 q) :: st) :=
  V_callV hX hM hn hs.1 hs.2.1 hs.2.2.1 hs.2.2.2 hp he hc hr rfl rfl hsm d (fun v D2 h => by obtain ⟨r, rfl, h⟩ := h; exact k r D2 h)
theorem cVVp0 {y : MethodName} {cy : ByteArray} {mL : Nat} {ret : Option FieldType} {n2 idx : Nat} {C : String} {Q : Dt → Prop} {q : Nat × Fin 11} {ip ci : Nat} {fs : List Value} {r0 : vw_C} (hX : Amb E X cc own nL n) (hM : ConVp E (Xl X) y cy mL ret n2 [.ref (E.1 q)] D Q) (hn : n2 < n) (hs : SiteV own idx y cy mL ret 0 C) (hp : ids[ip]? = some q) (he : cellOf E D q = .inr (ci, fs)) (hc : vwCl[ci]? = some r0) (hr : r0.1 = C) (hsm : (st.map fun v => v.category).sum ≤ 8) (d : decode cc pc = .ok (.invokevirtual idx, 3)) (k : ∀ (D1 : Dt), Q D1 → Vw E X nL D1 (pc + 3) lv st) : Vw E X nL D pc lv (.ref (E.1 q) :: st) :=
  V_callV hX hM hn hs.1 hs.2.1 hs.2.2.1 hs.2.2.2 hp he hc hr rfl rfl hsm d (fun v D2 h => by obtain ⟨rfl, h⟩ := h; exact k D2 h)
theorem cSVp0 {y : MethodName} {cy : ByteArray} {mL : Nat} {ret : Option FieldType} {n2 idx : Nat} {Q : Dt → Prop} (hX : Amb E X cc own nL n) (hM : ConVp E (Xl X) y cy mL ret n2 [] D Q) (hn : n2 < n) (hs : SiteS own idx y cy mL ret 0) (hsm : (st.map fun v => v.category).sum ≤ 8) (d : decode cc pc = .ok (.invokestatic idx, 3)) (k : ∀ (D1 : Dt), Q D1 → Vw E X nL D1 (pc + 3) lv st) : Vw E X nL D pc lv (st) :=
  V_callS hX hM hn hs.1 hs.2 rfl rfl hsm d (fun v D2 h => by obtain ⟨rfl, h⟩ := h; exact k D2 h)
theorem cVVp1 {y : MethodName} {cy : ByteArray} {mL : Nat} {ret : Option FieldType} {n2 idx : Nat} {C : String} {a1 : Value} {Q : Dt → Prop} {q : Nat × Fin 11} {ip ci : Nat} {fs : List Value} {r0 : vw_C} (hX : Amb E X cc own nL n) (hM : ConVp E (Xl X) y cy mL ret n2 [.ref (E.1 q), a1] D Q) (hn : n2 < n) (hs : SiteV own idx y cy mL ret 1 C) (hp : ids[ip]? = some q) (he : cellOf E D q = .inr (ci, fs)) (hc : vwCl[ci]? = some r0) (hr : r0.1 = C) (hsm : (st.map fun v => v.category).sum ≤ 8) (d : decode cc pc = .ok (.invokevirtual idx, 3)) (k : ∀ (D1 : Dt), Q D1 → Vw E X nL D1 (pc + 3) lv st) : Vw E X nL D pc lv (a1 :: .ref (E.1 q) :: st) :=
  V_callV hX hM hn hs.1 hs.2.1 hs.2.2.1 hs.2.2.2 hp he hc hr rfl rfl hsm d (fun v D2 h => by obtain ⟨rfl, h⟩ := h; exact k D2 h)
theorem cSVp1 {y : MethodName} {cy : ByteArray} {mL : Nat} {ret : Option FieldType} {n2 idx : Nat} {a1 : Value} {Q : Dt → Prop} (hX : Amb E X cc own nL n) (hM : ConVp E (Xl X) y cy mL ret n2 [a1] D Q) (hn : n2 < n) (hs : SiteS own idx y cy mL ret 1) (hsm : (st.map fun v => v.category).sum ≤ 8) (d : decode cc pc = .ok (.invokestatic idx, 3)) (k : ∀ (D1 : Dt), Q D1 → Vw E X nL D1 (pc + 3) lv st) : Vw E X nL D pc lv (a1 :: st) :=
  V_callS hX hM hn hs.1 hs.2 rfl rfl hsm d (fun v D2 h => by obtain ⟨rfl, h⟩ := h; exact k D2 h)
theorem cVVp2 {y : MethodName} {cy : ByteArray} {mL : Nat} {ret : Option FieldType} {n2 idx : Nat} {C : String} {a1 a2 : Value} {Q : Dt → Prop} {q : Nat × Fin 11} {ip ci : Nat} {fs : List Value} {r0 : vw_C} (hX : Amb E X cc own nL n) (hM : ConVp E (Xl X) y cy mL ret n2 [.ref (E.1 q), a1, a2] D Q) (hn : n2 < n) (hs : SiteV own idx y cy mL ret 2 C) (hp : ids[ip]? = some q) (he : cellOf E D q = .inr (ci, fs)) (hc : vwCl[ci]? = some r0) (hr : r0.1 = C) (hsm : (st.map fun v => v.category).sum ≤ 8) (d : decode cc pc = .ok (.invokevirtual idx, 3)) (k : ∀ (D1 : Dt), Q D1 → Vw E X nL D1 (pc + 3) lv st) : Vw E X nL D pc lv (a2 :: a1 :: .ref (E.1 q) :: st) :=
  V_callV hX hM hn hs.1 hs.2.1 hs.2.2.1 hs.2.2.2 hp he hc hr rfl rfl hsm d (fun v D2 h => by obtain ⟨rfl, h⟩ := h; exact k D2 h)
theorem cSVp2 {y : MethodName} {cy : ByteArray} {mL : Nat} {ret : Option FieldType} {n2 idx : Nat} {a1 a2 : Value} {Q : Dt → Prop} (hX : Amb E X cc own nL n) (hM : ConVp E (Xl X) y cy mL ret n2 [a1, a2] D Q) (hn : n2 < n) (hs : SiteS own idx y cy mL ret 2) (hsm : (st.map fun v => v.category).sum ≤ 8) (d : decode cc pc = .ok (.invokestatic idx, 3)) (k : ∀ (D1 : Dt), Q D1 → Vw E X nL D1 (pc + 3) lv st) : Vw E X nL D pc lv (a2 :: a1 :: st) :=
  V_callS hX hM hn hs.1 hs.2 rfl rfl hsm d (fun v D2 h => by obtain ⟨rfl, h⟩ := h; exact k D2 h)
theorem cVVp3 {y : MethodName} {cy : ByteArray} {mL : Nat} {ret : Option FieldType} {n2 idx : Nat} {C : String} {a1 a2 a3 : Value} {Q : Dt → Prop} {q : Nat × Fin 11} {ip ci : Nat} {fs : List Value} {r0 : vw_C} (hX : Amb E X cc own nL n) (hM : ConVp E (Xl X) y cy mL ret n2 [.ref (E.1 q), a1, a2, a3] D Q) (hn : n2 < n) (hs : SiteV own idx y cy mL ret 3 C) (hp : ids[ip]? = some q) (he : cellOf E D q = .inr (ci, fs)) (hc : vwCl[ci]? = some r0) (hr : r0.1 = C) (hsm : (st.map fun v => v.category).sum ≤ 8) (d : decode cc pc = .ok (.invokevirtual idx, 3)) (k : ∀ (D1 : Dt), Q D1 → Vw E X nL D1 (pc + 3) lv st) : Vw E X nL D pc lv (a3 :: a2 :: a1 :: .ref (E.1 q) :: st) :=
  V_callV hX hM hn hs.1 hs.2.1 hs.2.2.1 hs.2.2.2 hp he hc hr rfl rfl hsm d (fun v D2 h => by obtain ⟨rfl, h⟩ := h; exact k D2 h)
theorem cSVp3 {y : MethodName} {cy : ByteArray} {mL : Nat} {ret : Option FieldType} {n2 idx : Nat} {a1 a2 a3 : Value} {Q : Dt → Prop} (hX : Amb E X cc own nL n) (hM : ConVp E (Xl X) y cy mL ret n2 [a1, a2, a3] D Q) (hn : n2 < n) (hs : SiteS own idx y cy mL ret 3) (hsm : (st.map fun v => v.category).sum ≤ 8) (d : decode cc pc = .ok (.invokestatic idx, 3)) (k : ∀ (D1 : Dt), Q D1 → Vw E X nL D1 (pc + 3) lv st) : Vw E X nL D pc lv (a3 :: a2 :: a1 :: st) :=
  V_callS hX hM hn hs.1 hs.2 rfl rfl hsm d (fun v D2 h => by obtain ⟨rfl, h⟩ := h; exact k D2 h)
theorem cVVp4 {y : MethodName} {cy : ByteArray} {mL : Nat} {ret : Option FieldType} {n2 idx : Nat} {C : String} {a1 a2 a3 a4 : Value} {Q : Dt → Prop} {q : Nat × Fin 11} {ip ci : Nat} {fs : List Value} {r0 : vw_C} (hX : Amb E X cc own nL n) (hM : ConVp E (Xl X) y cy mL ret n2 [.ref (E.1 q), a1, a2, a3, a4] D Q) (hn : n2 < n) (hs : SiteV own idx y cy mL ret 4 C) (hp : ids[ip]? = some q) (he : cellOf E D q = .inr (ci, fs)) (hc : vwCl[ci]? = some r0) (hr : r0.1 = C) (hsm : (st.map fun v => v.category).sum ≤ 8) (d : decode cc pc = .ok (.invokevirtual idx, 3)) (k : ∀ (D1 : Dt), Q D1 → Vw E X nL D1 (pc + 3) lv st) : Vw E X nL D pc lv (a4 :: a3 :: a2 :: a1 :: .ref (E.1 q) :: st) :=
  V_callV hX hM hn hs.1 hs.2.1 hs.2.2.1 hs.2.2.2 hp he hc hr rfl rfl hsm d (fun v D2 h => by obtain ⟨rfl, h⟩ := h; exact k D2 h)
theorem cSVp4 {y : MethodName} {cy : ByteArray} {mL : Nat} {ret : Option FieldType} {n2 idx : Nat} {a1 a2 a3 a4 : Value} {Q : Dt → Prop} (hX : Amb E X cc own nL n) (hM : ConVp E (Xl X) y cy mL ret n2 [a1, a2, a3, a4] D Q) (hn : n2 < n) (hs : SiteS own idx y cy mL ret 4) (hsm : (st.map fun v => v.category).sum ≤ 8) (d : decode cc pc = .ok (.invokestatic idx, 3)) (k : ∀ (D1 : Dt), Q D1 → Vw E X nL D1 (pc + 3) lv st) : Vw E X nL D pc lv (a4 :: a3 :: a2 :: a1 :: st) :=
  V_callS hX hM hn hs.1 hs.2 rfl rfl hsm d (fun v D2 h => by obtain ⟨rfl, h⟩ := h; exact k D2 h)
theorem cVVp5 {y : MethodName} {cy : ByteArray} {mL : Nat} {ret : Option FieldType} {n2 idx : Nat} {C : String} {a1 a2 a3 a4 a5 : Value} {Q : Dt → Prop} {q : Nat × Fin 11} {ip ci : Nat} {fs : List Value} {r0 : vw_C} (hX : Amb E X cc own nL n) (hM : ConVp E (Xl X) y cy mL ret n2 [.ref (E.1 q), a1, a2, a3, a4, a5] D Q) (hn : n2 < n) (hs : SiteV own idx y cy mL ret 5 C) (hp : ids[ip]? = some q) (he : cellOf E D q = .inr (ci, fs)) (hc : vwCl[ci]? = some r0) (hr : r0.1 = C) (hsm : (st.map fun v => v.category).sum ≤ 8) (d : decode cc pc = .ok (.invokevirtual idx, 3)) (k : ∀ (D1 : Dt), Q D1 → Vw E X nL D1 (pc + 3) lv st) : Vw E X nL D pc lv (a5 :: a4 :: a3 :: a2 :: a1 :: .ref (E.1 q) :: st) :=
  V_callV hX hM hn hs.1 hs.2.1 hs.2.2.1 hs.2.2.2 hp he hc hr rfl rfl hsm d (fun v D2 h => by obtain ⟨rfl, h⟩ := h; exact k D2 h)
theorem cNI3 {y : MethodName} {cy : ByteArray} {mL : Nat} {ret : Option FieldType} {n2 idx : Nat} {host : String} {a1 a2 a3 : Value} {r : Int32} {D1 : Dt} (hX : Amb E X cc own nL n) (hM : ConI E (Xl X) y cy mL ret n2 [a1, a2, a3] D r D1) (hn : n2 < n) (hs : SiteM own idx y host cy mL ret 3) (hsm : (st.map fun v => v.category).sum ≤ 8) (d : decode cc pc = .ok (.invokestatic idx, 3)) (k : Vw E X nL D1 (pc + 3) lv (.int r :: st)) : Vw E X nL D pc lv (a3 :: a2 :: a1 :: st) :=
  V_callN hX hM hn (hs.1 E) hs.2.1 hs.2.2.1 hs.2.2.2.1 hs.2.2.2.2.1 hs.2.2.2.2.2 rfl rfl hsm d (fun v D2 h => by obtain ⟨rfl, rfl⟩ := h; exact k)
end RULES
