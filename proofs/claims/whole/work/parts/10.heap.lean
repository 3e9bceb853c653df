/-! updates of D -/
theorem lU_self (D : Dt) (t : Nat) (k : Fin 11) : lU D t k (D.2.1 t k) = D := by
  refine Prod.ext rfl (Prod.ext ?_ rfl)
  funext x z
  show (if x = t ∧ z = k then D.2.1 t k else D.2.1 x z) = D.2.1 x z
  by_cases h : x = t ∧ z = k
  · rw [if_pos h, h.1, h.2]
  · rw [if_neg h]
theorem lU_lU (D : Dt) (t : Nat) (k : Fin 11) (f g : Nat → Int64) : lU (lU D t k f) t k g = lU D t k g := by
  refine Prod.ext rfl (Prod.ext ?_ rfl)
  funext x z
  show (if x = t ∧ z = k then g else if x = t ∧ z = k then f else D.2.1 x z) = _
  by_cases h : x = t ∧ z = k
  · rw [if_pos h]; show g = if x = t ∧ z = k then g else D.2.1 x z; rw [if_pos h]
  · rw [if_neg h, if_neg h]; show _ = if x = t ∧ z = k then g else D.2.1 x z; rw [if_neg h]
theorem lU_get (D : Dt) (t : Nat) (k : Fin 11) (f : Nat → Int64) : (lU D t k f).2.1 t k = f := by
  show (if t = t ∧ k = k then f else _) = f
  rw [if_pos ⟨rfl, rfl⟩]
theorem lU_ne (D : Dt) {t u : Nat} {k z : Fin 11} (f : Nat → Int64) (h : ¬ (u = t ∧ z = k)) : (lU D t k f).2.1 u z = D.2.1 u z := by
  show (if u = t ∧ z = k then f else _) = _
  rw [if_neg h]
theorem lU_comm (D : Dt) {t u : Nat} {k z : Fin 11} (f g : Nat → Int64) (h : ¬ (u = t ∧ z = k)) : lU (lU D t k f) u z g = lU (lU D u z g) t k f := by
  refine Prod.ext rfl (Prod.ext ?_ rfl)
  funext x w
  show (if x = u ∧ w = z then g else if x = t ∧ w = k then f else D.2.1 x w) = (if x = t ∧ w = k then f else if x = u ∧ w = z then g else D.2.1 x w)
  by_cases h1 : x = u ∧ w = z
  · rw [if_pos h1, if_neg (fun q => h ⟨h1.1.symm.trans q.1, h1.2.symm.trans q.2⟩), if_pos h1]
  · rw [if_neg h1]
    by_cases h2 : x = t ∧ w = k
    · rw [if_pos h2, if_pos h2]
    · rw [if_neg h2, if_neg h2, if_neg h1]
theorem rU_self (D : Dt) (t : Nat) : rU D t (D.1 t) = D := by
  refine Prod.ext ?_ rfl
  funext x
  show (if x = t then D.1 t else D.1 x) = D.1 x
  by_cases h : x = t
  · rw [if_pos h, h]
  · rw [if_neg h]
theorem rU_rU (D : Dt) (t : Nat) (f g : Nat → Int32) : rU (rU D t f) t g = rU D t g := by
  refine Prod.ext ?_ rfl
  funext x
  show (if x = t then g else if x = t then f else D.1 x) = if x = t then g else D.1 x
  by_cases h : x = t
  · rw [if_pos h, if_pos h]
  · rw [if_neg h, if_neg h, if_neg h]
theorem rU_get (D : Dt) (t : Nat) (f : Nat → Int32) : (rU D t f).1 t = f := by
  show (if t = t then f else _) = f
  rw [if_pos rfl]
theorem rU_ne (D : Dt) {t u : Nat} (f : Nat → Int32) (h : u ≠ t) : (rU D t f).1 u = D.1 u := by
  show (if u = t then f else _) = _
  rw [if_neg h]
theorem rU_comm (D : Dt) {t u : Nat} (f g : Nat → Int32) (h : u ≠ t) : rU (rU D t f) u g = rU (rU D u g) t f := by
  refine Prod.ext ?_ rfl
  funext x
  show (if x = u then g else if x = t then f else D.1 x) = (if x = t then f else if x = u then g else D.1 x)
  by_cases h1 : x = u
  · rw [if_pos h1, if_neg (fun q => h (h1.symm.trans q)), if_pos h1]
  · rw [if_neg h1]
    by_cases h2 : x = t
    · rw [if_pos h2, if_pos h2]
    · rw [if_neg h2, if_neg h2, if_neg h1]
theorem pU_self (D : Dt) (t : Nat) : pU D t (D.2.2 t) = D := by
  refine Prod.ext rfl (Prod.ext rfl ?_)
  funext x
  show (if x = t then D.2.2 t else D.2.2 x) = D.2.2 x
  by_cases h : x = t
  · rw [if_pos h, h]
  · rw [if_neg h]
theorem upd_self {f : Nat → Int32} {k : Nat} {x : Int32} (h : f k = x) : upd f k x = f := by
  funext j
  show (if j = k then x else f j) = f j
  by_cases hj : j = k
  · rw [if_pos hj, hj, h]
  · rw [if_neg hj]
theorem some_int {x y : Int32} (h : x = y) : some (Value.int x) = some (Value.int y) := by rw [h]
theorem some_long {x y : Int64} (h : x = y) : some (Value.long x) = some (Value.long y) := by rw [h]
