/-! the form of a set of cells: bands and spans -/
def rpC (S : Cl) (y x : Int) : Bool := cellB x y && S (x + 60).toNat (y + 60).toNat
def eqR (S : Cl) (j i : Nat) : Bool := (List.range 120).all (fun u => S u j == S u i)
def emR (S : Cl) (j : Nat) : Bool := (List.range 120).all (fun u => !S u j)
theorem eqR_t {S : Cl} {j i : Nat} : eqR S j i = true ↔ ∀ u, u < 120 → S u j = S u i := by
  rw [eqR, List.all_eq_true]
  exact ⟨fun h u hu => eq_of_beq (h u (List.mem_range.mpr hu)), fun h u hu => beq_iff_eq.mpr (h u (List.mem_range.mp hu))⟩
theorem emR_t {S : Cl} {j : Nat} : emR S j = true ↔ ∀ u, u < 120 → S u j = false := by
  rw [emR, List.all_eq_true]
  exact ⟨fun h u hu => by simpa using h u (List.mem_range.mpr hu), fun h u hu => by simpa using h u (List.mem_range.mp hu)⟩
def smC (S : Cl) (y z : Int) : Bool := eqR S (y + 60).toNat (z + 60).toNat
def emC (S : Cl) (y : Int) : Bool := emR S (y + 60).toNat
def bandsC (S : Cl) : List (Int × Int) := bdX (smC S) (emC S) (-60)
def nbC (S : Cl) : Nat := (bandsC S).length
def nsC (S : Cl) : Nat := ((bandsC S).map (fun q => (spX (rpC S q.1) (-60)).length)).sum
def fitC (S : Cl) : Bool := decide (nbC S ≤ 60 ∧ nsC S ≤ 300)
def cntC (S : Cl) : Nat := fb_sm (fun j => fb_ct (fun i => S i j) 120) 120
theorem rnX_congr {p q : Int → Bool} : ∀ (n : Nat) (x : Int), (60 - x).toNat ≤ n → (∀ u, x ≤ u → u ≤ 59 → p u = q u) → rnX p x = rnX q x := by
  intro n
  induction n with
  | zero => intro x h _; rw [rnX_f (by omega), rnX_f (by omega)]
  | succ n ih =>
    intro x h e
    by_cases hx : x ≤ 59
    · by_cases hp : p x = true
      · rw [rnX_t hx hp, rnX_t hx (by rw [← e x (by omega) hx]; exact hp)]
        exact ih (x + 1) (by omega) (fun u h1 h2 => e u (by omega) h2)
      · rw [rnX_f (fun z => hp z.2), rnX_f (fun z => hp (by rw [e x (by omega) hx]; exact z.2))]
    · rw [rnX_f (by omega), rnX_f (by omega)]
theorem bdX_congr {sm sm' : Int → Int → Bool} {em em' : Int → Bool} : ∀ (n : Nat) (y : Int), (60 - y).toNat ≤ n → (∀ u v, y ≤ u → u ≤ 59 → u < v → v ≤ 59 → sm u v = sm' u v) → (∀ u, y ≤ u → u ≤ 59 → em u = em' u) → bdX sm em y = bdX sm' em' y := by
  intro n
  induction n with
  | zero => intro y h _ _; rw [bdX_0 (by omega), bdX_0 (by omega)]
  | succ n ih =>
    intro y h e1 e2
    by_cases hy : y ≤ 59
    · have hr : rnX (sm y) (y + 1) = rnX (sm' y) (y + 1) := rnX_congr _ (y + 1) (Nat.le_refl _) (fun u h1 h2 => e1 y u (by omega) hy (by omega) h2)
      have hg := rnX_ge (sm' y) _ (y + 1) (Nat.le_refl _)
      have hi := ih (rnX (sm' y) (y + 1)) (by omega) (fun u v h1 h2 h3 h4 => e1 u v (by omega) h2 h3 h4) (fun u h1 h2 => e2 u (by omega) h2)
      cases he : em y with
      | true => rw [bdX_t hy he, bdX_t hy (by rw [← e2 y (by omega) hy]; exact he), hr, hi]
      | false => rw [bdX_f hy he, bdX_f hy (by rw [← e2 y (by omega) hy]; exact he), hr, hi]
    · rw [bdX_0 (by omega), bdX_0 (by omega)]
theorem bdX_rng {sm : Int → Int → Bool} {em : Int → Bool} : ∀ (n : Nat) (y : Int), (60 - y).toNat ≤ n → ∀ q ∈ bdX sm em y, y ≤ q.1 ∧ q.1 < q.2 ∧ q.2 ≤ 60 := by
  intro n
  induction n with
  | zero => intro y h q hq; rw [bdX_0 (by omega)] at hq; cases hq
  | succ n ih =>
    intro y h q hq
    by_cases hy : y ≤ 59
    · have hg := rnX_ge (sm y) _ (y + 1) (Nat.le_refl _)
      have hle := rnX_le (sm y) _ (y + 1) (Nat.le_refl _) (by omega)
      have hi := ih (rnX (sm y) (y + 1)) (by omega)
      cases he : em y with
      | true =>
        rw [bdX_t hy he] at hq
        have := hi q hq
        omega
      | false =>
        rw [bdX_f hy he] at hq
        rcases List.mem_cons.mp hq with rfl | hq
        · exact ⟨Int.le_refl _, by show y < _; omega, hle⟩
        · have := hi q hq
          omega
    · rw [bdX_0 (by omega)] at hq; cases hq
theorem bdX_len {sm : Int → Int → Bool} {em : Int → Bool} : ∀ (n : Nat) (y : Int), (60 - y).toNat ≤ n → (bdX sm em y).length ≤ n := by
  intro n
  induction n with
  | zero => intro y h; rw [bdX_0 (by omega)]; exact Nat.le_refl _
  | succ n ih =>
    intro y h
    by_cases hy : y ≤ 59
    · have hg := rnX_ge (sm y) _ (y + 1) (Nat.le_refl _)
      have hi := ih (rnX (sm y) (y + 1)) (by omega)
      cases he : em y with
      | true => rw [bdX_t hy he]; omega
      | false => rw [bdX_f hy he, List.length_cons]; omega
    · rw [bdX_0 (by omega)]; exact Nat.zero_le _
theorem spX_len {p : Int → Bool} : ∀ (n : Nat) (x : Int), (61 - x).toNat ≤ n → (spX p x).length ≤ n := by
  intro n
  induction n with
  | zero => intro x h; rw [spX_0 (by omega)]; exact Nat.le_refl _
  | succ n ih =>
    intro x h
    by_cases hx : x ≤ 59
    · have hg := rnX_ge p _ x (Nat.le_refl _)
      have hi := ih (rnX p x + 1) (by omega)
      by_cases h2 : x < rnX p x
      · rw [spX_t hx h2, List.length_cons]; omega
      · rw [spX_f hx h2]; omega
    · rw [spX_0 (by omega)]; exact Nat.zero_le _
theorem nbC_le (S : Cl) : nbC S ≤ 120 := bdX_len 120 (-60) (by decide)
theorem sum_le {L : List Nat} {c : Nat} (h : ∀ x ∈ L, x ≤ c) : L.sum ≤ L.length * c := by
  induction L with
  | nil => simp
  | cons x r ih =>
    have h1 := h x List.mem_cons_self
    have h2 := ih (fun y hy => h y (List.mem_cons_of_mem _ hy))
    rw [List.sum_cons, List.length_cons, Nat.succ_mul]
    omega
theorem nsC_le (S : Cl) : nsC S ≤ 14520 := by
  have h := sum_le (L := (bandsC S).map (fun q => (spX (rpC S q.1) (-60)).length)) (c := 121) (fun x hx => by
    obtain ⟨q, -, rfl⟩ := List.mem_map.mp hx
    exact spX_len 121 (-60) (by decide))
  rw [List.length_map] at h
  have h2 := nbC_le S
  unfold nbC at h2
  unfold nsC
  omega
/-! the reference's longs tell the cells -/
theorem AR_row {s : Nat → Int64} {a : Nat} {S : Cl} (h : AR s a S) {j i : Nat} (hj : j < 120) (hi : i < 120) : sameM s a j i = eqR S j i := by
  rw [Bool.eq_iff_iff, eqR_t, sameM, Bool.and_eq_true, decide_eq_true_iff, decide_eq_true_iff]
  constructor
  · rintro ⟨h1, h2⟩ u hu
    rw [← h.2 u hu j hj, ← h.2 u hu i hi, cM, cM]
    by_cases hc : u < 60
    · rw [show 240 * a + 2 * j + u / 60 = 240 * a + 2 * j by omega, show 240 * a + 2 * i + u / 60 = 240 * a + 2 * i by omega, h1]
    · rw [show 240 * a + 2 * j + u / 60 = 240 * a + 2 * j + 1 by omega, show 240 * a + 2 * i + u / 60 = 240 * a + 2 * i + 1 by omega, h2]
  · intro e
    have hb : ∀ k, k < 240 → b60 (s (240 * a + k)) := h.1
    refine ⟨b60_ext (hb (2 * j) (by omega)) (hb (2 * i) (by omega)) (fun u hu => ?_), b60_ext (hb (2 * j + 1) (by omega)) (hb (2 * i + 1) (by omega)) (fun u hu => ?_)⟩
    · have q := e u (by omega)
      rw [← h.2 u (by omega) j hj, ← h.2 u (by omega) i hi, cM, cM, show u / 60 = 0 by omega, show u % 60 = u by omega] at q
      exact q
    · have q := e (60 + u) (by omega)
      rw [← h.2 (60 + u) (by omega) j hj, ← h.2 (60 + u) (by omega) i hi, cM, cM, show (60 + u) / 60 = 1 by omega, show (60 + u) % 60 = u by omega] at q
      exact q
theorem AR_emp {s : Nat → Int64} {a : Nat} {S : Cl} (h : AR s a S) {j : Nat} (hj : j < 120) : emptyM s a j = emR S j := by
  rw [Bool.eq_iff_iff, emR_t, emptyM, Bool.and_eq_true, decide_eq_true_iff, decide_eq_true_iff]
  constructor
  · rintro ⟨h1, h2⟩ u hu
    rw [← h.2 u hu j hj, cM]
    by_cases hc : u < 60
    · rw [show 240 * a + 2 * j + u / 60 = 240 * a + 2 * j by omega, h1, tb_0]
    · rw [show 240 * a + 2 * j + u / 60 = 240 * a + 2 * j + 1 by omega, h2, tb_0]
  · intro e
    have hb : ∀ k, k < 240 → b60 (s (240 * a + k)) := h.1
    refine ⟨b60_ext (hb (2 * j) (by omega)) b60_0 (fun u hu => ?_), b60_ext (hb (2 * j + 1) (by omega)) b60_0 (fun u hu => ?_)⟩
    · have q := e u (by omega)
      rw [← h.2 u (by omega) j hj, cM, show u / 60 = 0 by omega, show u % 60 = u by omega] at q
      rw [tb_0]; exact q
    · have q := e (60 + u) (by omega)
      rw [← h.2 (60 + u) (by omega) j hj, cM, show (60 + u) / 60 = 1 by omega, show (60 + u) % 60 = u by omega] at q
      rw [tb_0]; exact q
theorem AR_has {s : Nat → Int64} {a : Nat} {S : Cl} (h : AR s a S) (x y : Int) : hasM s a x y = rpC S y x := by
  rw [hasM, rpC]
  cases hc : cellB x y with
  | false => rfl
  | true =>
    obtain ⟨⟨h1, h2⟩, h3, h4⟩ := cellB_t.mp hc
    rw [Bool.true_and, Bool.true_and, h.2 _ (by omega) _ (by omega)]
theorem AR_bands {s : Nat → Int64} {a : Nat} {S : Cl} (h : AR s a S) : bandsM s a = bandsC S := by
  refine bdX_congr _ (-60) (Nat.le_refl _) (fun u v h1 h2 h3 h4 => AR_row h (by omega) (by omega)) (fun u h1 h2 => AR_emp h (by omega))
theorem fmS_congr {I : Nat → Int32} {wh : Int} {rp rq : Int → Int → Bool} (h : ∀ y x, rp y x = rq y x) (φ : Ph) (L : List (Int × Int)) : fmS I wh rp φ L = fmS I wh rq φ L := by
  have : rp = rq := by funext y x; exact h y x
  rw [this]
theorem AR_fm {s : Nat → Int64} {a : Nat} {S : Cl} (h : AR s a S) (I : Nat → Int32) (wh : Int) : fmS I wh (rpM s a) phi0 (bandsM s a) = fmS I wh (rpC S) phi0 (bandsC S) := by
  rw [AR_bands h]
  exact fmS_congr (fun y x => AR_has h x y) _ _
/-! how many -/
theorem wcL_tail (w : Int32) (φ : Ph) (cs : List Int32) : (wcL w φ cs).2.2.2 = φ.2.2.2 := by
  induction cs generalizing φ with
  | nil => rfl
  | cons c cs ih => rw [wcL_cons, ih]; rfl
theorem spansS_n (I : Nat → Int32) (wh y z : Int) (L : List (Int × Int)) : ∀ (φ : Ph) (c : List Int32), (spansS I wh y z φ c L).2.2.2.1 = φ.2.2.2.1 + oI (L.length : Int) ∧ (spansS I wh y z φ c L).2.2.2.2.1 = φ.2.2.2.2.1 := by
  induction L with
  | nil =>
    intro φ c
    refine ⟨?_, rfl⟩
    show φ.2.2.2.1 = φ.2.2.2.1 + oI 0
    rw [oI_0, Int32.add_zero]
  | cons q r ih =>
    intro φ c
    have e : (spanS I wh y z φ c q).2.2.2.1 = φ.2.2.2.1 + oI 1 ∧ (spanS I wh y z φ c q).2.2.2.2.1 = φ.2.2.2.2.1 := by
      have h := wcL_tail (I 14) φ (c ++ (numS q.1 ++ (oI 46 :: numS q.2)))
      refine ⟨?_, ?_⟩
      · show (wcL (I 14) φ (c ++ (numS q.1 ++ (oI 46 :: numS q.2)))).2.2.2.1 + oI 1 = _
        rw [h]
      · show (wcL (I 14) φ (c ++ (numS q.1 ++ (oI 46 :: numS q.2)))).2.2.2.2.1 = _
        rw [h]
    have h := ih (spanS I wh y z φ c q) [oI 44]
    refine ⟨?_, h.2.trans e.2⟩
    show (spansS I wh y z (spanS I wh y z φ c q) [oI 44] r).2.2.2.1 = _
    rw [h.1, e.1, Int32.add_assoc, oI_add, List.length_cons]
    congr 2
    omega
theorem bandS_n (I : Nat → Int32) (wh y z : Int) (φ : Ph) (L : List (Int × Int)) : (bandS I wh y z φ L).2.2.2.1 = φ.2.2.2.1 + oI (L.length : Int) ∧ (bandS I wh y z φ L).2.2.2.2.1 = φ.2.2.2.2.1 + oI 1 := by
  have h1 := wcL_tail (I 14) (spansS I wh y z (wcL (I 14) φ (numS y ++ (oI 46 :: (numS z ++ [oI 58])))) [] L) [oI 59]
  have h2 := spansS_n I wh y z L (wcL (I 14) φ (numS y ++ (oI 46 :: (numS z ++ [oI 58])))) []
  have h3 := wcL_tail (I 14) φ (numS y ++ (oI 46 :: (numS z ++ [oI 58])))
  refine ⟨?_, ?_⟩
  · show (wcL (I 14) (spansS I wh y z (wcL (I 14) φ (numS y ++ (oI 46 :: (numS z ++ [oI 58])))) [] L) [oI 59]).2.2.2.1 = _
    rw [h1, h2.1, h3]
  · show (wcL (I 14) (spansS I wh y z (wcL (I 14) φ (numS y ++ (oI 46 :: (numS z ++ [oI 58])))) [] L) [oI 59]).2.2.2.2.1 + oI 1 = _
    rw [h1, h2.2, h3]
theorem fmS_n (I : Nat → Int32) (wh : Int) (rp : Int → Int → Bool) (L : List (Int × Int)) : ∀ φ : Ph, (fmS I wh rp φ L).2.2.2.1 = φ.2.2.2.1 + oI (((L.map (fun q => (spX (rp q.1) (-60)).length)).sum : Nat) : Int) ∧ (fmS I wh rp φ L).2.2.2.2.1 = φ.2.2.2.2.1 + oI (L.length : Int) := by
  induction L with
  | nil =>
    intro φ
    refine ⟨?_, ?_⟩
    · show φ.2.2.2.1 = φ.2.2.2.1 + oI 0
      rw [oI_0, Int32.add_zero]
    · show φ.2.2.2.2.1 = φ.2.2.2.2.1 + oI 0
      rw [oI_0, Int32.add_zero]
  | cons q r ih =>
    intro φ
    have e := bandS_n I wh q.1 q.2 φ (spX (rp q.1) (-60))
    have h := ih (bandS I wh q.1 q.2 φ (spX (rp q.1) (-60)))
    refine ⟨?_, ?_⟩
    · show (fmS I wh rp (bandS I wh q.1 q.2 φ (spX (rp q.1) (-60))) r).2.2.2.1 = _
      rw [h.1, e.1, Int32.add_assoc, oI_add, List.map_cons, List.sum_cons]
      congr 2
    · show (fmS I wh rp (bandS I wh q.1 q.2 φ (spX (rp q.1) (-60))) r).2.2.2.2.1 = _
      rw [h.2, e.2, Int32.add_assoc, oI_add, List.length_cons]
      congr 2
      omega
theorem form_n {s : Nat → Int64} {a : Nat} {S : Cl} (h : AR s a S) (I : Nat → Int32) (k wh w : Int) : formI I s a k wh w 9 = oI (nsC S : Int) ∧ formI I s a k wh w 10 = oI (nbC S : Int) := by
  have e := fmS_n (upd (upd I 11 (oI k)) 14 (oI w)) wh (rpC S) (bandsC S) phi0
  rw [← AR_fm h] at e
  refine ⟨?_, ?_⟩
  · refine (show formI I s a k wh w 9 = (fmS (upd (upd I 11 (oI k)) 14 (oI w)) wh (rpM s a) phi0 (bandsM s a)).2.2.2.1 from rfl).trans ?_
    rw [e.1]
    show oI 0 + _ = _
    rw [oI_add, Int.zero_add]
    rfl
  · refine (show formI I s a k wh w 10 = (fmS (upd (upd I 11 (oI k)) 14 (oI w)) wh (rpM s a) phi0 (bandsM s a)).2.2.2.2.1 from rfl).trans ?_
    rw [e.2]
    show oI 0 + _ = _
    rw [oI_add, Int.zero_add]
    rfl
theorem fb_sm_pair (f : Nat → Nat) : ∀ n, fb_sm f (2 * n) = fb_sm (fun j => f (2 * j) + f (2 * j + 1)) n
  | 0 => rfl
  | n + 1 => by
    rw [show 2 * (n + 1) = (2 * n + 1) + 1 by omega, fb_sm_succ, fb_sm_succ, fb_sm_succ, fb_sm_pair f n]
    omega
theorem AR_cnt {s : Nat → Int64} {a : Nat} {S : Cl} (h : AR s a S) : cntM s a 240 = cntC S := by
  rw [cntM, show 240 = 2 * 120 from rfl, fb_sm_pair, cntC]
  apply fb_sm_cong
  intro j hj
  rw [show 120 = 60 + 60 from rfl, fb_ct_split]
  congr 1
  · apply fb_ct_cong
    intro u hu
    rw [← h.2 u (by omega) j hj, cM, show u / 60 = 0 by omega, show u % 60 = u by omega]
    rfl
  · apply fb_ct_cong
    intro u hu
    rw [← h.2 (60 + u) (by omega) j hj, cM, show (60 + u) / 60 = 1 by omega, show (60 + u) % 60 = u by omega, Nat.add_assoc]
