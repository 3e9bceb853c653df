/-! THE FORM: all bands -/
def nsL (rp : Int → Int → Bool) (L : List (Int × Int)) : Nat := (L.map (fun q => (spX (rp q.1) (-60)).length)).sum
def HB (D : Dt) (rp : Int → Int → Bool) : Nat → Nat → List (Int × Int) → Prop
  | _, _, [] => True
  | b, k, q :: r => (D.1 6 b = oI q.1 ∧ D.1 7 b = oI q.2 ∧ D.1 8 b = oI (k : Int)) ∧ HS D b k (spX (rp q.1) (-60)) ∧ HB D rp (b + 1) (k + (spX (rp q.1) (-60)).length) r
theorem nsL_cons (rp : Int → Int → Bool) (q : Int × Int) (r : List (Int × Int)) : nsL rp (q :: r) = (spX (rp q.1) (-60)).length + nsL rp r := by rw [nsL, List.map_cons, List.sum_cons, nsL]
theorem nsL_app (rp : Int → Int → Bool) (L M : List (Int × Int)) : nsL rp (L ++ M) = nsL rp L + nsL rp M := by rw [nsL, List.map_append, List.sum_append, nsL, nsL]
theorem HB_app {D : Dt} {rp : Int → Int → Bool} {M : List (Int × Int)} : ∀ (L : List (Int × Int)) (b k : Nat), HB D rp b k (L ++ M) ↔ HB D rp b k L ∧ HB D rp (b + L.length) (k + nsL rp L) M
  | [], b, k => ⟨fun h => ⟨trivial, h⟩, fun h => h.2⟩
  | q :: r, b, k => by
    have ih := HB_app (D := D) (rp := rp) (M := M) r (b + 1) (k + (spX (rp q.1) (-60)).length)
    rw [nsL_cons, List.length_cons, show b + (r.length + 1) = b + 1 + r.length by omega, ← Nat.add_assoc]
    constructor
    · rintro ⟨h1, h2, h3⟩
      exact ⟨⟨h1, h2, (ih.mp h3).1⟩, (ih.mp h3).2⟩
    · rintro ⟨⟨h1, h2, h3⟩, h4⟩
      exact ⟨h1, h2, ih.mpr ⟨h3, h4⟩⟩
theorem HS_fr {D D' : Dt} {b : Nat} : ∀ (L : List (Int × Int)) (k : Nat), (∀ i, k ≤ i → i < k + L.length → D'.1 9 i = D.1 9 i ∧ D'.1 10 (2 * i) = D.1 10 (2 * i) ∧ D'.1 10 (2 * i + 1) = D.1 10 (2 * i + 1)) → HS D b k L → HS D' b k L
  | [], _, _, _ => trivial
  | u :: r, k, h, hs => by
    rw [List.length_cons] at h
    have q := h k (by omega) (by omega)
    exact ⟨⟨q.1.trans hs.1.1, q.2.1.trans hs.1.2.1, q.2.2.trans hs.1.2.2⟩, HS_fr r (k + 1) (fun i h1 h2 => h i (by omega) (by omega)) hs.2⟩
theorem HB_fr {D D' : Dt} {rp : Int → Int → Bool} : ∀ (L : List (Int × Int)) (b k : Nat), (∀ i, b ≤ i → i < b + L.length → D'.1 6 i = D.1 6 i ∧ D'.1 7 i = D.1 7 i ∧ D'.1 8 i = D.1 8 i) → (∀ i, k ≤ i → i < k + nsL rp L → D'.1 9 i = D.1 9 i ∧ D'.1 10 (2 * i) = D.1 10 (2 * i) ∧ D'.1 10 (2 * i + 1) = D.1 10 (2 * i + 1)) → HB D rp b k L → HB D' rp b k L
  | [], _, _, _, _, _ => trivial
  | u :: r, b, k, h1, h2, hs => by
    rw [List.length_cons] at h1
    rw [nsL_cons] at h2
    have q := h1 b (by omega) (by omega)
    exact ⟨⟨q.1.trans hs.1.1, q.2.1.trans hs.1.2.1, q.2.2.trans hs.1.2.2⟩, HS_fr _ k (fun i w1 w2 => h2 i w1 (by omega)) hs.2.1, HB_fr r (b + 1) _ (fun i w1 w2 => h1 i (by omega) (by omega)) (fun i w1 w2 => h2 i (by omega) (by omega)) hs.2.2⟩
/-! bands row by row -/
def extL : List (Int × Int) → List (Int × Int)
  | [] => []
  | [q] => [(q.1, q.2 + 1)]
  | q :: r :: s => q :: extL (r :: s)
theorem extL_app (q : Int × Int) : ∀ L : List (Int × Int), extL (L ++ [q]) = L ++ [(q.1, q.2 + 1)]
  | [] => rfl
  | [p] => rfl
  | p :: r :: s => by
    show p :: extL (r :: s ++ [q]) = _
    rw [extL_app q (r :: s)]; rfl
def bdI (S : Cl) : Nat → List (Int × Int)
  | 0 => []
  | n + 1 => if emR S n = true then bdI S n else if 0 < n ∧ eqR S (n - 1) n = true then extL (bdI S n) else bdI S n ++ [((n : Int) - 60, (n : Int) - 60 + 1)]
theorem bdI_e {S : Cl} {n : Nat} (h : emR S n = true) : bdI S (n + 1) = bdI S n := by rw [bdI, if_pos h]
theorem bdI_x {S : Cl} {n : Nat} (h : emR S n = false) (h2 : 0 < n ∧ eqR S (n - 1) n = true) : bdI S (n + 1) = extL (bdI S n) := by rw [bdI, if_neg (by rw [h]; decide), if_pos h2]
theorem bdI_n {S : Cl} {n : Nat} (h : emR S n = false) (h2 : ¬ (0 < n ∧ eqR S (n - 1) n = true)) : bdI S (n + 1) = bdI S n ++ [((n : Int) - 60, (n : Int) - 60 + 1)] := by rw [bdI, if_neg (by rw [h]; decide), if_neg h2]
theorem em_eq {S : Cl} {j i : Nat} (h : eqR S j i = true) : emR S j = emR S i := by
  rw [Bool.eq_iff_iff, emR_t, emR_t]
  exact ⟨fun q u hu => by rw [← eqR_t.mp h u hu]; exact q u hu, fun q u hu => by rw [eqR_t.mp h u hu]; exact q u hu⟩
theorem bdI_last {S : Cl} : ∀ {n : Nat}, 0 < n → emR S (n - 1) = false → ∃ L y, bdI S n = L ++ [(y, (n : Int) - 60)]
  | 0, h, _ => absurd h (Nat.lt_irrefl 0)
  | n + 1, _, h => by
    have h : emR S n = false := h
    by_cases q : 0 < n ∧ eqR S (n - 1) n = true
    · obtain ⟨L, y, e⟩ := bdI_last (S := S) q.1 (by rw [em_eq q.2]; exact h)
      exact ⟨L, y, by rw [bdI_x h q, e, extL_app]; congr 3; omega⟩
    · exact ⟨bdI S n, (n : Int) - 60, by rw [bdI_n h q]; congr 3; omega⟩
theorem bdI_run {S : Cl} {y : Nat} (hy : y = 0 ∨ eqR S (y - 1) y = false) : ∀ n, (∀ u, y ≤ u → u < y + (n + 1) → eqR S y u = true) → bdI S (y + (n + 1)) = if emR S y = true then bdI S y else bdI S y ++ [((y : Int) - 60, ((y + (n + 1) : Nat) : Int) - 60)]
  | 0, h => by
    by_cases q : emR S y = true
    · rw [if_pos q]; exact bdI_e q
    · rw [if_neg q, show y + (0 + 1) = y + 1 by omega, bdI_n (Bool.eq_false_iff.mpr q) (fun w => by rcases hy with hy | hy; omega; rw [hy] at w; cases w.2)]
      congr 3; omega
  | n + 1, h => by
    have ih := bdI_run hy n (fun u h1 h2 => h u h1 (by omega))
    have e1 := em_eq (h (y + (n + 1)) (by omega) (by omega))
    have e2 : eqR S (y + (n + 1) - 1) (y + (n + 1)) = true := by
      rw [eqR_t]
      intro u hu
      rw [← eqR_t.mp (h (y + (n + 1) - 1) (by omega) (by omega)) u hu, ← eqR_t.mp (h (y + (n + 1)) (by omega) (by omega)) u hu]
    by_cases q : emR S y = true
    · rw [if_pos q] at ih ⊢
      rw [show y + (n + 1 + 1) = y + (n + 1) + 1 by omega, bdI_e (by rw [← e1]; exact q), ih]
    · rw [if_neg q] at ih ⊢
      rw [show y + (n + 1 + 1) = y + (n + 1) + 1 by omega, bdI_x (by rw [← e1]; exact Bool.eq_false_iff.mpr q) ⟨by omega, e2⟩, ih, extL_app]
      congr 3; omega
theorem bdI_bdX {S : Cl} : ∀ (n y : Nat), 120 - y ≤ n → y ≤ 120 → (y = 0 ∨ y = 120 ∨ eqR S (y - 1) y = false) → bdI S 120 = bdI S y ++ bdX (smC S) (emC S) ((y : Int) - 60) := by
  intro n
  induction n with
  | zero =>
    intro y h h1 _
    have e : y = 120 := by omega
    subst e
    rw [bdX_0 (by omega), List.append_nil]
  | succ n ih =>
    intro y h h1 h2
    by_cases e : y = 120
    · subst e; rw [bdX_0 (by omega), List.append_nil]
    · have hg := rnX_ge (smC S ((y : Int) - 60)) _ ((y : Int) - 60 + 1) (Nat.le_refl _)
      have hl := rnX_le (smC S ((y : Int) - 60)) _ ((y : Int) - 60 + 1) (Nat.le_refl _) (by omega)
      have hin := rnX_in (p := smC S ((y : Int) - 60)) _ ((y : Int) - 60 + 1) (Nat.le_refl _)
      have hst := rnX_stop (p := smC S ((y : Int) - 60)) _ ((y : Int) - 60 + 1) (Nat.le_refl _) (by omega)
      obtain ⟨m, hm⟩ : ∃ m : Nat, rnX (smC S ((y : Int) - 60)) ((y : Int) - 60 + 1) = ((y + (m + 1) : Nat) : Int) - 60 := ⟨(rnX (smC S ((y : Int) - 60)) ((y : Int) - 60 + 1) - ((y : Int) - 60 + 1)).toNat, by omega⟩
      rw [hm] at hl hin hst
      have hsame : ∀ u, y ≤ u → u < y + (m + 1) → eqR S y u = true := by
        intro u h1 h2
        by_cases q : u = y
        · rw [q, eqR_t]; intro _ _; rfl
        · have := hin ((u : Int) - 60) (by omega) (by omega)
          rw [smC, show ((y : Int) - 60 + 60).toNat = y by omega, show ((u : Int) - 60 + 60).toNat = u by omega] at this
          exact this
      have hr := bdI_run (S := S) (y := y) (by rcases h2 with h2 | h2 | h2; exact Or.inl h2; exact absurd h2 e; exact Or.inr h2) m hsame
      have hi := ih (y + (m + 1)) (by omega) (by omega) (by
        by_cases q : y + (m + 1) = 120
        · exact Or.inr (Or.inl q)
        · refine Or.inr (Or.inr (Bool.eq_false_iff.mpr (fun w => hst ⟨by omega, ?_⟩)))
          rw [smC, show ((y : Int) - 60 + 60).toNat = y by omega, show (((y + (m + 1) : Nat) : Int) - 60 + 60).toNat = y + (m + 1) by omega, eqR_t]
          intro u hu
          rw [← eqR_t.mp w u hu]
          exact eqR_t.mp (hsame (y + (m + 1) - 1) (by omega) (by omega)) u hu)
      have ey : emC S ((y : Int) - 60) = emR S y := by rw [emC, show ((y : Int) - 60 + 60).toNat = y by omega]
      cases he : emR S y with
      | true =>
        rw [bdX_t (by omega) (by rw [ey]; exact he), hm, hi, hr, if_pos he]
      | false =>
        rw [bdX_f (by omega) (by rw [ey]; exact he), hm, hi, hr, if_neg (by rw [he]; decide), List.append_assoc]
        rfl
theorem bdI_all (S : Cl) : bdI S 120 = bandsC S := (bdI_bdX 120 0 (by omega) (by omega) (Or.inl rfl)).trans (List.nil_append _)
theorem extL_len : ∀ L : List (Int × Int), (extL L).length = L.length
  | [] => rfl
  | [_] => rfl
  | p :: r :: s => by
    show (extL (r :: s)).length + 1 = _
    rw [extL_len (r :: s)]; rfl
theorem extL_ns (rp : Int → Int → Bool) : ∀ L : List (Int × Int), nsL rp (extL L) = nsL rp L
  | [] => rfl
  | [_] => rfl
  | p :: r :: s => by
    show nsL rp (p :: extL (r :: s)) = _
    rw [nsL_cons, extL_ns rp (r :: s), ← nsL_cons]
theorem bdI_mono {S : Cl} {rp : Int → Int → Bool} (n : Nat) : ∀ m, (bdI S n).length ≤ (bdI S (n + m)).length ∧ nsL rp (bdI S n) ≤ nsL rp (bdI S (n + m))
  | 0 => ⟨Nat.le_refl _, Nat.le_refl _⟩
  | m + 1 => by
    have ih := bdI_mono (S := S) (rp := rp) n m
    rw [show n + (m + 1) = n + m + 1 by omega]
    cases he : emR S (n + m) with
    | true => rw [bdI_e he]; exact ih
    | false =>
      by_cases q : 0 < n + m ∧ eqR S (n + m - 1) (n + m) = true
      · rw [bdI_x he q, extL_len, extL_ns]; exact ih
      · rw [bdI_n he q, List.length_append, nsL_app]; omega
/-! reading an area's rows -/
def RdQ (D0 : Dt) (S : Cl) (j : Nat) (D : Dt) : Prop := FK D0 D ∧ D.1 5 6 = oI ((bdI S j).length : Int) ∧ D.1 5 7 = oI (nsL (rpC S) (bdI S j) : Int) ∧ ((bdI S j).length ≤ 60 ∧ nsL (rpC S) (bdI S j) ≤ 300) ∧ HB D (rpC S) 0 0 (bdI S j)
theorem RdQ.em {D0 D : Dt} {S : Cl} {j : Nat} (h : RdQ D0 S j D) (he : emR S j = true) : RdQ D0 S (j + 1) D := by
  unfold RdQ
  rw [bdI_e he]
  exact h
theorem RdQ.ext {D0 D : Dt} {S : Cl} {j : Nat} (h : RdQ D0 S j D) (he : emR S j = false) (h2 : 0 < j ∧ eqR S (j - 1) j = true) : RdQ D0 S (j + 1) (rU D 7 (upd (D.1 7) ((bdI S j).length - 1) (D.1 7 ((bdI S j).length - 1) + oI 1))) := by
  obtain ⟨h1, hb, hs, hl, hB⟩ := h
  obtain ⟨L, y, e⟩ := bdI_last (S := S) h2.1 (by rw [em_eq h2.2]; exact he)
  unfold RdQ
  rw [bdI_x he h2, extL_len, extL_ns]
  refine ⟨h1.tr (FK_rU D (by omega) _), hb, hs, hl, ?_⟩
  rw [e] at hB ⊢
  rw [extL_app, HB_app]
  rw [HB_app] at hB
  obtain ⟨hB1, ⟨q1, q2, q3⟩, q4, -⟩ := hB
  simp only [Nat.zero_add] at q1 q2 q3 q4 ⊢
  rw [List.length_append, List.length_singleton, Nat.add_sub_cancel]
  refine ⟨HB_fr (D := D) L 0 0 (fun i _ hi => ⟨rfl, ?_, rfl⟩) (fun i _ _ => ⟨rfl, rfl, rfl⟩) hB1, ⟨q1, ?_, q3⟩, HS_fr (D := D) _ _ (fun i _ _ => ⟨rfl, rfl, rfl⟩) q4, trivial⟩
  · rw [rU_get, upd_at, if_neg (by omega)]
  · rw [rU_get, upd_at, if_pos rfl, q2, oI_add]
theorem RdQ.add {D0 D D' : Dt} {S : Cl} {j : Nat} (h : RdQ D0 S j D) (he : emR S j = false) (h2 : ¬ (0 < j ∧ eqR S (j - 1) j = true)) (hk : (bdI S j).length < 60 ∧ nsL (rpC S) (bdI S j) + lnR S j ≤ 300) (hn : NewB D S j (bdI S j).length (nsL (rpC S) (bdI S j)) D') : RdQ D0 S (j + 1) D' := by
  obtain ⟨h1, hb, hs, hl, hB⟩ := h
  obtain ⟨n1, ⟨n2, n3⟩, n4, n5, n6, n7, n8⟩ := hn
  have e1 : nsL (rpC S) [((j : Int) - 60, (j : Int) - 60 + 1)] = lnR S j := by rw [nsL_cons]; rfl
  unfold RdQ
  rw [bdI_n he h2, List.length_append, nsL_app, e1, List.length_singleton, HB_app, Nat.zero_add, Nat.zero_add]
  refine ⟨h1.tr n1, n2, n3, ⟨by omega, by omega⟩, HB_fr _ 0 0 (fun i _ hi => n6 i (by omega)) (fun i _ hi => ⟨n7 i (by omega), n8 _ (by omega), n8 _ (by omega)⟩) hB, n4, n5, trivial⟩
def FormP (D : Dt) (S : Cl) : Prop := D.1 5 6 = oI (nbC S : Int) ∧ D.1 5 7 = oI (nsC S : Int) ∧ (nbC S ≤ 60 ∧ nsC S ≤ 300) ∧ HB D (rpC S) 0 0 (bandsC S)
def RdP (D : Dt) (S : Cl) (r : Int32) (D' : Dt) : Prop := r = bI (fitC S) ∧ FK D D' ∧ (fitC S = true → FormP D' S)
theorem RdQ.fin {D0 D : Dt} {S : Cl} (h : RdQ D0 S 120 D) : RdP D0 S (oI 1) D := by
  obtain ⟨h1, hb, hs, hl, hB⟩ := h
  rw [bdI_all] at hb hs hl hB
  exact ⟨bI_1 (decide_eq_true ⟨hl.1, hl.2⟩), h1, fun _ => ⟨hb, hs, hl, hB⟩⟩
theorem RdQ.no {D0 D : Dt} {S : Cl} {j : Nat} (h : RdQ D0 S j D) (hj : j < 120) (he : emR S j = false) (h2 : ¬ (0 < j ∧ eqR S (j - 1) j = true)) (hk : ¬ ((bdI S j).length < 60 ∧ nsL (rpC S) (bdI S j) + lnR S j ≤ 300)) : RdP D0 S (oI 0) D := by
  have hm := bdI_mono (S := S) (rp := rpC S) (j + 1) (120 - (j + 1))
  have e1 : nsL (rpC S) [((j : Int) - 60, (j : Int) - 60 + 1)] = lnR S j := by rw [nsL_cons]; rfl
  rw [show j + 1 + (120 - (j + 1)) = 120 by omega, bdI_all, bdI_n he h2, List.length_append, nsL_app, e1, List.length_singleton] at hm
  have e2 : nbC S = (bandsC S).length := rfl
  have e3 : nsC S = nsL (rpC S) (bandsC S) := rfl
  have hf : fitC S = false := decide_eq_false (by omega)
  exact ⟨bI_0 hf, h.1, fun q => by rw [hf] at q; cases q⟩
theorem AC_same {D : Dt} {z : Fin 11} {S : Cl} (hA : AC D z S) {j i : Nat} (hj : j < 120) (hi : i < 120) : eqR S j i = true ↔ D.2.1 2 z j = D.2.1 2 z i ∧ D.2.1 3 z j = D.2.1 3 z i := by
  rw [← AR_row hA hj hi, sameM, Bool.and_eq_true, decide_eq_true_iff, decide_eq_true_iff, Nat.mul_zero, Nat.zero_add, Nat.zero_add, wv_w, wv_w, wv_e, wv_e]
theorem AC_emp {D : Dt} {z : Fin 11} {S : Cl} (hA : AC D z S) {j : Nat} (hj : j < 120) : emR S j = true ↔ D.2.1 2 z j = 0 ∧ D.2.1 3 z j = 0 := by
  rw [← AR_emp hA hj, emptyM, Bool.and_eq_true, decide_eq_true_iff, decide_eq_true_iff, Nat.mul_zero, Nat.zero_add, wv_w, wv_e]
theorem abV_same {D : Dt} {z : Fin 11} {S : Cl} (hA : AC D z S) {j : Nat} (hj : j < 120) (he : emR S j = false) : (D.2.1 2 z j = abV 0 (D.2.1 2 z) j ∧ D.2.1 3 z j = abV 0 (D.2.1 3 z) j) ↔ (0 < j ∧ eqR S (j - 1) j = true) := by
  cases j with
  | zero =>
    constructor
    · intro h
      rw [(AC_emp hA hj).mpr h] at he; cases he
    · intro h; omega
  | succ m =>
    rw [show m + 1 - 1 = m from rfl, AC_same hA (by omega) hj]
    exact ⟨fun h => ⟨by omega, h.1.symm, h.2.symm⟩, fun h => ⟨h.2.1.symm, h.2.2.symm⟩⟩
theorem c_X1_read {E : Le} {l : Launch} {D : Dt} {z : Fin 11} {S : Cl} (hA : AC D z S) : ConIp E l yX1_read cX1_read 11 (some .boolean) 4 [.ref (E.1 (5, 0)), .ref (E.1 (1, z))] D (RdP D S) := by
  refine Con_of (by decide) (Nat.le_of_ble_eq_true rfl) ?_
  intro X hX hR hl; subst hl
  have loop : ∀ (m : Nat) (k : Nat) (D1 : Dt), k ≤ 120 → RdQ D S k D1 → 120 - k < m → Vw E X 11 D1 18 [(0, some (.ref (E.1 (5, 0)))), (1, some (.ref (E.1 (1, z)))), (2, some (.long (abV 0 (D1.2.1 2 z) k))), (4, some (.long (abV 0 (D1.2.1 3 z) k))), (6, some (.int (oI (k : Int))))] [] := by
    intro m
    induction m with
    | zero => intro k D1 g1 g2 g3; omega
    | succ m ih =>
      intro k D1 g1 g2 g3
      refine V_iload (pc := 18) hX rfl dX1_read_18 ?_
      refine V_bipush (pc := 20) (z := 120) hX (oI 120) (by decide) dX1_read_20 ?_
      refine Z_icmp_ge (pc := 22) (tgt := 124) hX (by omega) (by omega) dX1_read_22 (by decide) (fun h22 => ?_) (fun h22 => ?_)
      · refine V_iconst (pc := 124) (z := 1) hX (oI 1) rfl dX1_read_124 ?_
        refine V_zret (pc := 125) hX hR (by decide) dX1_read_125 ?_
        have e : k = 120 := by omega
        subst e
        exact ⟨_, rfl, g2.fin⟩
      · have hA1 := g2.1.ac hA
        have hl60 := g2.2.2.2.1.1
        refine V_aload_n (pc := 25) (j := 1) hX 1 rfl rfl dX1_read_25 ?_
        refine gf_X1_37 (pc := 26) hX dX1_read_26 ?_
        refine V_iload (pc := 29) hX rfl dX1_read_29 ?_
        refine zl_2 (pc := 31) hX (k) (by omega) (by omega) dX1_read_31 ?_
        refine V_lstore (pc := 32) hX (by decide) rfl dX1_read_32 ?_
        refine V_aload_n (pc := 34) (j := 1) hX 1 rfl rfl dX1_read_34 ?_
        refine gf_X1_43 (pc := 35) hX dX1_read_35 ?_
        refine V_iload (pc := 38) hX rfl dX1_read_38 ?_
        refine zl_3 (pc := 40) hX (k) (by omega) (by omega) dX1_read_40 ?_
        refine V_lstore (pc := 41) hX (by decide) rfl dX1_read_41 ?_
        refine V_lload (pc := 43) hX rfl dX1_read_43 ?_
        refine V_lload (pc := 45) hX rfl dX1_read_45 ?_
        refine V_lor (pc := 47) hX dX1_read_47 ?_
        refine V_lconst (pc := 48) (z := 0) hX 0 (by decide) dX1_read_48 ?_
        refine V_lcmp (pc := 49) hX dX1_read_49 ?_
        refine L_if_eq (pc := 50) (tgt := 111) hX dX1_read_50 (by decide) (fun h50 => ?_) (fun h50 => ?_)
        · refine V_lload (pc := 111) hX rfl dX1_read_111 ?_
          refine V_lstore_n (pc := 113) (j := 2) hX 2 rfl (by decide) rfl dX1_read_113 ?_
          refine V_lload (pc := 114) hX rfl dX1_read_114 ?_
          refine V_lstore (pc := 116) hX (by decide) rfl dX1_read_116 ?_
          refine Z_iinc (pc := 118) hX 1 rfl rfl dX1_read_118 ?_
          refine V_goto (pc := 121) (off := (-103)) (tgt := 18) hX (by decide) dX1_read_121 ?_
          refine V_cut [(0, some (.ref (E.1 (5, 0)))), (1, some (.ref (E.1 (1, z)))), (2, some (.long (abV 0 (D1.2.1 2 z) (k + 1)))), (4, some (.long (abV 0 (D1.2.1 3 z) (k + 1)))), (6, some (.int (oI ((k + 1 : Nat) : Int))))] ⟨rfl, rfl, rfl, rfl, rfl, trivial⟩ ?_
          exact ih (k + 1) _ (by omega) (g2.em ((AC_emp hA1 (by omega)).mpr (or0.mp h50))) (by omega)
        · have hne : emR S k = false := Bool.eq_false_iff.mpr (fun q => h50 (or0.mpr ((AC_emp hA1 (by omega)).mp q)))
          refine V_aload_n (pc := 53) (j := 0) hX 0 rfl rfl dX1_read_53 ?_
          refine gf_X1_30 (pc := 54) hX dX1_read_54 ?_
          refine V_oI ((bdI S k).length : Int) g2.2.1 ?_
          refine Z_if_le (pc := 57) (tgt := 93) hX (by omega) dX1_read_57 (by decide) (fun h57 => ?_) (fun h57 => ?_)
          · have hns : ¬ (0 < k ∧ eqR S (k - 1) k = true) := by
              intro q
              obtain ⟨L, y, e⟩ := bdI_last (S := S) q.1 (by rw [em_eq q.2]; exact hne)
              rw [e, List.length_append, List.length_singleton] at h57
              omega
            refine V_aload_n (pc := 93) (j := 0) hX 0 rfl rfl dX1_read_93 ?_
            refine V_iload (pc := 94) hX rfl dX1_read_94 ?_
            refine V_bipush (pc := 96) (z := 60) hX (oI 60) (by decide) dX1_read_96 ?_
            refine Z_isub (pc := 98) hX dX1_read_98 ?_
            refine V_lload (pc := 99) hX rfl dX1_read_99 ?_
            refine V_lload (pc := 101) hX rfl dX1_read_101 ?_
            refine cVIp3 (pc := 103) hX (c_X1_addBand (S := S) (z := z) (j := k) (by omega) hA1 g2.2.1 g2.2.2.1 g2.2.2.2.1.1 g2.2.2.2.1.2) (by decide) st_X1_46 ix_5 rfl rfl rfl (Nat.le_of_ble_eq_true rfl) dX1_read_103 (fun r103 D103 h103 => ?_)
            obtain ⟨rfl, hn1, hn2⟩ := h103
            refine B_if_ne (pc := 106) (tgt := 111) hX dX1_read_106 (by decide) (fun h106 => ?_) (fun h106 => ?_)
            · have hok := of_decide_eq_true h106
              have hn3 := hn1 hok
              refine V_lload (pc := 111) hX rfl dX1_read_111 ?_
              refine V_lstore_n (pc := 113) (j := 2) hX 2 rfl (by decide) rfl dX1_read_113 ?_
              refine V_lload (pc := 114) hX rfl dX1_read_114 ?_
              refine V_lstore (pc := 116) hX (by decide) rfl dX1_read_116 ?_
              refine Z_iinc (pc := 118) hX 1 rfl rfl dX1_read_118 ?_
              refine V_goto (pc := 121) (off := (-103)) (tgt := 18) hX (by decide) dX1_read_121 ?_
              refine V_cut [(0, some (.ref (E.1 (5, 0)))), (1, some (.ref (E.1 (1, z)))), (2, some (.long (abV 0 (D103.2.1 2 z) (k + 1)))), (4, some (.long (abV 0 (D103.2.1 3 z) (k + 1)))), (6, some (.int (oI ((k + 1 : Nat) : Int))))] ⟨rfl, rfl, congrArg (fun q => some (Value.long q)) (by rw [hn3.1.2]; rfl), congrArg (fun q => some (Value.long q)) (by rw [hn3.1.2]; rfl), rfl, trivial⟩ ?_
              exact ih (k + 1) _ (by omega) (g2.add hne hns hok hn3) (by omega)
            · refine V_iconst (pc := 109) (z := 0) hX (oI 0) rfl dX1_read_109 ?_
              refine V_zret (pc := 110) hX hR (by decide) dX1_read_110 ?_
              have hk := of_decide_eq_false h106
              rw [hn2 hk]
              exact ⟨_, rfl, g2.no (by omega) hne hns hk⟩
          · refine V_lload (pc := 60) hX rfl dX1_read_60 ?_
            refine V_lload_n (pc := 62) (j := 2) hX 2 rfl rfl dX1_read_62 ?_
            refine V_lcmp (pc := 63) hX dX1_read_63 ?_
            refine L_if_ne (pc := 64) (tgt := 93) hX dX1_read_64 (by decide) (fun h64 => ?_) (fun h64 => ?_)
            · have hns : ¬ (0 < k ∧ eqR S (k - 1) k = true) := by
                intro q
                exact h64 ((abV_same hA1 (by omega) hne).mpr q).1
              refine V_aload_n (pc := 93) (j := 0) hX 0 rfl rfl dX1_read_93 ?_
              refine V_iload (pc := 94) hX rfl dX1_read_94 ?_
              refine V_bipush (pc := 96) (z := 60) hX (oI 60) (by decide) dX1_read_96 ?_
              refine Z_isub (pc := 98) hX dX1_read_98 ?_
              refine V_lload (pc := 99) hX rfl dX1_read_99 ?_
              refine V_lload (pc := 101) hX rfl dX1_read_101 ?_
              refine cVIp3 (pc := 103) hX (c_X1_addBand (S := S) (z := z) (j := k) (by omega) hA1 g2.2.1 g2.2.2.1 g2.2.2.2.1.1 g2.2.2.2.1.2) (by decide) st_X1_46 ix_5 rfl rfl rfl (Nat.le_of_ble_eq_true rfl) dX1_read_103 (fun r103 D103 h103 => ?_)
              obtain ⟨rfl, hn1, hn2⟩ := h103
              refine B_if_ne (pc := 106) (tgt := 111) hX dX1_read_106 (by decide) (fun h106 => ?_) (fun h106 => ?_)
              · have hok := of_decide_eq_true h106
                have hn3 := hn1 hok
                refine V_lload (pc := 111) hX rfl dX1_read_111 ?_
                refine V_lstore_n (pc := 113) (j := 2) hX 2 rfl (by decide) rfl dX1_read_113 ?_
                refine V_lload (pc := 114) hX rfl dX1_read_114 ?_
                refine V_lstore (pc := 116) hX (by decide) rfl dX1_read_116 ?_
                refine Z_iinc (pc := 118) hX 1 rfl rfl dX1_read_118 ?_
                refine V_goto (pc := 121) (off := (-103)) (tgt := 18) hX (by decide) dX1_read_121 ?_
                refine V_cut [(0, some (.ref (E.1 (5, 0)))), (1, some (.ref (E.1 (1, z)))), (2, some (.long (abV 0 (D103.2.1 2 z) (k + 1)))), (4, some (.long (abV 0 (D103.2.1 3 z) (k + 1)))), (6, some (.int (oI ((k + 1 : Nat) : Int))))] ⟨rfl, rfl, congrArg (fun q => some (Value.long q)) (by rw [hn3.1.2]; rfl), congrArg (fun q => some (Value.long q)) (by rw [hn3.1.2]; rfl), rfl, trivial⟩ ?_
                exact ih (k + 1) _ (by omega) (g2.add hne hns hok hn3) (by omega)
              · refine V_iconst (pc := 109) (z := 0) hX (oI 0) rfl dX1_read_109 ?_
                refine V_zret (pc := 110) hX hR (by decide) dX1_read_110 ?_
                have hk := of_decide_eq_false h106
                rw [hn2 hk]
                exact ⟨_, rfl, g2.no (by omega) hne hns hk⟩
            · refine V_lload (pc := 67) hX rfl dX1_read_67 ?_
              refine V_lload (pc := 69) hX rfl dX1_read_69 ?_
              refine V_lcmp (pc := 71) hX dX1_read_71 ?_
              refine L_if_ne (pc := 72) (tgt := 93) hX dX1_read_72 (by decide) (fun h72 => ?_) (fun h72 => ?_)
              · have hns : ¬ (0 < k ∧ eqR S (k - 1) k = true) := by
                  intro q
                  exact h72 ((abV_same hA1 (by omega) hne).mpr q).2
                refine V_aload_n (pc := 93) (j := 0) hX 0 rfl rfl dX1_read_93 ?_
                refine V_iload (pc := 94) hX rfl dX1_read_94 ?_
                refine V_bipush (pc := 96) (z := 60) hX (oI 60) (by decide) dX1_read_96 ?_
                refine Z_isub (pc := 98) hX dX1_read_98 ?_
                refine V_lload (pc := 99) hX rfl dX1_read_99 ?_
                refine V_lload (pc := 101) hX rfl dX1_read_101 ?_
                refine cVIp3 (pc := 103) hX (c_X1_addBand (S := S) (z := z) (j := k) (by omega) hA1 g2.2.1 g2.2.2.1 g2.2.2.2.1.1 g2.2.2.2.1.2) (by decide) st_X1_46 ix_5 rfl rfl rfl (Nat.le_of_ble_eq_true rfl) dX1_read_103 (fun r103 D103 h103 => ?_)
                obtain ⟨rfl, hn1, hn2⟩ := h103
                refine B_if_ne (pc := 106) (tgt := 111) hX dX1_read_106 (by decide) (fun h106 => ?_) (fun h106 => ?_)
                · have hok := of_decide_eq_true h106
                  have hn3 := hn1 hok
                  refine V_lload (pc := 111) hX rfl dX1_read_111 ?_
                  refine V_lstore_n (pc := 113) (j := 2) hX 2 rfl (by decide) rfl dX1_read_113 ?_
                  refine V_lload (pc := 114) hX rfl dX1_read_114 ?_
                  refine V_lstore (pc := 116) hX (by decide) rfl dX1_read_116 ?_
                  refine Z_iinc (pc := 118) hX 1 rfl rfl dX1_read_118 ?_
                  refine V_goto (pc := 121) (off := (-103)) (tgt := 18) hX (by decide) dX1_read_121 ?_
                  refine V_cut [(0, some (.ref (E.1 (5, 0)))), (1, some (.ref (E.1 (1, z)))), (2, some (.long (abV 0 (D103.2.1 2 z) (k + 1)))), (4, some (.long (abV 0 (D103.2.1 3 z) (k + 1)))), (6, some (.int (oI ((k + 1 : Nat) : Int))))] ⟨rfl, rfl, congrArg (fun q => some (Value.long q)) (by rw [hn3.1.2]; rfl), congrArg (fun q => some (Value.long q)) (by rw [hn3.1.2]; rfl), rfl, trivial⟩ ?_
                  exact ih (k + 1) _ (by omega) (g2.add hne hns hok hn3) (by omega)
                · refine V_iconst (pc := 109) (z := 0) hX (oI 0) rfl dX1_read_109 ?_
                  refine V_zret (pc := 110) hX hR (by decide) dX1_read_110 ?_
                  have hk := of_decide_eq_false h106
                  rw [hn2 hk]
                  exact ⟨_, rfl, g2.no (by omega) hne hns hk⟩
              · refine V_aload_n (pc := 75) (j := 0) hX 0 rfl rfl dX1_read_75 ?_
                refine gf_X1_15 (pc := 76) hX dX1_read_76 ?_
                refine V_aload_n (pc := 79) (j := 0) hX 0 rfl rfl dX1_read_79 ?_
                refine gf_X1_30 (pc := 80) hX dX1_read_80 ?_
                refine V_oI ((bdI S k).length : Int) g2.2.1 ?_
                refine V_iconst (pc := 83) (z := 1) hX (oI 1) rfl dX1_read_83 ?_
                refine Z_isub (pc := 84) hX dX1_read_84 ?_
                refine V_dup2_11 (pc := 85) hX rfl rfl dX1_read_85 ?_
                refine zl_7 (pc := 86) hX ((bdI S k).length - 1) (by omega) (by omega) dX1_read_86 ?_
                refine V_iconst (pc := 87) (z := 1) hX (oI 1) rfl dX1_read_87 ?_
                refine V_iadd (pc := 88) hX dX1_read_88 ?_
                refine zs_7 (pc := 89) hX ((bdI S k).length - 1) (by omega) (by omega) dX1_read_89 ?_
                refine V_goto (pc := 90) (off := 21) (tgt := 111) hX (by decide) dX1_read_90 ?_
                refine V_lload (pc := 111) hX rfl dX1_read_111 ?_
                refine V_lstore_n (pc := 113) (j := 2) hX 2 rfl (by decide) rfl dX1_read_113 ?_
                refine V_lload (pc := 114) hX rfl dX1_read_114 ?_
                refine V_lstore (pc := 116) hX (by decide) rfl dX1_read_116 ?_
                refine Z_iinc (pc := 118) hX 1 rfl rfl dX1_read_118 ?_
                refine V_goto (pc := 121) (off := (-103)) (tgt := 18) hX (by decide) dX1_read_121 ?_
                refine V_cut [(0, some (.ref (E.1 (5, 0)))), (1, some (.ref (E.1 (1, z)))), (2, some (.long (abV 0 (D1.2.1 2 z) (k + 1)))), (4, some (.long (abV 0 (D1.2.1 3 z) (k + 1)))), (6, some (.int (oI ((k + 1 : Nat) : Int))))] ⟨rfl, rfl, rfl, rfl, rfl, trivial⟩ ?_
                exact ih (k + 1) _ (by omega) (g2.ext hne ((abV_same hA1 (by omega) hne).mp ⟨h64, h72⟩)) (by omega)
  refine V_aload_n (pc := 0) (j := 0) hX 0 rfl rfl dX1_read_0 ?_
  refine V_iconst (pc := 1) (z := 0) hX (oI 0) rfl dX1_read_1 ?_
  refine pf_X1_30 (pc := 2) hX dX1_read_2 ?_
  refine V_aload_n (pc := 5) (j := 0) hX 0 rfl rfl dX1_read_5 ?_
  refine V_iconst (pc := 6) (z := 0) hX (oI 0) rfl dX1_read_6 ?_
  refine pf_X1_34 (pc := 7) hX dX1_read_7 ?_
  refine V_lconst (pc := 10) (z := 0) hX 0 (by decide) dX1_read_10 ?_
  refine V_lstore_n (pc := 11) (j := 2) hX 2 rfl (by decide) rfl dX1_read_11 ?_
  refine V_lconst (pc := 12) (z := 0) hX 0 (by decide) dX1_read_12 ?_
  refine V_lstore (pc := 13) hX (by decide) rfl dX1_read_13 ?_
  refine V_iconst (pc := 15) (z := 0) hX (oI 0) rfl dX1_read_15 ?_
  refine V_istore (pc := 16) hX (by decide) rfl dX1_read_16 ?_
  refine V_cut [(0, some (.ref (E.1 (5, 0)))), (1, some (.ref (E.1 (1, z)))), (2, some (.long (abV 0 (D.2.1 2 z) 0))), (4, some (.long (abV 0 (D.2.1 3 z) 0))), (6, some (.int (oI ((0 : Nat) : Int))))] ⟨rfl, rfl, rfl, rfl, rfl, trivial⟩ ?_
  refine loop 121 0 _ (by omega) ⟨(FK_rU D (by omega) _).tr (FK_rU _ (by omega) _), ?_, ?_, ⟨Nat.zero_le 60, Nat.zero_le 300⟩, trivial⟩ (by omega)
  · rw [rU_get, upd_at, if_neg (by decide), rU_get, upd_at, if_pos rfl]; rfl
  · rw [rU_get, upd_at, if_pos rfl]; rfl
