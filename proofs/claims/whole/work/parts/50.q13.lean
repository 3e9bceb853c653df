/-! PARTS: spans that hang together -/
theorem spX_pw {p : Int → Bool} : ∀ (n : Nat) (x : Int), (61 - x).toNat ≤ n → (spX p x).Pairwise (fun u v => u.2 < v.1) := by
  intro n
  induction n with
  | zero => intro x h; rw [spX_0 (by omega)]; exact List.Pairwise.nil
  | succ n ih =>
    intro x h
    by_cases hx : x ≤ 59
    · have hg := rnX_ge p _ x (Nat.le_refl _)
      by_cases hr : x < rnX p x
      · rw [spX_t hx hr, List.pairwise_cons]
        refine ⟨fun v hv => ?_, ih (rnX p x + 1) (by omega)⟩
        have := (spX_mem n (rnX p x + 1) (by omega) v hv).1
        show rnX p x < v.1
        omega
      · rw [spX_f hx hr]; exact ih (rnX p x + 1) (by omega)
    · rw [spX_0 (by omega)]; exact List.Pairwise.nil
theorem bdX_pw {sm : Int → Int → Bool} {em : Int → Bool} : ∀ (n : Nat) (y : Int), (60 - y).toNat ≤ n → (bdX sm em y).Pairwise (fun q r => q.2 ≤ r.1) := by
  intro n
  induction n with
  | zero => intro y h; rw [bdX_0 (by omega)]; exact List.Pairwise.nil
  | succ n ih =>
    intro y h
    by_cases hy : y ≤ 59
    · have hg := rnX_ge (sm y) _ (y + 1) (Nat.le_refl _)
      have hi := ih (rnX (sm y) (y + 1)) (by omega)
      cases he : em y with
      | true => rw [bdX_t hy he]; exact hi
      | false =>
        rw [bdX_f hy he, List.pairwise_cons]
        exact ⟨fun q hq => (bdX_rng n (rnX (sm y) (y + 1)) (by omega) q hq).1, hi⟩
    · rw [bdX_0 (by omega)]; exact List.Pairwise.nil
def SpR (s t : Sp5) : Prop := (s.1 = t.1 ∧ s.2.1 = t.2.1 ∧ s.2.2.2 < t.2.2.1) ∨ (s.1 < t.1 ∧ s.2.1.2 ≤ t.2.1.1)
theorem flL_b {rp : Int → Int → Bool} : ∀ (L : List (Int × Int)) (b : Nat) (s : Sp5), s ∈ flL rp b L → b ≤ s.1
  | [], _, s, h => by rw [flL] at h; cases h
  | q :: r, b, s, h => by
    rw [flL, List.mem_append] at h
    rcases h with h | h
    · obtain ⟨u, hu, rfl⟩ := List.mem_map.mp h
      exact Nat.le_refl b
    · have := flL_b r (b + 1) s h
      omega
theorem flL_pw {rp : Int → Int → Bool} : ∀ (L : List (Int × Int)) (b : Nat), L.Pairwise (fun q r => q.2 ≤ r.1) → (flL rp b L).Pairwise SpR
  | [], _, _ => List.Pairwise.nil
  | q :: r, b, h => by
    rw [List.pairwise_cons] at h
    rw [flL, List.pairwise_append]
    refine ⟨List.pairwise_map.mpr ((spX_pw 121 (-60) (by omega)).imp (fun w => Or.inl ⟨rfl, rfl, w⟩)), flL_pw r (b + 1) h.2, fun s hs t ht => ?_⟩
    obtain ⟨u, hu, rfl⟩ := List.mem_map.mp hs
    have h1 := flL_b r (b + 1) t ht
    exact Or.inr ⟨h1, h.1 _ (flL_mem r (b + 1) t ht).1⟩
theorem sp_lt {S : Cl} {a b : Nat} (h : a < b) (hb : b < nsC S) : SpR (flG S a) (flG S b) := by
  have e : (flC S).length = nsC S := flL_len _ _ _
  have hp := List.pairwise_iff_getElem.mp (flL_pw (rp := rpC S) (bandsC S) 0 (bdX_pw 120 (-60) (by omega))) a b (by rw [show (flL (rpC S) 0 (bandsC S)).length = nsC S from e]; omega) (by rw [show (flL (rpC S) 0 (bandsC S)).length = nsC S from e]; omega) h
  have ea := flG_some (S := S) (k := a) (by omega)
  have eb := flG_some (S := S) (k := b) hb
  rw [List.getElem?_eq_getElem (by omega)] at ea eb
  rw [← Option.some.inj ea, ← Option.some.inj eb]
  exact hp
def inR (S : Cl) (k i j : Nat) : Prop := (spV S 0 k ≤ (i : Int) - 60 ∧ (i : Int) - 60 < spV S 1 k) ∧ spV S 2 k ≤ (j : Int) - 60 ∧ (j : Int) - 60 < spV S 3 k
theorem sp_dis {S : Cl} {a b i j x y : Nat} (h : a < b) (hb : b < nsC S) (h1 : inR S a i j) (h2 : inR S b x y) : ((flG S a).1 = (flG S b).1 ∧ i + 2 ≤ x) ∨ ((flG S a).1 < (flG S b).1 ∧ spV S 3 a ≤ spV S 2 b ∧ j < y) := by
  have hr := sp_lt h hb
  obtain ⟨⟨a1, a2⟩, a3, a4⟩ := h1
  obtain ⟨⟨b1, b2⟩, b3, b4⟩ := h2
  rw [spV_1] at a2
  rw [spV_0] at b1
  rw [spV_3] at a4
  rw [spV_2] at b3
  rcases hr with ⟨r1, r2, r3⟩ | ⟨r1, r2⟩
  · exact Or.inl ⟨r1, by omega⟩
  · exact Or.inr ⟨r1, r2, by omega⟩
theorem sp_uni {S : Cl} {a b i j : Nat} (ha : a < nsC S) (hb : b < nsC S) (h1 : inR S a i j) (h2 : inR S b i j) : a = b := by
  rcases Nat.lt_trichotomy a b with h | h | h
  · have := sp_dis h hb h1 h2; omega
  · exact h
  · have := sp_dis h ha h2 h1; omega
def ci (S : Cl) (k : Nat) : Nat := (spV S 0 k + 60).toNat
def cj (S : Cl) (k : Nat) : Nat := (spV S 2 k + 60).toNat
theorem ci_rg {S : Cl} {k : Nat} (hk : k < nsC S) : (ci S k < 120 ∧ cj S k < 120) ∧ inR S k (ci S k) (cj S k) ∧ ((ci S k : Int) = spV S 0 k + 60 ∧ (cj S k : Int) = spV S 2 k + 60) := by
  have h := sp_rg hk
  unfold ci cj inR
  omega
theorem Cn.rf (A : Cl) (p q : Nat) : Cn A p q p q := fun _ h _ => h
theorem Cn.sym {A : Cl} {p q i j : Nat} (hA : A p q = true) (h : Cn A p q i j) : Cn A i j p q := by
  intro U hU hC
  by_cases c : U p q = true
  · exact c
  · exfalso
    have hV := h (fun x y => A x y && !U x y) (by rw [hA, Bool.eq_false_iff.mpr c]; rfl) (fun x hx y hy hAx hn => by
      obtain ⟨x', y', ⟨hx', hy'⟩, hV', -, hadj⟩ := nb4_ex hn
      rw [Bool.and_eq_true, Bool.not_eq_true'] at hV'
      rw [Bool.and_eq_true, Bool.not_eq_true']
      refine ⟨hAx, Bool.eq_false_iff.mpr (fun hUx => ?_)⟩
      have := hC x' hx' y' hy' hV'.1 (nb4_at hx hy hUx (by omega))
      rw [hV'.2] at this; cases this)
    rw [Bool.and_eq_true, Bool.not_eq_true'] at hV
    rw [hV.2] at hU; cases hU
/-- the cells of a span hang together -/
theorem cn_rect {S : Cl} {k i j : Nat} (hk : k < nsC S) (h : inR S k i j) : Cn S (ci S k) (cj S k) i j := by
  obtain ⟨hr, hc, e1, e2⟩ := ci_rg hk
  have hg := sp_rg hk
  have h1 : ∀ t, ((ci S k + t : Nat) : Int) - 60 < spV S 1 k → Cn S (ci S k) (cj S k) (ci S k + t) (cj S k) := by
    intro t
    induction t with
    | zero => exact fun _ => Cn.rf S _ _
    | succ t ih =>
      intro ht
      refine (ih (by omega)).nb (by omega) (by omega) (sp_in hk (by omega) (by omega) (by omega)) (fun U hU => nb4_at (by omega) (by omega) hU (by omega))
  have h2 : ∀ t, ((cj S k + t : Nat) : Int) - 60 < spV S 3 k → ∀ i, inR S k i (cj S k) → Cn S i (cj S k) i (cj S k + t) := by
    intro t
    induction t with
    | zero => exact fun _ i _ => Cn.rf S _ _
    | succ t ih =>
      intro ht i hi
      unfold inR at hi
      exact (ih (by omega) i hi).nb (by omega) (by omega) (sp_in hk (by omega) (by omega) (by omega)) (fun U hU => nb4_at (by omega) (by omega) hU (by omega))
  unfold inR at h
  have q1 := h1 (i - ci S k) (by omega)
  rw [show ci S k + (i - ci S k) = i by omega] at q1
  have q2 := h2 (j - cj S k) (by omega) i (by unfold inR; omega)
  rw [show cj S k + (j - cj S k) = j by omega] at q2
  exact q1.tr q2
def Lk (S : Cl) (a b : Nat) : Prop := Cn S (ci S a) (cj S a) (ci S b) (cj S b)
theorem ci_in {S : Cl} {k : Nat} (hk : k < nsC S) : S (ci S k) (cj S k) = true := by
  obtain ⟨hr, hc, -⟩ := ci_rg hk
  exact sp_in hk hr.1 hr.2 hc
theorem Lk.sym {S : Cl} {a b : Nat} (ha : a < nsC S) (h : Lk S a b) : Lk S b a := Cn.sym (ci_in ha) h
theorem inR_in {S : Cl} {k i j : Nat} (hk : k < nsC S) (h : inR S k i j) : S i j = true ∧ i < 120 ∧ j < 120 := by
  have hg := sp_rg hk
  unfold inR at h
  exact ⟨sp_in hk (by omega) (by omega) h, by omega, by omega⟩
theorem Lk_cells {S : Cl} {a b i j x y : Nat} (ha : a < nsC S) (hb : b < nsC S) (h1 : inR S a i j) (h2 : inR S b x y) (h : Cn S i j x y) : Lk S a b :=
  (cn_rect ha h1).tr (h.tr (Cn.sym (ci_in hb) (cn_rect hb h2)))
theorem cells_Lk {S : Cl} {a b i j x y : Nat} (ha : a < nsC S) (hb : b < nsC S) (h1 : inR S a i j) (h2 : inR S b x y) (h : Lk S a b) : Cn S i j x y :=
  (Cn.sym (ci_in ha) (cn_rect ha h1)).tr (h.tr (cn_rect hb h2))
/-- one span lies upon another -/
def tch (S : Cl) (a b : Nat) : Prop := (flG S a).1 + 1 = (flG S b).1 ∧ spV S 3 a = spV S 2 b ∧ spV S 0 a < spV S 1 b ∧ spV S 0 b < spV S 1 a
theorem tch_lk {S : Cl} {a b : Nat} (ha : a < nsC S) (hb : b < nsC S) (h : tch S a b) : Lk S a b := by
  have ga := sp_rg ha
  have gb := sp_rg hb
  obtain ⟨-, h2, h3, h4⟩ := h
  have ia : inR S a (max (spV S 0 a) (spV S 0 b) + 60).toNat (spV S 3 a - 1 + 60).toNat := by unfold inR; omega
  have ib : inR S b (max (spV S 0 a) (spV S 0 b) + 60).toNat (spV S 2 b + 60).toNat := by unfold inR; omega
  have qb := inR_in hb ib
  exact Lk_cells ha hb ia ib ((Cn.rf S _ _).nb qb.2.1 qb.2.2 qb.1 (fun U hU => nb4_at (by omega) (by omega) hU (by omega)))
/-! bands by their places -/
theorem nsL_take {rp : Int → Int → Bool} : ∀ (L : List (Int × Int)) (c : Nat) (q : Int × Int), L[c]? = some q → nsL rp (L.take (c + 1)) = nsL rp (L.take c) + (spX (rp q.1) (-60)).length
  | [], c, q, h => by rw [List.getElem?_nil] at h; cases h
  | p :: r, 0, q, h => by
    rw [List.getElem?_cons_zero] at h
    cases h
    rw [List.take_succ_cons, List.take_zero, List.take_zero, nsL_cons]
    show _ + 0 = 0 + _
    omega
  | p :: r, c + 1, q, h => by
    rw [List.getElem?_cons_succ] at h
    rw [List.take_succ_cons, List.take_succ_cons, nsL_cons, nsL_cons, nsL_take r c q h]
    omega
theorem nsL_mono {rp : Int → Int → Bool} (L : List (Int × Int)) : ∀ (m c : Nat), nsL rp (L.take c) ≤ nsL rp (L.take (c + m))
  | 0, c => Nat.le_refl _
  | m + 1, c => by
    have ih := nsL_mono (rp := rp) L m c
    cases h : L[c + m]? with
    | none =>
      have hl : L.length ≤ c + m := List.getElem?_eq_none_iff.mp h
      rw [show L.take (c + (m + 1)) = L.take (c + m) by rw [List.take_of_length_le hl, List.take_of_length_le (by omega)]]
      exact ih
    | some q =>
      have := nsL_take (rp := rp) L (c + m) q h
      rw [show c + (m + 1) = c + m + 1 by omega]
      omega
theorem flL_ix {rp : Int → Int → Bool} : ∀ (L : List (Int × Int)) (b i : Nat) (s : Sp5), (flL rp b L)[i]? = some s → b ≤ s.1 ∧ L[s.1 - b]? = some s.2.1 ∧ nsL rp (L.take (s.1 - b)) ≤ i ∧ i < nsL rp (L.take (s.1 - b)) + (spX (rp s.2.1.1) (-60)).length
  | [], _, i, s, h => by rw [flL, List.getElem?_nil] at h; cases h
  | q :: r, b, i, s, h => by
    rw [flL] at h
    by_cases c : i < ((spX (rp q.1) (-60)).map (fun u => ((b, q, u) : Sp5))).length
    · rw [List.getElem?_append_left c, List.getElem?_map] at h
      rw [List.length_map] at c
      cases hu : (spX (rp q.1) (-60))[i]? with
      | none => rw [hu] at h; cases h
      | some u =>
        rw [hu] at h
        cases h
        refine ⟨Nat.le_refl b, ?_, ?_, ?_⟩
        · show (q :: r)[b - b]? = some q
          rw [Nat.sub_self]; rfl
        · show nsL rp ((q :: r).take (b - b)) ≤ i
          rw [Nat.sub_self]; exact Nat.zero_le i
        · show i < nsL rp ((q :: r).take (b - b)) + (spX (rp q.1) (-60)).length
          rw [Nat.sub_self]
          show i < 0 + _
          omega
    · rw [List.getElem?_append_right (by omega), List.length_map] at h
      rw [List.length_map] at c
      obtain ⟨h1, h2, h3, h4⟩ := flL_ix r (b + 1) (i - (spX (rp q.1) (-60)).length) s h
      have e : s.1 - b = (s.1 - (b + 1)) + 1 := by omega
      refine ⟨by omega, ?_, ?_, ?_⟩
      · rw [e, List.getElem?_cons_succ]; exact h2
      · rw [e, List.take_succ_cons, nsL_cons]; omega
      · rw [e, List.take_succ_cons, nsL_cons]; omega
def Fc (S : Cl) (c : Nat) : Nat := nsL (rpC S) ((bandsC S).take c)
theorem Fc_mono {S : Cl} {c e : Nat} (h : c ≤ e) : Fc S c ≤ Fc S e := by
  have := nsL_mono (rp := rpC S) (bandsC S) (e - c) c
  rw [show c + (e - c) = e by omega] at this
  exact this
theorem Fc_le (S : Cl) (c : Nat) : Fc S c ≤ nsC S := by
  have h := nsL_mono (rp := rpC S) (bandsC S) (bandsC S).length c
  rw [List.take_of_length_le (i := c + (bandsC S).length) (by omega)] at h
  exact h
/-- the band of a span -/
theorem bnd_at {S : Cl} {k : Nat} (hk : k < nsC S) : (bandsC S)[(flG S k).1]? = some (flG S k).2.1 ∧ Fc S (flG S k).1 ≤ k ∧ k < Fc S ((flG S k).1 + 1) := by
  have h := flL_ix (bandsC S) 0 k _ (flG_some hk)
  rw [Nat.sub_zero] at h
  refine ⟨h.2.1, h.2.2.1, ?_⟩
  rw [Fc, nsL_take _ _ _ h.2.1]
  exact h.2.2.2
theorem bnd_uni {S : Cl} {k c : Nat} (hk : k < nsC S) (h1 : Fc S c ≤ k) (h2 : k < Fc S (c + 1)) : (flG S k).1 = c := by
  obtain ⟨-, h3, h4⟩ := bnd_at hk
  rcases Nat.lt_trichotomy (flG S k).1 c with h | h | h
  · have := Fc_mono (S := S) (show (flG S k).1 + 1 ≤ c by omega); omega
  · exact h
  · have := Fc_mono (S := S) (show c + 1 ≤ (flG S k).1 by omega); omega
theorem HB_bd {D : Dt} {rp : Int → Int → Bool} : ∀ (L : List (Int × Int)) (b k : Nat), HB D rp b k L → ∀ c q, L[c]? = some q → D.1 6 (b + c) = oI q.1 ∧ D.1 7 (b + c) = oI q.2 ∧ D.1 8 (b + c) = oI ((k + nsL rp (L.take c) : Nat) : Int)
  | [], _, _, _, c, q, h => by rw [List.getElem?_nil] at h; cases h
  | p :: r, b, k, hB, 0, q, h => by
    rw [List.getElem?_cons_zero] at h
    cases h
    exact hB.1
  | p :: r, b, k, hB, c + 1, q, h => by
    rw [List.getElem?_cons_succ] at h
    have ih := HB_bd r (b + 1) _ hB.2.2 c q h
    rw [show b + (c + 1) = b + 1 + c by omega, List.take_succ_cons, nsL_cons, ← Nat.add_assoc]
    exact ih
theorem FormP.bd {D : Dt} {S : Cl} (h : FormP D S) {c : Nat} {q : Int × Int} (hc : (bandsC S)[c]? = some q) : D.1 6 c = oI q.1 ∧ D.1 7 c = oI q.2 ∧ D.1 8 c = oI (Fc S c : Int) := by
  have := HB_bd (bandsC S) 0 0 h.2.2.2 c q hc
  rw [Nat.zero_add, Nat.zero_add] at this
  exact this
theorem bd_rg {S : Cl} {c : Nat} {q : Int × Int} (hc : (bandsC S)[c]? = some q) : -60 ≤ q.1 ∧ q.1 < q.2 ∧ q.2 ≤ 60 := bdX_rng 120 (-60) (by omega) q (List.mem_of_getElem? hc)
/-- cells side by side are of one span, or one lies upon the other -/
theorem adj_lt {S : Cl} {a b i j x y : Nat} (h : a < b) (hb : b < nsC S) (h1 : inR S a i j) (h2 : inR S b x y) (hadj : (x = i ∧ y = j) ∨ (x + 1 = i ∧ y = j) ∨ (x = i + 1 ∧ y = j) ∨ (x = i ∧ y + 1 = j) ∨ (x = i ∧ y = j + 1)) : tch S a b := by
  have ha : a < nsC S := by omega
  have hd := sp_dis h hb h1 h2
  have hl := sp_lt h hb
  rcases hd with hd | ⟨d1, d2, d3⟩
  · exfalso
    obtain ⟨d1, d2⟩ := hd
    omega
  · unfold inR at h1 h2
    have hyb : spV S 3 a = spV S 2 b := by omega
    refine ⟨?_, hyb, by omega, by omega⟩
    by_cases c : (flG S a).1 + 1 = (flG S b).1
    · exact c
    · exfalso
      obtain ⟨qa, -, -⟩ := bnd_at ha
      obtain ⟨qb, -, -⟩ := bnd_at hb
      have lb := (List.getElem?_eq_some_iff.mp qb).1
      have hq := List.getElem?_eq_getElem (l := bandsC S) (i := (flG S a).1 + 1) (by omega)
      obtain ⟨q, hq2⟩ : ∃ q, (bandsC S)[(flG S a).1 + 1]? = some q := ⟨_, hq⟩
      have hpw : (bandsC S).Pairwise (fun q r => q.2 ≤ r.1) := bdX_pw 120 (-60) (by omega)
      have hp := List.pairwise_iff_getElem.mp hpw
      have p1 := hp (flG S a).1 ((flG S a).1 + 1) (by omega) (by omega) (by omega)
      have p2 := hp ((flG S a).1 + 1) (flG S b).1 (by omega) lb (by omega)
      have e1 := (List.getElem?_eq_some_iff.mp qa).2
      have e2 := (List.getElem?_eq_some_iff.mp qb).2
      have e3 := (List.getElem?_eq_some_iff.mp hq2).2
      rw [e1, e3] at p1
      rw [e2, e3] at p2
      have hr := bd_rg hq2
      rw [spV_3, spV_2] at hyb
      omega
